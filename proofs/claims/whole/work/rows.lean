section
-- ===== PART A: goes FIRST, ahead of the names: the tables' words, and 'selects' of the private methods out of them =====
/-- a private method of a class that the tables say can be made, by its rows of tables_1 -/
def lw_okq (q : MethodName × Nat) : Prop := (q.1.cls ≠ "java/lang/invoke/MethodHandle" ∧ q.1.cls ≠ "java/lang/invoke/VarHandle") ∧ Cond.instantiable q.1.cls q.2 ∈ tables_1 ∧ Cond.privateMethod q.1 ∈ tables_1 ∧ Cond.instanceMethod q.1 ∈ tables_1
theorem lw_p0 : lw_okq (⟨"GesturePidgin", "refusalOfChat", "(I)I"⟩, 4) := ⟨⟨by decide +kernel, by decide +kernel⟩, List.mem_of_getElem? (i := 10) (by decide +kernel), List.mem_of_getElem? (i := 277) (by decide +kernel), List.mem_of_getElem? (i := 278) (by decide +kernel)⟩
theorem lw_p1 : lw_okq (⟨"GesturePidgin$Village", "passYear", "()V"⟩, 8) := ⟨⟨by decide +kernel, by decide +kernel⟩, List.mem_of_getElem? (i := 18) (by decide +kernel), List.mem_of_getElem? (i := 300) (by decide +kernel), List.mem_of_getElem? (i := 301) (by decide +kernel)⟩
theorem lw_p2 : lw_okq (⟨"GesturePidgin$Village", "teacherFor", "(I)LGesturePidgin$Speaker;"⟩, 8) := ⟨⟨by decide +kernel, by decide +kernel⟩, List.mem_of_getElem? (i := 18) (by decide +kernel), List.mem_of_getElem? (i := 304) (by decide +kernel), List.mem_of_getElem? (i := 305) (by decide +kernel)⟩
theorem lw_p3 : lw_okq (⟨"GesturePidgin$Village", "sumOfWeights", "()I"⟩, 8) := ⟨⟨by decide +kernel, by decide +kernel⟩, List.mem_of_getElem? (i := 18) (by decide +kernel), List.mem_of_getElem? (i := 317) (by decide +kernel), List.mem_of_getElem? (i := 318) (by decide +kernel)⟩
theorem lw_p4 : lw_okq (⟨"GesturePidgin$Village", "countUsers", "(I)V"⟩, 8) := ⟨⟨by decide +kernel, by decide +kernel⟩, List.mem_of_getElem? (i := 18) (by decide +kernel), List.mem_of_getElem? (i := 396) (by decide +kernel), List.mem_of_getElem? (i := 397) (by decide +kernel)⟩
theorem lw_p5 : lw_okq (⟨"GesturePidgin$HabitText", "signAt", "(I)I"⟩, 2) := ⟨⟨by decide +kernel, by decide +kernel⟩, List.mem_of_getElem? (i := 95) (by decide +kernel), List.mem_of_getElem? (i := 435) (by decide +kernel), List.mem_of_getElem? (i := 436) (by decide +kernel)⟩
theorem lw_p6 : lw_okq (⟨"GesturePidgin$HabitText", "digitAt", "(I)I"⟩, 2) := ⟨⟨by decide +kernel, by decide +kernel⟩, List.mem_of_getElem? (i := 95) (by decide +kernel), List.mem_of_getElem? (i := 462) (by decide +kernel), List.mem_of_getElem? (i := 463) (by decide +kernel)⟩
theorem lw_p7 : lw_okq (⟨"GesturePidgin$HabitText", "giveHabit", "(LGesturePidgin$Speaker;II)V"⟩, 2) := ⟨⟨by decide +kernel, by decide +kernel⟩, List.mem_of_getElem? (i := 95) (by decide +kernel), List.mem_of_getElem? (i := 467) (by decide +kernel), List.mem_of_getElem? (i := 468) (by decide +kernel)⟩
theorem lw_p8 : lw_okq (⟨"GesturePidgin", "withSpeaker", "(JI)J"⟩, 4) := ⟨⟨by decide +kernel, by decide +kernel⟩, List.mem_of_getElem? (i := 10) (by decide +kernel), List.mem_of_getElem? (i := 492) (by decide +kernel), List.mem_of_getElem? (i := 493) (by decide +kernel)⟩
theorem lw_p9 : lw_okq (⟨"GesturePidgin", "withPairsOf", "(JI)J"⟩, 4) := ⟨⟨by decide +kernel, by decide +kernel⟩, List.mem_of_getElem? (i := 10) (by decide +kernel), List.mem_of_getElem? (i := 496) (by decide +kernel), List.mem_of_getElem? (i := 497) (by decide +kernel)⟩
theorem lw_p10 : lw_okq (⟨"GesturePidginModel", "whyNotMet", "(III)I"⟩, 13) := ⟨⟨by decide +kernel, by decide +kernel⟩, List.mem_of_getElem? (i := 500) (by decide +kernel), List.mem_of_getElem? (i := 550) (by decide +kernel), List.mem_of_getElem? (i := 551) (by decide +kernel)⟩
theorem lw_p11 : lw_okq (⟨"GesturePidginModel", "isSpeaker", "(I)Z"⟩, 13) := ⟨⟨by decide +kernel, by decide +kernel⟩, List.mem_of_getElem? (i := 500) (by decide +kernel), List.mem_of_getElem? (i := 554) (by decide +kernel), List.mem_of_getElem? (i := 555) (by decide +kernel)⟩
theorem lw_p12 : lw_okq (⟨"GesturePidginModel", "part", "(II)I"⟩, 13) := ⟨⟨by decide +kernel, by decide +kernel⟩, List.mem_of_getElem? (i := 500) (by decide +kernel), List.mem_of_getElem? (i := 561) (by decide +kernel), List.mem_of_getElem? (i := 562) (by decide +kernel)⟩
theorem lw_p13 : lw_okq (⟨"GesturePidginModel", "record", "()V"⟩, 13) := ⟨⟨by decide +kernel, by decide +kernel⟩, List.mem_of_getElem? (i := 500) (by decide +kernel), List.mem_of_getElem? (i := 568) (by decide +kernel), List.mem_of_getElem? (i := 569) (by decide +kernel)⟩
theorem lw_p14 : lw_okq (⟨"GesturePidginModel", "meets", "(III)Z"⟩, 13) := ⟨⟨by decide +kernel, by decide +kernel⟩, List.mem_of_getElem? (i := 500) (by decide +kernel), List.mem_of_getElem? (i := 575) (by decide +kernel), List.mem_of_getElem? (i := 576) (by decide +kernel)⟩
theorem lw_p15 : lw_okq (⟨"GesturePidginModel", "wordFor", "(II)I"⟩, 13) := ⟨⟨by decide +kernel, by decide +kernel⟩, List.mem_of_getElem? (i := 500) (by decide +kernel), List.mem_of_getElem? (i := 579) (by decide +kernel), List.mem_of_getElem? (i := 580) (by decide +kernel)⟩
def lw_privs_1 : List (MethodName × Nat) := [(⟨"GesturePidgin", "refusalOfChat", "(I)I"⟩, 4), (⟨"GesturePidgin$Village", "passYear", "()V"⟩, 8), (⟨"GesturePidgin$Village", "teacherFor", "(I)LGesturePidgin$Speaker;"⟩, 8), (⟨"GesturePidgin$Village", "sumOfWeights", "()I"⟩, 8), (⟨"GesturePidgin$Village", "countUsers", "(I)V"⟩, 8), (⟨"GesturePidgin$HabitText", "signAt", "(I)I"⟩, 2), (⟨"GesturePidgin$HabitText", "digitAt", "(I)I"⟩, 2), (⟨"GesturePidgin$HabitText", "giveHabit", "(LGesturePidgin$Speaker;II)V"⟩, 2), (⟨"GesturePidgin", "withSpeaker", "(JI)J"⟩, 4), (⟨"GesturePidgin", "withPairsOf", "(JI)J"⟩, 4), (⟨"GesturePidginModel", "whyNotMet", "(III)I"⟩, 13), (⟨"GesturePidginModel", "isSpeaker", "(I)Z"⟩, 13), (⟨"GesturePidginModel", "part", "(II)I"⟩, 13), (⟨"GesturePidginModel", "record", "()V"⟩, 13), (⟨"GesturePidginModel", "meets", "(III)Z"⟩, 13), (⟨"GesturePidginModel", "wordFor", "(II)I"⟩, 13)]
theorem lw_r1 : ∀ q ∈ lw_privs_1, lw_okq q := List.forall_mem_cons.mpr ⟨lw_p0, List.forall_mem_cons.mpr ⟨lw_p1, List.forall_mem_cons.mpr ⟨lw_p2, List.forall_mem_cons.mpr ⟨lw_p3, List.forall_mem_cons.mpr ⟨lw_p4, List.forall_mem_cons.mpr ⟨lw_p5, List.forall_mem_cons.mpr ⟨lw_p6, List.forall_mem_cons.mpr ⟨lw_p7, List.forall_mem_cons.mpr ⟨lw_p8, List.forall_mem_cons.mpr ⟨lw_p9, List.forall_mem_cons.mpr ⟨lw_p10, List.forall_mem_cons.mpr ⟨lw_p11, List.forall_mem_cons.mpr ⟨lw_p12, List.forall_mem_cons.mpr ⟨lw_p13, List.forall_mem_cons.mpr ⟨lw_p14, List.forall_mem_cons.mpr ⟨lw_p15, fun _ h => absurd h List.not_mem_nil⟩⟩⟩⟩⟩⟩⟩⟩⟩⟩⟩⟩⟩⟩⟩⟩
theorem lw_p16 : lw_okq (⟨"GesturePidginModel", "weightOf", "(III)I"⟩, 13) := ⟨⟨by decide +kernel, by decide +kernel⟩, List.mem_of_getElem? (i := 500) (by decide +kernel), List.mem_of_getElem? (i := 583) (by decide +kernel), List.mem_of_getElem? (i := 584) (by decide +kernel)⟩
theorem lw_p17 : lw_okq (⟨"GesturePidginModel", "draws", "(I)I"⟩, 13) := ⟨⟨by decide +kernel, by decide +kernel⟩, List.mem_of_getElem? (i := 500) (by decide +kernel), List.mem_of_getElem? (i := 590) (by decide +kernel), List.mem_of_getElem? (i := 591) (by decide +kernel)⟩
theorem lw_p18 : lw_okq (⟨"GesturePidginModel", "heardAs", "(II)I"⟩, 13) := ⟨⟨by decide +kernel, by decide +kernel⟩, List.mem_of_getElem? (i := 500) (by decide +kernel), List.mem_of_getElem? (i := 595) (by decide +kernel), List.mem_of_getElem? (i := 596) (by decide +kernel)⟩
theorem lw_p19 : lw_okq (⟨"GesturePidginModel", "strengthens", "(III)V"⟩, 13) := ⟨⟨by decide +kernel, by decide +kernel⟩, List.mem_of_getElem? (i := 500) (by decide +kernel), List.mem_of_getElem? (i := 599) (by decide +kernel), List.mem_of_getElem? (i := 600) (by decide +kernel)⟩
theorem lw_p20 : lw_okq (⟨"GesturePidginModel", "learns", "(I)I"⟩, 13) := ⟨⟨by decide +kernel, by decide +kernel⟩, List.mem_of_getElem? (i := 500) (by decide +kernel), List.mem_of_getElem? (i := 603) (by decide +kernel), List.mem_of_getElem? (i := 604) (by decide +kernel)⟩
theorem lw_p21 : lw_okq (⟨"GesturePidginModel", "changes", "(IIII)V"⟩, 13) := ⟨⟨by decide +kernel, by decide +kernel⟩, List.mem_of_getElem? (i := 500) (by decide +kernel), List.mem_of_getElem? (i := 607) (by decide +kernel), List.mem_of_getElem? (i := 608) (by decide +kernel)⟩
theorem lw_p22 : lw_okq (⟨"GesturePidginModel", "setPart", "(III)V"⟩, 13) := ⟨⟨by decide +kernel, by decide +kernel⟩, List.mem_of_getElem? (i := 500) (by decide +kernel), List.mem_of_getElem? (i := 611) (by decide +kernel), List.mem_of_getElem? (i := 612) (by decide +kernel)⟩
theorem lw_p23 : lw_okq (⟨"GesturePidginModel", "whyNotChat", "(I)I"⟩, 13) := ⟨⟨by decide +kernel, by decide +kernel⟩, List.mem_of_getElem? (i := 500) (by decide +kernel), List.mem_of_getElem? (i := 619) (by decide +kernel), List.mem_of_getElem? (i := 620) (by decide +kernel)⟩
theorem lw_p24 : lw_okq (⟨"GesturePidginModel", "speakers", "()I"⟩, 13) := ⟨⟨by decide +kernel, by decide +kernel⟩, List.mem_of_getElem? (i := 500) (by decide +kernel), List.mem_of_getElem? (i := 623) (by decide +kernel), List.mem_of_getElem? (i := 624) (by decide +kernel)⟩
theorem lw_p25 : lw_okq (⟨"GesturePidginModel", "chats", "(I)I"⟩, 13) := ⟨⟨by decide +kernel, by decide +kernel⟩, List.mem_of_getElem? (i := 500) (by decide +kernel), List.mem_of_getElem? (i := 627) (by decide +kernel), List.mem_of_getElem? (i := 628) (by decide +kernel)⟩
theorem lw_p26 : lw_okq (⟨"GesturePidginModel", "speakerAt", "(II)I"⟩, 13) := ⟨⟨by decide +kernel, by decide +kernel⟩, List.mem_of_getElem? (i := 500) (by decide +kernel), List.mem_of_getElem? (i := 631) (by decide +kernel), List.mem_of_getElem? (i := 632) (by decide +kernel)⟩
theorem lw_p27 : lw_okq (⟨"GesturePidginModel", "passesYear", "()V"⟩, 13) := ⟨⟨by decide +kernel, by decide +kernel⟩, List.mem_of_getElem? (i := 500) (by decide +kernel), List.mem_of_getElem? (i := 639) (by decide +kernel), List.mem_of_getElem? (i := 640) (by decide +kernel)⟩
theorem lw_p28 : lw_okq (⟨"GesturePidginModel", "isBorn", "(I)V"⟩, 13) := ⟨⟨by decide +kernel, by decide +kernel⟩, List.mem_of_getElem? (i := 500) (by decide +kernel), List.mem_of_getElem? (i := 643) (by decide +kernel), List.mem_of_getElem? (i := 644) (by decide +kernel)⟩
theorem lw_p29 : lw_okq (⟨"GesturePidginModel", "teacherOf", "(I)I"⟩, 13) := ⟨⟨by decide +kernel, by decide +kernel⟩, List.mem_of_getElem? (i := 500) (by decide +kernel), List.mem_of_getElem? (i := 647) (by decide +kernel), List.mem_of_getElem? (i := 648) (by decide +kernel)⟩
theorem lw_p30 : lw_okq (⟨"GesturePidginModel", "countOf", "(I)I"⟩, 13) := ⟨⟨by decide +kernel, by decide +kernel⟩, List.mem_of_getElem? (i := 500) (by decide +kernel), List.mem_of_getElem? (i := 686) (by decide +kernel), List.mem_of_getElem? (i := 687) (by decide +kernel)⟩
theorem lw_p31 : lw_okq (⟨"GesturePidginModel", "allWeights", "()I"⟩, 13) := ⟨⟨by decide +kernel, by decide +kernel⟩, List.mem_of_getElem? (i := 500) (by decide +kernel), List.mem_of_getElem? (i := 690) (by decide +kernel), List.mem_of_getElem? (i := 691) (by decide +kernel)⟩
def lw_privs_2 : List (MethodName × Nat) := [(⟨"GesturePidginModel", "weightOf", "(III)I"⟩, 13), (⟨"GesturePidginModel", "draws", "(I)I"⟩, 13), (⟨"GesturePidginModel", "heardAs", "(II)I"⟩, 13), (⟨"GesturePidginModel", "strengthens", "(III)V"⟩, 13), (⟨"GesturePidginModel", "learns", "(I)I"⟩, 13), (⟨"GesturePidginModel", "changes", "(IIII)V"⟩, 13), (⟨"GesturePidginModel", "setPart", "(III)V"⟩, 13), (⟨"GesturePidginModel", "whyNotChat", "(I)I"⟩, 13), (⟨"GesturePidginModel", "speakers", "()I"⟩, 13), (⟨"GesturePidginModel", "chats", "(I)I"⟩, 13), (⟨"GesturePidginModel", "speakerAt", "(II)I"⟩, 13), (⟨"GesturePidginModel", "passesYear", "()V"⟩, 13), (⟨"GesturePidginModel", "isBorn", "(I)V"⟩, 13), (⟨"GesturePidginModel", "teacherOf", "(I)I"⟩, 13), (⟨"GesturePidginModel", "countOf", "(I)I"⟩, 13), (⟨"GesturePidginModel", "allWeights", "()I"⟩, 13)]
theorem lw_r2 : ∀ q ∈ lw_privs_2, lw_okq q := List.forall_mem_cons.mpr ⟨lw_p16, List.forall_mem_cons.mpr ⟨lw_p17, List.forall_mem_cons.mpr ⟨lw_p18, List.forall_mem_cons.mpr ⟨lw_p19, List.forall_mem_cons.mpr ⟨lw_p20, List.forall_mem_cons.mpr ⟨lw_p21, List.forall_mem_cons.mpr ⟨lw_p22, List.forall_mem_cons.mpr ⟨lw_p23, List.forall_mem_cons.mpr ⟨lw_p24, List.forall_mem_cons.mpr ⟨lw_p25, List.forall_mem_cons.mpr ⟨lw_p26, List.forall_mem_cons.mpr ⟨lw_p27, List.forall_mem_cons.mpr ⟨lw_p28, List.forall_mem_cons.mpr ⟨lw_p29, List.forall_mem_cons.mpr ⟨lw_p30, List.forall_mem_cons.mpr ⟨lw_p31, fun _ h => absurd h List.not_mem_nil⟩⟩⟩⟩⟩⟩⟩⟩⟩⟩⟩⟩⟩⟩⟩⟩
theorem lw_p32 : lw_okq (⟨"GesturePidginModel", "ofSpeaker", "(II)I"⟩, 13) := ⟨⟨by decide +kernel, by decide +kernel⟩, List.mem_of_getElem? (i := 500) (by decide +kernel), List.mem_of_getElem? (i := 706) (by decide +kernel), List.mem_of_getElem? (i := 707) (by decide +kernel)⟩
theorem lw_p33 : lw_okq (⟨"GesturePidginModel", "wordsOf", "(I)I"⟩, 13) := ⟨⟨by decide +kernel, by decide +kernel⟩, List.mem_of_getElem? (i := 500) (by decide +kernel), List.mem_of_getElem? (i := 710) (by decide +kernel), List.mem_of_getElem? (i := 711) (by decide +kernel)⟩
theorem lw_p34 : lw_okq (⟨"GesturePidginModel", "confusions", "(I)I"⟩, 13) := ⟨⟨by decide +kernel, by decide +kernel⟩, List.mem_of_getElem? (i := 500) (by decide +kernel), List.mem_of_getElem? (i := 714) (by decide +kernel), List.mem_of_getElem? (i := 715) (by decide +kernel)⟩
theorem lw_p35 : lw_okq (⟨"GesturePidginModel", "agreements", "(II)I"⟩, 13) := ⟨⟨by decide +kernel, by decide +kernel⟩, List.mem_of_getElem? (i := 500) (by decide +kernel), List.mem_of_getElem? (i := 734) (by decide +kernel), List.mem_of_getElem? (i := 735) (by decide +kernel)⟩
theorem lw_p36 : lw_okq (⟨"GesturePidginModel", "understood", "(II)I"⟩, 13) := ⟨⟨by decide +kernel, by decide +kernel⟩, List.mem_of_getElem? (i := 500) (by decide +kernel), List.mem_of_getElem? (i := 742) (by decide +kernel), List.mem_of_getElem? (i := 743) (by decide +kernel)⟩
theorem lw_p37 : lw_okq (⟨"GesturePidginModel", "commonOf", "(I)I"⟩, 13) := ⟨⟨by decide +kernel, by decide +kernel⟩, List.mem_of_getElem? (i := 500) (by decide +kernel), List.mem_of_getElem? (i := 750) (by decide +kernel), List.mem_of_getElem? (i := 751) (by decide +kernel)⟩
theorem lw_p38 : lw_okq (⟨"GesturePidginModel", "findError", "()I"⟩, 13) := ⟨⟨by decide +kernel, by decide +kernel⟩, List.mem_of_getElem? (i := 500) (by decide +kernel), List.mem_of_getElem? (i := 778) (by decide +kernel), List.mem_of_getElem? (i := 779) (by decide +kernel)⟩
theorem lw_p39 : lw_okq (⟨"GesturePidginModel", "readsHabit", "()Z"⟩, 13) := ⟨⟨by decide +kernel, by decide +kernel⟩, List.mem_of_getElem? (i := 500) (by decide +kernel), List.mem_of_getElem? (i := 782) (by decide +kernel), List.mem_of_getElem? (i := 783) (by decide +kernel)⟩
theorem lw_p40 : lw_okq (⟨"GesturePidginModel", "readsDigit", "(I)Z"⟩, 13) := ⟨⟨by decide +kernel, by decide +kernel⟩, List.mem_of_getElem? (i := 500) (by decide +kernel), List.mem_of_getElem? (i := 786) (by decide +kernel), List.mem_of_getElem? (i := 787) (by decide +kernel)⟩
theorem lw_p41 : lw_okq (⟨"GesturePidginModel", "character", "(I)I"⟩, 13) := ⟨⟨by decide +kernel, by decide +kernel⟩, List.mem_of_getElem? (i := 500) (by decide +kernel), List.mem_of_getElem? (i := 790) (by decide +kernel), List.mem_of_getElem? (i := 791) (by decide +kernel)⟩
theorem lw_p42 : lw_okq (⟨"GesturePidginModel", "isNext", "(I)Z"⟩, 13) := ⟨⟨by decide +kernel, by decide +kernel⟩, List.mem_of_getElem? (i := 500) (by decide +kernel), List.mem_of_getElem? (i := 794) (by decide +kernel), List.mem_of_getElem? (i := 795) (by decide +kernel)⟩
theorem lw_p43 : lw_okq (⟨"GesturePidginModel", "readsWord", "()Z"⟩, 13) := ⟨⟨by decide +kernel, by decide +kernel⟩, List.mem_of_getElem? (i := 500) (by decide +kernel), List.mem_of_getElem? (i := 798) (by decide +kernel), List.mem_of_getElem? (i := 799) (by decide +kernel)⟩
theorem lw_p44 : lw_okq (⟨"GesturePidginModel", "isGesture", "()Z"⟩, 13) := ⟨⟨by decide +kernel, by decide +kernel⟩, List.mem_of_getElem? (i := 500) (by decide +kernel), List.mem_of_getElem? (i := 802) (by decide +kernel), List.mem_of_getElem? (i := 803) (by decide +kernel)⟩
def lw_privs_3 : List (MethodName × Nat) := [(⟨"GesturePidginModel", "ofSpeaker", "(II)I"⟩, 13), (⟨"GesturePidginModel", "wordsOf", "(I)I"⟩, 13), (⟨"GesturePidginModel", "confusions", "(I)I"⟩, 13), (⟨"GesturePidginModel", "agreements", "(II)I"⟩, 13), (⟨"GesturePidginModel", "understood", "(II)I"⟩, 13), (⟨"GesturePidginModel", "commonOf", "(I)I"⟩, 13), (⟨"GesturePidginModel", "findError", "()I"⟩, 13), (⟨"GesturePidginModel", "readsHabit", "()Z"⟩, 13), (⟨"GesturePidginModel", "readsDigit", "(I)Z"⟩, 13), (⟨"GesturePidginModel", "character", "(I)I"⟩, 13), (⟨"GesturePidginModel", "isNext", "(I)Z"⟩, 13), (⟨"GesturePidginModel", "readsWord", "()Z"⟩, 13), (⟨"GesturePidginModel", "isGesture", "()Z"⟩, 13)]
theorem lw_r3 : ∀ q ∈ lw_privs_3, lw_okq q := List.forall_mem_cons.mpr ⟨lw_p32, List.forall_mem_cons.mpr ⟨lw_p33, List.forall_mem_cons.mpr ⟨lw_p34, List.forall_mem_cons.mpr ⟨lw_p35, List.forall_mem_cons.mpr ⟨lw_p36, List.forall_mem_cons.mpr ⟨lw_p37, List.forall_mem_cons.mpr ⟨lw_p38, List.forall_mem_cons.mpr ⟨lw_p39, List.forall_mem_cons.mpr ⟨lw_p40, List.forall_mem_cons.mpr ⟨lw_p41, List.forall_mem_cons.mpr ⟨lw_p42, List.forall_mem_cons.mpr ⟨lw_p43, List.forall_mem_cons.mpr ⟨lw_p44, fun _ h => absurd h List.not_mem_nil⟩⟩⟩⟩⟩⟩⟩⟩⟩⟩⟩⟩⟩
def lw_privs : List (MethodName × Nat) := lw_privs_1 ++ (lw_privs_2 ++ (lw_privs_3))
def lw_tbl : List Cond := k2_sels lw_privs ++ tables_1
theorem lw_privs_ok : ∀ q ∈ lw_privs, lw_okq q := by
  show ∀ q ∈ lw_privs_1 ++ (lw_privs_2 ++ (lw_privs_3)), lw_okq q
  exact List.forall_mem_append.mpr ⟨lw_r1, List.forall_mem_append.mpr ⟨lw_r2, lw_r3⟩⟩
-- ===== end of PART A; then your names; then what follows =====
end
section
def RX0 : String := "GesturePidgin$HabitText"
def TX0 : u_T := fun k => match k with
  | 0 => ("GesturePidgin$HabitText", "characters", "[C", true)
  | _ => ("GesturePidgin$HabitText", "length", "I", false)
def tyX0 : Nat → FieldType := fun k => match k with
  | 0 => .array .char
  | _ => .int
abbrev wsX00 : List Cond := u_ws RX0 TX0 2
theorem nmX0 : ∀ a, a < 2 → ∀ b, b < 2 → a ≠ b → (TX0 a).2.1 ≠ (TX0 b).2.1 := by decide +kernel
theorem tyX0_ok : ∀ k, k < 2 → parseFieldDescriptor (TX0 k).2.2.1 = some (tyX0 k) := by decide +kernel
abbrev cX0_init : ByteArray := prog_2_method_1_code
def yX0_init : MethodName := ⟨RX0, "<init>", "()V"⟩
abbrev cX0_append : ByteArray := prog_2_method_2_code
def yX0_append : MethodName := ⟨RX0, "append", "(C)Z"⟩
abbrev cX0_signAt : ByteArray := prog_2_method_3_code
def yX0_signAt : MethodName := ⟨RX0, "signAt", "(I)I"⟩
abbrev cX0_digitAt : ByteArray := prog_2_method_4_code
def yX0_digitAt : MethodName := ⟨RX0, "digitAt", "(I)I"⟩
abbrev cX0_firstError : ByteArray := prog_2_method_5_code
def yX0_firstError : MethodName := ⟨RX0, "firstError", "()I"⟩
abbrev cX0_expectedAfter : ByteArray := prog_2_method_6_code
def yX0_expectedAfter : MethodName := ⟨RX0, "expectedAfter", "(II)I"⟩
abbrev cX0_afterStar : ByteArray := prog_2_method_7_code
def yX0_afterStar : MethodName := ⟨RX0, "afterStar", "(I)I"⟩
abbrev cX0_afterEnd : ByteArray := prog_2_method_8_code
def yX0_afterEnd : MethodName := ⟨RX0, "afterEnd", "(I)I"⟩
abbrev cX0_isGesture : ByteArray := prog_2_method_9_code
def yX0_isGesture : MethodName := ⟨RX0, "isGesture", "(I)Z"⟩
abbrev cX0_isDigit : ByteArray := prog_2_method_10_code
def yX0_isDigit : MethodName := ⟨RX0, "isDigit", "(I)Z"⟩
abbrev cX0_giveHabits : ByteArray := prog_2_method_11_code
def yX0_giveHabits : MethodName := ⟨RX0, "giveHabits", "(LGesturePidgin$Village;)I"⟩
abbrev cX0_giveHabit : ByteArray := prog_2_method_12_code
def yX0_giveHabit : MethodName := ⟨RX0, "giveHabit", "(LGesturePidgin$Speaker;II)V"⟩
def RX1 : String := "GesturePidgin$SavedStates"
def TX1 : u_T := fun k => match k with
  | 0 => ("GesturePidgin$SavedStates", "states", "[LGesturePidgin$Village;", true)
  | 1 => ("GesturePidgin$SavedStates", "next", "I", false)
  | _ => ("GesturePidgin$SavedStates", "size", "I", false)
def tyX1 : Nat → FieldType := fun k => match k with
  | 0 => .array (.object "GesturePidgin$Village")
  | 1 => .int
  | _ => .int
abbrev wsX10 : List Cond := u_ws RX1 TX1 3
theorem nmX1 : ∀ a, a < 3 → ∀ b, b < 3 → a ≠ b → (TX1 a).2.1 ≠ (TX1 b).2.1 := by decide +kernel
theorem tyX1_ok : ∀ k, k < 3 → parseFieldDescriptor (TX1 k).2.2.1 = some (tyX1 k) := by decide +kernel
abbrev cX1_init : ByteArray := prog_3_method_1_code
def yX1_init : MethodName := ⟨RX1, "<init>", "()V"⟩
abbrev cX1_keep : ByteArray := prog_3_method_2_code
def yX1_keep : MethodName := ⟨RX1, "keep", "(LGesturePidgin$Village;)V"⟩
abbrev cX1_restore : ByteArray := prog_3_method_3_code
def yX1_restore : MethodName := ⟨RX1, "restore", "(LGesturePidgin$Village;)Z"⟩
def RX2 : String := "GesturePidgin$Speaker"
def TX2 : u_T := fun k => match k with
  | 0 => ("GesturePidgin$Speaker", "weights", "[I", true)
  | 1 => ("GesturePidgin$Speaker", "present", "Z", false)
  | 2 => ("GesturePidgin$Speaker", "years", "I", false)
  | _ => ("GesturePidgin$Speaker", "meetings", "I", false)
def tyX2 : Nat → FieldType := fun k => match k with
  | 0 => .array .int
  | 1 => .boolean
  | 2 => .int
  | _ => .int
abbrev wsX20 : List Cond := u_ws RX2 TX2 4
theorem nmX2 : ∀ a, a < 4 → ∀ b, b < 4 → a ≠ b → (TX2 a).2.1 ≠ (TX2 b).2.1 := by decide +kernel
theorem tyX2_ok : ∀ k, k < 4 → parseFieldDescriptor (TX2 k).2.2.1 = some (tyX2 k) := by decide +kernel
abbrev cX2_init : ByteArray := prog_4_method_1_code
def yX2_init : MethodName := ⟨RX2, "<init>", "()V"⟩
abbrev cX2_copyFrom : ByteArray := prog_4_method_2_code
def yX2_copyFrom : MethodName := ⟨RX2, "copyFrom", "(LGesturePidgin$Speaker;)V"⟩
abbrev cX2_arrive : ByteArray := prog_4_method_3_code
def yX2_arrive : MethodName := ⟨RX2, "arrive", "()V"⟩
abbrev cX2_leave : ByteArray := prog_4_method_4_code
def yX2_leave : MethodName := ⟨RX2, "leave", "()V"⟩
abbrev cX2_beginLife : ByteArray := prog_4_method_5_code
def yX2_beginLife : MethodName := ⟨RX2, "beginLife", "(LGesturePidgin$Speaker;I)V"⟩
abbrev cX2_weightOf : ByteArray := prog_4_method_6_code
def yX2_weightOf : MethodName := ⟨RX2, "weightOf", "(II)I"⟩
abbrev cX2_putWeight : ByteArray := prog_4_method_7_code
def yX2_putWeight : MethodName := ⟨RX2, "putWeight", "(III)V"⟩
abbrev cX2_changeWeight : ByteArray := prog_4_method_8_code
def yX2_changeWeight : MethodName := ⟨RX2, "changeWeight", "(III)V"⟩
abbrev cX2_wordFor : ByteArray := prog_4_method_9_code
def yX2_wordFor : MethodName := ⟨RX2, "wordFor", "(I)I"⟩
abbrev cX2_meaningOf : ByteArray := prog_4_method_10_code
def yX2_meaningOf : MethodName := ⟨RX2, "meaningOf", "(I)I"⟩
abbrev cX2_learnsWith : ByteArray := prog_4_method_11_code
def yX2_learnsWith : MethodName := ⟨RX2, "learnsWith", "(I)I"⟩
abbrev cX2_prefer : ByteArray := prog_4_method_12_code
def yX2_prefer : MethodName := ⟨RX2, "prefer", "(IIII)V"⟩
abbrev cX2_forgetOtherMeanings : ByteArray := prog_4_method_13_code
def yX2_forgetOtherMeanings : MethodName := ⟨RX2, "forgetOtherMeanings", "(III)V"⟩
abbrev cX2_sumOfWeights : ByteArray := prog_4_method_14_code
def yX2_sumOfWeights : MethodName := ⟨RX2, "sumOfWeights", "()I"⟩
abbrev cX2_countWords : ByteArray := prog_4_method_15_code
def yX2_countWords : MethodName := ⟨RX2, "countWords", "()I"⟩
abbrev cX2_countConfusions : ByteArray := prog_4_method_16_code
def yX2_countConfusions : MethodName := ⟨RX2, "countConfusions", "()I"⟩
def RX3 : String := "GesturePidgin$Village"
def TX3 : u_T := fun k => match k with
  | 0 => ("GesturePidgin$Village", "speakers", "[LGesturePidgin$Speaker;", true)
  | 1 => ("GesturePidgin$Village", "settings", "[I", true)
  | 2 => ("GesturePidgin$Village", "users", "[I", true)
  | 3 => ("GesturePidgin$Village", "seed", "I", false)
  | 4 => ("GesturePidgin$Village", "meetings", "I", false)
  | 5 => ("GesturePidgin$Village", "successes", "I", false)
  | 6 => ("GesturePidgin$Village", "children", "I", false)
  | _ => ("GesturePidgin$Village", "years", "I", false)
def tyX3 : Nat → FieldType := fun k => match k with
  | 0 => .array (.object "GesturePidgin$Speaker")
  | 1 => .array .int
  | 2 => .array .int
  | 3 => .int
  | 4 => .int
  | 5 => .int
  | 6 => .int
  | _ => .int
abbrev wsX30 : List Cond := u_ws RX3 TX3 8
theorem nmX3 : ∀ a, a < 8 → ∀ b, b < 8 → a ≠ b → (TX3 a).2.1 ≠ (TX3 b).2.1 := by decide +kernel
theorem tyX3_ok : ∀ k, k < 8 → parseFieldDescriptor (TX3 k).2.2.1 = some (tyX3 k) := by decide +kernel
abbrev cX3_init : ByteArray := prog_5_method_1_code
def yX3_init : MethodName := ⟨RX3, "<init>", "()V"⟩
abbrev cX3_copyFrom : ByteArray := prog_5_method_2_code
def yX3_copyFrom : MethodName := ⟨RX3, "copyFrom", "(LGesturePidgin$Village;)V"⟩
abbrev cX3_find : ByteArray := prog_5_method_3_code
def yX3_find : MethodName := ⟨RX3, "find", "(I)LGesturePidgin$Speaker;"⟩
abbrev cX3_lowestFree : ByteArray := prog_5_method_4_code
def yX3_lowestFree : MethodName := ⟨RX3, "lowestFree", "()I"⟩
abbrev cX3_welcome : ByteArray := prog_5_method_5_code
def yX3_welcome : MethodName := ⟨RX3, "welcome", "(I)V"⟩
abbrev cX3_settingAt : ByteArray := prog_5_method_6_code
def yX3_settingAt : MethodName := ⟨RX3, "settingAt", "(I)I"⟩
abbrev cX3_putSetting : ByteArray := prog_5_method_7_code
def yX3_putSetting : MethodName := ⟨RX3, "putSetting", "(II)V"⟩
abbrev cX3_draw : ByteArray := prog_5_method_8_code
def yX3_draw : MethodName := ⟨RX3, "draw", "(I)I"⟩
abbrev cX3_countSpeakers : ByteArray := prog_5_method_9_code
def yX3_countSpeakers : MethodName := ⟨RX3, "countSpeakers", "()I"⟩
abbrev cX3_numberInOrder : ByteArray := prog_5_method_10_code
def yX3_numberInOrder : MethodName := ⟨RX3, "numberInOrder", "(II)I"⟩
abbrev cX3_holdMeeting : ByteArray := prog_5_method_11_code
def yX3_holdMeeting : MethodName := ⟨RX3, "holdMeeting", "(LGesturePidgin$Speaker;LGesturePidgin$Speaker;I)I"⟩
abbrev cX3_holdChats : ByteArray := prog_5_method_12_code
def yX3_holdChats : MethodName := ⟨RX3, "holdChats", "(I)I"⟩
abbrev cX3_passYears : ByteArray := prog_5_method_13_code
def yX3_passYears : MethodName := ⟨RX3, "passYears", "(I)I"⟩
abbrev cX3_passYear : ByteArray := prog_5_method_14_code
def yX3_passYear : MethodName := ⟨RX3, "passYear", "()V"⟩
abbrev cX3_teacherFor : ByteArray := prog_5_method_15_code
def yX3_teacherFor : MethodName := ⟨RX3, "teacherFor", "(I)LGesturePidgin$Speaker;"⟩
abbrev cX3_numberOf : ByteArray := prog_5_method_16_code
def yX3_numberOf : MethodName := ⟨RX3, "numberOf", "(I)I"⟩
abbrev cX3_numberOfSpeaker : ByteArray := prog_5_method_17_code
def yX3_numberOfSpeaker : MethodName := ⟨RX3, "numberOfSpeaker", "(LGesturePidgin$Speaker;I)I"⟩
abbrev cX3_sumOfWeights : ByteArray := prog_5_method_18_code
def yX3_sumOfWeights : MethodName := ⟨RX3, "sumOfWeights", "()I"⟩
abbrev cX3_commonWord : ByteArray := prog_5_method_19_code
def yX3_commonWord : MethodName := ⟨RX3, "commonWord", "(I)I"⟩
abbrev cX3_countUsers : ByteArray := prog_5_method_20_code
def yX3_countUsers : MethodName := ⟨RX3, "countUsers", "(I)V"⟩
def RX4 : String := "GesturePidgin"
def TX4 : u_T := fun k => match k with
  | 0 => ("GesturePidgin", "village", "LGesturePidgin$Village;", true)
  | 1 => ("GesturePidgin", "trial", "LGesturePidgin$Village;", true)
  | 2 => ("GesturePidgin", "saved", "LGesturePidgin$SavedStates;", true)
  | _ => ("GesturePidgin", "text", "LGesturePidgin$HabitText;", true)
def tyX4 : Nat → FieldType := fun k => match k with
  | 0 => .object "GesturePidgin$Village"
  | 1 => .object "GesturePidgin$Village"
  | 2 => .object "GesturePidgin$SavedStates"
  | _ => .object "GesturePidgin$HabitText"
abbrev wsX40 : List Cond := u_ws RX4 TX4 4
theorem nmX4 : ∀ a, a < 4 → ∀ b, b < 4 → a ≠ b → (TX4 a).2.1 ≠ (TX4 b).2.1 := by decide +kernel
theorem tyX4_ok : ∀ k, k < 4 → parseFieldDescriptor (TX4 k).2.2.1 = some (tyX4 k) := by decide +kernel
abbrev cX4_init : ByteArray := prog_1_method_1_code
def yX4_init : MethodName := ⟨RX4, "<init>", "()V"⟩
abbrev cX4_come : ByteArray := prog_1_method_2_code
def yX4_come : MethodName := ⟨RX4, "come", "()I"⟩
abbrev cX4_go : ByteArray := prog_1_method_3_code
def yX4_go : MethodName := ⟨RX4, "go", "(I)I"⟩
abbrev cX4_set : ByteArray := prog_1_method_4_code
def yX4_set : MethodName := ⟨RX4, "set", "(II)I"⟩
abbrev cX4_setSeed : ByteArray := prog_1_method_5_code
def yX4_setSeed : MethodName := ⟨RX4, "setSeed", "(I)I"⟩
abbrev cX4_teach : ByteArray := prog_1_method_6_code
def yX4_teach : MethodName := ⟨RX4, "teach", "(IIII)I"⟩
abbrev cX4_setAge : ByteArray := prog_1_method_7_code
def yX4_setAge : MethodName := ⟨RX4, "setAge", "(II)I"⟩
abbrev cX4_meet : ByteArray := prog_1_method_8_code
def yX4_meet : MethodName := ⟨RX4, "meet", "(III)I"⟩
abbrev cX4_chat : ByteArray := prog_1_method_9_code
def yX4_chat : MethodName := ⟨RX4, "chat", "(I)I"⟩
abbrev cX4_age : ByteArray := prog_1_method_10_code
def yX4_age : MethodName := ⟨RX4, "age", "(I)I"⟩
abbrev cX4_count : ByteArray := prog_1_method_11_code
def yX4_count : MethodName := ⟨RX4, "count", "(I)I"⟩
abbrev cX4_setting : ByteArray := prog_1_method_12_code
def yX4_setting : MethodName := ⟨RX4, "setting", "(I)I"⟩
abbrev cX4_weight : ByteArray := prog_1_method_13_code
def yX4_weight : MethodName := ⟨RX4, "weight", "(III)I"⟩
abbrev cX4_speaker : ByteArray := prog_1_method_14_code
def yX4_speaker : MethodName := ⟨RX4, "speaker", "(II)I"⟩
abbrev cX4_wordOf : ByteArray := prog_1_method_15_code
def yX4_wordOf : MethodName := ⟨RX4, "wordOf", "(II)I"⟩
abbrev cX4_hears : ByteArray := prog_1_method_16_code
def yX4_hears : MethodName := ⟨RX4, "hears", "(II)I"⟩
abbrev cX4_gesture : ByteArray := prog_1_method_17_code
def yX4_gesture : MethodName := ⟨RX4, "gesture", "(II)I"⟩
abbrev cX4_agreement : ByteArray := prog_1_method_18_code
def yX4_agreement : MethodName := ⟨RX4, "agreement", "(III)I"⟩
abbrev cX4_understanding : ByteArray := prog_1_method_19_code
def yX4_understanding : MethodName := ⟨RX4, "understanding", "(II)I"⟩
abbrev cX4_common : ByteArray := prog_1_method_20_code
def yX4_common : MethodName := ⟨RX4, "common", "(I)I"⟩
abbrev cX4_ifMet : ByteArray := prog_1_method_21_code
def yX4_ifMet : MethodName := ⟨RX4, "ifMet", "(IIII)I"⟩
abbrev cX4_ifChat : ByteArray := prog_1_method_22_code
def yX4_ifChat : MethodName := ⟨RX4, "ifChat", "(I)I"⟩
abbrev cX4_bestSayer : ByteArray := prog_1_method_23_code
def yX4_bestSayer : MethodName := ⟨RX4, "bestSayer", "(I)I"⟩
abbrev cX4_type : ByteArray := prog_1_method_24_code
def yX4_type : MethodName := ⟨RX4, "type", "(I)I"⟩
abbrev cX4_clearText : ByteArray := prog_1_method_25_code
def yX4_clearText : MethodName := ⟨RX4, "clearText", "()I"⟩
abbrev cX4_syntaxError : ByteArray := prog_1_method_26_code
def yX4_syntaxError : MethodName := ⟨RX4, "syntaxError", "()I"⟩
abbrev cX4_learn : ByteArray := prog_1_method_27_code
def yX4_learn : MethodName := ⟨RX4, "learn", "()I"⟩
abbrev cX4_undo : ByteArray := prog_1_method_28_code
def yX4_undo : MethodName := ⟨RX4, "undo", "()I"⟩
abbrev cX4_digest : ByteArray := prog_1_method_29_code
def yX4_digest : MethodName := ⟨RX4, "digest", "()J"⟩
abbrev cX4_mixed : ByteArray := prog_1_method_30_code
def yX4_mixed : MethodName := ⟨RX4, "mixed", "(JI)J"⟩
abbrev cX4_withSpeaker : ByteArray := prog_1_method_31_code
def yX4_withSpeaker : MethodName := ⟨RX4, "withSpeaker", "(JI)J"⟩
abbrev cX4_withPairsOf : ByteArray := prog_1_method_32_code
def yX4_withPairsOf : MethodName := ⟨RX4, "withPairsOf", "(JI)J"⟩
abbrev cX4_refusalOfChat : ByteArray := prog_1_method_33_code
def yX4_refusalOfChat : MethodName := ⟨RX4, "refusalOfChat", "(I)I"⟩
abbrev cX4_agreementByMeanings : ByteArray := prog_1_method_34_code
def yX4_agreementByMeanings : MethodName := ⟨RX4, "agreementByMeanings", "(LGesturePidgin$Speaker;LGesturePidgin$Speaker;)I"⟩
abbrev cX4_agreementByWords : ByteArray := prog_1_method_35_code
def yX4_agreementByWords : MethodName := ⟨RX4, "agreementByWords", "(LGesturePidgin$Speaker;LGesturePidgin$Speaker;)I"⟩
abbrev cX4_understandingOf : ByteArray := prog_1_method_36_code
def yX4_understandingOf : MethodName := ⟨RX4, "understandingOf", "(LGesturePidgin$Speaker;LGesturePidgin$Speaker;)I"⟩
abbrev cX4_isBelow : ByteArray := prog_1_method_37_code
def yX4_isBelow : MethodName := ⟨RX4, "isBelow", "(II)Z"⟩
abbrev cX4_isMeaning : ByteArray := prog_1_method_38_code
def yX4_isMeaning : MethodName := ⟨RX4, "isMeaning", "(I)Z"⟩
abbrev cX4_isWord : ByteArray := prog_1_method_39_code
def yX4_isWord : MethodName := ⟨RX4, "isWord", "(I)Z"⟩
abbrev cX4_leastOf : ByteArray := prog_1_method_40_code
def yX4_leastOf : MethodName := ⟨RX4, "leastOf", "(I)I"⟩
abbrev cX4_mostOf : ByteArray := prog_1_method_41_code
def yX4_mostOf : MethodName := ⟨RX4, "mostOf", "(I)I"⟩
abbrev cX4_codeOfWord : ByteArray := prog_1_method_42_code
def yX4_codeOfWord : MethodName := ⟨RX4, "codeOfWord", "(I)I"⟩
abbrev cX4_wordOfCode : ByteArray := prog_1_method_43_code
def yX4_wordOfCode : MethodName := ⟨RX4, "wordOfCode", "(I)I"⟩
abbrev cX4_lengthOfWord : ByteArray := prog_1_method_44_code
def yX4_lengthOfWord : MethodName := ⟨RX4, "lengthOfWord", "(I)I"⟩
def RX5 : String := "GesturePidginModel"
def TX5 : u_T := fun k => match k with
  | 0 => ("GesturePidginModel", "state", "[I", true)
  | 1 => ("GesturePidginModel", "kept", "[I", true)
  | 2 => ("GesturePidginModel", "history", "[I", true)
  | 3 => ("GesturePidginModel", "recorded", "I", false)
  | 4 => ("GesturePidginModel", "text", "[I", true)
  | 5 => ("GesturePidginModel", "textLength", "I", false)
  | 6 => ("GesturePidginModel", "said", "I", false)
  | 7 => ("GesturePidginModel", "heard", "I", false)
  | 8 => ("GesturePidginModel", "at", "I", false)
  | 9 => ("GesturePidginModel", "number", "I", false)
  | 10 => ("GesturePidginModel", "speakerRead", "I", false)
  | 11 => ("GesturePidginModel", "meaningRead", "I", false)
  | _ => ("GesturePidginModel", "wordRead", "I", false)
def tyX5 : Nat → FieldType := fun k => match k with
  | 0 => .array .int
  | 1 => .array .int
  | 2 => .array .int
  | 3 => .int
  | 4 => .array .int
  | 5 => .int
  | 6 => .int
  | 7 => .int
  | 8 => .int
  | 9 => .int
  | 10 => .int
  | 11 => .int
  | _ => .int
abbrev wsX50 : List Cond := u_ws RX5 TX5 13
theorem nmX5 : ∀ a, a < 13 → ∀ b, b < 13 → a ≠ b → (TX5 a).2.1 ≠ (TX5 b).2.1 := by decide +kernel
theorem tyX5_ok : ∀ k, k < 13 → parseFieldDescriptor (TX5 k).2.2.1 = some (tyX5 k) := by decide +kernel
abbrev cX5_init : ByteArray := prog_7_method_1_code
def yX5_init : MethodName := ⟨RX5, "<init>", "()V"⟩
abbrev cX5_within : ByteArray := prog_7_method_3_code
def yX5_within : MethodName := ⟨RX5, "within", "(III)Z"⟩
abbrev cX5_copies : ByteArray := prog_7_method_4_code
def yX5_copies : MethodName := ⟨RX5, "copies", "([II[II)V"⟩
abbrev cX5_record : ByteArray := prog_7_method_5_code
def yX5_record : MethodName := ⟨RX5, "record", "()V"⟩
abbrev cX5_part : ByteArray := prog_7_method_6_code
def yX5_part : MethodName := ⟨RX5, "part", "(II)I"⟩
abbrev cX5_setPart : ByteArray := prog_7_method_7_code
def yX5_setPart : MethodName := ⟨RX5, "setPart", "(III)V"⟩
abbrev cX5_isSpeaker : ByteArray := prog_7_method_8_code
def yX5_isSpeaker : MethodName := ⟨RX5, "isSpeaker", "(I)Z"⟩
abbrev cX5_isMeaning : ByteArray := prog_7_method_9_code
def yX5_isMeaning : MethodName := ⟨RX5, "isMeaning", "(I)Z"⟩
abbrev cX5_isWord : ByteArray := prog_7_method_10_code
def yX5_isWord : MethodName := ⟨RX5, "isWord", "(I)Z"⟩
abbrev cX5_weightAt : ByteArray := prog_7_method_11_code
def yX5_weightAt : MethodName := ⟨RX5, "weightAt", "(III)I"⟩
abbrev cX5_weightOf : ByteArray := prog_7_method_12_code
def yX5_weightOf : MethodName := ⟨RX5, "weightOf", "(III)I"⟩
abbrev cX5_changes : ByteArray := prog_7_method_13_code
def yX5_changes : MethodName := ⟨RX5, "changes", "(IIII)V"⟩
abbrev cX5_speakers : ByteArray := prog_7_method_14_code
def yX5_speakers : MethodName := ⟨RX5, "speakers", "()I"⟩
abbrev cX5_speakerAt : ByteArray := prog_7_method_15_code
def yX5_speakerAt : MethodName := ⟨RX5, "speakerAt", "(II)I"⟩
abbrev cX5_wordFor : ByteArray := prog_7_method_16_code
def yX5_wordFor : MethodName := ⟨RX5, "wordFor", "(II)I"⟩
abbrev cX5_heardAs : ByteArray := prog_7_method_17_code
def yX5_heardAs : MethodName := ⟨RX5, "heardAs", "(II)I"⟩
abbrev cX5_learns : ByteArray := prog_7_method_18_code
def yX5_learns : MethodName := ⟨RX5, "learns", "(I)I"⟩
abbrev cX5_draws : ByteArray := prog_7_method_19_code
def yX5_draws : MethodName := ⟨RX5, "draws", "(I)I"⟩
abbrev cX5_strengthens : ByteArray := prog_7_method_20_code
def yX5_strengthens : MethodName := ⟨RX5, "strengthens", "(III)V"⟩
abbrev cX5_meets : ByteArray := prog_7_method_21_code
def yX5_meets : MethodName := ⟨RX5, "meets", "(III)Z"⟩
abbrev cX5_whyNotMet : ByteArray := prog_7_method_22_code
def yX5_whyNotMet : MethodName := ⟨RX5, "whyNotMet", "(III)I"⟩
abbrev cX5_meet : ByteArray := prog_7_method_23_code
def yX5_meet : MethodName := ⟨RX5, "meet", "(III)I"⟩
abbrev cX5_whyNotChat : ByteArray := prog_7_method_24_code
def yX5_whyNotChat : MethodName := ⟨RX5, "whyNotChat", "(I)I"⟩
abbrev cX5_chats : ByteArray := prog_7_method_25_code
def yX5_chats : MethodName := ⟨RX5, "chats", "(I)I"⟩
abbrev cX5_chat : ByteArray := prog_7_method_26_code
def yX5_chat : MethodName := ⟨RX5, "chat", "(I)I"⟩
abbrev cX5_teacherOf : ByteArray := prog_7_method_27_code
def yX5_teacherOf : MethodName := ⟨RX5, "teacherOf", "(I)I"⟩
abbrev cX5_isBorn : ByteArray := prog_7_method_28_code
def yX5_isBorn : MethodName := ⟨RX5, "isBorn", "(I)V"⟩
abbrev cX5_passesYear : ByteArray := prog_7_method_29_code
def yX5_passesYear : MethodName := ⟨RX5, "passesYear", "()V"⟩
abbrev cX5_age : ByteArray := prog_7_method_30_code
def yX5_age : MethodName := ⟨RX5, "age", "(I)I"⟩
abbrev cX5_come : ByteArray := prog_7_method_31_code
def yX5_come : MethodName := ⟨RX5, "come", "()I"⟩
abbrev cX5_go : ByteArray := prog_7_method_32_code
def yX5_go : MethodName := ⟨RX5, "go", "(I)I"⟩
abbrev cX5_isSetting : ByteArray := prog_7_method_33_code
def yX5_isSetting : MethodName := ⟨RX5, "isSetting", "(I)Z"⟩
abbrev cX5_set : ByteArray := prog_7_method_34_code
def yX5_set : MethodName := ⟨RX5, "set", "(II)I"⟩
abbrev cX5_setSeed : ByteArray := prog_7_method_35_code
def yX5_setSeed : MethodName := ⟨RX5, "setSeed", "(I)I"⟩
abbrev cX5_teach : ByteArray := prog_7_method_36_code
def yX5_teach : MethodName := ⟨RX5, "teach", "(IIII)I"⟩
abbrev cX5_setAge : ByteArray := prog_7_method_37_code
def yX5_setAge : MethodName := ⟨RX5, "setAge", "(II)I"⟩
abbrev cX5_allWeights : ByteArray := prog_7_method_38_code
def yX5_allWeights : MethodName := ⟨RX5, "allWeights", "()I"⟩
abbrev cX5_countOf : ByteArray := prog_7_method_39_code
def yX5_countOf : MethodName := ⟨RX5, "countOf", "(I)I"⟩
abbrev cX5_count : ByteArray := prog_7_method_40_code
def yX5_count : MethodName := ⟨RX5, "count", "(I)I"⟩
abbrev cX5_setting : ByteArray := prog_7_method_41_code
def yX5_setting : MethodName := ⟨RX5, "setting", "(I)I"⟩
abbrev cX5_weight : ByteArray := prog_7_method_42_code
def yX5_weight : MethodName := ⟨RX5, "weight", "(III)I"⟩
abbrev cX5_wordsOf : ByteArray := prog_7_method_43_code
def yX5_wordsOf : MethodName := ⟨RX5, "wordsOf", "(I)I"⟩
abbrev cX5_confusions : ByteArray := prog_7_method_44_code
def yX5_confusions : MethodName := ⟨RX5, "confusions", "(I)I"⟩
abbrev cX5_ofSpeaker : ByteArray := prog_7_method_45_code
def yX5_ofSpeaker : MethodName := ⟨RX5, "ofSpeaker", "(II)I"⟩
abbrev cX5_speaker : ByteArray := prog_7_method_46_code
def yX5_speaker : MethodName := ⟨RX5, "speaker", "(II)I"⟩
abbrev cX5_wordOf : ByteArray := prog_7_method_47_code
def yX5_wordOf : MethodName := ⟨RX5, "wordOf", "(II)I"⟩
abbrev cX5_hears : ByteArray := prog_7_method_48_code
def yX5_hears : MethodName := ⟨RX5, "hears", "(II)I"⟩
abbrev cX5_gesture : ByteArray := prog_7_method_49_code
def yX5_gesture : MethodName := ⟨RX5, "gesture", "(II)I"⟩
abbrev cX5_agreements : ByteArray := prog_7_method_50_code
def yX5_agreements : MethodName := ⟨RX5, "agreements", "(II)I"⟩
abbrev cX5_agreement : ByteArray := prog_7_method_51_code
def yX5_agreement : MethodName := ⟨RX5, "agreement", "(III)I"⟩
abbrev cX5_understood : ByteArray := prog_7_method_52_code
def yX5_understood : MethodName := ⟨RX5, "understood", "(II)I"⟩
abbrev cX5_understanding : ByteArray := prog_7_method_53_code
def yX5_understanding : MethodName := ⟨RX5, "understanding", "(II)I"⟩
abbrev cX5_commonOf : ByteArray := prog_7_method_54_code
def yX5_commonOf : MethodName := ⟨RX5, "commonOf", "(I)I"⟩
abbrev cX5_common : ByteArray := prog_7_method_55_code
def yX5_common : MethodName := ⟨RX5, "common", "(I)I"⟩
abbrev cX5_ifMet : ByteArray := prog_7_method_56_code
def yX5_ifMet : MethodName := ⟨RX5, "ifMet", "(IIII)I"⟩
abbrev cX5_ifChat : ByteArray := prog_7_method_57_code
def yX5_ifChat : MethodName := ⟨RX5, "ifChat", "(I)I"⟩
abbrev cX5_bestSayer : ByteArray := prog_7_method_58_code
def yX5_bestSayer : MethodName := ⟨RX5, "bestSayer", "(I)I"⟩
abbrev cX5_type : ByteArray := prog_7_method_59_code
def yX5_type : MethodName := ⟨RX5, "type", "(I)I"⟩
abbrev cX5_clearText : ByteArray := prog_7_method_60_code
def yX5_clearText : MethodName := ⟨RX5, "clearText", "()I"⟩
abbrev cX5_character : ByteArray := prog_7_method_61_code
def yX5_character : MethodName := ⟨RX5, "character", "(I)I"⟩
abbrev cX5_isNext : ByteArray := prog_7_method_62_code
def yX5_isNext : MethodName := ⟨RX5, "isNext", "(I)Z"⟩
abbrev cX5_readsDigit : ByteArray := prog_7_method_63_code
def yX5_readsDigit : MethodName := ⟨RX5, "readsDigit", "(I)Z"⟩
abbrev cX5_isGesture : ByteArray := prog_7_method_64_code
def yX5_isGesture : MethodName := ⟨RX5, "isGesture", "()Z"⟩
abbrev cX5_readsWord : ByteArray := prog_7_method_65_code
def yX5_readsWord : MethodName := ⟨RX5, "readsWord", "()Z"⟩
abbrev cX5_readsHabit : ByteArray := prog_7_method_66_code
def yX5_readsHabit : MethodName := ⟨RX5, "readsHabit", "()Z"⟩
abbrev cX5_findError : ByteArray := prog_7_method_67_code
def yX5_findError : MethodName := ⟨RX5, "findError", "()I"⟩
abbrev cX5_syntaxError : ByteArray := prog_7_method_68_code
def yX5_syntaxError : MethodName := ⟨RX5, "syntaxError", "()I"⟩
abbrev cX5_learn : ByteArray := prog_7_method_69_code
def yX5_learn : MethodName := ⟨RX5, "learn", "()I"⟩
abbrev cX5_undo : ByteArray := prog_7_method_70_code
def yX5_undo : MethodName := ⟨RX5, "undo", "()I"⟩
abbrev cX5_digest : ByteArray := prog_7_method_71_code
def yX5_digest : MethodName := ⟨RX5, "digest", "()J"⟩
def RJ9 : String := "java/lang/Math"
def TJ9 : u_T := fun k => match k with
  | _ => ("", "", "", false)
def tyJ9 : Nat → FieldType := fun k => match k with
  | _ => .int
abbrev wsJ90 : List Cond := u_ws RJ9 TJ9 0
theorem nmJ9 : ∀ a, a < 0 → ∀ b, b < 0 → a ≠ b → (TJ9 a).2.1 ≠ (TJ9 b).2.1 := by decide +kernel
theorem tyJ9_ok : ∀ k, k < 0 → parseFieldDescriptor (TJ9 k).2.2.1 = some (tyJ9 k) := by decide +kernel
abbrev cJ9_max_7cf53 : ByteArray := prog_8_method_65_code
def yJ9_max_7cf53 : MethodName := ⟨RJ9, "max", "(II)I"⟩
abbrev cJ9_min_7cf53 : ByteArray := prog_8_method_69_code
def yJ9_min_7cf53 : MethodName := ⟨RJ9, "min", "(II)I"⟩
def RJ10 : String := "java/lang/System"
def TJ10 : u_T := fun k => match k with
  | _ => ("", "", "", false)
def tyJ10 : Nat → FieldType := fun k => match k with
  | _ => .int
abbrev wsJ100 : List Cond := u_ws RJ10 TJ10 0
theorem nmJ10 : ∀ a, a < 0 → ∀ b, b < 0 → a ≠ b → (TJ10 a).2.1 ≠ (TJ10 b).2.1 := by decide +kernel
theorem tyJ10_ok : ∀ k, k < 0 → parseFieldDescriptor (TJ10 k).2.2.1 = some (tyJ10 k) := by decide +kernel
def RL : String := "GesturePidginLaw"
abbrev cL_law : ByteArray := code
def yL_law : MethodName := ⟨RL, "law", "([I)Z"⟩
abbrev vwCl : List vw_C := [(RX0, TX0, 2), (RX1, TX1, 3), (RX2, TX2, 4), (RX3, TX3, 8), (RX4, TX4, 4), (RX5, TX5, 13)]
end
section
theorem dX0_init_0 : decode cX0_init 0 = .ok (.aload_n 0, 1) := by decide +kernel
theorem dX0_init_1 : decode cX0_init 1 = .ok (.invokespecial 3, 3) := by decide +kernel
theorem dX0_init_4 : decode cX0_init 4 = .ok (.aload_n 0, 1) := by decide +kernel
theorem dX0_init_5 : decode cX0_init 5 = .ok (.bipush 80, 2) := by decide +kernel
theorem dX0_init_7 : decode cX0_init 7 = .ok (.newarray .char, 2) := by decide +kernel
theorem dX0_init_9 : decode cX0_init 9 = .ok (.putfield 9, 3) := by decide +kernel
theorem dX0_init_12 : decode cX0_init 12 = .ok (.return_, 1) := by decide +kernel
theorem dX0_append_0 : decode cX0_append 0 = .ok (.aload_n 0, 1) := by decide +kernel
theorem dX0_append_1 : decode cX0_append 1 = .ok (.getfield 15, 3) := by decide +kernel
theorem dX0_append_4 : decode cX0_append 4 = .ok (.bipush 80, 2) := by decide +kernel
theorem dX0_append_6 : decode cX0_append 6 = .ok (.invokestatic 19, 3) := by decide +kernel
theorem dX0_append_9 : decode cX0_append 9 = .ok (.ifCond .ne 5, 3) := by decide +kernel
theorem dX0_append_12 : decode cX0_append 12 = .ok (.iconst 0, 1) := by decide +kernel
theorem dX0_append_13 : decode cX0_append 13 = .ok (.ireturn, 1) := by decide +kernel
theorem dX0_append_14 : decode cX0_append 14 = .ok (.aload_n 0, 1) := by decide +kernel
theorem dX0_append_15 : decode cX0_append 15 = .ok (.getfield 9, 3) := by decide +kernel
theorem dX0_append_18 : decode cX0_append 18 = .ok (.aload_n 0, 1) := by decide +kernel
theorem dX0_append_19 : decode cX0_append 19 = .ok (.getfield 15, 3) := by decide +kernel
theorem dX0_append_22 : decode cX0_append 22 = .ok (.iload_n 1, 1) := by decide +kernel
theorem dX0_append_23 : decode cX0_append 23 = .ok (.castore, 1) := by decide +kernel
theorem dX0_append_24 : decode cX0_append 24 = .ok (.aload_n 0, 1) := by decide +kernel
theorem dX0_append_25 : decode cX0_append 25 = .ok (.dup, 1) := by decide +kernel
theorem dX0_append_26 : decode cX0_append 26 = .ok (.getfield 15, 3) := by decide +kernel
theorem dX0_append_29 : decode cX0_append 29 = .ok (.iconst 1, 1) := by decide +kernel
theorem dX0_append_30 : decode cX0_append 30 = .ok (.iadd, 1) := by decide +kernel
theorem dX0_append_31 : decode cX0_append 31 = .ok (.putfield 15, 3) := by decide +kernel
theorem dX0_append_34 : decode cX0_append 34 = .ok (.iconst 1, 1) := by decide +kernel
theorem dX0_append_35 : decode cX0_append 35 = .ok (.ireturn, 1) := by decide +kernel
theorem dX0_signAt_0 : decode cX0_signAt 0 = .ok (.iload_n 1, 1) := by decide +kernel
theorem dX0_signAt_1 : decode cX0_signAt 1 = .ok (.aload_n 0, 1) := by decide +kernel
theorem dX0_signAt_2 : decode cX0_signAt 2 = .ok (.getfield 15, 3) := by decide +kernel
theorem dX0_signAt_5 : decode cX0_signAt 5 = .ok (.invokestatic 19, 3) := by decide +kernel
theorem dX0_signAt_8 : decode cX0_signAt 8 = .ok (.ifCond .eq 21, 3) := by decide +kernel
theorem dX0_signAt_11 : decode cX0_signAt 11 = .ok (.iload_n 1, 1) := by decide +kernel
theorem dX0_signAt_12 : decode cX0_signAt 12 = .ok (.bipush 80, 2) := by decide +kernel
theorem dX0_signAt_14 : decode cX0_signAt 14 = .ok (.invokestatic 19, 3) := by decide +kernel
theorem dX0_signAt_17 : decode cX0_signAt 17 = .ok (.ifCond .eq 12, 3) := by decide +kernel
theorem dX0_signAt_20 : decode cX0_signAt 20 = .ok (.aload_n 0, 1) := by decide +kernel
theorem dX0_signAt_21 : decode cX0_signAt 21 = .ok (.getfield 9, 3) := by decide +kernel
theorem dX0_signAt_24 : decode cX0_signAt 24 = .ok (.iload_n 1, 1) := by decide +kernel
theorem dX0_signAt_25 : decode cX0_signAt 25 = .ok (.caload, 1) := by decide +kernel
theorem dX0_signAt_26 : decode cX0_signAt 26 = .ok (.goto 4, 3) := by decide +kernel
theorem dX0_signAt_29 : decode cX0_signAt 29 = .ok (.iconst 0, 1) := by decide +kernel
theorem dX0_signAt_30 : decode cX0_signAt 30 = .ok (.ireturn, 1) := by decide +kernel
theorem dX0_digitAt_0 : decode cX0_digitAt 0 = .ok (.aload_n 0, 1) := by decide +kernel
theorem dX0_digitAt_1 : decode cX0_digitAt 1 = .ok (.iload_n 1, 1) := by decide +kernel
theorem dX0_digitAt_2 : decode cX0_digitAt 2 = .ok (.invokevirtual 23, 3) := by decide +kernel
theorem dX0_digitAt_5 : decode cX0_digitAt 5 = .ok (.bipush 48, 2) := by decide +kernel
theorem dX0_digitAt_7 : decode cX0_digitAt 7 = .ok (.isub, 1) := by decide +kernel
theorem dX0_digitAt_8 : decode cX0_digitAt 8 = .ok (.ireturn, 1) := by decide +kernel
theorem dX0_firstError_0 : decode cX0_firstError 0 = .ok (.iconst 0, 1) := by decide +kernel
theorem dX0_firstError_1 : decode cX0_firstError 1 = .ok (.istore_n 1, 1) := by decide +kernel
theorem dX0_firstError_2 : decode cX0_firstError 2 = .ok (.iconst 0, 1) := by decide +kernel
theorem dX0_firstError_3 : decode cX0_firstError 3 = .ok (.istore_n 2, 1) := by decide +kernel
theorem dX0_firstError_4 : decode cX0_firstError 4 = .ok (.iload_n 2, 1) := by decide +kernel
theorem dX0_firstError_5 : decode cX0_firstError 5 = .ok (.aload_n 0, 1) := by decide +kernel
theorem dX0_firstError_6 : decode cX0_firstError 6 = .ok (.getfield 15, 3) := by decide +kernel
theorem dX0_firstError_9 : decode cX0_firstError 9 = .ok (.if_icmp .ge 27, 3) := by decide +kernel
theorem dX0_firstError_12 : decode cX0_firstError 12 = .ok (.iload_n 1, 1) := by decide +kernel
theorem dX0_firstError_13 : decode cX0_firstError 13 = .ok (.aload_n 0, 1) := by decide +kernel
theorem dX0_firstError_14 : decode cX0_firstError 14 = .ok (.iload_n 2, 1) := by decide +kernel
theorem dX0_firstError_15 : decode cX0_firstError 15 = .ok (.invokevirtual 23, 3) := by decide +kernel
theorem dX0_firstError_18 : decode cX0_firstError 18 = .ok (.invokestatic 27, 3) := by decide +kernel
theorem dX0_firstError_21 : decode cX0_firstError 21 = .ok (.istore_n 1, 1) := by decide +kernel
theorem dX0_firstError_22 : decode cX0_firstError 22 = .ok (.iload_n 1, 1) := by decide +kernel
theorem dX0_firstError_23 : decode cX0_firstError 23 = .ok (.bipush 11, 2) := by decide +kernel
theorem dX0_firstError_25 : decode cX0_firstError 25 = .ok (.if_icmp .ne 5, 3) := by decide +kernel
theorem dX0_firstError_28 : decode cX0_firstError 28 = .ok (.iload_n 2, 1) := by decide +kernel
theorem dX0_firstError_29 : decode cX0_firstError 29 = .ok (.ireturn, 1) := by decide +kernel
theorem dX0_firstError_30 : decode cX0_firstError 30 = .ok (.iinc 2 1, 3) := by decide +kernel
theorem dX0_firstError_33 : decode cX0_firstError 33 = .ok (.goto (-29), 3) := by decide +kernel
theorem dX0_firstError_36 : decode cX0_firstError 36 = .ok (.iload_n 1, 1) := by decide +kernel
theorem dX0_firstError_37 : decode cX0_firstError 37 = .ok (.bipush 9, 2) := by decide +kernel
theorem dX0_firstError_39 : decode cX0_firstError 39 = .ok (.if_icmp .eq 9, 3) := by decide +kernel
theorem dX0_firstError_42 : decode cX0_firstError 42 = .ok (.iload_n 1, 1) := by decide +kernel
theorem dX0_firstError_43 : decode cX0_firstError 43 = .ok (.bipush 10, 2) := by decide +kernel
theorem dX0_firstError_45 : decode cX0_firstError 45 = .ok (.if_icmp .ne 8, 3) := by decide +kernel
theorem dX0_firstError_48 : decode cX0_firstError 48 = .ok (.bipush (-6), 2) := by decide +kernel
theorem dX0_firstError_50 : decode cX0_firstError 50 = .ok (.goto 7, 3) := by decide +kernel
theorem dX0_firstError_53 : decode cX0_firstError 53 = .ok (.aload_n 0, 1) := by decide +kernel
theorem dX0_firstError_54 : decode cX0_firstError 54 = .ok (.getfield 15, 3) := by decide +kernel
theorem dX0_firstError_57 : decode cX0_firstError 57 = .ok (.ireturn, 1) := by decide +kernel
theorem dX0_expectedAfter_0 : decode cX0_expectedAfter 0 = .ok (.iload_n 0, 1) := by decide +kernel
theorem dX0_expectedAfter_1 : decode cX0_expectedAfter 1 = .ok (.tableswitch 222 0 10 #[59, 78, 91, 110, 123, 137, 154, 171, 176, 200, 217], 59) := by decide +kernel
theorem dX0_expectedAfter_60 : decode cX0_expectedAfter 60 = .ok (.iload_n 1, 1) := by decide +kernel
theorem dX0_expectedAfter_61 : decode cX0_expectedAfter 61 = .ok (.bipush 48, 2) := by decide +kernel
theorem dX0_expectedAfter_63 : decode cX0_expectedAfter 63 = .ok (.if_icmp .lt 13, 3) := by decide +kernel
theorem dX0_expectedAfter_66 : decode cX0_expectedAfter 66 = .ok (.iload_n 1, 1) := by decide +kernel
theorem dX0_expectedAfter_67 : decode cX0_expectedAfter 67 = .ok (.bipush 55, 2) := by decide +kernel
theorem dX0_expectedAfter_69 : decode cX0_expectedAfter 69 = .ok (.if_icmp .gt 7, 3) := by decide +kernel
theorem dX0_expectedAfter_72 : decode cX0_expectedAfter 72 = .ok (.iconst 1, 1) := by decide +kernel
theorem dX0_expectedAfter_73 : decode cX0_expectedAfter 73 = .ok (.goto 5, 3) := by decide +kernel
theorem dX0_expectedAfter_76 : decode cX0_expectedAfter 76 = .ok (.bipush 11, 2) := by decide +kernel
theorem dX0_expectedAfter_78 : decode cX0_expectedAfter 78 = .ok (.ireturn, 1) := by decide +kernel
theorem dX0_expectedAfter_79 : decode cX0_expectedAfter 79 = .ok (.iload_n 1, 1) := by decide +kernel
theorem dX0_expectedAfter_80 : decode cX0_expectedAfter 80 = .ok (.bipush 46, 2) := by decide +kernel
theorem dX0_expectedAfter_82 : decode cX0_expectedAfter 82 = .ok (.if_icmp .ne 7, 3) := by decide +kernel
theorem dX0_expectedAfter_85 : decode cX0_expectedAfter 85 = .ok (.iconst 2, 1) := by decide +kernel
theorem dX0_expectedAfter_86 : decode cX0_expectedAfter 86 = .ok (.goto 5, 3) := by decide +kernel
theorem dX0_expectedAfter_89 : decode cX0_expectedAfter 89 = .ok (.bipush 11, 2) := by decide +kernel
theorem dX0_expectedAfter_91 : decode cX0_expectedAfter 91 = .ok (.ireturn, 1) := by decide +kernel
theorem dX0_expectedAfter_92 : decode cX0_expectedAfter 92 = .ok (.iload_n 1, 1) := by decide +kernel
theorem dX0_expectedAfter_93 : decode cX0_expectedAfter 93 = .ok (.bipush 48, 2) := by decide +kernel
theorem dX0_expectedAfter_95 : decode cX0_expectedAfter 95 = .ok (.if_icmp .lt 13, 3) := by decide +kernel
theorem dX0_expectedAfter_98 : decode cX0_expectedAfter 98 = .ok (.iload_n 1, 1) := by decide +kernel
theorem dX0_expectedAfter_99 : decode cX0_expectedAfter 99 = .ok (.bipush 53, 2) := by decide +kernel
theorem dX0_expectedAfter_101 : decode cX0_expectedAfter 101 = .ok (.if_icmp .gt 7, 3) := by decide +kernel
theorem dX0_expectedAfter_104 : decode cX0_expectedAfter 104 = .ok (.iconst 3, 1) := by decide +kernel
theorem dX0_expectedAfter_105 : decode cX0_expectedAfter 105 = .ok (.goto 5, 3) := by decide +kernel
theorem dX0_expectedAfter_108 : decode cX0_expectedAfter 108 = .ok (.bipush 11, 2) := by decide +kernel
theorem dX0_expectedAfter_110 : decode cX0_expectedAfter 110 = .ok (.ireturn, 1) := by decide +kernel
theorem dX0_expectedAfter_111 : decode cX0_expectedAfter 111 = .ok (.iload_n 1, 1) := by decide +kernel
theorem dX0_expectedAfter_112 : decode cX0_expectedAfter 112 = .ok (.bipush 61, 2) := by decide +kernel
theorem dX0_expectedAfter_114 : decode cX0_expectedAfter 114 = .ok (.if_icmp .ne 7, 3) := by decide +kernel
theorem dX0_expectedAfter_117 : decode cX0_expectedAfter 117 = .ok (.iconst 4, 1) := by decide +kernel
theorem dX0_expectedAfter_118 : decode cX0_expectedAfter 118 = .ok (.goto 5, 3) := by decide +kernel
theorem dX0_expectedAfter_121 : decode cX0_expectedAfter 121 = .ok (.bipush 11, 2) := by decide +kernel
theorem dX0_expectedAfter_123 : decode cX0_expectedAfter 123 = .ok (.ireturn, 1) := by decide +kernel
theorem dX0_expectedAfter_124 : decode cX0_expectedAfter 124 = .ok (.iload_n 1, 1) := by decide +kernel
theorem dX0_expectedAfter_125 : decode cX0_expectedAfter 125 = .ok (.invokestatic 31, 3) := by decide +kernel
theorem dX0_expectedAfter_128 : decode cX0_expectedAfter 128 = .ok (.ifCond .eq 7, 3) := by decide +kernel
theorem dX0_expectedAfter_131 : decode cX0_expectedAfter 131 = .ok (.iconst 5, 1) := by decide +kernel
theorem dX0_expectedAfter_132 : decode cX0_expectedAfter 132 = .ok (.goto 5, 3) := by decide +kernel
theorem dX0_expectedAfter_135 : decode cX0_expectedAfter 135 = .ok (.bipush 11, 2) := by decide +kernel
theorem dX0_expectedAfter_137 : decode cX0_expectedAfter 137 = .ok (.ireturn, 1) := by decide +kernel
theorem dX0_expectedAfter_138 : decode cX0_expectedAfter 138 = .ok (.iload_n 1, 1) := by decide +kernel
theorem dX0_expectedAfter_139 : decode cX0_expectedAfter 139 = .ok (.invokestatic 31, 3) := by decide +kernel
theorem dX0_expectedAfter_142 : decode cX0_expectedAfter 142 = .ok (.ifCond .eq 8, 3) := by decide +kernel
theorem dX0_expectedAfter_145 : decode cX0_expectedAfter 145 = .ok (.bipush 6, 2) := by decide +kernel
theorem dX0_expectedAfter_147 : decode cX0_expectedAfter 147 = .ok (.goto 7, 3) := by decide +kernel
theorem dX0_expectedAfter_150 : decode cX0_expectedAfter 150 = .ok (.iload_n 1, 1) := by decide +kernel
theorem dX0_expectedAfter_151 : decode cX0_expectedAfter 151 = .ok (.invokestatic 35, 3) := by decide +kernel
theorem dX0_expectedAfter_154 : decode cX0_expectedAfter 154 = .ok (.ireturn, 1) := by decide +kernel
theorem dX0_expectedAfter_155 : decode cX0_expectedAfter 155 = .ok (.iload_n 1, 1) := by decide +kernel
theorem dX0_expectedAfter_156 : decode cX0_expectedAfter 156 = .ok (.invokestatic 31, 3) := by decide +kernel
theorem dX0_expectedAfter_159 : decode cX0_expectedAfter 159 = .ok (.ifCond .eq 8, 3) := by decide +kernel
theorem dX0_expectedAfter_162 : decode cX0_expectedAfter 162 = .ok (.bipush 7, 2) := by decide +kernel
theorem dX0_expectedAfter_164 : decode cX0_expectedAfter 164 = .ok (.goto 7, 3) := by decide +kernel
theorem dX0_expectedAfter_167 : decode cX0_expectedAfter 167 = .ok (.iload_n 1, 1) := by decide +kernel
theorem dX0_expectedAfter_168 : decode cX0_expectedAfter 168 = .ok (.invokestatic 35, 3) := by decide +kernel
theorem dX0_expectedAfter_171 : decode cX0_expectedAfter 171 = .ok (.ireturn, 1) := by decide +kernel
theorem dX0_expectedAfter_172 : decode cX0_expectedAfter 172 = .ok (.iload_n 1, 1) := by decide +kernel
theorem dX0_expectedAfter_173 : decode cX0_expectedAfter 173 = .ok (.invokestatic 35, 3) := by decide +kernel
theorem dX0_expectedAfter_176 : decode cX0_expectedAfter 176 = .ok (.ireturn, 1) := by decide +kernel
theorem dX0_expectedAfter_177 : decode cX0_expectedAfter 177 = .ok (.iload_n 1, 1) := by decide +kernel
theorem dX0_expectedAfter_178 : decode cX0_expectedAfter 178 = .ok (.bipush 48, 2) := by decide +kernel
theorem dX0_expectedAfter_180 : decode cX0_expectedAfter 180 = .ok (.if_icmp .ne 6, 3) := by decide +kernel
theorem dX0_expectedAfter_183 : decode cX0_expectedAfter 183 = .ok (.bipush 10, 2) := by decide +kernel
theorem dX0_expectedAfter_185 : decode cX0_expectedAfter 185 = .ok (.ireturn, 1) := by decide +kernel
theorem dX0_expectedAfter_186 : decode cX0_expectedAfter 186 = .ok (.iload_n 1, 1) := by decide +kernel
theorem dX0_expectedAfter_187 : decode cX0_expectedAfter 187 = .ok (.invokestatic 38, 3) := by decide +kernel
theorem dX0_expectedAfter_190 : decode cX0_expectedAfter 190 = .ok (.ifCond .eq 8, 3) := by decide +kernel
theorem dX0_expectedAfter_193 : decode cX0_expectedAfter 193 = .ok (.bipush 9, 2) := by decide +kernel
theorem dX0_expectedAfter_195 : decode cX0_expectedAfter 195 = .ok (.goto 5, 3) := by decide +kernel
theorem dX0_expectedAfter_198 : decode cX0_expectedAfter 198 = .ok (.bipush 11, 2) := by decide +kernel
theorem dX0_expectedAfter_200 : decode cX0_expectedAfter 200 = .ok (.ireturn, 1) := by decide +kernel
theorem dX0_expectedAfter_201 : decode cX0_expectedAfter 201 = .ok (.iload_n 1, 1) := by decide +kernel
theorem dX0_expectedAfter_202 : decode cX0_expectedAfter 202 = .ok (.invokestatic 38, 3) := by decide +kernel
theorem dX0_expectedAfter_205 : decode cX0_expectedAfter 205 = .ok (.ifCond .eq 8, 3) := by decide +kernel
theorem dX0_expectedAfter_208 : decode cX0_expectedAfter 208 = .ok (.bipush 10, 2) := by decide +kernel
theorem dX0_expectedAfter_210 : decode cX0_expectedAfter 210 = .ok (.goto 7, 3) := by decide +kernel
theorem dX0_expectedAfter_213 : decode cX0_expectedAfter 213 = .ok (.iload_n 1, 1) := by decide +kernel
theorem dX0_expectedAfter_214 : decode cX0_expectedAfter 214 = .ok (.invokestatic 41, 3) := by decide +kernel
theorem dX0_expectedAfter_217 : decode cX0_expectedAfter 217 = .ok (.ireturn, 1) := by decide +kernel
theorem dX0_expectedAfter_218 : decode cX0_expectedAfter 218 = .ok (.iload_n 1, 1) := by decide +kernel
theorem dX0_expectedAfter_219 : decode cX0_expectedAfter 219 = .ok (.invokestatic 41, 3) := by decide +kernel
theorem dX0_expectedAfter_222 : decode cX0_expectedAfter 222 = .ok (.ireturn, 1) := by decide +kernel
theorem dX0_expectedAfter_223 : decode cX0_expectedAfter 223 = .ok (.bipush 11, 2) := by decide +kernel
theorem dX0_expectedAfter_225 : decode cX0_expectedAfter 225 = .ok (.ireturn, 1) := by decide +kernel
theorem dX0_afterStar_0 : decode cX0_afterStar 0 = .ok (.iload_n 0, 1) := by decide +kernel
theorem dX0_afterStar_1 : decode cX0_afterStar 1 = .ok (.bipush 42, 2) := by decide +kernel
theorem dX0_afterStar_3 : decode cX0_afterStar 3 = .ok (.if_icmp .ne 8, 3) := by decide +kernel
theorem dX0_afterStar_6 : decode cX0_afterStar 6 = .ok (.bipush 8, 2) := by decide +kernel
theorem dX0_afterStar_8 : decode cX0_afterStar 8 = .ok (.goto 5, 3) := by decide +kernel
theorem dX0_afterStar_11 : decode cX0_afterStar 11 = .ok (.bipush 11, 2) := by decide +kernel
theorem dX0_afterStar_13 : decode cX0_afterStar 13 = .ok (.ireturn, 1) := by decide +kernel
theorem dX0_afterEnd_0 : decode cX0_afterEnd 0 = .ok (.iload_n 0, 1) := by decide +kernel
theorem dX0_afterEnd_1 : decode cX0_afterEnd 1 = .ok (.bipush 59, 2) := by decide +kernel
theorem dX0_afterEnd_3 : decode cX0_afterEnd 3 = .ok (.if_icmp .ne 7, 3) := by decide +kernel
theorem dX0_afterEnd_6 : decode cX0_afterEnd 6 = .ok (.iconst 0, 1) := by decide +kernel
theorem dX0_afterEnd_7 : decode cX0_afterEnd 7 = .ok (.goto 5, 3) := by decide +kernel
theorem dX0_afterEnd_10 : decode cX0_afterEnd 10 = .ok (.bipush 11, 2) := by decide +kernel
theorem dX0_afterEnd_12 : decode cX0_afterEnd 12 = .ok (.ireturn, 1) := by decide +kernel
theorem dX0_isGesture_0 : decode cX0_isGesture 0 = .ok (.iload_n 0, 1) := by decide +kernel
theorem dX0_isGesture_1 : decode cX0_isGesture 1 = .ok (.bipush 119, 2) := by decide +kernel
theorem dX0_isGesture_3 : decode cX0_isGesture 3 = .ok (.if_icmp .eq 9, 3) := by decide +kernel
theorem dX0_isGesture_6 : decode cX0_isGesture 6 = .ok (.iload_n 0, 1) := by decide +kernel
theorem dX0_isGesture_7 : decode cX0_isGesture 7 = .ok (.bipush 110, 2) := by decide +kernel
theorem dX0_isGesture_9 : decode cX0_isGesture 9 = .ok (.if_icmp .ne 7, 3) := by decide +kernel
theorem dX0_isGesture_12 : decode cX0_isGesture 12 = .ok (.iconst 1, 1) := by decide +kernel
theorem dX0_isGesture_13 : decode cX0_isGesture 13 = .ok (.goto 4, 3) := by decide +kernel
theorem dX0_isGesture_16 : decode cX0_isGesture 16 = .ok (.iconst 0, 1) := by decide +kernel
theorem dX0_isGesture_17 : decode cX0_isGesture 17 = .ok (.ireturn, 1) := by decide +kernel
theorem dX0_isDigit_0 : decode cX0_isDigit 0 = .ok (.iload_n 0, 1) := by decide +kernel
theorem dX0_isDigit_1 : decode cX0_isDigit 1 = .ok (.bipush 48, 2) := by decide +kernel
theorem dX0_isDigit_3 : decode cX0_isDigit 3 = .ok (.if_icmp .lt 13, 3) := by decide +kernel
theorem dX0_isDigit_6 : decode cX0_isDigit 6 = .ok (.iload_n 0, 1) := by decide +kernel
theorem dX0_isDigit_7 : decode cX0_isDigit 7 = .ok (.bipush 57, 2) := by decide +kernel
theorem dX0_isDigit_9 : decode cX0_isDigit 9 = .ok (.if_icmp .gt 7, 3) := by decide +kernel
theorem dX0_isDigit_12 : decode cX0_isDigit 12 = .ok (.iconst 1, 1) := by decide +kernel
theorem dX0_isDigit_13 : decode cX0_isDigit 13 = .ok (.goto 4, 3) := by decide +kernel
theorem dX0_isDigit_16 : decode cX0_isDigit 16 = .ok (.iconst 0, 1) := by decide +kernel
theorem dX0_isDigit_17 : decode cX0_isDigit 17 = .ok (.ireturn, 1) := by decide +kernel
theorem dX0_giveHabits_0 : decode cX0_giveHabits 0 = .ok (.iconst 0, 1) := by decide +kernel
theorem dX0_giveHabits_1 : decode cX0_giveHabits 1 = .ok (.istore_n 2, 1) := by decide +kernel
theorem dX0_giveHabits_2 : decode cX0_giveHabits 2 = .ok (.iconst 0, 1) := by decide +kernel
theorem dX0_giveHabits_3 : decode cX0_giveHabits 3 = .ok (.istore_n 3, 1) := by decide +kernel
theorem dX0_giveHabits_4 : decode cX0_giveHabits 4 = .ok (.iconst 0, 1) := by decide +kernel
theorem dX0_giveHabits_5 : decode cX0_giveHabits 5 = .ok (.istore 4, 2) := by decide +kernel
theorem dX0_giveHabits_7 : decode cX0_giveHabits 7 = .ok (.iload 4, 2) := by decide +kernel
theorem dX0_giveHabits_9 : decode cX0_giveHabits 9 = .ok (.aload_n 0, 1) := by decide +kernel
theorem dX0_giveHabits_10 : decode cX0_giveHabits 10 = .ok (.getfield 15, 3) := by decide +kernel
theorem dX0_giveHabits_13 : decode cX0_giveHabits 13 = .ok (.if_icmp .gt 67, 3) := by decide +kernel
theorem dX0_giveHabits_16 : decode cX0_giveHabits 16 = .ok (.iload 4, 2) := by decide +kernel
theorem dX0_giveHabits_18 : decode cX0_giveHabits 18 = .ok (.aload_n 0, 1) := by decide +kernel
theorem dX0_giveHabits_19 : decode cX0_giveHabits 19 = .ok (.getfield 15, 3) := by decide +kernel
theorem dX0_giveHabits_22 : decode cX0_giveHabits 22 = .ok (.if_icmp .ge 17, 3) := by decide +kernel
theorem dX0_giveHabits_25 : decode cX0_giveHabits 25 = .ok (.aload_n 0, 1) := by decide +kernel
theorem dX0_giveHabits_26 : decode cX0_giveHabits 26 = .ok (.iload 4, 2) := by decide +kernel
theorem dX0_giveHabits_28 : decode cX0_giveHabits 28 = .ok (.invokevirtual 23, 3) := by decide +kernel
theorem dX0_giveHabits_31 : decode cX0_giveHabits 31 = .ok (.bipush 59, 2) := by decide +kernel
theorem dX0_giveHabits_33 : decode cX0_giveHabits 33 = .ok (.if_icmp .eq 6, 3) := by decide +kernel
theorem dX0_giveHabits_36 : decode cX0_giveHabits 36 = .ok (.goto 38, 3) := by decide +kernel
theorem dX0_giveHabits_39 : decode cX0_giveHabits 39 = .ok (.aload_n 1, 1) := by decide +kernel
theorem dX0_giveHabits_40 : decode cX0_giveHabits 40 = .ok (.aload_n 0, 1) := by decide +kernel
theorem dX0_giveHabits_41 : decode cX0_giveHabits 41 = .ok (.iload_n 3, 1) := by decide +kernel
theorem dX0_giveHabits_42 : decode cX0_giveHabits 42 = .ok (.invokevirtual 44, 3) := by decide +kernel
theorem dX0_giveHabits_45 : decode cX0_giveHabits 45 = .ok (.invokevirtual 47, 3) := by decide +kernel
theorem dX0_giveHabits_48 : decode cX0_giveHabits 48 = .ok (.astore 5, 2) := by decide +kernel
theorem dX0_giveHabits_50 : decode cX0_giveHabits 50 = .ok (.aload 5, 2) := by decide +kernel
theorem dX0_giveHabits_52 : decode cX0_giveHabits 52 = .ok (.ifnonnull 5, 3) := by decide +kernel
theorem dX0_giveHabits_55 : decode cX0_giveHabits 55 = .ok (.iload_n 2, 1) := by decide +kernel
theorem dX0_giveHabits_56 : decode cX0_giveHabits 56 = .ok (.ireturn, 1) := by decide +kernel
theorem dX0_giveHabits_57 : decode cX0_giveHabits 57 = .ok (.aload_n 0, 1) := by decide +kernel
theorem dX0_giveHabits_58 : decode cX0_giveHabits 58 = .ok (.aload 5, 2) := by decide +kernel
theorem dX0_giveHabits_60 : decode cX0_giveHabits 60 = .ok (.iload_n 3, 1) := by decide +kernel
theorem dX0_giveHabits_61 : decode cX0_giveHabits 61 = .ok (.iload 4, 2) := by decide +kernel
theorem dX0_giveHabits_63 : decode cX0_giveHabits 63 = .ok (.invokevirtual 53, 3) := by decide +kernel
theorem dX0_giveHabits_66 : decode cX0_giveHabits 66 = .ok (.iinc 2 1, 3) := by decide +kernel
theorem dX0_giveHabits_69 : decode cX0_giveHabits 69 = .ok (.iload 4, 2) := by decide +kernel
theorem dX0_giveHabits_71 : decode cX0_giveHabits 71 = .ok (.iconst 1, 1) := by decide +kernel
theorem dX0_giveHabits_72 : decode cX0_giveHabits 72 = .ok (.iadd, 1) := by decide +kernel
theorem dX0_giveHabits_73 : decode cX0_giveHabits 73 = .ok (.istore_n 3, 1) := by decide +kernel
theorem dX0_giveHabits_74 : decode cX0_giveHabits 74 = .ok (.iinc 4 1, 3) := by decide +kernel
theorem dX0_giveHabits_77 : decode cX0_giveHabits 77 = .ok (.goto (-70), 3) := by decide +kernel
theorem dX0_giveHabits_80 : decode cX0_giveHabits 80 = .ok (.iload_n 2, 1) := by decide +kernel
theorem dX0_giveHabits_81 : decode cX0_giveHabits 81 = .ok (.ireturn, 1) := by decide +kernel
theorem dX0_giveHabit_0 : decode cX0_giveHabit 0 = .ok (.iconst 1, 1) := by decide +kernel
theorem dX0_giveHabit_1 : decode cX0_giveHabit 1 = .ok (.istore 4, 2) := by decide +kernel
theorem dX0_giveHabit_3 : decode cX0_giveHabit 3 = .ok (.iconst 0, 1) := by decide +kernel
theorem dX0_giveHabit_4 : decode cX0_giveHabit 4 = .ok (.istore 5, 2) := by decide +kernel
theorem dX0_giveHabit_6 : decode cX0_giveHabit 6 = .ok (.iload_n 2, 1) := by decide +kernel
theorem dX0_giveHabit_7 : decode cX0_giveHabit 7 = .ok (.iconst 4, 1) := by decide +kernel
theorem dX0_giveHabit_8 : decode cX0_giveHabit 8 = .ok (.iadd, 1) := by decide +kernel
theorem dX0_giveHabit_9 : decode cX0_giveHabit 9 = .ok (.istore 6, 2) := by decide +kernel
theorem dX0_giveHabit_11 : decode cX0_giveHabit 11 = .ok (.iload 6, 2) := by decide +kernel
theorem dX0_giveHabit_13 : decode cX0_giveHabit 13 = .ok (.iload_n 3, 1) := by decide +kernel
theorem dX0_giveHabit_14 : decode cX0_giveHabit 14 = .ok (.if_icmp .ge 69, 3) := by decide +kernel
theorem dX0_giveHabit_17 : decode cX0_giveHabit 17 = .ok (.aload_n 0, 1) := by decide +kernel
theorem dX0_giveHabit_18 : decode cX0_giveHabit 18 = .ok (.iload 6, 2) := by decide +kernel
theorem dX0_giveHabit_20 : decode cX0_giveHabit 20 = .ok (.invokevirtual 23, 3) := by decide +kernel
theorem dX0_giveHabit_23 : decode cX0_giveHabit 23 = .ok (.istore 7, 2) := by decide +kernel
theorem dX0_giveHabit_25 : decode cX0_giveHabit 25 = .ok (.iload 7, 2) := by decide +kernel
theorem dX0_giveHabit_27 : decode cX0_giveHabit 27 = .ok (.invokestatic 31, 3) := by decide +kernel
theorem dX0_giveHabit_30 : decode cX0_giveHabit 30 = .ok (.ifCond .eq 25, 3) := by decide +kernel
theorem dX0_giveHabit_33 : decode cX0_giveHabit 33 = .ok (.iconst 2, 1) := by decide +kernel
theorem dX0_giveHabit_34 : decode cX0_giveHabit 34 = .ok (.iload 4, 2) := by decide +kernel
theorem dX0_giveHabit_36 : decode cX0_giveHabit 36 = .ok (.imul, 1) := by decide +kernel
theorem dX0_giveHabit_37 : decode cX0_giveHabit 37 = .ok (.iload 7, 2) := by decide +kernel
theorem dX0_giveHabit_39 : decode cX0_giveHabit 39 = .ok (.bipush 110, 2) := by decide +kernel
theorem dX0_giveHabit_41 : decode cX0_giveHabit 41 = .ok (.if_icmp .ne 7, 3) := by decide +kernel
theorem dX0_giveHabit_44 : decode cX0_giveHabit 44 = .ok (.iconst 1, 1) := by decide +kernel
theorem dX0_giveHabit_45 : decode cX0_giveHabit 45 = .ok (.goto 4, 3) := by decide +kernel
theorem dX0_giveHabit_48 : decode cX0_giveHabit 48 = .ok (.iconst 0, 1) := by decide +kernel
theorem dX0_giveHabit_49 : decode cX0_giveHabit 49 = .ok (.iadd, 1) := by decide +kernel
theorem dX0_giveHabit_50 : decode cX0_giveHabit 50 = .ok (.istore 4, 2) := by decide +kernel
theorem dX0_giveHabit_52 : decode cX0_giveHabit 52 = .ok (.goto 25, 3) := by decide +kernel
theorem dX0_giveHabit_55 : decode cX0_giveHabit 55 = .ok (.iload 7, 2) := by decide +kernel
theorem dX0_giveHabit_57 : decode cX0_giveHabit 57 = .ok (.invokestatic 38, 3) := by decide +kernel
theorem dX0_giveHabit_60 : decode cX0_giveHabit 60 = .ok (.ifCond .eq 17, 3) := by decide +kernel
theorem dX0_giveHabit_63 : decode cX0_giveHabit 63 = .ok (.bipush 10, 2) := by decide +kernel
theorem dX0_giveHabit_65 : decode cX0_giveHabit 65 = .ok (.iload 5, 2) := by decide +kernel
theorem dX0_giveHabit_67 : decode cX0_giveHabit 67 = .ok (.imul, 1) := by decide +kernel
theorem dX0_giveHabit_68 : decode cX0_giveHabit 68 = .ok (.aload_n 0, 1) := by decide +kernel
theorem dX0_giveHabit_69 : decode cX0_giveHabit 69 = .ok (.iload 6, 2) := by decide +kernel
theorem dX0_giveHabit_71 : decode cX0_giveHabit 71 = .ok (.invokevirtual 44, 3) := by decide +kernel
theorem dX0_giveHabit_74 : decode cX0_giveHabit 74 = .ok (.iadd, 1) := by decide +kernel
theorem dX0_giveHabit_75 : decode cX0_giveHabit 75 = .ok (.istore 5, 2) := by decide +kernel
theorem dX0_giveHabit_77 : decode cX0_giveHabit 77 = .ok (.iinc 6 1, 3) := by decide +kernel
theorem dX0_giveHabit_80 : decode cX0_giveHabit 80 = .ok (.goto (-69), 3) := by decide +kernel
theorem dX0_giveHabit_83 : decode cX0_giveHabit 83 = .ok (.aload_n 1, 1) := by decide +kernel
theorem dX0_giveHabit_84 : decode cX0_giveHabit 84 = .ok (.aload_n 0, 1) := by decide +kernel
theorem dX0_giveHabit_85 : decode cX0_giveHabit 85 = .ok (.iload_n 2, 1) := by decide +kernel
theorem dX0_giveHabit_86 : decode cX0_giveHabit 86 = .ok (.iconst 2, 1) := by decide +kernel
theorem dX0_giveHabit_87 : decode cX0_giveHabit 87 = .ok (.iadd, 1) := by decide +kernel
theorem dX0_giveHabit_88 : decode cX0_giveHabit 88 = .ok (.invokevirtual 44, 3) := by decide +kernel
theorem dX0_giveHabit_91 : decode cX0_giveHabit 91 = .ok (.iload 4, 2) := by decide +kernel
theorem dX0_giveHabit_93 : decode cX0_giveHabit 93 = .ok (.invokestatic 57, 3) := by decide +kernel
theorem dX0_giveHabit_96 : decode cX0_giveHabit 96 = .ok (.iload 5, 2) := by decide +kernel
theorem dX0_giveHabit_98 : decode cX0_giveHabit 98 = .ok (.invokevirtual 60, 3) := by decide +kernel
theorem dX0_giveHabit_101 : decode cX0_giveHabit 101 = .ok (.return_, 1) := by decide +kernel
theorem dX1_init_0 : decode cX1_init 0 = .ok (.aload_n 0, 1) := by decide +kernel
theorem dX1_init_1 : decode cX1_init 1 = .ok (.invokespecial 3, 3) := by decide +kernel
theorem dX1_init_4 : decode cX1_init 4 = .ok (.aload_n 0, 1) := by decide +kernel
theorem dX1_init_5 : decode cX1_init 5 = .ok (.bipush 6, 2) := by decide +kernel
theorem dX1_init_7 : decode cX1_init 7 = .ok (.anewarray 9, 3) := by decide +kernel
theorem dX1_init_10 : decode cX1_init 10 = .ok (.putfield 11, 3) := by decide +kernel
theorem dX1_init_13 : decode cX1_init 13 = .ok (.iconst 0, 1) := by decide +kernel
theorem dX1_init_14 : decode cX1_init 14 = .ok (.istore_n 1, 1) := by decide +kernel
theorem dX1_init_15 : decode cX1_init 15 = .ok (.iload_n 1, 1) := by decide +kernel
theorem dX1_init_16 : decode cX1_init 16 = .ok (.bipush 6, 2) := by decide +kernel
theorem dX1_init_18 : decode cX1_init 18 = .ok (.if_icmp .ge 22, 3) := by decide +kernel
theorem dX1_init_21 : decode cX1_init 21 = .ok (.aload_n 0, 1) := by decide +kernel
theorem dX1_init_22 : decode cX1_init 22 = .ok (.getfield 11, 3) := by decide +kernel
theorem dX1_init_25 : decode cX1_init 25 = .ok (.iload_n 1, 1) := by decide +kernel
theorem dX1_init_26 : decode cX1_init 26 = .ok (.new 9, 3) := by decide +kernel
theorem dX1_init_29 : decode cX1_init 29 = .ok (.dup, 1) := by decide +kernel
theorem dX1_init_30 : decode cX1_init 30 = .ok (.invokespecial 17, 3) := by decide +kernel
theorem dX1_init_33 : decode cX1_init 33 = .ok (.aastore, 1) := by decide +kernel
theorem dX1_init_34 : decode cX1_init 34 = .ok (.iinc 1 1, 3) := by decide +kernel
theorem dX1_init_37 : decode cX1_init 37 = .ok (.goto (-22), 3) := by decide +kernel
theorem dX1_init_40 : decode cX1_init 40 = .ok (.return_, 1) := by decide +kernel
theorem dX1_keep_0 : decode cX1_keep 0 = .ok (.aload_n 0, 1) := by decide +kernel
theorem dX1_keep_1 : decode cX1_keep 1 = .ok (.getfield 11, 3) := by decide +kernel
theorem dX1_keep_4 : decode cX1_keep 4 = .ok (.aload_n 0, 1) := by decide +kernel
theorem dX1_keep_5 : decode cX1_keep 5 = .ok (.getfield 18, 3) := by decide +kernel
theorem dX1_keep_8 : decode cX1_keep 8 = .ok (.aaload, 1) := by decide +kernel
theorem dX1_keep_9 : decode cX1_keep 9 = .ok (.aload_n 1, 1) := by decide +kernel
theorem dX1_keep_10 : decode cX1_keep 10 = .ok (.invokevirtual 22, 3) := by decide +kernel
theorem dX1_keep_13 : decode cX1_keep 13 = .ok (.aload_n 0, 1) := by decide +kernel
theorem dX1_keep_14 : decode cX1_keep 14 = .ok (.aload_n 0, 1) := by decide +kernel
theorem dX1_keep_15 : decode cX1_keep 15 = .ok (.getfield 18, 3) := by decide +kernel
theorem dX1_keep_18 : decode cX1_keep 18 = .ok (.iconst 1, 1) := by decide +kernel
theorem dX1_keep_19 : decode cX1_keep 19 = .ok (.iadd, 1) := by decide +kernel
theorem dX1_keep_20 : decode cX1_keep 20 = .ok (.bipush 6, 2) := by decide +kernel
theorem dX1_keep_22 : decode cX1_keep 22 = .ok (.irem, 1) := by decide +kernel
theorem dX1_keep_23 : decode cX1_keep 23 = .ok (.putfield 18, 3) := by decide +kernel
theorem dX1_keep_26 : decode cX1_keep 26 = .ok (.aload_n 0, 1) := by decide +kernel
theorem dX1_keep_27 : decode cX1_keep 27 = .ok (.bipush 6, 2) := by decide +kernel
theorem dX1_keep_29 : decode cX1_keep 29 = .ok (.aload_n 0, 1) := by decide +kernel
theorem dX1_keep_30 : decode cX1_keep 30 = .ok (.getfield 26, 3) := by decide +kernel
theorem dX1_keep_33 : decode cX1_keep 33 = .ok (.iconst 1, 1) := by decide +kernel
theorem dX1_keep_34 : decode cX1_keep 34 = .ok (.iadd, 1) := by decide +kernel
theorem dX1_keep_35 : decode cX1_keep 35 = .ok (.invokestatic 29, 3) := by decide +kernel
theorem dX1_keep_38 : decode cX1_keep 38 = .ok (.putfield 26, 3) := by decide +kernel
theorem dX1_keep_41 : decode cX1_keep 41 = .ok (.return_, 1) := by decide +kernel
theorem dX1_restore_0 : decode cX1_restore 0 = .ok (.aload_n 0, 1) := by decide +kernel
theorem dX1_restore_1 : decode cX1_restore 1 = .ok (.getfield 26, 3) := by decide +kernel
theorem dX1_restore_4 : decode cX1_restore 4 = .ok (.iconst 1, 1) := by decide +kernel
theorem dX1_restore_5 : decode cX1_restore 5 = .ok (.if_icmp .ge 5, 3) := by decide +kernel
theorem dX1_restore_8 : decode cX1_restore 8 = .ok (.iconst 0, 1) := by decide +kernel
theorem dX1_restore_9 : decode cX1_restore 9 = .ok (.ireturn, 1) := by decide +kernel
theorem dX1_restore_10 : decode cX1_restore 10 = .ok (.aload_n 0, 1) := by decide +kernel
theorem dX1_restore_11 : decode cX1_restore 11 = .ok (.aload_n 0, 1) := by decide +kernel
theorem dX1_restore_12 : decode cX1_restore 12 = .ok (.getfield 18, 3) := by decide +kernel
theorem dX1_restore_15 : decode cX1_restore 15 = .ok (.bipush 6, 2) := by decide +kernel
theorem dX1_restore_17 : decode cX1_restore 17 = .ok (.iadd, 1) := by decide +kernel
theorem dX1_restore_18 : decode cX1_restore 18 = .ok (.iconst 1, 1) := by decide +kernel
theorem dX1_restore_19 : decode cX1_restore 19 = .ok (.isub, 1) := by decide +kernel
theorem dX1_restore_20 : decode cX1_restore 20 = .ok (.bipush 6, 2) := by decide +kernel
theorem dX1_restore_22 : decode cX1_restore 22 = .ok (.irem, 1) := by decide +kernel
theorem dX1_restore_23 : decode cX1_restore 23 = .ok (.putfield 18, 3) := by decide +kernel
theorem dX1_restore_26 : decode cX1_restore 26 = .ok (.aload_n 0, 1) := by decide +kernel
theorem dX1_restore_27 : decode cX1_restore 27 = .ok (.dup, 1) := by decide +kernel
theorem dX1_restore_28 : decode cX1_restore 28 = .ok (.getfield 26, 3) := by decide +kernel
theorem dX1_restore_31 : decode cX1_restore 31 = .ok (.iconst 1, 1) := by decide +kernel
theorem dX1_restore_32 : decode cX1_restore 32 = .ok (.isub, 1) := by decide +kernel
theorem dX1_restore_33 : decode cX1_restore 33 = .ok (.putfield 26, 3) := by decide +kernel
theorem dX1_restore_36 : decode cX1_restore 36 = .ok (.aload_n 1, 1) := by decide +kernel
theorem dX1_restore_37 : decode cX1_restore 37 = .ok (.aload_n 0, 1) := by decide +kernel
theorem dX1_restore_38 : decode cX1_restore 38 = .ok (.getfield 11, 3) := by decide +kernel
theorem dX1_restore_41 : decode cX1_restore 41 = .ok (.aload_n 0, 1) := by decide +kernel
theorem dX1_restore_42 : decode cX1_restore 42 = .ok (.getfield 18, 3) := by decide +kernel
theorem dX1_restore_45 : decode cX1_restore 45 = .ok (.aaload, 1) := by decide +kernel
theorem dX1_restore_46 : decode cX1_restore 46 = .ok (.invokevirtual 22, 3) := by decide +kernel
theorem dX1_restore_49 : decode cX1_restore 49 = .ok (.iconst 1, 1) := by decide +kernel
theorem dX1_restore_50 : decode cX1_restore 50 = .ok (.ireturn, 1) := by decide +kernel
theorem dX2_init_0 : decode cX2_init 0 = .ok (.aload_n 0, 1) := by decide +kernel
theorem dX2_init_1 : decode cX2_init 1 = .ok (.invokespecial 3, 3) := by decide +kernel
theorem dX2_init_4 : decode cX2_init 4 = .ok (.aload_n 0, 1) := by decide +kernel
theorem dX2_init_5 : decode cX2_init 5 = .ok (.bipush 84, 2) := by decide +kernel
theorem dX2_init_7 : decode cX2_init 7 = .ok (.newarray .int, 2) := by decide +kernel
theorem dX2_init_9 : decode cX2_init 9 = .ok (.putfield 9, 3) := by decide +kernel
theorem dX2_init_12 : decode cX2_init 12 = .ok (.return_, 1) := by decide +kernel
theorem dX2_copyFrom_0 : decode cX2_copyFrom 0 = .ok (.aload_n 1, 1) := by decide +kernel
theorem dX2_copyFrom_1 : decode cX2_copyFrom 1 = .ok (.getfield 9, 3) := by decide +kernel
theorem dX2_copyFrom_4 : decode cX2_copyFrom 4 = .ok (.iconst 0, 1) := by decide +kernel
theorem dX2_copyFrom_5 : decode cX2_copyFrom 5 = .ok (.aload_n 0, 1) := by decide +kernel
theorem dX2_copyFrom_6 : decode cX2_copyFrom 6 = .ok (.getfield 9, 3) := by decide +kernel
theorem dX2_copyFrom_9 : decode cX2_copyFrom 9 = .ok (.iconst 0, 1) := by decide +kernel
theorem dX2_copyFrom_10 : decode cX2_copyFrom 10 = .ok (.bipush 84, 2) := by decide +kernel
theorem dX2_copyFrom_12 : decode cX2_copyFrom 12 = .ok (.invokestatic 15, 3) := by decide +kernel
theorem dX2_copyFrom_15 : decode cX2_copyFrom 15 = .ok (.aload_n 0, 1) := by decide +kernel
theorem dX2_copyFrom_16 : decode cX2_copyFrom 16 = .ok (.aload_n 1, 1) := by decide +kernel
theorem dX2_copyFrom_17 : decode cX2_copyFrom 17 = .ok (.getfield 21, 3) := by decide +kernel
theorem dX2_copyFrom_20 : decode cX2_copyFrom 20 = .ok (.putfield 21, 3) := by decide +kernel
theorem dX2_copyFrom_23 : decode cX2_copyFrom 23 = .ok (.aload_n 0, 1) := by decide +kernel
theorem dX2_copyFrom_24 : decode cX2_copyFrom 24 = .ok (.aload_n 1, 1) := by decide +kernel
theorem dX2_copyFrom_25 : decode cX2_copyFrom 25 = .ok (.getfield 25, 3) := by decide +kernel
theorem dX2_copyFrom_28 : decode cX2_copyFrom 28 = .ok (.putfield 25, 3) := by decide +kernel
theorem dX2_copyFrom_31 : decode cX2_copyFrom 31 = .ok (.aload_n 0, 1) := by decide +kernel
theorem dX2_copyFrom_32 : decode cX2_copyFrom 32 = .ok (.aload_n 1, 1) := by decide +kernel
theorem dX2_copyFrom_33 : decode cX2_copyFrom 33 = .ok (.getfield 29, 3) := by decide +kernel
theorem dX2_copyFrom_36 : decode cX2_copyFrom 36 = .ok (.putfield 29, 3) := by decide +kernel
theorem dX2_copyFrom_39 : decode cX2_copyFrom 39 = .ok (.return_, 1) := by decide +kernel
theorem dX2_arrive_0 : decode cX2_arrive 0 = .ok (.aload_n 0, 1) := by decide +kernel
theorem dX2_arrive_1 : decode cX2_arrive 1 = .ok (.iconst 1, 1) := by decide +kernel
theorem dX2_arrive_2 : decode cX2_arrive 2 = .ok (.putfield 21, 3) := by decide +kernel
theorem dX2_arrive_5 : decode cX2_arrive 5 = .ok (.aload_n 0, 1) := by decide +kernel
theorem dX2_arrive_6 : decode cX2_arrive 6 = .ok (.aconst_null, 1) := by decide +kernel
theorem dX2_arrive_7 : decode cX2_arrive 7 = .ok (.iconst 0, 1) := by decide +kernel
theorem dX2_arrive_8 : decode cX2_arrive 8 = .ok (.invokevirtual 32, 3) := by decide +kernel
theorem dX2_arrive_11 : decode cX2_arrive 11 = .ok (.return_, 1) := by decide +kernel
theorem dX2_leave_0 : decode cX2_leave 0 = .ok (.aload_n 0, 1) := by decide +kernel
theorem dX2_leave_1 : decode cX2_leave 1 = .ok (.iconst 0, 1) := by decide +kernel
theorem dX2_leave_2 : decode cX2_leave 2 = .ok (.putfield 21, 3) := by decide +kernel
theorem dX2_leave_5 : decode cX2_leave 5 = .ok (.return_, 1) := by decide +kernel
theorem dX2_beginLife_0 : decode cX2_beginLife 0 = .ok (.aload_n 0, 1) := by decide +kernel
theorem dX2_beginLife_1 : decode cX2_beginLife 1 = .ok (.iconst 0, 1) := by decide +kernel
theorem dX2_beginLife_2 : decode cX2_beginLife 2 = .ok (.putfield 25, 3) := by decide +kernel
theorem dX2_beginLife_5 : decode cX2_beginLife 5 = .ok (.aload_n 0, 1) := by decide +kernel
theorem dX2_beginLife_6 : decode cX2_beginLife 6 = .ok (.iconst 0, 1) := by decide +kernel
theorem dX2_beginLife_7 : decode cX2_beginLife 7 = .ok (.putfield 29, 3) := by decide +kernel
theorem dX2_beginLife_10 : decode cX2_beginLife 10 = .ok (.iconst 0, 1) := by decide +kernel
theorem dX2_beginLife_11 : decode cX2_beginLife 11 = .ok (.istore_n 3, 1) := by decide +kernel
theorem dX2_beginLife_12 : decode cX2_beginLife 12 = .ok (.iload_n 3, 1) := by decide +kernel
theorem dX2_beginLife_13 : decode cX2_beginLife 13 = .ok (.bipush 6, 2) := by decide +kernel
theorem dX2_beginLife_15 : decode cX2_beginLife 15 = .ok (.if_icmp .ge 56, 3) := by decide +kernel
theorem dX2_beginLife_18 : decode cX2_beginLife 18 = .ok (.iconst 0, 1) := by decide +kernel
theorem dX2_beginLife_19 : decode cX2_beginLife 19 = .ok (.istore 4, 2) := by decide +kernel
theorem dX2_beginLife_21 : decode cX2_beginLife 21 = .ok (.iload 4, 2) := by decide +kernel
theorem dX2_beginLife_23 : decode cX2_beginLife 23 = .ok (.bipush 14, 2) := by decide +kernel
theorem dX2_beginLife_25 : decode cX2_beginLife 25 = .ok (.if_icmp .ge 40, 3) := by decide +kernel
theorem dX2_beginLife_28 : decode cX2_beginLife 28 = .ok (.aload_n 1, 1) := by decide +kernel
theorem dX2_beginLife_29 : decode cX2_beginLife 29 = .ok (.ifnonnull 7, 3) := by decide +kernel
theorem dX2_beginLife_32 : decode cX2_beginLife 32 = .ok (.iconst 0, 1) := by decide +kernel
theorem dX2_beginLife_33 : decode cX2_beginLife 33 = .ok (.goto 15, 3) := by decide +kernel
theorem dX2_beginLife_36 : decode cX2_beginLife 36 = .ok (.aload_n 1, 1) := by decide +kernel
theorem dX2_beginLife_37 : decode cX2_beginLife 37 = .ok (.iload_n 3, 1) := by decide +kernel
theorem dX2_beginLife_38 : decode cX2_beginLife 38 = .ok (.iload 4, 2) := by decide +kernel
theorem dX2_beginLife_40 : decode cX2_beginLife 40 = .ok (.invokevirtual 36, 3) := by decide +kernel
theorem dX2_beginLife_43 : decode cX2_beginLife 43 = .ok (.iload_n 2, 1) := by decide +kernel
theorem dX2_beginLife_44 : decode cX2_beginLife 44 = .ok (.imul, 1) := by decide +kernel
theorem dX2_beginLife_45 : decode cX2_beginLife 45 = .ok (.bipush 100, 2) := by decide +kernel
theorem dX2_beginLife_47 : decode cX2_beginLife 47 = .ok (.idiv, 1) := by decide +kernel
theorem dX2_beginLife_48 : decode cX2_beginLife 48 = .ok (.istore 5, 2) := by decide +kernel
theorem dX2_beginLife_50 : decode cX2_beginLife 50 = .ok (.aload_n 0, 1) := by decide +kernel
theorem dX2_beginLife_51 : decode cX2_beginLife 51 = .ok (.iload_n 3, 1) := by decide +kernel
theorem dX2_beginLife_52 : decode cX2_beginLife 52 = .ok (.iload 4, 2) := by decide +kernel
theorem dX2_beginLife_54 : decode cX2_beginLife 54 = .ok (.iload 5, 2) := by decide +kernel
theorem dX2_beginLife_56 : decode cX2_beginLife 56 = .ok (.invokevirtual 40, 3) := by decide +kernel
theorem dX2_beginLife_59 : decode cX2_beginLife 59 = .ok (.iinc 4 1, 3) := by decide +kernel
theorem dX2_beginLife_62 : decode cX2_beginLife 62 = .ok (.goto (-41), 3) := by decide +kernel
theorem dX2_beginLife_65 : decode cX2_beginLife 65 = .ok (.iinc 3 1, 3) := by decide +kernel
theorem dX2_beginLife_68 : decode cX2_beginLife 68 = .ok (.goto (-56), 3) := by decide +kernel
theorem dX2_beginLife_71 : decode cX2_beginLife 71 = .ok (.return_, 1) := by decide +kernel
theorem dX2_weightOf_0 : decode cX2_weightOf 0 = .ok (.iload_n 1, 1) := by decide +kernel
theorem dX2_weightOf_1 : decode cX2_weightOf 1 = .ok (.invokestatic 44, 3) := by decide +kernel
theorem dX2_weightOf_4 : decode cX2_weightOf 4 = .ok (.ifCond .eq 24, 3) := by decide +kernel
theorem dX2_weightOf_7 : decode cX2_weightOf 7 = .ok (.iload_n 2, 1) := by decide +kernel
theorem dX2_weightOf_8 : decode cX2_weightOf 8 = .ok (.invokestatic 48, 3) := by decide +kernel
theorem dX2_weightOf_11 : decode cX2_weightOf 11 = .ok (.ifCond .eq 17, 3) := by decide +kernel
theorem dX2_weightOf_14 : decode cX2_weightOf 14 = .ok (.aload_n 0, 1) := by decide +kernel
theorem dX2_weightOf_15 : decode cX2_weightOf 15 = .ok (.getfield 9, 3) := by decide +kernel
theorem dX2_weightOf_18 : decode cX2_weightOf 18 = .ok (.iload_n 1, 1) := by decide +kernel
theorem dX2_weightOf_19 : decode cX2_weightOf 19 = .ok (.bipush 14, 2) := by decide +kernel
theorem dX2_weightOf_21 : decode cX2_weightOf 21 = .ok (.imul, 1) := by decide +kernel
theorem dX2_weightOf_22 : decode cX2_weightOf 22 = .ok (.iload_n 2, 1) := by decide +kernel
theorem dX2_weightOf_23 : decode cX2_weightOf 23 = .ok (.iadd, 1) := by decide +kernel
theorem dX2_weightOf_24 : decode cX2_weightOf 24 = .ok (.iaload, 1) := by decide +kernel
theorem dX2_weightOf_25 : decode cX2_weightOf 25 = .ok (.goto 4, 3) := by decide +kernel
theorem dX2_weightOf_28 : decode cX2_weightOf 28 = .ok (.iconst 0, 1) := by decide +kernel
theorem dX2_weightOf_29 : decode cX2_weightOf 29 = .ok (.ireturn, 1) := by decide +kernel
theorem dX2_putWeight_0 : decode cX2_putWeight 0 = .ok (.iload_n 1, 1) := by decide +kernel
theorem dX2_putWeight_1 : decode cX2_putWeight 1 = .ok (.invokestatic 44, 3) := by decide +kernel
theorem dX2_putWeight_4 : decode cX2_putWeight 4 = .ok (.ifCond .eq 31, 3) := by decide +kernel
theorem dX2_putWeight_7 : decode cX2_putWeight 7 = .ok (.iload_n 2, 1) := by decide +kernel
theorem dX2_putWeight_8 : decode cX2_putWeight 8 = .ok (.invokestatic 48, 3) := by decide +kernel
theorem dX2_putWeight_11 : decode cX2_putWeight 11 = .ok (.ifCond .eq 24, 3) := by decide +kernel
theorem dX2_putWeight_14 : decode cX2_putWeight 14 = .ok (.aload_n 0, 1) := by decide +kernel
theorem dX2_putWeight_15 : decode cX2_putWeight 15 = .ok (.getfield 9, 3) := by decide +kernel
theorem dX2_putWeight_18 : decode cX2_putWeight 18 = .ok (.iload_n 1, 1) := by decide +kernel
theorem dX2_putWeight_19 : decode cX2_putWeight 19 = .ok (.bipush 14, 2) := by decide +kernel
theorem dX2_putWeight_21 : decode cX2_putWeight 21 = .ok (.imul, 1) := by decide +kernel
theorem dX2_putWeight_22 : decode cX2_putWeight 22 = .ok (.iload_n 2, 1) := by decide +kernel
theorem dX2_putWeight_23 : decode cX2_putWeight 23 = .ok (.iadd, 1) := by decide +kernel
theorem dX2_putWeight_24 : decode cX2_putWeight 24 = .ok (.iconst 0, 1) := by decide +kernel
theorem dX2_putWeight_25 : decode cX2_putWeight 25 = .ok (.bipush 99, 2) := by decide +kernel
theorem dX2_putWeight_27 : decode cX2_putWeight 27 = .ok (.iload_n 3, 1) := by decide +kernel
theorem dX2_putWeight_28 : decode cX2_putWeight 28 = .ok (.invokestatic 51, 3) := by decide +kernel
theorem dX2_putWeight_31 : decode cX2_putWeight 31 = .ok (.invokestatic 56, 3) := by decide +kernel
theorem dX2_putWeight_34 : decode cX2_putWeight 34 = .ok (.iastore, 1) := by decide +kernel
theorem dX2_putWeight_35 : decode cX2_putWeight 35 = .ok (.return_, 1) := by decide +kernel
theorem dX2_changeWeight_0 : decode cX2_changeWeight 0 = .ok (.aload_n 0, 1) := by decide +kernel
theorem dX2_changeWeight_1 : decode cX2_changeWeight 1 = .ok (.iload_n 1, 1) := by decide +kernel
theorem dX2_changeWeight_2 : decode cX2_changeWeight 2 = .ok (.iload_n 2, 1) := by decide +kernel
theorem dX2_changeWeight_3 : decode cX2_changeWeight 3 = .ok (.aload_n 0, 1) := by decide +kernel
theorem dX2_changeWeight_4 : decode cX2_changeWeight 4 = .ok (.iload_n 1, 1) := by decide +kernel
theorem dX2_changeWeight_5 : decode cX2_changeWeight 5 = .ok (.iload_n 2, 1) := by decide +kernel
theorem dX2_changeWeight_6 : decode cX2_changeWeight 6 = .ok (.invokevirtual 36, 3) := by decide +kernel
theorem dX2_changeWeight_9 : decode cX2_changeWeight 9 = .ok (.iload_n 3, 1) := by decide +kernel
theorem dX2_changeWeight_10 : decode cX2_changeWeight 10 = .ok (.iadd, 1) := by decide +kernel
theorem dX2_changeWeight_11 : decode cX2_changeWeight 11 = .ok (.invokevirtual 40, 3) := by decide +kernel
theorem dX2_changeWeight_14 : decode cX2_changeWeight 14 = .ok (.return_, 1) := by decide +kernel
theorem dX2_wordFor_0 : decode cX2_wordFor 0 = .ok (.bipush (-6), 2) := by decide +kernel
theorem dX2_wordFor_2 : decode cX2_wordFor 2 = .ok (.istore_n 2, 1) := by decide +kernel
theorem dX2_wordFor_3 : decode cX2_wordFor 3 = .ok (.iconst 0, 1) := by decide +kernel
theorem dX2_wordFor_4 : decode cX2_wordFor 4 = .ok (.istore_n 3, 1) := by decide +kernel
theorem dX2_wordFor_5 : decode cX2_wordFor 5 = .ok (.iconst 0, 1) := by decide +kernel
theorem dX2_wordFor_6 : decode cX2_wordFor 6 = .ok (.istore 4, 2) := by decide +kernel
theorem dX2_wordFor_8 : decode cX2_wordFor 8 = .ok (.iload 4, 2) := by decide +kernel
theorem dX2_wordFor_10 : decode cX2_wordFor 10 = .ok (.bipush 14, 2) := by decide +kernel
theorem dX2_wordFor_12 : decode cX2_wordFor 12 = .ok (.if_icmp .ge 30, 3) := by decide +kernel
theorem dX2_wordFor_15 : decode cX2_wordFor 15 = .ok (.aload_n 0, 1) := by decide +kernel
theorem dX2_wordFor_16 : decode cX2_wordFor 16 = .ok (.iload_n 1, 1) := by decide +kernel
theorem dX2_wordFor_17 : decode cX2_wordFor 17 = .ok (.iload 4, 2) := by decide +kernel
theorem dX2_wordFor_19 : decode cX2_wordFor 19 = .ok (.invokevirtual 36, 3) := by decide +kernel
theorem dX2_wordFor_22 : decode cX2_wordFor 22 = .ok (.istore 5, 2) := by decide +kernel
theorem dX2_wordFor_24 : decode cX2_wordFor 24 = .ok (.iload 5, 2) := by decide +kernel
theorem dX2_wordFor_26 : decode cX2_wordFor 26 = .ok (.iload_n 3, 1) := by decide +kernel
theorem dX2_wordFor_27 : decode cX2_wordFor 27 = .ok (.if_icmp .le 9, 3) := by decide +kernel
theorem dX2_wordFor_30 : decode cX2_wordFor 30 = .ok (.iload 5, 2) := by decide +kernel
theorem dX2_wordFor_32 : decode cX2_wordFor 32 = .ok (.istore_n 3, 1) := by decide +kernel
theorem dX2_wordFor_33 : decode cX2_wordFor 33 = .ok (.iload 4, 2) := by decide +kernel
theorem dX2_wordFor_35 : decode cX2_wordFor 35 = .ok (.istore_n 2, 1) := by decide +kernel
theorem dX2_wordFor_36 : decode cX2_wordFor 36 = .ok (.iinc 4 1, 3) := by decide +kernel
theorem dX2_wordFor_39 : decode cX2_wordFor 39 = .ok (.goto (-31), 3) := by decide +kernel
theorem dX2_wordFor_42 : decode cX2_wordFor 42 = .ok (.iload_n 2, 1) := by decide +kernel
theorem dX2_wordFor_43 : decode cX2_wordFor 43 = .ok (.ireturn, 1) := by decide +kernel
theorem dX2_meaningOf_0 : decode cX2_meaningOf 0 = .ok (.bipush (-6), 2) := by decide +kernel
theorem dX2_meaningOf_2 : decode cX2_meaningOf 2 = .ok (.istore_n 2, 1) := by decide +kernel
theorem dX2_meaningOf_3 : decode cX2_meaningOf 3 = .ok (.iconst 0, 1) := by decide +kernel
theorem dX2_meaningOf_4 : decode cX2_meaningOf 4 = .ok (.istore_n 3, 1) := by decide +kernel
theorem dX2_meaningOf_5 : decode cX2_meaningOf 5 = .ok (.iconst 0, 1) := by decide +kernel
theorem dX2_meaningOf_6 : decode cX2_meaningOf 6 = .ok (.istore 4, 2) := by decide +kernel
theorem dX2_meaningOf_8 : decode cX2_meaningOf 8 = .ok (.iload 4, 2) := by decide +kernel
theorem dX2_meaningOf_10 : decode cX2_meaningOf 10 = .ok (.bipush 6, 2) := by decide +kernel
theorem dX2_meaningOf_12 : decode cX2_meaningOf 12 = .ok (.if_icmp .ge 30, 3) := by decide +kernel
theorem dX2_meaningOf_15 : decode cX2_meaningOf 15 = .ok (.aload_n 0, 1) := by decide +kernel
theorem dX2_meaningOf_16 : decode cX2_meaningOf 16 = .ok (.iload 4, 2) := by decide +kernel
theorem dX2_meaningOf_18 : decode cX2_meaningOf 18 = .ok (.iload_n 1, 1) := by decide +kernel
theorem dX2_meaningOf_19 : decode cX2_meaningOf 19 = .ok (.invokevirtual 36, 3) := by decide +kernel
theorem dX2_meaningOf_22 : decode cX2_meaningOf 22 = .ok (.istore 5, 2) := by decide +kernel
theorem dX2_meaningOf_24 : decode cX2_meaningOf 24 = .ok (.iload 5, 2) := by decide +kernel
theorem dX2_meaningOf_26 : decode cX2_meaningOf 26 = .ok (.iload_n 3, 1) := by decide +kernel
theorem dX2_meaningOf_27 : decode cX2_meaningOf 27 = .ok (.if_icmp .le 9, 3) := by decide +kernel
theorem dX2_meaningOf_30 : decode cX2_meaningOf 30 = .ok (.iload 5, 2) := by decide +kernel
theorem dX2_meaningOf_32 : decode cX2_meaningOf 32 = .ok (.istore_n 3, 1) := by decide +kernel
theorem dX2_meaningOf_33 : decode cX2_meaningOf 33 = .ok (.iload 4, 2) := by decide +kernel
theorem dX2_meaningOf_35 : decode cX2_meaningOf 35 = .ok (.istore_n 2, 1) := by decide +kernel
theorem dX2_meaningOf_36 : decode cX2_meaningOf 36 = .ok (.iinc 4 1, 3) := by decide +kernel
theorem dX2_meaningOf_39 : decode cX2_meaningOf 39 = .ok (.goto (-31), 3) := by decide +kernel
theorem dX2_meaningOf_42 : decode cX2_meaningOf 42 = .ok (.iload_n 2, 1) := by decide +kernel
theorem dX2_meaningOf_43 : decode cX2_meaningOf 43 = .ok (.ireturn, 1) := by decide +kernel
theorem dX2_learnsWith_0 : decode cX2_learnsWith 0 = .ok (.iconst 1, 1) := by decide +kernel
theorem dX2_learnsWith_1 : decode cX2_learnsWith 1 = .ok (.iload_n 1, 1) := by decide +kernel
theorem dX2_learnsWith_2 : decode cX2_learnsWith 2 = .ok (.aload_n 0, 1) := by decide +kernel
theorem dX2_learnsWith_3 : decode cX2_learnsWith 3 = .ok (.getfield 25, 3) := by decide +kernel
theorem dX2_learnsWith_6 : decode cX2_learnsWith 6 = .ok (.bipush 20, 2) := by decide +kernel
theorem dX2_learnsWith_8 : decode cX2_learnsWith 8 = .ok (.idiv, 1) := by decide +kernel
theorem dX2_learnsWith_9 : decode cX2_learnsWith 9 = .ok (.isub, 1) := by decide +kernel
theorem dX2_learnsWith_10 : decode cX2_learnsWith 10 = .ok (.invokestatic 56, 3) := by decide +kernel
theorem dX2_learnsWith_13 : decode cX2_learnsWith 13 = .ok (.ireturn, 1) := by decide +kernel
theorem dX2_prefer_0 : decode cX2_prefer 0 = .ok (.aload_n 0, 1) := by decide +kernel
theorem dX2_prefer_1 : decode cX2_prefer 1 = .ok (.iload_n 1, 1) := by decide +kernel
theorem dX2_prefer_2 : decode cX2_prefer 2 = .ok (.iload_n 2, 1) := by decide +kernel
theorem dX2_prefer_3 : decode cX2_prefer 3 = .ok (.aload_n 0, 1) := by decide +kernel
theorem dX2_prefer_4 : decode cX2_prefer 4 = .ok (.iload_n 3, 1) := by decide +kernel
theorem dX2_prefer_5 : decode cX2_prefer 5 = .ok (.invokevirtual 59, 3) := by decide +kernel
theorem dX2_prefer_8 : decode cX2_prefer 8 = .ok (.invokevirtual 63, 3) := by decide +kernel
theorem dX2_prefer_11 : decode cX2_prefer 11 = .ok (.iconst 0, 1) := by decide +kernel
theorem dX2_prefer_12 : decode cX2_prefer 12 = .ok (.istore 5, 2) := by decide +kernel
theorem dX2_prefer_14 : decode cX2_prefer 14 = .ok (.iload 5, 2) := by decide +kernel
theorem dX2_prefer_16 : decode cX2_prefer 16 = .ok (.bipush 14, 2) := by decide +kernel
theorem dX2_prefer_18 : decode cX2_prefer 18 = .ok (.if_icmp .ge 25, 3) := by decide +kernel
theorem dX2_prefer_21 : decode cX2_prefer 21 = .ok (.iload 5, 2) := by decide +kernel
theorem dX2_prefer_23 : decode cX2_prefer 23 = .ok (.iload_n 2, 1) := by decide +kernel
theorem dX2_prefer_24 : decode cX2_prefer 24 = .ok (.if_icmp .eq 13, 3) := by decide +kernel
theorem dX2_prefer_27 : decode cX2_prefer 27 = .ok (.aload_n 0, 1) := by decide +kernel
theorem dX2_prefer_28 : decode cX2_prefer 28 = .ok (.iload_n 1, 1) := by decide +kernel
theorem dX2_prefer_29 : decode cX2_prefer 29 = .ok (.iload 5, 2) := by decide +kernel
theorem dX2_prefer_31 : decode cX2_prefer 31 = .ok (.iload 4, 2) := by decide +kernel
theorem dX2_prefer_33 : decode cX2_prefer 33 = .ok (.ineg, 1) := by decide +kernel
theorem dX2_prefer_34 : decode cX2_prefer 34 = .ok (.invokevirtual 63, 3) := by decide +kernel
theorem dX2_prefer_37 : decode cX2_prefer 37 = .ok (.iinc 5 1, 3) := by decide +kernel
theorem dX2_prefer_40 : decode cX2_prefer 40 = .ok (.goto (-26), 3) := by decide +kernel
theorem dX2_prefer_43 : decode cX2_prefer 43 = .ok (.return_, 1) := by decide +kernel
theorem dX2_forgetOtherMeanings_0 : decode cX2_forgetOtherMeanings 0 = .ok (.iconst 0, 1) := by decide +kernel
theorem dX2_forgetOtherMeanings_1 : decode cX2_forgetOtherMeanings 1 = .ok (.istore 4, 2) := by decide +kernel
theorem dX2_forgetOtherMeanings_3 : decode cX2_forgetOtherMeanings 3 = .ok (.iload 4, 2) := by decide +kernel
theorem dX2_forgetOtherMeanings_5 : decode cX2_forgetOtherMeanings 5 = .ok (.bipush 6, 2) := by decide +kernel
theorem dX2_forgetOtherMeanings_7 : decode cX2_forgetOtherMeanings 7 = .ok (.if_icmp .ge 24, 3) := by decide +kernel
theorem dX2_forgetOtherMeanings_10 : decode cX2_forgetOtherMeanings 10 = .ok (.iload 4, 2) := by decide +kernel
theorem dX2_forgetOtherMeanings_12 : decode cX2_forgetOtherMeanings 12 = .ok (.iload_n 1, 1) := by decide +kernel
theorem dX2_forgetOtherMeanings_13 : decode cX2_forgetOtherMeanings 13 = .ok (.if_icmp .eq 12, 3) := by decide +kernel
theorem dX2_forgetOtherMeanings_16 : decode cX2_forgetOtherMeanings 16 = .ok (.aload_n 0, 1) := by decide +kernel
theorem dX2_forgetOtherMeanings_17 : decode cX2_forgetOtherMeanings 17 = .ok (.iload 4, 2) := by decide +kernel
theorem dX2_forgetOtherMeanings_19 : decode cX2_forgetOtherMeanings 19 = .ok (.iload_n 2, 1) := by decide +kernel
theorem dX2_forgetOtherMeanings_20 : decode cX2_forgetOtherMeanings 20 = .ok (.iload_n 3, 1) := by decide +kernel
theorem dX2_forgetOtherMeanings_21 : decode cX2_forgetOtherMeanings 21 = .ok (.ineg, 1) := by decide +kernel
theorem dX2_forgetOtherMeanings_22 : decode cX2_forgetOtherMeanings 22 = .ok (.invokevirtual 63, 3) := by decide +kernel
theorem dX2_forgetOtherMeanings_25 : decode cX2_forgetOtherMeanings 25 = .ok (.iinc 4 1, 3) := by decide +kernel
theorem dX2_forgetOtherMeanings_28 : decode cX2_forgetOtherMeanings 28 = .ok (.goto (-25), 3) := by decide +kernel
theorem dX2_forgetOtherMeanings_31 : decode cX2_forgetOtherMeanings 31 = .ok (.return_, 1) := by decide +kernel
theorem dX2_sumOfWeights_0 : decode cX2_sumOfWeights 0 = .ok (.iconst 0, 1) := by decide +kernel
theorem dX2_sumOfWeights_1 : decode cX2_sumOfWeights 1 = .ok (.istore_n 1, 1) := by decide +kernel
theorem dX2_sumOfWeights_2 : decode cX2_sumOfWeights 2 = .ok (.aload_n 0, 1) := by decide +kernel
theorem dX2_sumOfWeights_3 : decode cX2_sumOfWeights 3 = .ok (.getfield 9, 3) := by decide +kernel
theorem dX2_sumOfWeights_6 : decode cX2_sumOfWeights 6 = .ok (.astore_n 2, 1) := by decide +kernel
theorem dX2_sumOfWeights_7 : decode cX2_sumOfWeights 7 = .ok (.aload_n 2, 1) := by decide +kernel
theorem dX2_sumOfWeights_8 : decode cX2_sumOfWeights 8 = .ok (.arraylength, 1) := by decide +kernel
theorem dX2_sumOfWeights_9 : decode cX2_sumOfWeights 9 = .ok (.istore_n 3, 1) := by decide +kernel
theorem dX2_sumOfWeights_10 : decode cX2_sumOfWeights 10 = .ok (.iconst 0, 1) := by decide +kernel
theorem dX2_sumOfWeights_11 : decode cX2_sumOfWeights 11 = .ok (.istore 4, 2) := by decide +kernel
theorem dX2_sumOfWeights_13 : decode cX2_sumOfWeights 13 = .ok (.iload 4, 2) := by decide +kernel
theorem dX2_sumOfWeights_15 : decode cX2_sumOfWeights 15 = .ok (.iload_n 3, 1) := by decide +kernel
theorem dX2_sumOfWeights_16 : decode cX2_sumOfWeights 16 = .ok (.if_icmp .ge 20, 3) := by decide +kernel
theorem dX2_sumOfWeights_19 : decode cX2_sumOfWeights 19 = .ok (.aload_n 2, 1) := by decide +kernel
theorem dX2_sumOfWeights_20 : decode cX2_sumOfWeights 20 = .ok (.iload 4, 2) := by decide +kernel
theorem dX2_sumOfWeights_22 : decode cX2_sumOfWeights 22 = .ok (.iaload, 1) := by decide +kernel
theorem dX2_sumOfWeights_23 : decode cX2_sumOfWeights 23 = .ok (.istore 5, 2) := by decide +kernel
theorem dX2_sumOfWeights_25 : decode cX2_sumOfWeights 25 = .ok (.iload_n 1, 1) := by decide +kernel
theorem dX2_sumOfWeights_26 : decode cX2_sumOfWeights 26 = .ok (.iload 5, 2) := by decide +kernel
theorem dX2_sumOfWeights_28 : decode cX2_sumOfWeights 28 = .ok (.iadd, 1) := by decide +kernel
theorem dX2_sumOfWeights_29 : decode cX2_sumOfWeights 29 = .ok (.istore_n 1, 1) := by decide +kernel
theorem dX2_sumOfWeights_30 : decode cX2_sumOfWeights 30 = .ok (.iinc 4 1, 3) := by decide +kernel
theorem dX2_sumOfWeights_33 : decode cX2_sumOfWeights 33 = .ok (.goto (-20), 3) := by decide +kernel
theorem dX2_sumOfWeights_36 : decode cX2_sumOfWeights 36 = .ok (.iload_n 1, 1) := by decide +kernel
theorem dX2_sumOfWeights_37 : decode cX2_sumOfWeights 37 = .ok (.ireturn, 1) := by decide +kernel
theorem dX2_countWords_0 : decode cX2_countWords 0 = .ok (.iconst 0, 1) := by decide +kernel
theorem dX2_countWords_1 : decode cX2_countWords 1 = .ok (.istore_n 1, 1) := by decide +kernel
theorem dX2_countWords_2 : decode cX2_countWords 2 = .ok (.iconst 0, 1) := by decide +kernel
theorem dX2_countWords_3 : decode cX2_countWords 3 = .ok (.istore_n 2, 1) := by decide +kernel
theorem dX2_countWords_4 : decode cX2_countWords 4 = .ok (.iload_n 2, 1) := by decide +kernel
theorem dX2_countWords_5 : decode cX2_countWords 5 = .ok (.bipush 6, 2) := by decide +kernel
theorem dX2_countWords_7 : decode cX2_countWords 7 = .ok (.if_icmp .ge 22, 3) := by decide +kernel
theorem dX2_countWords_10 : decode cX2_countWords 10 = .ok (.aload_n 0, 1) := by decide +kernel
theorem dX2_countWords_11 : decode cX2_countWords 11 = .ok (.iload_n 2, 1) := by decide +kernel
theorem dX2_countWords_12 : decode cX2_countWords 12 = .ok (.invokevirtual 66, 3) := by decide +kernel
theorem dX2_countWords_15 : decode cX2_countWords 15 = .ok (.bipush (-6), 2) := by decide +kernel
theorem dX2_countWords_17 : decode cX2_countWords 17 = .ok (.if_icmp .eq 6, 3) := by decide +kernel
theorem dX2_countWords_20 : decode cX2_countWords 20 = .ok (.iinc 1 1, 3) := by decide +kernel
theorem dX2_countWords_23 : decode cX2_countWords 23 = .ok (.iinc 2 1, 3) := by decide +kernel
theorem dX2_countWords_26 : decode cX2_countWords 26 = .ok (.goto (-22), 3) := by decide +kernel
theorem dX2_countWords_29 : decode cX2_countWords 29 = .ok (.iload_n 1, 1) := by decide +kernel
theorem dX2_countWords_30 : decode cX2_countWords 30 = .ok (.ireturn, 1) := by decide +kernel
theorem dX2_countConfusions_0 : decode cX2_countConfusions 0 = .ok (.iconst 0, 1) := by decide +kernel
theorem dX2_countConfusions_1 : decode cX2_countConfusions 1 = .ok (.istore_n 1, 1) := by decide +kernel
theorem dX2_countConfusions_2 : decode cX2_countConfusions 2 = .ok (.iconst 0, 1) := by decide +kernel
theorem dX2_countConfusions_3 : decode cX2_countConfusions 3 = .ok (.istore_n 2, 1) := by decide +kernel
theorem dX2_countConfusions_4 : decode cX2_countConfusions 4 = .ok (.iload_n 2, 1) := by decide +kernel
theorem dX2_countConfusions_5 : decode cX2_countConfusions 5 = .ok (.bipush 6, 2) := by decide +kernel
theorem dX2_countConfusions_7 : decode cX2_countConfusions 7 = .ok (.if_icmp .ge 52, 3) := by decide +kernel
theorem dX2_countConfusions_10 : decode cX2_countConfusions 10 = .ok (.aload_n 0, 1) := by decide +kernel
theorem dX2_countConfusions_11 : decode cX2_countConfusions 11 = .ok (.iload_n 2, 1) := by decide +kernel
theorem dX2_countConfusions_12 : decode cX2_countConfusions 12 = .ok (.invokevirtual 66, 3) := by decide +kernel
theorem dX2_countConfusions_15 : decode cX2_countConfusions 15 = .ok (.istore_n 3, 1) := by decide +kernel
theorem dX2_countConfusions_16 : decode cX2_countConfusions 16 = .ok (.iload_n 2, 1) := by decide +kernel
theorem dX2_countConfusions_17 : decode cX2_countConfusions 17 = .ok (.iconst 1, 1) := by decide +kernel
theorem dX2_countConfusions_18 : decode cX2_countConfusions 18 = .ok (.iadd, 1) := by decide +kernel
theorem dX2_countConfusions_19 : decode cX2_countConfusions 19 = .ok (.istore 4, 2) := by decide +kernel
theorem dX2_countConfusions_21 : decode cX2_countConfusions 21 = .ok (.iload 4, 2) := by decide +kernel
theorem dX2_countConfusions_23 : decode cX2_countConfusions 23 = .ok (.bipush 6, 2) := by decide +kernel
theorem dX2_countConfusions_25 : decode cX2_countConfusions 25 = .ok (.if_icmp .ge 28, 3) := by decide +kernel
theorem dX2_countConfusions_28 : decode cX2_countConfusions 28 = .ok (.iload_n 3, 1) := by decide +kernel
theorem dX2_countConfusions_29 : decode cX2_countConfusions 29 = .ok (.bipush (-6), 2) := by decide +kernel
theorem dX2_countConfusions_31 : decode cX2_countConfusions 31 = .ok (.if_icmp .eq 16, 3) := by decide +kernel
theorem dX2_countConfusions_34 : decode cX2_countConfusions 34 = .ok (.iload_n 3, 1) := by decide +kernel
theorem dX2_countConfusions_35 : decode cX2_countConfusions 35 = .ok (.aload_n 0, 1) := by decide +kernel
theorem dX2_countConfusions_36 : decode cX2_countConfusions 36 = .ok (.iload 4, 2) := by decide +kernel
theorem dX2_countConfusions_38 : decode cX2_countConfusions 38 = .ok (.invokevirtual 66, 3) := by decide +kernel
theorem dX2_countConfusions_41 : decode cX2_countConfusions 41 = .ok (.if_icmp .ne 6, 3) := by decide +kernel
theorem dX2_countConfusions_44 : decode cX2_countConfusions 44 = .ok (.iinc 1 1, 3) := by decide +kernel
theorem dX2_countConfusions_47 : decode cX2_countConfusions 47 = .ok (.iinc 4 1, 3) := by decide +kernel
theorem dX2_countConfusions_50 : decode cX2_countConfusions 50 = .ok (.goto (-29), 3) := by decide +kernel
theorem dX2_countConfusions_53 : decode cX2_countConfusions 53 = .ok (.iinc 2 1, 3) := by decide +kernel
theorem dX2_countConfusions_56 : decode cX2_countConfusions 56 = .ok (.goto (-52), 3) := by decide +kernel
theorem dX2_countConfusions_59 : decode cX2_countConfusions 59 = .ok (.iload_n 1, 1) := by decide +kernel
theorem dX2_countConfusions_60 : decode cX2_countConfusions 60 = .ok (.ireturn, 1) := by decide +kernel
theorem dX3_init_0 : decode cX3_init 0 = .ok (.aload_n 0, 1) := by decide +kernel
theorem dX3_init_1 : decode cX3_init 1 = .ok (.invokespecial 3, 3) := by decide +kernel
theorem dX3_init_4 : decode cX3_init 4 = .ok (.aload_n 0, 1) := by decide +kernel
theorem dX3_init_5 : decode cX3_init 5 = .ok (.bipush 8, 2) := by decide +kernel
theorem dX3_init_7 : decode cX3_init 7 = .ok (.anewarray 9, 3) := by decide +kernel
theorem dX3_init_10 : decode cX3_init 10 = .ok (.putfield 11, 3) := by decide +kernel
theorem dX3_init_13 : decode cX3_init 13 = .ok (.iconst 0, 1) := by decide +kernel
theorem dX3_init_14 : decode cX3_init 14 = .ok (.istore_n 1, 1) := by decide +kernel
theorem dX3_init_15 : decode cX3_init 15 = .ok (.iload_n 1, 1) := by decide +kernel
theorem dX3_init_16 : decode cX3_init 16 = .ok (.bipush 8, 2) := by decide +kernel
theorem dX3_init_18 : decode cX3_init 18 = .ok (.if_icmp .ge 22, 3) := by decide +kernel
theorem dX3_init_21 : decode cX3_init 21 = .ok (.aload_n 0, 1) := by decide +kernel
theorem dX3_init_22 : decode cX3_init 22 = .ok (.getfield 11, 3) := by decide +kernel
theorem dX3_init_25 : decode cX3_init 25 = .ok (.iload_n 1, 1) := by decide +kernel
theorem dX3_init_26 : decode cX3_init 26 = .ok (.new 9, 3) := by decide +kernel
theorem dX3_init_29 : decode cX3_init 29 = .ok (.dup, 1) := by decide +kernel
theorem dX3_init_30 : decode cX3_init 30 = .ok (.invokespecial 17, 3) := by decide +kernel
theorem dX3_init_33 : decode cX3_init 33 = .ok (.aastore, 1) := by decide +kernel
theorem dX3_init_34 : decode cX3_init 34 = .ok (.iinc 1 1, 3) := by decide +kernel
theorem dX3_init_37 : decode cX3_init 37 = .ok (.goto (-22), 3) := by decide +kernel
theorem dX3_init_40 : decode cX3_init 40 = .ok (.aload_n 0, 1) := by decide +kernel
theorem dX3_init_41 : decode cX3_init 41 = .ok (.iconst 4, 1) := by decide +kernel
theorem dX3_init_42 : decode cX3_init 42 = .ok (.newarray .int, 2) := by decide +kernel
theorem dX3_init_44 : decode cX3_init 44 = .ok (.putfield 18, 3) := by decide +kernel
theorem dX3_init_47 : decode cX3_init 47 = .ok (.aload_n 0, 1) := by decide +kernel
theorem dX3_init_48 : decode cX3_init 48 = .ok (.bipush 14, 2) := by decide +kernel
theorem dX3_init_50 : decode cX3_init 50 = .ok (.newarray .int, 2) := by decide +kernel
theorem dX3_init_52 : decode cX3_init 52 = .ok (.putfield 22, 3) := by decide +kernel
theorem dX3_init_55 : decode cX3_init 55 = .ok (.aload_n 0, 1) := by decide +kernel
theorem dX3_init_56 : decode cX3_init 56 = .ok (.getfield 18, 3) := by decide +kernel
theorem dX3_init_59 : decode cX3_init 59 = .ok (.iconst 0, 1) := by decide +kernel
theorem dX3_init_60 : decode cX3_init 60 = .ok (.iconst 4, 1) := by decide +kernel
theorem dX3_init_61 : decode cX3_init 61 = .ok (.iastore, 1) := by decide +kernel
theorem dX3_init_62 : decode cX3_init 62 = .ok (.aload_n 0, 1) := by decide +kernel
theorem dX3_init_63 : decode cX3_init 63 = .ok (.getfield 18, 3) := by decide +kernel
theorem dX3_init_66 : decode cX3_init 66 = .ok (.iconst 1, 1) := by decide +kernel
theorem dX3_init_67 : decode cX3_init 67 = .ok (.iconst 1, 1) := by decide +kernel
theorem dX3_init_68 : decode cX3_init 68 = .ok (.iastore, 1) := by decide +kernel
theorem dX3_init_69 : decode cX3_init 69 = .ok (.aload_n 0, 1) := by decide +kernel
theorem dX3_init_70 : decode cX3_init 70 = .ok (.getfield 18, 3) := by decide +kernel
theorem dX3_init_73 : decode cX3_init 73 = .ok (.iconst 2, 1) := by decide +kernel
theorem dX3_init_74 : decode cX3_init 74 = .ok (.bipush 60, 2) := by decide +kernel
theorem dX3_init_76 : decode cX3_init 76 = .ok (.iastore, 1) := by decide +kernel
theorem dX3_init_77 : decode cX3_init 77 = .ok (.aload_n 0, 1) := by decide +kernel
theorem dX3_init_78 : decode cX3_init 78 = .ok (.getfield 18, 3) := by decide +kernel
theorem dX3_init_81 : decode cX3_init 81 = .ok (.iconst 3, 1) := by decide +kernel
theorem dX3_init_82 : decode cX3_init 82 = .ok (.bipush 50, 2) := by decide +kernel
theorem dX3_init_84 : decode cX3_init 84 = .ok (.iastore, 1) := by decide +kernel
theorem dX3_init_85 : decode cX3_init 85 = .ok (.aload_n 0, 1) := by decide +kernel
theorem dX3_init_86 : decode cX3_init 86 = .ok (.iconst 1, 1) := by decide +kernel
theorem dX3_init_87 : decode cX3_init 87 = .ok (.putfield 25, 3) := by decide +kernel
theorem dX3_init_90 : decode cX3_init 90 = .ok (.return_, 1) := by decide +kernel
theorem dX3_copyFrom_0 : decode cX3_copyFrom 0 = .ok (.iconst 0, 1) := by decide +kernel
theorem dX3_copyFrom_1 : decode cX3_copyFrom 1 = .ok (.istore_n 2, 1) := by decide +kernel
theorem dX3_copyFrom_2 : decode cX3_copyFrom 2 = .ok (.iload_n 2, 1) := by decide +kernel
theorem dX3_copyFrom_3 : decode cX3_copyFrom 3 = .ok (.bipush 8, 2) := by decide +kernel
theorem dX3_copyFrom_5 : decode cX3_copyFrom 5 = .ok (.if_icmp .ge 24, 3) := by decide +kernel
theorem dX3_copyFrom_8 : decode cX3_copyFrom 8 = .ok (.aload_n 0, 1) := by decide +kernel
theorem dX3_copyFrom_9 : decode cX3_copyFrom 9 = .ok (.getfield 11, 3) := by decide +kernel
theorem dX3_copyFrom_12 : decode cX3_copyFrom 12 = .ok (.iload_n 2, 1) := by decide +kernel
theorem dX3_copyFrom_13 : decode cX3_copyFrom 13 = .ok (.aaload, 1) := by decide +kernel
theorem dX3_copyFrom_14 : decode cX3_copyFrom 14 = .ok (.aload_n 1, 1) := by decide +kernel
theorem dX3_copyFrom_15 : decode cX3_copyFrom 15 = .ok (.getfield 11, 3) := by decide +kernel
theorem dX3_copyFrom_18 : decode cX3_copyFrom 18 = .ok (.iload_n 2, 1) := by decide +kernel
theorem dX3_copyFrom_19 : decode cX3_copyFrom 19 = .ok (.aaload, 1) := by decide +kernel
theorem dX3_copyFrom_20 : decode cX3_copyFrom 20 = .ok (.invokevirtual 29, 3) := by decide +kernel
theorem dX3_copyFrom_23 : decode cX3_copyFrom 23 = .ok (.iinc 2 1, 3) := by decide +kernel
theorem dX3_copyFrom_26 : decode cX3_copyFrom 26 = .ok (.goto (-24), 3) := by decide +kernel
theorem dX3_copyFrom_29 : decode cX3_copyFrom 29 = .ok (.aload_n 1, 1) := by decide +kernel
theorem dX3_copyFrom_30 : decode cX3_copyFrom 30 = .ok (.getfield 18, 3) := by decide +kernel
theorem dX3_copyFrom_33 : decode cX3_copyFrom 33 = .ok (.iconst 0, 1) := by decide +kernel
theorem dX3_copyFrom_34 : decode cX3_copyFrom 34 = .ok (.aload_n 0, 1) := by decide +kernel
theorem dX3_copyFrom_35 : decode cX3_copyFrom 35 = .ok (.getfield 18, 3) := by decide +kernel
theorem dX3_copyFrom_38 : decode cX3_copyFrom 38 = .ok (.iconst 0, 1) := by decide +kernel
theorem dX3_copyFrom_39 : decode cX3_copyFrom 39 = .ok (.iconst 4, 1) := by decide +kernel
theorem dX3_copyFrom_40 : decode cX3_copyFrom 40 = .ok (.invokestatic 33, 3) := by decide +kernel
theorem dX3_copyFrom_43 : decode cX3_copyFrom 43 = .ok (.aload_n 0, 1) := by decide +kernel
theorem dX3_copyFrom_44 : decode cX3_copyFrom 44 = .ok (.aload_n 1, 1) := by decide +kernel
theorem dX3_copyFrom_45 : decode cX3_copyFrom 45 = .ok (.getfield 25, 3) := by decide +kernel
theorem dX3_copyFrom_48 : decode cX3_copyFrom 48 = .ok (.putfield 25, 3) := by decide +kernel
theorem dX3_copyFrom_51 : decode cX3_copyFrom 51 = .ok (.aload_n 0, 1) := by decide +kernel
theorem dX3_copyFrom_52 : decode cX3_copyFrom 52 = .ok (.aload_n 1, 1) := by decide +kernel
theorem dX3_copyFrom_53 : decode cX3_copyFrom 53 = .ok (.getfield 39, 3) := by decide +kernel
theorem dX3_copyFrom_56 : decode cX3_copyFrom 56 = .ok (.putfield 39, 3) := by decide +kernel
theorem dX3_copyFrom_59 : decode cX3_copyFrom 59 = .ok (.aload_n 0, 1) := by decide +kernel
theorem dX3_copyFrom_60 : decode cX3_copyFrom 60 = .ok (.aload_n 1, 1) := by decide +kernel
theorem dX3_copyFrom_61 : decode cX3_copyFrom 61 = .ok (.getfield 42, 3) := by decide +kernel
theorem dX3_copyFrom_64 : decode cX3_copyFrom 64 = .ok (.putfield 42, 3) := by decide +kernel
theorem dX3_copyFrom_67 : decode cX3_copyFrom 67 = .ok (.aload_n 0, 1) := by decide +kernel
theorem dX3_copyFrom_68 : decode cX3_copyFrom 68 = .ok (.aload_n 1, 1) := by decide +kernel
theorem dX3_copyFrom_69 : decode cX3_copyFrom 69 = .ok (.getfield 45, 3) := by decide +kernel
theorem dX3_copyFrom_72 : decode cX3_copyFrom 72 = .ok (.putfield 45, 3) := by decide +kernel
theorem dX3_copyFrom_75 : decode cX3_copyFrom 75 = .ok (.aload_n 0, 1) := by decide +kernel
theorem dX3_copyFrom_76 : decode cX3_copyFrom 76 = .ok (.aload_n 1, 1) := by decide +kernel
theorem dX3_copyFrom_77 : decode cX3_copyFrom 77 = .ok (.getfield 48, 3) := by decide +kernel
theorem dX3_copyFrom_80 : decode cX3_copyFrom 80 = .ok (.putfield 48, 3) := by decide +kernel
theorem dX3_copyFrom_83 : decode cX3_copyFrom 83 = .ok (.return_, 1) := by decide +kernel
theorem dX3_find_0 : decode cX3_find 0 = .ok (.iload_n 1, 1) := by decide +kernel
theorem dX3_find_1 : decode cX3_find 1 = .ok (.bipush 8, 2) := by decide +kernel
theorem dX3_find_3 : decode cX3_find 3 = .ok (.invokestatic 51, 3) := by decide +kernel
theorem dX3_find_6 : decode cX3_find 6 = .ok (.ifCond .eq 24, 3) := by decide +kernel
theorem dX3_find_9 : decode cX3_find 9 = .ok (.aload_n 0, 1) := by decide +kernel
theorem dX3_find_10 : decode cX3_find 10 = .ok (.getfield 11, 3) := by decide +kernel
theorem dX3_find_13 : decode cX3_find 13 = .ok (.iload_n 1, 1) := by decide +kernel
theorem dX3_find_14 : decode cX3_find 14 = .ok (.aaload, 1) := by decide +kernel
theorem dX3_find_15 : decode cX3_find 15 = .ok (.getfield 55, 3) := by decide +kernel
theorem dX3_find_18 : decode cX3_find 18 = .ok (.ifCond .eq 12, 3) := by decide +kernel
theorem dX3_find_21 : decode cX3_find 21 = .ok (.aload_n 0, 1) := by decide +kernel
theorem dX3_find_22 : decode cX3_find 22 = .ok (.getfield 11, 3) := by decide +kernel
theorem dX3_find_25 : decode cX3_find 25 = .ok (.iload_n 1, 1) := by decide +kernel
theorem dX3_find_26 : decode cX3_find 26 = .ok (.aaload, 1) := by decide +kernel
theorem dX3_find_27 : decode cX3_find 27 = .ok (.goto 4, 3) := by decide +kernel
theorem dX3_find_30 : decode cX3_find 30 = .ok (.aconst_null, 1) := by decide +kernel
theorem dX3_find_31 : decode cX3_find 31 = .ok (.areturn, 1) := by decide +kernel
theorem dX3_lowestFree_0 : decode cX3_lowestFree 0 = .ok (.iconst 0, 1) := by decide +kernel
theorem dX3_lowestFree_1 : decode cX3_lowestFree 1 = .ok (.istore_n 1, 1) := by decide +kernel
theorem dX3_lowestFree_2 : decode cX3_lowestFree 2 = .ok (.iload_n 1, 1) := by decide +kernel
theorem dX3_lowestFree_3 : decode cX3_lowestFree 3 = .ok (.bipush 8, 2) := by decide +kernel
theorem dX3_lowestFree_5 : decode cX3_lowestFree 5 = .ok (.if_icmp .ge 23, 3) := by decide +kernel
theorem dX3_lowestFree_8 : decode cX3_lowestFree 8 = .ok (.aload_n 0, 1) := by decide +kernel
theorem dX3_lowestFree_9 : decode cX3_lowestFree 9 = .ok (.getfield 11, 3) := by decide +kernel
theorem dX3_lowestFree_12 : decode cX3_lowestFree 12 = .ok (.iload_n 1, 1) := by decide +kernel
theorem dX3_lowestFree_13 : decode cX3_lowestFree 13 = .ok (.aaload, 1) := by decide +kernel
theorem dX3_lowestFree_14 : decode cX3_lowestFree 14 = .ok (.getfield 55, 3) := by decide +kernel
theorem dX3_lowestFree_17 : decode cX3_lowestFree 17 = .ok (.ifCond .ne 5, 3) := by decide +kernel
theorem dX3_lowestFree_20 : decode cX3_lowestFree 20 = .ok (.iload_n 1, 1) := by decide +kernel
theorem dX3_lowestFree_21 : decode cX3_lowestFree 21 = .ok (.ireturn, 1) := by decide +kernel
theorem dX3_lowestFree_22 : decode cX3_lowestFree 22 = .ok (.iinc 1 1, 3) := by decide +kernel
theorem dX3_lowestFree_25 : decode cX3_lowestFree 25 = .ok (.goto (-23), 3) := by decide +kernel
theorem dX3_lowestFree_28 : decode cX3_lowestFree 28 = .ok (.bipush (-6), 2) := by decide +kernel
theorem dX3_lowestFree_30 : decode cX3_lowestFree 30 = .ok (.ireturn, 1) := by decide +kernel
theorem dX3_welcome_0 : decode cX3_welcome 0 = .ok (.iload_n 1, 1) := by decide +kernel
theorem dX3_welcome_1 : decode cX3_welcome 1 = .ok (.bipush 8, 2) := by decide +kernel
theorem dX3_welcome_3 : decode cX3_welcome 3 = .ok (.invokestatic 51, 3) := by decide +kernel
theorem dX3_welcome_6 : decode cX3_welcome 6 = .ok (.ifCond .eq 12, 3) := by decide +kernel
theorem dX3_welcome_9 : decode cX3_welcome 9 = .ok (.aload_n 0, 1) := by decide +kernel
theorem dX3_welcome_10 : decode cX3_welcome 10 = .ok (.getfield 11, 3) := by decide +kernel
theorem dX3_welcome_13 : decode cX3_welcome 13 = .ok (.iload_n 1, 1) := by decide +kernel
theorem dX3_welcome_14 : decode cX3_welcome 14 = .ok (.aaload, 1) := by decide +kernel
theorem dX3_welcome_15 : decode cX3_welcome 15 = .ok (.invokevirtual 59, 3) := by decide +kernel
theorem dX3_welcome_18 : decode cX3_welcome 18 = .ok (.return_, 1) := by decide +kernel
theorem dX3_settingAt_0 : decode cX3_settingAt 0 = .ok (.iload_n 1, 1) := by decide +kernel
theorem dX3_settingAt_1 : decode cX3_settingAt 1 = .ok (.iconst 4, 1) := by decide +kernel
theorem dX3_settingAt_2 : decode cX3_settingAt 2 = .ok (.invokestatic 51, 3) := by decide +kernel
theorem dX3_settingAt_5 : decode cX3_settingAt 5 = .ok (.ifCond .eq 12, 3) := by decide +kernel
theorem dX3_settingAt_8 : decode cX3_settingAt 8 = .ok (.aload_n 0, 1) := by decide +kernel
theorem dX3_settingAt_9 : decode cX3_settingAt 9 = .ok (.getfield 18, 3) := by decide +kernel
theorem dX3_settingAt_12 : decode cX3_settingAt 12 = .ok (.iload_n 1, 1) := by decide +kernel
theorem dX3_settingAt_13 : decode cX3_settingAt 13 = .ok (.iaload, 1) := by decide +kernel
theorem dX3_settingAt_14 : decode cX3_settingAt 14 = .ok (.goto 4, 3) := by decide +kernel
theorem dX3_settingAt_17 : decode cX3_settingAt 17 = .ok (.iconst 0, 1) := by decide +kernel
theorem dX3_settingAt_18 : decode cX3_settingAt 18 = .ok (.ireturn, 1) := by decide +kernel
theorem dX3_putSetting_0 : decode cX3_putSetting 0 = .ok (.iload_n 1, 1) := by decide +kernel
theorem dX3_putSetting_1 : decode cX3_putSetting 1 = .ok (.iconst 4, 1) := by decide +kernel
theorem dX3_putSetting_2 : decode cX3_putSetting 2 = .ok (.invokestatic 51, 3) := by decide +kernel
theorem dX3_putSetting_5 : decode cX3_putSetting 5 = .ok (.ifCond .eq 10, 3) := by decide +kernel
theorem dX3_putSetting_8 : decode cX3_putSetting 8 = .ok (.aload_n 0, 1) := by decide +kernel
theorem dX3_putSetting_9 : decode cX3_putSetting 9 = .ok (.getfield 18, 3) := by decide +kernel
theorem dX3_putSetting_12 : decode cX3_putSetting 12 = .ok (.iload_n 1, 1) := by decide +kernel
theorem dX3_putSetting_13 : decode cX3_putSetting 13 = .ok (.iload_n 2, 1) := by decide +kernel
theorem dX3_putSetting_14 : decode cX3_putSetting 14 = .ok (.iastore, 1) := by decide +kernel
theorem dX3_putSetting_15 : decode cX3_putSetting 15 = .ok (.return_, 1) := by decide +kernel
theorem dX3_draw_0 : decode cX3_draw 0 = .ok (.aload_n 0, 1) := by decide +kernel
theorem dX3_draw_1 : decode cX3_draw 1 = .ok (.sipush 25173, 3) := by decide +kernel
theorem dX3_draw_4 : decode cX3_draw 4 = .ok (.aload_n 0, 1) := by decide +kernel
theorem dX3_draw_5 : decode cX3_draw 5 = .ok (.getfield 25, 3) := by decide +kernel
theorem dX3_draw_8 : decode cX3_draw 8 = .ok (.imul, 1) := by decide +kernel
theorem dX3_draw_9 : decode cX3_draw 9 = .ok (.sipush 13849, 3) := by decide +kernel
theorem dX3_draw_12 : decode cX3_draw 12 = .ok (.iadd, 1) := by decide +kernel
theorem dX3_draw_13 : decode cX3_draw 13 = .ok (.ldc 62, 2) := by decide +kernel
theorem dX3_draw_15 : decode cX3_draw 15 = .ok (.irem, 1) := by decide +kernel
theorem dX3_draw_16 : decode cX3_draw 16 = .ok (.putfield 25, 3) := by decide +kernel
theorem dX3_draw_19 : decode cX3_draw 19 = .ok (.iload_n 1, 1) := by decide +kernel
theorem dX3_draw_20 : decode cX3_draw 20 = .ok (.iconst 1, 1) := by decide +kernel
theorem dX3_draw_21 : decode cX3_draw 21 = .ok (.if_icmp .ge 7, 3) := by decide +kernel
theorem dX3_draw_24 : decode cX3_draw 24 = .ok (.iconst 0, 1) := by decide +kernel
theorem dX3_draw_25 : decode cX3_draw 25 = .ok (.goto 12, 3) := by decide +kernel
theorem dX3_draw_28 : decode cX3_draw 28 = .ok (.aload_n 0, 1) := by decide +kernel
theorem dX3_draw_29 : decode cX3_draw 29 = .ok (.getfield 25, 3) := by decide +kernel
theorem dX3_draw_32 : decode cX3_draw 32 = .ok (.bipush 16, 2) := by decide +kernel
theorem dX3_draw_34 : decode cX3_draw 34 = .ok (.idiv, 1) := by decide +kernel
theorem dX3_draw_35 : decode cX3_draw 35 = .ok (.iload_n 1, 1) := by decide +kernel
theorem dX3_draw_36 : decode cX3_draw 36 = .ok (.irem, 1) := by decide +kernel
theorem dX3_draw_37 : decode cX3_draw 37 = .ok (.ireturn, 1) := by decide +kernel
theorem dX3_countSpeakers_0 : decode cX3_countSpeakers 0 = .ok (.iconst 0, 1) := by decide +kernel
theorem dX3_countSpeakers_1 : decode cX3_countSpeakers 1 = .ok (.istore_n 1, 1) := by decide +kernel
theorem dX3_countSpeakers_2 : decode cX3_countSpeakers 2 = .ok (.iconst 0, 1) := by decide +kernel
theorem dX3_countSpeakers_3 : decode cX3_countSpeakers 3 = .ok (.istore_n 2, 1) := by decide +kernel
theorem dX3_countSpeakers_4 : decode cX3_countSpeakers 4 = .ok (.iload_n 2, 1) := by decide +kernel
theorem dX3_countSpeakers_5 : decode cX3_countSpeakers 5 = .ok (.bipush 8, 2) := by decide +kernel
theorem dX3_countSpeakers_7 : decode cX3_countSpeakers 7 = .ok (.if_icmp .ge 24, 3) := by decide +kernel
theorem dX3_countSpeakers_10 : decode cX3_countSpeakers 10 = .ok (.aload_n 0, 1) := by decide +kernel
theorem dX3_countSpeakers_11 : decode cX3_countSpeakers 11 = .ok (.getfield 11, 3) := by decide +kernel
theorem dX3_countSpeakers_14 : decode cX3_countSpeakers 14 = .ok (.iload_n 2, 1) := by decide +kernel
theorem dX3_countSpeakers_15 : decode cX3_countSpeakers 15 = .ok (.aaload, 1) := by decide +kernel
theorem dX3_countSpeakers_16 : decode cX3_countSpeakers 16 = .ok (.getfield 55, 3) := by decide +kernel
theorem dX3_countSpeakers_19 : decode cX3_countSpeakers 19 = .ok (.ifCond .eq 6, 3) := by decide +kernel
theorem dX3_countSpeakers_22 : decode cX3_countSpeakers 22 = .ok (.iinc 1 1, 3) := by decide +kernel
theorem dX3_countSpeakers_25 : decode cX3_countSpeakers 25 = .ok (.iinc 2 1, 3) := by decide +kernel
theorem dX3_countSpeakers_28 : decode cX3_countSpeakers 28 = .ok (.goto (-24), 3) := by decide +kernel
theorem dX3_countSpeakers_31 : decode cX3_countSpeakers 31 = .ok (.iload_n 1, 1) := by decide +kernel
theorem dX3_countSpeakers_32 : decode cX3_countSpeakers 32 = .ok (.ireturn, 1) := by decide +kernel
theorem dX3_numberInOrder_0 : decode cX3_numberInOrder 0 = .ok (.iconst 0, 1) := by decide +kernel
theorem dX3_numberInOrder_1 : decode cX3_numberInOrder 1 = .ok (.istore_n 3, 1) := by decide +kernel
theorem dX3_numberInOrder_2 : decode cX3_numberInOrder 2 = .ok (.iconst 0, 1) := by decide +kernel
theorem dX3_numberInOrder_3 : decode cX3_numberInOrder 3 = .ok (.istore 4, 2) := by decide +kernel
theorem dX3_numberInOrder_5 : decode cX3_numberInOrder 5 = .ok (.iload 4, 2) := by decide +kernel
theorem dX3_numberInOrder_7 : decode cX3_numberInOrder 7 = .ok (.bipush 8, 2) := by decide +kernel
theorem dX3_numberInOrder_9 : decode cX3_numberInOrder 9 = .ok (.if_icmp .ge 42, 3) := by decide +kernel
theorem dX3_numberInOrder_12 : decode cX3_numberInOrder 12 = .ok (.aload_n 0, 1) := by decide +kernel
theorem dX3_numberInOrder_13 : decode cX3_numberInOrder 13 = .ok (.getfield 11, 3) := by decide +kernel
theorem dX3_numberInOrder_16 : decode cX3_numberInOrder 16 = .ok (.iload 4, 2) := by decide +kernel
theorem dX3_numberInOrder_18 : decode cX3_numberInOrder 18 = .ok (.aaload, 1) := by decide +kernel
theorem dX3_numberInOrder_19 : decode cX3_numberInOrder 19 = .ok (.getfield 55, 3) := by decide +kernel
theorem dX3_numberInOrder_22 : decode cX3_numberInOrder 22 = .ok (.ifCond .eq 23, 3) := by decide +kernel
theorem dX3_numberInOrder_25 : decode cX3_numberInOrder 25 = .ok (.iload 4, 2) := by decide +kernel
theorem dX3_numberInOrder_27 : decode cX3_numberInOrder 27 = .ok (.iload_n 2, 1) := by decide +kernel
theorem dX3_numberInOrder_28 : decode cX3_numberInOrder 28 = .ok (.if_icmp .ne 6, 3) := by decide +kernel
theorem dX3_numberInOrder_31 : decode cX3_numberInOrder 31 = .ok (.goto 14, 3) := by decide +kernel
theorem dX3_numberInOrder_34 : decode cX3_numberInOrder 34 = .ok (.iload_n 3, 1) := by decide +kernel
theorem dX3_numberInOrder_35 : decode cX3_numberInOrder 35 = .ok (.iload_n 1, 1) := by decide +kernel
theorem dX3_numberInOrder_36 : decode cX3_numberInOrder 36 = .ok (.if_icmp .ne 6, 3) := by decide +kernel
theorem dX3_numberInOrder_39 : decode cX3_numberInOrder 39 = .ok (.iload 4, 2) := by decide +kernel
theorem dX3_numberInOrder_41 : decode cX3_numberInOrder 41 = .ok (.ireturn, 1) := by decide +kernel
theorem dX3_numberInOrder_42 : decode cX3_numberInOrder 42 = .ok (.iinc 3 1, 3) := by decide +kernel
theorem dX3_numberInOrder_45 : decode cX3_numberInOrder 45 = .ok (.iinc 4 1, 3) := by decide +kernel
theorem dX3_numberInOrder_48 : decode cX3_numberInOrder 48 = .ok (.goto (-43), 3) := by decide +kernel
theorem dX3_numberInOrder_51 : decode cX3_numberInOrder 51 = .ok (.bipush (-6), 2) := by decide +kernel
theorem dX3_numberInOrder_53 : decode cX3_numberInOrder 53 = .ok (.ireturn, 1) := by decide +kernel
theorem dX3_holdMeeting_0 : decode cX3_holdMeeting 0 = .ok (.aload_n 1, 1) := by decide +kernel
theorem dX3_holdMeeting_1 : decode cX3_holdMeeting 1 = .ok (.iload_n 3, 1) := by decide +kernel
theorem dX3_holdMeeting_2 : decode cX3_holdMeeting 2 = .ok (.invokevirtual 63, 3) := by decide +kernel
theorem dX3_holdMeeting_5 : decode cX3_holdMeeting 5 = .ok (.istore 4, 2) := by decide +kernel
theorem dX3_holdMeeting_7 : decode cX3_holdMeeting 7 = .ok (.iload 4, 2) := by decide +kernel
theorem dX3_holdMeeting_9 : decode cX3_holdMeeting 9 = .ok (.bipush (-6), 2) := by decide +kernel
theorem dX3_holdMeeting_11 : decode cX3_holdMeeting 11 = .ok (.if_icmp .ne 11, 3) := by decide +kernel
theorem dX3_holdMeeting_14 : decode cX3_holdMeeting 14 = .ok (.aload_n 0, 1) := by decide +kernel
theorem dX3_holdMeeting_15 : decode cX3_holdMeeting 15 = .ok (.bipush 14, 2) := by decide +kernel
theorem dX3_holdMeeting_17 : decode cX3_holdMeeting 17 = .ok (.invokevirtual 67, 3) := by decide +kernel
theorem dX3_holdMeeting_20 : decode cX3_holdMeeting 20 = .ok (.istore 4, 2) := by decide +kernel
theorem dX3_holdMeeting_22 : decode cX3_holdMeeting 22 = .ok (.aload_n 2, 1) := by decide +kernel
theorem dX3_holdMeeting_23 : decode cX3_holdMeeting 23 = .ok (.iload 4, 2) := by decide +kernel
theorem dX3_holdMeeting_25 : decode cX3_holdMeeting 25 = .ok (.invokevirtual 70, 3) := by decide +kernel
theorem dX3_holdMeeting_28 : decode cX3_holdMeeting 28 = .ok (.istore 5, 2) := by decide +kernel
theorem dX3_holdMeeting_30 : decode cX3_holdMeeting 30 = .ok (.iload 5, 2) := by decide +kernel
theorem dX3_holdMeeting_32 : decode cX3_holdMeeting 32 = .ok (.bipush (-6), 2) := by decide +kernel
theorem dX3_holdMeeting_34 : decode cX3_holdMeeting 34 = .ok (.if_icmp .ne 11, 3) := by decide +kernel
theorem dX3_holdMeeting_37 : decode cX3_holdMeeting 37 = .ok (.aload_n 0, 1) := by decide +kernel
theorem dX3_holdMeeting_38 : decode cX3_holdMeeting 38 = .ok (.bipush 6, 2) := by decide +kernel
theorem dX3_holdMeeting_40 : decode cX3_holdMeeting 40 = .ok (.invokevirtual 67, 3) := by decide +kernel
theorem dX3_holdMeeting_43 : decode cX3_holdMeeting 43 = .ok (.istore 5, 2) := by decide +kernel
theorem dX3_holdMeeting_45 : decode cX3_holdMeeting 45 = .ok (.aload_n 0, 1) := by decide +kernel
theorem dX3_holdMeeting_46 : decode cX3_holdMeeting 46 = .ok (.dup, 1) := by decide +kernel
theorem dX3_holdMeeting_47 : decode cX3_holdMeeting 47 = .ok (.getfield 39, 3) := by decide +kernel
theorem dX3_holdMeeting_50 : decode cX3_holdMeeting 50 = .ok (.iconst 1, 1) := by decide +kernel
theorem dX3_holdMeeting_51 : decode cX3_holdMeeting 51 = .ok (.iadd, 1) := by decide +kernel
theorem dX3_holdMeeting_52 : decode cX3_holdMeeting 52 = .ok (.putfield 39, 3) := by decide +kernel
theorem dX3_holdMeeting_55 : decode cX3_holdMeeting 55 = .ok (.aload_n 1, 1) := by decide +kernel
theorem dX3_holdMeeting_56 : decode cX3_holdMeeting 56 = .ok (.dup, 1) := by decide +kernel
theorem dX3_holdMeeting_57 : decode cX3_holdMeeting 57 = .ok (.getfield 73, 3) := by decide +kernel
theorem dX3_holdMeeting_60 : decode cX3_holdMeeting 60 = .ok (.iconst 1, 1) := by decide +kernel
theorem dX3_holdMeeting_61 : decode cX3_holdMeeting 61 = .ok (.iadd, 1) := by decide +kernel
theorem dX3_holdMeeting_62 : decode cX3_holdMeeting 62 = .ok (.putfield 73, 3) := by decide +kernel
theorem dX3_holdMeeting_65 : decode cX3_holdMeeting 65 = .ok (.aload_n 2, 1) := by decide +kernel
theorem dX3_holdMeeting_66 : decode cX3_holdMeeting 66 = .ok (.dup, 1) := by decide +kernel
theorem dX3_holdMeeting_67 : decode cX3_holdMeeting 67 = .ok (.getfield 73, 3) := by decide +kernel
theorem dX3_holdMeeting_70 : decode cX3_holdMeeting 70 = .ok (.iconst 1, 1) := by decide +kernel
theorem dX3_holdMeeting_71 : decode cX3_holdMeeting 71 = .ok (.iadd, 1) := by decide +kernel
theorem dX3_holdMeeting_72 : decode cX3_holdMeeting 72 = .ok (.putfield 73, 3) := by decide +kernel
theorem dX3_holdMeeting_75 : decode cX3_holdMeeting 75 = .ok (.aload_n 0, 1) := by decide +kernel
theorem dX3_holdMeeting_76 : decode cX3_holdMeeting 76 = .ok (.getfield 18, 3) := by decide +kernel
theorem dX3_holdMeeting_79 : decode cX3_holdMeeting 79 = .ok (.iconst 1, 1) := by decide +kernel
theorem dX3_holdMeeting_80 : decode cX3_holdMeeting 80 = .ok (.iaload, 1) := by decide +kernel
theorem dX3_holdMeeting_81 : decode cX3_holdMeeting 81 = .ok (.istore 6, 2) := by decide +kernel
theorem dX3_holdMeeting_83 : decode cX3_holdMeeting 83 = .ok (.iload 5, 2) := by decide +kernel
theorem dX3_holdMeeting_85 : decode cX3_holdMeeting 85 = .ok (.iload_n 3, 1) := by decide +kernel
theorem dX3_holdMeeting_86 : decode cX3_holdMeeting 86 = .ok (.if_icmp .ne 55, 3) := by decide +kernel
theorem dX3_holdMeeting_89 : decode cX3_holdMeeting 89 = .ok (.aload_n 0, 1) := by decide +kernel
theorem dX3_holdMeeting_90 : decode cX3_holdMeeting 90 = .ok (.dup, 1) := by decide +kernel
theorem dX3_holdMeeting_91 : decode cX3_holdMeeting 91 = .ok (.getfield 42, 3) := by decide +kernel
theorem dX3_holdMeeting_94 : decode cX3_holdMeeting 94 = .ok (.iconst 1, 1) := by decide +kernel
theorem dX3_holdMeeting_95 : decode cX3_holdMeeting 95 = .ok (.iadd, 1) := by decide +kernel
theorem dX3_holdMeeting_96 : decode cX3_holdMeeting 96 = .ok (.putfield 42, 3) := by decide +kernel
theorem dX3_holdMeeting_99 : decode cX3_holdMeeting 99 = .ok (.aload_n 1, 1) := by decide +kernel
theorem dX3_holdMeeting_100 : decode cX3_holdMeeting 100 = .ok (.iload_n 3, 1) := by decide +kernel
theorem dX3_holdMeeting_101 : decode cX3_holdMeeting 101 = .ok (.iload 4, 2) := by decide +kernel
theorem dX3_holdMeeting_103 : decode cX3_holdMeeting 103 = .ok (.aload_n 0, 1) := by decide +kernel
theorem dX3_holdMeeting_104 : decode cX3_holdMeeting 104 = .ok (.getfield 18, 3) := by decide +kernel
theorem dX3_holdMeeting_107 : decode cX3_holdMeeting 107 = .ok (.iconst 0, 1) := by decide +kernel
theorem dX3_holdMeeting_108 : decode cX3_holdMeeting 108 = .ok (.iaload, 1) := by decide +kernel
theorem dX3_holdMeeting_109 : decode cX3_holdMeeting 109 = .ok (.iload 6, 2) := by decide +kernel
theorem dX3_holdMeeting_111 : decode cX3_holdMeeting 111 = .ok (.invokevirtual 74, 3) := by decide +kernel
theorem dX3_holdMeeting_114 : decode cX3_holdMeeting 114 = .ok (.aload_n 2, 1) := by decide +kernel
theorem dX3_holdMeeting_115 : decode cX3_holdMeeting 115 = .ok (.iload_n 3, 1) := by decide +kernel
theorem dX3_holdMeeting_116 : decode cX3_holdMeeting 116 = .ok (.iload 4, 2) := by decide +kernel
theorem dX3_holdMeeting_118 : decode cX3_holdMeeting 118 = .ok (.aload_n 0, 1) := by decide +kernel
theorem dX3_holdMeeting_119 : decode cX3_holdMeeting 119 = .ok (.getfield 18, 3) := by decide +kernel
theorem dX3_holdMeeting_122 : decode cX3_holdMeeting 122 = .ok (.iconst 0, 1) := by decide +kernel
theorem dX3_holdMeeting_123 : decode cX3_holdMeeting 123 = .ok (.iaload, 1) := by decide +kernel
theorem dX3_holdMeeting_124 : decode cX3_holdMeeting 124 = .ok (.iload 6, 2) := by decide +kernel
theorem dX3_holdMeeting_126 : decode cX3_holdMeeting 126 = .ok (.invokevirtual 74, 3) := by decide +kernel
theorem dX3_holdMeeting_129 : decode cX3_holdMeeting 129 = .ok (.aload_n 2, 1) := by decide +kernel
theorem dX3_holdMeeting_130 : decode cX3_holdMeeting 130 = .ok (.iload_n 3, 1) := by decide +kernel
theorem dX3_holdMeeting_131 : decode cX3_holdMeeting 131 = .ok (.iload 4, 2) := by decide +kernel
theorem dX3_holdMeeting_133 : decode cX3_holdMeeting 133 = .ok (.iload 6, 2) := by decide +kernel
theorem dX3_holdMeeting_135 : decode cX3_holdMeeting 135 = .ok (.invokevirtual 78, 3) := by decide +kernel
theorem dX3_holdMeeting_138 : decode cX3_holdMeeting 138 = .ok (.goto 32, 3) := by decide +kernel
theorem dX3_holdMeeting_141 : decode cX3_holdMeeting 141 = .ok (.aload_n 1, 1) := by decide +kernel
theorem dX3_holdMeeting_142 : decode cX3_holdMeeting 142 = .ok (.iload_n 3, 1) := by decide +kernel
theorem dX3_holdMeeting_143 : decode cX3_holdMeeting 143 = .ok (.iload 4, 2) := by decide +kernel
theorem dX3_holdMeeting_145 : decode cX3_holdMeeting 145 = .ok (.iload 6, 2) := by decide +kernel
theorem dX3_holdMeeting_147 : decode cX3_holdMeeting 147 = .ok (.ineg, 1) := by decide +kernel
theorem dX3_holdMeeting_148 : decode cX3_holdMeeting 148 = .ok (.invokevirtual 82, 3) := by decide +kernel
theorem dX3_holdMeeting_151 : decode cX3_holdMeeting 151 = .ok (.aload_n 2, 1) := by decide +kernel
theorem dX3_holdMeeting_152 : decode cX3_holdMeeting 152 = .ok (.iload_n 3, 1) := by decide +kernel
theorem dX3_holdMeeting_153 : decode cX3_holdMeeting 153 = .ok (.iload 4, 2) := by decide +kernel
theorem dX3_holdMeeting_155 : decode cX3_holdMeeting 155 = .ok (.iconst 1, 1) := by decide +kernel
theorem dX3_holdMeeting_156 : decode cX3_holdMeeting 156 = .ok (.invokevirtual 82, 3) := by decide +kernel
theorem dX3_holdMeeting_159 : decode cX3_holdMeeting 159 = .ok (.aload_n 2, 1) := by decide +kernel
theorem dX3_holdMeeting_160 : decode cX3_holdMeeting 160 = .ok (.iload 5, 2) := by decide +kernel
theorem dX3_holdMeeting_162 : decode cX3_holdMeeting 162 = .ok (.iload 4, 2) := by decide +kernel
theorem dX3_holdMeeting_164 : decode cX3_holdMeeting 164 = .ok (.iload 6, 2) := by decide +kernel
theorem dX3_holdMeeting_166 : decode cX3_holdMeeting 166 = .ok (.ineg, 1) := by decide +kernel
theorem dX3_holdMeeting_167 : decode cX3_holdMeeting 167 = .ok (.invokevirtual 82, 3) := by decide +kernel
theorem dX3_holdMeeting_170 : decode cX3_holdMeeting 170 = .ok (.bipush 10, 2) := by decide +kernel
theorem dX3_holdMeeting_172 : decode cX3_holdMeeting 172 = .ok (.iload 4, 2) := by decide +kernel
theorem dX3_holdMeeting_174 : decode cX3_holdMeeting 174 = .ok (.imul, 1) := by decide +kernel
theorem dX3_holdMeeting_175 : decode cX3_holdMeeting 175 = .ok (.iload 5, 2) := by decide +kernel
theorem dX3_holdMeeting_177 : decode cX3_holdMeeting 177 = .ok (.iadd, 1) := by decide +kernel
theorem dX3_holdMeeting_178 : decode cX3_holdMeeting 178 = .ok (.ireturn, 1) := by decide +kernel
theorem dX3_holdChats_0 : decode cX3_holdChats 0 = .ok (.aload_n 0, 1) := by decide +kernel
theorem dX3_holdChats_1 : decode cX3_holdChats 1 = .ok (.getfield 42, 3) := by decide +kernel
theorem dX3_holdChats_4 : decode cX3_holdChats 4 = .ok (.istore_n 2, 1) := by decide +kernel
theorem dX3_holdChats_5 : decode cX3_holdChats 5 = .ok (.aload_n 0, 1) := by decide +kernel
theorem dX3_holdChats_6 : decode cX3_holdChats 6 = .ok (.invokevirtual 85, 3) := by decide +kernel
theorem dX3_holdChats_9 : decode cX3_holdChats 9 = .ok (.istore_n 3, 1) := by decide +kernel
theorem dX3_holdChats_10 : decode cX3_holdChats 10 = .ok (.iconst 0, 1) := by decide +kernel
theorem dX3_holdChats_11 : decode cX3_holdChats 11 = .ok (.istore 4, 2) := by decide +kernel
theorem dX3_holdChats_13 : decode cX3_holdChats 13 = .ok (.iload 4, 2) := by decide +kernel
theorem dX3_holdChats_15 : decode cX3_holdChats 15 = .ok (.iload_n 1, 1) := by decide +kernel
theorem dX3_holdChats_16 : decode cX3_holdChats 16 = .ok (.if_icmp .ge 81, 3) := by decide +kernel
theorem dX3_holdChats_19 : decode cX3_holdChats 19 = .ok (.aload_n 0, 1) := by decide +kernel
theorem dX3_holdChats_20 : decode cX3_holdChats 20 = .ok (.aload_n 0, 1) := by decide +kernel
theorem dX3_holdChats_21 : decode cX3_holdChats 21 = .ok (.iload_n 3, 1) := by decide +kernel
theorem dX3_holdChats_22 : decode cX3_holdChats 22 = .ok (.invokevirtual 67, 3) := by decide +kernel
theorem dX3_holdChats_25 : decode cX3_holdChats 25 = .ok (.iconst (-1), 1) := by decide +kernel
theorem dX3_holdChats_26 : decode cX3_holdChats 26 = .ok (.invokevirtual 89, 3) := by decide +kernel
theorem dX3_holdChats_29 : decode cX3_holdChats 29 = .ok (.istore 5, 2) := by decide +kernel
theorem dX3_holdChats_31 : decode cX3_holdChats 31 = .ok (.aload_n 0, 1) := by decide +kernel
theorem dX3_holdChats_32 : decode cX3_holdChats 32 = .ok (.aload_n 0, 1) := by decide +kernel
theorem dX3_holdChats_33 : decode cX3_holdChats 33 = .ok (.iload_n 3, 1) := by decide +kernel
theorem dX3_holdChats_34 : decode cX3_holdChats 34 = .ok (.iconst 1, 1) := by decide +kernel
theorem dX3_holdChats_35 : decode cX3_holdChats 35 = .ok (.isub, 1) := by decide +kernel
theorem dX3_holdChats_36 : decode cX3_holdChats 36 = .ok (.invokevirtual 67, 3) := by decide +kernel
theorem dX3_holdChats_39 : decode cX3_holdChats 39 = .ok (.iload 5, 2) := by decide +kernel
theorem dX3_holdChats_41 : decode cX3_holdChats 41 = .ok (.invokevirtual 89, 3) := by decide +kernel
theorem dX3_holdChats_44 : decode cX3_holdChats 44 = .ok (.istore 6, 2) := by decide +kernel
theorem dX3_holdChats_46 : decode cX3_holdChats 46 = .ok (.aload_n 0, 1) := by decide +kernel
theorem dX3_holdChats_47 : decode cX3_holdChats 47 = .ok (.bipush 6, 2) := by decide +kernel
theorem dX3_holdChats_49 : decode cX3_holdChats 49 = .ok (.invokevirtual 67, 3) := by decide +kernel
theorem dX3_holdChats_52 : decode cX3_holdChats 52 = .ok (.istore 7, 2) := by decide +kernel
theorem dX3_holdChats_54 : decode cX3_holdChats 54 = .ok (.aload_n 0, 1) := by decide +kernel
theorem dX3_holdChats_55 : decode cX3_holdChats 55 = .ok (.iload 5, 2) := by decide +kernel
theorem dX3_holdChats_57 : decode cX3_holdChats 57 = .ok (.invokevirtual 93, 3) := by decide +kernel
theorem dX3_holdChats_60 : decode cX3_holdChats 60 = .ok (.astore 8, 2) := by decide +kernel
theorem dX3_holdChats_62 : decode cX3_holdChats 62 = .ok (.aload_n 0, 1) := by decide +kernel
theorem dX3_holdChats_63 : decode cX3_holdChats 63 = .ok (.iload 6, 2) := by decide +kernel
theorem dX3_holdChats_65 : decode cX3_holdChats 65 = .ok (.invokevirtual 93, 3) := by decide +kernel
theorem dX3_holdChats_68 : decode cX3_holdChats 68 = .ok (.astore 9, 2) := by decide +kernel
theorem dX3_holdChats_70 : decode cX3_holdChats 70 = .ok (.aload 8, 2) := by decide +kernel
theorem dX3_holdChats_72 : decode cX3_holdChats 72 = .ok (.ifnull 19, 3) := by decide +kernel
theorem dX3_holdChats_75 : decode cX3_holdChats 75 = .ok (.aload 9, 2) := by decide +kernel
theorem dX3_holdChats_77 : decode cX3_holdChats 77 = .ok (.ifnull 14, 3) := by decide +kernel
theorem dX3_holdChats_80 : decode cX3_holdChats 80 = .ok (.aload_n 0, 1) := by decide +kernel
theorem dX3_holdChats_81 : decode cX3_holdChats 81 = .ok (.aload 8, 2) := by decide +kernel
theorem dX3_holdChats_83 : decode cX3_holdChats 83 = .ok (.aload 9, 2) := by decide +kernel
theorem dX3_holdChats_85 : decode cX3_holdChats 85 = .ok (.iload 7, 2) := by decide +kernel
theorem dX3_holdChats_87 : decode cX3_holdChats 87 = .ok (.invokevirtual 97, 3) := by decide +kernel
theorem dX3_holdChats_90 : decode cX3_holdChats 90 = .ok (.pop, 1) := by decide +kernel
theorem dX3_holdChats_91 : decode cX3_holdChats 91 = .ok (.iinc 4 1, 3) := by decide +kernel
theorem dX3_holdChats_94 : decode cX3_holdChats 94 = .ok (.goto (-81), 3) := by decide +kernel
theorem dX3_holdChats_97 : decode cX3_holdChats 97 = .ok (.aload_n 0, 1) := by decide +kernel
theorem dX3_holdChats_98 : decode cX3_holdChats 98 = .ok (.getfield 42, 3) := by decide +kernel
theorem dX3_holdChats_101 : decode cX3_holdChats 101 = .ok (.iload_n 2, 1) := by decide +kernel
theorem dX3_holdChats_102 : decode cX3_holdChats 102 = .ok (.isub, 1) := by decide +kernel
theorem dX3_holdChats_103 : decode cX3_holdChats 103 = .ok (.ireturn, 1) := by decide +kernel
theorem dX3_passYears_0 : decode cX3_passYears 0 = .ok (.aload_n 0, 1) := by decide +kernel
theorem dX3_passYears_1 : decode cX3_passYears 1 = .ok (.getfield 45, 3) := by decide +kernel
theorem dX3_passYears_4 : decode cX3_passYears 4 = .ok (.istore_n 2, 1) := by decide +kernel
theorem dX3_passYears_5 : decode cX3_passYears 5 = .ok (.iconst 0, 1) := by decide +kernel
theorem dX3_passYears_6 : decode cX3_passYears 6 = .ok (.istore_n 3, 1) := by decide +kernel
theorem dX3_passYears_7 : decode cX3_passYears 7 = .ok (.iload_n 3, 1) := by decide +kernel
theorem dX3_passYears_8 : decode cX3_passYears 8 = .ok (.iload_n 1, 1) := by decide +kernel
theorem dX3_passYears_9 : decode cX3_passYears 9 = .ok (.if_icmp .ge 13, 3) := by decide +kernel
theorem dX3_passYears_12 : decode cX3_passYears 12 = .ok (.aload_n 0, 1) := by decide +kernel
theorem dX3_passYears_13 : decode cX3_passYears 13 = .ok (.invokevirtual 101, 3) := by decide +kernel
theorem dX3_passYears_16 : decode cX3_passYears 16 = .ok (.iinc 3 1, 3) := by decide +kernel
theorem dX3_passYears_19 : decode cX3_passYears 19 = .ok (.goto (-12), 3) := by decide +kernel
theorem dX3_passYears_22 : decode cX3_passYears 22 = .ok (.aload_n 0, 1) := by decide +kernel
theorem dX3_passYears_23 : decode cX3_passYears 23 = .ok (.getfield 45, 3) := by decide +kernel
theorem dX3_passYears_26 : decode cX3_passYears 26 = .ok (.iload_n 2, 1) := by decide +kernel
theorem dX3_passYears_27 : decode cX3_passYears 27 = .ok (.isub, 1) := by decide +kernel
theorem dX3_passYears_28 : decode cX3_passYears 28 = .ok (.ireturn, 1) := by decide +kernel
theorem dX3_passYear_0 : decode cX3_passYear 0 = .ok (.aload_n 0, 1) := by decide +kernel
theorem dX3_passYear_1 : decode cX3_passYear 1 = .ok (.dup, 1) := by decide +kernel
theorem dX3_passYear_2 : decode cX3_passYear 2 = .ok (.getfield 48, 3) := by decide +kernel
theorem dX3_passYear_5 : decode cX3_passYear 5 = .ok (.iconst 1, 1) := by decide +kernel
theorem dX3_passYear_6 : decode cX3_passYear 6 = .ok (.iadd, 1) := by decide +kernel
theorem dX3_passYear_7 : decode cX3_passYear 7 = .ok (.putfield 48, 3) := by decide +kernel
theorem dX3_passYear_10 : decode cX3_passYear 10 = .ok (.iconst 0, 1) := by decide +kernel
theorem dX3_passYear_11 : decode cX3_passYear 11 = .ok (.istore_n 1, 1) := by decide +kernel
theorem dX3_passYear_12 : decode cX3_passYear 12 = .ok (.iload_n 1, 1) := by decide +kernel
theorem dX3_passYear_13 : decode cX3_passYear 13 = .ok (.bipush 8, 2) := by decide +kernel
theorem dX3_passYear_15 : decode cX3_passYear 15 = .ok (.if_icmp .ge 36, 3) := by decide +kernel
theorem dX3_passYear_18 : decode cX3_passYear 18 = .ok (.aload_n 0, 1) := by decide +kernel
theorem dX3_passYear_19 : decode cX3_passYear 19 = .ok (.getfield 11, 3) := by decide +kernel
theorem dX3_passYear_22 : decode cX3_passYear 22 = .ok (.iload_n 1, 1) := by decide +kernel
theorem dX3_passYear_23 : decode cX3_passYear 23 = .ok (.aaload, 1) := by decide +kernel
theorem dX3_passYear_24 : decode cX3_passYear 24 = .ok (.getfield 55, 3) := by decide +kernel
theorem dX3_passYear_27 : decode cX3_passYear 27 = .ok (.ifCond .eq 18, 3) := by decide +kernel
theorem dX3_passYear_30 : decode cX3_passYear 30 = .ok (.aload_n 0, 1) := by decide +kernel
theorem dX3_passYear_31 : decode cX3_passYear 31 = .ok (.getfield 11, 3) := by decide +kernel
theorem dX3_passYear_34 : decode cX3_passYear 34 = .ok (.iload_n 1, 1) := by decide +kernel
theorem dX3_passYear_35 : decode cX3_passYear 35 = .ok (.aaload, 1) := by decide +kernel
theorem dX3_passYear_36 : decode cX3_passYear 36 = .ok (.dup, 1) := by decide +kernel
theorem dX3_passYear_37 : decode cX3_passYear 37 = .ok (.getfield 104, 3) := by decide +kernel
theorem dX3_passYear_40 : decode cX3_passYear 40 = .ok (.iconst 1, 1) := by decide +kernel
theorem dX3_passYear_41 : decode cX3_passYear 41 = .ok (.iadd, 1) := by decide +kernel
theorem dX3_passYear_42 : decode cX3_passYear 42 = .ok (.putfield 104, 3) := by decide +kernel
theorem dX3_passYear_45 : decode cX3_passYear 45 = .ok (.iinc 1 1, 3) := by decide +kernel
theorem dX3_passYear_48 : decode cX3_passYear 48 = .ok (.goto (-36), 3) := by decide +kernel
theorem dX3_passYear_51 : decode cX3_passYear 51 = .ok (.iconst 0, 1) := by decide +kernel
theorem dX3_passYear_52 : decode cX3_passYear 52 = .ok (.istore_n 1, 1) := by decide +kernel
theorem dX3_passYear_53 : decode cX3_passYear 53 = .ok (.iload_n 1, 1) := by decide +kernel
theorem dX3_passYear_54 : decode cX3_passYear 54 = .ok (.bipush 8, 2) := by decide +kernel
theorem dX3_passYear_56 : decode cX3_passYear 56 = .ok (.if_icmp .ge 61, 3) := by decide +kernel
theorem dX3_passYear_59 : decode cX3_passYear 59 = .ok (.aload_n 0, 1) := by decide +kernel
theorem dX3_passYear_60 : decode cX3_passYear 60 = .ok (.getfield 11, 3) := by decide +kernel
theorem dX3_passYear_63 : decode cX3_passYear 63 = .ok (.iload_n 1, 1) := by decide +kernel
theorem dX3_passYear_64 : decode cX3_passYear 64 = .ok (.aaload, 1) := by decide +kernel
theorem dX3_passYear_65 : decode cX3_passYear 65 = .ok (.astore_n 2, 1) := by decide +kernel
theorem dX3_passYear_66 : decode cX3_passYear 66 = .ok (.aload_n 2, 1) := by decide +kernel
theorem dX3_passYear_67 : decode cX3_passYear 67 = .ok (.getfield 55, 3) := by decide +kernel
theorem dX3_passYear_70 : decode cX3_passYear 70 = .ok (.ifCond .eq 41, 3) := by decide +kernel
theorem dX3_passYear_73 : decode cX3_passYear 73 = .ok (.aload_n 2, 1) := by decide +kernel
theorem dX3_passYear_74 : decode cX3_passYear 74 = .ok (.getfield 104, 3) := by decide +kernel
theorem dX3_passYear_77 : decode cX3_passYear 77 = .ok (.aload_n 0, 1) := by decide +kernel
theorem dX3_passYear_78 : decode cX3_passYear 78 = .ok (.getfield 18, 3) := by decide +kernel
theorem dX3_passYear_81 : decode cX3_passYear 81 = .ok (.iconst 2, 1) := by decide +kernel
theorem dX3_passYear_82 : decode cX3_passYear 82 = .ok (.iaload, 1) := by decide +kernel
theorem dX3_passYear_83 : decode cX3_passYear 83 = .ok (.if_icmp .le 28, 3) := by decide +kernel
theorem dX3_passYear_86 : decode cX3_passYear 86 = .ok (.aload_n 2, 1) := by decide +kernel
theorem dX3_passYear_87 : decode cX3_passYear 87 = .ok (.aload_n 0, 1) := by decide +kernel
theorem dX3_passYear_88 : decode cX3_passYear 88 = .ok (.iload_n 1, 1) := by decide +kernel
theorem dX3_passYear_89 : decode cX3_passYear 89 = .ok (.invokevirtual 105, 3) := by decide +kernel
theorem dX3_passYear_92 : decode cX3_passYear 92 = .ok (.aload_n 0, 1) := by decide +kernel
theorem dX3_passYear_93 : decode cX3_passYear 93 = .ok (.getfield 18, 3) := by decide +kernel
theorem dX3_passYear_96 : decode cX3_passYear 96 = .ok (.iconst 3, 1) := by decide +kernel
theorem dX3_passYear_97 : decode cX3_passYear 97 = .ok (.iaload, 1) := by decide +kernel
theorem dX3_passYear_98 : decode cX3_passYear 98 = .ok (.invokevirtual 108, 3) := by decide +kernel
theorem dX3_passYear_101 : decode cX3_passYear 101 = .ok (.aload_n 0, 1) := by decide +kernel
theorem dX3_passYear_102 : decode cX3_passYear 102 = .ok (.dup, 1) := by decide +kernel
theorem dX3_passYear_103 : decode cX3_passYear 103 = .ok (.getfield 45, 3) := by decide +kernel
theorem dX3_passYear_106 : decode cX3_passYear 106 = .ok (.iconst 1, 1) := by decide +kernel
theorem dX3_passYear_107 : decode cX3_passYear 107 = .ok (.iadd, 1) := by decide +kernel
theorem dX3_passYear_108 : decode cX3_passYear 108 = .ok (.putfield 45, 3) := by decide +kernel
theorem dX3_passYear_111 : decode cX3_passYear 111 = .ok (.iinc 1 1, 3) := by decide +kernel
theorem dX3_passYear_114 : decode cX3_passYear 114 = .ok (.goto (-61), 3) := by decide +kernel
theorem dX3_passYear_117 : decode cX3_passYear 117 = .ok (.return_, 1) := by decide +kernel
theorem dX3_teacherFor_0 : decode cX3_teacherFor 0 = .ok (.aconst_null, 1) := by decide +kernel
theorem dX3_teacherFor_1 : decode cX3_teacherFor 1 = .ok (.astore_n 2, 1) := by decide +kernel
theorem dX3_teacherFor_2 : decode cX3_teacherFor 2 = .ok (.iconst 0, 1) := by decide +kernel
theorem dX3_teacherFor_3 : decode cX3_teacherFor 3 = .ok (.istore_n 3, 1) := by decide +kernel
theorem dX3_teacherFor_4 : decode cX3_teacherFor 4 = .ok (.iload_n 3, 1) := by decide +kernel
theorem dX3_teacherFor_5 : decode cX3_teacherFor 5 = .ok (.bipush 8, 2) := by decide +kernel
theorem dX3_teacherFor_7 : decode cX3_teacherFor 7 = .ok (.if_icmp .ge 66, 3) := by decide +kernel
theorem dX3_teacherFor_10 : decode cX3_teacherFor 10 = .ok (.aload_n 0, 1) := by decide +kernel
theorem dX3_teacherFor_11 : decode cX3_teacherFor 11 = .ok (.getfield 11, 3) := by decide +kernel
theorem dX3_teacherFor_14 : decode cX3_teacherFor 14 = .ok (.iload_n 3, 1) := by decide +kernel
theorem dX3_teacherFor_15 : decode cX3_teacherFor 15 = .ok (.aaload, 1) := by decide +kernel
theorem dX3_teacherFor_16 : decode cX3_teacherFor 16 = .ok (.astore 4, 2) := by decide +kernel
theorem dX3_teacherFor_18 : decode cX3_teacherFor 18 = .ok (.iload_n 3, 1) := by decide +kernel
theorem dX3_teacherFor_19 : decode cX3_teacherFor 19 = .ok (.iload_n 1, 1) := by decide +kernel
theorem dX3_teacherFor_20 : decode cX3_teacherFor 20 = .ok (.if_icmp .eq 47, 3) := by decide +kernel
theorem dX3_teacherFor_23 : decode cX3_teacherFor 23 = .ok (.aload 4, 2) := by decide +kernel
theorem dX3_teacherFor_25 : decode cX3_teacherFor 25 = .ok (.getfield 55, 3) := by decide +kernel
theorem dX3_teacherFor_28 : decode cX3_teacherFor 28 = .ok (.ifCond .eq 39, 3) := by decide +kernel
theorem dX3_teacherFor_31 : decode cX3_teacherFor 31 = .ok (.aload 4, 2) := by decide +kernel
theorem dX3_teacherFor_33 : decode cX3_teacherFor 33 = .ok (.getfield 104, 3) := by decide +kernel
theorem dX3_teacherFor_36 : decode cX3_teacherFor 36 = .ok (.aload_n 0, 1) := by decide +kernel
theorem dX3_teacherFor_37 : decode cX3_teacherFor 37 = .ok (.getfield 18, 3) := by decide +kernel
theorem dX3_teacherFor_40 : decode cX3_teacherFor 40 = .ok (.iconst 2, 1) := by decide +kernel
theorem dX3_teacherFor_41 : decode cX3_teacherFor 41 = .ok (.iaload, 1) := by decide +kernel
theorem dX3_teacherFor_42 : decode cX3_teacherFor 42 = .ok (.if_icmp .le 6, 3) := by decide +kernel
theorem dX3_teacherFor_45 : decode cX3_teacherFor 45 = .ok (.goto 22, 3) := by decide +kernel
theorem dX3_teacherFor_48 : decode cX3_teacherFor 48 = .ok (.aload_n 2, 1) := by decide +kernel
theorem dX3_teacherFor_49 : decode cX3_teacherFor 49 = .ok (.ifnull 15, 3) := by decide +kernel
theorem dX3_teacherFor_52 : decode cX3_teacherFor 52 = .ok (.aload 4, 2) := by decide +kernel
theorem dX3_teacherFor_54 : decode cX3_teacherFor 54 = .ok (.getfield 104, 3) := by decide +kernel
theorem dX3_teacherFor_57 : decode cX3_teacherFor 57 = .ok (.aload_n 2, 1) := by decide +kernel
theorem dX3_teacherFor_58 : decode cX3_teacherFor 58 = .ok (.getfield 104, 3) := by decide +kernel
theorem dX3_teacherFor_61 : decode cX3_teacherFor 61 = .ok (.if_icmp .ge 6, 3) := by decide +kernel
theorem dX3_teacherFor_64 : decode cX3_teacherFor 64 = .ok (.aload 4, 2) := by decide +kernel
theorem dX3_teacherFor_66 : decode cX3_teacherFor 66 = .ok (.astore_n 2, 1) := by decide +kernel
theorem dX3_teacherFor_67 : decode cX3_teacherFor 67 = .ok (.iinc 3 1, 3) := by decide +kernel
theorem dX3_teacherFor_70 : decode cX3_teacherFor 70 = .ok (.goto (-66), 3) := by decide +kernel
theorem dX3_teacherFor_73 : decode cX3_teacherFor 73 = .ok (.aload_n 2, 1) := by decide +kernel
theorem dX3_teacherFor_74 : decode cX3_teacherFor 74 = .ok (.areturn, 1) := by decide +kernel
theorem dX3_numberOf_0 : decode cX3_numberOf 0 = .ok (.iload_n 1, 1) := by decide +kernel
theorem dX3_numberOf_1 : decode cX3_numberOf 1 = .ok (.tableswitch 69 0 5 #[39, 44, 49, 54, 59, 64], 39) := by decide +kernel
theorem dX3_numberOf_40 : decode cX3_numberOf 40 = .ok (.aload_n 0, 1) := by decide +kernel
theorem dX3_numberOf_41 : decode cX3_numberOf 41 = .ok (.invokevirtual 85, 3) := by decide +kernel
theorem dX3_numberOf_44 : decode cX3_numberOf 44 = .ok (.ireturn, 1) := by decide +kernel
theorem dX3_numberOf_45 : decode cX3_numberOf 45 = .ok (.aload_n 0, 1) := by decide +kernel
theorem dX3_numberOf_46 : decode cX3_numberOf 46 = .ok (.getfield 25, 3) := by decide +kernel
theorem dX3_numberOf_49 : decode cX3_numberOf 49 = .ok (.ireturn, 1) := by decide +kernel
theorem dX3_numberOf_50 : decode cX3_numberOf 50 = .ok (.aload_n 0, 1) := by decide +kernel
theorem dX3_numberOf_51 : decode cX3_numberOf 51 = .ok (.getfield 39, 3) := by decide +kernel
theorem dX3_numberOf_54 : decode cX3_numberOf 54 = .ok (.ireturn, 1) := by decide +kernel
theorem dX3_numberOf_55 : decode cX3_numberOf 55 = .ok (.aload_n 0, 1) := by decide +kernel
theorem dX3_numberOf_56 : decode cX3_numberOf 56 = .ok (.getfield 42, 3) := by decide +kernel
theorem dX3_numberOf_59 : decode cX3_numberOf 59 = .ok (.ireturn, 1) := by decide +kernel
theorem dX3_numberOf_60 : decode cX3_numberOf 60 = .ok (.aload_n 0, 1) := by decide +kernel
theorem dX3_numberOf_61 : decode cX3_numberOf 61 = .ok (.getfield 45, 3) := by decide +kernel
theorem dX3_numberOf_64 : decode cX3_numberOf 64 = .ok (.ireturn, 1) := by decide +kernel
theorem dX3_numberOf_65 : decode cX3_numberOf 65 = .ok (.aload_n 0, 1) := by decide +kernel
theorem dX3_numberOf_66 : decode cX3_numberOf 66 = .ok (.getfield 48, 3) := by decide +kernel
theorem dX3_numberOf_69 : decode cX3_numberOf 69 = .ok (.ireturn, 1) := by decide +kernel
theorem dX3_numberOf_70 : decode cX3_numberOf 70 = .ok (.aload_n 0, 1) := by decide +kernel
theorem dX3_numberOf_71 : decode cX3_numberOf 71 = .ok (.invokevirtual 112, 3) := by decide +kernel
theorem dX3_numberOf_74 : decode cX3_numberOf 74 = .ok (.ireturn, 1) := by decide +kernel
theorem dX3_numberOfSpeaker_0 : decode cX3_numberOfSpeaker 0 = .ok (.iload_n 2, 1) := by decide +kernel
theorem dX3_numberOfSpeaker_1 : decode cX3_numberOfSpeaker 1 = .ok (.tableswitch 57 0 3 #[31, 36, 47, 52], 31) := by decide +kernel
theorem dX3_numberOfSpeaker_32 : decode cX3_numberOfSpeaker 32 = .ok (.aload_n 1, 1) := by decide +kernel
theorem dX3_numberOfSpeaker_33 : decode cX3_numberOfSpeaker 33 = .ok (.getfield 104, 3) := by decide +kernel
theorem dX3_numberOfSpeaker_36 : decode cX3_numberOfSpeaker 36 = .ok (.ireturn, 1) := by decide +kernel
theorem dX3_numberOfSpeaker_37 : decode cX3_numberOfSpeaker 37 = .ok (.aload_n 1, 1) := by decide +kernel
theorem dX3_numberOfSpeaker_38 : decode cX3_numberOfSpeaker 38 = .ok (.aload_n 0, 1) := by decide +kernel
theorem dX3_numberOfSpeaker_39 : decode cX3_numberOfSpeaker 39 = .ok (.getfield 18, 3) := by decide +kernel
theorem dX3_numberOfSpeaker_42 : decode cX3_numberOfSpeaker 42 = .ok (.iconst 0, 1) := by decide +kernel
theorem dX3_numberOfSpeaker_43 : decode cX3_numberOfSpeaker 43 = .ok (.iaload, 1) := by decide +kernel
theorem dX3_numberOfSpeaker_44 : decode cX3_numberOfSpeaker 44 = .ok (.invokevirtual 115, 3) := by decide +kernel
theorem dX3_numberOfSpeaker_47 : decode cX3_numberOfSpeaker 47 = .ok (.ireturn, 1) := by decide +kernel
theorem dX3_numberOfSpeaker_48 : decode cX3_numberOfSpeaker 48 = .ok (.aload_n 1, 1) := by decide +kernel
theorem dX3_numberOfSpeaker_49 : decode cX3_numberOfSpeaker 49 = .ok (.invokevirtual 118, 3) := by decide +kernel
theorem dX3_numberOfSpeaker_52 : decode cX3_numberOfSpeaker 52 = .ok (.ireturn, 1) := by decide +kernel
theorem dX3_numberOfSpeaker_53 : decode cX3_numberOfSpeaker 53 = .ok (.aload_n 1, 1) := by decide +kernel
theorem dX3_numberOfSpeaker_54 : decode cX3_numberOfSpeaker 54 = .ok (.invokevirtual 121, 3) := by decide +kernel
theorem dX3_numberOfSpeaker_57 : decode cX3_numberOfSpeaker 57 = .ok (.ireturn, 1) := by decide +kernel
theorem dX3_numberOfSpeaker_58 : decode cX3_numberOfSpeaker 58 = .ok (.aload_n 1, 1) := by decide +kernel
theorem dX3_numberOfSpeaker_59 : decode cX3_numberOfSpeaker 59 = .ok (.getfield 73, 3) := by decide +kernel
theorem dX3_numberOfSpeaker_62 : decode cX3_numberOfSpeaker 62 = .ok (.ireturn, 1) := by decide +kernel
theorem dX3_sumOfWeights_0 : decode cX3_sumOfWeights 0 = .ok (.iconst 0, 1) := by decide +kernel
theorem dX3_sumOfWeights_1 : decode cX3_sumOfWeights 1 = .ok (.istore_n 1, 1) := by decide +kernel
theorem dX3_sumOfWeights_2 : decode cX3_sumOfWeights 2 = .ok (.iconst 0, 1) := by decide +kernel
theorem dX3_sumOfWeights_3 : decode cX3_sumOfWeights 3 = .ok (.istore_n 2, 1) := by decide +kernel
theorem dX3_sumOfWeights_4 : decode cX3_sumOfWeights 4 = .ok (.iload_n 2, 1) := by decide +kernel
theorem dX3_sumOfWeights_5 : decode cX3_sumOfWeights 5 = .ok (.bipush 8, 2) := by decide +kernel
theorem dX3_sumOfWeights_7 : decode cX3_sumOfWeights 7 = .ok (.if_icmp .ge 33, 3) := by decide +kernel
theorem dX3_sumOfWeights_10 : decode cX3_sumOfWeights 10 = .ok (.aload_n 0, 1) := by decide +kernel
theorem dX3_sumOfWeights_11 : decode cX3_sumOfWeights 11 = .ok (.getfield 11, 3) := by decide +kernel
theorem dX3_sumOfWeights_14 : decode cX3_sumOfWeights 14 = .ok (.iload_n 2, 1) := by decide +kernel
theorem dX3_sumOfWeights_15 : decode cX3_sumOfWeights 15 = .ok (.aaload, 1) := by decide +kernel
theorem dX3_sumOfWeights_16 : decode cX3_sumOfWeights 16 = .ok (.getfield 55, 3) := by decide +kernel
theorem dX3_sumOfWeights_19 : decode cX3_sumOfWeights 19 = .ok (.ifCond .eq 15, 3) := by decide +kernel
theorem dX3_sumOfWeights_22 : decode cX3_sumOfWeights 22 = .ok (.iload_n 1, 1) := by decide +kernel
theorem dX3_sumOfWeights_23 : decode cX3_sumOfWeights 23 = .ok (.aload_n 0, 1) := by decide +kernel
theorem dX3_sumOfWeights_24 : decode cX3_sumOfWeights 24 = .ok (.getfield 11, 3) := by decide +kernel
theorem dX3_sumOfWeights_27 : decode cX3_sumOfWeights 27 = .ok (.iload_n 2, 1) := by decide +kernel
theorem dX3_sumOfWeights_28 : decode cX3_sumOfWeights 28 = .ok (.aaload, 1) := by decide +kernel
theorem dX3_sumOfWeights_29 : decode cX3_sumOfWeights 29 = .ok (.invokevirtual 124, 3) := by decide +kernel
theorem dX3_sumOfWeights_32 : decode cX3_sumOfWeights 32 = .ok (.iadd, 1) := by decide +kernel
theorem dX3_sumOfWeights_33 : decode cX3_sumOfWeights 33 = .ok (.istore_n 1, 1) := by decide +kernel
theorem dX3_sumOfWeights_34 : decode cX3_sumOfWeights 34 = .ok (.iinc 2 1, 3) := by decide +kernel
theorem dX3_sumOfWeights_37 : decode cX3_sumOfWeights 37 = .ok (.goto (-33), 3) := by decide +kernel
theorem dX3_sumOfWeights_40 : decode cX3_sumOfWeights 40 = .ok (.iload_n 1, 1) := by decide +kernel
theorem dX3_sumOfWeights_41 : decode cX3_sumOfWeights 41 = .ok (.ireturn, 1) := by decide +kernel
theorem dX3_commonWord_0 : decode cX3_commonWord 0 = .ok (.aload_n 0, 1) := by decide +kernel
theorem dX3_commonWord_1 : decode cX3_commonWord 1 = .ok (.iload_n 1, 1) := by decide +kernel
theorem dX3_commonWord_2 : decode cX3_commonWord 2 = .ok (.invokevirtual 125, 3) := by decide +kernel
theorem dX3_commonWord_5 : decode cX3_commonWord 5 = .ok (.bipush (-6), 2) := by decide +kernel
theorem dX3_commonWord_7 : decode cX3_commonWord 7 = .ok (.istore_n 2, 1) := by decide +kernel
theorem dX3_commonWord_8 : decode cX3_commonWord 8 = .ok (.iconst 0, 1) := by decide +kernel
theorem dX3_commonWord_9 : decode cX3_commonWord 9 = .ok (.istore_n 3, 1) := by decide +kernel
theorem dX3_commonWord_10 : decode cX3_commonWord 10 = .ok (.iconst 0, 1) := by decide +kernel
theorem dX3_commonWord_11 : decode cX3_commonWord 11 = .ok (.istore 4, 2) := by decide +kernel
theorem dX3_commonWord_13 : decode cX3_commonWord 13 = .ok (.iload 4, 2) := by decide +kernel
theorem dX3_commonWord_15 : decode cX3_commonWord 15 = .ok (.bipush 14, 2) := by decide +kernel
theorem dX3_commonWord_17 : decode cX3_commonWord 17 = .ok (.if_icmp .ge 31, 3) := by decide +kernel
theorem dX3_commonWord_20 : decode cX3_commonWord 20 = .ok (.aload_n 0, 1) := by decide +kernel
theorem dX3_commonWord_21 : decode cX3_commonWord 21 = .ok (.getfield 22, 3) := by decide +kernel
theorem dX3_commonWord_24 : decode cX3_commonWord 24 = .ok (.iload 4, 2) := by decide +kernel
theorem dX3_commonWord_26 : decode cX3_commonWord 26 = .ok (.iaload, 1) := by decide +kernel
theorem dX3_commonWord_27 : decode cX3_commonWord 27 = .ok (.iload_n 3, 1) := by decide +kernel
theorem dX3_commonWord_28 : decode cX3_commonWord 28 = .ok (.if_icmp .le 14, 3) := by decide +kernel
theorem dX3_commonWord_31 : decode cX3_commonWord 31 = .ok (.aload_n 0, 1) := by decide +kernel
theorem dX3_commonWord_32 : decode cX3_commonWord 32 = .ok (.getfield 22, 3) := by decide +kernel
theorem dX3_commonWord_35 : decode cX3_commonWord 35 = .ok (.iload 4, 2) := by decide +kernel
theorem dX3_commonWord_37 : decode cX3_commonWord 37 = .ok (.iaload, 1) := by decide +kernel
theorem dX3_commonWord_38 : decode cX3_commonWord 38 = .ok (.istore_n 3, 1) := by decide +kernel
theorem dX3_commonWord_39 : decode cX3_commonWord 39 = .ok (.iload 4, 2) := by decide +kernel
theorem dX3_commonWord_41 : decode cX3_commonWord 41 = .ok (.istore_n 2, 1) := by decide +kernel
theorem dX3_commonWord_42 : decode cX3_commonWord 42 = .ok (.iinc 4 1, 3) := by decide +kernel
theorem dX3_commonWord_45 : decode cX3_commonWord 45 = .ok (.goto (-32), 3) := by decide +kernel
theorem dX3_commonWord_48 : decode cX3_commonWord 48 = .ok (.iload_n 2, 1) := by decide +kernel
theorem dX3_commonWord_49 : decode cX3_commonWord 49 = .ok (.ireturn, 1) := by decide +kernel
theorem dX3_countUsers_0 : decode cX3_countUsers 0 = .ok (.iconst 0, 1) := by decide +kernel
theorem dX3_countUsers_1 : decode cX3_countUsers 1 = .ok (.istore_n 2, 1) := by decide +kernel
theorem dX3_countUsers_2 : decode cX3_countUsers 2 = .ok (.iload_n 2, 1) := by decide +kernel
theorem dX3_countUsers_3 : decode cX3_countUsers 3 = .ok (.bipush 14, 2) := by decide +kernel
theorem dX3_countUsers_5 : decode cX3_countUsers 5 = .ok (.if_icmp .ge 16, 3) := by decide +kernel
theorem dX3_countUsers_8 : decode cX3_countUsers 8 = .ok (.aload_n 0, 1) := by decide +kernel
theorem dX3_countUsers_9 : decode cX3_countUsers 9 = .ok (.getfield 22, 3) := by decide +kernel
theorem dX3_countUsers_12 : decode cX3_countUsers 12 = .ok (.iload_n 2, 1) := by decide +kernel
theorem dX3_countUsers_13 : decode cX3_countUsers 13 = .ok (.iconst 0, 1) := by decide +kernel
theorem dX3_countUsers_14 : decode cX3_countUsers 14 = .ok (.iastore, 1) := by decide +kernel
theorem dX3_countUsers_15 : decode cX3_countUsers 15 = .ok (.iinc 2 1, 3) := by decide +kernel
theorem dX3_countUsers_18 : decode cX3_countUsers 18 = .ok (.goto (-16), 3) := by decide +kernel
theorem dX3_countUsers_21 : decode cX3_countUsers 21 = .ok (.iconst 0, 1) := by decide +kernel
theorem dX3_countUsers_22 : decode cX3_countUsers 22 = .ok (.istore_n 2, 1) := by decide +kernel
theorem dX3_countUsers_23 : decode cX3_countUsers 23 = .ok (.iload_n 2, 1) := by decide +kernel
theorem dX3_countUsers_24 : decode cX3_countUsers 24 = .ok (.bipush 8, 2) := by decide +kernel
theorem dX3_countUsers_26 : decode cX3_countUsers 26 = .ok (.if_icmp .ge 54, 3) := by decide +kernel
theorem dX3_countUsers_29 : decode cX3_countUsers 29 = .ok (.aload_n 0, 1) := by decide +kernel
theorem dX3_countUsers_30 : decode cX3_countUsers 30 = .ok (.getfield 11, 3) := by decide +kernel
theorem dX3_countUsers_33 : decode cX3_countUsers 33 = .ok (.iload_n 2, 1) := by decide +kernel
theorem dX3_countUsers_34 : decode cX3_countUsers 34 = .ok (.aaload, 1) := by decide +kernel
theorem dX3_countUsers_35 : decode cX3_countUsers 35 = .ok (.getfield 55, 3) := by decide +kernel
theorem dX3_countUsers_38 : decode cX3_countUsers 38 = .ok (.ifCond .eq 16, 3) := by decide +kernel
theorem dX3_countUsers_41 : decode cX3_countUsers 41 = .ok (.aload_n 0, 1) := by decide +kernel
theorem dX3_countUsers_42 : decode cX3_countUsers 42 = .ok (.getfield 11, 3) := by decide +kernel
theorem dX3_countUsers_45 : decode cX3_countUsers 45 = .ok (.iload_n 2, 1) := by decide +kernel
theorem dX3_countUsers_46 : decode cX3_countUsers 46 = .ok (.aaload, 1) := by decide +kernel
theorem dX3_countUsers_47 : decode cX3_countUsers 47 = .ok (.iload_n 1, 1) := by decide +kernel
theorem dX3_countUsers_48 : decode cX3_countUsers 48 = .ok (.invokevirtual 63, 3) := by decide +kernel
theorem dX3_countUsers_51 : decode cX3_countUsers 51 = .ok (.goto 5, 3) := by decide +kernel
theorem dX3_countUsers_54 : decode cX3_countUsers 54 = .ok (.bipush (-6), 2) := by decide +kernel
theorem dX3_countUsers_56 : decode cX3_countUsers 56 = .ok (.istore_n 3, 1) := by decide +kernel
theorem dX3_countUsers_57 : decode cX3_countUsers 57 = .ok (.iload_n 3, 1) := by decide +kernel
theorem dX3_countUsers_58 : decode cX3_countUsers 58 = .ok (.invokestatic 129, 3) := by decide +kernel
theorem dX3_countUsers_61 : decode cX3_countUsers 61 = .ok (.ifCond .eq 13, 3) := by decide +kernel
theorem dX3_countUsers_64 : decode cX3_countUsers 64 = .ok (.aload_n 0, 1) := by decide +kernel
theorem dX3_countUsers_65 : decode cX3_countUsers 65 = .ok (.getfield 22, 3) := by decide +kernel
theorem dX3_countUsers_68 : decode cX3_countUsers 68 = .ok (.iload_n 3, 1) := by decide +kernel
theorem dX3_countUsers_69 : decode cX3_countUsers 69 = .ok (.dup2, 1) := by decide +kernel
theorem dX3_countUsers_70 : decode cX3_countUsers 70 = .ok (.iaload, 1) := by decide +kernel
theorem dX3_countUsers_71 : decode cX3_countUsers 71 = .ok (.iconst 1, 1) := by decide +kernel
theorem dX3_countUsers_72 : decode cX3_countUsers 72 = .ok (.iadd, 1) := by decide +kernel
theorem dX3_countUsers_73 : decode cX3_countUsers 73 = .ok (.iastore, 1) := by decide +kernel
theorem dX3_countUsers_74 : decode cX3_countUsers 74 = .ok (.iinc 2 1, 3) := by decide +kernel
theorem dX3_countUsers_77 : decode cX3_countUsers 77 = .ok (.goto (-54), 3) := by decide +kernel
theorem dX3_countUsers_80 : decode cX3_countUsers 80 = .ok (.return_, 1) := by decide +kernel
theorem dX4_init_0 : decode cX4_init 0 = .ok (.aload_n 0, 1) := by decide +kernel
theorem dX4_init_1 : decode cX4_init 1 = .ok (.invokespecial 1, 3) := by decide +kernel
theorem dX4_init_4 : decode cX4_init 4 = .ok (.aload_n 0, 1) := by decide +kernel
theorem dX4_init_5 : decode cX4_init 5 = .ok (.new 7, 3) := by decide +kernel
theorem dX4_init_8 : decode cX4_init 8 = .ok (.dup, 1) := by decide +kernel
theorem dX4_init_9 : decode cX4_init 9 = .ok (.invokespecial 9, 3) := by decide +kernel
theorem dX4_init_12 : decode cX4_init 12 = .ok (.putfield 10, 3) := by decide +kernel
theorem dX4_init_15 : decode cX4_init 15 = .ok (.aload_n 0, 1) := by decide +kernel
theorem dX4_init_16 : decode cX4_init 16 = .ok (.new 7, 3) := by decide +kernel
theorem dX4_init_19 : decode cX4_init 19 = .ok (.dup, 1) := by decide +kernel
theorem dX4_init_20 : decode cX4_init 20 = .ok (.invokespecial 9, 3) := by decide +kernel
theorem dX4_init_23 : decode cX4_init 23 = .ok (.putfield 16, 3) := by decide +kernel
theorem dX4_init_26 : decode cX4_init 26 = .ok (.aload_n 0, 1) := by decide +kernel
theorem dX4_init_27 : decode cX4_init 27 = .ok (.new 19, 3) := by decide +kernel
theorem dX4_init_30 : decode cX4_init 30 = .ok (.dup, 1) := by decide +kernel
theorem dX4_init_31 : decode cX4_init 31 = .ok (.invokespecial 21, 3) := by decide +kernel
theorem dX4_init_34 : decode cX4_init 34 = .ok (.putfield 22, 3) := by decide +kernel
theorem dX4_init_37 : decode cX4_init 37 = .ok (.aload_n 0, 1) := by decide +kernel
theorem dX4_init_38 : decode cX4_init 38 = .ok (.new 26, 3) := by decide +kernel
theorem dX4_init_41 : decode cX4_init 41 = .ok (.dup, 1) := by decide +kernel
theorem dX4_init_42 : decode cX4_init 42 = .ok (.invokespecial 28, 3) := by decide +kernel
theorem dX4_init_45 : decode cX4_init 45 = .ok (.putfield 29, 3) := by decide +kernel
theorem dX4_init_48 : decode cX4_init 48 = .ok (.return_, 1) := by decide +kernel
theorem dX4_come_0 : decode cX4_come 0 = .ok (.aload_n 0, 1) := by decide +kernel
theorem dX4_come_1 : decode cX4_come 1 = .ok (.getfield 10, 3) := by decide +kernel
theorem dX4_come_4 : decode cX4_come 4 = .ok (.invokevirtual 33, 3) := by decide +kernel
theorem dX4_come_7 : decode cX4_come 7 = .ok (.istore_n 1, 1) := by decide +kernel
theorem dX4_come_8 : decode cX4_come 8 = .ok (.iload_n 1, 1) := by decide +kernel
theorem dX4_come_9 : decode cX4_come 9 = .ok (.bipush (-6), 2) := by decide +kernel
theorem dX4_come_11 : decode cX4_come 11 = .ok (.if_icmp .ne 6, 3) := by decide +kernel
theorem dX4_come_14 : decode cX4_come 14 = .ok (.bipush (-4), 2) := by decide +kernel
theorem dX4_come_16 : decode cX4_come 16 = .ok (.ireturn, 1) := by decide +kernel
theorem dX4_come_17 : decode cX4_come 17 = .ok (.aload_n 0, 1) := by decide +kernel
theorem dX4_come_18 : decode cX4_come 18 = .ok (.getfield 22, 3) := by decide +kernel
theorem dX4_come_21 : decode cX4_come 21 = .ok (.aload_n 0, 1) := by decide +kernel
theorem dX4_come_22 : decode cX4_come 22 = .ok (.getfield 10, 3) := by decide +kernel
theorem dX4_come_25 : decode cX4_come 25 = .ok (.invokevirtual 37, 3) := by decide +kernel
theorem dX4_come_28 : decode cX4_come 28 = .ok (.aload_n 0, 1) := by decide +kernel
theorem dX4_come_29 : decode cX4_come 29 = .ok (.getfield 10, 3) := by decide +kernel
theorem dX4_come_32 : decode cX4_come 32 = .ok (.iload_n 1, 1) := by decide +kernel
theorem dX4_come_33 : decode cX4_come 33 = .ok (.invokevirtual 41, 3) := by decide +kernel
theorem dX4_come_36 : decode cX4_come 36 = .ok (.iload_n 1, 1) := by decide +kernel
theorem dX4_come_37 : decode cX4_come 37 = .ok (.ireturn, 1) := by decide +kernel
theorem dX4_go_0 : decode cX4_go 0 = .ok (.aload_n 0, 1) := by decide +kernel
theorem dX4_go_1 : decode cX4_go 1 = .ok (.getfield 10, 3) := by decide +kernel
theorem dX4_go_4 : decode cX4_go 4 = .ok (.iload_n 1, 1) := by decide +kernel
theorem dX4_go_5 : decode cX4_go 5 = .ok (.invokevirtual 45, 3) := by decide +kernel
theorem dX4_go_8 : decode cX4_go 8 = .ok (.astore_n 2, 1) := by decide +kernel
theorem dX4_go_9 : decode cX4_go 9 = .ok (.aload_n 2, 1) := by decide +kernel
theorem dX4_go_10 : decode cX4_go 10 = .ok (.ifnonnull 5, 3) := by decide +kernel
theorem dX4_go_13 : decode cX4_go 13 = .ok (.iconst (-1), 1) := by decide +kernel
theorem dX4_go_14 : decode cX4_go 14 = .ok (.ireturn, 1) := by decide +kernel
theorem dX4_go_15 : decode cX4_go 15 = .ok (.aload_n 0, 1) := by decide +kernel
theorem dX4_go_16 : decode cX4_go 16 = .ok (.getfield 22, 3) := by decide +kernel
theorem dX4_go_19 : decode cX4_go 19 = .ok (.aload_n 0, 1) := by decide +kernel
theorem dX4_go_20 : decode cX4_go 20 = .ok (.getfield 10, 3) := by decide +kernel
theorem dX4_go_23 : decode cX4_go 23 = .ok (.invokevirtual 37, 3) := by decide +kernel
theorem dX4_go_26 : decode cX4_go 26 = .ok (.aload_n 2, 1) := by decide +kernel
theorem dX4_go_27 : decode cX4_go 27 = .ok (.invokevirtual 49, 3) := by decide +kernel
theorem dX4_go_30 : decode cX4_go 30 = .ok (.aload_n 0, 1) := by decide +kernel
theorem dX4_go_31 : decode cX4_go 31 = .ok (.getfield 10, 3) := by decide +kernel
theorem dX4_go_34 : decode cX4_go 34 = .ok (.invokevirtual 54, 3) := by decide +kernel
theorem dX4_go_37 : decode cX4_go 37 = .ok (.ireturn, 1) := by decide +kernel
theorem dX4_set_0 : decode cX4_set 0 = .ok (.iload_n 1, 1) := by decide +kernel
theorem dX4_set_1 : decode cX4_set 1 = .ok (.iconst 4, 1) := by decide +kernel
theorem dX4_set_2 : decode cX4_set 2 = .ok (.invokestatic 57, 3) := by decide +kernel
theorem dX4_set_5 : decode cX4_set 5 = .ok (.ifCond .ne 5, 3) := by decide +kernel
theorem dX4_set_8 : decode cX4_set 8 = .ok (.iconst (-1), 1) := by decide +kernel
theorem dX4_set_9 : decode cX4_set 9 = .ok (.ireturn, 1) := by decide +kernel
theorem dX4_set_10 : decode cX4_set 10 = .ok (.iload_n 2, 1) := by decide +kernel
theorem dX4_set_11 : decode cX4_set 11 = .ok (.iload_n 1, 1) := by decide +kernel
theorem dX4_set_12 : decode cX4_set 12 = .ok (.invokestatic 61, 3) := by decide +kernel
theorem dX4_set_15 : decode cX4_set 15 = .ok (.if_icmp .lt 11, 3) := by decide +kernel
theorem dX4_set_18 : decode cX4_set 18 = .ok (.iload_n 2, 1) := by decide +kernel
theorem dX4_set_19 : decode cX4_set 19 = .ok (.iload_n 1, 1) := by decide +kernel
theorem dX4_set_20 : decode cX4_set 20 = .ok (.invokestatic 65, 3) := by decide +kernel
theorem dX4_set_23 : decode cX4_set 23 = .ok (.if_icmp .le 6, 3) := by decide +kernel
theorem dX4_set_26 : decode cX4_set 26 = .ok (.bipush (-2), 2) := by decide +kernel
theorem dX4_set_28 : decode cX4_set 28 = .ok (.ireturn, 1) := by decide +kernel
theorem dX4_set_29 : decode cX4_set 29 = .ok (.aload_n 0, 1) := by decide +kernel
theorem dX4_set_30 : decode cX4_set 30 = .ok (.getfield 10, 3) := by decide +kernel
theorem dX4_set_33 : decode cX4_set 33 = .ok (.iload_n 1, 1) := by decide +kernel
theorem dX4_set_34 : decode cX4_set 34 = .ok (.invokevirtual 68, 3) := by decide +kernel
theorem dX4_set_37 : decode cX4_set 37 = .ok (.istore_n 3, 1) := by decide +kernel
theorem dX4_set_38 : decode cX4_set 38 = .ok (.aload_n 0, 1) := by decide +kernel
theorem dX4_set_39 : decode cX4_set 39 = .ok (.getfield 22, 3) := by decide +kernel
theorem dX4_set_42 : decode cX4_set 42 = .ok (.aload_n 0, 1) := by decide +kernel
theorem dX4_set_43 : decode cX4_set 43 = .ok (.getfield 10, 3) := by decide +kernel
theorem dX4_set_46 : decode cX4_set 46 = .ok (.invokevirtual 37, 3) := by decide +kernel
theorem dX4_set_49 : decode cX4_set 49 = .ok (.aload_n 0, 1) := by decide +kernel
theorem dX4_set_50 : decode cX4_set 50 = .ok (.getfield 10, 3) := by decide +kernel
theorem dX4_set_53 : decode cX4_set 53 = .ok (.iload_n 1, 1) := by decide +kernel
theorem dX4_set_54 : decode cX4_set 54 = .ok (.iload_n 2, 1) := by decide +kernel
theorem dX4_set_55 : decode cX4_set 55 = .ok (.invokevirtual 71, 3) := by decide +kernel
theorem dX4_set_58 : decode cX4_set 58 = .ok (.iload_n 3, 1) := by decide +kernel
theorem dX4_set_59 : decode cX4_set 59 = .ok (.ireturn, 1) := by decide +kernel
theorem dX4_setSeed_0 : decode cX4_setSeed 0 = .ok (.iload_n 1, 1) := by decide +kernel
theorem dX4_setSeed_1 : decode cX4_setSeed 1 = .ok (.ifCond .lt 9, 3) := by decide +kernel
theorem dX4_setSeed_4 : decode cX4_setSeed 4 = .ok (.iload_n 1, 1) := by decide +kernel
theorem dX4_setSeed_5 : decode cX4_setSeed 5 = .ok (.ldc 75, 2) := by decide +kernel
theorem dX4_setSeed_7 : decode cX4_setSeed 7 = .ok (.if_icmp .le 6, 3) := by decide +kernel
theorem dX4_setSeed_10 : decode cX4_setSeed 10 = .ok (.bipush (-2), 2) := by decide +kernel
theorem dX4_setSeed_12 : decode cX4_setSeed 12 = .ok (.ireturn, 1) := by decide +kernel
theorem dX4_setSeed_13 : decode cX4_setSeed 13 = .ok (.aload_n 0, 1) := by decide +kernel
theorem dX4_setSeed_14 : decode cX4_setSeed 14 = .ok (.getfield 10, 3) := by decide +kernel
theorem dX4_setSeed_17 : decode cX4_setSeed 17 = .ok (.getfield 76, 3) := by decide +kernel
theorem dX4_setSeed_20 : decode cX4_setSeed 20 = .ok (.istore_n 2, 1) := by decide +kernel
theorem dX4_setSeed_21 : decode cX4_setSeed 21 = .ok (.aload_n 0, 1) := by decide +kernel
theorem dX4_setSeed_22 : decode cX4_setSeed 22 = .ok (.getfield 22, 3) := by decide +kernel
theorem dX4_setSeed_25 : decode cX4_setSeed 25 = .ok (.aload_n 0, 1) := by decide +kernel
theorem dX4_setSeed_26 : decode cX4_setSeed 26 = .ok (.getfield 10, 3) := by decide +kernel
theorem dX4_setSeed_29 : decode cX4_setSeed 29 = .ok (.invokevirtual 37, 3) := by decide +kernel
theorem dX4_setSeed_32 : decode cX4_setSeed 32 = .ok (.aload_n 0, 1) := by decide +kernel
theorem dX4_setSeed_33 : decode cX4_setSeed 33 = .ok (.getfield 10, 3) := by decide +kernel
theorem dX4_setSeed_36 : decode cX4_setSeed 36 = .ok (.iload_n 1, 1) := by decide +kernel
theorem dX4_setSeed_37 : decode cX4_setSeed 37 = .ok (.putfield 76, 3) := by decide +kernel
theorem dX4_setSeed_40 : decode cX4_setSeed 40 = .ok (.iload_n 2, 1) := by decide +kernel
theorem dX4_setSeed_41 : decode cX4_setSeed 41 = .ok (.ireturn, 1) := by decide +kernel
theorem dX4_teach_0 : decode cX4_teach 0 = .ok (.aload_n 0, 1) := by decide +kernel
theorem dX4_teach_1 : decode cX4_teach 1 = .ok (.getfield 10, 3) := by decide +kernel
theorem dX4_teach_4 : decode cX4_teach 4 = .ok (.iload_n 1, 1) := by decide +kernel
theorem dX4_teach_5 : decode cX4_teach 5 = .ok (.invokevirtual 45, 3) := by decide +kernel
theorem dX4_teach_8 : decode cX4_teach 8 = .ok (.astore 5, 2) := by decide +kernel
theorem dX4_teach_10 : decode cX4_teach 10 = .ok (.aload 5, 2) := by decide +kernel
theorem dX4_teach_12 : decode cX4_teach 12 = .ok (.ifnull 17, 3) := by decide +kernel
theorem dX4_teach_15 : decode cX4_teach 15 = .ok (.iload_n 2, 1) := by decide +kernel
theorem dX4_teach_16 : decode cX4_teach 16 = .ok (.invokestatic 80, 3) := by decide +kernel
theorem dX4_teach_19 : decode cX4_teach 19 = .ok (.ifCond .eq 10, 3) := by decide +kernel
theorem dX4_teach_22 : decode cX4_teach 22 = .ok (.iload_n 3, 1) := by decide +kernel
theorem dX4_teach_23 : decode cX4_teach 23 = .ok (.invokestatic 84, 3) := by decide +kernel
theorem dX4_teach_26 : decode cX4_teach 26 = .ok (.ifCond .ne 5, 3) := by decide +kernel
theorem dX4_teach_29 : decode cX4_teach 29 = .ok (.iconst (-1), 1) := by decide +kernel
theorem dX4_teach_30 : decode cX4_teach 30 = .ok (.ireturn, 1) := by decide +kernel
theorem dX4_teach_31 : decode cX4_teach 31 = .ok (.iload 4, 2) := by decide +kernel
theorem dX4_teach_33 : decode cX4_teach 33 = .ok (.ifCond .lt 10, 3) := by decide +kernel
theorem dX4_teach_36 : decode cX4_teach 36 = .ok (.iload 4, 2) := by decide +kernel
theorem dX4_teach_38 : decode cX4_teach 38 = .ok (.bipush 99, 2) := by decide +kernel
theorem dX4_teach_40 : decode cX4_teach 40 = .ok (.if_icmp .le 6, 3) := by decide +kernel
theorem dX4_teach_43 : decode cX4_teach 43 = .ok (.bipush (-2), 2) := by decide +kernel
theorem dX4_teach_45 : decode cX4_teach 45 = .ok (.ireturn, 1) := by decide +kernel
theorem dX4_teach_46 : decode cX4_teach 46 = .ok (.aload 5, 2) := by decide +kernel
theorem dX4_teach_48 : decode cX4_teach 48 = .ok (.iload_n 2, 1) := by decide +kernel
theorem dX4_teach_49 : decode cX4_teach 49 = .ok (.iload_n 3, 1) := by decide +kernel
theorem dX4_teach_50 : decode cX4_teach 50 = .ok (.invokevirtual 87, 3) := by decide +kernel
theorem dX4_teach_53 : decode cX4_teach 53 = .ok (.istore 6, 2) := by decide +kernel
theorem dX4_teach_55 : decode cX4_teach 55 = .ok (.aload_n 0, 1) := by decide +kernel
theorem dX4_teach_56 : decode cX4_teach 56 = .ok (.getfield 22, 3) := by decide +kernel
theorem dX4_teach_59 : decode cX4_teach 59 = .ok (.aload_n 0, 1) := by decide +kernel
theorem dX4_teach_60 : decode cX4_teach 60 = .ok (.getfield 10, 3) := by decide +kernel
theorem dX4_teach_63 : decode cX4_teach 63 = .ok (.invokevirtual 37, 3) := by decide +kernel
theorem dX4_teach_66 : decode cX4_teach 66 = .ok (.aload 5, 2) := by decide +kernel
theorem dX4_teach_68 : decode cX4_teach 68 = .ok (.iload_n 2, 1) := by decide +kernel
theorem dX4_teach_69 : decode cX4_teach 69 = .ok (.iload_n 3, 1) := by decide +kernel
theorem dX4_teach_70 : decode cX4_teach 70 = .ok (.iload 4, 2) := by decide +kernel
theorem dX4_teach_72 : decode cX4_teach 72 = .ok (.invokevirtual 91, 3) := by decide +kernel
theorem dX4_teach_75 : decode cX4_teach 75 = .ok (.iload 6, 2) := by decide +kernel
theorem dX4_teach_77 : decode cX4_teach 77 = .ok (.ireturn, 1) := by decide +kernel
theorem dX4_setAge_0 : decode cX4_setAge 0 = .ok (.aload_n 0, 1) := by decide +kernel
theorem dX4_setAge_1 : decode cX4_setAge 1 = .ok (.getfield 10, 3) := by decide +kernel
theorem dX4_setAge_4 : decode cX4_setAge 4 = .ok (.iload_n 1, 1) := by decide +kernel
theorem dX4_setAge_5 : decode cX4_setAge 5 = .ok (.invokevirtual 45, 3) := by decide +kernel
theorem dX4_setAge_8 : decode cX4_setAge 8 = .ok (.astore_n 3, 1) := by decide +kernel
theorem dX4_setAge_9 : decode cX4_setAge 9 = .ok (.aload_n 3, 1) := by decide +kernel
theorem dX4_setAge_10 : decode cX4_setAge 10 = .ok (.ifnonnull 5, 3) := by decide +kernel
theorem dX4_setAge_13 : decode cX4_setAge 13 = .ok (.iconst (-1), 1) := by decide +kernel
theorem dX4_setAge_14 : decode cX4_setAge 14 = .ok (.ireturn, 1) := by decide +kernel
theorem dX4_setAge_15 : decode cX4_setAge 15 = .ok (.iload_n 2, 1) := by decide +kernel
theorem dX4_setAge_16 : decode cX4_setAge 16 = .ok (.ifCond .lt 9, 3) := by decide +kernel
theorem dX4_setAge_19 : decode cX4_setAge 19 = .ok (.iload_n 2, 1) := by decide +kernel
theorem dX4_setAge_20 : decode cX4_setAge 20 = .ok (.bipush 99, 2) := by decide +kernel
theorem dX4_setAge_22 : decode cX4_setAge 22 = .ok (.if_icmp .le 6, 3) := by decide +kernel
theorem dX4_setAge_25 : decode cX4_setAge 25 = .ok (.bipush (-2), 2) := by decide +kernel
theorem dX4_setAge_27 : decode cX4_setAge 27 = .ok (.ireturn, 1) := by decide +kernel
theorem dX4_setAge_28 : decode cX4_setAge 28 = .ok (.aload_n 3, 1) := by decide +kernel
theorem dX4_setAge_29 : decode cX4_setAge 29 = .ok (.getfield 95, 3) := by decide +kernel
theorem dX4_setAge_32 : decode cX4_setAge 32 = .ok (.istore 4, 2) := by decide +kernel
theorem dX4_setAge_34 : decode cX4_setAge 34 = .ok (.aload_n 0, 1) := by decide +kernel
theorem dX4_setAge_35 : decode cX4_setAge 35 = .ok (.getfield 22, 3) := by decide +kernel
theorem dX4_setAge_38 : decode cX4_setAge 38 = .ok (.aload_n 0, 1) := by decide +kernel
theorem dX4_setAge_39 : decode cX4_setAge 39 = .ok (.getfield 10, 3) := by decide +kernel
theorem dX4_setAge_42 : decode cX4_setAge 42 = .ok (.invokevirtual 37, 3) := by decide +kernel
theorem dX4_setAge_45 : decode cX4_setAge 45 = .ok (.aload_n 3, 1) := by decide +kernel
theorem dX4_setAge_46 : decode cX4_setAge 46 = .ok (.iload_n 2, 1) := by decide +kernel
theorem dX4_setAge_47 : decode cX4_setAge 47 = .ok (.putfield 95, 3) := by decide +kernel
theorem dX4_setAge_50 : decode cX4_setAge 50 = .ok (.iload 4, 2) := by decide +kernel
theorem dX4_setAge_52 : decode cX4_setAge 52 = .ok (.ireturn, 1) := by decide +kernel
theorem dX4_meet_0 : decode cX4_meet 0 = .ok (.aload_n 0, 1) := by decide +kernel
theorem dX4_meet_1 : decode cX4_meet 1 = .ok (.getfield 10, 3) := by decide +kernel
theorem dX4_meet_4 : decode cX4_meet 4 = .ok (.iload_n 1, 1) := by decide +kernel
theorem dX4_meet_5 : decode cX4_meet 5 = .ok (.invokevirtual 45, 3) := by decide +kernel
theorem dX4_meet_8 : decode cX4_meet 8 = .ok (.astore 4, 2) := by decide +kernel
theorem dX4_meet_10 : decode cX4_meet 10 = .ok (.aload_n 0, 1) := by decide +kernel
theorem dX4_meet_11 : decode cX4_meet 11 = .ok (.getfield 10, 3) := by decide +kernel
theorem dX4_meet_14 : decode cX4_meet 14 = .ok (.iload_n 2, 1) := by decide +kernel
theorem dX4_meet_15 : decode cX4_meet 15 = .ok (.invokevirtual 45, 3) := by decide +kernel
theorem dX4_meet_18 : decode cX4_meet 18 = .ok (.astore 5, 2) := by decide +kernel
theorem dX4_meet_20 : decode cX4_meet 20 = .ok (.aload 4, 2) := by decide +kernel
theorem dX4_meet_22 : decode cX4_meet 22 = .ok (.ifnull 15, 3) := by decide +kernel
theorem dX4_meet_25 : decode cX4_meet 25 = .ok (.aload 5, 2) := by decide +kernel
theorem dX4_meet_27 : decode cX4_meet 27 = .ok (.ifnull 10, 3) := by decide +kernel
theorem dX4_meet_30 : decode cX4_meet 30 = .ok (.iload_n 3, 1) := by decide +kernel
theorem dX4_meet_31 : decode cX4_meet 31 = .ok (.invokestatic 80, 3) := by decide +kernel
theorem dX4_meet_34 : decode cX4_meet 34 = .ok (.ifCond .ne 5, 3) := by decide +kernel
theorem dX4_meet_37 : decode cX4_meet 37 = .ok (.iconst (-1), 1) := by decide +kernel
theorem dX4_meet_38 : decode cX4_meet 38 = .ok (.ireturn, 1) := by decide +kernel
theorem dX4_meet_39 : decode cX4_meet 39 = .ok (.iload_n 1, 1) := by decide +kernel
theorem dX4_meet_40 : decode cX4_meet 40 = .ok (.iload_n 2, 1) := by decide +kernel
theorem dX4_meet_41 : decode cX4_meet 41 = .ok (.if_icmp .ne 6, 3) := by decide +kernel
theorem dX4_meet_44 : decode cX4_meet 44 = .ok (.bipush (-3), 2) := by decide +kernel
theorem dX4_meet_46 : decode cX4_meet 46 = .ok (.ireturn, 1) := by decide +kernel
theorem dX4_meet_47 : decode cX4_meet 47 = .ok (.aload_n 0, 1) := by decide +kernel
theorem dX4_meet_48 : decode cX4_meet 48 = .ok (.getfield 22, 3) := by decide +kernel
theorem dX4_meet_51 : decode cX4_meet 51 = .ok (.aload_n 0, 1) := by decide +kernel
theorem dX4_meet_52 : decode cX4_meet 52 = .ok (.getfield 10, 3) := by decide +kernel
theorem dX4_meet_55 : decode cX4_meet 55 = .ok (.invokevirtual 37, 3) := by decide +kernel
theorem dX4_meet_58 : decode cX4_meet 58 = .ok (.aload_n 0, 1) := by decide +kernel
theorem dX4_meet_59 : decode cX4_meet 59 = .ok (.getfield 10, 3) := by decide +kernel
theorem dX4_meet_62 : decode cX4_meet 62 = .ok (.aload 4, 2) := by decide +kernel
theorem dX4_meet_64 : decode cX4_meet 64 = .ok (.aload 5, 2) := by decide +kernel
theorem dX4_meet_66 : decode cX4_meet 66 = .ok (.iload_n 3, 1) := by decide +kernel
theorem dX4_meet_67 : decode cX4_meet 67 = .ok (.invokevirtual 98, 3) := by decide +kernel
theorem dX4_meet_70 : decode cX4_meet 70 = .ok (.ireturn, 1) := by decide +kernel
theorem dX4_chat_0 : decode cX4_chat 0 = .ok (.aload_n 0, 1) := by decide +kernel
theorem dX4_chat_1 : decode cX4_chat 1 = .ok (.iload_n 1, 1) := by decide +kernel
theorem dX4_chat_2 : decode cX4_chat 2 = .ok (.invokevirtual 102, 3) := by decide +kernel
theorem dX4_chat_5 : decode cX4_chat 5 = .ok (.istore_n 2, 1) := by decide +kernel
theorem dX4_chat_6 : decode cX4_chat 6 = .ok (.iload_n 2, 1) := by decide +kernel
theorem dX4_chat_7 : decode cX4_chat 7 = .ok (.ifCond .eq 5, 3) := by decide +kernel
theorem dX4_chat_10 : decode cX4_chat 10 = .ok (.iload_n 2, 1) := by decide +kernel
theorem dX4_chat_11 : decode cX4_chat 11 = .ok (.ireturn, 1) := by decide +kernel
theorem dX4_chat_12 : decode cX4_chat 12 = .ok (.aload_n 0, 1) := by decide +kernel
theorem dX4_chat_13 : decode cX4_chat 13 = .ok (.getfield 22, 3) := by decide +kernel
theorem dX4_chat_16 : decode cX4_chat 16 = .ok (.aload_n 0, 1) := by decide +kernel
theorem dX4_chat_17 : decode cX4_chat 17 = .ok (.getfield 10, 3) := by decide +kernel
theorem dX4_chat_20 : decode cX4_chat 20 = .ok (.invokevirtual 37, 3) := by decide +kernel
theorem dX4_chat_23 : decode cX4_chat 23 = .ok (.aload_n 0, 1) := by decide +kernel
theorem dX4_chat_24 : decode cX4_chat 24 = .ok (.getfield 10, 3) := by decide +kernel
theorem dX4_chat_27 : decode cX4_chat 27 = .ok (.iload_n 1, 1) := by decide +kernel
theorem dX4_chat_28 : decode cX4_chat 28 = .ok (.invokevirtual 105, 3) := by decide +kernel
theorem dX4_chat_31 : decode cX4_chat 31 = .ok (.ireturn, 1) := by decide +kernel
theorem dX4_age_0 : decode cX4_age 0 = .ok (.iload_n 1, 1) := by decide +kernel
theorem dX4_age_1 : decode cX4_age 1 = .ok (.iconst 1, 1) := by decide +kernel
theorem dX4_age_2 : decode cX4_age 2 = .ok (.if_icmp .lt 9, 3) := by decide +kernel
theorem dX4_age_5 : decode cX4_age 5 = .ok (.iload_n 1, 1) := by decide +kernel
theorem dX4_age_6 : decode cX4_age 6 = .ok (.bipush 99, 2) := by decide +kernel
theorem dX4_age_8 : decode cX4_age 8 = .ok (.if_icmp .le 6, 3) := by decide +kernel
theorem dX4_age_11 : decode cX4_age 11 = .ok (.bipush (-2), 2) := by decide +kernel
theorem dX4_age_13 : decode cX4_age 13 = .ok (.ireturn, 1) := by decide +kernel
theorem dX4_age_14 : decode cX4_age 14 = .ok (.aload_n 0, 1) := by decide +kernel
theorem dX4_age_15 : decode cX4_age 15 = .ok (.getfield 22, 3) := by decide +kernel
theorem dX4_age_18 : decode cX4_age 18 = .ok (.aload_n 0, 1) := by decide +kernel
theorem dX4_age_19 : decode cX4_age 19 = .ok (.getfield 10, 3) := by decide +kernel
theorem dX4_age_22 : decode cX4_age 22 = .ok (.invokevirtual 37, 3) := by decide +kernel
theorem dX4_age_25 : decode cX4_age 25 = .ok (.aload_n 0, 1) := by decide +kernel
theorem dX4_age_26 : decode cX4_age 26 = .ok (.getfield 10, 3) := by decide +kernel
theorem dX4_age_29 : decode cX4_age 29 = .ok (.iload_n 1, 1) := by decide +kernel
theorem dX4_age_30 : decode cX4_age 30 = .ok (.invokevirtual 108, 3) := by decide +kernel
theorem dX4_age_33 : decode cX4_age 33 = .ok (.ireturn, 1) := by decide +kernel
theorem dX4_count_0 : decode cX4_count 0 = .ok (.iload_n 1, 1) := by decide +kernel
theorem dX4_count_1 : decode cX4_count 1 = .ok (.bipush 7, 2) := by decide +kernel
theorem dX4_count_3 : decode cX4_count 3 = .ok (.invokestatic 57, 3) := by decide +kernel
theorem dX4_count_6 : decode cX4_count 6 = .ok (.ifCond .eq 14, 3) := by decide +kernel
theorem dX4_count_9 : decode cX4_count 9 = .ok (.aload_n 0, 1) := by decide +kernel
theorem dX4_count_10 : decode cX4_count 10 = .ok (.getfield 10, 3) := by decide +kernel
theorem dX4_count_13 : decode cX4_count 13 = .ok (.iload_n 1, 1) := by decide +kernel
theorem dX4_count_14 : decode cX4_count 14 = .ok (.invokevirtual 111, 3) := by decide +kernel
theorem dX4_count_17 : decode cX4_count 17 = .ok (.goto 5, 3) := by decide +kernel
theorem dX4_count_20 : decode cX4_count 20 = .ok (.bipush (-2), 2) := by decide +kernel
theorem dX4_count_22 : decode cX4_count 22 = .ok (.ireturn, 1) := by decide +kernel
theorem dX4_setting_0 : decode cX4_setting 0 = .ok (.iload_n 1, 1) := by decide +kernel
theorem dX4_setting_1 : decode cX4_setting 1 = .ok (.iconst 4, 1) := by decide +kernel
theorem dX4_setting_2 : decode cX4_setting 2 = .ok (.invokestatic 57, 3) := by decide +kernel
theorem dX4_setting_5 : decode cX4_setting 5 = .ok (.ifCond .eq 14, 3) := by decide +kernel
theorem dX4_setting_8 : decode cX4_setting 8 = .ok (.aload_n 0, 1) := by decide +kernel
theorem dX4_setting_9 : decode cX4_setting 9 = .ok (.getfield 10, 3) := by decide +kernel
theorem dX4_setting_12 : decode cX4_setting 12 = .ok (.iload_n 1, 1) := by decide +kernel
theorem dX4_setting_13 : decode cX4_setting 13 = .ok (.invokevirtual 68, 3) := by decide +kernel
theorem dX4_setting_16 : decode cX4_setting 16 = .ok (.goto 4, 3) := by decide +kernel
theorem dX4_setting_19 : decode cX4_setting 19 = .ok (.iconst (-1), 1) := by decide +kernel
theorem dX4_setting_20 : decode cX4_setting 20 = .ok (.ireturn, 1) := by decide +kernel
theorem dX4_weight_0 : decode cX4_weight 0 = .ok (.aload_n 0, 1) := by decide +kernel
theorem dX4_weight_1 : decode cX4_weight 1 = .ok (.getfield 10, 3) := by decide +kernel
theorem dX4_weight_4 : decode cX4_weight 4 = .ok (.iload_n 1, 1) := by decide +kernel
theorem dX4_weight_5 : decode cX4_weight 5 = .ok (.invokevirtual 45, 3) := by decide +kernel
theorem dX4_weight_8 : decode cX4_weight 8 = .ok (.astore 4, 2) := by decide +kernel
theorem dX4_weight_10 : decode cX4_weight 10 = .ok (.aload 4, 2) := by decide +kernel
theorem dX4_weight_12 : decode cX4_weight 12 = .ok (.ifnull 17, 3) := by decide +kernel
theorem dX4_weight_15 : decode cX4_weight 15 = .ok (.iload_n 2, 1) := by decide +kernel
theorem dX4_weight_16 : decode cX4_weight 16 = .ok (.invokestatic 80, 3) := by decide +kernel
theorem dX4_weight_19 : decode cX4_weight 19 = .ok (.ifCond .eq 10, 3) := by decide +kernel
theorem dX4_weight_22 : decode cX4_weight 22 = .ok (.iload_n 3, 1) := by decide +kernel
theorem dX4_weight_23 : decode cX4_weight 23 = .ok (.invokestatic 84, 3) := by decide +kernel
theorem dX4_weight_26 : decode cX4_weight 26 = .ok (.ifCond .ne 5, 3) := by decide +kernel
theorem dX4_weight_29 : decode cX4_weight 29 = .ok (.iconst (-1), 1) := by decide +kernel
theorem dX4_weight_30 : decode cX4_weight 30 = .ok (.ireturn, 1) := by decide +kernel
theorem dX4_weight_31 : decode cX4_weight 31 = .ok (.aload 4, 2) := by decide +kernel
theorem dX4_weight_33 : decode cX4_weight 33 = .ok (.iload_n 2, 1) := by decide +kernel
theorem dX4_weight_34 : decode cX4_weight 34 = .ok (.iload_n 3, 1) := by decide +kernel
theorem dX4_weight_35 : decode cX4_weight 35 = .ok (.invokevirtual 87, 3) := by decide +kernel
theorem dX4_weight_38 : decode cX4_weight 38 = .ok (.ireturn, 1) := by decide +kernel
theorem dX4_speaker_0 : decode cX4_speaker 0 = .ok (.aload_n 0, 1) := by decide +kernel
theorem dX4_speaker_1 : decode cX4_speaker 1 = .ok (.getfield 10, 3) := by decide +kernel
theorem dX4_speaker_4 : decode cX4_speaker 4 = .ok (.iload_n 1, 1) := by decide +kernel
theorem dX4_speaker_5 : decode cX4_speaker 5 = .ok (.invokevirtual 45, 3) := by decide +kernel
theorem dX4_speaker_8 : decode cX4_speaker 8 = .ok (.astore_n 3, 1) := by decide +kernel
theorem dX4_speaker_9 : decode cX4_speaker 9 = .ok (.aload_n 3, 1) := by decide +kernel
theorem dX4_speaker_10 : decode cX4_speaker 10 = .ok (.ifnonnull 5, 3) := by decide +kernel
theorem dX4_speaker_13 : decode cX4_speaker 13 = .ok (.iconst (-1), 1) := by decide +kernel
theorem dX4_speaker_14 : decode cX4_speaker 14 = .ok (.ireturn, 1) := by decide +kernel
theorem dX4_speaker_15 : decode cX4_speaker 15 = .ok (.iload_n 2, 1) := by decide +kernel
theorem dX4_speaker_16 : decode cX4_speaker 16 = .ok (.iconst 5, 1) := by decide +kernel
theorem dX4_speaker_17 : decode cX4_speaker 17 = .ok (.invokestatic 57, 3) := by decide +kernel
theorem dX4_speaker_20 : decode cX4_speaker 20 = .ok (.ifCond .eq 15, 3) := by decide +kernel
theorem dX4_speaker_23 : decode cX4_speaker 23 = .ok (.aload_n 0, 1) := by decide +kernel
theorem dX4_speaker_24 : decode cX4_speaker 24 = .ok (.getfield 10, 3) := by decide +kernel
theorem dX4_speaker_27 : decode cX4_speaker 27 = .ok (.aload_n 3, 1) := by decide +kernel
theorem dX4_speaker_28 : decode cX4_speaker 28 = .ok (.iload_n 2, 1) := by decide +kernel
theorem dX4_speaker_29 : decode cX4_speaker 29 = .ok (.invokevirtual 114, 3) := by decide +kernel
theorem dX4_speaker_32 : decode cX4_speaker 32 = .ok (.goto 5, 3) := by decide +kernel
theorem dX4_speaker_35 : decode cX4_speaker 35 = .ok (.bipush (-2), 2) := by decide +kernel
theorem dX4_speaker_37 : decode cX4_speaker 37 = .ok (.ireturn, 1) := by decide +kernel
theorem dX4_wordOf_0 : decode cX4_wordOf 0 = .ok (.aload_n 0, 1) := by decide +kernel
theorem dX4_wordOf_1 : decode cX4_wordOf 1 = .ok (.getfield 10, 3) := by decide +kernel
theorem dX4_wordOf_4 : decode cX4_wordOf 4 = .ok (.iload_n 1, 1) := by decide +kernel
theorem dX4_wordOf_5 : decode cX4_wordOf 5 = .ok (.invokevirtual 45, 3) := by decide +kernel
theorem dX4_wordOf_8 : decode cX4_wordOf 8 = .ok (.astore_n 3, 1) := by decide +kernel
theorem dX4_wordOf_9 : decode cX4_wordOf 9 = .ok (.aload_n 3, 1) := by decide +kernel
theorem dX4_wordOf_10 : decode cX4_wordOf 10 = .ok (.ifnull 10, 3) := by decide +kernel
theorem dX4_wordOf_13 : decode cX4_wordOf 13 = .ok (.iload_n 2, 1) := by decide +kernel
theorem dX4_wordOf_14 : decode cX4_wordOf 14 = .ok (.invokestatic 80, 3) := by decide +kernel
theorem dX4_wordOf_17 : decode cX4_wordOf 17 = .ok (.ifCond .ne 5, 3) := by decide +kernel
theorem dX4_wordOf_20 : decode cX4_wordOf 20 = .ok (.iconst (-1), 1) := by decide +kernel
theorem dX4_wordOf_21 : decode cX4_wordOf 21 = .ok (.ireturn, 1) := by decide +kernel
theorem dX4_wordOf_22 : decode cX4_wordOf 22 = .ok (.aload_n 3, 1) := by decide +kernel
theorem dX4_wordOf_23 : decode cX4_wordOf 23 = .ok (.iload_n 2, 1) := by decide +kernel
theorem dX4_wordOf_24 : decode cX4_wordOf 24 = .ok (.invokevirtual 118, 3) := by decide +kernel
theorem dX4_wordOf_27 : decode cX4_wordOf 27 = .ok (.ireturn, 1) := by decide +kernel
theorem dX4_hears_0 : decode cX4_hears 0 = .ok (.aload_n 0, 1) := by decide +kernel
theorem dX4_hears_1 : decode cX4_hears 1 = .ok (.getfield 10, 3) := by decide +kernel
theorem dX4_hears_4 : decode cX4_hears 4 = .ok (.iload_n 1, 1) := by decide +kernel
theorem dX4_hears_5 : decode cX4_hears 5 = .ok (.invokevirtual 45, 3) := by decide +kernel
theorem dX4_hears_8 : decode cX4_hears 8 = .ok (.astore_n 3, 1) := by decide +kernel
theorem dX4_hears_9 : decode cX4_hears 9 = .ok (.aload_n 3, 1) := by decide +kernel
theorem dX4_hears_10 : decode cX4_hears 10 = .ok (.ifnull 10, 3) := by decide +kernel
theorem dX4_hears_13 : decode cX4_hears 13 = .ok (.iload_n 2, 1) := by decide +kernel
theorem dX4_hears_14 : decode cX4_hears 14 = .ok (.invokestatic 84, 3) := by decide +kernel
theorem dX4_hears_17 : decode cX4_hears 17 = .ok (.ifCond .ne 5, 3) := by decide +kernel
theorem dX4_hears_20 : decode cX4_hears 20 = .ok (.iconst (-1), 1) := by decide +kernel
theorem dX4_hears_21 : decode cX4_hears 21 = .ok (.ireturn, 1) := by decide +kernel
theorem dX4_hears_22 : decode cX4_hears 22 = .ok (.aload_n 3, 1) := by decide +kernel
theorem dX4_hears_23 : decode cX4_hears 23 = .ok (.iload_n 2, 1) := by decide +kernel
theorem dX4_hears_24 : decode cX4_hears 24 = .ok (.invokevirtual 121, 3) := by decide +kernel
theorem dX4_hears_27 : decode cX4_hears 27 = .ok (.ireturn, 1) := by decide +kernel
theorem dX4_gesture_0 : decode cX4_gesture 0 = .ok (.iload_n 1, 1) := by decide +kernel
theorem dX4_gesture_1 : decode cX4_gesture 1 = .ok (.invokestatic 84, 3) := by decide +kernel
theorem dX4_gesture_4 : decode cX4_gesture 4 = .ok (.ifCond .ne 5, 3) := by decide +kernel
theorem dX4_gesture_7 : decode cX4_gesture 7 = .ok (.iconst (-1), 1) := by decide +kernel
theorem dX4_gesture_8 : decode cX4_gesture 8 = .ok (.ireturn, 1) := by decide +kernel
theorem dX4_gesture_9 : decode cX4_gesture 9 = .ok (.iload_n 1, 1) := by decide +kernel
theorem dX4_gesture_10 : decode cX4_gesture 10 = .ok (.invokestatic 124, 3) := by decide +kernel
theorem dX4_gesture_13 : decode cX4_gesture 13 = .ok (.istore_n 3, 1) := by decide +kernel
theorem dX4_gesture_14 : decode cX4_gesture 14 = .ok (.iload_n 2, 1) := by decide +kernel
theorem dX4_gesture_15 : decode cX4_gesture 15 = .ok (.iload_n 3, 1) := by decide +kernel
theorem dX4_gesture_16 : decode cX4_gesture 16 = .ok (.invokestatic 57, 3) := by decide +kernel
theorem dX4_gesture_19 : decode cX4_gesture 19 = .ok (.ifCond .ne 6, 3) := by decide +kernel
theorem dX4_gesture_22 : decode cX4_gesture 22 = .ok (.bipush (-6), 2) := by decide +kernel
theorem dX4_gesture_24 : decode cX4_gesture 24 = .ok (.ireturn, 1) := by decide +kernel
theorem dX4_gesture_25 : decode cX4_gesture 25 = .ok (.iload_n 1, 1) := by decide +kernel
theorem dX4_gesture_26 : decode cX4_gesture 26 = .ok (.invokestatic 127, 3) := by decide +kernel
theorem dX4_gesture_29 : decode cX4_gesture 29 = .ok (.iload_n 3, 1) := by decide +kernel
theorem dX4_gesture_30 : decode cX4_gesture 30 = .ok (.iconst 1, 1) := by decide +kernel
theorem dX4_gesture_31 : decode cX4_gesture 31 = .ok (.isub, 1) := by decide +kernel
theorem dX4_gesture_32 : decode cX4_gesture 32 = .ok (.iload_n 2, 1) := by decide +kernel
theorem dX4_gesture_33 : decode cX4_gesture 33 = .ok (.isub, 1) := by decide +kernel
theorem dX4_gesture_34 : decode cX4_gesture 34 = .ok (.ishr, 1) := by decide +kernel
theorem dX4_gesture_35 : decode cX4_gesture 35 = .ok (.iconst 1, 1) := by decide +kernel
theorem dX4_gesture_36 : decode cX4_gesture 36 = .ok (.iand, 1) := by decide +kernel
theorem dX4_gesture_37 : decode cX4_gesture 37 = .ok (.istore 4, 2) := by decide +kernel
theorem dX4_gesture_39 : decode cX4_gesture 39 = .ok (.iload 4, 2) := by decide +kernel
theorem dX4_gesture_41 : decode cX4_gesture 41 = .ok (.ifCond .ne 8, 3) := by decide +kernel
theorem dX4_gesture_44 : decode cX4_gesture 44 = .ok (.bipush 119, 2) := by decide +kernel
theorem dX4_gesture_46 : decode cX4_gesture 46 = .ok (.goto 5, 3) := by decide +kernel
theorem dX4_gesture_49 : decode cX4_gesture 49 = .ok (.bipush 110, 2) := by decide +kernel
theorem dX4_gesture_51 : decode cX4_gesture 51 = .ok (.ireturn, 1) := by decide +kernel
theorem dX4_agreement_0 : decode cX4_agreement 0 = .ok (.aload_n 0, 1) := by decide +kernel
theorem dX4_agreement_1 : decode cX4_agreement 1 = .ok (.getfield 10, 3) := by decide +kernel
theorem dX4_agreement_4 : decode cX4_agreement 4 = .ok (.iload_n 1, 1) := by decide +kernel
theorem dX4_agreement_5 : decode cX4_agreement 5 = .ok (.invokevirtual 45, 3) := by decide +kernel
theorem dX4_agreement_8 : decode cX4_agreement 8 = .ok (.astore 4, 2) := by decide +kernel
theorem dX4_agreement_10 : decode cX4_agreement 10 = .ok (.aload_n 0, 1) := by decide +kernel
theorem dX4_agreement_11 : decode cX4_agreement 11 = .ok (.getfield 10, 3) := by decide +kernel
theorem dX4_agreement_14 : decode cX4_agreement 14 = .ok (.iload_n 2, 1) := by decide +kernel
theorem dX4_agreement_15 : decode cX4_agreement 15 = .ok (.invokevirtual 45, 3) := by decide +kernel
theorem dX4_agreement_18 : decode cX4_agreement 18 = .ok (.astore 5, 2) := by decide +kernel
theorem dX4_agreement_20 : decode cX4_agreement 20 = .ok (.aload 4, 2) := by decide +kernel
theorem dX4_agreement_22 : decode cX4_agreement 22 = .ok (.ifnull 8, 3) := by decide +kernel
theorem dX4_agreement_25 : decode cX4_agreement 25 = .ok (.aload 5, 2) := by decide +kernel
theorem dX4_agreement_27 : decode cX4_agreement 27 = .ok (.ifnonnull 5, 3) := by decide +kernel
theorem dX4_agreement_30 : decode cX4_agreement 30 = .ok (.iconst (-1), 1) := by decide +kernel
theorem dX4_agreement_31 : decode cX4_agreement 31 = .ok (.ireturn, 1) := by decide +kernel
theorem dX4_agreement_32 : decode cX4_agreement 32 = .ok (.iload_n 3, 1) := by decide +kernel
theorem dX4_agreement_33 : decode cX4_agreement 33 = .ok (.ifCond .ne 11, 3) := by decide +kernel
theorem dX4_agreement_36 : decode cX4_agreement 36 = .ok (.aload 4, 2) := by decide +kernel
theorem dX4_agreement_38 : decode cX4_agreement 38 = .ok (.aload 5, 2) := by decide +kernel
theorem dX4_agreement_40 : decode cX4_agreement 40 = .ok (.invokestatic 130, 3) := by decide +kernel
theorem dX4_agreement_43 : decode cX4_agreement 43 = .ok (.ireturn, 1) := by decide +kernel
theorem dX4_agreement_44 : decode cX4_agreement 44 = .ok (.iload_n 3, 1) := by decide +kernel
theorem dX4_agreement_45 : decode cX4_agreement 45 = .ok (.iconst 1, 1) := by decide +kernel
theorem dX4_agreement_46 : decode cX4_agreement 46 = .ok (.if_icmp .ne 13, 3) := by decide +kernel
theorem dX4_agreement_49 : decode cX4_agreement 49 = .ok (.aload 4, 2) := by decide +kernel
theorem dX4_agreement_51 : decode cX4_agreement 51 = .ok (.aload 5, 2) := by decide +kernel
theorem dX4_agreement_53 : decode cX4_agreement 53 = .ok (.invokestatic 134, 3) := by decide +kernel
theorem dX4_agreement_56 : decode cX4_agreement 56 = .ok (.goto 5, 3) := by decide +kernel
theorem dX4_agreement_59 : decode cX4_agreement 59 = .ok (.bipush (-2), 2) := by decide +kernel
theorem dX4_agreement_61 : decode cX4_agreement 61 = .ok (.ireturn, 1) := by decide +kernel
theorem dX4_understanding_0 : decode cX4_understanding 0 = .ok (.aload_n 0, 1) := by decide +kernel
theorem dX4_understanding_1 : decode cX4_understanding 1 = .ok (.getfield 10, 3) := by decide +kernel
theorem dX4_understanding_4 : decode cX4_understanding 4 = .ok (.iload_n 1, 1) := by decide +kernel
theorem dX4_understanding_5 : decode cX4_understanding 5 = .ok (.invokevirtual 45, 3) := by decide +kernel
theorem dX4_understanding_8 : decode cX4_understanding 8 = .ok (.astore_n 3, 1) := by decide +kernel
theorem dX4_understanding_9 : decode cX4_understanding 9 = .ok (.aload_n 0, 1) := by decide +kernel
theorem dX4_understanding_10 : decode cX4_understanding 10 = .ok (.getfield 10, 3) := by decide +kernel
theorem dX4_understanding_13 : decode cX4_understanding 13 = .ok (.iload_n 2, 1) := by decide +kernel
theorem dX4_understanding_14 : decode cX4_understanding 14 = .ok (.invokevirtual 45, 3) := by decide +kernel
theorem dX4_understanding_17 : decode cX4_understanding 17 = .ok (.astore 4, 2) := by decide +kernel
theorem dX4_understanding_19 : decode cX4_understanding 19 = .ok (.aload_n 3, 1) := by decide +kernel
theorem dX4_understanding_20 : decode cX4_understanding 20 = .ok (.ifnull 8, 3) := by decide +kernel
theorem dX4_understanding_23 : decode cX4_understanding 23 = .ok (.aload 4, 2) := by decide +kernel
theorem dX4_understanding_25 : decode cX4_understanding 25 = .ok (.ifnonnull 5, 3) := by decide +kernel
theorem dX4_understanding_28 : decode cX4_understanding 28 = .ok (.iconst (-1), 1) := by decide +kernel
theorem dX4_understanding_29 : decode cX4_understanding 29 = .ok (.ireturn, 1) := by decide +kernel
theorem dX4_understanding_30 : decode cX4_understanding 30 = .ok (.aload_n 3, 1) := by decide +kernel
theorem dX4_understanding_31 : decode cX4_understanding 31 = .ok (.aload 4, 2) := by decide +kernel
theorem dX4_understanding_33 : decode cX4_understanding 33 = .ok (.invokestatic 137, 3) := by decide +kernel
theorem dX4_understanding_36 : decode cX4_understanding 36 = .ok (.ireturn, 1) := by decide +kernel
theorem dX4_common_0 : decode cX4_common 0 = .ok (.iload_n 1, 1) := by decide +kernel
theorem dX4_common_1 : decode cX4_common 1 = .ok (.invokestatic 80, 3) := by decide +kernel
theorem dX4_common_4 : decode cX4_common 4 = .ok (.ifCond .eq 14, 3) := by decide +kernel
theorem dX4_common_7 : decode cX4_common 7 = .ok (.aload_n 0, 1) := by decide +kernel
theorem dX4_common_8 : decode cX4_common 8 = .ok (.getfield 10, 3) := by decide +kernel
theorem dX4_common_11 : decode cX4_common 11 = .ok (.iload_n 1, 1) := by decide +kernel
theorem dX4_common_12 : decode cX4_common 12 = .ok (.invokevirtual 140, 3) := by decide +kernel
theorem dX4_common_15 : decode cX4_common 15 = .ok (.goto 4, 3) := by decide +kernel
theorem dX4_common_18 : decode cX4_common 18 = .ok (.iconst (-1), 1) := by decide +kernel
theorem dX4_common_19 : decode cX4_common 19 = .ok (.ireturn, 1) := by decide +kernel
theorem dX4_ifMet_0 : decode cX4_ifMet 0 = .ok (.aload_n 0, 1) := by decide +kernel
theorem dX4_ifMet_1 : decode cX4_ifMet 1 = .ok (.getfield 10, 3) := by decide +kernel
theorem dX4_ifMet_4 : decode cX4_ifMet 4 = .ok (.iload_n 1, 1) := by decide +kernel
theorem dX4_ifMet_5 : decode cX4_ifMet 5 = .ok (.invokevirtual 45, 3) := by decide +kernel
theorem dX4_ifMet_8 : decode cX4_ifMet 8 = .ok (.ifnull 21, 3) := by decide +kernel
theorem dX4_ifMet_11 : decode cX4_ifMet 11 = .ok (.aload_n 0, 1) := by decide +kernel
theorem dX4_ifMet_12 : decode cX4_ifMet 12 = .ok (.getfield 10, 3) := by decide +kernel
theorem dX4_ifMet_15 : decode cX4_ifMet 15 = .ok (.iload_n 2, 1) := by decide +kernel
theorem dX4_ifMet_16 : decode cX4_ifMet 16 = .ok (.invokevirtual 45, 3) := by decide +kernel
theorem dX4_ifMet_19 : decode cX4_ifMet 19 = .ok (.ifnull 10, 3) := by decide +kernel
theorem dX4_ifMet_22 : decode cX4_ifMet 22 = .ok (.iload_n 3, 1) := by decide +kernel
theorem dX4_ifMet_23 : decode cX4_ifMet 23 = .ok (.invokestatic 80, 3) := by decide +kernel
theorem dX4_ifMet_26 : decode cX4_ifMet 26 = .ok (.ifCond .ne 5, 3) := by decide +kernel
theorem dX4_ifMet_29 : decode cX4_ifMet 29 = .ok (.iconst (-1), 1) := by decide +kernel
theorem dX4_ifMet_30 : decode cX4_ifMet 30 = .ok (.ireturn, 1) := by decide +kernel
theorem dX4_ifMet_31 : decode cX4_ifMet 31 = .ok (.iload 4, 2) := by decide +kernel
theorem dX4_ifMet_33 : decode cX4_ifMet 33 = .ok (.iconst 4, 1) := by decide +kernel
theorem dX4_ifMet_34 : decode cX4_ifMet 34 = .ok (.invokestatic 57, 3) := by decide +kernel
theorem dX4_ifMet_37 : decode cX4_ifMet 37 = .ok (.ifCond .ne 6, 3) := by decide +kernel
theorem dX4_ifMet_40 : decode cX4_ifMet 40 = .ok (.bipush (-2), 2) := by decide +kernel
theorem dX4_ifMet_42 : decode cX4_ifMet 42 = .ok (.ireturn, 1) := by decide +kernel
theorem dX4_ifMet_43 : decode cX4_ifMet 43 = .ok (.iload_n 1, 1) := by decide +kernel
theorem dX4_ifMet_44 : decode cX4_ifMet 44 = .ok (.iload_n 2, 1) := by decide +kernel
theorem dX4_ifMet_45 : decode cX4_ifMet 45 = .ok (.if_icmp .ne 6, 3) := by decide +kernel
theorem dX4_ifMet_48 : decode cX4_ifMet 48 = .ok (.bipush (-3), 2) := by decide +kernel
theorem dX4_ifMet_50 : decode cX4_ifMet 50 = .ok (.ireturn, 1) := by decide +kernel
theorem dX4_ifMet_51 : decode cX4_ifMet 51 = .ok (.aload_n 0, 1) := by decide +kernel
theorem dX4_ifMet_52 : decode cX4_ifMet 52 = .ok (.getfield 16, 3) := by decide +kernel
theorem dX4_ifMet_55 : decode cX4_ifMet 55 = .ok (.aload_n 0, 1) := by decide +kernel
theorem dX4_ifMet_56 : decode cX4_ifMet 56 = .ok (.getfield 10, 3) := by decide +kernel
theorem dX4_ifMet_59 : decode cX4_ifMet 59 = .ok (.invokevirtual 143, 3) := by decide +kernel
theorem dX4_ifMet_62 : decode cX4_ifMet 62 = .ok (.aload_n 0, 1) := by decide +kernel
theorem dX4_ifMet_63 : decode cX4_ifMet 63 = .ok (.getfield 16, 3) := by decide +kernel
theorem dX4_ifMet_66 : decode cX4_ifMet 66 = .ok (.iload_n 1, 1) := by decide +kernel
theorem dX4_ifMet_67 : decode cX4_ifMet 67 = .ok (.invokevirtual 45, 3) := by decide +kernel
theorem dX4_ifMet_70 : decode cX4_ifMet 70 = .ok (.astore 5, 2) := by decide +kernel
theorem dX4_ifMet_72 : decode cX4_ifMet 72 = .ok (.aload_n 0, 1) := by decide +kernel
theorem dX4_ifMet_73 : decode cX4_ifMet 73 = .ok (.getfield 16, 3) := by decide +kernel
theorem dX4_ifMet_76 : decode cX4_ifMet 76 = .ok (.iload_n 2, 1) := by decide +kernel
theorem dX4_ifMet_77 : decode cX4_ifMet 77 = .ok (.invokevirtual 45, 3) := by decide +kernel
theorem dX4_ifMet_80 : decode cX4_ifMet 80 = .ok (.astore 6, 2) := by decide +kernel
theorem dX4_ifMet_82 : decode cX4_ifMet 82 = .ok (.aload 5, 2) := by decide +kernel
theorem dX4_ifMet_84 : decode cX4_ifMet 84 = .ok (.ifnull 8, 3) := by decide +kernel
theorem dX4_ifMet_87 : decode cX4_ifMet 87 = .ok (.aload 6, 2) := by decide +kernel
theorem dX4_ifMet_89 : decode cX4_ifMet 89 = .ok (.ifnonnull 5, 3) := by decide +kernel
theorem dX4_ifMet_92 : decode cX4_ifMet 92 = .ok (.iconst (-1), 1) := by decide +kernel
theorem dX4_ifMet_93 : decode cX4_ifMet 93 = .ok (.ireturn, 1) := by decide +kernel
theorem dX4_ifMet_94 : decode cX4_ifMet 94 = .ok (.aload_n 0, 1) := by decide +kernel
theorem dX4_ifMet_95 : decode cX4_ifMet 95 = .ok (.getfield 16, 3) := by decide +kernel
theorem dX4_ifMet_98 : decode cX4_ifMet 98 = .ok (.aload 5, 2) := by decide +kernel
theorem dX4_ifMet_100 : decode cX4_ifMet 100 = .ok (.aload 6, 2) := by decide +kernel
theorem dX4_ifMet_102 : decode cX4_ifMet 102 = .ok (.iload_n 3, 1) := by decide +kernel
theorem dX4_ifMet_103 : decode cX4_ifMet 103 = .ok (.invokevirtual 98, 3) := by decide +kernel
theorem dX4_ifMet_106 : decode cX4_ifMet 106 = .ok (.istore 7, 2) := by decide +kernel
theorem dX4_ifMet_108 : decode cX4_ifMet 108 = .ok (.iload 4, 2) := by decide +kernel
theorem dX4_ifMet_110 : decode cX4_ifMet 110 = .ok (.tableswitch 53 0 2 #[26, 32, 38], 26) := by decide +kernel
theorem dX4_ifMet_136 : decode cX4_ifMet 136 = .ok (.iload 7, 2) := by decide +kernel
theorem dX4_ifMet_138 : decode cX4_ifMet 138 = .ok (.bipush 10, 2) := by decide +kernel
theorem dX4_ifMet_140 : decode cX4_ifMet 140 = .ok (.idiv, 1) := by decide +kernel
theorem dX4_ifMet_141 : decode cX4_ifMet 141 = .ok (.ireturn, 1) := by decide +kernel
theorem dX4_ifMet_142 : decode cX4_ifMet 142 = .ok (.iload 7, 2) := by decide +kernel
theorem dX4_ifMet_144 : decode cX4_ifMet 144 = .ok (.bipush 10, 2) := by decide +kernel
theorem dX4_ifMet_146 : decode cX4_ifMet 146 = .ok (.irem, 1) := by decide +kernel
theorem dX4_ifMet_147 : decode cX4_ifMet 147 = .ok (.ireturn, 1) := by decide +kernel
theorem dX4_ifMet_148 : decode cX4_ifMet 148 = .ok (.iload 7, 2) := by decide +kernel
theorem dX4_ifMet_150 : decode cX4_ifMet 150 = .ok (.bipush 10, 2) := by decide +kernel
theorem dX4_ifMet_152 : decode cX4_ifMet 152 = .ok (.irem, 1) := by decide +kernel
theorem dX4_ifMet_153 : decode cX4_ifMet 153 = .ok (.iload_n 3, 1) := by decide +kernel
theorem dX4_ifMet_154 : decode cX4_ifMet 154 = .ok (.if_icmp .ne 7, 3) := by decide +kernel
theorem dX4_ifMet_157 : decode cX4_ifMet 157 = .ok (.iconst 1, 1) := by decide +kernel
theorem dX4_ifMet_158 : decode cX4_ifMet 158 = .ok (.goto 4, 3) := by decide +kernel
theorem dX4_ifMet_161 : decode cX4_ifMet 161 = .ok (.iconst 0, 1) := by decide +kernel
theorem dX4_ifMet_162 : decode cX4_ifMet 162 = .ok (.ireturn, 1) := by decide +kernel
theorem dX4_ifMet_163 : decode cX4_ifMet 163 = .ok (.aload 5, 2) := by decide +kernel
theorem dX4_ifMet_165 : decode cX4_ifMet 165 = .ok (.aload 6, 2) := by decide +kernel
theorem dX4_ifMet_167 : decode cX4_ifMet 167 = .ok (.invokestatic 130, 3) := by decide +kernel
theorem dX4_ifMet_170 : decode cX4_ifMet 170 = .ok (.ireturn, 1) := by decide +kernel
theorem dX4_ifChat_0 : decode cX4_ifChat 0 = .ok (.aload_n 0, 1) := by decide +kernel
theorem dX4_ifChat_1 : decode cX4_ifChat 1 = .ok (.iload_n 1, 1) := by decide +kernel
theorem dX4_ifChat_2 : decode cX4_ifChat 2 = .ok (.invokevirtual 102, 3) := by decide +kernel
theorem dX4_ifChat_5 : decode cX4_ifChat 5 = .ok (.istore_n 2, 1) := by decide +kernel
theorem dX4_ifChat_6 : decode cX4_ifChat 6 = .ok (.iload_n 2, 1) := by decide +kernel
theorem dX4_ifChat_7 : decode cX4_ifChat 7 = .ok (.ifCond .eq 5, 3) := by decide +kernel
theorem dX4_ifChat_10 : decode cX4_ifChat 10 = .ok (.iload_n 2, 1) := by decide +kernel
theorem dX4_ifChat_11 : decode cX4_ifChat 11 = .ok (.ireturn, 1) := by decide +kernel
theorem dX4_ifChat_12 : decode cX4_ifChat 12 = .ok (.aload_n 0, 1) := by decide +kernel
theorem dX4_ifChat_13 : decode cX4_ifChat 13 = .ok (.getfield 16, 3) := by decide +kernel
theorem dX4_ifChat_16 : decode cX4_ifChat 16 = .ok (.aload_n 0, 1) := by decide +kernel
theorem dX4_ifChat_17 : decode cX4_ifChat 17 = .ok (.getfield 10, 3) := by decide +kernel
theorem dX4_ifChat_20 : decode cX4_ifChat 20 = .ok (.invokevirtual 143, 3) := by decide +kernel
theorem dX4_ifChat_23 : decode cX4_ifChat 23 = .ok (.aload_n 0, 1) := by decide +kernel
theorem dX4_ifChat_24 : decode cX4_ifChat 24 = .ok (.getfield 16, 3) := by decide +kernel
theorem dX4_ifChat_27 : decode cX4_ifChat 27 = .ok (.iload_n 1, 1) := by decide +kernel
theorem dX4_ifChat_28 : decode cX4_ifChat 28 = .ok (.invokevirtual 105, 3) := by decide +kernel
theorem dX4_ifChat_31 : decode cX4_ifChat 31 = .ok (.ireturn, 1) := by decide +kernel
theorem dX4_bestSayer_0 : decode cX4_bestSayer 0 = .ok (.aload_n 0, 1) := by decide +kernel
theorem dX4_bestSayer_1 : decode cX4_bestSayer 1 = .ok (.getfield 10, 3) := by decide +kernel
theorem dX4_bestSayer_4 : decode cX4_bestSayer 4 = .ok (.iload_n 1, 1) := by decide +kernel
theorem dX4_bestSayer_5 : decode cX4_bestSayer 5 = .ok (.invokevirtual 45, 3) := by decide +kernel
theorem dX4_bestSayer_8 : decode cX4_bestSayer 8 = .ok (.astore_n 2, 1) := by decide +kernel
theorem dX4_bestSayer_9 : decode cX4_bestSayer 9 = .ok (.aload_n 2, 1) := by decide +kernel
theorem dX4_bestSayer_10 : decode cX4_bestSayer 10 = .ok (.ifnonnull 5, 3) := by decide +kernel
theorem dX4_bestSayer_13 : decode cX4_bestSayer 13 = .ok (.iconst (-1), 1) := by decide +kernel
theorem dX4_bestSayer_14 : decode cX4_bestSayer 14 = .ok (.ireturn, 1) := by decide +kernel
theorem dX4_bestSayer_15 : decode cX4_bestSayer 15 = .ok (.bipush (-6), 2) := by decide +kernel
theorem dX4_bestSayer_17 : decode cX4_bestSayer 17 = .ok (.istore_n 3, 1) := by decide +kernel
theorem dX4_bestSayer_18 : decode cX4_bestSayer 18 = .ok (.iconst (-1), 1) := by decide +kernel
theorem dX4_bestSayer_19 : decode cX4_bestSayer 19 = .ok (.istore 4, 2) := by decide +kernel
theorem dX4_bestSayer_21 : decode cX4_bestSayer 21 = .ok (.iconst 0, 1) := by decide +kernel
theorem dX4_bestSayer_22 : decode cX4_bestSayer 22 = .ok (.istore 5, 2) := by decide +kernel
theorem dX4_bestSayer_24 : decode cX4_bestSayer 24 = .ok (.iload 5, 2) := by decide +kernel
theorem dX4_bestSayer_26 : decode cX4_bestSayer 26 = .ok (.bipush 8, 2) := by decide +kernel
theorem dX4_bestSayer_28 : decode cX4_bestSayer 28 = .ok (.if_icmp .ge 56, 3) := by decide +kernel
theorem dX4_bestSayer_31 : decode cX4_bestSayer 31 = .ok (.aload_n 0, 1) := by decide +kernel
theorem dX4_bestSayer_32 : decode cX4_bestSayer 32 = .ok (.getfield 10, 3) := by decide +kernel
theorem dX4_bestSayer_35 : decode cX4_bestSayer 35 = .ok (.iload 5, 2) := by decide +kernel
theorem dX4_bestSayer_37 : decode cX4_bestSayer 37 = .ok (.invokevirtual 45, 3) := by decide +kernel
theorem dX4_bestSayer_40 : decode cX4_bestSayer 40 = .ok (.astore 6, 2) := by decide +kernel
theorem dX4_bestSayer_42 : decode cX4_bestSayer 42 = .ok (.aload 6, 2) := by decide +kernel
theorem dX4_bestSayer_44 : decode cX4_bestSayer 44 = .ok (.ifnull 34, 3) := by decide +kernel
theorem dX4_bestSayer_47 : decode cX4_bestSayer 47 = .ok (.iload 5, 2) := by decide +kernel
theorem dX4_bestSayer_49 : decode cX4_bestSayer 49 = .ok (.iload_n 1, 1) := by decide +kernel
theorem dX4_bestSayer_50 : decode cX4_bestSayer 50 = .ok (.if_icmp .ne 6, 3) := by decide +kernel
theorem dX4_bestSayer_53 : decode cX4_bestSayer 53 = .ok (.goto 25, 3) := by decide +kernel
theorem dX4_bestSayer_56 : decode cX4_bestSayer 56 = .ok (.aload 6, 2) := by decide +kernel
theorem dX4_bestSayer_58 : decode cX4_bestSayer 58 = .ok (.aload_n 2, 1) := by decide +kernel
theorem dX4_bestSayer_59 : decode cX4_bestSayer 59 = .ok (.invokestatic 137, 3) := by decide +kernel
theorem dX4_bestSayer_62 : decode cX4_bestSayer 62 = .ok (.istore 7, 2) := by decide +kernel
theorem dX4_bestSayer_64 : decode cX4_bestSayer 64 = .ok (.iload 7, 2) := by decide +kernel
theorem dX4_bestSayer_66 : decode cX4_bestSayer 66 = .ok (.iload 4, 2) := by decide +kernel
theorem dX4_bestSayer_68 : decode cX4_bestSayer 68 = .ok (.if_icmp .le 10, 3) := by decide +kernel
theorem dX4_bestSayer_71 : decode cX4_bestSayer 71 = .ok (.iload 7, 2) := by decide +kernel
theorem dX4_bestSayer_73 : decode cX4_bestSayer 73 = .ok (.istore 4, 2) := by decide +kernel
theorem dX4_bestSayer_75 : decode cX4_bestSayer 75 = .ok (.iload 5, 2) := by decide +kernel
theorem dX4_bestSayer_77 : decode cX4_bestSayer 77 = .ok (.istore_n 3, 1) := by decide +kernel
theorem dX4_bestSayer_78 : decode cX4_bestSayer 78 = .ok (.iinc 5 1, 3) := by decide +kernel
theorem dX4_bestSayer_81 : decode cX4_bestSayer 81 = .ok (.goto (-57), 3) := by decide +kernel
theorem dX4_bestSayer_84 : decode cX4_bestSayer 84 = .ok (.iload_n 3, 1) := by decide +kernel
theorem dX4_bestSayer_85 : decode cX4_bestSayer 85 = .ok (.ireturn, 1) := by decide +kernel
theorem dX4_type_0 : decode cX4_type 0 = .ok (.iload_n 1, 1) := by decide +kernel
theorem dX4_type_1 : decode cX4_type 1 = .ok (.bipush 33, 2) := by decide +kernel
theorem dX4_type_3 : decode cX4_type 3 = .ok (.if_icmp .lt 9, 3) := by decide +kernel
theorem dX4_type_6 : decode cX4_type 6 = .ok (.iload_n 1, 1) := by decide +kernel
theorem dX4_type_7 : decode cX4_type 7 = .ok (.bipush 126, 2) := by decide +kernel
theorem dX4_type_9 : decode cX4_type 9 = .ok (.if_icmp .le 6, 3) := by decide +kernel
theorem dX4_type_12 : decode cX4_type 12 = .ok (.bipush (-2), 2) := by decide +kernel
theorem dX4_type_14 : decode cX4_type 14 = .ok (.ireturn, 1) := by decide +kernel
theorem dX4_type_15 : decode cX4_type 15 = .ok (.aload_n 0, 1) := by decide +kernel
theorem dX4_type_16 : decode cX4_type 16 = .ok (.getfield 29, 3) := by decide +kernel
theorem dX4_type_19 : decode cX4_type 19 = .ok (.iload_n 1, 1) := by decide +kernel
theorem dX4_type_20 : decode cX4_type 20 = .ok (.i2c, 1) := by decide +kernel
theorem dX4_type_21 : decode cX4_type 21 = .ok (.invokevirtual 146, 3) := by decide +kernel
theorem dX4_type_24 : decode cX4_type 24 = .ok (.ifCond .eq 13, 3) := by decide +kernel
theorem dX4_type_27 : decode cX4_type 27 = .ok (.aload_n 0, 1) := by decide +kernel
theorem dX4_type_28 : decode cX4_type 28 = .ok (.getfield 29, 3) := by decide +kernel
theorem dX4_type_31 : decode cX4_type 31 = .ok (.getfield 150, 3) := by decide +kernel
theorem dX4_type_34 : decode cX4_type 34 = .ok (.goto 5, 3) := by decide +kernel
theorem dX4_type_37 : decode cX4_type 37 = .ok (.bipush (-4), 2) := by decide +kernel
theorem dX4_type_39 : decode cX4_type 39 = .ok (.ireturn, 1) := by decide +kernel
theorem dX4_clearText_0 : decode cX4_clearText 0 = .ok (.aload_n 0, 1) := by decide +kernel
theorem dX4_clearText_1 : decode cX4_clearText 1 = .ok (.getfield 29, 3) := by decide +kernel
theorem dX4_clearText_4 : decode cX4_clearText 4 = .ok (.getfield 150, 3) := by decide +kernel
theorem dX4_clearText_7 : decode cX4_clearText 7 = .ok (.istore_n 1, 1) := by decide +kernel
theorem dX4_clearText_8 : decode cX4_clearText 8 = .ok (.aload_n 0, 1) := by decide +kernel
theorem dX4_clearText_9 : decode cX4_clearText 9 = .ok (.getfield 29, 3) := by decide +kernel
theorem dX4_clearText_12 : decode cX4_clearText 12 = .ok (.iconst 0, 1) := by decide +kernel
theorem dX4_clearText_13 : decode cX4_clearText 13 = .ok (.putfield 150, 3) := by decide +kernel
theorem dX4_clearText_16 : decode cX4_clearText 16 = .ok (.iload_n 1, 1) := by decide +kernel
theorem dX4_clearText_17 : decode cX4_clearText 17 = .ok (.ireturn, 1) := by decide +kernel
theorem dX4_syntaxError_0 : decode cX4_syntaxError 0 = .ok (.aload_n 0, 1) := by decide +kernel
theorem dX4_syntaxError_1 : decode cX4_syntaxError 1 = .ok (.getfield 29, 3) := by decide +kernel
theorem dX4_syntaxError_4 : decode cX4_syntaxError 4 = .ok (.invokevirtual 153, 3) := by decide +kernel
theorem dX4_syntaxError_7 : decode cX4_syntaxError 7 = .ok (.ireturn, 1) := by decide +kernel
theorem dX4_learn_0 : decode cX4_learn 0 = .ok (.aload_n 0, 1) := by decide +kernel
theorem dX4_learn_1 : decode cX4_learn 1 = .ok (.getfield 29, 3) := by decide +kernel
theorem dX4_learn_4 : decode cX4_learn 4 = .ok (.invokevirtual 153, 3) := by decide +kernel
theorem dX4_learn_7 : decode cX4_learn 7 = .ok (.bipush (-6), 2) := by decide +kernel
theorem dX4_learn_9 : decode cX4_learn 9 = .ok (.if_icmp .eq 6, 3) := by decide +kernel
theorem dX4_learn_12 : decode cX4_learn 12 = .ok (.bipush (-5), 2) := by decide +kernel
theorem dX4_learn_14 : decode cX4_learn 14 = .ok (.ireturn, 1) := by decide +kernel
theorem dX4_learn_15 : decode cX4_learn 15 = .ok (.aload_n 0, 1) := by decide +kernel
theorem dX4_learn_16 : decode cX4_learn 16 = .ok (.getfield 22, 3) := by decide +kernel
theorem dX4_learn_19 : decode cX4_learn 19 = .ok (.aload_n 0, 1) := by decide +kernel
theorem dX4_learn_20 : decode cX4_learn 20 = .ok (.getfield 10, 3) := by decide +kernel
theorem dX4_learn_23 : decode cX4_learn 23 = .ok (.invokevirtual 37, 3) := by decide +kernel
theorem dX4_learn_26 : decode cX4_learn 26 = .ok (.aload_n 0, 1) := by decide +kernel
theorem dX4_learn_27 : decode cX4_learn 27 = .ok (.getfield 29, 3) := by decide +kernel
theorem dX4_learn_30 : decode cX4_learn 30 = .ok (.aload_n 0, 1) := by decide +kernel
theorem dX4_learn_31 : decode cX4_learn 31 = .ok (.getfield 10, 3) := by decide +kernel
theorem dX4_learn_34 : decode cX4_learn 34 = .ok (.invokevirtual 156, 3) := by decide +kernel
theorem dX4_learn_37 : decode cX4_learn 37 = .ok (.istore_n 1, 1) := by decide +kernel
theorem dX4_learn_38 : decode cX4_learn 38 = .ok (.aload_n 0, 1) := by decide +kernel
theorem dX4_learn_39 : decode cX4_learn 39 = .ok (.getfield 29, 3) := by decide +kernel
theorem dX4_learn_42 : decode cX4_learn 42 = .ok (.iconst 0, 1) := by decide +kernel
theorem dX4_learn_43 : decode cX4_learn 43 = .ok (.putfield 150, 3) := by decide +kernel
theorem dX4_learn_46 : decode cX4_learn 46 = .ok (.iload_n 1, 1) := by decide +kernel
theorem dX4_learn_47 : decode cX4_learn 47 = .ok (.ireturn, 1) := by decide +kernel
theorem dX4_undo_0 : decode cX4_undo 0 = .ok (.aload_n 0, 1) := by decide +kernel
theorem dX4_undo_1 : decode cX4_undo 1 = .ok (.getfield 22, 3) := by decide +kernel
theorem dX4_undo_4 : decode cX4_undo 4 = .ok (.aload_n 0, 1) := by decide +kernel
theorem dX4_undo_5 : decode cX4_undo 5 = .ok (.getfield 10, 3) := by decide +kernel
theorem dX4_undo_8 : decode cX4_undo 8 = .ok (.invokevirtual 160, 3) := by decide +kernel
theorem dX4_undo_11 : decode cX4_undo 11 = .ok (.ifCond .eq 13, 3) := by decide +kernel
theorem dX4_undo_14 : decode cX4_undo 14 = .ok (.aload_n 0, 1) := by decide +kernel
theorem dX4_undo_15 : decode cX4_undo 15 = .ok (.getfield 22, 3) := by decide +kernel
theorem dX4_undo_18 : decode cX4_undo 18 = .ok (.getfield 164, 3) := by decide +kernel
theorem dX4_undo_21 : decode cX4_undo 21 = .ok (.goto 5, 3) := by decide +kernel
theorem dX4_undo_24 : decode cX4_undo 24 = .ok (.bipush (-3), 2) := by decide +kernel
theorem dX4_undo_26 : decode cX4_undo 26 = .ok (.ireturn, 1) := by decide +kernel
theorem dX4_digest_0 : decode cX4_digest 0 = .ok (.ldc2_w 167, 3) := by decide +kernel
theorem dX4_digest_3 : decode cX4_digest 3 = .ok (.lstore_n 1, 1) := by decide +kernel
theorem dX4_digest_4 : decode cX4_digest 4 = .ok (.iconst 0, 1) := by decide +kernel
theorem dX4_digest_5 : decode cX4_digest 5 = .ok (.istore_n 3, 1) := by decide +kernel
theorem dX4_digest_6 : decode cX4_digest 6 = .ok (.iload_n 3, 1) := by decide +kernel
theorem dX4_digest_7 : decode cX4_digest 7 = .ok (.bipush 7, 2) := by decide +kernel
theorem dX4_digest_9 : decode cX4_digest 9 = .ok (.if_icmp .ge 22, 3) := by decide +kernel
theorem dX4_digest_12 : decode cX4_digest 12 = .ok (.lload_n 1, 1) := by decide +kernel
theorem dX4_digest_13 : decode cX4_digest 13 = .ok (.aload_n 0, 1) := by decide +kernel
theorem dX4_digest_14 : decode cX4_digest 14 = .ok (.getfield 10, 3) := by decide +kernel
theorem dX4_digest_17 : decode cX4_digest 17 = .ok (.iload_n 3, 1) := by decide +kernel
theorem dX4_digest_18 : decode cX4_digest 18 = .ok (.invokevirtual 111, 3) := by decide +kernel
theorem dX4_digest_21 : decode cX4_digest 21 = .ok (.invokestatic 169, 3) := by decide +kernel
theorem dX4_digest_24 : decode cX4_digest 24 = .ok (.lstore_n 1, 1) := by decide +kernel
theorem dX4_digest_25 : decode cX4_digest 25 = .ok (.iinc 3 1, 3) := by decide +kernel
theorem dX4_digest_28 : decode cX4_digest 28 = .ok (.goto (-22), 3) := by decide +kernel
theorem dX4_digest_31 : decode cX4_digest 31 = .ok (.iconst 0, 1) := by decide +kernel
theorem dX4_digest_32 : decode cX4_digest 32 = .ok (.istore_n 3, 1) := by decide +kernel
theorem dX4_digest_33 : decode cX4_digest 33 = .ok (.iload_n 3, 1) := by decide +kernel
theorem dX4_digest_34 : decode cX4_digest 34 = .ok (.iconst 4, 1) := by decide +kernel
theorem dX4_digest_35 : decode cX4_digest 35 = .ok (.if_icmp .ge 22, 3) := by decide +kernel
theorem dX4_digest_38 : decode cX4_digest 38 = .ok (.lload_n 1, 1) := by decide +kernel
theorem dX4_digest_39 : decode cX4_digest 39 = .ok (.aload_n 0, 1) := by decide +kernel
theorem dX4_digest_40 : decode cX4_digest 40 = .ok (.getfield 10, 3) := by decide +kernel
theorem dX4_digest_43 : decode cX4_digest 43 = .ok (.iload_n 3, 1) := by decide +kernel
theorem dX4_digest_44 : decode cX4_digest 44 = .ok (.invokevirtual 68, 3) := by decide +kernel
theorem dX4_digest_47 : decode cX4_digest 47 = .ok (.invokestatic 169, 3) := by decide +kernel
theorem dX4_digest_50 : decode cX4_digest 50 = .ok (.lstore_n 1, 1) := by decide +kernel
theorem dX4_digest_51 : decode cX4_digest 51 = .ok (.iinc 3 1, 3) := by decide +kernel
theorem dX4_digest_54 : decode cX4_digest 54 = .ok (.goto (-21), 3) := by decide +kernel
theorem dX4_digest_57 : decode cX4_digest 57 = .ok (.iconst 0, 1) := by decide +kernel
theorem dX4_digest_58 : decode cX4_digest 58 = .ok (.istore_n 3, 1) := by decide +kernel
theorem dX4_digest_59 : decode cX4_digest 59 = .ok (.iload_n 3, 1) := by decide +kernel
theorem dX4_digest_60 : decode cX4_digest 60 = .ok (.bipush 8, 2) := by decide +kernel
theorem dX4_digest_62 : decode cX4_digest 62 = .ok (.if_icmp .ge 16, 3) := by decide +kernel
theorem dX4_digest_65 : decode cX4_digest 65 = .ok (.aload_n 0, 1) := by decide +kernel
theorem dX4_digest_66 : decode cX4_digest 66 = .ok (.lload_n 1, 1) := by decide +kernel
theorem dX4_digest_67 : decode cX4_digest 67 = .ok (.iload_n 3, 1) := by decide +kernel
theorem dX4_digest_68 : decode cX4_digest 68 = .ok (.invokevirtual 173, 3) := by decide +kernel
theorem dX4_digest_71 : decode cX4_digest 71 = .ok (.lstore_n 1, 1) := by decide +kernel
theorem dX4_digest_72 : decode cX4_digest 72 = .ok (.iinc 3 1, 3) := by decide +kernel
theorem dX4_digest_75 : decode cX4_digest 75 = .ok (.goto (-16), 3) := by decide +kernel
theorem dX4_digest_78 : decode cX4_digest 78 = .ok (.iconst 0, 1) := by decide +kernel
theorem dX4_digest_79 : decode cX4_digest 79 = .ok (.istore_n 3, 1) := by decide +kernel
theorem dX4_digest_80 : decode cX4_digest 80 = .ok (.iload_n 3, 1) := by decide +kernel
theorem dX4_digest_81 : decode cX4_digest 81 = .ok (.bipush 6, 2) := by decide +kernel
theorem dX4_digest_83 : decode cX4_digest 83 = .ok (.if_icmp .ge 22, 3) := by decide +kernel
theorem dX4_digest_86 : decode cX4_digest 86 = .ok (.lload_n 1, 1) := by decide +kernel
theorem dX4_digest_87 : decode cX4_digest 87 = .ok (.aload_n 0, 1) := by decide +kernel
theorem dX4_digest_88 : decode cX4_digest 88 = .ok (.getfield 10, 3) := by decide +kernel
theorem dX4_digest_91 : decode cX4_digest 91 = .ok (.iload_n 3, 1) := by decide +kernel
theorem dX4_digest_92 : decode cX4_digest 92 = .ok (.invokevirtual 140, 3) := by decide +kernel
theorem dX4_digest_95 : decode cX4_digest 95 = .ok (.invokestatic 169, 3) := by decide +kernel
theorem dX4_digest_98 : decode cX4_digest 98 = .ok (.lstore_n 1, 1) := by decide +kernel
theorem dX4_digest_99 : decode cX4_digest 99 = .ok (.iinc 3 1, 3) := by decide +kernel
theorem dX4_digest_102 : decode cX4_digest 102 = .ok (.goto (-22), 3) := by decide +kernel
theorem dX4_digest_105 : decode cX4_digest 105 = .ok (.iconst 0, 1) := by decide +kernel
theorem dX4_digest_106 : decode cX4_digest 106 = .ok (.istore_n 3, 1) := by decide +kernel
theorem dX4_digest_107 : decode cX4_digest 107 = .ok (.iload_n 3, 1) := by decide +kernel
theorem dX4_digest_108 : decode cX4_digest 108 = .ok (.bipush 8, 2) := by decide +kernel
theorem dX4_digest_110 : decode cX4_digest 110 = .ok (.if_icmp .ge 16, 3) := by decide +kernel
theorem dX4_digest_113 : decode cX4_digest 113 = .ok (.aload_n 0, 1) := by decide +kernel
theorem dX4_digest_114 : decode cX4_digest 114 = .ok (.lload_n 1, 1) := by decide +kernel
theorem dX4_digest_115 : decode cX4_digest 115 = .ok (.iload_n 3, 1) := by decide +kernel
theorem dX4_digest_116 : decode cX4_digest 116 = .ok (.invokevirtual 176, 3) := by decide +kernel
theorem dX4_digest_119 : decode cX4_digest 119 = .ok (.lstore_n 1, 1) := by decide +kernel
theorem dX4_digest_120 : decode cX4_digest 120 = .ok (.iinc 3 1, 3) := by decide +kernel
theorem dX4_digest_123 : decode cX4_digest 123 = .ok (.goto (-16), 3) := by decide +kernel
theorem dX4_digest_126 : decode cX4_digest 126 = .ok (.lload_n 1, 1) := by decide +kernel
theorem dX4_digest_127 : decode cX4_digest 127 = .ok (.lreturn, 1) := by decide +kernel
theorem dX4_mixed_0 : decode cX4_mixed 0 = .ok (.ldc2_w 179, 3) := by decide +kernel
theorem dX4_mixed_3 : decode cX4_mixed 3 = .ok (.lload_n 0, 1) := by decide +kernel
theorem dX4_mixed_4 : decode cX4_mixed 4 = .ok (.lmul, 1) := by decide +kernel
theorem dX4_mixed_5 : decode cX4_mixed 5 = .ok (.iload_n 2, 1) := by decide +kernel
theorem dX4_mixed_6 : decode cX4_mixed 6 = .ok (.i2l, 1) := by decide +kernel
theorem dX4_mixed_7 : decode cX4_mixed 7 = .ok (.ladd, 1) := by decide +kernel
theorem dX4_mixed_8 : decode cX4_mixed 8 = .ok (.lreturn, 1) := by decide +kernel
theorem dX4_withSpeaker_0 : decode cX4_withSpeaker 0 = .ok (.aload_n 0, 1) := by decide +kernel
theorem dX4_withSpeaker_1 : decode cX4_withSpeaker 1 = .ok (.getfield 10, 3) := by decide +kernel
theorem dX4_withSpeaker_4 : decode cX4_withSpeaker 4 = .ok (.iload_n 3, 1) := by decide +kernel
theorem dX4_withSpeaker_5 : decode cX4_withSpeaker 5 = .ok (.invokevirtual 45, 3) := by decide +kernel
theorem dX4_withSpeaker_8 : decode cX4_withSpeaker 8 = .ok (.astore 4, 2) := by decide +kernel
theorem dX4_withSpeaker_10 : decode cX4_withSpeaker 10 = .ok (.aload 4, 2) := by decide +kernel
theorem dX4_withSpeaker_12 : decode cX4_withSpeaker 12 = .ok (.ifnonnull 5, 3) := by decide +kernel
theorem dX4_withSpeaker_15 : decode cX4_withSpeaker 15 = .ok (.lload_n 1, 1) := by decide +kernel
theorem dX4_withSpeaker_16 : decode cX4_withSpeaker 16 = .ok (.lreturn, 1) := by decide +kernel
theorem dX4_withSpeaker_17 : decode cX4_withSpeaker 17 = .ok (.lload_n 1, 1) := by decide +kernel
theorem dX4_withSpeaker_18 : decode cX4_withSpeaker 18 = .ok (.iload_n 3, 1) := by decide +kernel
theorem dX4_withSpeaker_19 : decode cX4_withSpeaker 19 = .ok (.invokestatic 169, 3) := by decide +kernel
theorem dX4_withSpeaker_22 : decode cX4_withSpeaker 22 = .ok (.lstore 5, 2) := by decide +kernel
theorem dX4_withSpeaker_24 : decode cX4_withSpeaker 24 = .ok (.iconst 0, 1) := by decide +kernel
theorem dX4_withSpeaker_25 : decode cX4_withSpeaker 25 = .ok (.istore 7, 2) := by decide +kernel
theorem dX4_withSpeaker_27 : decode cX4_withSpeaker 27 = .ok (.iload 7, 2) := by decide +kernel
theorem dX4_withSpeaker_29 : decode cX4_withSpeaker 29 = .ok (.iconst 5, 1) := by decide +kernel
theorem dX4_withSpeaker_30 : decode cX4_withSpeaker 30 = .ok (.if_icmp .ge 27, 3) := by decide +kernel
theorem dX4_withSpeaker_33 : decode cX4_withSpeaker 33 = .ok (.lload 5, 2) := by decide +kernel
theorem dX4_withSpeaker_35 : decode cX4_withSpeaker 35 = .ok (.aload_n 0, 1) := by decide +kernel
theorem dX4_withSpeaker_36 : decode cX4_withSpeaker 36 = .ok (.getfield 10, 3) := by decide +kernel
theorem dX4_withSpeaker_39 : decode cX4_withSpeaker 39 = .ok (.aload 4, 2) := by decide +kernel
theorem dX4_withSpeaker_41 : decode cX4_withSpeaker 41 = .ok (.iload 7, 2) := by decide +kernel
theorem dX4_withSpeaker_43 : decode cX4_withSpeaker 43 = .ok (.invokevirtual 114, 3) := by decide +kernel
theorem dX4_withSpeaker_46 : decode cX4_withSpeaker 46 = .ok (.invokestatic 169, 3) := by decide +kernel
theorem dX4_withSpeaker_49 : decode cX4_withSpeaker 49 = .ok (.lstore 5, 2) := by decide +kernel
theorem dX4_withSpeaker_51 : decode cX4_withSpeaker 51 = .ok (.iinc 7 1, 3) := by decide +kernel
theorem dX4_withSpeaker_54 : decode cX4_withSpeaker 54 = .ok (.goto (-27), 3) := by decide +kernel
theorem dX4_withSpeaker_57 : decode cX4_withSpeaker 57 = .ok (.iconst 0, 1) := by decide +kernel
theorem dX4_withSpeaker_58 : decode cX4_withSpeaker 58 = .ok (.istore 7, 2) := by decide +kernel
theorem dX4_withSpeaker_60 : decode cX4_withSpeaker 60 = .ok (.iload 7, 2) := by decide +kernel
theorem dX4_withSpeaker_62 : decode cX4_withSpeaker 62 = .ok (.bipush 6, 2) := by decide +kernel
theorem dX4_withSpeaker_64 : decode cX4_withSpeaker 64 = .ok (.if_icmp .ge 23, 3) := by decide +kernel
theorem dX4_withSpeaker_67 : decode cX4_withSpeaker 67 = .ok (.lload 5, 2) := by decide +kernel
theorem dX4_withSpeaker_69 : decode cX4_withSpeaker 69 = .ok (.aload 4, 2) := by decide +kernel
theorem dX4_withSpeaker_71 : decode cX4_withSpeaker 71 = .ok (.iload 7, 2) := by decide +kernel
theorem dX4_withSpeaker_73 : decode cX4_withSpeaker 73 = .ok (.invokevirtual 118, 3) := by decide +kernel
theorem dX4_withSpeaker_76 : decode cX4_withSpeaker 76 = .ok (.invokestatic 169, 3) := by decide +kernel
theorem dX4_withSpeaker_79 : decode cX4_withSpeaker 79 = .ok (.lstore 5, 2) := by decide +kernel
theorem dX4_withSpeaker_81 : decode cX4_withSpeaker 81 = .ok (.iinc 7 1, 3) := by decide +kernel
theorem dX4_withSpeaker_84 : decode cX4_withSpeaker 84 = .ok (.goto (-24), 3) := by decide +kernel
theorem dX4_withSpeaker_87 : decode cX4_withSpeaker 87 = .ok (.lload 5, 2) := by decide +kernel
theorem dX4_withSpeaker_89 : decode cX4_withSpeaker 89 = .ok (.lreturn, 1) := by decide +kernel
theorem dX4_withPairsOf_0 : decode cX4_withPairsOf 0 = .ok (.aload_n 0, 1) := by decide +kernel
theorem dX4_withPairsOf_1 : decode cX4_withPairsOf 1 = .ok (.getfield 10, 3) := by decide +kernel
theorem dX4_withPairsOf_4 : decode cX4_withPairsOf 4 = .ok (.iload_n 3, 1) := by decide +kernel
theorem dX4_withPairsOf_5 : decode cX4_withPairsOf 5 = .ok (.invokevirtual 45, 3) := by decide +kernel
theorem dX4_withPairsOf_8 : decode cX4_withPairsOf 8 = .ok (.astore 4, 2) := by decide +kernel
theorem dX4_withPairsOf_10 : decode cX4_withPairsOf 10 = .ok (.aload 4, 2) := by decide +kernel
theorem dX4_withPairsOf_12 : decode cX4_withPairsOf 12 = .ok (.ifnonnull 5, 3) := by decide +kernel
theorem dX4_withPairsOf_15 : decode cX4_withPairsOf 15 = .ok (.lload_n 1, 1) := by decide +kernel
theorem dX4_withPairsOf_16 : decode cX4_withPairsOf 16 = .ok (.lreturn, 1) := by decide +kernel
theorem dX4_withPairsOf_17 : decode cX4_withPairsOf 17 = .ok (.lload_n 1, 1) := by decide +kernel
theorem dX4_withPairsOf_18 : decode cX4_withPairsOf 18 = .ok (.lstore 5, 2) := by decide +kernel
theorem dX4_withPairsOf_20 : decode cX4_withPairsOf 20 = .ok (.iload_n 3, 1) := by decide +kernel
theorem dX4_withPairsOf_21 : decode cX4_withPairsOf 21 = .ok (.iconst 1, 1) := by decide +kernel
theorem dX4_withPairsOf_22 : decode cX4_withPairsOf 22 = .ok (.iadd, 1) := by decide +kernel
theorem dX4_withPairsOf_23 : decode cX4_withPairsOf 23 = .ok (.istore 7, 2) := by decide +kernel
theorem dX4_withPairsOf_25 : decode cX4_withPairsOf 25 = .ok (.iload 7, 2) := by decide +kernel
theorem dX4_withPairsOf_27 : decode cX4_withPairsOf 27 = .ok (.bipush 8, 2) := by decide +kernel
theorem dX4_withPairsOf_29 : decode cX4_withPairsOf 29 = .ok (.if_icmp .ge 53, 3) := by decide +kernel
theorem dX4_withPairsOf_32 : decode cX4_withPairsOf 32 = .ok (.aload_n 0, 1) := by decide +kernel
theorem dX4_withPairsOf_33 : decode cX4_withPairsOf 33 = .ok (.getfield 10, 3) := by decide +kernel
theorem dX4_withPairsOf_36 : decode cX4_withPairsOf 36 = .ok (.iload 7, 2) := by decide +kernel
theorem dX4_withPairsOf_38 : decode cX4_withPairsOf 38 = .ok (.invokevirtual 45, 3) := by decide +kernel
theorem dX4_withPairsOf_41 : decode cX4_withPairsOf 41 = .ok (.astore 8, 2) := by decide +kernel
theorem dX4_withPairsOf_43 : decode cX4_withPairsOf 43 = .ok (.aload 8, 2) := by decide +kernel
theorem dX4_withPairsOf_45 : decode cX4_withPairsOf 45 = .ok (.ifnull 31, 3) := by decide +kernel
theorem dX4_withPairsOf_48 : decode cX4_withPairsOf 48 = .ok (.lload 5, 2) := by decide +kernel
theorem dX4_withPairsOf_50 : decode cX4_withPairsOf 50 = .ok (.aload 4, 2) := by decide +kernel
theorem dX4_withPairsOf_52 : decode cX4_withPairsOf 52 = .ok (.aload 8, 2) := by decide +kernel
theorem dX4_withPairsOf_54 : decode cX4_withPairsOf 54 = .ok (.invokestatic 130, 3) := by decide +kernel
theorem dX4_withPairsOf_57 : decode cX4_withPairsOf 57 = .ok (.invokestatic 169, 3) := by decide +kernel
theorem dX4_withPairsOf_60 : decode cX4_withPairsOf 60 = .ok (.lstore 5, 2) := by decide +kernel
theorem dX4_withPairsOf_62 : decode cX4_withPairsOf 62 = .ok (.lload 5, 2) := by decide +kernel
theorem dX4_withPairsOf_64 : decode cX4_withPairsOf 64 = .ok (.aload 4, 2) := by decide +kernel
theorem dX4_withPairsOf_66 : decode cX4_withPairsOf 66 = .ok (.aload 8, 2) := by decide +kernel
theorem dX4_withPairsOf_68 : decode cX4_withPairsOf 68 = .ok (.invokestatic 137, 3) := by decide +kernel
theorem dX4_withPairsOf_71 : decode cX4_withPairsOf 71 = .ok (.invokestatic 169, 3) := by decide +kernel
theorem dX4_withPairsOf_74 : decode cX4_withPairsOf 74 = .ok (.lstore 5, 2) := by decide +kernel
theorem dX4_withPairsOf_76 : decode cX4_withPairsOf 76 = .ok (.iinc 7 1, 3) := by decide +kernel
theorem dX4_withPairsOf_79 : decode cX4_withPairsOf 79 = .ok (.goto (-54), 3) := by decide +kernel
theorem dX4_withPairsOf_82 : decode cX4_withPairsOf 82 = .ok (.lload 5, 2) := by decide +kernel
theorem dX4_withPairsOf_84 : decode cX4_withPairsOf 84 = .ok (.lreturn, 1) := by decide +kernel
theorem dX4_refusalOfChat_0 : decode cX4_refusalOfChat 0 = .ok (.iload_n 1, 1) := by decide +kernel
theorem dX4_refusalOfChat_1 : decode cX4_refusalOfChat 1 = .ok (.iconst 1, 1) := by decide +kernel
theorem dX4_refusalOfChat_2 : decode cX4_refusalOfChat 2 = .ok (.if_icmp .lt 10, 3) := by decide +kernel
theorem dX4_refusalOfChat_5 : decode cX4_refusalOfChat 5 = .ok (.iload_n 1, 1) := by decide +kernel
theorem dX4_refusalOfChat_6 : decode cX4_refusalOfChat 6 = .ok (.sipush 200, 3) := by decide +kernel
theorem dX4_refusalOfChat_9 : decode cX4_refusalOfChat 9 = .ok (.if_icmp .le 6, 3) := by decide +kernel
theorem dX4_refusalOfChat_12 : decode cX4_refusalOfChat 12 = .ok (.bipush (-2), 2) := by decide +kernel
theorem dX4_refusalOfChat_14 : decode cX4_refusalOfChat 14 = .ok (.ireturn, 1) := by decide +kernel
theorem dX4_refusalOfChat_15 : decode cX4_refusalOfChat 15 = .ok (.aload_n 0, 1) := by decide +kernel
theorem dX4_refusalOfChat_16 : decode cX4_refusalOfChat 16 = .ok (.getfield 10, 3) := by decide +kernel
theorem dX4_refusalOfChat_19 : decode cX4_refusalOfChat 19 = .ok (.invokevirtual 54, 3) := by decide +kernel
theorem dX4_refusalOfChat_22 : decode cX4_refusalOfChat 22 = .ok (.iconst 2, 1) := by decide +kernel
theorem dX4_refusalOfChat_23 : decode cX4_refusalOfChat 23 = .ok (.if_icmp .ge 8, 3) := by decide +kernel
theorem dX4_refusalOfChat_26 : decode cX4_refusalOfChat 26 = .ok (.bipush (-3), 2) := by decide +kernel
theorem dX4_refusalOfChat_28 : decode cX4_refusalOfChat 28 = .ok (.goto 4, 3) := by decide +kernel
theorem dX4_refusalOfChat_31 : decode cX4_refusalOfChat 31 = .ok (.iconst 0, 1) := by decide +kernel
theorem dX4_refusalOfChat_32 : decode cX4_refusalOfChat 32 = .ok (.ireturn, 1) := by decide +kernel
theorem dX4_agreementByMeanings_0 : decode cX4_agreementByMeanings 0 = .ok (.iconst 0, 1) := by decide +kernel
theorem dX4_agreementByMeanings_1 : decode cX4_agreementByMeanings 1 = .ok (.istore_n 2, 1) := by decide +kernel
theorem dX4_agreementByMeanings_2 : decode cX4_agreementByMeanings 2 = .ok (.iconst 0, 1) := by decide +kernel
theorem dX4_agreementByMeanings_3 : decode cX4_agreementByMeanings 3 = .ok (.istore_n 3, 1) := by decide +kernel
theorem dX4_agreementByMeanings_4 : decode cX4_agreementByMeanings 4 = .ok (.iload_n 3, 1) := by decide +kernel
theorem dX4_agreementByMeanings_5 : decode cX4_agreementByMeanings 5 = .ok (.bipush 6, 2) := by decide +kernel
theorem dX4_agreementByMeanings_7 : decode cX4_agreementByMeanings 7 = .ok (.if_icmp .ge 36, 3) := by decide +kernel
theorem dX4_agreementByMeanings_10 : decode cX4_agreementByMeanings 10 = .ok (.aload_n 0, 1) := by decide +kernel
theorem dX4_agreementByMeanings_11 : decode cX4_agreementByMeanings 11 = .ok (.iload_n 3, 1) := by decide +kernel
theorem dX4_agreementByMeanings_12 : decode cX4_agreementByMeanings 12 = .ok (.invokevirtual 118, 3) := by decide +kernel
theorem dX4_agreementByMeanings_15 : decode cX4_agreementByMeanings 15 = .ok (.istore 4, 2) := by decide +kernel
theorem dX4_agreementByMeanings_17 : decode cX4_agreementByMeanings 17 = .ok (.iload 4, 2) := by decide +kernel
theorem dX4_agreementByMeanings_19 : decode cX4_agreementByMeanings 19 = .ok (.bipush (-6), 2) := by decide +kernel
theorem dX4_agreementByMeanings_21 : decode cX4_agreementByMeanings 21 = .ok (.if_icmp .eq 16, 3) := by decide +kernel
theorem dX4_agreementByMeanings_24 : decode cX4_agreementByMeanings 24 = .ok (.iload 4, 2) := by decide +kernel
theorem dX4_agreementByMeanings_26 : decode cX4_agreementByMeanings 26 = .ok (.aload_n 1, 1) := by decide +kernel
theorem dX4_agreementByMeanings_27 : decode cX4_agreementByMeanings 27 = .ok (.iload_n 3, 1) := by decide +kernel
theorem dX4_agreementByMeanings_28 : decode cX4_agreementByMeanings 28 = .ok (.invokevirtual 118, 3) := by decide +kernel
theorem dX4_agreementByMeanings_31 : decode cX4_agreementByMeanings 31 = .ok (.if_icmp .ne 6, 3) := by decide +kernel
theorem dX4_agreementByMeanings_34 : decode cX4_agreementByMeanings 34 = .ok (.iinc 2 1, 3) := by decide +kernel
theorem dX4_agreementByMeanings_37 : decode cX4_agreementByMeanings 37 = .ok (.iinc 3 1, 3) := by decide +kernel
theorem dX4_agreementByMeanings_40 : decode cX4_agreementByMeanings 40 = .ok (.goto (-36), 3) := by decide +kernel
theorem dX4_agreementByMeanings_43 : decode cX4_agreementByMeanings 43 = .ok (.iload_n 2, 1) := by decide +kernel
theorem dX4_agreementByMeanings_44 : decode cX4_agreementByMeanings 44 = .ok (.ireturn, 1) := by decide +kernel
theorem dX4_agreementByWords_0 : decode cX4_agreementByWords 0 = .ok (.iconst 0, 1) := by decide +kernel
theorem dX4_agreementByWords_1 : decode cX4_agreementByWords 1 = .ok (.istore_n 2, 1) := by decide +kernel
theorem dX4_agreementByWords_2 : decode cX4_agreementByWords 2 = .ok (.iconst 0, 1) := by decide +kernel
theorem dX4_agreementByWords_3 : decode cX4_agreementByWords 3 = .ok (.istore_n 3, 1) := by decide +kernel
theorem dX4_agreementByWords_4 : decode cX4_agreementByWords 4 = .ok (.iload_n 3, 1) := by decide +kernel
theorem dX4_agreementByWords_5 : decode cX4_agreementByWords 5 = .ok (.bipush 14, 2) := by decide +kernel
theorem dX4_agreementByWords_7 : decode cX4_agreementByWords 7 = .ok (.if_icmp .ge 48, 3) := by decide +kernel
theorem dX4_agreementByWords_10 : decode cX4_agreementByWords 10 = .ok (.iconst 0, 1) := by decide +kernel
theorem dX4_agreementByWords_11 : decode cX4_agreementByWords 11 = .ok (.istore 4, 2) := by decide +kernel
theorem dX4_agreementByWords_13 : decode cX4_agreementByWords 13 = .ok (.iload 4, 2) := by decide +kernel
theorem dX4_agreementByWords_15 : decode cX4_agreementByWords 15 = .ok (.bipush 6, 2) := by decide +kernel
theorem dX4_agreementByWords_17 : decode cX4_agreementByWords 17 = .ok (.if_icmp .ge 32, 3) := by decide +kernel
theorem dX4_agreementByWords_20 : decode cX4_agreementByWords 20 = .ok (.aload_n 0, 1) := by decide +kernel
theorem dX4_agreementByWords_21 : decode cX4_agreementByWords 21 = .ok (.iload 4, 2) := by decide +kernel
theorem dX4_agreementByWords_23 : decode cX4_agreementByWords 23 = .ok (.invokevirtual 118, 3) := by decide +kernel
theorem dX4_agreementByWords_26 : decode cX4_agreementByWords 26 = .ok (.iload_n 3, 1) := by decide +kernel
theorem dX4_agreementByWords_27 : decode cX4_agreementByWords 27 = .ok (.if_icmp .ne 16, 3) := by decide +kernel
theorem dX4_agreementByWords_30 : decode cX4_agreementByWords 30 = .ok (.aload_n 1, 1) := by decide +kernel
theorem dX4_agreementByWords_31 : decode cX4_agreementByWords 31 = .ok (.iload 4, 2) := by decide +kernel
theorem dX4_agreementByWords_33 : decode cX4_agreementByWords 33 = .ok (.invokevirtual 118, 3) := by decide +kernel
theorem dX4_agreementByWords_36 : decode cX4_agreementByWords 36 = .ok (.iload_n 3, 1) := by decide +kernel
theorem dX4_agreementByWords_37 : decode cX4_agreementByWords 37 = .ok (.if_icmp .ne 6, 3) := by decide +kernel
theorem dX4_agreementByWords_40 : decode cX4_agreementByWords 40 = .ok (.iinc 2 1, 3) := by decide +kernel
theorem dX4_agreementByWords_43 : decode cX4_agreementByWords 43 = .ok (.iinc 4 1, 3) := by decide +kernel
theorem dX4_agreementByWords_46 : decode cX4_agreementByWords 46 = .ok (.goto (-33), 3) := by decide +kernel
theorem dX4_agreementByWords_49 : decode cX4_agreementByWords 49 = .ok (.iinc 3 1, 3) := by decide +kernel
theorem dX4_agreementByWords_52 : decode cX4_agreementByWords 52 = .ok (.goto (-48), 3) := by decide +kernel
theorem dX4_agreementByWords_55 : decode cX4_agreementByWords 55 = .ok (.iload_n 2, 1) := by decide +kernel
theorem dX4_agreementByWords_56 : decode cX4_agreementByWords 56 = .ok (.ireturn, 1) := by decide +kernel
theorem dX4_understandingOf_0 : decode cX4_understandingOf 0 = .ok (.iconst 0, 1) := by decide +kernel
theorem dX4_understandingOf_1 : decode cX4_understandingOf 1 = .ok (.istore_n 2, 1) := by decide +kernel
theorem dX4_understandingOf_2 : decode cX4_understandingOf 2 = .ok (.iconst 0, 1) := by decide +kernel
theorem dX4_understandingOf_3 : decode cX4_understandingOf 3 = .ok (.istore_n 3, 1) := by decide +kernel
theorem dX4_understandingOf_4 : decode cX4_understandingOf 4 = .ok (.iload_n 3, 1) := by decide +kernel
theorem dX4_understandingOf_5 : decode cX4_understandingOf 5 = .ok (.bipush 6, 2) := by decide +kernel
theorem dX4_understandingOf_7 : decode cX4_understandingOf 7 = .ok (.if_icmp .ge 36, 3) := by decide +kernel
theorem dX4_understandingOf_10 : decode cX4_understandingOf 10 = .ok (.aload_n 0, 1) := by decide +kernel
theorem dX4_understandingOf_11 : decode cX4_understandingOf 11 = .ok (.iload_n 3, 1) := by decide +kernel
theorem dX4_understandingOf_12 : decode cX4_understandingOf 12 = .ok (.invokevirtual 118, 3) := by decide +kernel
theorem dX4_understandingOf_15 : decode cX4_understandingOf 15 = .ok (.istore 4, 2) := by decide +kernel
theorem dX4_understandingOf_17 : decode cX4_understandingOf 17 = .ok (.iload 4, 2) := by decide +kernel
theorem dX4_understandingOf_19 : decode cX4_understandingOf 19 = .ok (.bipush (-6), 2) := by decide +kernel
theorem dX4_understandingOf_21 : decode cX4_understandingOf 21 = .ok (.if_icmp .eq 16, 3) := by decide +kernel
theorem dX4_understandingOf_24 : decode cX4_understandingOf 24 = .ok (.aload_n 1, 1) := by decide +kernel
theorem dX4_understandingOf_25 : decode cX4_understandingOf 25 = .ok (.iload 4, 2) := by decide +kernel
theorem dX4_understandingOf_27 : decode cX4_understandingOf 27 = .ok (.invokevirtual 121, 3) := by decide +kernel
theorem dX4_understandingOf_30 : decode cX4_understandingOf 30 = .ok (.iload_n 3, 1) := by decide +kernel
theorem dX4_understandingOf_31 : decode cX4_understandingOf 31 = .ok (.if_icmp .ne 6, 3) := by decide +kernel
theorem dX4_understandingOf_34 : decode cX4_understandingOf 34 = .ok (.iinc 2 1, 3) := by decide +kernel
theorem dX4_understandingOf_37 : decode cX4_understandingOf 37 = .ok (.iinc 3 1, 3) := by decide +kernel
theorem dX4_understandingOf_40 : decode cX4_understandingOf 40 = .ok (.goto (-36), 3) := by decide +kernel
theorem dX4_understandingOf_43 : decode cX4_understandingOf 43 = .ok (.iload_n 2, 1) := by decide +kernel
theorem dX4_understandingOf_44 : decode cX4_understandingOf 44 = .ok (.ireturn, 1) := by decide +kernel
theorem dX4_isBelow_0 : decode cX4_isBelow 0 = .ok (.iload_n 0, 1) := by decide +kernel
theorem dX4_isBelow_1 : decode cX4_isBelow 1 = .ok (.ifCond .lt 12, 3) := by decide +kernel
theorem dX4_isBelow_4 : decode cX4_isBelow 4 = .ok (.iload_n 0, 1) := by decide +kernel
theorem dX4_isBelow_5 : decode cX4_isBelow 5 = .ok (.iload_n 1, 1) := by decide +kernel
theorem dX4_isBelow_6 : decode cX4_isBelow 6 = .ok (.if_icmp .ge 7, 3) := by decide +kernel
theorem dX4_isBelow_9 : decode cX4_isBelow 9 = .ok (.iconst 1, 1) := by decide +kernel
theorem dX4_isBelow_10 : decode cX4_isBelow 10 = .ok (.goto 4, 3) := by decide +kernel
theorem dX4_isBelow_13 : decode cX4_isBelow 13 = .ok (.iconst 0, 1) := by decide +kernel
theorem dX4_isBelow_14 : decode cX4_isBelow 14 = .ok (.ireturn, 1) := by decide +kernel
theorem dX4_isMeaning_0 : decode cX4_isMeaning 0 = .ok (.iload_n 0, 1) := by decide +kernel
theorem dX4_isMeaning_1 : decode cX4_isMeaning 1 = .ok (.ifCond .lt 13, 3) := by decide +kernel
theorem dX4_isMeaning_4 : decode cX4_isMeaning 4 = .ok (.iload_n 0, 1) := by decide +kernel
theorem dX4_isMeaning_5 : decode cX4_isMeaning 5 = .ok (.bipush 6, 2) := by decide +kernel
theorem dX4_isMeaning_7 : decode cX4_isMeaning 7 = .ok (.if_icmp .ge 7, 3) := by decide +kernel
theorem dX4_isMeaning_10 : decode cX4_isMeaning 10 = .ok (.iconst 1, 1) := by decide +kernel
theorem dX4_isMeaning_11 : decode cX4_isMeaning 11 = .ok (.goto 4, 3) := by decide +kernel
theorem dX4_isMeaning_14 : decode cX4_isMeaning 14 = .ok (.iconst 0, 1) := by decide +kernel
theorem dX4_isMeaning_15 : decode cX4_isMeaning 15 = .ok (.ireturn, 1) := by decide +kernel
theorem dX4_isWord_0 : decode cX4_isWord 0 = .ok (.iload_n 0, 1) := by decide +kernel
theorem dX4_isWord_1 : decode cX4_isWord 1 = .ok (.ifCond .lt 13, 3) := by decide +kernel
theorem dX4_isWord_4 : decode cX4_isWord 4 = .ok (.iload_n 0, 1) := by decide +kernel
theorem dX4_isWord_5 : decode cX4_isWord 5 = .ok (.bipush 14, 2) := by decide +kernel
theorem dX4_isWord_7 : decode cX4_isWord 7 = .ok (.if_icmp .ge 7, 3) := by decide +kernel
theorem dX4_isWord_10 : decode cX4_isWord 10 = .ok (.iconst 1, 1) := by decide +kernel
theorem dX4_isWord_11 : decode cX4_isWord 11 = .ok (.goto 4, 3) := by decide +kernel
theorem dX4_isWord_14 : decode cX4_isWord 14 = .ok (.iconst 0, 1) := by decide +kernel
theorem dX4_isWord_15 : decode cX4_isWord 15 = .ok (.ireturn, 1) := by decide +kernel
theorem dX4_leastOf_0 : decode cX4_leastOf 0 = .ok (.iload_n 0, 1) := by decide +kernel
theorem dX4_leastOf_1 : decode cX4_leastOf 1 = .ok (.lookupswitch 31 #[(0, 27), (2, 29)], 27) := by decide +kernel
theorem dX4_leastOf_28 : decode cX4_leastOf 28 = .ok (.iconst 1, 1) := by decide +kernel
theorem dX4_leastOf_29 : decode cX4_leastOf 29 = .ok (.ireturn, 1) := by decide +kernel
theorem dX4_leastOf_30 : decode cX4_leastOf 30 = .ok (.iconst 5, 1) := by decide +kernel
theorem dX4_leastOf_31 : decode cX4_leastOf 31 = .ok (.ireturn, 1) := by decide +kernel
theorem dX4_leastOf_32 : decode cX4_leastOf 32 = .ok (.iconst 0, 1) := by decide +kernel
theorem dX4_leastOf_33 : decode cX4_leastOf 33 = .ok (.ireturn, 1) := by decide +kernel
theorem dX4_mostOf_0 : decode cX4_mostOf 0 = .ok (.iload_n 0, 1) := by decide +kernel
theorem dX4_mostOf_1 : decode cX4_mostOf 1 = .ok (.lookupswitch 33 #[(2, 27), (3, 30)], 27) := by decide +kernel
theorem dX4_mostOf_28 : decode cX4_mostOf 28 = .ok (.bipush 99, 2) := by decide +kernel
theorem dX4_mostOf_30 : decode cX4_mostOf 30 = .ok (.ireturn, 1) := by decide +kernel
theorem dX4_mostOf_31 : decode cX4_mostOf 31 = .ok (.bipush 100, 2) := by decide +kernel
theorem dX4_mostOf_33 : decode cX4_mostOf 33 = .ok (.ireturn, 1) := by decide +kernel
theorem dX4_mostOf_34 : decode cX4_mostOf 34 = .ok (.bipush 9, 2) := by decide +kernel
theorem dX4_mostOf_36 : decode cX4_mostOf 36 = .ok (.ireturn, 1) := by decide +kernel
theorem dX4_codeOfWord_0 : decode cX4_codeOfWord 0 = .ok (.iload_n 0, 1) := by decide +kernel
theorem dX4_codeOfWord_1 : decode cX4_codeOfWord 1 = .ok (.iconst 2, 1) := by decide +kernel
theorem dX4_codeOfWord_2 : decode cX4_codeOfWord 2 = .ok (.iadd, 1) := by decide +kernel
theorem dX4_codeOfWord_3 : decode cX4_codeOfWord 3 = .ok (.ireturn, 1) := by decide +kernel
theorem dX4_wordOfCode_0 : decode cX4_wordOfCode 0 = .ok (.iload_n 0, 1) := by decide +kernel
theorem dX4_wordOfCode_1 : decode cX4_wordOfCode 1 = .ok (.iconst 2, 1) := by decide +kernel
theorem dX4_wordOfCode_2 : decode cX4_wordOfCode 2 = .ok (.isub, 1) := by decide +kernel
theorem dX4_wordOfCode_3 : decode cX4_wordOfCode 3 = .ok (.ireturn, 1) := by decide +kernel
theorem dX4_lengthOfWord_0 : decode cX4_lengthOfWord 0 = .ok (.iload_n 0, 1) := by decide +kernel
theorem dX4_lengthOfWord_1 : decode cX4_lengthOfWord 1 = .ok (.invokestatic 127, 3) := by decide +kernel
theorem dX4_lengthOfWord_4 : decode cX4_lengthOfWord 4 = .ok (.istore_n 1, 1) := by decide +kernel
theorem dX4_lengthOfWord_5 : decode cX4_lengthOfWord 5 = .ok (.iload_n 1, 1) := by decide +kernel
theorem dX4_lengthOfWord_6 : decode cX4_lengthOfWord 6 = .ok (.iconst 4, 1) := by decide +kernel
theorem dX4_lengthOfWord_7 : decode cX4_lengthOfWord 7 = .ok (.if_icmp .ge 5, 3) := by decide +kernel
theorem dX4_lengthOfWord_10 : decode cX4_lengthOfWord 10 = .ok (.iconst 1, 1) := by decide +kernel
theorem dX4_lengthOfWord_11 : decode cX4_lengthOfWord 11 = .ok (.ireturn, 1) := by decide +kernel
theorem dX4_lengthOfWord_12 : decode cX4_lengthOfWord 12 = .ok (.iload_n 1, 1) := by decide +kernel
theorem dX4_lengthOfWord_13 : decode cX4_lengthOfWord 13 = .ok (.bipush 8, 2) := by decide +kernel
theorem dX4_lengthOfWord_15 : decode cX4_lengthOfWord 15 = .ok (.if_icmp .ge 7, 3) := by decide +kernel
theorem dX4_lengthOfWord_18 : decode cX4_lengthOfWord 18 = .ok (.iconst 2, 1) := by decide +kernel
theorem dX4_lengthOfWord_19 : decode cX4_lengthOfWord 19 = .ok (.goto 4, 3) := by decide +kernel
theorem dX4_lengthOfWord_22 : decode cX4_lengthOfWord 22 = .ok (.iconst 3, 1) := by decide +kernel
theorem dX4_lengthOfWord_23 : decode cX4_lengthOfWord 23 = .ok (.ireturn, 1) := by decide +kernel
theorem dX5_init_0 : decode cX5_init 0 = .ok (.aload_n 0, 1) := by decide +kernel
theorem dX5_init_1 : decode cX5_init 1 = .ok (.invokespecial 1, 3) := by decide +kernel
theorem dX5_init_4 : decode cX5_init 4 = .ok (.aload_n 0, 1) := by decide +kernel
theorem dX5_init_5 : decode cX5_init 5 = .ok (.sipush 705, 3) := by decide +kernel
theorem dX5_init_8 : decode cX5_init 8 = .ok (.newarray .int, 2) := by decide +kernel
theorem dX5_init_10 : decode cX5_init 10 = .ok (.putfield 7, 3) := by decide +kernel
theorem dX5_init_13 : decode cX5_init 13 = .ok (.aload_n 0, 1) := by decide +kernel
theorem dX5_init_14 : decode cX5_init 14 = .ok (.sipush 705, 3) := by decide +kernel
theorem dX5_init_17 : decode cX5_init 17 = .ok (.newarray .int, 2) := by decide +kernel
theorem dX5_init_19 : decode cX5_init 19 = .ok (.putfield 13, 3) := by decide +kernel
theorem dX5_init_22 : decode cX5_init 22 = .ok (.aload_n 0, 1) := by decide +kernel
theorem dX5_init_23 : decode cX5_init 23 = .ok (.sipush 4230, 3) := by decide +kernel
theorem dX5_init_26 : decode cX5_init 26 = .ok (.newarray .int, 2) := by decide +kernel
theorem dX5_init_28 : decode cX5_init 28 = .ok (.putfield 16, 3) := by decide +kernel
theorem dX5_init_31 : decode cX5_init 31 = .ok (.aload_n 0, 1) := by decide +kernel
theorem dX5_init_32 : decode cX5_init 32 = .ok (.bipush 80, 2) := by decide +kernel
theorem dX5_init_34 : decode cX5_init 34 = .ok (.newarray .int, 2) := by decide +kernel
theorem dX5_init_36 : decode cX5_init 36 = .ok (.putfield 19, 3) := by decide +kernel
theorem dX5_init_39 : decode cX5_init 39 = .ok (.aload_n 0, 1) := by decide +kernel
theorem dX5_init_40 : decode cX5_init 40 = .ok (.getfield 7, 3) := by decide +kernel
theorem dX5_init_43 : decode cX5_init 43 = .ok (.iconst 0, 1) := by decide +kernel
theorem dX5_init_44 : decode cX5_init 44 = .ok (.iconst 1, 1) := by decide +kernel
theorem dX5_init_45 : decode cX5_init 45 = .ok (.iastore, 1) := by decide +kernel
theorem dX5_init_46 : decode cX5_init 46 = .ok (.aload_n 0, 1) := by decide +kernel
theorem dX5_init_47 : decode cX5_init 47 = .ok (.getfield 7, 3) := by decide +kernel
theorem dX5_init_50 : decode cX5_init 50 = .ok (.iconst 5, 1) := by decide +kernel
theorem dX5_init_51 : decode cX5_init 51 = .ok (.iconst 4, 1) := by decide +kernel
theorem dX5_init_52 : decode cX5_init 52 = .ok (.iastore, 1) := by decide +kernel
theorem dX5_init_53 : decode cX5_init 53 = .ok (.aload_n 0, 1) := by decide +kernel
theorem dX5_init_54 : decode cX5_init 54 = .ok (.getfield 7, 3) := by decide +kernel
theorem dX5_init_57 : decode cX5_init 57 = .ok (.bipush 6, 2) := by decide +kernel
theorem dX5_init_59 : decode cX5_init 59 = .ok (.iconst 1, 1) := by decide +kernel
theorem dX5_init_60 : decode cX5_init 60 = .ok (.iastore, 1) := by decide +kernel
theorem dX5_init_61 : decode cX5_init 61 = .ok (.aload_n 0, 1) := by decide +kernel
theorem dX5_init_62 : decode cX5_init 62 = .ok (.getfield 7, 3) := by decide +kernel
theorem dX5_init_65 : decode cX5_init 65 = .ok (.bipush 7, 2) := by decide +kernel
theorem dX5_init_67 : decode cX5_init 67 = .ok (.bipush 60, 2) := by decide +kernel
theorem dX5_init_69 : decode cX5_init 69 = .ok (.iastore, 1) := by decide +kernel
theorem dX5_init_70 : decode cX5_init 70 = .ok (.aload_n 0, 1) := by decide +kernel
theorem dX5_init_71 : decode cX5_init 71 = .ok (.getfield 7, 3) := by decide +kernel
theorem dX5_init_74 : decode cX5_init 74 = .ok (.bipush 8, 2) := by decide +kernel
theorem dX5_init_76 : decode cX5_init 76 = .ok (.bipush 50, 2) := by decide +kernel
theorem dX5_init_78 : decode cX5_init 78 = .ok (.iastore, 1) := by decide +kernel
theorem dX5_init_79 : decode cX5_init 79 = .ok (.return_, 1) := by decide +kernel
theorem dX5_within_0 : decode cX5_within 0 = .ok (.iload_n 0, 1) := by decide +kernel
theorem dX5_within_1 : decode cX5_within 1 = .ok (.iload_n 1, 1) := by decide +kernel
theorem dX5_within_2 : decode cX5_within 2 = .ok (.if_icmp .lt 12, 3) := by decide +kernel
theorem dX5_within_5 : decode cX5_within 5 = .ok (.iload_n 0, 1) := by decide +kernel
theorem dX5_within_6 : decode cX5_within 6 = .ok (.iload_n 2, 1) := by decide +kernel
theorem dX5_within_7 : decode cX5_within 7 = .ok (.if_icmp .gt 7, 3) := by decide +kernel
theorem dX5_within_10 : decode cX5_within 10 = .ok (.iconst 1, 1) := by decide +kernel
theorem dX5_within_11 : decode cX5_within 11 = .ok (.goto 4, 3) := by decide +kernel
theorem dX5_within_14 : decode cX5_within 14 = .ok (.iconst 0, 1) := by decide +kernel
theorem dX5_within_15 : decode cX5_within 15 = .ok (.ireturn, 1) := by decide +kernel
theorem dX5_copies_0 : decode cX5_copies 0 = .ok (.iconst 0, 1) := by decide +kernel
theorem dX5_copies_1 : decode cX5_copies 1 = .ok (.istore 4, 2) := by decide +kernel
theorem dX5_copies_3 : decode cX5_copies 3 = .ok (.iload 4, 2) := by decide +kernel
theorem dX5_copies_5 : decode cX5_copies 5 = .ok (.sipush 705, 3) := by decide +kernel
theorem dX5_copies_8 : decode cX5_copies 8 = .ok (.if_icmp .ge 21, 3) := by decide +kernel
theorem dX5_copies_11 : decode cX5_copies 11 = .ok (.aload_n 2, 1) := by decide +kernel
theorem dX5_copies_12 : decode cX5_copies 12 = .ok (.iload_n 3, 1) := by decide +kernel
theorem dX5_copies_13 : decode cX5_copies 13 = .ok (.iload 4, 2) := by decide +kernel
theorem dX5_copies_15 : decode cX5_copies 15 = .ok (.iadd, 1) := by decide +kernel
theorem dX5_copies_16 : decode cX5_copies 16 = .ok (.aload_n 0, 1) := by decide +kernel
theorem dX5_copies_17 : decode cX5_copies 17 = .ok (.iload_n 1, 1) := by decide +kernel
theorem dX5_copies_18 : decode cX5_copies 18 = .ok (.iload 4, 2) := by decide +kernel
theorem dX5_copies_20 : decode cX5_copies 20 = .ok (.iadd, 1) := by decide +kernel
theorem dX5_copies_21 : decode cX5_copies 21 = .ok (.iaload, 1) := by decide +kernel
theorem dX5_copies_22 : decode cX5_copies 22 = .ok (.iastore, 1) := by decide +kernel
theorem dX5_copies_23 : decode cX5_copies 23 = .ok (.iinc 4 1, 3) := by decide +kernel
theorem dX5_copies_26 : decode cX5_copies 26 = .ok (.goto (-23), 3) := by decide +kernel
theorem dX5_copies_29 : decode cX5_copies 29 = .ok (.return_, 1) := by decide +kernel
theorem dX5_record_0 : decode cX5_record 0 = .ok (.aload_n 0, 1) := by decide +kernel
theorem dX5_record_1 : decode cX5_record 1 = .ok (.getfield 22, 3) := by decide +kernel
theorem dX5_record_4 : decode cX5_record 4 = .ok (.bipush 6, 2) := by decide +kernel
theorem dX5_record_6 : decode cX5_record 6 = .ok (.if_icmp .ne 44, 3) := by decide +kernel
theorem dX5_record_9 : decode cX5_record 9 = .ok (.iconst 0, 1) := by decide +kernel
theorem dX5_record_10 : decode cX5_record 10 = .ok (.istore_n 1, 1) := by decide +kernel
theorem dX5_record_11 : decode cX5_record 11 = .ok (.iload_n 1, 1) := by decide +kernel
theorem dX5_record_12 : decode cX5_record 12 = .ok (.sipush 3525, 3) := by decide +kernel
theorem dX5_record_15 : decode cX5_record 15 = .ok (.if_icmp .ge 25, 3) := by decide +kernel
theorem dX5_record_18 : decode cX5_record 18 = .ok (.aload_n 0, 1) := by decide +kernel
theorem dX5_record_19 : decode cX5_record 19 = .ok (.getfield 16, 3) := by decide +kernel
theorem dX5_record_22 : decode cX5_record 22 = .ok (.iload_n 1, 1) := by decide +kernel
theorem dX5_record_23 : decode cX5_record 23 = .ok (.aload_n 0, 1) := by decide +kernel
theorem dX5_record_24 : decode cX5_record 24 = .ok (.getfield 16, 3) := by decide +kernel
theorem dX5_record_27 : decode cX5_record 27 = .ok (.iload_n 1, 1) := by decide +kernel
theorem dX5_record_28 : decode cX5_record 28 = .ok (.sipush 705, 3) := by decide +kernel
theorem dX5_record_31 : decode cX5_record 31 = .ok (.iadd, 1) := by decide +kernel
theorem dX5_record_32 : decode cX5_record 32 = .ok (.iaload, 1) := by decide +kernel
theorem dX5_record_33 : decode cX5_record 33 = .ok (.iastore, 1) := by decide +kernel
theorem dX5_record_34 : decode cX5_record 34 = .ok (.iinc 1 1, 3) := by decide +kernel
theorem dX5_record_37 : decode cX5_record 37 = .ok (.goto (-26), 3) := by decide +kernel
theorem dX5_record_40 : decode cX5_record 40 = .ok (.aload_n 0, 1) := by decide +kernel
theorem dX5_record_41 : decode cX5_record 41 = .ok (.dup, 1) := by decide +kernel
theorem dX5_record_42 : decode cX5_record 42 = .ok (.getfield 22, 3) := by decide +kernel
theorem dX5_record_45 : decode cX5_record 45 = .ok (.iconst 1, 1) := by decide +kernel
theorem dX5_record_46 : decode cX5_record 46 = .ok (.isub, 1) := by decide +kernel
theorem dX5_record_47 : decode cX5_record 47 = .ok (.putfield 22, 3) := by decide +kernel
theorem dX5_record_50 : decode cX5_record 50 = .ok (.aload_n 0, 1) := by decide +kernel
theorem dX5_record_51 : decode cX5_record 51 = .ok (.getfield 7, 3) := by decide +kernel
theorem dX5_record_54 : decode cX5_record 54 = .ok (.iconst 0, 1) := by decide +kernel
theorem dX5_record_55 : decode cX5_record 55 = .ok (.aload_n 0, 1) := by decide +kernel
theorem dX5_record_56 : decode cX5_record 56 = .ok (.getfield 16, 3) := by decide +kernel
theorem dX5_record_59 : decode cX5_record 59 = .ok (.aload_n 0, 1) := by decide +kernel
theorem dX5_record_60 : decode cX5_record 60 = .ok (.getfield 22, 3) := by decide +kernel
theorem dX5_record_63 : decode cX5_record 63 = .ok (.sipush 705, 3) := by decide +kernel
theorem dX5_record_66 : decode cX5_record 66 = .ok (.imul, 1) := by decide +kernel
theorem dX5_record_67 : decode cX5_record 67 = .ok (.invokestatic 26, 3) := by decide +kernel
theorem dX5_record_70 : decode cX5_record 70 = .ok (.aload_n 0, 1) := by decide +kernel
theorem dX5_record_71 : decode cX5_record 71 = .ok (.dup, 1) := by decide +kernel
theorem dX5_record_72 : decode cX5_record 72 = .ok (.getfield 22, 3) := by decide +kernel
theorem dX5_record_75 : decode cX5_record 75 = .ok (.iconst 1, 1) := by decide +kernel
theorem dX5_record_76 : decode cX5_record 76 = .ok (.iadd, 1) := by decide +kernel
theorem dX5_record_77 : decode cX5_record 77 = .ok (.putfield 22, 3) := by decide +kernel
theorem dX5_record_80 : decode cX5_record 80 = .ok (.return_, 1) := by decide +kernel
theorem dX5_part_0 : decode cX5_part 0 = .ok (.aload_n 0, 1) := by decide +kernel
theorem dX5_part_1 : decode cX5_part 1 = .ok (.getfield 7, 3) := by decide +kernel
theorem dX5_part_4 : decode cX5_part 4 = .ok (.bipush 9, 2) := by decide +kernel
theorem dX5_part_6 : decode cX5_part 6 = .ok (.iconst 3, 1) := by decide +kernel
theorem dX5_part_7 : decode cX5_part 7 = .ok (.iload_n 1, 1) := by decide +kernel
theorem dX5_part_8 : decode cX5_part 8 = .ok (.imul, 1) := by decide +kernel
theorem dX5_part_9 : decode cX5_part 9 = .ok (.iadd, 1) := by decide +kernel
theorem dX5_part_10 : decode cX5_part 10 = .ok (.iload_n 2, 1) := by decide +kernel
theorem dX5_part_11 : decode cX5_part 11 = .ok (.iadd, 1) := by decide +kernel
theorem dX5_part_12 : decode cX5_part 12 = .ok (.iaload, 1) := by decide +kernel
theorem dX5_part_13 : decode cX5_part 13 = .ok (.ireturn, 1) := by decide +kernel
theorem dX5_setPart_0 : decode cX5_setPart 0 = .ok (.aload_n 0, 1) := by decide +kernel
theorem dX5_setPart_1 : decode cX5_setPart 1 = .ok (.getfield 7, 3) := by decide +kernel
theorem dX5_setPart_4 : decode cX5_setPart 4 = .ok (.bipush 9, 2) := by decide +kernel
theorem dX5_setPart_6 : decode cX5_setPart 6 = .ok (.iconst 3, 1) := by decide +kernel
theorem dX5_setPart_7 : decode cX5_setPart 7 = .ok (.iload_n 1, 1) := by decide +kernel
theorem dX5_setPart_8 : decode cX5_setPart 8 = .ok (.imul, 1) := by decide +kernel
theorem dX5_setPart_9 : decode cX5_setPart 9 = .ok (.iadd, 1) := by decide +kernel
theorem dX5_setPart_10 : decode cX5_setPart 10 = .ok (.iload_n 2, 1) := by decide +kernel
theorem dX5_setPart_11 : decode cX5_setPart 11 = .ok (.iadd, 1) := by decide +kernel
theorem dX5_setPart_12 : decode cX5_setPart 12 = .ok (.iload_n 3, 1) := by decide +kernel
theorem dX5_setPart_13 : decode cX5_setPart 13 = .ok (.iastore, 1) := by decide +kernel
theorem dX5_setPart_14 : decode cX5_setPart 14 = .ok (.return_, 1) := by decide +kernel
theorem dX5_isSpeaker_0 : decode cX5_isSpeaker 0 = .ok (.iload_n 1, 1) := by decide +kernel
theorem dX5_isSpeaker_1 : decode cX5_isSpeaker 1 = .ok (.iconst 0, 1) := by decide +kernel
theorem dX5_isSpeaker_2 : decode cX5_isSpeaker 2 = .ok (.bipush 7, 2) := by decide +kernel
theorem dX5_isSpeaker_4 : decode cX5_isSpeaker 4 = .ok (.invokestatic 30, 3) := by decide +kernel
theorem dX5_isSpeaker_7 : decode cX5_isSpeaker 7 = .ok (.ifCond .eq 17, 3) := by decide +kernel
theorem dX5_isSpeaker_10 : decode cX5_isSpeaker 10 = .ok (.aload_n 0, 1) := by decide +kernel
theorem dX5_isSpeaker_11 : decode cX5_isSpeaker 11 = .ok (.iload_n 1, 1) := by decide +kernel
theorem dX5_isSpeaker_12 : decode cX5_isSpeaker 12 = .ok (.iconst 0, 1) := by decide +kernel
theorem dX5_isSpeaker_13 : decode cX5_isSpeaker 13 = .ok (.invokevirtual 34, 3) := by decide +kernel
theorem dX5_isSpeaker_16 : decode cX5_isSpeaker 16 = .ok (.iconst 1, 1) := by decide +kernel
theorem dX5_isSpeaker_17 : decode cX5_isSpeaker 17 = .ok (.if_icmp .ne 7, 3) := by decide +kernel
theorem dX5_isSpeaker_20 : decode cX5_isSpeaker 20 = .ok (.iconst 1, 1) := by decide +kernel
theorem dX5_isSpeaker_21 : decode cX5_isSpeaker 21 = .ok (.goto 4, 3) := by decide +kernel
theorem dX5_isSpeaker_24 : decode cX5_isSpeaker 24 = .ok (.iconst 0, 1) := by decide +kernel
theorem dX5_isSpeaker_25 : decode cX5_isSpeaker 25 = .ok (.ireturn, 1) := by decide +kernel
theorem dX5_isMeaning_0 : decode cX5_isMeaning 0 = .ok (.iload_n 0, 1) := by decide +kernel
theorem dX5_isMeaning_1 : decode cX5_isMeaning 1 = .ok (.iconst 0, 1) := by decide +kernel
theorem dX5_isMeaning_2 : decode cX5_isMeaning 2 = .ok (.iconst 5, 1) := by decide +kernel
theorem dX5_isMeaning_3 : decode cX5_isMeaning 3 = .ok (.invokestatic 30, 3) := by decide +kernel
theorem dX5_isMeaning_6 : decode cX5_isMeaning 6 = .ok (.ireturn, 1) := by decide +kernel
theorem dX5_isWord_0 : decode cX5_isWord 0 = .ok (.iload_n 0, 1) := by decide +kernel
theorem dX5_isWord_1 : decode cX5_isWord 1 = .ok (.iconst 0, 1) := by decide +kernel
theorem dX5_isWord_2 : decode cX5_isWord 2 = .ok (.bipush 13, 2) := by decide +kernel
theorem dX5_isWord_4 : decode cX5_isWord 4 = .ok (.invokestatic 30, 3) := by decide +kernel
theorem dX5_isWord_7 : decode cX5_isWord 7 = .ok (.ireturn, 1) := by decide +kernel
theorem dX5_weightAt_0 : decode cX5_weightAt 0 = .ok (.bipush 33, 2) := by decide +kernel
theorem dX5_weightAt_2 : decode cX5_weightAt 2 = .ok (.bipush 84, 2) := by decide +kernel
theorem dX5_weightAt_4 : decode cX5_weightAt 4 = .ok (.iload_n 0, 1) := by decide +kernel
theorem dX5_weightAt_5 : decode cX5_weightAt 5 = .ok (.imul, 1) := by decide +kernel
theorem dX5_weightAt_6 : decode cX5_weightAt 6 = .ok (.iadd, 1) := by decide +kernel
theorem dX5_weightAt_7 : decode cX5_weightAt 7 = .ok (.bipush 14, 2) := by decide +kernel
theorem dX5_weightAt_9 : decode cX5_weightAt 9 = .ok (.iload_n 1, 1) := by decide +kernel
theorem dX5_weightAt_10 : decode cX5_weightAt 10 = .ok (.imul, 1) := by decide +kernel
theorem dX5_weightAt_11 : decode cX5_weightAt 11 = .ok (.iadd, 1) := by decide +kernel
theorem dX5_weightAt_12 : decode cX5_weightAt 12 = .ok (.iload_n 2, 1) := by decide +kernel
theorem dX5_weightAt_13 : decode cX5_weightAt 13 = .ok (.iadd, 1) := by decide +kernel
theorem dX5_weightAt_14 : decode cX5_weightAt 14 = .ok (.ireturn, 1) := by decide +kernel
theorem dX5_weightOf_0 : decode cX5_weightOf 0 = .ok (.aload_n 0, 1) := by decide +kernel
theorem dX5_weightOf_1 : decode cX5_weightOf 1 = .ok (.getfield 7, 3) := by decide +kernel
theorem dX5_weightOf_4 : decode cX5_weightOf 4 = .ok (.iload_n 1, 1) := by decide +kernel
theorem dX5_weightOf_5 : decode cX5_weightOf 5 = .ok (.iload_n 2, 1) := by decide +kernel
theorem dX5_weightOf_6 : decode cX5_weightOf 6 = .ok (.iload_n 3, 1) := by decide +kernel
theorem dX5_weightOf_7 : decode cX5_weightOf 7 = .ok (.invokestatic 38, 3) := by decide +kernel
theorem dX5_weightOf_10 : decode cX5_weightOf 10 = .ok (.iaload, 1) := by decide +kernel
theorem dX5_weightOf_11 : decode cX5_weightOf 11 = .ok (.ireturn, 1) := by decide +kernel
theorem dX5_changes_0 : decode cX5_changes 0 = .ok (.aload_n 0, 1) := by decide +kernel
theorem dX5_changes_1 : decode cX5_changes 1 = .ok (.iload_n 1, 1) := by decide +kernel
theorem dX5_changes_2 : decode cX5_changes 2 = .ok (.iload_n 2, 1) := by decide +kernel
theorem dX5_changes_3 : decode cX5_changes 3 = .ok (.iload_n 3, 1) := by decide +kernel
theorem dX5_changes_4 : decode cX5_changes 4 = .ok (.invokevirtual 42, 3) := by decide +kernel
theorem dX5_changes_7 : decode cX5_changes 7 = .ok (.iload 4, 2) := by decide +kernel
theorem dX5_changes_9 : decode cX5_changes 9 = .ok (.iadd, 1) := by decide +kernel
theorem dX5_changes_10 : decode cX5_changes 10 = .ok (.istore 5, 2) := by decide +kernel
theorem dX5_changes_12 : decode cX5_changes 12 = .ok (.aload_n 0, 1) := by decide +kernel
theorem dX5_changes_13 : decode cX5_changes 13 = .ok (.getfield 7, 3) := by decide +kernel
theorem dX5_changes_16 : decode cX5_changes 16 = .ok (.iload_n 1, 1) := by decide +kernel
theorem dX5_changes_17 : decode cX5_changes 17 = .ok (.iload_n 2, 1) := by decide +kernel
theorem dX5_changes_18 : decode cX5_changes 18 = .ok (.iload_n 3, 1) := by decide +kernel
theorem dX5_changes_19 : decode cX5_changes 19 = .ok (.invokestatic 38, 3) := by decide +kernel
theorem dX5_changes_22 : decode cX5_changes 22 = .ok (.iload 5, 2) := by decide +kernel
theorem dX5_changes_24 : decode cX5_changes 24 = .ok (.ifCond .ge 7, 3) := by decide +kernel
theorem dX5_changes_27 : decode cX5_changes 27 = .ok (.iconst 0, 1) := by decide +kernel
theorem dX5_changes_28 : decode cX5_changes 28 = .ok (.goto 17, 3) := by decide +kernel
theorem dX5_changes_31 : decode cX5_changes 31 = .ok (.iload 5, 2) := by decide +kernel
theorem dX5_changes_33 : decode cX5_changes 33 = .ok (.bipush 99, 2) := by decide +kernel
theorem dX5_changes_35 : decode cX5_changes 35 = .ok (.if_icmp .le 8, 3) := by decide +kernel
theorem dX5_changes_38 : decode cX5_changes 38 = .ok (.bipush 99, 2) := by decide +kernel
theorem dX5_changes_40 : decode cX5_changes 40 = .ok (.goto 5, 3) := by decide +kernel
theorem dX5_changes_43 : decode cX5_changes 43 = .ok (.iload 5, 2) := by decide +kernel
theorem dX5_changes_45 : decode cX5_changes 45 = .ok (.iastore, 1) := by decide +kernel
theorem dX5_changes_46 : decode cX5_changes 46 = .ok (.return_, 1) := by decide +kernel
theorem dX5_speakers_0 : decode cX5_speakers 0 = .ok (.iconst 0, 1) := by decide +kernel
theorem dX5_speakers_1 : decode cX5_speakers 1 = .ok (.istore_n 1, 1) := by decide +kernel
theorem dX5_speakers_2 : decode cX5_speakers 2 = .ok (.iconst 0, 1) := by decide +kernel
theorem dX5_speakers_3 : decode cX5_speakers 3 = .ok (.istore_n 2, 1) := by decide +kernel
theorem dX5_speakers_4 : decode cX5_speakers 4 = .ok (.iload_n 2, 1) := by decide +kernel
theorem dX5_speakers_5 : decode cX5_speakers 5 = .ok (.bipush 8, 2) := by decide +kernel
theorem dX5_speakers_7 : decode cX5_speakers 7 = .ok (.if_icmp .ge 25, 3) := by decide +kernel
theorem dX5_speakers_10 : decode cX5_speakers 10 = .ok (.iload_n 1, 1) := by decide +kernel
theorem dX5_speakers_11 : decode cX5_speakers 11 = .ok (.aload_n 0, 1) := by decide +kernel
theorem dX5_speakers_12 : decode cX5_speakers 12 = .ok (.iload_n 2, 1) := by decide +kernel
theorem dX5_speakers_13 : decode cX5_speakers 13 = .ok (.invokevirtual 45, 3) := by decide +kernel
theorem dX5_speakers_16 : decode cX5_speakers 16 = .ok (.ifCond .eq 7, 3) := by decide +kernel
theorem dX5_speakers_19 : decode cX5_speakers 19 = .ok (.iconst 1, 1) := by decide +kernel
theorem dX5_speakers_20 : decode cX5_speakers 20 = .ok (.goto 4, 3) := by decide +kernel
theorem dX5_speakers_23 : decode cX5_speakers 23 = .ok (.iconst 0, 1) := by decide +kernel
theorem dX5_speakers_24 : decode cX5_speakers 24 = .ok (.iadd, 1) := by decide +kernel
theorem dX5_speakers_25 : decode cX5_speakers 25 = .ok (.istore_n 1, 1) := by decide +kernel
theorem dX5_speakers_26 : decode cX5_speakers 26 = .ok (.iinc 2 1, 3) := by decide +kernel
theorem dX5_speakers_29 : decode cX5_speakers 29 = .ok (.goto (-25), 3) := by decide +kernel
theorem dX5_speakers_32 : decode cX5_speakers 32 = .ok (.iload_n 1, 1) := by decide +kernel
theorem dX5_speakers_33 : decode cX5_speakers 33 = .ok (.ireturn, 1) := by decide +kernel
theorem dX5_speakerAt_0 : decode cX5_speakerAt 0 = .ok (.bipush (-6), 2) := by decide +kernel
theorem dX5_speakerAt_2 : decode cX5_speakerAt 2 = .ok (.istore_n 3, 1) := by decide +kernel
theorem dX5_speakerAt_3 : decode cX5_speakerAt 3 = .ok (.iload_n 1, 1) := by decide +kernel
theorem dX5_speakerAt_4 : decode cX5_speakerAt 4 = .ok (.istore 4, 2) := by decide +kernel
theorem dX5_speakerAt_6 : decode cX5_speakerAt 6 = .ok (.iconst 0, 1) := by decide +kernel
theorem dX5_speakerAt_7 : decode cX5_speakerAt 7 = .ok (.istore 5, 2) := by decide +kernel
theorem dX5_speakerAt_9 : decode cX5_speakerAt 9 = .ok (.iload 5, 2) := by decide +kernel
theorem dX5_speakerAt_11 : decode cX5_speakerAt 11 = .ok (.bipush 8, 2) := by decide +kernel
theorem dX5_speakerAt_13 : decode cX5_speakerAt 13 = .ok (.if_icmp .ge 46, 3) := by decide +kernel
theorem dX5_speakerAt_16 : decode cX5_speakerAt 16 = .ok (.iload_n 3, 1) := by decide +kernel
theorem dX5_speakerAt_17 : decode cX5_speakerAt 17 = .ok (.bipush (-6), 2) := by decide +kernel
theorem dX5_speakerAt_19 : decode cX5_speakerAt 19 = .ok (.if_icmp .ne 40, 3) := by decide +kernel
theorem dX5_speakerAt_22 : decode cX5_speakerAt 22 = .ok (.aload_n 0, 1) := by decide +kernel
theorem dX5_speakerAt_23 : decode cX5_speakerAt 23 = .ok (.iload 5, 2) := by decide +kernel
theorem dX5_speakerAt_25 : decode cX5_speakerAt 25 = .ok (.invokevirtual 45, 3) := by decide +kernel
theorem dX5_speakerAt_28 : decode cX5_speakerAt 28 = .ok (.ifCond .eq 25, 3) := by decide +kernel
theorem dX5_speakerAt_31 : decode cX5_speakerAt 31 = .ok (.iload 5, 2) := by decide +kernel
theorem dX5_speakerAt_33 : decode cX5_speakerAt 33 = .ok (.iload_n 2, 1) := by decide +kernel
theorem dX5_speakerAt_34 : decode cX5_speakerAt 34 = .ok (.if_icmp .eq 19, 3) := by decide +kernel
theorem dX5_speakerAt_37 : decode cX5_speakerAt 37 = .ok (.iload 4, 2) := by decide +kernel
theorem dX5_speakerAt_39 : decode cX5_speakerAt 39 = .ok (.ifCond .ne 8, 3) := by decide +kernel
theorem dX5_speakerAt_42 : decode cX5_speakerAt 42 = .ok (.iload 5, 2) := by decide +kernel
theorem dX5_speakerAt_44 : decode cX5_speakerAt 44 = .ok (.goto 5, 3) := by decide +kernel
theorem dX5_speakerAt_47 : decode cX5_speakerAt 47 = .ok (.bipush (-6), 2) := by decide +kernel
theorem dX5_speakerAt_49 : decode cX5_speakerAt 49 = .ok (.istore_n 3, 1) := by decide +kernel
theorem dX5_speakerAt_50 : decode cX5_speakerAt 50 = .ok (.iinc 4 (-1), 3) := by decide +kernel
theorem dX5_speakerAt_53 : decode cX5_speakerAt 53 = .ok (.iinc 5 1, 3) := by decide +kernel
theorem dX5_speakerAt_56 : decode cX5_speakerAt 56 = .ok (.goto (-47), 3) := by decide +kernel
theorem dX5_speakerAt_59 : decode cX5_speakerAt 59 = .ok (.iload_n 3, 1) := by decide +kernel
theorem dX5_speakerAt_60 : decode cX5_speakerAt 60 = .ok (.ireturn, 1) := by decide +kernel
theorem dX5_wordFor_0 : decode cX5_wordFor 0 = .ok (.bipush (-6), 2) := by decide +kernel
theorem dX5_wordFor_2 : decode cX5_wordFor 2 = .ok (.istore_n 3, 1) := by decide +kernel
theorem dX5_wordFor_3 : decode cX5_wordFor 3 = .ok (.iconst 0, 1) := by decide +kernel
theorem dX5_wordFor_4 : decode cX5_wordFor 4 = .ok (.istore 4, 2) := by decide +kernel
theorem dX5_wordFor_6 : decode cX5_wordFor 6 = .ok (.iconst 0, 1) := by decide +kernel
theorem dX5_wordFor_7 : decode cX5_wordFor 7 = .ok (.istore 5, 2) := by decide +kernel
theorem dX5_wordFor_9 : decode cX5_wordFor 9 = .ok (.iload 5, 2) := by decide +kernel
theorem dX5_wordFor_11 : decode cX5_wordFor 11 = .ok (.bipush 14, 2) := by decide +kernel
theorem dX5_wordFor_13 : decode cX5_wordFor 13 = .ok (.if_icmp .ge 49, 3) := by decide +kernel
theorem dX5_wordFor_16 : decode cX5_wordFor 16 = .ok (.aload_n 0, 1) := by decide +kernel
theorem dX5_wordFor_17 : decode cX5_wordFor 17 = .ok (.iload_n 1, 1) := by decide +kernel
theorem dX5_wordFor_18 : decode cX5_wordFor 18 = .ok (.iload_n 2, 1) := by decide +kernel
theorem dX5_wordFor_19 : decode cX5_wordFor 19 = .ok (.iload 5, 2) := by decide +kernel
theorem dX5_wordFor_21 : decode cX5_wordFor 21 = .ok (.invokevirtual 42, 3) := by decide +kernel
theorem dX5_wordFor_24 : decode cX5_wordFor 24 = .ok (.istore 6, 2) := by decide +kernel
theorem dX5_wordFor_26 : decode cX5_wordFor 26 = .ok (.iload 6, 2) := by decide +kernel
theorem dX5_wordFor_28 : decode cX5_wordFor 28 = .ok (.iload 4, 2) := by decide +kernel
theorem dX5_wordFor_30 : decode cX5_wordFor 30 = .ok (.if_icmp .le 8, 3) := by decide +kernel
theorem dX5_wordFor_33 : decode cX5_wordFor 33 = .ok (.iload 5, 2) := by decide +kernel
theorem dX5_wordFor_35 : decode cX5_wordFor 35 = .ok (.goto 4, 3) := by decide +kernel
theorem dX5_wordFor_38 : decode cX5_wordFor 38 = .ok (.iload_n 3, 1) := by decide +kernel
theorem dX5_wordFor_39 : decode cX5_wordFor 39 = .ok (.istore_n 3, 1) := by decide +kernel
theorem dX5_wordFor_40 : decode cX5_wordFor 40 = .ok (.iload 6, 2) := by decide +kernel
theorem dX5_wordFor_42 : decode cX5_wordFor 42 = .ok (.iload 4, 2) := by decide +kernel
theorem dX5_wordFor_44 : decode cX5_wordFor 44 = .ok (.if_icmp .le 8, 3) := by decide +kernel
theorem dX5_wordFor_47 : decode cX5_wordFor 47 = .ok (.iload 6, 2) := by decide +kernel
theorem dX5_wordFor_49 : decode cX5_wordFor 49 = .ok (.goto 5, 3) := by decide +kernel
theorem dX5_wordFor_52 : decode cX5_wordFor 52 = .ok (.iload 4, 2) := by decide +kernel
theorem dX5_wordFor_54 : decode cX5_wordFor 54 = .ok (.istore 4, 2) := by decide +kernel
theorem dX5_wordFor_56 : decode cX5_wordFor 56 = .ok (.iinc 5 1, 3) := by decide +kernel
theorem dX5_wordFor_59 : decode cX5_wordFor 59 = .ok (.goto (-50), 3) := by decide +kernel
theorem dX5_wordFor_62 : decode cX5_wordFor 62 = .ok (.iload_n 3, 1) := by decide +kernel
theorem dX5_wordFor_63 : decode cX5_wordFor 63 = .ok (.ireturn, 1) := by decide +kernel
theorem dX5_heardAs_0 : decode cX5_heardAs 0 = .ok (.bipush (-6), 2) := by decide +kernel
theorem dX5_heardAs_2 : decode cX5_heardAs 2 = .ok (.istore_n 3, 1) := by decide +kernel
theorem dX5_heardAs_3 : decode cX5_heardAs 3 = .ok (.iconst 0, 1) := by decide +kernel
theorem dX5_heardAs_4 : decode cX5_heardAs 4 = .ok (.istore 4, 2) := by decide +kernel
theorem dX5_heardAs_6 : decode cX5_heardAs 6 = .ok (.iconst 0, 1) := by decide +kernel
theorem dX5_heardAs_7 : decode cX5_heardAs 7 = .ok (.istore 5, 2) := by decide +kernel
theorem dX5_heardAs_9 : decode cX5_heardAs 9 = .ok (.iload 5, 2) := by decide +kernel
theorem dX5_heardAs_11 : decode cX5_heardAs 11 = .ok (.bipush 6, 2) := by decide +kernel
theorem dX5_heardAs_13 : decode cX5_heardAs 13 = .ok (.if_icmp .ge 49, 3) := by decide +kernel
theorem dX5_heardAs_16 : decode cX5_heardAs 16 = .ok (.aload_n 0, 1) := by decide +kernel
theorem dX5_heardAs_17 : decode cX5_heardAs 17 = .ok (.iload_n 1, 1) := by decide +kernel
theorem dX5_heardAs_18 : decode cX5_heardAs 18 = .ok (.iload 5, 2) := by decide +kernel
theorem dX5_heardAs_20 : decode cX5_heardAs 20 = .ok (.iload_n 2, 1) := by decide +kernel
theorem dX5_heardAs_21 : decode cX5_heardAs 21 = .ok (.invokevirtual 42, 3) := by decide +kernel
theorem dX5_heardAs_24 : decode cX5_heardAs 24 = .ok (.istore 6, 2) := by decide +kernel
theorem dX5_heardAs_26 : decode cX5_heardAs 26 = .ok (.iload 6, 2) := by decide +kernel
theorem dX5_heardAs_28 : decode cX5_heardAs 28 = .ok (.iload 4, 2) := by decide +kernel
theorem dX5_heardAs_30 : decode cX5_heardAs 30 = .ok (.if_icmp .le 8, 3) := by decide +kernel
theorem dX5_heardAs_33 : decode cX5_heardAs 33 = .ok (.iload 5, 2) := by decide +kernel
theorem dX5_heardAs_35 : decode cX5_heardAs 35 = .ok (.goto 4, 3) := by decide +kernel
theorem dX5_heardAs_38 : decode cX5_heardAs 38 = .ok (.iload_n 3, 1) := by decide +kernel
theorem dX5_heardAs_39 : decode cX5_heardAs 39 = .ok (.istore_n 3, 1) := by decide +kernel
theorem dX5_heardAs_40 : decode cX5_heardAs 40 = .ok (.iload 6, 2) := by decide +kernel
theorem dX5_heardAs_42 : decode cX5_heardAs 42 = .ok (.iload 4, 2) := by decide +kernel
theorem dX5_heardAs_44 : decode cX5_heardAs 44 = .ok (.if_icmp .le 8, 3) := by decide +kernel
theorem dX5_heardAs_47 : decode cX5_heardAs 47 = .ok (.iload 6, 2) := by decide +kernel
theorem dX5_heardAs_49 : decode cX5_heardAs 49 = .ok (.goto 5, 3) := by decide +kernel
theorem dX5_heardAs_52 : decode cX5_heardAs 52 = .ok (.iload 4, 2) := by decide +kernel
theorem dX5_heardAs_54 : decode cX5_heardAs 54 = .ok (.istore 4, 2) := by decide +kernel
theorem dX5_heardAs_56 : decode cX5_heardAs 56 = .ok (.iinc 5 1, 3) := by decide +kernel
theorem dX5_heardAs_59 : decode cX5_heardAs 59 = .ok (.goto (-50), 3) := by decide +kernel
theorem dX5_heardAs_62 : decode cX5_heardAs 62 = .ok (.iload_n 3, 1) := by decide +kernel
theorem dX5_heardAs_63 : decode cX5_heardAs 63 = .ok (.ireturn, 1) := by decide +kernel
theorem dX5_learns_0 : decode cX5_learns 0 = .ok (.aload_n 0, 1) := by decide +kernel
theorem dX5_learns_1 : decode cX5_learns 1 = .ok (.getfield 7, 3) := by decide +kernel
theorem dX5_learns_4 : decode cX5_learns 4 = .ok (.iconst 5, 1) := by decide +kernel
theorem dX5_learns_5 : decode cX5_learns 5 = .ok (.iaload, 1) := by decide +kernel
theorem dX5_learns_6 : decode cX5_learns 6 = .ok (.aload_n 0, 1) := by decide +kernel
theorem dX5_learns_7 : decode cX5_learns 7 = .ok (.iload_n 1, 1) := by decide +kernel
theorem dX5_learns_8 : decode cX5_learns 8 = .ok (.iconst 1, 1) := by decide +kernel
theorem dX5_learns_9 : decode cX5_learns 9 = .ok (.invokevirtual 34, 3) := by decide +kernel
theorem dX5_learns_12 : decode cX5_learns 12 = .ok (.bipush 20, 2) := by decide +kernel
theorem dX5_learns_14 : decode cX5_learns 14 = .ok (.idiv, 1) := by decide +kernel
theorem dX5_learns_15 : decode cX5_learns 15 = .ok (.isub, 1) := by decide +kernel
theorem dX5_learns_16 : decode cX5_learns 16 = .ok (.istore_n 2, 1) := by decide +kernel
theorem dX5_learns_17 : decode cX5_learns 17 = .ok (.iload_n 2, 1) := by decide +kernel
theorem dX5_learns_18 : decode cX5_learns 18 = .ok (.iconst 1, 1) := by decide +kernel
theorem dX5_learns_19 : decode cX5_learns 19 = .ok (.if_icmp .ge 7, 3) := by decide +kernel
theorem dX5_learns_22 : decode cX5_learns 22 = .ok (.iconst 1, 1) := by decide +kernel
theorem dX5_learns_23 : decode cX5_learns 23 = .ok (.goto 4, 3) := by decide +kernel
theorem dX5_learns_26 : decode cX5_learns 26 = .ok (.iload_n 2, 1) := by decide +kernel
theorem dX5_learns_27 : decode cX5_learns 27 = .ok (.ireturn, 1) := by decide +kernel
theorem dX5_draws_0 : decode cX5_draws 0 = .ok (.aload_n 0, 1) := by decide +kernel
theorem dX5_draws_1 : decode cX5_draws 1 = .ok (.getfield 7, 3) := by decide +kernel
theorem dX5_draws_4 : decode cX5_draws 4 = .ok (.iconst 0, 1) := by decide +kernel
theorem dX5_draws_5 : decode cX5_draws 5 = .ok (.sipush 25173, 3) := by decide +kernel
theorem dX5_draws_8 : decode cX5_draws 8 = .ok (.aload_n 0, 1) := by decide +kernel
theorem dX5_draws_9 : decode cX5_draws 9 = .ok (.getfield 7, 3) := by decide +kernel
theorem dX5_draws_12 : decode cX5_draws 12 = .ok (.iconst 0, 1) := by decide +kernel
theorem dX5_draws_13 : decode cX5_draws 13 = .ok (.iaload, 1) := by decide +kernel
theorem dX5_draws_14 : decode cX5_draws 14 = .ok (.imul, 1) := by decide +kernel
theorem dX5_draws_15 : decode cX5_draws 15 = .ok (.sipush 13849, 3) := by decide +kernel
theorem dX5_draws_18 : decode cX5_draws 18 = .ok (.iadd, 1) := by decide +kernel
theorem dX5_draws_19 : decode cX5_draws 19 = .ok (.ldc 49, 2) := by decide +kernel
theorem dX5_draws_21 : decode cX5_draws 21 = .ok (.irem, 1) := by decide +kernel
theorem dX5_draws_22 : decode cX5_draws 22 = .ok (.iastore, 1) := by decide +kernel
theorem dX5_draws_23 : decode cX5_draws 23 = .ok (.aload_n 0, 1) := by decide +kernel
theorem dX5_draws_24 : decode cX5_draws 24 = .ok (.getfield 7, 3) := by decide +kernel
theorem dX5_draws_27 : decode cX5_draws 27 = .ok (.iconst 0, 1) := by decide +kernel
theorem dX5_draws_28 : decode cX5_draws 28 = .ok (.iaload, 1) := by decide +kernel
theorem dX5_draws_29 : decode cX5_draws 29 = .ok (.bipush 16, 2) := by decide +kernel
theorem dX5_draws_31 : decode cX5_draws 31 = .ok (.idiv, 1) := by decide +kernel
theorem dX5_draws_32 : decode cX5_draws 32 = .ok (.iload_n 1, 1) := by decide +kernel
theorem dX5_draws_33 : decode cX5_draws 33 = .ok (.irem, 1) := by decide +kernel
theorem dX5_draws_34 : decode cX5_draws 34 = .ok (.ireturn, 1) := by decide +kernel
theorem dX5_strengthens_0 : decode cX5_strengthens 0 = .ok (.iconst 0, 1) := by decide +kernel
theorem dX5_strengthens_1 : decode cX5_strengthens 1 = .ok (.istore 4, 2) := by decide +kernel
theorem dX5_strengthens_3 : decode cX5_strengthens 3 = .ok (.iload 4, 2) := by decide +kernel
theorem dX5_strengthens_5 : decode cX5_strengthens 5 = .ok (.bipush 14, 2) := by decide +kernel
theorem dX5_strengthens_7 : decode cX5_strengthens 7 = .ok (.if_icmp .ge 39, 3) := by decide +kernel
theorem dX5_strengthens_10 : decode cX5_strengthens 10 = .ok (.aload_n 0, 1) := by decide +kernel
theorem dX5_strengthens_11 : decode cX5_strengthens 11 = .ok (.iload_n 1, 1) := by decide +kernel
theorem dX5_strengthens_12 : decode cX5_strengthens 12 = .ok (.iload_n 2, 1) := by decide +kernel
theorem dX5_strengthens_13 : decode cX5_strengthens 13 = .ok (.iload 4, 2) := by decide +kernel
theorem dX5_strengthens_15 : decode cX5_strengthens 15 = .ok (.iload 4, 2) := by decide +kernel
theorem dX5_strengthens_17 : decode cX5_strengthens 17 = .ok (.iload_n 3, 1) := by decide +kernel
theorem dX5_strengthens_18 : decode cX5_strengthens 18 = .ok (.if_icmp .ne 11, 3) := by decide +kernel
theorem dX5_strengthens_21 : decode cX5_strengthens 21 = .ok (.aload_n 0, 1) := by decide +kernel
theorem dX5_strengthens_22 : decode cX5_strengthens 22 = .ok (.iload_n 1, 1) := by decide +kernel
theorem dX5_strengthens_23 : decode cX5_strengthens 23 = .ok (.invokevirtual 50, 3) := by decide +kernel
theorem dX5_strengthens_26 : decode cX5_strengthens 26 = .ok (.goto 11, 3) := by decide +kernel
theorem dX5_strengthens_29 : decode cX5_strengthens 29 = .ok (.aload_n 0, 1) := by decide +kernel
theorem dX5_strengthens_30 : decode cX5_strengthens 30 = .ok (.getfield 7, 3) := by decide +kernel
theorem dX5_strengthens_33 : decode cX5_strengthens 33 = .ok (.bipush 6, 2) := by decide +kernel
theorem dX5_strengthens_35 : decode cX5_strengthens 35 = .ok (.iaload, 1) := by decide +kernel
theorem dX5_strengthens_36 : decode cX5_strengthens 36 = .ok (.ineg, 1) := by decide +kernel
theorem dX5_strengthens_37 : decode cX5_strengthens 37 = .ok (.invokevirtual 54, 3) := by decide +kernel
theorem dX5_strengthens_40 : decode cX5_strengthens 40 = .ok (.iinc 4 1, 3) := by decide +kernel
theorem dX5_strengthens_43 : decode cX5_strengthens 43 = .ok (.goto (-40), 3) := by decide +kernel
theorem dX5_strengthens_46 : decode cX5_strengthens 46 = .ok (.return_, 1) := by decide +kernel
theorem dX5_meets_0 : decode cX5_meets 0 = .ok (.aload_n 0, 1) := by decide +kernel
theorem dX5_meets_1 : decode cX5_meets 1 = .ok (.aload_n 0, 1) := by decide +kernel
theorem dX5_meets_2 : decode cX5_meets 2 = .ok (.iload_n 1, 1) := by decide +kernel
theorem dX5_meets_3 : decode cX5_meets 3 = .ok (.iload_n 3, 1) := by decide +kernel
theorem dX5_meets_4 : decode cX5_meets 4 = .ok (.invokevirtual 58, 3) := by decide +kernel
theorem dX5_meets_7 : decode cX5_meets 7 = .ok (.putfield 61, 3) := by decide +kernel
theorem dX5_meets_10 : decode cX5_meets 10 = .ok (.aload_n 0, 1) := by decide +kernel
theorem dX5_meets_11 : decode cX5_meets 11 = .ok (.getfield 61, 3) := by decide +kernel
theorem dX5_meets_14 : decode cX5_meets 14 = .ok (.bipush (-6), 2) := by decide +kernel
theorem dX5_meets_16 : decode cX5_meets 16 = .ok (.if_icmp .ne 13, 3) := by decide +kernel
theorem dX5_meets_19 : decode cX5_meets 19 = .ok (.aload_n 0, 1) := by decide +kernel
theorem dX5_meets_20 : decode cX5_meets 20 = .ok (.aload_n 0, 1) := by decide +kernel
theorem dX5_meets_21 : decode cX5_meets 21 = .ok (.bipush 14, 2) := by decide +kernel
theorem dX5_meets_23 : decode cX5_meets 23 = .ok (.invokevirtual 64, 3) := by decide +kernel
theorem dX5_meets_26 : decode cX5_meets 26 = .ok (.putfield 61, 3) := by decide +kernel
theorem dX5_meets_29 : decode cX5_meets 29 = .ok (.aload_n 0, 1) := by decide +kernel
theorem dX5_meets_30 : decode cX5_meets 30 = .ok (.aload_n 0, 1) := by decide +kernel
theorem dX5_meets_31 : decode cX5_meets 31 = .ok (.iload_n 2, 1) := by decide +kernel
theorem dX5_meets_32 : decode cX5_meets 32 = .ok (.aload_n 0, 1) := by decide +kernel
theorem dX5_meets_33 : decode cX5_meets 33 = .ok (.getfield 61, 3) := by decide +kernel
theorem dX5_meets_36 : decode cX5_meets 36 = .ok (.invokevirtual 67, 3) := by decide +kernel
theorem dX5_meets_39 : decode cX5_meets 39 = .ok (.putfield 70, 3) := by decide +kernel
theorem dX5_meets_42 : decode cX5_meets 42 = .ok (.aload_n 0, 1) := by decide +kernel
theorem dX5_meets_43 : decode cX5_meets 43 = .ok (.getfield 70, 3) := by decide +kernel
theorem dX5_meets_46 : decode cX5_meets 46 = .ok (.bipush (-6), 2) := by decide +kernel
theorem dX5_meets_48 : decode cX5_meets 48 = .ok (.if_icmp .ne 13, 3) := by decide +kernel
theorem dX5_meets_51 : decode cX5_meets 51 = .ok (.aload_n 0, 1) := by decide +kernel
theorem dX5_meets_52 : decode cX5_meets 52 = .ok (.aload_n 0, 1) := by decide +kernel
theorem dX5_meets_53 : decode cX5_meets 53 = .ok (.bipush 6, 2) := by decide +kernel
theorem dX5_meets_55 : decode cX5_meets 55 = .ok (.invokevirtual 64, 3) := by decide +kernel
theorem dX5_meets_58 : decode cX5_meets 58 = .ok (.putfield 70, 3) := by decide +kernel
theorem dX5_meets_61 : decode cX5_meets 61 = .ok (.aload_n 0, 1) := by decide +kernel
theorem dX5_meets_62 : decode cX5_meets 62 = .ok (.getfield 70, 3) := by decide +kernel
theorem dX5_meets_65 : decode cX5_meets 65 = .ok (.iload_n 3, 1) := by decide +kernel
theorem dX5_meets_66 : decode cX5_meets 66 = .ok (.if_icmp .ne 81, 3) := by decide +kernel
theorem dX5_meets_69 : decode cX5_meets 69 = .ok (.aload_n 0, 1) := by decide +kernel
theorem dX5_meets_70 : decode cX5_meets 70 = .ok (.iload_n 1, 1) := by decide +kernel
theorem dX5_meets_71 : decode cX5_meets 71 = .ok (.iload_n 3, 1) := by decide +kernel
theorem dX5_meets_72 : decode cX5_meets 72 = .ok (.aload_n 0, 1) := by decide +kernel
theorem dX5_meets_73 : decode cX5_meets 73 = .ok (.getfield 61, 3) := by decide +kernel
theorem dX5_meets_76 : decode cX5_meets 76 = .ok (.invokevirtual 73, 3) := by decide +kernel
theorem dX5_meets_79 : decode cX5_meets 79 = .ok (.aload_n 0, 1) := by decide +kernel
theorem dX5_meets_80 : decode cX5_meets 80 = .ok (.iload_n 2, 1) := by decide +kernel
theorem dX5_meets_81 : decode cX5_meets 81 = .ok (.iload_n 3, 1) := by decide +kernel
theorem dX5_meets_82 : decode cX5_meets 82 = .ok (.aload_n 0, 1) := by decide +kernel
theorem dX5_meets_83 : decode cX5_meets 83 = .ok (.getfield 61, 3) := by decide +kernel
theorem dX5_meets_86 : decode cX5_meets 86 = .ok (.invokevirtual 73, 3) := by decide +kernel
theorem dX5_meets_89 : decode cX5_meets 89 = .ok (.iconst 0, 1) := by decide +kernel
theorem dX5_meets_90 : decode cX5_meets 90 = .ok (.istore 4, 2) := by decide +kernel
theorem dX5_meets_92 : decode cX5_meets 92 = .ok (.iload 4, 2) := by decide +kernel
theorem dX5_meets_94 : decode cX5_meets 94 = .ok (.bipush 6, 2) := by decide +kernel
theorem dX5_meets_96 : decode cX5_meets 96 = .ok (.if_icmp .ge 38, 3) := by decide +kernel
theorem dX5_meets_99 : decode cX5_meets 99 = .ok (.aload_n 0, 1) := by decide +kernel
theorem dX5_meets_100 : decode cX5_meets 100 = .ok (.iload_n 2, 1) := by decide +kernel
theorem dX5_meets_101 : decode cX5_meets 101 = .ok (.iload 4, 2) := by decide +kernel
theorem dX5_meets_103 : decode cX5_meets 103 = .ok (.aload_n 0, 1) := by decide +kernel
theorem dX5_meets_104 : decode cX5_meets 104 = .ok (.getfield 61, 3) := by decide +kernel
theorem dX5_meets_107 : decode cX5_meets 107 = .ok (.iload 4, 2) := by decide +kernel
theorem dX5_meets_109 : decode cX5_meets 109 = .ok (.iload_n 3, 1) := by decide +kernel
theorem dX5_meets_110 : decode cX5_meets 110 = .ok (.if_icmp .ne 7, 3) := by decide +kernel
theorem dX5_meets_113 : decode cX5_meets 113 = .ok (.iconst 0, 1) := by decide +kernel
theorem dX5_meets_114 : decode cX5_meets 114 = .ok (.goto 11, 3) := by decide +kernel
theorem dX5_meets_117 : decode cX5_meets 117 = .ok (.aload_n 0, 1) := by decide +kernel
theorem dX5_meets_118 : decode cX5_meets 118 = .ok (.getfield 7, 3) := by decide +kernel
theorem dX5_meets_121 : decode cX5_meets 121 = .ok (.bipush 6, 2) := by decide +kernel
theorem dX5_meets_123 : decode cX5_meets 123 = .ok (.iaload, 1) := by decide +kernel
theorem dX5_meets_124 : decode cX5_meets 124 = .ok (.ineg, 1) := by decide +kernel
theorem dX5_meets_125 : decode cX5_meets 125 = .ok (.invokevirtual 54, 3) := by decide +kernel
theorem dX5_meets_128 : decode cX5_meets 128 = .ok (.iinc 4 1, 3) := by decide +kernel
theorem dX5_meets_131 : decode cX5_meets 131 = .ok (.goto (-39), 3) := by decide +kernel
theorem dX5_meets_134 : decode cX5_meets 134 = .ok (.aload_n 0, 1) := by decide +kernel
theorem dX5_meets_135 : decode cX5_meets 135 = .ok (.getfield 7, 3) := by decide +kernel
theorem dX5_meets_138 : decode cX5_meets 138 = .ok (.iconst 2, 1) := by decide +kernel
theorem dX5_meets_139 : decode cX5_meets 139 = .ok (.dup2, 1) := by decide +kernel
theorem dX5_meets_140 : decode cX5_meets 140 = .ok (.iaload, 1) := by decide +kernel
theorem dX5_meets_141 : decode cX5_meets 141 = .ok (.iconst 1, 1) := by decide +kernel
theorem dX5_meets_142 : decode cX5_meets 142 = .ok (.iadd, 1) := by decide +kernel
theorem dX5_meets_143 : decode cX5_meets 143 = .ok (.iastore, 1) := by decide +kernel
theorem dX5_meets_144 : decode cX5_meets 144 = .ok (.goto 53, 3) := by decide +kernel
theorem dX5_meets_147 : decode cX5_meets 147 = .ok (.aload_n 0, 1) := by decide +kernel
theorem dX5_meets_148 : decode cX5_meets 148 = .ok (.iload_n 1, 1) := by decide +kernel
theorem dX5_meets_149 : decode cX5_meets 149 = .ok (.iload_n 3, 1) := by decide +kernel
theorem dX5_meets_150 : decode cX5_meets 150 = .ok (.aload_n 0, 1) := by decide +kernel
theorem dX5_meets_151 : decode cX5_meets 151 = .ok (.getfield 61, 3) := by decide +kernel
theorem dX5_meets_154 : decode cX5_meets 154 = .ok (.aload_n 0, 1) := by decide +kernel
theorem dX5_meets_155 : decode cX5_meets 155 = .ok (.getfield 7, 3) := by decide +kernel
theorem dX5_meets_158 : decode cX5_meets 158 = .ok (.bipush 6, 2) := by decide +kernel
theorem dX5_meets_160 : decode cX5_meets 160 = .ok (.iaload, 1) := by decide +kernel
theorem dX5_meets_161 : decode cX5_meets 161 = .ok (.ineg, 1) := by decide +kernel
theorem dX5_meets_162 : decode cX5_meets 162 = .ok (.invokevirtual 54, 3) := by decide +kernel
theorem dX5_meets_165 : decode cX5_meets 165 = .ok (.aload_n 0, 1) := by decide +kernel
theorem dX5_meets_166 : decode cX5_meets 166 = .ok (.iload_n 2, 1) := by decide +kernel
theorem dX5_meets_167 : decode cX5_meets 167 = .ok (.iload_n 3, 1) := by decide +kernel
theorem dX5_meets_168 : decode cX5_meets 168 = .ok (.aload_n 0, 1) := by decide +kernel
theorem dX5_meets_169 : decode cX5_meets 169 = .ok (.getfield 61, 3) := by decide +kernel
theorem dX5_meets_172 : decode cX5_meets 172 = .ok (.iconst 1, 1) := by decide +kernel
theorem dX5_meets_173 : decode cX5_meets 173 = .ok (.invokevirtual 54, 3) := by decide +kernel
theorem dX5_meets_176 : decode cX5_meets 176 = .ok (.aload_n 0, 1) := by decide +kernel
theorem dX5_meets_177 : decode cX5_meets 177 = .ok (.iload_n 2, 1) := by decide +kernel
theorem dX5_meets_178 : decode cX5_meets 178 = .ok (.aload_n 0, 1) := by decide +kernel
theorem dX5_meets_179 : decode cX5_meets 179 = .ok (.getfield 70, 3) := by decide +kernel
theorem dX5_meets_182 : decode cX5_meets 182 = .ok (.aload_n 0, 1) := by decide +kernel
theorem dX5_meets_183 : decode cX5_meets 183 = .ok (.getfield 61, 3) := by decide +kernel
theorem dX5_meets_186 : decode cX5_meets 186 = .ok (.aload_n 0, 1) := by decide +kernel
theorem dX5_meets_187 : decode cX5_meets 187 = .ok (.getfield 7, 3) := by decide +kernel
theorem dX5_meets_190 : decode cX5_meets 190 = .ok (.bipush 6, 2) := by decide +kernel
theorem dX5_meets_192 : decode cX5_meets 192 = .ok (.iaload, 1) := by decide +kernel
theorem dX5_meets_193 : decode cX5_meets 193 = .ok (.ineg, 1) := by decide +kernel
theorem dX5_meets_194 : decode cX5_meets 194 = .ok (.invokevirtual 54, 3) := by decide +kernel
theorem dX5_meets_197 : decode cX5_meets 197 = .ok (.aload_n 0, 1) := by decide +kernel
theorem dX5_meets_198 : decode cX5_meets 198 = .ok (.getfield 7, 3) := by decide +kernel
theorem dX5_meets_201 : decode cX5_meets 201 = .ok (.iconst 1, 1) := by decide +kernel
theorem dX5_meets_202 : decode cX5_meets 202 = .ok (.dup2, 1) := by decide +kernel
theorem dX5_meets_203 : decode cX5_meets 203 = .ok (.iaload, 1) := by decide +kernel
theorem dX5_meets_204 : decode cX5_meets 204 = .ok (.iconst 1, 1) := by decide +kernel
theorem dX5_meets_205 : decode cX5_meets 205 = .ok (.iadd, 1) := by decide +kernel
theorem dX5_meets_206 : decode cX5_meets 206 = .ok (.iastore, 1) := by decide +kernel
theorem dX5_meets_207 : decode cX5_meets 207 = .ok (.aload_n 0, 1) := by decide +kernel
theorem dX5_meets_208 : decode cX5_meets 208 = .ok (.iload_n 1, 1) := by decide +kernel
theorem dX5_meets_209 : decode cX5_meets 209 = .ok (.iconst 2, 1) := by decide +kernel
theorem dX5_meets_210 : decode cX5_meets 210 = .ok (.aload_n 0, 1) := by decide +kernel
theorem dX5_meets_211 : decode cX5_meets 211 = .ok (.iload_n 1, 1) := by decide +kernel
theorem dX5_meets_212 : decode cX5_meets 212 = .ok (.iconst 2, 1) := by decide +kernel
theorem dX5_meets_213 : decode cX5_meets 213 = .ok (.invokevirtual 34, 3) := by decide +kernel
theorem dX5_meets_216 : decode cX5_meets 216 = .ok (.iconst 1, 1) := by decide +kernel
theorem dX5_meets_217 : decode cX5_meets 217 = .ok (.iadd, 1) := by decide +kernel
theorem dX5_meets_218 : decode cX5_meets 218 = .ok (.invokevirtual 77, 3) := by decide +kernel
theorem dX5_meets_221 : decode cX5_meets 221 = .ok (.aload_n 0, 1) := by decide +kernel
theorem dX5_meets_222 : decode cX5_meets 222 = .ok (.iload_n 2, 1) := by decide +kernel
theorem dX5_meets_223 : decode cX5_meets 223 = .ok (.iconst 2, 1) := by decide +kernel
theorem dX5_meets_224 : decode cX5_meets 224 = .ok (.aload_n 0, 1) := by decide +kernel
theorem dX5_meets_225 : decode cX5_meets 225 = .ok (.iload_n 2, 1) := by decide +kernel
theorem dX5_meets_226 : decode cX5_meets 226 = .ok (.iconst 2, 1) := by decide +kernel
theorem dX5_meets_227 : decode cX5_meets 227 = .ok (.invokevirtual 34, 3) := by decide +kernel
theorem dX5_meets_230 : decode cX5_meets 230 = .ok (.iconst 1, 1) := by decide +kernel
theorem dX5_meets_231 : decode cX5_meets 231 = .ok (.iadd, 1) := by decide +kernel
theorem dX5_meets_232 : decode cX5_meets 232 = .ok (.invokevirtual 77, 3) := by decide +kernel
theorem dX5_meets_235 : decode cX5_meets 235 = .ok (.aload_n 0, 1) := by decide +kernel
theorem dX5_meets_236 : decode cX5_meets 236 = .ok (.getfield 70, 3) := by decide +kernel
theorem dX5_meets_239 : decode cX5_meets 239 = .ok (.iload_n 3, 1) := by decide +kernel
theorem dX5_meets_240 : decode cX5_meets 240 = .ok (.if_icmp .ne 7, 3) := by decide +kernel
theorem dX5_meets_243 : decode cX5_meets 243 = .ok (.iconst 1, 1) := by decide +kernel
theorem dX5_meets_244 : decode cX5_meets 244 = .ok (.goto 4, 3) := by decide +kernel
theorem dX5_meets_247 : decode cX5_meets 247 = .ok (.iconst 0, 1) := by decide +kernel
theorem dX5_meets_248 : decode cX5_meets 248 = .ok (.ireturn, 1) := by decide +kernel
theorem dX5_whyNotMet_0 : decode cX5_whyNotMet 0 = .ok (.aload_n 0, 1) := by decide +kernel
theorem dX5_whyNotMet_1 : decode cX5_whyNotMet 1 = .ok (.iload_n 1, 1) := by decide +kernel
theorem dX5_whyNotMet_2 : decode cX5_whyNotMet 2 = .ok (.invokevirtual 45, 3) := by decide +kernel
theorem dX5_whyNotMet_5 : decode cX5_whyNotMet 5 = .ok (.ifCond .eq 18, 3) := by decide +kernel
theorem dX5_whyNotMet_8 : decode cX5_whyNotMet 8 = .ok (.aload_n 0, 1) := by decide +kernel
theorem dX5_whyNotMet_9 : decode cX5_whyNotMet 9 = .ok (.iload_n 2, 1) := by decide +kernel
theorem dX5_whyNotMet_10 : decode cX5_whyNotMet 10 = .ok (.invokevirtual 45, 3) := by decide +kernel
theorem dX5_whyNotMet_13 : decode cX5_whyNotMet 13 = .ok (.ifCond .eq 10, 3) := by decide +kernel
theorem dX5_whyNotMet_16 : decode cX5_whyNotMet 16 = .ok (.iload_n 3, 1) := by decide +kernel
theorem dX5_whyNotMet_17 : decode cX5_whyNotMet 17 = .ok (.invokestatic 80, 3) := by decide +kernel
theorem dX5_whyNotMet_20 : decode cX5_whyNotMet 20 = .ok (.ifCond .ne 7, 3) := by decide +kernel
theorem dX5_whyNotMet_23 : decode cX5_whyNotMet 23 = .ok (.iconst (-1), 1) := by decide +kernel
theorem dX5_whyNotMet_24 : decode cX5_whyNotMet 24 = .ok (.goto 14, 3) := by decide +kernel
theorem dX5_whyNotMet_27 : decode cX5_whyNotMet 27 = .ok (.iload_n 1, 1) := by decide +kernel
theorem dX5_whyNotMet_28 : decode cX5_whyNotMet 28 = .ok (.iload_n 2, 1) := by decide +kernel
theorem dX5_whyNotMet_29 : decode cX5_whyNotMet 29 = .ok (.if_icmp .ne 8, 3) := by decide +kernel
theorem dX5_whyNotMet_32 : decode cX5_whyNotMet 32 = .ok (.bipush (-3), 2) := by decide +kernel
theorem dX5_whyNotMet_34 : decode cX5_whyNotMet 34 = .ok (.goto 4, 3) := by decide +kernel
theorem dX5_whyNotMet_37 : decode cX5_whyNotMet 37 = .ok (.iconst 0, 1) := by decide +kernel
theorem dX5_whyNotMet_38 : decode cX5_whyNotMet 38 = .ok (.ireturn, 1) := by decide +kernel
theorem dX5_meet_0 : decode cX5_meet 0 = .ok (.aload_n 0, 1) := by decide +kernel
theorem dX5_meet_1 : decode cX5_meet 1 = .ok (.iload_n 1, 1) := by decide +kernel
theorem dX5_meet_2 : decode cX5_meet 2 = .ok (.iload_n 2, 1) := by decide +kernel
theorem dX5_meet_3 : decode cX5_meet 3 = .ok (.iload_n 3, 1) := by decide +kernel
theorem dX5_meet_4 : decode cX5_meet 4 = .ok (.invokevirtual 83, 3) := by decide +kernel
theorem dX5_meet_7 : decode cX5_meet 7 = .ok (.istore 4, 2) := by decide +kernel
theorem dX5_meet_9 : decode cX5_meet 9 = .ok (.iload 4, 2) := by decide +kernel
theorem dX5_meet_11 : decode cX5_meet 11 = .ok (.ifCond .ge 6, 3) := by decide +kernel
theorem dX5_meet_14 : decode cX5_meet 14 = .ok (.iload 4, 2) := by decide +kernel
theorem dX5_meet_16 : decode cX5_meet 16 = .ok (.ireturn, 1) := by decide +kernel
theorem dX5_meet_17 : decode cX5_meet 17 = .ok (.aload_n 0, 1) := by decide +kernel
theorem dX5_meet_18 : decode cX5_meet 18 = .ok (.invokevirtual 86, 3) := by decide +kernel
theorem dX5_meet_21 : decode cX5_meet 21 = .ok (.aload_n 0, 1) := by decide +kernel
theorem dX5_meet_22 : decode cX5_meet 22 = .ok (.iload_n 1, 1) := by decide +kernel
theorem dX5_meet_23 : decode cX5_meet 23 = .ok (.iload_n 2, 1) := by decide +kernel
theorem dX5_meet_24 : decode cX5_meet 24 = .ok (.iload_n 3, 1) := by decide +kernel
theorem dX5_meet_25 : decode cX5_meet 25 = .ok (.invokevirtual 89, 3) := by decide +kernel
theorem dX5_meet_28 : decode cX5_meet 28 = .ok (.pop, 1) := by decide +kernel
theorem dX5_meet_29 : decode cX5_meet 29 = .ok (.bipush 10, 2) := by decide +kernel
theorem dX5_meet_31 : decode cX5_meet 31 = .ok (.aload_n 0, 1) := by decide +kernel
theorem dX5_meet_32 : decode cX5_meet 32 = .ok (.getfield 61, 3) := by decide +kernel
theorem dX5_meet_35 : decode cX5_meet 35 = .ok (.imul, 1) := by decide +kernel
theorem dX5_meet_36 : decode cX5_meet 36 = .ok (.aload_n 0, 1) := by decide +kernel
theorem dX5_meet_37 : decode cX5_meet 37 = .ok (.getfield 70, 3) := by decide +kernel
theorem dX5_meet_40 : decode cX5_meet 40 = .ok (.iadd, 1) := by decide +kernel
theorem dX5_meet_41 : decode cX5_meet 41 = .ok (.ireturn, 1) := by decide +kernel
theorem dX5_whyNotChat_0 : decode cX5_whyNotChat 0 = .ok (.iload_n 1, 1) := by decide +kernel
theorem dX5_whyNotChat_1 : decode cX5_whyNotChat 1 = .ok (.iconst 1, 1) := by decide +kernel
theorem dX5_whyNotChat_2 : decode cX5_whyNotChat 2 = .ok (.sipush 200, 3) := by decide +kernel
theorem dX5_whyNotChat_5 : decode cX5_whyNotChat 5 = .ok (.invokestatic 30, 3) := by decide +kernel
theorem dX5_whyNotChat_8 : decode cX5_whyNotChat 8 = .ok (.ifCond .ne 8, 3) := by decide +kernel
theorem dX5_whyNotChat_11 : decode cX5_whyNotChat 11 = .ok (.bipush (-2), 2) := by decide +kernel
theorem dX5_whyNotChat_13 : decode cX5_whyNotChat 13 = .ok (.goto 17, 3) := by decide +kernel
theorem dX5_whyNotChat_16 : decode cX5_whyNotChat 16 = .ok (.aload_n 0, 1) := by decide +kernel
theorem dX5_whyNotChat_17 : decode cX5_whyNotChat 17 = .ok (.invokevirtual 92, 3) := by decide +kernel
theorem dX5_whyNotChat_20 : decode cX5_whyNotChat 20 = .ok (.iconst 2, 1) := by decide +kernel
theorem dX5_whyNotChat_21 : decode cX5_whyNotChat 21 = .ok (.if_icmp .ge 8, 3) := by decide +kernel
theorem dX5_whyNotChat_24 : decode cX5_whyNotChat 24 = .ok (.bipush (-3), 2) := by decide +kernel
theorem dX5_whyNotChat_26 : decode cX5_whyNotChat 26 = .ok (.goto 4, 3) := by decide +kernel
theorem dX5_whyNotChat_29 : decode cX5_whyNotChat 29 = .ok (.iconst 0, 1) := by decide +kernel
theorem dX5_whyNotChat_30 : decode cX5_whyNotChat 30 = .ok (.ireturn, 1) := by decide +kernel
theorem dX5_chats_0 : decode cX5_chats 0 = .ok (.aload_n 0, 1) := by decide +kernel
theorem dX5_chats_1 : decode cX5_chats 1 = .ok (.invokevirtual 92, 3) := by decide +kernel
theorem dX5_chats_4 : decode cX5_chats 4 = .ok (.istore_n 2, 1) := by decide +kernel
theorem dX5_chats_5 : decode cX5_chats 5 = .ok (.iconst 0, 1) := by decide +kernel
theorem dX5_chats_6 : decode cX5_chats 6 = .ok (.istore_n 3, 1) := by decide +kernel
theorem dX5_chats_7 : decode cX5_chats 7 = .ok (.iconst 0, 1) := by decide +kernel
theorem dX5_chats_8 : decode cX5_chats 8 = .ok (.istore 4, 2) := by decide +kernel
theorem dX5_chats_10 : decode cX5_chats 10 = .ok (.iload 4, 2) := by decide +kernel
theorem dX5_chats_12 : decode cX5_chats 12 = .ok (.iload_n 1, 1) := by decide +kernel
theorem dX5_chats_13 : decode cX5_chats 13 = .ok (.if_icmp .ge 66, 3) := by decide +kernel
theorem dX5_chats_16 : decode cX5_chats 16 = .ok (.aload_n 0, 1) := by decide +kernel
theorem dX5_chats_17 : decode cX5_chats 17 = .ok (.aload_n 0, 1) := by decide +kernel
theorem dX5_chats_18 : decode cX5_chats 18 = .ok (.iload_n 2, 1) := by decide +kernel
theorem dX5_chats_19 : decode cX5_chats 19 = .ok (.invokevirtual 64, 3) := by decide +kernel
theorem dX5_chats_22 : decode cX5_chats 22 = .ok (.bipush (-6), 2) := by decide +kernel
theorem dX5_chats_24 : decode cX5_chats 24 = .ok (.invokevirtual 96, 3) := by decide +kernel
theorem dX5_chats_27 : decode cX5_chats 27 = .ok (.istore 5, 2) := by decide +kernel
theorem dX5_chats_29 : decode cX5_chats 29 = .ok (.aload_n 0, 1) := by decide +kernel
theorem dX5_chats_30 : decode cX5_chats 30 = .ok (.aload_n 0, 1) := by decide +kernel
theorem dX5_chats_31 : decode cX5_chats 31 = .ok (.iload_n 2, 1) := by decide +kernel
theorem dX5_chats_32 : decode cX5_chats 32 = .ok (.iconst 1, 1) := by decide +kernel
theorem dX5_chats_33 : decode cX5_chats 33 = .ok (.isub, 1) := by decide +kernel
theorem dX5_chats_34 : decode cX5_chats 34 = .ok (.invokevirtual 64, 3) := by decide +kernel
theorem dX5_chats_37 : decode cX5_chats 37 = .ok (.iload 5, 2) := by decide +kernel
theorem dX5_chats_39 : decode cX5_chats 39 = .ok (.invokevirtual 96, 3) := by decide +kernel
theorem dX5_chats_42 : decode cX5_chats 42 = .ok (.istore 6, 2) := by decide +kernel
theorem dX5_chats_44 : decode cX5_chats 44 = .ok (.aload_n 0, 1) := by decide +kernel
theorem dX5_chats_45 : decode cX5_chats 45 = .ok (.bipush 6, 2) := by decide +kernel
theorem dX5_chats_47 : decode cX5_chats 47 = .ok (.invokevirtual 64, 3) := by decide +kernel
theorem dX5_chats_50 : decode cX5_chats 50 = .ok (.istore 7, 2) := by decide +kernel
theorem dX5_chats_52 : decode cX5_chats 52 = .ok (.iload_n 3, 1) := by decide +kernel
theorem dX5_chats_53 : decode cX5_chats 53 = .ok (.aload_n 0, 1) := by decide +kernel
theorem dX5_chats_54 : decode cX5_chats 54 = .ok (.iload 5, 2) := by decide +kernel
theorem dX5_chats_56 : decode cX5_chats 56 = .ok (.iload 6, 2) := by decide +kernel
theorem dX5_chats_58 : decode cX5_chats 58 = .ok (.iload 7, 2) := by decide +kernel
theorem dX5_chats_60 : decode cX5_chats 60 = .ok (.invokevirtual 89, 3) := by decide +kernel
theorem dX5_chats_63 : decode cX5_chats 63 = .ok (.ifCond .eq 7, 3) := by decide +kernel
theorem dX5_chats_66 : decode cX5_chats 66 = .ok (.iconst 1, 1) := by decide +kernel
theorem dX5_chats_67 : decode cX5_chats 67 = .ok (.goto 4, 3) := by decide +kernel
theorem dX5_chats_70 : decode cX5_chats 70 = .ok (.iconst 0, 1) := by decide +kernel
theorem dX5_chats_71 : decode cX5_chats 71 = .ok (.iadd, 1) := by decide +kernel
theorem dX5_chats_72 : decode cX5_chats 72 = .ok (.istore_n 3, 1) := by decide +kernel
theorem dX5_chats_73 : decode cX5_chats 73 = .ok (.iinc 4 1, 3) := by decide +kernel
theorem dX5_chats_76 : decode cX5_chats 76 = .ok (.goto (-66), 3) := by decide +kernel
theorem dX5_chats_79 : decode cX5_chats 79 = .ok (.iload_n 3, 1) := by decide +kernel
theorem dX5_chats_80 : decode cX5_chats 80 = .ok (.ireturn, 1) := by decide +kernel
theorem dX5_chat_0 : decode cX5_chat 0 = .ok (.aload_n 0, 1) := by decide +kernel
theorem dX5_chat_1 : decode cX5_chat 1 = .ok (.iload_n 1, 1) := by decide +kernel
theorem dX5_chat_2 : decode cX5_chat 2 = .ok (.invokevirtual 99, 3) := by decide +kernel
theorem dX5_chat_5 : decode cX5_chat 5 = .ok (.istore_n 2, 1) := by decide +kernel
theorem dX5_chat_6 : decode cX5_chat 6 = .ok (.iload_n 2, 1) := by decide +kernel
theorem dX5_chat_7 : decode cX5_chat 7 = .ok (.ifCond .ge 5, 3) := by decide +kernel
theorem dX5_chat_10 : decode cX5_chat 10 = .ok (.iload_n 2, 1) := by decide +kernel
theorem dX5_chat_11 : decode cX5_chat 11 = .ok (.ireturn, 1) := by decide +kernel
theorem dX5_chat_12 : decode cX5_chat 12 = .ok (.aload_n 0, 1) := by decide +kernel
theorem dX5_chat_13 : decode cX5_chat 13 = .ok (.invokevirtual 86, 3) := by decide +kernel
theorem dX5_chat_16 : decode cX5_chat 16 = .ok (.aload_n 0, 1) := by decide +kernel
theorem dX5_chat_17 : decode cX5_chat 17 = .ok (.iload_n 1, 1) := by decide +kernel
theorem dX5_chat_18 : decode cX5_chat 18 = .ok (.invokevirtual 102, 3) := by decide +kernel
theorem dX5_chat_21 : decode cX5_chat 21 = .ok (.ireturn, 1) := by decide +kernel
theorem dX5_teacherOf_0 : decode cX5_teacherOf 0 = .ok (.bipush (-6), 2) := by decide +kernel
theorem dX5_teacherOf_2 : decode cX5_teacherOf 2 = .ok (.istore_n 2, 1) := by decide +kernel
theorem dX5_teacherOf_3 : decode cX5_teacherOf 3 = .ok (.iconst 0, 1) := by decide +kernel
theorem dX5_teacherOf_4 : decode cX5_teacherOf 4 = .ok (.istore_n 3, 1) := by decide +kernel
theorem dX5_teacherOf_5 : decode cX5_teacherOf 5 = .ok (.iload_n 3, 1) := by decide +kernel
theorem dX5_teacherOf_6 : decode cX5_teacherOf 6 = .ok (.bipush 8, 2) := by decide +kernel
theorem dX5_teacherOf_8 : decode cX5_teacherOf 8 = .ok (.if_icmp .ge 77, 3) := by decide +kernel
theorem dX5_teacherOf_11 : decode cX5_teacherOf 11 = .ok (.aload_n 0, 1) := by decide +kernel
theorem dX5_teacherOf_12 : decode cX5_teacherOf 12 = .ok (.iload_n 3, 1) := by decide +kernel
theorem dX5_teacherOf_13 : decode cX5_teacherOf 13 = .ok (.invokevirtual 45, 3) := by decide +kernel
theorem dX5_teacherOf_16 : decode cX5_teacherOf 16 = .ok (.ifCond .eq 28, 3) := by decide +kernel
theorem dX5_teacherOf_19 : decode cX5_teacherOf 19 = .ok (.iload_n 3, 1) := by decide +kernel
theorem dX5_teacherOf_20 : decode cX5_teacherOf 20 = .ok (.iload_n 1, 1) := by decide +kernel
theorem dX5_teacherOf_21 : decode cX5_teacherOf 21 = .ok (.if_icmp .eq 23, 3) := by decide +kernel
theorem dX5_teacherOf_24 : decode cX5_teacherOf 24 = .ok (.aload_n 0, 1) := by decide +kernel
theorem dX5_teacherOf_25 : decode cX5_teacherOf 25 = .ok (.iload_n 3, 1) := by decide +kernel
theorem dX5_teacherOf_26 : decode cX5_teacherOf 26 = .ok (.iconst 1, 1) := by decide +kernel
theorem dX5_teacherOf_27 : decode cX5_teacherOf 27 = .ok (.invokevirtual 34, 3) := by decide +kernel
theorem dX5_teacherOf_30 : decode cX5_teacherOf 30 = .ok (.aload_n 0, 1) := by decide +kernel
theorem dX5_teacherOf_31 : decode cX5_teacherOf 31 = .ok (.getfield 7, 3) := by decide +kernel
theorem dX5_teacherOf_34 : decode cX5_teacherOf 34 = .ok (.bipush 7, 2) := by decide +kernel
theorem dX5_teacherOf_36 : decode cX5_teacherOf 36 = .ok (.iaload, 1) := by decide +kernel
theorem dX5_teacherOf_37 : decode cX5_teacherOf 37 = .ok (.if_icmp .gt 7, 3) := by decide +kernel
theorem dX5_teacherOf_40 : decode cX5_teacherOf 40 = .ok (.iconst 1, 1) := by decide +kernel
theorem dX5_teacherOf_41 : decode cX5_teacherOf 41 = .ok (.goto 4, 3) := by decide +kernel
theorem dX5_teacherOf_44 : decode cX5_teacherOf 44 = .ok (.iconst 0, 1) := by decide +kernel
theorem dX5_teacherOf_45 : decode cX5_teacherOf 45 = .ok (.istore 4, 2) := by decide +kernel
theorem dX5_teacherOf_47 : decode cX5_teacherOf 47 = .ok (.iload 4, 2) := by decide +kernel
theorem dX5_teacherOf_49 : decode cX5_teacherOf 49 = .ok (.ifCond .eq 28, 3) := by decide +kernel
theorem dX5_teacherOf_52 : decode cX5_teacherOf 52 = .ok (.iload_n 2, 1) := by decide +kernel
theorem dX5_teacherOf_53 : decode cX5_teacherOf 53 = .ok (.bipush (-6), 2) := by decide +kernel
theorem dX5_teacherOf_55 : decode cX5_teacherOf 55 = .ok (.if_icmp .eq 18, 3) := by decide +kernel
theorem dX5_teacherOf_58 : decode cX5_teacherOf 58 = .ok (.aload_n 0, 1) := by decide +kernel
theorem dX5_teacherOf_59 : decode cX5_teacherOf 59 = .ok (.iload_n 3, 1) := by decide +kernel
theorem dX5_teacherOf_60 : decode cX5_teacherOf 60 = .ok (.iconst 1, 1) := by decide +kernel
theorem dX5_teacherOf_61 : decode cX5_teacherOf 61 = .ok (.invokevirtual 34, 3) := by decide +kernel
theorem dX5_teacherOf_64 : decode cX5_teacherOf 64 = .ok (.aload_n 0, 1) := by decide +kernel
theorem dX5_teacherOf_65 : decode cX5_teacherOf 65 = .ok (.iload_n 2, 1) := by decide +kernel
theorem dX5_teacherOf_66 : decode cX5_teacherOf 66 = .ok (.iconst 1, 1) := by decide +kernel
theorem dX5_teacherOf_67 : decode cX5_teacherOf 67 = .ok (.invokevirtual 34, 3) := by decide +kernel
theorem dX5_teacherOf_70 : decode cX5_teacherOf 70 = .ok (.if_icmp .ge 7, 3) := by decide +kernel
theorem dX5_teacherOf_73 : decode cX5_teacherOf 73 = .ok (.iload_n 3, 1) := by decide +kernel
theorem dX5_teacherOf_74 : decode cX5_teacherOf 74 = .ok (.goto 4, 3) := by decide +kernel
theorem dX5_teacherOf_77 : decode cX5_teacherOf 77 = .ok (.iload_n 2, 1) := by decide +kernel
theorem dX5_teacherOf_78 : decode cX5_teacherOf 78 = .ok (.istore_n 2, 1) := by decide +kernel
theorem dX5_teacherOf_79 : decode cX5_teacherOf 79 = .ok (.iinc 3 1, 3) := by decide +kernel
theorem dX5_teacherOf_82 : decode cX5_teacherOf 82 = .ok (.goto (-77), 3) := by decide +kernel
theorem dX5_teacherOf_85 : decode cX5_teacherOf 85 = .ok (.iload_n 2, 1) := by decide +kernel
theorem dX5_teacherOf_86 : decode cX5_teacherOf 86 = .ok (.ireturn, 1) := by decide +kernel
theorem dX5_isBorn_0 : decode cX5_isBorn 0 = .ok (.aload_n 0, 1) := by decide +kernel
theorem dX5_isBorn_1 : decode cX5_isBorn 1 = .ok (.iload_n 1, 1) := by decide +kernel
theorem dX5_isBorn_2 : decode cX5_isBorn 2 = .ok (.invokevirtual 105, 3) := by decide +kernel
theorem dX5_isBorn_5 : decode cX5_isBorn 5 = .ok (.istore_n 2, 1) := by decide +kernel
theorem dX5_isBorn_6 : decode cX5_isBorn 6 = .ok (.iconst 0, 1) := by decide +kernel
theorem dX5_isBorn_7 : decode cX5_isBorn 7 = .ok (.istore_n 3, 1) := by decide +kernel
theorem dX5_isBorn_8 : decode cX5_isBorn 8 = .ok (.iload_n 3, 1) := by decide +kernel
theorem dX5_isBorn_9 : decode cX5_isBorn 9 = .ok (.bipush 84, 2) := by decide +kernel
theorem dX5_isBorn_11 : decode cX5_isBorn 11 = .ok (.if_icmp .ge 62, 3) := by decide +kernel
theorem dX5_isBorn_14 : decode cX5_isBorn 14 = .ok (.iload_n 2, 1) := by decide +kernel
theorem dX5_isBorn_15 : decode cX5_isBorn 15 = .ok (.bipush (-6), 2) := by decide +kernel
theorem dX5_isBorn_17 : decode cX5_isBorn 17 = .ok (.if_icmp .ne 7, 3) := by decide +kernel
theorem dX5_isBorn_20 : decode cX5_isBorn 20 = .ok (.iconst 0, 1) := by decide +kernel
theorem dX5_isBorn_21 : decode cX5_isBorn 21 = .ok (.goto 17, 3) := by decide +kernel
theorem dX5_isBorn_24 : decode cX5_isBorn 24 = .ok (.aload_n 0, 1) := by decide +kernel
theorem dX5_isBorn_25 : decode cX5_isBorn 25 = .ok (.getfield 7, 3) := by decide +kernel
theorem dX5_isBorn_28 : decode cX5_isBorn 28 = .ok (.bipush 33, 2) := by decide +kernel
theorem dX5_isBorn_30 : decode cX5_isBorn 30 = .ok (.bipush 84, 2) := by decide +kernel
theorem dX5_isBorn_32 : decode cX5_isBorn 32 = .ok (.iload_n 2, 1) := by decide +kernel
theorem dX5_isBorn_33 : decode cX5_isBorn 33 = .ok (.imul, 1) := by decide +kernel
theorem dX5_isBorn_34 : decode cX5_isBorn 34 = .ok (.iadd, 1) := by decide +kernel
theorem dX5_isBorn_35 : decode cX5_isBorn 35 = .ok (.iload_n 3, 1) := by decide +kernel
theorem dX5_isBorn_36 : decode cX5_isBorn 36 = .ok (.iadd, 1) := by decide +kernel
theorem dX5_isBorn_37 : decode cX5_isBorn 37 = .ok (.iaload, 1) := by decide +kernel
theorem dX5_isBorn_38 : decode cX5_isBorn 38 = .ok (.istore 4, 2) := by decide +kernel
theorem dX5_isBorn_40 : decode cX5_isBorn 40 = .ok (.aload_n 0, 1) := by decide +kernel
theorem dX5_isBorn_41 : decode cX5_isBorn 41 = .ok (.getfield 7, 3) := by decide +kernel
theorem dX5_isBorn_44 : decode cX5_isBorn 44 = .ok (.bipush 33, 2) := by decide +kernel
theorem dX5_isBorn_46 : decode cX5_isBorn 46 = .ok (.bipush 84, 2) := by decide +kernel
theorem dX5_isBorn_48 : decode cX5_isBorn 48 = .ok (.iload_n 1, 1) := by decide +kernel
theorem dX5_isBorn_49 : decode cX5_isBorn 49 = .ok (.imul, 1) := by decide +kernel
theorem dX5_isBorn_50 : decode cX5_isBorn 50 = .ok (.iadd, 1) := by decide +kernel
theorem dX5_isBorn_51 : decode cX5_isBorn 51 = .ok (.iload_n 3, 1) := by decide +kernel
theorem dX5_isBorn_52 : decode cX5_isBorn 52 = .ok (.iadd, 1) := by decide +kernel
theorem dX5_isBorn_53 : decode cX5_isBorn 53 = .ok (.iload 4, 2) := by decide +kernel
theorem dX5_isBorn_55 : decode cX5_isBorn 55 = .ok (.aload_n 0, 1) := by decide +kernel
theorem dX5_isBorn_56 : decode cX5_isBorn 56 = .ok (.getfield 7, 3) := by decide +kernel
theorem dX5_isBorn_59 : decode cX5_isBorn 59 = .ok (.bipush 8, 2) := by decide +kernel
theorem dX5_isBorn_61 : decode cX5_isBorn 61 = .ok (.iaload, 1) := by decide +kernel
theorem dX5_isBorn_62 : decode cX5_isBorn 62 = .ok (.imul, 1) := by decide +kernel
theorem dX5_isBorn_63 : decode cX5_isBorn 63 = .ok (.bipush 100, 2) := by decide +kernel
theorem dX5_isBorn_65 : decode cX5_isBorn 65 = .ok (.idiv, 1) := by decide +kernel
theorem dX5_isBorn_66 : decode cX5_isBorn 66 = .ok (.iastore, 1) := by decide +kernel
theorem dX5_isBorn_67 : decode cX5_isBorn 67 = .ok (.iinc 3 1, 3) := by decide +kernel
theorem dX5_isBorn_70 : decode cX5_isBorn 70 = .ok (.goto (-62), 3) := by decide +kernel
theorem dX5_isBorn_73 : decode cX5_isBorn 73 = .ok (.aload_n 0, 1) := by decide +kernel
theorem dX5_isBorn_74 : decode cX5_isBorn 74 = .ok (.iload_n 1, 1) := by decide +kernel
theorem dX5_isBorn_75 : decode cX5_isBorn 75 = .ok (.iconst 1, 1) := by decide +kernel
theorem dX5_isBorn_76 : decode cX5_isBorn 76 = .ok (.iconst 0, 1) := by decide +kernel
theorem dX5_isBorn_77 : decode cX5_isBorn 77 = .ok (.invokevirtual 77, 3) := by decide +kernel
theorem dX5_isBorn_80 : decode cX5_isBorn 80 = .ok (.aload_n 0, 1) := by decide +kernel
theorem dX5_isBorn_81 : decode cX5_isBorn 81 = .ok (.iload_n 1, 1) := by decide +kernel
theorem dX5_isBorn_82 : decode cX5_isBorn 82 = .ok (.iconst 2, 1) := by decide +kernel
theorem dX5_isBorn_83 : decode cX5_isBorn 83 = .ok (.iconst 0, 1) := by decide +kernel
theorem dX5_isBorn_84 : decode cX5_isBorn 84 = .ok (.invokevirtual 77, 3) := by decide +kernel
theorem dX5_isBorn_87 : decode cX5_isBorn 87 = .ok (.aload_n 0, 1) := by decide +kernel
theorem dX5_isBorn_88 : decode cX5_isBorn 88 = .ok (.getfield 7, 3) := by decide +kernel
theorem dX5_isBorn_91 : decode cX5_isBorn 91 = .ok (.iconst 3, 1) := by decide +kernel
theorem dX5_isBorn_92 : decode cX5_isBorn 92 = .ok (.dup2, 1) := by decide +kernel
theorem dX5_isBorn_93 : decode cX5_isBorn 93 = .ok (.iaload, 1) := by decide +kernel
theorem dX5_isBorn_94 : decode cX5_isBorn 94 = .ok (.iconst 1, 1) := by decide +kernel
theorem dX5_isBorn_95 : decode cX5_isBorn 95 = .ok (.iadd, 1) := by decide +kernel
theorem dX5_isBorn_96 : decode cX5_isBorn 96 = .ok (.iastore, 1) := by decide +kernel
theorem dX5_isBorn_97 : decode cX5_isBorn 97 = .ok (.return_, 1) := by decide +kernel
theorem dX5_passesYear_0 : decode cX5_passesYear 0 = .ok (.iconst 0, 1) := by decide +kernel
theorem dX5_passesYear_1 : decode cX5_passesYear 1 = .ok (.istore_n 1, 1) := by decide +kernel
theorem dX5_passesYear_2 : decode cX5_passesYear 2 = .ok (.iload_n 1, 1) := by decide +kernel
theorem dX5_passesYear_3 : decode cX5_passesYear 3 = .ok (.bipush 8, 2) := by decide +kernel
theorem dX5_passesYear_5 : decode cX5_passesYear 5 = .ok (.if_icmp .ge 28, 3) := by decide +kernel
theorem dX5_passesYear_8 : decode cX5_passesYear 8 = .ok (.aload_n 0, 1) := by decide +kernel
theorem dX5_passesYear_9 : decode cX5_passesYear 9 = .ok (.iload_n 1, 1) := by decide +kernel
theorem dX5_passesYear_10 : decode cX5_passesYear 10 = .ok (.iconst 1, 1) := by decide +kernel
theorem dX5_passesYear_11 : decode cX5_passesYear 11 = .ok (.aload_n 0, 1) := by decide +kernel
theorem dX5_passesYear_12 : decode cX5_passesYear 12 = .ok (.iload_n 1, 1) := by decide +kernel
theorem dX5_passesYear_13 : decode cX5_passesYear 13 = .ok (.iconst 1, 1) := by decide +kernel
theorem dX5_passesYear_14 : decode cX5_passesYear 14 = .ok (.invokevirtual 34, 3) := by decide +kernel
theorem dX5_passesYear_17 : decode cX5_passesYear 17 = .ok (.aload_n 0, 1) := by decide +kernel
theorem dX5_passesYear_18 : decode cX5_passesYear 18 = .ok (.iload_n 1, 1) := by decide +kernel
theorem dX5_passesYear_19 : decode cX5_passesYear 19 = .ok (.iconst 0, 1) := by decide +kernel
theorem dX5_passesYear_20 : decode cX5_passesYear 20 = .ok (.invokevirtual 34, 3) := by decide +kernel
theorem dX5_passesYear_23 : decode cX5_passesYear 23 = .ok (.iadd, 1) := by decide +kernel
theorem dX5_passesYear_24 : decode cX5_passesYear 24 = .ok (.invokevirtual 77, 3) := by decide +kernel
theorem dX5_passesYear_27 : decode cX5_passesYear 27 = .ok (.iinc 1 1, 3) := by decide +kernel
theorem dX5_passesYear_30 : decode cX5_passesYear 30 = .ok (.goto (-28), 3) := by decide +kernel
theorem dX5_passesYear_33 : decode cX5_passesYear 33 = .ok (.iconst 0, 1) := by decide +kernel
theorem dX5_passesYear_34 : decode cX5_passesYear 34 = .ok (.istore_n 1, 1) := by decide +kernel
theorem dX5_passesYear_35 : decode cX5_passesYear 35 = .ok (.iload_n 1, 1) := by decide +kernel
theorem dX5_passesYear_36 : decode cX5_passesYear 36 = .ok (.bipush 8, 2) := by decide +kernel
theorem dX5_passesYear_38 : decode cX5_passesYear 38 = .ok (.if_icmp .ge 38, 3) := by decide +kernel
theorem dX5_passesYear_41 : decode cX5_passesYear 41 = .ok (.aload_n 0, 1) := by decide +kernel
theorem dX5_passesYear_42 : decode cX5_passesYear 42 = .ok (.iload_n 1, 1) := by decide +kernel
theorem dX5_passesYear_43 : decode cX5_passesYear 43 = .ok (.invokevirtual 45, 3) := by decide +kernel
theorem dX5_passesYear_46 : decode cX5_passesYear 46 = .ok (.ifCond .eq 24, 3) := by decide +kernel
theorem dX5_passesYear_49 : decode cX5_passesYear 49 = .ok (.aload_n 0, 1) := by decide +kernel
theorem dX5_passesYear_50 : decode cX5_passesYear 50 = .ok (.iload_n 1, 1) := by decide +kernel
theorem dX5_passesYear_51 : decode cX5_passesYear 51 = .ok (.iconst 1, 1) := by decide +kernel
theorem dX5_passesYear_52 : decode cX5_passesYear 52 = .ok (.invokevirtual 34, 3) := by decide +kernel
theorem dX5_passesYear_55 : decode cX5_passesYear 55 = .ok (.aload_n 0, 1) := by decide +kernel
theorem dX5_passesYear_56 : decode cX5_passesYear 56 = .ok (.getfield 7, 3) := by decide +kernel
theorem dX5_passesYear_59 : decode cX5_passesYear 59 = .ok (.bipush 7, 2) := by decide +kernel
theorem dX5_passesYear_61 : decode cX5_passesYear 61 = .ok (.iaload, 1) := by decide +kernel
theorem dX5_passesYear_62 : decode cX5_passesYear 62 = .ok (.if_icmp .le 8, 3) := by decide +kernel
theorem dX5_passesYear_65 : decode cX5_passesYear 65 = .ok (.aload_n 0, 1) := by decide +kernel
theorem dX5_passesYear_66 : decode cX5_passesYear 66 = .ok (.iload_n 1, 1) := by decide +kernel
theorem dX5_passesYear_67 : decode cX5_passesYear 67 = .ok (.invokevirtual 108, 3) := by decide +kernel
theorem dX5_passesYear_70 : decode cX5_passesYear 70 = .ok (.iinc 1 1, 3) := by decide +kernel
theorem dX5_passesYear_73 : decode cX5_passesYear 73 = .ok (.goto (-38), 3) := by decide +kernel
theorem dX5_passesYear_76 : decode cX5_passesYear 76 = .ok (.aload_n 0, 1) := by decide +kernel
theorem dX5_passesYear_77 : decode cX5_passesYear 77 = .ok (.getfield 7, 3) := by decide +kernel
theorem dX5_passesYear_80 : decode cX5_passesYear 80 = .ok (.iconst 4, 1) := by decide +kernel
theorem dX5_passesYear_81 : decode cX5_passesYear 81 = .ok (.dup2, 1) := by decide +kernel
theorem dX5_passesYear_82 : decode cX5_passesYear 82 = .ok (.iaload, 1) := by decide +kernel
theorem dX5_passesYear_83 : decode cX5_passesYear 83 = .ok (.iconst 1, 1) := by decide +kernel
theorem dX5_passesYear_84 : decode cX5_passesYear 84 = .ok (.iadd, 1) := by decide +kernel
theorem dX5_passesYear_85 : decode cX5_passesYear 85 = .ok (.iastore, 1) := by decide +kernel
theorem dX5_passesYear_86 : decode cX5_passesYear 86 = .ok (.return_, 1) := by decide +kernel
theorem dX5_age_0 : decode cX5_age 0 = .ok (.iload_n 1, 1) := by decide +kernel
theorem dX5_age_1 : decode cX5_age 1 = .ok (.iconst 1, 1) := by decide +kernel
theorem dX5_age_2 : decode cX5_age 2 = .ok (.bipush 99, 2) := by decide +kernel
theorem dX5_age_4 : decode cX5_age 4 = .ok (.invokestatic 30, 3) := by decide +kernel
theorem dX5_age_7 : decode cX5_age 7 = .ok (.ifCond .ne 6, 3) := by decide +kernel
theorem dX5_age_10 : decode cX5_age 10 = .ok (.bipush (-2), 2) := by decide +kernel
theorem dX5_age_12 : decode cX5_age 12 = .ok (.ireturn, 1) := by decide +kernel
theorem dX5_age_13 : decode cX5_age 13 = .ok (.aload_n 0, 1) := by decide +kernel
theorem dX5_age_14 : decode cX5_age 14 = .ok (.invokevirtual 86, 3) := by decide +kernel
theorem dX5_age_17 : decode cX5_age 17 = .ok (.aload_n 0, 1) := by decide +kernel
theorem dX5_age_18 : decode cX5_age 18 = .ok (.getfield 7, 3) := by decide +kernel
theorem dX5_age_21 : decode cX5_age 21 = .ok (.iconst 3, 1) := by decide +kernel
theorem dX5_age_22 : decode cX5_age 22 = .ok (.iaload, 1) := by decide +kernel
theorem dX5_age_23 : decode cX5_age 23 = .ok (.istore_n 2, 1) := by decide +kernel
theorem dX5_age_24 : decode cX5_age 24 = .ok (.iconst 0, 1) := by decide +kernel
theorem dX5_age_25 : decode cX5_age 25 = .ok (.istore_n 3, 1) := by decide +kernel
theorem dX5_age_26 : decode cX5_age 26 = .ok (.iload_n 3, 1) := by decide +kernel
theorem dX5_age_27 : decode cX5_age 27 = .ok (.iload_n 1, 1) := by decide +kernel
theorem dX5_age_28 : decode cX5_age 28 = .ok (.if_icmp .ge 13, 3) := by decide +kernel
theorem dX5_age_31 : decode cX5_age 31 = .ok (.aload_n 0, 1) := by decide +kernel
theorem dX5_age_32 : decode cX5_age 32 = .ok (.invokevirtual 112, 3) := by decide +kernel
theorem dX5_age_35 : decode cX5_age 35 = .ok (.iinc 3 1, 3) := by decide +kernel
theorem dX5_age_38 : decode cX5_age 38 = .ok (.goto (-12), 3) := by decide +kernel
theorem dX5_age_41 : decode cX5_age 41 = .ok (.aload_n 0, 1) := by decide +kernel
theorem dX5_age_42 : decode cX5_age 42 = .ok (.getfield 7, 3) := by decide +kernel
theorem dX5_age_45 : decode cX5_age 45 = .ok (.iconst 3, 1) := by decide +kernel
theorem dX5_age_46 : decode cX5_age 46 = .ok (.iaload, 1) := by decide +kernel
theorem dX5_age_47 : decode cX5_age 47 = .ok (.iload_n 2, 1) := by decide +kernel
theorem dX5_age_48 : decode cX5_age 48 = .ok (.isub, 1) := by decide +kernel
theorem dX5_age_49 : decode cX5_age 49 = .ok (.ireturn, 1) := by decide +kernel
theorem dX5_come_0 : decode cX5_come 0 = .ok (.iconst 0, 1) := by decide +kernel
theorem dX5_come_1 : decode cX5_come 1 = .ok (.istore_n 1, 1) := by decide +kernel
theorem dX5_come_2 : decode cX5_come 2 = .ok (.iload_n 1, 1) := by decide +kernel
theorem dX5_come_3 : decode cX5_come 3 = .ok (.bipush 8, 2) := by decide +kernel
theorem dX5_come_5 : decode cX5_come 5 = .ok (.if_icmp .ge 17, 3) := by decide +kernel
theorem dX5_come_8 : decode cX5_come 8 = .ok (.aload_n 0, 1) := by decide +kernel
theorem dX5_come_9 : decode cX5_come 9 = .ok (.iload_n 1, 1) := by decide +kernel
theorem dX5_come_10 : decode cX5_come 10 = .ok (.invokevirtual 45, 3) := by decide +kernel
theorem dX5_come_13 : decode cX5_come 13 = .ok (.ifCond .eq 9, 3) := by decide +kernel
theorem dX5_come_16 : decode cX5_come 16 = .ok (.iinc 1 1, 3) := by decide +kernel
theorem dX5_come_19 : decode cX5_come 19 = .ok (.goto (-17), 3) := by decide +kernel
theorem dX5_come_22 : decode cX5_come 22 = .ok (.iload_n 1, 1) := by decide +kernel
theorem dX5_come_23 : decode cX5_come 23 = .ok (.bipush 8, 2) := by decide +kernel
theorem dX5_come_25 : decode cX5_come 25 = .ok (.if_icmp .ne 6, 3) := by decide +kernel
theorem dX5_come_28 : decode cX5_come 28 = .ok (.bipush (-4), 2) := by decide +kernel
theorem dX5_come_30 : decode cX5_come 30 = .ok (.ireturn, 1) := by decide +kernel
theorem dX5_come_31 : decode cX5_come 31 = .ok (.aload_n 0, 1) := by decide +kernel
theorem dX5_come_32 : decode cX5_come 32 = .ok (.invokevirtual 86, 3) := by decide +kernel
theorem dX5_come_35 : decode cX5_come 35 = .ok (.aload_n 0, 1) := by decide +kernel
theorem dX5_come_36 : decode cX5_come 36 = .ok (.iload_n 1, 1) := by decide +kernel
theorem dX5_come_37 : decode cX5_come 37 = .ok (.iconst 0, 1) := by decide +kernel
theorem dX5_come_38 : decode cX5_come 38 = .ok (.iconst 1, 1) := by decide +kernel
theorem dX5_come_39 : decode cX5_come 39 = .ok (.invokevirtual 77, 3) := by decide +kernel
theorem dX5_come_42 : decode cX5_come 42 = .ok (.iload_n 1, 1) := by decide +kernel
theorem dX5_come_43 : decode cX5_come 43 = .ok (.ireturn, 1) := by decide +kernel
theorem dX5_go_0 : decode cX5_go 0 = .ok (.aload_n 0, 1) := by decide +kernel
theorem dX5_go_1 : decode cX5_go 1 = .ok (.iload_n 1, 1) := by decide +kernel
theorem dX5_go_2 : decode cX5_go 2 = .ok (.invokevirtual 45, 3) := by decide +kernel
theorem dX5_go_5 : decode cX5_go 5 = .ok (.ifCond .ne 5, 3) := by decide +kernel
theorem dX5_go_8 : decode cX5_go 8 = .ok (.iconst (-1), 1) := by decide +kernel
theorem dX5_go_9 : decode cX5_go 9 = .ok (.ireturn, 1) := by decide +kernel
theorem dX5_go_10 : decode cX5_go 10 = .ok (.aload_n 0, 1) := by decide +kernel
theorem dX5_go_11 : decode cX5_go 11 = .ok (.invokevirtual 86, 3) := by decide +kernel
theorem dX5_go_14 : decode cX5_go 14 = .ok (.aload_n 0, 1) := by decide +kernel
theorem dX5_go_15 : decode cX5_go 15 = .ok (.iload_n 1, 1) := by decide +kernel
theorem dX5_go_16 : decode cX5_go 16 = .ok (.iconst 0, 1) := by decide +kernel
theorem dX5_go_17 : decode cX5_go 17 = .ok (.iconst 0, 1) := by decide +kernel
theorem dX5_go_18 : decode cX5_go 18 = .ok (.invokevirtual 77, 3) := by decide +kernel
theorem dX5_go_21 : decode cX5_go 21 = .ok (.aload_n 0, 1) := by decide +kernel
theorem dX5_go_22 : decode cX5_go 22 = .ok (.iload_n 1, 1) := by decide +kernel
theorem dX5_go_23 : decode cX5_go 23 = .ok (.iconst 1, 1) := by decide +kernel
theorem dX5_go_24 : decode cX5_go 24 = .ok (.iconst 0, 1) := by decide +kernel
theorem dX5_go_25 : decode cX5_go 25 = .ok (.invokevirtual 77, 3) := by decide +kernel
theorem dX5_go_28 : decode cX5_go 28 = .ok (.aload_n 0, 1) := by decide +kernel
theorem dX5_go_29 : decode cX5_go 29 = .ok (.iload_n 1, 1) := by decide +kernel
theorem dX5_go_30 : decode cX5_go 30 = .ok (.iconst 2, 1) := by decide +kernel
theorem dX5_go_31 : decode cX5_go 31 = .ok (.iconst 0, 1) := by decide +kernel
theorem dX5_go_32 : decode cX5_go 32 = .ok (.invokevirtual 77, 3) := by decide +kernel
theorem dX5_go_35 : decode cX5_go 35 = .ok (.iconst 0, 1) := by decide +kernel
theorem dX5_go_36 : decode cX5_go 36 = .ok (.istore_n 2, 1) := by decide +kernel
theorem dX5_go_37 : decode cX5_go 37 = .ok (.iload_n 2, 1) := by decide +kernel
theorem dX5_go_38 : decode cX5_go 38 = .ok (.bipush 84, 2) := by decide +kernel
theorem dX5_go_40 : decode cX5_go 40 = .ok (.if_icmp .ge 24, 3) := by decide +kernel
theorem dX5_go_43 : decode cX5_go 43 = .ok (.aload_n 0, 1) := by decide +kernel
theorem dX5_go_44 : decode cX5_go 44 = .ok (.getfield 7, 3) := by decide +kernel
theorem dX5_go_47 : decode cX5_go 47 = .ok (.bipush 33, 2) := by decide +kernel
theorem dX5_go_49 : decode cX5_go 49 = .ok (.bipush 84, 2) := by decide +kernel
theorem dX5_go_51 : decode cX5_go 51 = .ok (.iload_n 1, 1) := by decide +kernel
theorem dX5_go_52 : decode cX5_go 52 = .ok (.imul, 1) := by decide +kernel
theorem dX5_go_53 : decode cX5_go 53 = .ok (.iadd, 1) := by decide +kernel
theorem dX5_go_54 : decode cX5_go 54 = .ok (.iload_n 2, 1) := by decide +kernel
theorem dX5_go_55 : decode cX5_go 55 = .ok (.iadd, 1) := by decide +kernel
theorem dX5_go_56 : decode cX5_go 56 = .ok (.iconst 0, 1) := by decide +kernel
theorem dX5_go_57 : decode cX5_go 57 = .ok (.iastore, 1) := by decide +kernel
theorem dX5_go_58 : decode cX5_go 58 = .ok (.iinc 2 1, 3) := by decide +kernel
theorem dX5_go_61 : decode cX5_go 61 = .ok (.goto (-24), 3) := by decide +kernel
theorem dX5_go_64 : decode cX5_go 64 = .ok (.aload_n 0, 1) := by decide +kernel
theorem dX5_go_65 : decode cX5_go 65 = .ok (.invokevirtual 92, 3) := by decide +kernel
theorem dX5_go_68 : decode cX5_go 68 = .ok (.ireturn, 1) := by decide +kernel
theorem dX5_isSetting_0 : decode cX5_isSetting 0 = .ok (.iload_n 0, 1) := by decide +kernel
theorem dX5_isSetting_1 : decode cX5_isSetting 1 = .ok (.iconst 0, 1) := by decide +kernel
theorem dX5_isSetting_2 : decode cX5_isSetting 2 = .ok (.iconst 3, 1) := by decide +kernel
theorem dX5_isSetting_3 : decode cX5_isSetting 3 = .ok (.invokestatic 30, 3) := by decide +kernel
theorem dX5_isSetting_6 : decode cX5_isSetting 6 = .ok (.ireturn, 1) := by decide +kernel
theorem dX5_set_0 : decode cX5_set 0 = .ok (.iload_n 1, 1) := by decide +kernel
theorem dX5_set_1 : decode cX5_set 1 = .ok (.invokestatic 115, 3) := by decide +kernel
theorem dX5_set_4 : decode cX5_set 4 = .ok (.ifCond .ne 5, 3) := by decide +kernel
theorem dX5_set_7 : decode cX5_set 7 = .ok (.iconst (-1), 1) := by decide +kernel
theorem dX5_set_8 : decode cX5_set 8 = .ok (.ireturn, 1) := by decide +kernel
theorem dX5_set_9 : decode cX5_set 9 = .ok (.iload_n 1, 1) := by decide +kernel
theorem dX5_set_10 : decode cX5_set 10 = .ok (.ifCond .ne 7, 3) := by decide +kernel
theorem dX5_set_13 : decode cX5_set 13 = .ok (.iconst 1, 1) := by decide +kernel
theorem dX5_set_14 : decode cX5_set 14 = .ok (.goto 13, 3) := by decide +kernel
theorem dX5_set_17 : decode cX5_set 17 = .ok (.iload_n 1, 1) := by decide +kernel
theorem dX5_set_18 : decode cX5_set 18 = .ok (.iconst 2, 1) := by decide +kernel
theorem dX5_set_19 : decode cX5_set 19 = .ok (.if_icmp .ne 7, 3) := by decide +kernel
theorem dX5_set_22 : decode cX5_set 22 = .ok (.iconst 5, 1) := by decide +kernel
theorem dX5_set_23 : decode cX5_set 23 = .ok (.goto 4, 3) := by decide +kernel
theorem dX5_set_26 : decode cX5_set 26 = .ok (.iconst 0, 1) := by decide +kernel
theorem dX5_set_27 : decode cX5_set 27 = .ok (.istore_n 3, 1) := by decide +kernel
theorem dX5_set_28 : decode cX5_set 28 = .ok (.iload_n 2, 1) := by decide +kernel
theorem dX5_set_29 : decode cX5_set 29 = .ok (.iload_n 3, 1) := by decide +kernel
theorem dX5_set_30 : decode cX5_set 30 = .ok (.iload_n 1, 1) := by decide +kernel
theorem dX5_set_31 : decode cX5_set 31 = .ok (.iconst 2, 1) := by decide +kernel
theorem dX5_set_32 : decode cX5_set 32 = .ok (.if_icmp .ge 8, 3) := by decide +kernel
theorem dX5_set_35 : decode cX5_set 35 = .ok (.bipush 9, 2) := by decide +kernel
theorem dX5_set_37 : decode cX5_set 37 = .ok (.goto 15, 3) := by decide +kernel
theorem dX5_set_40 : decode cX5_set 40 = .ok (.iload_n 1, 1) := by decide +kernel
theorem dX5_set_41 : decode cX5_set 41 = .ok (.iconst 2, 1) := by decide +kernel
theorem dX5_set_42 : decode cX5_set 42 = .ok (.if_icmp .ne 8, 3) := by decide +kernel
theorem dX5_set_45 : decode cX5_set 45 = .ok (.bipush 99, 2) := by decide +kernel
theorem dX5_set_47 : decode cX5_set 47 = .ok (.goto 5, 3) := by decide +kernel
theorem dX5_set_50 : decode cX5_set 50 = .ok (.bipush 100, 2) := by decide +kernel
theorem dX5_set_52 : decode cX5_set 52 = .ok (.invokestatic 30, 3) := by decide +kernel
theorem dX5_set_55 : decode cX5_set 55 = .ok (.ifCond .ne 6, 3) := by decide +kernel
theorem dX5_set_58 : decode cX5_set 58 = .ok (.bipush (-2), 2) := by decide +kernel
theorem dX5_set_60 : decode cX5_set 60 = .ok (.ireturn, 1) := by decide +kernel
theorem dX5_set_61 : decode cX5_set 61 = .ok (.aload_n 0, 1) := by decide +kernel
theorem dX5_set_62 : decode cX5_set 62 = .ok (.invokevirtual 86, 3) := by decide +kernel
theorem dX5_set_65 : decode cX5_set 65 = .ok (.aload_n 0, 1) := by decide +kernel
theorem dX5_set_66 : decode cX5_set 66 = .ok (.getfield 7, 3) := by decide +kernel
theorem dX5_set_69 : decode cX5_set 69 = .ok (.iconst 5, 1) := by decide +kernel
theorem dX5_set_70 : decode cX5_set 70 = .ok (.iload_n 1, 1) := by decide +kernel
theorem dX5_set_71 : decode cX5_set 71 = .ok (.iadd, 1) := by decide +kernel
theorem dX5_set_72 : decode cX5_set 72 = .ok (.iaload, 1) := by decide +kernel
theorem dX5_set_73 : decode cX5_set 73 = .ok (.istore 4, 2) := by decide +kernel
theorem dX5_set_75 : decode cX5_set 75 = .ok (.aload_n 0, 1) := by decide +kernel
theorem dX5_set_76 : decode cX5_set 76 = .ok (.getfield 7, 3) := by decide +kernel
theorem dX5_set_79 : decode cX5_set 79 = .ok (.iconst 5, 1) := by decide +kernel
theorem dX5_set_80 : decode cX5_set 80 = .ok (.iload_n 1, 1) := by decide +kernel
theorem dX5_set_81 : decode cX5_set 81 = .ok (.iadd, 1) := by decide +kernel
theorem dX5_set_82 : decode cX5_set 82 = .ok (.iload_n 2, 1) := by decide +kernel
theorem dX5_set_83 : decode cX5_set 83 = .ok (.iastore, 1) := by decide +kernel
theorem dX5_set_84 : decode cX5_set 84 = .ok (.iload 4, 2) := by decide +kernel
theorem dX5_set_86 : decode cX5_set 86 = .ok (.ireturn, 1) := by decide +kernel
theorem dX5_setSeed_0 : decode cX5_setSeed 0 = .ok (.iload_n 1, 1) := by decide +kernel
theorem dX5_setSeed_1 : decode cX5_setSeed 1 = .ok (.iconst 0, 1) := by decide +kernel
theorem dX5_setSeed_2 : decode cX5_setSeed 2 = .ok (.ldc 118, 2) := by decide +kernel
theorem dX5_setSeed_4 : decode cX5_setSeed 4 = .ok (.invokestatic 30, 3) := by decide +kernel
theorem dX5_setSeed_7 : decode cX5_setSeed 7 = .ok (.ifCond .ne 6, 3) := by decide +kernel
theorem dX5_setSeed_10 : decode cX5_setSeed 10 = .ok (.bipush (-2), 2) := by decide +kernel
theorem dX5_setSeed_12 : decode cX5_setSeed 12 = .ok (.ireturn, 1) := by decide +kernel
theorem dX5_setSeed_13 : decode cX5_setSeed 13 = .ok (.aload_n 0, 1) := by decide +kernel
theorem dX5_setSeed_14 : decode cX5_setSeed 14 = .ok (.invokevirtual 86, 3) := by decide +kernel
theorem dX5_setSeed_17 : decode cX5_setSeed 17 = .ok (.aload_n 0, 1) := by decide +kernel
theorem dX5_setSeed_18 : decode cX5_setSeed 18 = .ok (.getfield 7, 3) := by decide +kernel
theorem dX5_setSeed_21 : decode cX5_setSeed 21 = .ok (.iconst 0, 1) := by decide +kernel
theorem dX5_setSeed_22 : decode cX5_setSeed 22 = .ok (.iaload, 1) := by decide +kernel
theorem dX5_setSeed_23 : decode cX5_setSeed 23 = .ok (.istore_n 2, 1) := by decide +kernel
theorem dX5_setSeed_24 : decode cX5_setSeed 24 = .ok (.aload_n 0, 1) := by decide +kernel
theorem dX5_setSeed_25 : decode cX5_setSeed 25 = .ok (.getfield 7, 3) := by decide +kernel
theorem dX5_setSeed_28 : decode cX5_setSeed 28 = .ok (.iconst 0, 1) := by decide +kernel
theorem dX5_setSeed_29 : decode cX5_setSeed 29 = .ok (.iload_n 1, 1) := by decide +kernel
theorem dX5_setSeed_30 : decode cX5_setSeed 30 = .ok (.iastore, 1) := by decide +kernel
theorem dX5_setSeed_31 : decode cX5_setSeed 31 = .ok (.iload_n 2, 1) := by decide +kernel
theorem dX5_setSeed_32 : decode cX5_setSeed 32 = .ok (.ireturn, 1) := by decide +kernel
theorem dX5_teach_0 : decode cX5_teach 0 = .ok (.aload_n 0, 1) := by decide +kernel
theorem dX5_teach_1 : decode cX5_teach 1 = .ok (.iload_n 1, 1) := by decide +kernel
theorem dX5_teach_2 : decode cX5_teach 2 = .ok (.invokevirtual 45, 3) := by decide +kernel
theorem dX5_teach_5 : decode cX5_teach 5 = .ok (.ifCond .eq 17, 3) := by decide +kernel
theorem dX5_teach_8 : decode cX5_teach 8 = .ok (.iload_n 2, 1) := by decide +kernel
theorem dX5_teach_9 : decode cX5_teach 9 = .ok (.invokestatic 80, 3) := by decide +kernel
theorem dX5_teach_12 : decode cX5_teach 12 = .ok (.ifCond .eq 10, 3) := by decide +kernel
theorem dX5_teach_15 : decode cX5_teach 15 = .ok (.iload_n 3, 1) := by decide +kernel
theorem dX5_teach_16 : decode cX5_teach 16 = .ok (.invokestatic 119, 3) := by decide +kernel
theorem dX5_teach_19 : decode cX5_teach 19 = .ok (.ifCond .ne 5, 3) := by decide +kernel
theorem dX5_teach_22 : decode cX5_teach 22 = .ok (.iconst (-1), 1) := by decide +kernel
theorem dX5_teach_23 : decode cX5_teach 23 = .ok (.ireturn, 1) := by decide +kernel
theorem dX5_teach_24 : decode cX5_teach 24 = .ok (.iload 4, 2) := by decide +kernel
theorem dX5_teach_26 : decode cX5_teach 26 = .ok (.iconst 0, 1) := by decide +kernel
theorem dX5_teach_27 : decode cX5_teach 27 = .ok (.bipush 99, 2) := by decide +kernel
theorem dX5_teach_29 : decode cX5_teach 29 = .ok (.invokestatic 30, 3) := by decide +kernel
theorem dX5_teach_32 : decode cX5_teach 32 = .ok (.ifCond .ne 6, 3) := by decide +kernel
theorem dX5_teach_35 : decode cX5_teach 35 = .ok (.bipush (-2), 2) := by decide +kernel
theorem dX5_teach_37 : decode cX5_teach 37 = .ok (.ireturn, 1) := by decide +kernel
theorem dX5_teach_38 : decode cX5_teach 38 = .ok (.aload_n 0, 1) := by decide +kernel
theorem dX5_teach_39 : decode cX5_teach 39 = .ok (.invokevirtual 86, 3) := by decide +kernel
theorem dX5_teach_42 : decode cX5_teach 42 = .ok (.aload_n 0, 1) := by decide +kernel
theorem dX5_teach_43 : decode cX5_teach 43 = .ok (.iload_n 1, 1) := by decide +kernel
theorem dX5_teach_44 : decode cX5_teach 44 = .ok (.iload_n 2, 1) := by decide +kernel
theorem dX5_teach_45 : decode cX5_teach 45 = .ok (.iload_n 3, 1) := by decide +kernel
theorem dX5_teach_46 : decode cX5_teach 46 = .ok (.invokevirtual 42, 3) := by decide +kernel
theorem dX5_teach_49 : decode cX5_teach 49 = .ok (.istore 5, 2) := by decide +kernel
theorem dX5_teach_51 : decode cX5_teach 51 = .ok (.aload_n 0, 1) := by decide +kernel
theorem dX5_teach_52 : decode cX5_teach 52 = .ok (.getfield 7, 3) := by decide +kernel
theorem dX5_teach_55 : decode cX5_teach 55 = .ok (.iload_n 1, 1) := by decide +kernel
theorem dX5_teach_56 : decode cX5_teach 56 = .ok (.iload_n 2, 1) := by decide +kernel
theorem dX5_teach_57 : decode cX5_teach 57 = .ok (.iload_n 3, 1) := by decide +kernel
theorem dX5_teach_58 : decode cX5_teach 58 = .ok (.invokestatic 38, 3) := by decide +kernel
theorem dX5_teach_61 : decode cX5_teach 61 = .ok (.iload 4, 2) := by decide +kernel
theorem dX5_teach_63 : decode cX5_teach 63 = .ok (.iastore, 1) := by decide +kernel
theorem dX5_teach_64 : decode cX5_teach 64 = .ok (.iload 5, 2) := by decide +kernel
theorem dX5_teach_66 : decode cX5_teach 66 = .ok (.ireturn, 1) := by decide +kernel
theorem dX5_setAge_0 : decode cX5_setAge 0 = .ok (.aload_n 0, 1) := by decide +kernel
theorem dX5_setAge_1 : decode cX5_setAge 1 = .ok (.iload_n 1, 1) := by decide +kernel
theorem dX5_setAge_2 : decode cX5_setAge 2 = .ok (.invokevirtual 45, 3) := by decide +kernel
theorem dX5_setAge_5 : decode cX5_setAge 5 = .ok (.ifCond .ne 5, 3) := by decide +kernel
theorem dX5_setAge_8 : decode cX5_setAge 8 = .ok (.iconst (-1), 1) := by decide +kernel
theorem dX5_setAge_9 : decode cX5_setAge 9 = .ok (.ireturn, 1) := by decide +kernel
theorem dX5_setAge_10 : decode cX5_setAge 10 = .ok (.iload_n 2, 1) := by decide +kernel
theorem dX5_setAge_11 : decode cX5_setAge 11 = .ok (.iconst 0, 1) := by decide +kernel
theorem dX5_setAge_12 : decode cX5_setAge 12 = .ok (.bipush 99, 2) := by decide +kernel
theorem dX5_setAge_14 : decode cX5_setAge 14 = .ok (.invokestatic 30, 3) := by decide +kernel
theorem dX5_setAge_17 : decode cX5_setAge 17 = .ok (.ifCond .ne 6, 3) := by decide +kernel
theorem dX5_setAge_20 : decode cX5_setAge 20 = .ok (.bipush (-2), 2) := by decide +kernel
theorem dX5_setAge_22 : decode cX5_setAge 22 = .ok (.ireturn, 1) := by decide +kernel
theorem dX5_setAge_23 : decode cX5_setAge 23 = .ok (.aload_n 0, 1) := by decide +kernel
theorem dX5_setAge_24 : decode cX5_setAge 24 = .ok (.invokevirtual 86, 3) := by decide +kernel
theorem dX5_setAge_27 : decode cX5_setAge 27 = .ok (.aload_n 0, 1) := by decide +kernel
theorem dX5_setAge_28 : decode cX5_setAge 28 = .ok (.iload_n 1, 1) := by decide +kernel
theorem dX5_setAge_29 : decode cX5_setAge 29 = .ok (.iconst 1, 1) := by decide +kernel
theorem dX5_setAge_30 : decode cX5_setAge 30 = .ok (.invokevirtual 34, 3) := by decide +kernel
theorem dX5_setAge_33 : decode cX5_setAge 33 = .ok (.istore_n 3, 1) := by decide +kernel
theorem dX5_setAge_34 : decode cX5_setAge 34 = .ok (.aload_n 0, 1) := by decide +kernel
theorem dX5_setAge_35 : decode cX5_setAge 35 = .ok (.iload_n 1, 1) := by decide +kernel
theorem dX5_setAge_36 : decode cX5_setAge 36 = .ok (.iconst 1, 1) := by decide +kernel
theorem dX5_setAge_37 : decode cX5_setAge 37 = .ok (.iload_n 2, 1) := by decide +kernel
theorem dX5_setAge_38 : decode cX5_setAge 38 = .ok (.invokevirtual 77, 3) := by decide +kernel
theorem dX5_setAge_41 : decode cX5_setAge 41 = .ok (.iload_n 3, 1) := by decide +kernel
theorem dX5_setAge_42 : decode cX5_setAge 42 = .ok (.ireturn, 1) := by decide +kernel
theorem dX5_allWeights_0 : decode cX5_allWeights 0 = .ok (.iconst 0, 1) := by decide +kernel
theorem dX5_allWeights_1 : decode cX5_allWeights 1 = .ok (.istore_n 1, 1) := by decide +kernel
theorem dX5_allWeights_2 : decode cX5_allWeights 2 = .ok (.bipush 33, 2) := by decide +kernel
theorem dX5_allWeights_4 : decode cX5_allWeights 4 = .ok (.istore_n 2, 1) := by decide +kernel
theorem dX5_allWeights_5 : decode cX5_allWeights 5 = .ok (.iload_n 2, 1) := by decide +kernel
theorem dX5_allWeights_6 : decode cX5_allWeights 6 = .ok (.sipush 705, 3) := by decide +kernel
theorem dX5_allWeights_9 : decode cX5_allWeights 9 = .ok (.if_icmp .ge 18, 3) := by decide +kernel
theorem dX5_allWeights_12 : decode cX5_allWeights 12 = .ok (.iload_n 1, 1) := by decide +kernel
theorem dX5_allWeights_13 : decode cX5_allWeights 13 = .ok (.aload_n 0, 1) := by decide +kernel
theorem dX5_allWeights_14 : decode cX5_allWeights 14 = .ok (.getfield 7, 3) := by decide +kernel
theorem dX5_allWeights_17 : decode cX5_allWeights 17 = .ok (.iload_n 2, 1) := by decide +kernel
theorem dX5_allWeights_18 : decode cX5_allWeights 18 = .ok (.iaload, 1) := by decide +kernel
theorem dX5_allWeights_19 : decode cX5_allWeights 19 = .ok (.iadd, 1) := by decide +kernel
theorem dX5_allWeights_20 : decode cX5_allWeights 20 = .ok (.istore_n 1, 1) := by decide +kernel
theorem dX5_allWeights_21 : decode cX5_allWeights 21 = .ok (.iinc 2 1, 3) := by decide +kernel
theorem dX5_allWeights_24 : decode cX5_allWeights 24 = .ok (.goto (-19), 3) := by decide +kernel
theorem dX5_allWeights_27 : decode cX5_allWeights 27 = .ok (.iload_n 1, 1) := by decide +kernel
theorem dX5_allWeights_28 : decode cX5_allWeights 28 = .ok (.ireturn, 1) := by decide +kernel
theorem dX5_countOf_0 : decode cX5_countOf 0 = .ok (.iload_n 1, 1) := by decide +kernel
theorem dX5_countOf_1 : decode cX5_countOf 1 = .ok (.lookupswitch 37 #[(0, 27), (6, 32)], 27) := by decide +kernel
theorem dX5_countOf_28 : decode cX5_countOf 28 = .ok (.aload_n 0, 1) := by decide +kernel
theorem dX5_countOf_29 : decode cX5_countOf 29 = .ok (.invokevirtual 92, 3) := by decide +kernel
theorem dX5_countOf_32 : decode cX5_countOf 32 = .ok (.ireturn, 1) := by decide +kernel
theorem dX5_countOf_33 : decode cX5_countOf 33 = .ok (.aload_n 0, 1) := by decide +kernel
theorem dX5_countOf_34 : decode cX5_countOf 34 = .ok (.invokevirtual 122, 3) := by decide +kernel
theorem dX5_countOf_37 : decode cX5_countOf 37 = .ok (.ireturn, 1) := by decide +kernel
theorem dX5_countOf_38 : decode cX5_countOf 38 = .ok (.aload_n 0, 1) := by decide +kernel
theorem dX5_countOf_39 : decode cX5_countOf 39 = .ok (.getfield 7, 3) := by decide +kernel
theorem dX5_countOf_42 : decode cX5_countOf 42 = .ok (.iconst 0, 1) := by decide +kernel
theorem dX5_countOf_43 : decode cX5_countOf 43 = .ok (.iload_n 1, 1) := by decide +kernel
theorem dX5_countOf_44 : decode cX5_countOf 44 = .ok (.iadd, 1) := by decide +kernel
theorem dX5_countOf_45 : decode cX5_countOf 45 = .ok (.iconst 1, 1) := by decide +kernel
theorem dX5_countOf_46 : decode cX5_countOf 46 = .ok (.isub, 1) := by decide +kernel
theorem dX5_countOf_47 : decode cX5_countOf 47 = .ok (.iaload, 1) := by decide +kernel
theorem dX5_countOf_48 : decode cX5_countOf 48 = .ok (.ireturn, 1) := by decide +kernel
theorem dX5_count_0 : decode cX5_count 0 = .ok (.iload_n 1, 1) := by decide +kernel
theorem dX5_count_1 : decode cX5_count 1 = .ok (.iconst 0, 1) := by decide +kernel
theorem dX5_count_2 : decode cX5_count 2 = .ok (.bipush 6, 2) := by decide +kernel
theorem dX5_count_4 : decode cX5_count 4 = .ok (.invokestatic 30, 3) := by decide +kernel
theorem dX5_count_7 : decode cX5_count 7 = .ok (.ifCond .eq 11, 3) := by decide +kernel
theorem dX5_count_10 : decode cX5_count 10 = .ok (.aload_n 0, 1) := by decide +kernel
theorem dX5_count_11 : decode cX5_count 11 = .ok (.iload_n 1, 1) := by decide +kernel
theorem dX5_count_12 : decode cX5_count 12 = .ok (.invokevirtual 125, 3) := by decide +kernel
theorem dX5_count_15 : decode cX5_count 15 = .ok (.goto 5, 3) := by decide +kernel
theorem dX5_count_18 : decode cX5_count 18 = .ok (.bipush (-2), 2) := by decide +kernel
theorem dX5_count_20 : decode cX5_count 20 = .ok (.ireturn, 1) := by decide +kernel
theorem dX5_setting_0 : decode cX5_setting 0 = .ok (.iload_n 1, 1) := by decide +kernel
theorem dX5_setting_1 : decode cX5_setting 1 = .ok (.invokestatic 115, 3) := by decide +kernel
theorem dX5_setting_4 : decode cX5_setting 4 = .ok (.ifCond .eq 14, 3) := by decide +kernel
theorem dX5_setting_7 : decode cX5_setting 7 = .ok (.aload_n 0, 1) := by decide +kernel
theorem dX5_setting_8 : decode cX5_setting 8 = .ok (.getfield 7, 3) := by decide +kernel
theorem dX5_setting_11 : decode cX5_setting 11 = .ok (.iconst 5, 1) := by decide +kernel
theorem dX5_setting_12 : decode cX5_setting 12 = .ok (.iload_n 1, 1) := by decide +kernel
theorem dX5_setting_13 : decode cX5_setting 13 = .ok (.iadd, 1) := by decide +kernel
theorem dX5_setting_14 : decode cX5_setting 14 = .ok (.iaload, 1) := by decide +kernel
theorem dX5_setting_15 : decode cX5_setting 15 = .ok (.goto 4, 3) := by decide +kernel
theorem dX5_setting_18 : decode cX5_setting 18 = .ok (.iconst (-1), 1) := by decide +kernel
theorem dX5_setting_19 : decode cX5_setting 19 = .ok (.ireturn, 1) := by decide +kernel
theorem dX5_weight_0 : decode cX5_weight 0 = .ok (.aload_n 0, 1) := by decide +kernel
theorem dX5_weight_1 : decode cX5_weight 1 = .ok (.iload_n 1, 1) := by decide +kernel
theorem dX5_weight_2 : decode cX5_weight 2 = .ok (.invokevirtual 45, 3) := by decide +kernel
theorem dX5_weight_5 : decode cX5_weight 5 = .ok (.ifCond .eq 27, 3) := by decide +kernel
theorem dX5_weight_8 : decode cX5_weight 8 = .ok (.iload_n 2, 1) := by decide +kernel
theorem dX5_weight_9 : decode cX5_weight 9 = .ok (.invokestatic 80, 3) := by decide +kernel
theorem dX5_weight_12 : decode cX5_weight 12 = .ok (.ifCond .eq 20, 3) := by decide +kernel
theorem dX5_weight_15 : decode cX5_weight 15 = .ok (.iload_n 3, 1) := by decide +kernel
theorem dX5_weight_16 : decode cX5_weight 16 = .ok (.invokestatic 119, 3) := by decide +kernel
theorem dX5_weight_19 : decode cX5_weight 19 = .ok (.ifCond .eq 13, 3) := by decide +kernel
theorem dX5_weight_22 : decode cX5_weight 22 = .ok (.aload_n 0, 1) := by decide +kernel
theorem dX5_weight_23 : decode cX5_weight 23 = .ok (.iload_n 1, 1) := by decide +kernel
theorem dX5_weight_24 : decode cX5_weight 24 = .ok (.iload_n 2, 1) := by decide +kernel
theorem dX5_weight_25 : decode cX5_weight 25 = .ok (.iload_n 3, 1) := by decide +kernel
theorem dX5_weight_26 : decode cX5_weight 26 = .ok (.invokevirtual 42, 3) := by decide +kernel
theorem dX5_weight_29 : decode cX5_weight 29 = .ok (.goto 4, 3) := by decide +kernel
theorem dX5_weight_32 : decode cX5_weight 32 = .ok (.iconst (-1), 1) := by decide +kernel
theorem dX5_weight_33 : decode cX5_weight 33 = .ok (.ireturn, 1) := by decide +kernel
theorem dX5_wordsOf_0 : decode cX5_wordsOf 0 = .ok (.iconst 0, 1) := by decide +kernel
theorem dX5_wordsOf_1 : decode cX5_wordsOf 1 = .ok (.istore_n 2, 1) := by decide +kernel
theorem dX5_wordsOf_2 : decode cX5_wordsOf 2 = .ok (.iconst 0, 1) := by decide +kernel
theorem dX5_wordsOf_3 : decode cX5_wordsOf 3 = .ok (.istore_n 3, 1) := by decide +kernel
theorem dX5_wordsOf_4 : decode cX5_wordsOf 4 = .ok (.iload_n 3, 1) := by decide +kernel
theorem dX5_wordsOf_5 : decode cX5_wordsOf 5 = .ok (.bipush 6, 2) := by decide +kernel
theorem dX5_wordsOf_7 : decode cX5_wordsOf 7 = .ok (.if_icmp .ge 28, 3) := by decide +kernel
theorem dX5_wordsOf_10 : decode cX5_wordsOf 10 = .ok (.iload_n 2, 1) := by decide +kernel
theorem dX5_wordsOf_11 : decode cX5_wordsOf 11 = .ok (.aload_n 0, 1) := by decide +kernel
theorem dX5_wordsOf_12 : decode cX5_wordsOf 12 = .ok (.iload_n 1, 1) := by decide +kernel
theorem dX5_wordsOf_13 : decode cX5_wordsOf 13 = .ok (.iload_n 3, 1) := by decide +kernel
theorem dX5_wordsOf_14 : decode cX5_wordsOf 14 = .ok (.invokevirtual 58, 3) := by decide +kernel
theorem dX5_wordsOf_17 : decode cX5_wordsOf 17 = .ok (.bipush (-6), 2) := by decide +kernel
theorem dX5_wordsOf_19 : decode cX5_wordsOf 19 = .ok (.if_icmp .ne 7, 3) := by decide +kernel
theorem dX5_wordsOf_22 : decode cX5_wordsOf 22 = .ok (.iconst 0, 1) := by decide +kernel
theorem dX5_wordsOf_23 : decode cX5_wordsOf 23 = .ok (.goto 4, 3) := by decide +kernel
theorem dX5_wordsOf_26 : decode cX5_wordsOf 26 = .ok (.iconst 1, 1) := by decide +kernel
theorem dX5_wordsOf_27 : decode cX5_wordsOf 27 = .ok (.iadd, 1) := by decide +kernel
theorem dX5_wordsOf_28 : decode cX5_wordsOf 28 = .ok (.istore_n 2, 1) := by decide +kernel
theorem dX5_wordsOf_29 : decode cX5_wordsOf 29 = .ok (.iinc 3 1, 3) := by decide +kernel
theorem dX5_wordsOf_32 : decode cX5_wordsOf 32 = .ok (.goto (-28), 3) := by decide +kernel
theorem dX5_wordsOf_35 : decode cX5_wordsOf 35 = .ok (.iload_n 2, 1) := by decide +kernel
theorem dX5_wordsOf_36 : decode cX5_wordsOf 36 = .ok (.ireturn, 1) := by decide +kernel
theorem dX5_confusions_0 : decode cX5_confusions 0 = .ok (.iconst 0, 1) := by decide +kernel
theorem dX5_confusions_1 : decode cX5_confusions 1 = .ok (.istore_n 2, 1) := by decide +kernel
theorem dX5_confusions_2 : decode cX5_confusions 2 = .ok (.iconst 0, 1) := by decide +kernel
theorem dX5_confusions_3 : decode cX5_confusions 3 = .ok (.istore_n 3, 1) := by decide +kernel
theorem dX5_confusions_4 : decode cX5_confusions 4 = .ok (.iload_n 3, 1) := by decide +kernel
theorem dX5_confusions_5 : decode cX5_confusions 5 = .ok (.bipush 6, 2) := by decide +kernel
theorem dX5_confusions_7 : decode cX5_confusions 7 = .ok (.if_icmp .ge 59, 3) := by decide +kernel
theorem dX5_confusions_10 : decode cX5_confusions 10 = .ok (.iconst 0, 1) := by decide +kernel
theorem dX5_confusions_11 : decode cX5_confusions 11 = .ok (.istore 4, 2) := by decide +kernel
theorem dX5_confusions_13 : decode cX5_confusions 13 = .ok (.iload 4, 2) := by decide +kernel
theorem dX5_confusions_15 : decode cX5_confusions 15 = .ok (.iload_n 3, 1) := by decide +kernel
theorem dX5_confusions_16 : decode cX5_confusions 16 = .ok (.if_icmp .ge 44, 3) := by decide +kernel
theorem dX5_confusions_19 : decode cX5_confusions 19 = .ok (.iload_n 2, 1) := by decide +kernel
theorem dX5_confusions_20 : decode cX5_confusions 20 = .ok (.aload_n 0, 1) := by decide +kernel
theorem dX5_confusions_21 : decode cX5_confusions 21 = .ok (.iload_n 1, 1) := by decide +kernel
theorem dX5_confusions_22 : decode cX5_confusions 22 = .ok (.iload_n 3, 1) := by decide +kernel
theorem dX5_confusions_23 : decode cX5_confusions 23 = .ok (.invokevirtual 58, 3) := by decide +kernel
theorem dX5_confusions_26 : decode cX5_confusions 26 = .ok (.bipush (-6), 2) := by decide +kernel
theorem dX5_confusions_28 : decode cX5_confusions 28 = .ok (.if_icmp .eq 23, 3) := by decide +kernel
theorem dX5_confusions_31 : decode cX5_confusions 31 = .ok (.aload_n 0, 1) := by decide +kernel
theorem dX5_confusions_32 : decode cX5_confusions 32 = .ok (.iload_n 1, 1) := by decide +kernel
theorem dX5_confusions_33 : decode cX5_confusions 33 = .ok (.iload_n 3, 1) := by decide +kernel
theorem dX5_confusions_34 : decode cX5_confusions 34 = .ok (.invokevirtual 58, 3) := by decide +kernel
theorem dX5_confusions_37 : decode cX5_confusions 37 = .ok (.aload_n 0, 1) := by decide +kernel
theorem dX5_confusions_38 : decode cX5_confusions 38 = .ok (.iload_n 1, 1) := by decide +kernel
theorem dX5_confusions_39 : decode cX5_confusions 39 = .ok (.iload 4, 2) := by decide +kernel
theorem dX5_confusions_41 : decode cX5_confusions 41 = .ok (.invokevirtual 58, 3) := by decide +kernel
theorem dX5_confusions_44 : decode cX5_confusions 44 = .ok (.if_icmp .ne 7, 3) := by decide +kernel
theorem dX5_confusions_47 : decode cX5_confusions 47 = .ok (.iconst 1, 1) := by decide +kernel
theorem dX5_confusions_48 : decode cX5_confusions 48 = .ok (.goto 4, 3) := by decide +kernel
theorem dX5_confusions_51 : decode cX5_confusions 51 = .ok (.iconst 0, 1) := by decide +kernel
theorem dX5_confusions_52 : decode cX5_confusions 52 = .ok (.iadd, 1) := by decide +kernel
theorem dX5_confusions_53 : decode cX5_confusions 53 = .ok (.istore_n 2, 1) := by decide +kernel
theorem dX5_confusions_54 : decode cX5_confusions 54 = .ok (.iinc 4 1, 3) := by decide +kernel
theorem dX5_confusions_57 : decode cX5_confusions 57 = .ok (.goto (-44), 3) := by decide +kernel
theorem dX5_confusions_60 : decode cX5_confusions 60 = .ok (.iinc 3 1, 3) := by decide +kernel
theorem dX5_confusions_63 : decode cX5_confusions 63 = .ok (.goto (-59), 3) := by decide +kernel
theorem dX5_confusions_66 : decode cX5_confusions 66 = .ok (.iload_n 2, 1) := by decide +kernel
theorem dX5_confusions_67 : decode cX5_confusions 67 = .ok (.ireturn, 1) := by decide +kernel
theorem dX5_ofSpeaker_0 : decode cX5_ofSpeaker 0 = .ok (.iload_n 2, 1) := by decide +kernel
theorem dX5_ofSpeaker_1 : decode cX5_ofSpeaker 1 = .ok (.ifCond .ne 12, 3) := by decide +kernel
theorem dX5_ofSpeaker_4 : decode cX5_ofSpeaker 4 = .ok (.aload_n 0, 1) := by decide +kernel
theorem dX5_ofSpeaker_5 : decode cX5_ofSpeaker 5 = .ok (.iload_n 1, 1) := by decide +kernel
theorem dX5_ofSpeaker_6 : decode cX5_ofSpeaker 6 = .ok (.iconst 1, 1) := by decide +kernel
theorem dX5_ofSpeaker_7 : decode cX5_ofSpeaker 7 = .ok (.invokevirtual 34, 3) := by decide +kernel
theorem dX5_ofSpeaker_10 : decode cX5_ofSpeaker 10 = .ok (.goto 48, 3) := by decide +kernel
theorem dX5_ofSpeaker_13 : decode cX5_ofSpeaker 13 = .ok (.iload_n 2, 1) := by decide +kernel
theorem dX5_ofSpeaker_14 : decode cX5_ofSpeaker 14 = .ok (.iconst 1, 1) := by decide +kernel
theorem dX5_ofSpeaker_15 : decode cX5_ofSpeaker 15 = .ok (.if_icmp .ne 11, 3) := by decide +kernel
theorem dX5_ofSpeaker_18 : decode cX5_ofSpeaker 18 = .ok (.aload_n 0, 1) := by decide +kernel
theorem dX5_ofSpeaker_19 : decode cX5_ofSpeaker 19 = .ok (.iload_n 1, 1) := by decide +kernel
theorem dX5_ofSpeaker_20 : decode cX5_ofSpeaker 20 = .ok (.invokevirtual 50, 3) := by decide +kernel
theorem dX5_ofSpeaker_23 : decode cX5_ofSpeaker 23 = .ok (.goto 35, 3) := by decide +kernel
theorem dX5_ofSpeaker_26 : decode cX5_ofSpeaker 26 = .ok (.iload_n 2, 1) := by decide +kernel
theorem dX5_ofSpeaker_27 : decode cX5_ofSpeaker 27 = .ok (.iconst 2, 1) := by decide +kernel
theorem dX5_ofSpeaker_28 : decode cX5_ofSpeaker 28 = .ok (.if_icmp .ne 11, 3) := by decide +kernel
theorem dX5_ofSpeaker_31 : decode cX5_ofSpeaker 31 = .ok (.aload_n 0, 1) := by decide +kernel
theorem dX5_ofSpeaker_32 : decode cX5_ofSpeaker 32 = .ok (.iload_n 1, 1) := by decide +kernel
theorem dX5_ofSpeaker_33 : decode cX5_ofSpeaker 33 = .ok (.invokevirtual 128, 3) := by decide +kernel
theorem dX5_ofSpeaker_36 : decode cX5_ofSpeaker 36 = .ok (.goto 22, 3) := by decide +kernel
theorem dX5_ofSpeaker_39 : decode cX5_ofSpeaker 39 = .ok (.iload_n 2, 1) := by decide +kernel
theorem dX5_ofSpeaker_40 : decode cX5_ofSpeaker 40 = .ok (.iconst 3, 1) := by decide +kernel
theorem dX5_ofSpeaker_41 : decode cX5_ofSpeaker 41 = .ok (.if_icmp .ne 11, 3) := by decide +kernel
theorem dX5_ofSpeaker_44 : decode cX5_ofSpeaker 44 = .ok (.aload_n 0, 1) := by decide +kernel
theorem dX5_ofSpeaker_45 : decode cX5_ofSpeaker 45 = .ok (.iload_n 1, 1) := by decide +kernel
theorem dX5_ofSpeaker_46 : decode cX5_ofSpeaker 46 = .ok (.invokevirtual 131, 3) := by decide +kernel
theorem dX5_ofSpeaker_49 : decode cX5_ofSpeaker 49 = .ok (.goto 9, 3) := by decide +kernel
theorem dX5_ofSpeaker_52 : decode cX5_ofSpeaker 52 = .ok (.aload_n 0, 1) := by decide +kernel
theorem dX5_ofSpeaker_53 : decode cX5_ofSpeaker 53 = .ok (.iload_n 1, 1) := by decide +kernel
theorem dX5_ofSpeaker_54 : decode cX5_ofSpeaker 54 = .ok (.iconst 2, 1) := by decide +kernel
theorem dX5_ofSpeaker_55 : decode cX5_ofSpeaker 55 = .ok (.invokevirtual 34, 3) := by decide +kernel
theorem dX5_ofSpeaker_58 : decode cX5_ofSpeaker 58 = .ok (.ireturn, 1) := by decide +kernel
theorem dX5_speaker_0 : decode cX5_speaker 0 = .ok (.aload_n 0, 1) := by decide +kernel
theorem dX5_speaker_1 : decode cX5_speaker 1 = .ok (.iload_n 1, 1) := by decide +kernel
theorem dX5_speaker_2 : decode cX5_speaker 2 = .ok (.invokevirtual 45, 3) := by decide +kernel
theorem dX5_speaker_5 : decode cX5_speaker 5 = .ok (.ifCond .ne 5, 3) := by decide +kernel
theorem dX5_speaker_8 : decode cX5_speaker 8 = .ok (.iconst (-1), 1) := by decide +kernel
theorem dX5_speaker_9 : decode cX5_speaker 9 = .ok (.ireturn, 1) := by decide +kernel
theorem dX5_speaker_10 : decode cX5_speaker 10 = .ok (.iload_n 2, 1) := by decide +kernel
theorem dX5_speaker_11 : decode cX5_speaker 11 = .ok (.iconst 0, 1) := by decide +kernel
theorem dX5_speaker_12 : decode cX5_speaker 12 = .ok (.iconst 4, 1) := by decide +kernel
theorem dX5_speaker_13 : decode cX5_speaker 13 = .ok (.invokestatic 30, 3) := by decide +kernel
theorem dX5_speaker_16 : decode cX5_speaker 16 = .ok (.ifCond .eq 12, 3) := by decide +kernel
theorem dX5_speaker_19 : decode cX5_speaker 19 = .ok (.aload_n 0, 1) := by decide +kernel
theorem dX5_speaker_20 : decode cX5_speaker 20 = .ok (.iload_n 1, 1) := by decide +kernel
theorem dX5_speaker_21 : decode cX5_speaker 21 = .ok (.iload_n 2, 1) := by decide +kernel
theorem dX5_speaker_22 : decode cX5_speaker 22 = .ok (.invokevirtual 134, 3) := by decide +kernel
theorem dX5_speaker_25 : decode cX5_speaker 25 = .ok (.goto 5, 3) := by decide +kernel
theorem dX5_speaker_28 : decode cX5_speaker 28 = .ok (.bipush (-2), 2) := by decide +kernel
theorem dX5_speaker_30 : decode cX5_speaker 30 = .ok (.ireturn, 1) := by decide +kernel
theorem dX5_wordOf_0 : decode cX5_wordOf 0 = .ok (.aload_n 0, 1) := by decide +kernel
theorem dX5_wordOf_1 : decode cX5_wordOf 1 = .ok (.iload_n 1, 1) := by decide +kernel
theorem dX5_wordOf_2 : decode cX5_wordOf 2 = .ok (.invokevirtual 45, 3) := by decide +kernel
theorem dX5_wordOf_5 : decode cX5_wordOf 5 = .ok (.ifCond .eq 19, 3) := by decide +kernel
theorem dX5_wordOf_8 : decode cX5_wordOf 8 = .ok (.iload_n 2, 1) := by decide +kernel
theorem dX5_wordOf_9 : decode cX5_wordOf 9 = .ok (.invokestatic 80, 3) := by decide +kernel
theorem dX5_wordOf_12 : decode cX5_wordOf 12 = .ok (.ifCond .eq 12, 3) := by decide +kernel
theorem dX5_wordOf_15 : decode cX5_wordOf 15 = .ok (.aload_n 0, 1) := by decide +kernel
theorem dX5_wordOf_16 : decode cX5_wordOf 16 = .ok (.iload_n 1, 1) := by decide +kernel
theorem dX5_wordOf_17 : decode cX5_wordOf 17 = .ok (.iload_n 2, 1) := by decide +kernel
theorem dX5_wordOf_18 : decode cX5_wordOf 18 = .ok (.invokevirtual 58, 3) := by decide +kernel
theorem dX5_wordOf_21 : decode cX5_wordOf 21 = .ok (.goto 4, 3) := by decide +kernel
theorem dX5_wordOf_24 : decode cX5_wordOf 24 = .ok (.iconst (-1), 1) := by decide +kernel
theorem dX5_wordOf_25 : decode cX5_wordOf 25 = .ok (.ireturn, 1) := by decide +kernel
theorem dX5_hears_0 : decode cX5_hears 0 = .ok (.aload_n 0, 1) := by decide +kernel
theorem dX5_hears_1 : decode cX5_hears 1 = .ok (.iload_n 1, 1) := by decide +kernel
theorem dX5_hears_2 : decode cX5_hears 2 = .ok (.invokevirtual 45, 3) := by decide +kernel
theorem dX5_hears_5 : decode cX5_hears 5 = .ok (.ifCond .eq 19, 3) := by decide +kernel
theorem dX5_hears_8 : decode cX5_hears 8 = .ok (.iload_n 2, 1) := by decide +kernel
theorem dX5_hears_9 : decode cX5_hears 9 = .ok (.invokestatic 119, 3) := by decide +kernel
theorem dX5_hears_12 : decode cX5_hears 12 = .ok (.ifCond .eq 12, 3) := by decide +kernel
theorem dX5_hears_15 : decode cX5_hears 15 = .ok (.aload_n 0, 1) := by decide +kernel
theorem dX5_hears_16 : decode cX5_hears 16 = .ok (.iload_n 1, 1) := by decide +kernel
theorem dX5_hears_17 : decode cX5_hears 17 = .ok (.iload_n 2, 1) := by decide +kernel
theorem dX5_hears_18 : decode cX5_hears 18 = .ok (.invokevirtual 67, 3) := by decide +kernel
theorem dX5_hears_21 : decode cX5_hears 21 = .ok (.goto 4, 3) := by decide +kernel
theorem dX5_hears_24 : decode cX5_hears 24 = .ok (.iconst (-1), 1) := by decide +kernel
theorem dX5_hears_25 : decode cX5_hears 25 = .ok (.ireturn, 1) := by decide +kernel
theorem dX5_gesture_0 : decode cX5_gesture 0 = .ok (.iload_n 1, 1) := by decide +kernel
theorem dX5_gesture_1 : decode cX5_gesture 1 = .ok (.invokestatic 119, 3) := by decide +kernel
theorem dX5_gesture_4 : decode cX5_gesture 4 = .ok (.ifCond .ne 5, 3) := by decide +kernel
theorem dX5_gesture_7 : decode cX5_gesture 7 = .ok (.iconst (-1), 1) := by decide +kernel
theorem dX5_gesture_8 : decode cX5_gesture 8 = .ok (.ireturn, 1) := by decide +kernel
theorem dX5_gesture_9 : decode cX5_gesture 9 = .ok (.iload_n 1, 1) := by decide +kernel
theorem dX5_gesture_10 : decode cX5_gesture 10 = .ok (.iconst 2, 1) := by decide +kernel
theorem dX5_gesture_11 : decode cX5_gesture 11 = .ok (.if_icmp .ge 7, 3) := by decide +kernel
theorem dX5_gesture_14 : decode cX5_gesture 14 = .ok (.iconst 1, 1) := by decide +kernel
theorem dX5_gesture_15 : decode cX5_gesture 15 = .ok (.goto 14, 3) := by decide +kernel
theorem dX5_gesture_18 : decode cX5_gesture 18 = .ok (.iload_n 1, 1) := by decide +kernel
theorem dX5_gesture_19 : decode cX5_gesture 19 = .ok (.bipush 6, 2) := by decide +kernel
theorem dX5_gesture_21 : decode cX5_gesture 21 = .ok (.if_icmp .ge 7, 3) := by decide +kernel
theorem dX5_gesture_24 : decode cX5_gesture 24 = .ok (.iconst 2, 1) := by decide +kernel
theorem dX5_gesture_25 : decode cX5_gesture 25 = .ok (.goto 4, 3) := by decide +kernel
theorem dX5_gesture_28 : decode cX5_gesture 28 = .ok (.iconst 3, 1) := by decide +kernel
theorem dX5_gesture_29 : decode cX5_gesture 29 = .ok (.istore_n 3, 1) := by decide +kernel
theorem dX5_gesture_30 : decode cX5_gesture 30 = .ok (.iload_n 1, 1) := by decide +kernel
theorem dX5_gesture_31 : decode cX5_gesture 31 = .ok (.iconst 2, 1) := by decide +kernel
theorem dX5_gesture_32 : decode cX5_gesture 32 = .ok (.if_icmp .ge 7, 3) := by decide +kernel
theorem dX5_gesture_35 : decode cX5_gesture 35 = .ok (.iload_n 1, 1) := by decide +kernel
theorem dX5_gesture_36 : decode cX5_gesture 36 = .ok (.goto 19, 3) := by decide +kernel
theorem dX5_gesture_39 : decode cX5_gesture 39 = .ok (.iload_n 1, 1) := by decide +kernel
theorem dX5_gesture_40 : decode cX5_gesture 40 = .ok (.bipush 6, 2) := by decide +kernel
theorem dX5_gesture_42 : decode cX5_gesture 42 = .ok (.if_icmp .ge 9, 3) := by decide +kernel
theorem dX5_gesture_45 : decode cX5_gesture 45 = .ok (.iload_n 1, 1) := by decide +kernel
theorem dX5_gesture_46 : decode cX5_gesture 46 = .ok (.iconst 2, 1) := by decide +kernel
theorem dX5_gesture_47 : decode cX5_gesture 47 = .ok (.isub, 1) := by decide +kernel
theorem dX5_gesture_48 : decode cX5_gesture 48 = .ok (.goto 7, 3) := by decide +kernel
theorem dX5_gesture_51 : decode cX5_gesture 51 = .ok (.iload_n 1, 1) := by decide +kernel
theorem dX5_gesture_52 : decode cX5_gesture 52 = .ok (.bipush 6, 2) := by decide +kernel
theorem dX5_gesture_54 : decode cX5_gesture 54 = .ok (.isub, 1) := by decide +kernel
theorem dX5_gesture_55 : decode cX5_gesture 55 = .ok (.istore 4, 2) := by decide +kernel
theorem dX5_gesture_57 : decode cX5_gesture 57 = .ok (.iload_n 2, 1) := by decide +kernel
theorem dX5_gesture_58 : decode cX5_gesture 58 = .ok (.iconst 0, 1) := by decide +kernel
theorem dX5_gesture_59 : decode cX5_gesture 59 = .ok (.iload_n 3, 1) := by decide +kernel
theorem dX5_gesture_60 : decode cX5_gesture 60 = .ok (.iconst 1, 1) := by decide +kernel
theorem dX5_gesture_61 : decode cX5_gesture 61 = .ok (.isub, 1) := by decide +kernel
theorem dX5_gesture_62 : decode cX5_gesture 62 = .ok (.invokestatic 30, 3) := by decide +kernel
theorem dX5_gesture_65 : decode cX5_gesture 65 = .ok (.ifCond .ne 6, 3) := by decide +kernel
theorem dX5_gesture_68 : decode cX5_gesture 68 = .ok (.bipush (-6), 2) := by decide +kernel
theorem dX5_gesture_70 : decode cX5_gesture 70 = .ok (.ireturn, 1) := by decide +kernel
theorem dX5_gesture_71 : decode cX5_gesture 71 = .ok (.iload 4, 2) := by decide +kernel
theorem dX5_gesture_73 : decode cX5_gesture 73 = .ok (.iload_n 3, 1) := by decide +kernel
theorem dX5_gesture_74 : decode cX5_gesture 74 = .ok (.iconst 1, 1) := by decide +kernel
theorem dX5_gesture_75 : decode cX5_gesture 75 = .ok (.isub, 1) := by decide +kernel
theorem dX5_gesture_76 : decode cX5_gesture 76 = .ok (.iload_n 2, 1) := by decide +kernel
theorem dX5_gesture_77 : decode cX5_gesture 77 = .ok (.isub, 1) := by decide +kernel
theorem dX5_gesture_78 : decode cX5_gesture 78 = .ok (.ishr, 1) := by decide +kernel
theorem dX5_gesture_79 : decode cX5_gesture 79 = .ok (.iconst 1, 1) := by decide +kernel
theorem dX5_gesture_80 : decode cX5_gesture 80 = .ok (.iand, 1) := by decide +kernel
theorem dX5_gesture_81 : decode cX5_gesture 81 = .ok (.ifCond .ne 8, 3) := by decide +kernel
theorem dX5_gesture_84 : decode cX5_gesture 84 = .ok (.bipush 119, 2) := by decide +kernel
theorem dX5_gesture_86 : decode cX5_gesture 86 = .ok (.goto 5, 3) := by decide +kernel
theorem dX5_gesture_89 : decode cX5_gesture 89 = .ok (.bipush 110, 2) := by decide +kernel
theorem dX5_gesture_91 : decode cX5_gesture 91 = .ok (.ireturn, 1) := by decide +kernel
theorem dX5_agreements_0 : decode cX5_agreements 0 = .ok (.iconst 0, 1) := by decide +kernel
theorem dX5_agreements_1 : decode cX5_agreements 1 = .ok (.istore_n 3, 1) := by decide +kernel
theorem dX5_agreements_2 : decode cX5_agreements 2 = .ok (.iconst 0, 1) := by decide +kernel
theorem dX5_agreements_3 : decode cX5_agreements 3 = .ok (.istore 4, 2) := by decide +kernel
theorem dX5_agreements_5 : decode cX5_agreements 5 = .ok (.iload 4, 2) := by decide +kernel
theorem dX5_agreements_7 : decode cX5_agreements 7 = .ok (.bipush 6, 2) := by decide +kernel
theorem dX5_agreements_9 : decode cX5_agreements 9 = .ok (.if_icmp .ge 46, 3) := by decide +kernel
theorem dX5_agreements_12 : decode cX5_agreements 12 = .ok (.iload_n 3, 1) := by decide +kernel
theorem dX5_agreements_13 : decode cX5_agreements 13 = .ok (.aload_n 0, 1) := by decide +kernel
theorem dX5_agreements_14 : decode cX5_agreements 14 = .ok (.iload_n 1, 1) := by decide +kernel
theorem dX5_agreements_15 : decode cX5_agreements 15 = .ok (.iload 4, 2) := by decide +kernel
theorem dX5_agreements_17 : decode cX5_agreements 17 = .ok (.invokevirtual 58, 3) := by decide +kernel
theorem dX5_agreements_20 : decode cX5_agreements 20 = .ok (.bipush (-6), 2) := by decide +kernel
theorem dX5_agreements_22 : decode cX5_agreements 22 = .ok (.if_icmp .eq 24, 3) := by decide +kernel
theorem dX5_agreements_25 : decode cX5_agreements 25 = .ok (.aload_n 0, 1) := by decide +kernel
theorem dX5_agreements_26 : decode cX5_agreements 26 = .ok (.iload_n 1, 1) := by decide +kernel
theorem dX5_agreements_27 : decode cX5_agreements 27 = .ok (.iload 4, 2) := by decide +kernel
theorem dX5_agreements_29 : decode cX5_agreements 29 = .ok (.invokevirtual 58, 3) := by decide +kernel
theorem dX5_agreements_32 : decode cX5_agreements 32 = .ok (.aload_n 0, 1) := by decide +kernel
theorem dX5_agreements_33 : decode cX5_agreements 33 = .ok (.iload_n 2, 1) := by decide +kernel
theorem dX5_agreements_34 : decode cX5_agreements 34 = .ok (.iload 4, 2) := by decide +kernel
theorem dX5_agreements_36 : decode cX5_agreements 36 = .ok (.invokevirtual 58, 3) := by decide +kernel
theorem dX5_agreements_39 : decode cX5_agreements 39 = .ok (.if_icmp .ne 7, 3) := by decide +kernel
theorem dX5_agreements_42 : decode cX5_agreements 42 = .ok (.iconst 1, 1) := by decide +kernel
theorem dX5_agreements_43 : decode cX5_agreements 43 = .ok (.goto 4, 3) := by decide +kernel
theorem dX5_agreements_46 : decode cX5_agreements 46 = .ok (.iconst 0, 1) := by decide +kernel
theorem dX5_agreements_47 : decode cX5_agreements 47 = .ok (.iadd, 1) := by decide +kernel
theorem dX5_agreements_48 : decode cX5_agreements 48 = .ok (.istore_n 3, 1) := by decide +kernel
theorem dX5_agreements_49 : decode cX5_agreements 49 = .ok (.iinc 4 1, 3) := by decide +kernel
theorem dX5_agreements_52 : decode cX5_agreements 52 = .ok (.goto (-47), 3) := by decide +kernel
theorem dX5_agreements_55 : decode cX5_agreements 55 = .ok (.iload_n 3, 1) := by decide +kernel
theorem dX5_agreements_56 : decode cX5_agreements 56 = .ok (.ireturn, 1) := by decide +kernel
theorem dX5_agreement_0 : decode cX5_agreement 0 = .ok (.aload_n 0, 1) := by decide +kernel
theorem dX5_agreement_1 : decode cX5_agreement 1 = .ok (.iload_n 1, 1) := by decide +kernel
theorem dX5_agreement_2 : decode cX5_agreement 2 = .ok (.invokevirtual 45, 3) := by decide +kernel
theorem dX5_agreement_5 : decode cX5_agreement 5 = .ok (.ifCond .eq 11, 3) := by decide +kernel
theorem dX5_agreement_8 : decode cX5_agreement 8 = .ok (.aload_n 0, 1) := by decide +kernel
theorem dX5_agreement_9 : decode cX5_agreement 9 = .ok (.iload_n 2, 1) := by decide +kernel
theorem dX5_agreement_10 : decode cX5_agreement 10 = .ok (.invokevirtual 45, 3) := by decide +kernel
theorem dX5_agreement_13 : decode cX5_agreement 13 = .ok (.ifCond .ne 5, 3) := by decide +kernel
theorem dX5_agreement_16 : decode cX5_agreement 16 = .ok (.iconst (-1), 1) := by decide +kernel
theorem dX5_agreement_17 : decode cX5_agreement 17 = .ok (.ireturn, 1) := by decide +kernel
theorem dX5_agreement_18 : decode cX5_agreement 18 = .ok (.iload_n 3, 1) := by decide +kernel
theorem dX5_agreement_19 : decode cX5_agreement 19 = .ok (.iconst 0, 1) := by decide +kernel
theorem dX5_agreement_20 : decode cX5_agreement 20 = .ok (.iconst 1, 1) := by decide +kernel
theorem dX5_agreement_21 : decode cX5_agreement 21 = .ok (.invokestatic 30, 3) := by decide +kernel
theorem dX5_agreement_24 : decode cX5_agreement 24 = .ok (.ifCond .eq 12, 3) := by decide +kernel
theorem dX5_agreement_27 : decode cX5_agreement 27 = .ok (.aload_n 0, 1) := by decide +kernel
theorem dX5_agreement_28 : decode cX5_agreement 28 = .ok (.iload_n 1, 1) := by decide +kernel
theorem dX5_agreement_29 : decode cX5_agreement 29 = .ok (.iload_n 2, 1) := by decide +kernel
theorem dX5_agreement_30 : decode cX5_agreement 30 = .ok (.invokevirtual 137, 3) := by decide +kernel
theorem dX5_agreement_33 : decode cX5_agreement 33 = .ok (.goto 5, 3) := by decide +kernel
theorem dX5_agreement_36 : decode cX5_agreement 36 = .ok (.bipush (-2), 2) := by decide +kernel
theorem dX5_agreement_38 : decode cX5_agreement 38 = .ok (.ireturn, 1) := by decide +kernel
theorem dX5_understood_0 : decode cX5_understood 0 = .ok (.iconst 0, 1) := by decide +kernel
theorem dX5_understood_1 : decode cX5_understood 1 = .ok (.istore_n 3, 1) := by decide +kernel
theorem dX5_understood_2 : decode cX5_understood 2 = .ok (.iconst 0, 1) := by decide +kernel
theorem dX5_understood_3 : decode cX5_understood 3 = .ok (.istore 4, 2) := by decide +kernel
theorem dX5_understood_5 : decode cX5_understood 5 = .ok (.iload 4, 2) := by decide +kernel
theorem dX5_understood_7 : decode cX5_understood 7 = .ok (.bipush 6, 2) := by decide +kernel
theorem dX5_understood_9 : decode cX5_understood 9 = .ok (.if_icmp .ge 46, 3) := by decide +kernel
theorem dX5_understood_12 : decode cX5_understood 12 = .ok (.iload_n 3, 1) := by decide +kernel
theorem dX5_understood_13 : decode cX5_understood 13 = .ok (.aload_n 0, 1) := by decide +kernel
theorem dX5_understood_14 : decode cX5_understood 14 = .ok (.iload_n 1, 1) := by decide +kernel
theorem dX5_understood_15 : decode cX5_understood 15 = .ok (.iload 4, 2) := by decide +kernel
theorem dX5_understood_17 : decode cX5_understood 17 = .ok (.invokevirtual 58, 3) := by decide +kernel
theorem dX5_understood_20 : decode cX5_understood 20 = .ok (.bipush (-6), 2) := by decide +kernel
theorem dX5_understood_22 : decode cX5_understood 22 = .ok (.if_icmp .eq 24, 3) := by decide +kernel
theorem dX5_understood_25 : decode cX5_understood 25 = .ok (.aload_n 0, 1) := by decide +kernel
theorem dX5_understood_26 : decode cX5_understood 26 = .ok (.iload_n 2, 1) := by decide +kernel
theorem dX5_understood_27 : decode cX5_understood 27 = .ok (.aload_n 0, 1) := by decide +kernel
theorem dX5_understood_28 : decode cX5_understood 28 = .ok (.iload_n 1, 1) := by decide +kernel
theorem dX5_understood_29 : decode cX5_understood 29 = .ok (.iload 4, 2) := by decide +kernel
theorem dX5_understood_31 : decode cX5_understood 31 = .ok (.invokevirtual 58, 3) := by decide +kernel
theorem dX5_understood_34 : decode cX5_understood 34 = .ok (.invokevirtual 67, 3) := by decide +kernel
theorem dX5_understood_37 : decode cX5_understood 37 = .ok (.iload 4, 2) := by decide +kernel
theorem dX5_understood_39 : decode cX5_understood 39 = .ok (.if_icmp .ne 7, 3) := by decide +kernel
theorem dX5_understood_42 : decode cX5_understood 42 = .ok (.iconst 1, 1) := by decide +kernel
theorem dX5_understood_43 : decode cX5_understood 43 = .ok (.goto 4, 3) := by decide +kernel
theorem dX5_understood_46 : decode cX5_understood 46 = .ok (.iconst 0, 1) := by decide +kernel
theorem dX5_understood_47 : decode cX5_understood 47 = .ok (.iadd, 1) := by decide +kernel
theorem dX5_understood_48 : decode cX5_understood 48 = .ok (.istore_n 3, 1) := by decide +kernel
theorem dX5_understood_49 : decode cX5_understood 49 = .ok (.iinc 4 1, 3) := by decide +kernel
theorem dX5_understood_52 : decode cX5_understood 52 = .ok (.goto (-47), 3) := by decide +kernel
theorem dX5_understood_55 : decode cX5_understood 55 = .ok (.iload_n 3, 1) := by decide +kernel
theorem dX5_understood_56 : decode cX5_understood 56 = .ok (.ireturn, 1) := by decide +kernel
theorem dX5_understanding_0 : decode cX5_understanding 0 = .ok (.aload_n 0, 1) := by decide +kernel
theorem dX5_understanding_1 : decode cX5_understanding 1 = .ok (.iload_n 1, 1) := by decide +kernel
theorem dX5_understanding_2 : decode cX5_understanding 2 = .ok (.invokevirtual 45, 3) := by decide +kernel
theorem dX5_understanding_5 : decode cX5_understanding 5 = .ok (.ifCond .eq 20, 3) := by decide +kernel
theorem dX5_understanding_8 : decode cX5_understanding 8 = .ok (.aload_n 0, 1) := by decide +kernel
theorem dX5_understanding_9 : decode cX5_understanding 9 = .ok (.iload_n 2, 1) := by decide +kernel
theorem dX5_understanding_10 : decode cX5_understanding 10 = .ok (.invokevirtual 45, 3) := by decide +kernel
theorem dX5_understanding_13 : decode cX5_understanding 13 = .ok (.ifCond .eq 12, 3) := by decide +kernel
theorem dX5_understanding_16 : decode cX5_understanding 16 = .ok (.aload_n 0, 1) := by decide +kernel
theorem dX5_understanding_17 : decode cX5_understanding 17 = .ok (.iload_n 1, 1) := by decide +kernel
theorem dX5_understanding_18 : decode cX5_understanding 18 = .ok (.iload_n 2, 1) := by decide +kernel
theorem dX5_understanding_19 : decode cX5_understanding 19 = .ok (.invokevirtual 140, 3) := by decide +kernel
theorem dX5_understanding_22 : decode cX5_understanding 22 = .ok (.goto 4, 3) := by decide +kernel
theorem dX5_understanding_25 : decode cX5_understanding 25 = .ok (.iconst (-1), 1) := by decide +kernel
theorem dX5_understanding_26 : decode cX5_understanding 26 = .ok (.ireturn, 1) := by decide +kernel
theorem dX5_commonOf_0 : decode cX5_commonOf 0 = .ok (.bipush (-6), 2) := by decide +kernel
theorem dX5_commonOf_2 : decode cX5_commonOf 2 = .ok (.istore_n 2, 1) := by decide +kernel
theorem dX5_commonOf_3 : decode cX5_commonOf 3 = .ok (.iconst 0, 1) := by decide +kernel
theorem dX5_commonOf_4 : decode cX5_commonOf 4 = .ok (.istore_n 3, 1) := by decide +kernel
theorem dX5_commonOf_5 : decode cX5_commonOf 5 = .ok (.iconst 0, 1) := by decide +kernel
theorem dX5_commonOf_6 : decode cX5_commonOf 6 = .ok (.istore 4, 2) := by decide +kernel
theorem dX5_commonOf_8 : decode cX5_commonOf 8 = .ok (.iload 4, 2) := by decide +kernel
theorem dX5_commonOf_10 : decode cX5_commonOf 10 = .ok (.bipush 14, 2) := by decide +kernel
theorem dX5_commonOf_12 : decode cX5_commonOf 12 = .ok (.if_icmp .ge 85, 3) := by decide +kernel
theorem dX5_commonOf_15 : decode cX5_commonOf 15 = .ok (.iconst 0, 1) := by decide +kernel
theorem dX5_commonOf_16 : decode cX5_commonOf 16 = .ok (.istore 5, 2) := by decide +kernel
theorem dX5_commonOf_18 : decode cX5_commonOf 18 = .ok (.iconst 0, 1) := by decide +kernel
theorem dX5_commonOf_19 : decode cX5_commonOf 19 = .ok (.istore 6, 2) := by decide +kernel
theorem dX5_commonOf_21 : decode cX5_commonOf 21 = .ok (.iload 6, 2) := by decide +kernel
theorem dX5_commonOf_23 : decode cX5_commonOf 23 = .ok (.bipush 8, 2) := by decide +kernel
theorem dX5_commonOf_25 : decode cX5_commonOf 25 = .ok (.if_icmp .ge 40, 3) := by decide +kernel
theorem dX5_commonOf_28 : decode cX5_commonOf 28 = .ok (.iload 5, 2) := by decide +kernel
theorem dX5_commonOf_30 : decode cX5_commonOf 30 = .ok (.aload_n 0, 1) := by decide +kernel
theorem dX5_commonOf_31 : decode cX5_commonOf 31 = .ok (.iload 6, 2) := by decide +kernel
theorem dX5_commonOf_33 : decode cX5_commonOf 33 = .ok (.invokevirtual 45, 3) := by decide +kernel
theorem dX5_commonOf_36 : decode cX5_commonOf 36 = .ok (.ifCond .eq 19, 3) := by decide +kernel
theorem dX5_commonOf_39 : decode cX5_commonOf 39 = .ok (.aload_n 0, 1) := by decide +kernel
theorem dX5_commonOf_40 : decode cX5_commonOf 40 = .ok (.iload 6, 2) := by decide +kernel
theorem dX5_commonOf_42 : decode cX5_commonOf 42 = .ok (.iload_n 1, 1) := by decide +kernel
theorem dX5_commonOf_43 : decode cX5_commonOf 43 = .ok (.invokevirtual 58, 3) := by decide +kernel
theorem dX5_commonOf_46 : decode cX5_commonOf 46 = .ok (.iload 4, 2) := by decide +kernel
theorem dX5_commonOf_48 : decode cX5_commonOf 48 = .ok (.if_icmp .ne 7, 3) := by decide +kernel
theorem dX5_commonOf_51 : decode cX5_commonOf 51 = .ok (.iconst 1, 1) := by decide +kernel
theorem dX5_commonOf_52 : decode cX5_commonOf 52 = .ok (.goto 4, 3) := by decide +kernel
theorem dX5_commonOf_55 : decode cX5_commonOf 55 = .ok (.iconst 0, 1) := by decide +kernel
theorem dX5_commonOf_56 : decode cX5_commonOf 56 = .ok (.iadd, 1) := by decide +kernel
theorem dX5_commonOf_57 : decode cX5_commonOf 57 = .ok (.istore 5, 2) := by decide +kernel
theorem dX5_commonOf_59 : decode cX5_commonOf 59 = .ok (.iinc 6 1, 3) := by decide +kernel
theorem dX5_commonOf_62 : decode cX5_commonOf 62 = .ok (.goto (-41), 3) := by decide +kernel
theorem dX5_commonOf_65 : decode cX5_commonOf 65 = .ok (.iload 5, 2) := by decide +kernel
theorem dX5_commonOf_67 : decode cX5_commonOf 67 = .ok (.iload_n 3, 1) := by decide +kernel
theorem dX5_commonOf_68 : decode cX5_commonOf 68 = .ok (.if_icmp .le 8, 3) := by decide +kernel
theorem dX5_commonOf_71 : decode cX5_commonOf 71 = .ok (.iload 4, 2) := by decide +kernel
theorem dX5_commonOf_73 : decode cX5_commonOf 73 = .ok (.goto 4, 3) := by decide +kernel
theorem dX5_commonOf_76 : decode cX5_commonOf 76 = .ok (.iload_n 2, 1) := by decide +kernel
theorem dX5_commonOf_77 : decode cX5_commonOf 77 = .ok (.istore_n 2, 1) := by decide +kernel
theorem dX5_commonOf_78 : decode cX5_commonOf 78 = .ok (.iload 5, 2) := by decide +kernel
theorem dX5_commonOf_80 : decode cX5_commonOf 80 = .ok (.iload_n 3, 1) := by decide +kernel
theorem dX5_commonOf_81 : decode cX5_commonOf 81 = .ok (.if_icmp .le 8, 3) := by decide +kernel
theorem dX5_commonOf_84 : decode cX5_commonOf 84 = .ok (.iload 5, 2) := by decide +kernel
theorem dX5_commonOf_86 : decode cX5_commonOf 86 = .ok (.goto 4, 3) := by decide +kernel
theorem dX5_commonOf_89 : decode cX5_commonOf 89 = .ok (.iload_n 3, 1) := by decide +kernel
theorem dX5_commonOf_90 : decode cX5_commonOf 90 = .ok (.istore_n 3, 1) := by decide +kernel
theorem dX5_commonOf_91 : decode cX5_commonOf 91 = .ok (.iinc 4 1, 3) := by decide +kernel
theorem dX5_commonOf_94 : decode cX5_commonOf 94 = .ok (.goto (-86), 3) := by decide +kernel
theorem dX5_commonOf_97 : decode cX5_commonOf 97 = .ok (.iload_n 2, 1) := by decide +kernel
theorem dX5_commonOf_98 : decode cX5_commonOf 98 = .ok (.ireturn, 1) := by decide +kernel
theorem dX5_common_0 : decode cX5_common 0 = .ok (.iload_n 1, 1) := by decide +kernel
theorem dX5_common_1 : decode cX5_common 1 = .ok (.invokestatic 80, 3) := by decide +kernel
theorem dX5_common_4 : decode cX5_common 4 = .ok (.ifCond .eq 11, 3) := by decide +kernel
theorem dX5_common_7 : decode cX5_common 7 = .ok (.aload_n 0, 1) := by decide +kernel
theorem dX5_common_8 : decode cX5_common 8 = .ok (.iload_n 1, 1) := by decide +kernel
theorem dX5_common_9 : decode cX5_common 9 = .ok (.invokevirtual 143, 3) := by decide +kernel
theorem dX5_common_12 : decode cX5_common 12 = .ok (.goto 4, 3) := by decide +kernel
theorem dX5_common_15 : decode cX5_common 15 = .ok (.iconst (-1), 1) := by decide +kernel
theorem dX5_common_16 : decode cX5_common 16 = .ok (.ireturn, 1) := by decide +kernel
theorem dX5_ifMet_0 : decode cX5_ifMet 0 = .ok (.aload_n 0, 1) := by decide +kernel
theorem dX5_ifMet_1 : decode cX5_ifMet 1 = .ok (.iload_n 1, 1) := by decide +kernel
theorem dX5_ifMet_2 : decode cX5_ifMet 2 = .ok (.iload_n 2, 1) := by decide +kernel
theorem dX5_ifMet_3 : decode cX5_ifMet 3 = .ok (.iload_n 3, 1) := by decide +kernel
theorem dX5_ifMet_4 : decode cX5_ifMet 4 = .ok (.invokevirtual 83, 3) := by decide +kernel
theorem dX5_ifMet_7 : decode cX5_ifMet 7 = .ok (.istore 5, 2) := by decide +kernel
theorem dX5_ifMet_9 : decode cX5_ifMet 9 = .ok (.iload 5, 2) := by decide +kernel
theorem dX5_ifMet_11 : decode cX5_ifMet 11 = .ok (.iconst (-1), 1) := by decide +kernel
theorem dX5_ifMet_12 : decode cX5_ifMet 12 = .ok (.if_icmp .ne 5, 3) := by decide +kernel
theorem dX5_ifMet_15 : decode cX5_ifMet 15 = .ok (.iconst (-1), 1) := by decide +kernel
theorem dX5_ifMet_16 : decode cX5_ifMet 16 = .ok (.ireturn, 1) := by decide +kernel
theorem dX5_ifMet_17 : decode cX5_ifMet 17 = .ok (.iload 4, 2) := by decide +kernel
theorem dX5_ifMet_19 : decode cX5_ifMet 19 = .ok (.iconst 0, 1) := by decide +kernel
theorem dX5_ifMet_20 : decode cX5_ifMet 20 = .ok (.iconst 3, 1) := by decide +kernel
theorem dX5_ifMet_21 : decode cX5_ifMet 21 = .ok (.invokestatic 30, 3) := by decide +kernel
theorem dX5_ifMet_24 : decode cX5_ifMet 24 = .ok (.ifCond .ne 6, 3) := by decide +kernel
theorem dX5_ifMet_27 : decode cX5_ifMet 27 = .ok (.bipush (-2), 2) := by decide +kernel
theorem dX5_ifMet_29 : decode cX5_ifMet 29 = .ok (.ireturn, 1) := by decide +kernel
theorem dX5_ifMet_30 : decode cX5_ifMet 30 = .ok (.iload 5, 2) := by decide +kernel
theorem dX5_ifMet_32 : decode cX5_ifMet 32 = .ok (.ifCond .ge 6, 3) := by decide +kernel
theorem dX5_ifMet_35 : decode cX5_ifMet 35 = .ok (.iload 5, 2) := by decide +kernel
theorem dX5_ifMet_37 : decode cX5_ifMet 37 = .ok (.ireturn, 1) := by decide +kernel
theorem dX5_ifMet_38 : decode cX5_ifMet 38 = .ok (.aload_n 0, 1) := by decide +kernel
theorem dX5_ifMet_39 : decode cX5_ifMet 39 = .ok (.getfield 7, 3) := by decide +kernel
theorem dX5_ifMet_42 : decode cX5_ifMet 42 = .ok (.iconst 0, 1) := by decide +kernel
theorem dX5_ifMet_43 : decode cX5_ifMet 43 = .ok (.aload_n 0, 1) := by decide +kernel
theorem dX5_ifMet_44 : decode cX5_ifMet 44 = .ok (.getfield 13, 3) := by decide +kernel
theorem dX5_ifMet_47 : decode cX5_ifMet 47 = .ok (.iconst 0, 1) := by decide +kernel
theorem dX5_ifMet_48 : decode cX5_ifMet 48 = .ok (.invokestatic 26, 3) := by decide +kernel
theorem dX5_ifMet_51 : decode cX5_ifMet 51 = .ok (.aload_n 0, 1) := by decide +kernel
theorem dX5_ifMet_52 : decode cX5_ifMet 52 = .ok (.iload_n 1, 1) := by decide +kernel
theorem dX5_ifMet_53 : decode cX5_ifMet 53 = .ok (.iload_n 2, 1) := by decide +kernel
theorem dX5_ifMet_54 : decode cX5_ifMet 54 = .ok (.iload_n 3, 1) := by decide +kernel
theorem dX5_ifMet_55 : decode cX5_ifMet 55 = .ok (.invokevirtual 89, 3) := by decide +kernel
theorem dX5_ifMet_58 : decode cX5_ifMet 58 = .ok (.istore 6, 2) := by decide +kernel
theorem dX5_ifMet_60 : decode cX5_ifMet 60 = .ok (.aload_n 0, 1) := by decide +kernel
theorem dX5_ifMet_61 : decode cX5_ifMet 61 = .ok (.iload_n 1, 1) := by decide +kernel
theorem dX5_ifMet_62 : decode cX5_ifMet 62 = .ok (.iload_n 2, 1) := by decide +kernel
theorem dX5_ifMet_63 : decode cX5_ifMet 63 = .ok (.invokevirtual 137, 3) := by decide +kernel
theorem dX5_ifMet_66 : decode cX5_ifMet 66 = .ok (.istore 7, 2) := by decide +kernel
theorem dX5_ifMet_68 : decode cX5_ifMet 68 = .ok (.aload_n 0, 1) := by decide +kernel
theorem dX5_ifMet_69 : decode cX5_ifMet 69 = .ok (.getfield 13, 3) := by decide +kernel
theorem dX5_ifMet_72 : decode cX5_ifMet 72 = .ok (.iconst 0, 1) := by decide +kernel
theorem dX5_ifMet_73 : decode cX5_ifMet 73 = .ok (.aload_n 0, 1) := by decide +kernel
theorem dX5_ifMet_74 : decode cX5_ifMet 74 = .ok (.getfield 7, 3) := by decide +kernel
theorem dX5_ifMet_77 : decode cX5_ifMet 77 = .ok (.iconst 0, 1) := by decide +kernel
theorem dX5_ifMet_78 : decode cX5_ifMet 78 = .ok (.invokestatic 26, 3) := by decide +kernel
theorem dX5_ifMet_81 : decode cX5_ifMet 81 = .ok (.iload 4, 2) := by decide +kernel
theorem dX5_ifMet_83 : decode cX5_ifMet 83 = .ok (.ifCond .ne 10, 3) := by decide +kernel
theorem dX5_ifMet_86 : decode cX5_ifMet 86 = .ok (.aload_n 0, 1) := by decide +kernel
theorem dX5_ifMet_87 : decode cX5_ifMet 87 = .ok (.getfield 61, 3) := by decide +kernel
theorem dX5_ifMet_90 : decode cX5_ifMet 90 = .ok (.goto 37, 3) := by decide +kernel
theorem dX5_ifMet_93 : decode cX5_ifMet 93 = .ok (.iload 4, 2) := by decide +kernel
theorem dX5_ifMet_95 : decode cX5_ifMet 95 = .ok (.iconst 1, 1) := by decide +kernel
theorem dX5_ifMet_96 : decode cX5_ifMet 96 = .ok (.if_icmp .ne 10, 3) := by decide +kernel
theorem dX5_ifMet_99 : decode cX5_ifMet 99 = .ok (.aload_n 0, 1) := by decide +kernel
theorem dX5_ifMet_100 : decode cX5_ifMet 100 = .ok (.getfield 70, 3) := by decide +kernel
theorem dX5_ifMet_103 : decode cX5_ifMet 103 = .ok (.goto 24, 3) := by decide +kernel
theorem dX5_ifMet_106 : decode cX5_ifMet 106 = .ok (.iload 4, 2) := by decide +kernel
theorem dX5_ifMet_108 : decode cX5_ifMet 108 = .ok (.iconst 2, 1) := by decide +kernel
theorem dX5_ifMet_109 : decode cX5_ifMet 109 = .ok (.if_icmp .ne 16, 3) := by decide +kernel
theorem dX5_ifMet_112 : decode cX5_ifMet 112 = .ok (.iload 6, 2) := by decide +kernel
theorem dX5_ifMet_114 : decode cX5_ifMet 114 = .ok (.ifCond .eq 7, 3) := by decide +kernel
theorem dX5_ifMet_117 : decode cX5_ifMet 117 = .ok (.iconst 1, 1) := by decide +kernel
theorem dX5_ifMet_118 : decode cX5_ifMet 118 = .ok (.goto 9, 3) := by decide +kernel
theorem dX5_ifMet_121 : decode cX5_ifMet 121 = .ok (.iconst 0, 1) := by decide +kernel
theorem dX5_ifMet_122 : decode cX5_ifMet 122 = .ok (.goto 5, 3) := by decide +kernel
theorem dX5_ifMet_125 : decode cX5_ifMet 125 = .ok (.iload 7, 2) := by decide +kernel
theorem dX5_ifMet_127 : decode cX5_ifMet 127 = .ok (.ireturn, 1) := by decide +kernel
theorem dX5_ifChat_0 : decode cX5_ifChat 0 = .ok (.aload_n 0, 1) := by decide +kernel
theorem dX5_ifChat_1 : decode cX5_ifChat 1 = .ok (.iload_n 1, 1) := by decide +kernel
theorem dX5_ifChat_2 : decode cX5_ifChat 2 = .ok (.invokevirtual 99, 3) := by decide +kernel
theorem dX5_ifChat_5 : decode cX5_ifChat 5 = .ok (.istore_n 2, 1) := by decide +kernel
theorem dX5_ifChat_6 : decode cX5_ifChat 6 = .ok (.iload_n 2, 1) := by decide +kernel
theorem dX5_ifChat_7 : decode cX5_ifChat 7 = .ok (.ifCond .ge 5, 3) := by decide +kernel
theorem dX5_ifChat_10 : decode cX5_ifChat 10 = .ok (.iload_n 2, 1) := by decide +kernel
theorem dX5_ifChat_11 : decode cX5_ifChat 11 = .ok (.ireturn, 1) := by decide +kernel
theorem dX5_ifChat_12 : decode cX5_ifChat 12 = .ok (.aload_n 0, 1) := by decide +kernel
theorem dX5_ifChat_13 : decode cX5_ifChat 13 = .ok (.getfield 7, 3) := by decide +kernel
theorem dX5_ifChat_16 : decode cX5_ifChat 16 = .ok (.iconst 0, 1) := by decide +kernel
theorem dX5_ifChat_17 : decode cX5_ifChat 17 = .ok (.aload_n 0, 1) := by decide +kernel
theorem dX5_ifChat_18 : decode cX5_ifChat 18 = .ok (.getfield 13, 3) := by decide +kernel
theorem dX5_ifChat_21 : decode cX5_ifChat 21 = .ok (.iconst 0, 1) := by decide +kernel
theorem dX5_ifChat_22 : decode cX5_ifChat 22 = .ok (.invokestatic 26, 3) := by decide +kernel
theorem dX5_ifChat_25 : decode cX5_ifChat 25 = .ok (.aload_n 0, 1) := by decide +kernel
theorem dX5_ifChat_26 : decode cX5_ifChat 26 = .ok (.iload_n 1, 1) := by decide +kernel
theorem dX5_ifChat_27 : decode cX5_ifChat 27 = .ok (.invokevirtual 102, 3) := by decide +kernel
theorem dX5_ifChat_30 : decode cX5_ifChat 30 = .ok (.istore_n 3, 1) := by decide +kernel
theorem dX5_ifChat_31 : decode cX5_ifChat 31 = .ok (.aload_n 0, 1) := by decide +kernel
theorem dX5_ifChat_32 : decode cX5_ifChat 32 = .ok (.getfield 13, 3) := by decide +kernel
theorem dX5_ifChat_35 : decode cX5_ifChat 35 = .ok (.iconst 0, 1) := by decide +kernel
theorem dX5_ifChat_36 : decode cX5_ifChat 36 = .ok (.aload_n 0, 1) := by decide +kernel
theorem dX5_ifChat_37 : decode cX5_ifChat 37 = .ok (.getfield 7, 3) := by decide +kernel
theorem dX5_ifChat_40 : decode cX5_ifChat 40 = .ok (.iconst 0, 1) := by decide +kernel
theorem dX5_ifChat_41 : decode cX5_ifChat 41 = .ok (.invokestatic 26, 3) := by decide +kernel
theorem dX5_ifChat_44 : decode cX5_ifChat 44 = .ok (.iload_n 3, 1) := by decide +kernel
theorem dX5_ifChat_45 : decode cX5_ifChat 45 = .ok (.ireturn, 1) := by decide +kernel
theorem dX5_bestSayer_0 : decode cX5_bestSayer 0 = .ok (.aload_n 0, 1) := by decide +kernel
theorem dX5_bestSayer_1 : decode cX5_bestSayer 1 = .ok (.iload_n 1, 1) := by decide +kernel
theorem dX5_bestSayer_2 : decode cX5_bestSayer 2 = .ok (.invokevirtual 45, 3) := by decide +kernel
theorem dX5_bestSayer_5 : decode cX5_bestSayer 5 = .ok (.ifCond .ne 5, 3) := by decide +kernel
theorem dX5_bestSayer_8 : decode cX5_bestSayer 8 = .ok (.iconst (-1), 1) := by decide +kernel
theorem dX5_bestSayer_9 : decode cX5_bestSayer 9 = .ok (.ireturn, 1) := by decide +kernel
theorem dX5_bestSayer_10 : decode cX5_bestSayer 10 = .ok (.bipush (-6), 2) := by decide +kernel
theorem dX5_bestSayer_12 : decode cX5_bestSayer 12 = .ok (.istore_n 2, 1) := by decide +kernel
theorem dX5_bestSayer_13 : decode cX5_bestSayer 13 = .ok (.iconst 0, 1) := by decide +kernel
theorem dX5_bestSayer_14 : decode cX5_bestSayer 14 = .ok (.istore_n 3, 1) := by decide +kernel
theorem dX5_bestSayer_15 : decode cX5_bestSayer 15 = .ok (.iload_n 3, 1) := by decide +kernel
theorem dX5_bestSayer_16 : decode cX5_bestSayer 16 = .ok (.bipush 8, 2) := by decide +kernel
theorem dX5_bestSayer_18 : decode cX5_bestSayer 18 = .ok (.if_icmp .ge 49, 3) := by decide +kernel
theorem dX5_bestSayer_21 : decode cX5_bestSayer 21 = .ok (.aload_n 0, 1) := by decide +kernel
theorem dX5_bestSayer_22 : decode cX5_bestSayer 22 = .ok (.iload_n 3, 1) := by decide +kernel
theorem dX5_bestSayer_23 : decode cX5_bestSayer 23 = .ok (.invokevirtual 45, 3) := by decide +kernel
theorem dX5_bestSayer_26 : decode cX5_bestSayer 26 = .ok (.ifCond .eq 33, 3) := by decide +kernel
theorem dX5_bestSayer_29 : decode cX5_bestSayer 29 = .ok (.iload_n 3, 1) := by decide +kernel
theorem dX5_bestSayer_30 : decode cX5_bestSayer 30 = .ok (.iload_n 1, 1) := by decide +kernel
theorem dX5_bestSayer_31 : decode cX5_bestSayer 31 = .ok (.if_icmp .eq 28, 3) := by decide +kernel
theorem dX5_bestSayer_34 : decode cX5_bestSayer 34 = .ok (.iload_n 2, 1) := by decide +kernel
theorem dX5_bestSayer_35 : decode cX5_bestSayer 35 = .ok (.bipush (-6), 2) := by decide +kernel
theorem dX5_bestSayer_37 : decode cX5_bestSayer 37 = .ok (.if_icmp .eq 18, 3) := by decide +kernel
theorem dX5_bestSayer_40 : decode cX5_bestSayer 40 = .ok (.aload_n 0, 1) := by decide +kernel
theorem dX5_bestSayer_41 : decode cX5_bestSayer 41 = .ok (.iload_n 3, 1) := by decide +kernel
theorem dX5_bestSayer_42 : decode cX5_bestSayer 42 = .ok (.iload_n 1, 1) := by decide +kernel
theorem dX5_bestSayer_43 : decode cX5_bestSayer 43 = .ok (.invokevirtual 140, 3) := by decide +kernel
theorem dX5_bestSayer_46 : decode cX5_bestSayer 46 = .ok (.aload_n 0, 1) := by decide +kernel
theorem dX5_bestSayer_47 : decode cX5_bestSayer 47 = .ok (.iload_n 2, 1) := by decide +kernel
theorem dX5_bestSayer_48 : decode cX5_bestSayer 48 = .ok (.iload_n 1, 1) := by decide +kernel
theorem dX5_bestSayer_49 : decode cX5_bestSayer 49 = .ok (.invokevirtual 140, 3) := by decide +kernel
theorem dX5_bestSayer_52 : decode cX5_bestSayer 52 = .ok (.if_icmp .le 7, 3) := by decide +kernel
theorem dX5_bestSayer_55 : decode cX5_bestSayer 55 = .ok (.iload_n 3, 1) := by decide +kernel
theorem dX5_bestSayer_56 : decode cX5_bestSayer 56 = .ok (.goto 4, 3) := by decide +kernel
theorem dX5_bestSayer_59 : decode cX5_bestSayer 59 = .ok (.iload_n 2, 1) := by decide +kernel
theorem dX5_bestSayer_60 : decode cX5_bestSayer 60 = .ok (.istore_n 2, 1) := by decide +kernel
theorem dX5_bestSayer_61 : decode cX5_bestSayer 61 = .ok (.iinc 3 1, 3) := by decide +kernel
theorem dX5_bestSayer_64 : decode cX5_bestSayer 64 = .ok (.goto (-49), 3) := by decide +kernel
theorem dX5_bestSayer_67 : decode cX5_bestSayer 67 = .ok (.iload_n 2, 1) := by decide +kernel
theorem dX5_bestSayer_68 : decode cX5_bestSayer 68 = .ok (.ireturn, 1) := by decide +kernel
theorem dX5_type_0 : decode cX5_type 0 = .ok (.iload_n 1, 1) := by decide +kernel
theorem dX5_type_1 : decode cX5_type 1 = .ok (.bipush 33, 2) := by decide +kernel
theorem dX5_type_3 : decode cX5_type 3 = .ok (.bipush 126, 2) := by decide +kernel
theorem dX5_type_5 : decode cX5_type 5 = .ok (.invokestatic 30, 3) := by decide +kernel
theorem dX5_type_8 : decode cX5_type 8 = .ok (.ifCond .ne 6, 3) := by decide +kernel
theorem dX5_type_11 : decode cX5_type 11 = .ok (.bipush (-2), 2) := by decide +kernel
theorem dX5_type_13 : decode cX5_type 13 = .ok (.ireturn, 1) := by decide +kernel
theorem dX5_type_14 : decode cX5_type 14 = .ok (.aload_n 0, 1) := by decide +kernel
theorem dX5_type_15 : decode cX5_type 15 = .ok (.getfield 146, 3) := by decide +kernel
theorem dX5_type_18 : decode cX5_type 18 = .ok (.bipush 80, 2) := by decide +kernel
theorem dX5_type_20 : decode cX5_type 20 = .ok (.if_icmp .ne 6, 3) := by decide +kernel
theorem dX5_type_23 : decode cX5_type 23 = .ok (.bipush (-4), 2) := by decide +kernel
theorem dX5_type_25 : decode cX5_type 25 = .ok (.ireturn, 1) := by decide +kernel
theorem dX5_type_26 : decode cX5_type 26 = .ok (.aload_n 0, 1) := by decide +kernel
theorem dX5_type_27 : decode cX5_type 27 = .ok (.getfield 19, 3) := by decide +kernel
theorem dX5_type_30 : decode cX5_type 30 = .ok (.aload_n 0, 1) := by decide +kernel
theorem dX5_type_31 : decode cX5_type 31 = .ok (.getfield 146, 3) := by decide +kernel
theorem dX5_type_34 : decode cX5_type 34 = .ok (.iload_n 1, 1) := by decide +kernel
theorem dX5_type_35 : decode cX5_type 35 = .ok (.iastore, 1) := by decide +kernel
theorem dX5_type_36 : decode cX5_type 36 = .ok (.aload_n 0, 1) := by decide +kernel
theorem dX5_type_37 : decode cX5_type 37 = .ok (.dup, 1) := by decide +kernel
theorem dX5_type_38 : decode cX5_type 38 = .ok (.getfield 146, 3) := by decide +kernel
theorem dX5_type_41 : decode cX5_type 41 = .ok (.iconst 1, 1) := by decide +kernel
theorem dX5_type_42 : decode cX5_type 42 = .ok (.iadd, 1) := by decide +kernel
theorem dX5_type_43 : decode cX5_type 43 = .ok (.putfield 146, 3) := by decide +kernel
theorem dX5_type_46 : decode cX5_type 46 = .ok (.aload_n 0, 1) := by decide +kernel
theorem dX5_type_47 : decode cX5_type 47 = .ok (.getfield 146, 3) := by decide +kernel
theorem dX5_type_50 : decode cX5_type 50 = .ok (.ireturn, 1) := by decide +kernel
theorem dX5_clearText_0 : decode cX5_clearText 0 = .ok (.aload_n 0, 1) := by decide +kernel
theorem dX5_clearText_1 : decode cX5_clearText 1 = .ok (.getfield 146, 3) := by decide +kernel
theorem dX5_clearText_4 : decode cX5_clearText 4 = .ok (.istore_n 1, 1) := by decide +kernel
theorem dX5_clearText_5 : decode cX5_clearText 5 = .ok (.aload_n 0, 1) := by decide +kernel
theorem dX5_clearText_6 : decode cX5_clearText 6 = .ok (.iconst 0, 1) := by decide +kernel
theorem dX5_clearText_7 : decode cX5_clearText 7 = .ok (.putfield 146, 3) := by decide +kernel
theorem dX5_clearText_10 : decode cX5_clearText 10 = .ok (.iload_n 1, 1) := by decide +kernel
theorem dX5_clearText_11 : decode cX5_clearText 11 = .ok (.ireturn, 1) := by decide +kernel
theorem dX5_character_0 : decode cX5_character 0 = .ok (.iload_n 1, 1) := by decide +kernel
theorem dX5_character_1 : decode cX5_character 1 = .ok (.aload_n 0, 1) := by decide +kernel
theorem dX5_character_2 : decode cX5_character 2 = .ok (.getfield 146, 3) := by decide +kernel
theorem dX5_character_5 : decode cX5_character 5 = .ok (.if_icmp .ge 12, 3) := by decide +kernel
theorem dX5_character_8 : decode cX5_character 8 = .ok (.aload_n 0, 1) := by decide +kernel
theorem dX5_character_9 : decode cX5_character 9 = .ok (.getfield 19, 3) := by decide +kernel
theorem dX5_character_12 : decode cX5_character 12 = .ok (.iload_n 1, 1) := by decide +kernel
theorem dX5_character_13 : decode cX5_character 13 = .ok (.iaload, 1) := by decide +kernel
theorem dX5_character_14 : decode cX5_character 14 = .ok (.goto 4, 3) := by decide +kernel
theorem dX5_character_17 : decode cX5_character 17 = .ok (.iconst (-1), 1) := by decide +kernel
theorem dX5_character_18 : decode cX5_character 18 = .ok (.ireturn, 1) := by decide +kernel
theorem dX5_isNext_0 : decode cX5_isNext 0 = .ok (.aload_n 0, 1) := by decide +kernel
theorem dX5_isNext_1 : decode cX5_isNext 1 = .ok (.aload_n 0, 1) := by decide +kernel
theorem dX5_isNext_2 : decode cX5_isNext 2 = .ok (.getfield 149, 3) := by decide +kernel
theorem dX5_isNext_5 : decode cX5_isNext 5 = .ok (.invokevirtual 152, 3) := by decide +kernel
theorem dX5_isNext_8 : decode cX5_isNext 8 = .ok (.iload_n 1, 1) := by decide +kernel
theorem dX5_isNext_9 : decode cX5_isNext 9 = .ok (.if_icmp .ne 7, 3) := by decide +kernel
theorem dX5_isNext_12 : decode cX5_isNext 12 = .ok (.iconst 1, 1) := by decide +kernel
theorem dX5_isNext_13 : decode cX5_isNext 13 = .ok (.goto 4, 3) := by decide +kernel
theorem dX5_isNext_16 : decode cX5_isNext 16 = .ok (.iconst 0, 1) := by decide +kernel
theorem dX5_isNext_17 : decode cX5_isNext 17 = .ok (.istore_n 2, 1) := by decide +kernel
theorem dX5_isNext_18 : decode cX5_isNext 18 = .ok (.aload_n 0, 1) := by decide +kernel
theorem dX5_isNext_19 : decode cX5_isNext 19 = .ok (.dup, 1) := by decide +kernel
theorem dX5_isNext_20 : decode cX5_isNext 20 = .ok (.getfield 149, 3) := by decide +kernel
theorem dX5_isNext_23 : decode cX5_isNext 23 = .ok (.iload_n 2, 1) := by decide +kernel
theorem dX5_isNext_24 : decode cX5_isNext 24 = .ok (.ifCond .eq 7, 3) := by decide +kernel
theorem dX5_isNext_27 : decode cX5_isNext 27 = .ok (.iconst 1, 1) := by decide +kernel
theorem dX5_isNext_28 : decode cX5_isNext 28 = .ok (.goto 4, 3) := by decide +kernel
theorem dX5_isNext_31 : decode cX5_isNext 31 = .ok (.iconst 0, 1) := by decide +kernel
theorem dX5_isNext_32 : decode cX5_isNext 32 = .ok (.iadd, 1) := by decide +kernel
theorem dX5_isNext_33 : decode cX5_isNext 33 = .ok (.putfield 149, 3) := by decide +kernel
theorem dX5_isNext_36 : decode cX5_isNext 36 = .ok (.iload_n 2, 1) := by decide +kernel
theorem dX5_isNext_37 : decode cX5_isNext 37 = .ok (.ireturn, 1) := by decide +kernel
theorem dX5_readsDigit_0 : decode cX5_readsDigit 0 = .ok (.aload_n 0, 1) := by decide +kernel
theorem dX5_readsDigit_1 : decode cX5_readsDigit 1 = .ok (.aload_n 0, 1) := by decide +kernel
theorem dX5_readsDigit_2 : decode cX5_readsDigit 2 = .ok (.getfield 149, 3) := by decide +kernel
theorem dX5_readsDigit_5 : decode cX5_readsDigit 5 = .ok (.invokevirtual 152, 3) := by decide +kernel
theorem dX5_readsDigit_8 : decode cX5_readsDigit 8 = .ok (.bipush 48, 2) := by decide +kernel
theorem dX5_readsDigit_10 : decode cX5_readsDigit 10 = .ok (.bipush 48, 2) := by decide +kernel
theorem dX5_readsDigit_12 : decode cX5_readsDigit 12 = .ok (.iload_n 1, 1) := by decide +kernel
theorem dX5_readsDigit_13 : decode cX5_readsDigit 13 = .ok (.iadd, 1) := by decide +kernel
theorem dX5_readsDigit_14 : decode cX5_readsDigit 14 = .ok (.invokestatic 30, 3) := by decide +kernel
theorem dX5_readsDigit_17 : decode cX5_readsDigit 17 = .ok (.istore_n 2, 1) := by decide +kernel
theorem dX5_readsDigit_18 : decode cX5_readsDigit 18 = .ok (.aload_n 0, 1) := by decide +kernel
theorem dX5_readsDigit_19 : decode cX5_readsDigit 19 = .ok (.aload_n 0, 1) := by decide +kernel
theorem dX5_readsDigit_20 : decode cX5_readsDigit 20 = .ok (.aload_n 0, 1) := by decide +kernel
theorem dX5_readsDigit_21 : decode cX5_readsDigit 21 = .ok (.getfield 149, 3) := by decide +kernel
theorem dX5_readsDigit_24 : decode cX5_readsDigit 24 = .ok (.invokevirtual 152, 3) := by decide +kernel
theorem dX5_readsDigit_27 : decode cX5_readsDigit 27 = .ok (.bipush 48, 2) := by decide +kernel
theorem dX5_readsDigit_29 : decode cX5_readsDigit 29 = .ok (.isub, 1) := by decide +kernel
theorem dX5_readsDigit_30 : decode cX5_readsDigit 30 = .ok (.putfield 155, 3) := by decide +kernel
theorem dX5_readsDigit_33 : decode cX5_readsDigit 33 = .ok (.aload_n 0, 1) := by decide +kernel
theorem dX5_readsDigit_34 : decode cX5_readsDigit 34 = .ok (.dup, 1) := by decide +kernel
theorem dX5_readsDigit_35 : decode cX5_readsDigit 35 = .ok (.getfield 149, 3) := by decide +kernel
theorem dX5_readsDigit_38 : decode cX5_readsDigit 38 = .ok (.iload_n 2, 1) := by decide +kernel
theorem dX5_readsDigit_39 : decode cX5_readsDigit 39 = .ok (.ifCond .eq 7, 3) := by decide +kernel
theorem dX5_readsDigit_42 : decode cX5_readsDigit 42 = .ok (.iconst 1, 1) := by decide +kernel
theorem dX5_readsDigit_43 : decode cX5_readsDigit 43 = .ok (.goto 4, 3) := by decide +kernel
theorem dX5_readsDigit_46 : decode cX5_readsDigit 46 = .ok (.iconst 0, 1) := by decide +kernel
theorem dX5_readsDigit_47 : decode cX5_readsDigit 47 = .ok (.iadd, 1) := by decide +kernel
theorem dX5_readsDigit_48 : decode cX5_readsDigit 48 = .ok (.putfield 149, 3) := by decide +kernel
theorem dX5_readsDigit_51 : decode cX5_readsDigit 51 = .ok (.iload_n 2, 1) := by decide +kernel
theorem dX5_readsDigit_52 : decode cX5_readsDigit 52 = .ok (.ireturn, 1) := by decide +kernel
theorem dX5_isGesture_0 : decode cX5_isGesture 0 = .ok (.aload_n 0, 1) := by decide +kernel
theorem dX5_isGesture_1 : decode cX5_isGesture 1 = .ok (.aload_n 0, 1) := by decide +kernel
theorem dX5_isGesture_2 : decode cX5_isGesture 2 = .ok (.getfield 149, 3) := by decide +kernel
theorem dX5_isGesture_5 : decode cX5_isGesture 5 = .ok (.invokevirtual 152, 3) := by decide +kernel
theorem dX5_isGesture_8 : decode cX5_isGesture 8 = .ok (.bipush 119, 2) := by decide +kernel
theorem dX5_isGesture_10 : decode cX5_isGesture 10 = .ok (.if_icmp .eq 16, 3) := by decide +kernel
theorem dX5_isGesture_13 : decode cX5_isGesture 13 = .ok (.aload_n 0, 1) := by decide +kernel
theorem dX5_isGesture_14 : decode cX5_isGesture 14 = .ok (.aload_n 0, 1) := by decide +kernel
theorem dX5_isGesture_15 : decode cX5_isGesture 15 = .ok (.getfield 149, 3) := by decide +kernel
theorem dX5_isGesture_18 : decode cX5_isGesture 18 = .ok (.invokevirtual 152, 3) := by decide +kernel
theorem dX5_isGesture_21 : decode cX5_isGesture 21 = .ok (.bipush 110, 2) := by decide +kernel
theorem dX5_isGesture_23 : decode cX5_isGesture 23 = .ok (.if_icmp .ne 7, 3) := by decide +kernel
theorem dX5_isGesture_26 : decode cX5_isGesture 26 = .ok (.iconst 1, 1) := by decide +kernel
theorem dX5_isGesture_27 : decode cX5_isGesture 27 = .ok (.goto 4, 3) := by decide +kernel
theorem dX5_isGesture_30 : decode cX5_isGesture 30 = .ok (.iconst 0, 1) := by decide +kernel
theorem dX5_isGesture_31 : decode cX5_isGesture 31 = .ok (.ireturn, 1) := by decide +kernel
theorem dX5_readsWord_0 : decode cX5_readsWord 0 = .ok (.iconst 0, 1) := by decide +kernel
theorem dX5_readsWord_1 : decode cX5_readsWord 1 = .ok (.istore_n 1, 1) := by decide +kernel
theorem dX5_readsWord_2 : decode cX5_readsWord 2 = .ok (.iconst 0, 1) := by decide +kernel
theorem dX5_readsWord_3 : decode cX5_readsWord 3 = .ok (.istore_n 2, 1) := by decide +kernel
theorem dX5_readsWord_4 : decode cX5_readsWord 4 = .ok (.iload_n 1, 1) := by decide +kernel
theorem dX5_readsWord_5 : decode cX5_readsWord 5 = .ok (.iconst 3, 1) := by decide +kernel
theorem dX5_readsWord_6 : decode cX5_readsWord 6 = .ok (.if_icmp .ge 49, 3) := by decide +kernel
theorem dX5_readsWord_9 : decode cX5_readsWord 9 = .ok (.aload_n 0, 1) := by decide +kernel
theorem dX5_readsWord_10 : decode cX5_readsWord 10 = .ok (.invokevirtual 158, 3) := by decide +kernel
theorem dX5_readsWord_13 : decode cX5_readsWord 13 = .ok (.ifCond .eq 42, 3) := by decide +kernel
theorem dX5_readsWord_16 : decode cX5_readsWord 16 = .ok (.iconst 2, 1) := by decide +kernel
theorem dX5_readsWord_17 : decode cX5_readsWord 17 = .ok (.iload_n 2, 1) := by decide +kernel
theorem dX5_readsWord_18 : decode cX5_readsWord 18 = .ok (.imul, 1) := by decide +kernel
theorem dX5_readsWord_19 : decode cX5_readsWord 19 = .ok (.aload_n 0, 1) := by decide +kernel
theorem dX5_readsWord_20 : decode cX5_readsWord 20 = .ok (.aload_n 0, 1) := by decide +kernel
theorem dX5_readsWord_21 : decode cX5_readsWord 21 = .ok (.getfield 149, 3) := by decide +kernel
theorem dX5_readsWord_24 : decode cX5_readsWord 24 = .ok (.invokevirtual 152, 3) := by decide +kernel
theorem dX5_readsWord_27 : decode cX5_readsWord 27 = .ok (.bipush 110, 2) := by decide +kernel
theorem dX5_readsWord_29 : decode cX5_readsWord 29 = .ok (.if_icmp .ne 7, 3) := by decide +kernel
theorem dX5_readsWord_32 : decode cX5_readsWord 32 = .ok (.iconst 1, 1) := by decide +kernel
theorem dX5_readsWord_33 : decode cX5_readsWord 33 = .ok (.goto 4, 3) := by decide +kernel
theorem dX5_readsWord_36 : decode cX5_readsWord 36 = .ok (.iconst 0, 1) := by decide +kernel
theorem dX5_readsWord_37 : decode cX5_readsWord 37 = .ok (.iadd, 1) := by decide +kernel
theorem dX5_readsWord_38 : decode cX5_readsWord 38 = .ok (.istore_n 2, 1) := by decide +kernel
theorem dX5_readsWord_39 : decode cX5_readsWord 39 = .ok (.iinc 1 1, 3) := by decide +kernel
theorem dX5_readsWord_42 : decode cX5_readsWord 42 = .ok (.aload_n 0, 1) := by decide +kernel
theorem dX5_readsWord_43 : decode cX5_readsWord 43 = .ok (.dup, 1) := by decide +kernel
theorem dX5_readsWord_44 : decode cX5_readsWord 44 = .ok (.getfield 149, 3) := by decide +kernel
theorem dX5_readsWord_47 : decode cX5_readsWord 47 = .ok (.iconst 1, 1) := by decide +kernel
theorem dX5_readsWord_48 : decode cX5_readsWord 48 = .ok (.iadd, 1) := by decide +kernel
theorem dX5_readsWord_49 : decode cX5_readsWord 49 = .ok (.putfield 149, 3) := by decide +kernel
theorem dX5_readsWord_52 : decode cX5_readsWord 52 = .ok (.goto (-48), 3) := by decide +kernel
theorem dX5_readsWord_55 : decode cX5_readsWord 55 = .ok (.aload_n 0, 1) := by decide +kernel
theorem dX5_readsWord_56 : decode cX5_readsWord 56 = .ok (.iload_n 1, 1) := by decide +kernel
theorem dX5_readsWord_57 : decode cX5_readsWord 57 = .ok (.iconst 1, 1) := by decide +kernel
theorem dX5_readsWord_58 : decode cX5_readsWord 58 = .ok (.if_icmp .ne 7, 3) := by decide +kernel
theorem dX5_readsWord_61 : decode cX5_readsWord 61 = .ok (.iload_n 2, 1) := by decide +kernel
theorem dX5_readsWord_62 : decode cX5_readsWord 62 = .ok (.goto 18, 3) := by decide +kernel
theorem dX5_readsWord_65 : decode cX5_readsWord 65 = .ok (.iload_n 1, 1) := by decide +kernel
theorem dX5_readsWord_66 : decode cX5_readsWord 66 = .ok (.iconst 2, 1) := by decide +kernel
theorem dX5_readsWord_67 : decode cX5_readsWord 67 = .ok (.if_icmp .ne 9, 3) := by decide +kernel
theorem dX5_readsWord_70 : decode cX5_readsWord 70 = .ok (.iload_n 2, 1) := by decide +kernel
theorem dX5_readsWord_71 : decode cX5_readsWord 71 = .ok (.iconst 2, 1) := by decide +kernel
theorem dX5_readsWord_72 : decode cX5_readsWord 72 = .ok (.iadd, 1) := by decide +kernel
theorem dX5_readsWord_73 : decode cX5_readsWord 73 = .ok (.goto 7, 3) := by decide +kernel
theorem dX5_readsWord_76 : decode cX5_readsWord 76 = .ok (.iload_n 2, 1) := by decide +kernel
theorem dX5_readsWord_77 : decode cX5_readsWord 77 = .ok (.bipush 6, 2) := by decide +kernel
theorem dX5_readsWord_79 : decode cX5_readsWord 79 = .ok (.iadd, 1) := by decide +kernel
theorem dX5_readsWord_80 : decode cX5_readsWord 80 = .ok (.putfield 162, 3) := by decide +kernel
theorem dX5_readsWord_83 : decode cX5_readsWord 83 = .ok (.iload_n 1, 1) := by decide +kernel
theorem dX5_readsWord_84 : decode cX5_readsWord 84 = .ok (.ifCond .le 7, 3) := by decide +kernel
theorem dX5_readsWord_87 : decode cX5_readsWord 87 = .ok (.iconst 1, 1) := by decide +kernel
theorem dX5_readsWord_88 : decode cX5_readsWord 88 = .ok (.goto 4, 3) := by decide +kernel
theorem dX5_readsWord_91 : decode cX5_readsWord 91 = .ok (.iconst 0, 1) := by decide +kernel
theorem dX5_readsWord_92 : decode cX5_readsWord 92 = .ok (.ireturn, 1) := by decide +kernel
theorem dX5_readsHabit_0 : decode cX5_readsHabit 0 = .ok (.aload_n 0, 1) := by decide +kernel
theorem dX5_readsHabit_1 : decode cX5_readsHabit 1 = .ok (.bipush 7, 2) := by decide +kernel
theorem dX5_readsHabit_3 : decode cX5_readsHabit 3 = .ok (.invokevirtual 165, 3) := by decide +kernel
theorem dX5_readsHabit_6 : decode cX5_readsHabit 6 = .ok (.istore_n 1, 1) := by decide +kernel
theorem dX5_readsHabit_7 : decode cX5_readsHabit 7 = .ok (.aload_n 0, 1) := by decide +kernel
theorem dX5_readsHabit_8 : decode cX5_readsHabit 8 = .ok (.aload_n 0, 1) := by decide +kernel
theorem dX5_readsHabit_9 : decode cX5_readsHabit 9 = .ok (.getfield 155, 3) := by decide +kernel
theorem dX5_readsHabit_12 : decode cX5_readsHabit 12 = .ok (.putfield 168, 3) := by decide +kernel
theorem dX5_readsHabit_15 : decode cX5_readsHabit 15 = .ok (.iload_n 1, 1) := by decide +kernel
theorem dX5_readsHabit_16 : decode cX5_readsHabit 16 = .ok (.ifCond .eq 24, 3) := by decide +kernel
theorem dX5_readsHabit_19 : decode cX5_readsHabit 19 = .ok (.aload_n 0, 1) := by decide +kernel
theorem dX5_readsHabit_20 : decode cX5_readsHabit 20 = .ok (.bipush 46, 2) := by decide +kernel
theorem dX5_readsHabit_22 : decode cX5_readsHabit 22 = .ok (.invokevirtual 171, 3) := by decide +kernel
theorem dX5_readsHabit_25 : decode cX5_readsHabit 25 = .ok (.ifCond .eq 15, 3) := by decide +kernel
theorem dX5_readsHabit_28 : decode cX5_readsHabit 28 = .ok (.aload_n 0, 1) := by decide +kernel
theorem dX5_readsHabit_29 : decode cX5_readsHabit 29 = .ok (.iconst 5, 1) := by decide +kernel
theorem dX5_readsHabit_30 : decode cX5_readsHabit 30 = .ok (.invokevirtual 165, 3) := by decide +kernel
theorem dX5_readsHabit_33 : decode cX5_readsHabit 33 = .ok (.ifCond .eq 7, 3) := by decide +kernel
theorem dX5_readsHabit_36 : decode cX5_readsHabit 36 = .ok (.iconst 1, 1) := by decide +kernel
theorem dX5_readsHabit_37 : decode cX5_readsHabit 37 = .ok (.goto 4, 3) := by decide +kernel
theorem dX5_readsHabit_40 : decode cX5_readsHabit 40 = .ok (.iconst 0, 1) := by decide +kernel
theorem dX5_readsHabit_41 : decode cX5_readsHabit 41 = .ok (.istore_n 1, 1) := by decide +kernel
theorem dX5_readsHabit_42 : decode cX5_readsHabit 42 = .ok (.aload_n 0, 1) := by decide +kernel
theorem dX5_readsHabit_43 : decode cX5_readsHabit 43 = .ok (.aload_n 0, 1) := by decide +kernel
theorem dX5_readsHabit_44 : decode cX5_readsHabit 44 = .ok (.getfield 155, 3) := by decide +kernel
theorem dX5_readsHabit_47 : decode cX5_readsHabit 47 = .ok (.putfield 174, 3) := by decide +kernel
theorem dX5_readsHabit_50 : decode cX5_readsHabit 50 = .ok (.iload_n 1, 1) := by decide +kernel
theorem dX5_readsHabit_51 : decode cX5_readsHabit 51 = .ok (.ifCond .eq 41, 3) := by decide +kernel
theorem dX5_readsHabit_54 : decode cX5_readsHabit 54 = .ok (.aload_n 0, 1) := by decide +kernel
theorem dX5_readsHabit_55 : decode cX5_readsHabit 55 = .ok (.bipush 61, 2) := by decide +kernel
theorem dX5_readsHabit_57 : decode cX5_readsHabit 57 = .ok (.invokevirtual 171, 3) := by decide +kernel
theorem dX5_readsHabit_60 : decode cX5_readsHabit 60 = .ok (.ifCond .eq 32, 3) := by decide +kernel
theorem dX5_readsHabit_63 : decode cX5_readsHabit 63 = .ok (.aload_n 0, 1) := by decide +kernel
theorem dX5_readsHabit_64 : decode cX5_readsHabit 64 = .ok (.invokevirtual 177, 3) := by decide +kernel
theorem dX5_readsHabit_67 : decode cX5_readsHabit 67 = .ok (.ifCond .eq 25, 3) := by decide +kernel
theorem dX5_readsHabit_70 : decode cX5_readsHabit 70 = .ok (.aload_n 0, 1) := by decide +kernel
theorem dX5_readsHabit_71 : decode cX5_readsHabit 71 = .ok (.bipush 42, 2) := by decide +kernel
theorem dX5_readsHabit_73 : decode cX5_readsHabit 73 = .ok (.invokevirtual 171, 3) := by decide +kernel
theorem dX5_readsHabit_76 : decode cX5_readsHabit 76 = .ok (.ifCond .eq 16, 3) := by decide +kernel
theorem dX5_readsHabit_79 : decode cX5_readsHabit 79 = .ok (.aload_n 0, 1) := by decide +kernel
theorem dX5_readsHabit_80 : decode cX5_readsHabit 80 = .ok (.bipush 9, 2) := by decide +kernel
theorem dX5_readsHabit_82 : decode cX5_readsHabit 82 = .ok (.invokevirtual 165, 3) := by decide +kernel
theorem dX5_readsHabit_85 : decode cX5_readsHabit 85 = .ok (.ifCond .eq 7, 3) := by decide +kernel
theorem dX5_readsHabit_88 : decode cX5_readsHabit 88 = .ok (.iconst 1, 1) := by decide +kernel
theorem dX5_readsHabit_89 : decode cX5_readsHabit 89 = .ok (.goto 4, 3) := by decide +kernel
theorem dX5_readsHabit_92 : decode cX5_readsHabit 92 = .ok (.iconst 0, 1) := by decide +kernel
theorem dX5_readsHabit_93 : decode cX5_readsHabit 93 = .ok (.istore_n 1, 1) := by decide +kernel
theorem dX5_readsHabit_94 : decode cX5_readsHabit 94 = .ok (.iload_n 1, 1) := by decide +kernel
theorem dX5_readsHabit_95 : decode cX5_readsHabit 95 = .ok (.ifCond .ne 5, 3) := by decide +kernel
theorem dX5_readsHabit_98 : decode cX5_readsHabit 98 = .ok (.iconst 0, 1) := by decide +kernel
theorem dX5_readsHabit_99 : decode cX5_readsHabit 99 = .ok (.ireturn, 1) := by decide +kernel
theorem dX5_readsHabit_100 : decode cX5_readsHabit 100 = .ok (.aload_n 0, 1) := by decide +kernel
theorem dX5_readsHabit_101 : decode cX5_readsHabit 101 = .ok (.getfield 155, 3) := by decide +kernel
theorem dX5_readsHabit_104 : decode cX5_readsHabit 104 = .ok (.ifCond .le 54, 3) := by decide +kernel
theorem dX5_readsHabit_107 : decode cX5_readsHabit 107 = .ok (.aload_n 0, 1) := by decide +kernel
theorem dX5_readsHabit_108 : decode cX5_readsHabit 108 = .ok (.aload_n 0, 1) := by decide +kernel
theorem dX5_readsHabit_109 : decode cX5_readsHabit 109 = .ok (.getfield 149, 3) := by decide +kernel
theorem dX5_readsHabit_112 : decode cX5_readsHabit 112 = .ok (.invokevirtual 152, 3) := by decide +kernel
theorem dX5_readsHabit_115 : decode cX5_readsHabit 115 = .ok (.bipush 48, 2) := by decide +kernel
theorem dX5_readsHabit_117 : decode cX5_readsHabit 117 = .ok (.bipush 57, 2) := by decide +kernel
theorem dX5_readsHabit_119 : decode cX5_readsHabit 119 = .ok (.invokestatic 30, 3) := by decide +kernel
theorem dX5_readsHabit_122 : decode cX5_readsHabit 122 = .ok (.ifCond .eq 36, 3) := by decide +kernel
theorem dX5_readsHabit_125 : decode cX5_readsHabit 125 = .ok (.aload_n 0, 1) := by decide +kernel
theorem dX5_readsHabit_126 : decode cX5_readsHabit 126 = .ok (.bipush 10, 2) := by decide +kernel
theorem dX5_readsHabit_128 : decode cX5_readsHabit 128 = .ok (.aload_n 0, 1) := by decide +kernel
theorem dX5_readsHabit_129 : decode cX5_readsHabit 129 = .ok (.getfield 155, 3) := by decide +kernel
theorem dX5_readsHabit_132 : decode cX5_readsHabit 132 = .ok (.imul, 1) := by decide +kernel
theorem dX5_readsHabit_133 : decode cX5_readsHabit 133 = .ok (.aload_n 0, 1) := by decide +kernel
theorem dX5_readsHabit_134 : decode cX5_readsHabit 134 = .ok (.aload_n 0, 1) := by decide +kernel
theorem dX5_readsHabit_135 : decode cX5_readsHabit 135 = .ok (.getfield 149, 3) := by decide +kernel
theorem dX5_readsHabit_138 : decode cX5_readsHabit 138 = .ok (.invokevirtual 152, 3) := by decide +kernel
theorem dX5_readsHabit_141 : decode cX5_readsHabit 141 = .ok (.iadd, 1) := by decide +kernel
theorem dX5_readsHabit_142 : decode cX5_readsHabit 142 = .ok (.bipush 48, 2) := by decide +kernel
theorem dX5_readsHabit_144 : decode cX5_readsHabit 144 = .ok (.isub, 1) := by decide +kernel
theorem dX5_readsHabit_145 : decode cX5_readsHabit 145 = .ok (.putfield 155, 3) := by decide +kernel
theorem dX5_readsHabit_148 : decode cX5_readsHabit 148 = .ok (.aload_n 0, 1) := by decide +kernel
theorem dX5_readsHabit_149 : decode cX5_readsHabit 149 = .ok (.dup, 1) := by decide +kernel
theorem dX5_readsHabit_150 : decode cX5_readsHabit 150 = .ok (.getfield 149, 3) := by decide +kernel
theorem dX5_readsHabit_153 : decode cX5_readsHabit 153 = .ok (.iconst 1, 1) := by decide +kernel
theorem dX5_readsHabit_154 : decode cX5_readsHabit 154 = .ok (.iadd, 1) := by decide +kernel
theorem dX5_readsHabit_155 : decode cX5_readsHabit 155 = .ok (.putfield 149, 3) := by decide +kernel
theorem dX5_readsHabit_158 : decode cX5_readsHabit 158 = .ok (.iconst 1, 1) := by decide +kernel
theorem dX5_readsHabit_159 : decode cX5_readsHabit 159 = .ok (.ireturn, 1) := by decide +kernel
theorem dX5_findError_0 : decode cX5_findError 0 = .ok (.aload_n 0, 1) := by decide +kernel
theorem dX5_findError_1 : decode cX5_findError 1 = .ok (.iconst 0, 1) := by decide +kernel
theorem dX5_findError_2 : decode cX5_findError 2 = .ok (.putfield 149, 3) := by decide +kernel
theorem dX5_findError_5 : decode cX5_findError 5 = .ok (.aload_n 0, 1) := by decide +kernel
theorem dX5_findError_6 : decode cX5_findError 6 = .ok (.invokevirtual 180, 3) := by decide +kernel
theorem dX5_findError_9 : decode cX5_findError 9 = .ok (.ifCond .ne 8, 3) := by decide +kernel
theorem dX5_findError_12 : decode cX5_findError 12 = .ok (.aload_n 0, 1) := by decide +kernel
theorem dX5_findError_13 : decode cX5_findError 13 = .ok (.getfield 149, 3) := by decide +kernel
theorem dX5_findError_16 : decode cX5_findError 16 = .ok (.ireturn, 1) := by decide +kernel
theorem dX5_findError_17 : decode cX5_findError 17 = .ok (.aload_n 0, 1) := by decide +kernel
theorem dX5_findError_18 : decode cX5_findError 18 = .ok (.getfield 149, 3) := by decide +kernel
theorem dX5_findError_21 : decode cX5_findError 21 = .ok (.aload_n 0, 1) := by decide +kernel
theorem dX5_findError_22 : decode cX5_findError 22 = .ok (.getfield 146, 3) := by decide +kernel
theorem dX5_findError_25 : decode cX5_findError 25 = .ok (.if_icmp .ne 6, 3) := by decide +kernel
theorem dX5_findError_28 : decode cX5_findError 28 = .ok (.bipush (-6), 2) := by decide +kernel
theorem dX5_findError_30 : decode cX5_findError 30 = .ok (.ireturn, 1) := by decide +kernel
theorem dX5_findError_31 : decode cX5_findError 31 = .ok (.aload_n 0, 1) := by decide +kernel
theorem dX5_findError_32 : decode cX5_findError 32 = .ok (.bipush 59, 2) := by decide +kernel
theorem dX5_findError_34 : decode cX5_findError 34 = .ok (.invokevirtual 171, 3) := by decide +kernel
theorem dX5_findError_37 : decode cX5_findError 37 = .ok (.ifCond .ne (-32), 3) := by decide +kernel
theorem dX5_findError_40 : decode cX5_findError 40 = .ok (.aload_n 0, 1) := by decide +kernel
theorem dX5_findError_41 : decode cX5_findError 41 = .ok (.getfield 149, 3) := by decide +kernel
theorem dX5_findError_44 : decode cX5_findError 44 = .ok (.ireturn, 1) := by decide +kernel
theorem dX5_syntaxError_0 : decode cX5_syntaxError 0 = .ok (.aload_n 0, 1) := by decide +kernel
theorem dX5_syntaxError_1 : decode cX5_syntaxError 1 = .ok (.invokevirtual 183, 3) := by decide +kernel
theorem dX5_syntaxError_4 : decode cX5_syntaxError 4 = .ok (.ireturn, 1) := by decide +kernel
theorem dX5_learn_0 : decode cX5_learn 0 = .ok (.aload_n 0, 1) := by decide +kernel
theorem dX5_learn_1 : decode cX5_learn 1 = .ok (.invokevirtual 183, 3) := by decide +kernel
theorem dX5_learn_4 : decode cX5_learn 4 = .ok (.bipush (-6), 2) := by decide +kernel
theorem dX5_learn_6 : decode cX5_learn 6 = .ok (.if_icmp .eq 6, 3) := by decide +kernel
theorem dX5_learn_9 : decode cX5_learn 9 = .ok (.bipush (-5), 2) := by decide +kernel
theorem dX5_learn_11 : decode cX5_learn 11 = .ok (.ireturn, 1) := by decide +kernel
theorem dX5_learn_12 : decode cX5_learn 12 = .ok (.aload_n 0, 1) := by decide +kernel
theorem dX5_learn_13 : decode cX5_learn 13 = .ok (.invokevirtual 86, 3) := by decide +kernel
theorem dX5_learn_16 : decode cX5_learn 16 = .ok (.iconst 0, 1) := by decide +kernel
theorem dX5_learn_17 : decode cX5_learn 17 = .ok (.istore_n 1, 1) := by decide +kernel
theorem dX5_learn_18 : decode cX5_learn 18 = .ok (.aload_n 0, 1) := by decide +kernel
theorem dX5_learn_19 : decode cX5_learn 19 = .ok (.iconst 0, 1) := by decide +kernel
theorem dX5_learn_20 : decode cX5_learn 20 = .ok (.putfield 149, 3) := by decide +kernel
theorem dX5_learn_23 : decode cX5_learn 23 = .ok (.iconst 1, 1) := by decide +kernel
theorem dX5_learn_24 : decode cX5_learn 24 = .ok (.istore_n 2, 1) := by decide +kernel
theorem dX5_learn_25 : decode cX5_learn 25 = .ok (.iload_n 2, 1) := by decide +kernel
theorem dX5_learn_26 : decode cX5_learn 26 = .ok (.ifCond .eq 69, 3) := by decide +kernel
theorem dX5_learn_29 : decode cX5_learn 29 = .ok (.aload_n 0, 1) := by decide +kernel
theorem dX5_learn_30 : decode cX5_learn 30 = .ok (.getfield 149, 3) := by decide +kernel
theorem dX5_learn_33 : decode cX5_learn 33 = .ok (.aload_n 0, 1) := by decide +kernel
theorem dX5_learn_34 : decode cX5_learn 34 = .ok (.getfield 146, 3) := by decide +kernel
theorem dX5_learn_37 : decode cX5_learn 37 = .ok (.if_icmp .ge 58, 3) := by decide +kernel
theorem dX5_learn_40 : decode cX5_learn 40 = .ok (.aload_n 0, 1) := by decide +kernel
theorem dX5_learn_41 : decode cX5_learn 41 = .ok (.invokevirtual 180, 3) := by decide +kernel
theorem dX5_learn_44 : decode cX5_learn 44 = .ok (.pop, 1) := by decide +kernel
theorem dX5_learn_45 : decode cX5_learn 45 = .ok (.aload_n 0, 1) := by decide +kernel
theorem dX5_learn_46 : decode cX5_learn 46 = .ok (.bipush 59, 2) := by decide +kernel
theorem dX5_learn_48 : decode cX5_learn 48 = .ok (.invokevirtual 171, 3) := by decide +kernel
theorem dX5_learn_51 : decode cX5_learn 51 = .ok (.pop, 1) := by decide +kernel
theorem dX5_learn_52 : decode cX5_learn 52 = .ok (.aload_n 0, 1) := by decide +kernel
theorem dX5_learn_53 : decode cX5_learn 53 = .ok (.aload_n 0, 1) := by decide +kernel
theorem dX5_learn_54 : decode cX5_learn 54 = .ok (.getfield 168, 3) := by decide +kernel
theorem dX5_learn_57 : decode cX5_learn 57 = .ok (.invokevirtual 45, 3) := by decide +kernel
theorem dX5_learn_60 : decode cX5_learn 60 = .ok (.istore_n 2, 1) := by decide +kernel
theorem dX5_learn_61 : decode cX5_learn 61 = .ok (.iload_n 2, 1) := by decide +kernel
theorem dX5_learn_62 : decode cX5_learn 62 = .ok (.ifCond .eq (-37), 3) := by decide +kernel
theorem dX5_learn_65 : decode cX5_learn 65 = .ok (.aload_n 0, 1) := by decide +kernel
theorem dX5_learn_66 : decode cX5_learn 66 = .ok (.getfield 7, 3) := by decide +kernel
theorem dX5_learn_69 : decode cX5_learn 69 = .ok (.aload_n 0, 1) := by decide +kernel
theorem dX5_learn_70 : decode cX5_learn 70 = .ok (.getfield 168, 3) := by decide +kernel
theorem dX5_learn_73 : decode cX5_learn 73 = .ok (.aload_n 0, 1) := by decide +kernel
theorem dX5_learn_74 : decode cX5_learn 74 = .ok (.getfield 174, 3) := by decide +kernel
theorem dX5_learn_77 : decode cX5_learn 77 = .ok (.aload_n 0, 1) := by decide +kernel
theorem dX5_learn_78 : decode cX5_learn 78 = .ok (.getfield 162, 3) := by decide +kernel
theorem dX5_learn_81 : decode cX5_learn 81 = .ok (.invokestatic 38, 3) := by decide +kernel
theorem dX5_learn_84 : decode cX5_learn 84 = .ok (.aload_n 0, 1) := by decide +kernel
theorem dX5_learn_85 : decode cX5_learn 85 = .ok (.getfield 155, 3) := by decide +kernel
theorem dX5_learn_88 : decode cX5_learn 88 = .ok (.iastore, 1) := by decide +kernel
theorem dX5_learn_89 : decode cX5_learn 89 = .ok (.iinc 1 1, 3) := by decide +kernel
theorem dX5_learn_92 : decode cX5_learn 92 = .ok (.goto (-67), 3) := by decide +kernel
theorem dX5_learn_95 : decode cX5_learn 95 = .ok (.aload_n 0, 1) := by decide +kernel
theorem dX5_learn_96 : decode cX5_learn 96 = .ok (.iconst 0, 1) := by decide +kernel
theorem dX5_learn_97 : decode cX5_learn 97 = .ok (.putfield 146, 3) := by decide +kernel
theorem dX5_learn_100 : decode cX5_learn 100 = .ok (.iload_n 1, 1) := by decide +kernel
theorem dX5_learn_101 : decode cX5_learn 101 = .ok (.ireturn, 1) := by decide +kernel
theorem dX5_undo_0 : decode cX5_undo 0 = .ok (.aload_n 0, 1) := by decide +kernel
theorem dX5_undo_1 : decode cX5_undo 1 = .ok (.getfield 22, 3) := by decide +kernel
theorem dX5_undo_4 : decode cX5_undo 4 = .ok (.ifCond .ne 6, 3) := by decide +kernel
theorem dX5_undo_7 : decode cX5_undo 7 = .ok (.bipush (-3), 2) := by decide +kernel
theorem dX5_undo_9 : decode cX5_undo 9 = .ok (.ireturn, 1) := by decide +kernel
theorem dX5_undo_10 : decode cX5_undo 10 = .ok (.aload_n 0, 1) := by decide +kernel
theorem dX5_undo_11 : decode cX5_undo 11 = .ok (.dup, 1) := by decide +kernel
theorem dX5_undo_12 : decode cX5_undo 12 = .ok (.getfield 22, 3) := by decide +kernel
theorem dX5_undo_15 : decode cX5_undo 15 = .ok (.iconst 1, 1) := by decide +kernel
theorem dX5_undo_16 : decode cX5_undo 16 = .ok (.isub, 1) := by decide +kernel
theorem dX5_undo_17 : decode cX5_undo 17 = .ok (.putfield 22, 3) := by decide +kernel
theorem dX5_undo_20 : decode cX5_undo 20 = .ok (.aload_n 0, 1) := by decide +kernel
theorem dX5_undo_21 : decode cX5_undo 21 = .ok (.getfield 16, 3) := by decide +kernel
theorem dX5_undo_24 : decode cX5_undo 24 = .ok (.aload_n 0, 1) := by decide +kernel
theorem dX5_undo_25 : decode cX5_undo 25 = .ok (.getfield 22, 3) := by decide +kernel
theorem dX5_undo_28 : decode cX5_undo 28 = .ok (.sipush 705, 3) := by decide +kernel
theorem dX5_undo_31 : decode cX5_undo 31 = .ok (.imul, 1) := by decide +kernel
theorem dX5_undo_32 : decode cX5_undo 32 = .ok (.aload_n 0, 1) := by decide +kernel
theorem dX5_undo_33 : decode cX5_undo 33 = .ok (.getfield 7, 3) := by decide +kernel
theorem dX5_undo_36 : decode cX5_undo 36 = .ok (.iconst 0, 1) := by decide +kernel
theorem dX5_undo_37 : decode cX5_undo 37 = .ok (.invokestatic 26, 3) := by decide +kernel
theorem dX5_undo_40 : decode cX5_undo 40 = .ok (.aload_n 0, 1) := by decide +kernel
theorem dX5_undo_41 : decode cX5_undo 41 = .ok (.getfield 22, 3) := by decide +kernel
theorem dX5_undo_44 : decode cX5_undo 44 = .ok (.ireturn, 1) := by decide +kernel
theorem dX5_digest_0 : decode cX5_digest 0 = .ok (.ldc2_w 186, 3) := by decide +kernel
theorem dX5_digest_3 : decode cX5_digest 3 = .ok (.lstore_n 1, 1) := by decide +kernel
theorem dX5_digest_4 : decode cX5_digest 4 = .ok (.iconst 0, 1) := by decide +kernel
theorem dX5_digest_5 : decode cX5_digest 5 = .ok (.istore_n 3, 1) := by decide +kernel
theorem dX5_digest_6 : decode cX5_digest 6 = .ok (.iload_n 3, 1) := by decide +kernel
theorem dX5_digest_7 : decode cX5_digest 7 = .ok (.bipush 6, 2) := by decide +kernel
theorem dX5_digest_9 : decode cX5_digest 9 = .ok (.if_icmp .gt 22, 3) := by decide +kernel
theorem dX5_digest_12 : decode cX5_digest 12 = .ok (.ldc2_w 188, 3) := by decide +kernel
theorem dX5_digest_15 : decode cX5_digest 15 = .ok (.lload_n 1, 1) := by decide +kernel
theorem dX5_digest_16 : decode cX5_digest 16 = .ok (.lmul, 1) := by decide +kernel
theorem dX5_digest_17 : decode cX5_digest 17 = .ok (.aload_n 0, 1) := by decide +kernel
theorem dX5_digest_18 : decode cX5_digest 18 = .ok (.iload_n 3, 1) := by decide +kernel
theorem dX5_digest_19 : decode cX5_digest 19 = .ok (.invokevirtual 125, 3) := by decide +kernel
theorem dX5_digest_22 : decode cX5_digest 22 = .ok (.i2l, 1) := by decide +kernel
theorem dX5_digest_23 : decode cX5_digest 23 = .ok (.ladd, 1) := by decide +kernel
theorem dX5_digest_24 : decode cX5_digest 24 = .ok (.lstore_n 1, 1) := by decide +kernel
theorem dX5_digest_25 : decode cX5_digest 25 = .ok (.iinc 3 1, 3) := by decide +kernel
theorem dX5_digest_28 : decode cX5_digest 28 = .ok (.goto (-22), 3) := by decide +kernel
theorem dX5_digest_31 : decode cX5_digest 31 = .ok (.iconst 0, 1) := by decide +kernel
theorem dX5_digest_32 : decode cX5_digest 32 = .ok (.istore_n 3, 1) := by decide +kernel
theorem dX5_digest_33 : decode cX5_digest 33 = .ok (.iload_n 3, 1) := by decide +kernel
theorem dX5_digest_34 : decode cX5_digest 34 = .ok (.iconst 4, 1) := by decide +kernel
theorem dX5_digest_35 : decode cX5_digest 35 = .ok (.if_icmp .ge 25, 3) := by decide +kernel
theorem dX5_digest_38 : decode cX5_digest 38 = .ok (.ldc2_w 188, 3) := by decide +kernel
theorem dX5_digest_41 : decode cX5_digest 41 = .ok (.lload_n 1, 1) := by decide +kernel
theorem dX5_digest_42 : decode cX5_digest 42 = .ok (.lmul, 1) := by decide +kernel
theorem dX5_digest_43 : decode cX5_digest 43 = .ok (.aload_n 0, 1) := by decide +kernel
theorem dX5_digest_44 : decode cX5_digest 44 = .ok (.getfield 7, 3) := by decide +kernel
theorem dX5_digest_47 : decode cX5_digest 47 = .ok (.iconst 5, 1) := by decide +kernel
theorem dX5_digest_48 : decode cX5_digest 48 = .ok (.iload_n 3, 1) := by decide +kernel
theorem dX5_digest_49 : decode cX5_digest 49 = .ok (.iadd, 1) := by decide +kernel
theorem dX5_digest_50 : decode cX5_digest 50 = .ok (.iaload, 1) := by decide +kernel
theorem dX5_digest_51 : decode cX5_digest 51 = .ok (.i2l, 1) := by decide +kernel
theorem dX5_digest_52 : decode cX5_digest 52 = .ok (.ladd, 1) := by decide +kernel
theorem dX5_digest_53 : decode cX5_digest 53 = .ok (.lstore_n 1, 1) := by decide +kernel
theorem dX5_digest_54 : decode cX5_digest 54 = .ok (.iinc 3 1, 3) := by decide +kernel
theorem dX5_digest_57 : decode cX5_digest 57 = .ok (.goto (-24), 3) := by decide +kernel
theorem dX5_digest_60 : decode cX5_digest 60 = .ok (.iconst 0, 1) := by decide +kernel
theorem dX5_digest_61 : decode cX5_digest 61 = .ok (.istore_n 3, 1) := by decide +kernel
theorem dX5_digest_62 : decode cX5_digest 62 = .ok (.iload_n 3, 1) := by decide +kernel
theorem dX5_digest_63 : decode cX5_digest 63 = .ok (.bipush 8, 2) := by decide +kernel
theorem dX5_digest_65 : decode cX5_digest 65 = .ok (.if_icmp .ge 87, 3) := by decide +kernel
theorem dX5_digest_68 : decode cX5_digest 68 = .ok (.aload_n 0, 1) := by decide +kernel
theorem dX5_digest_69 : decode cX5_digest 69 = .ok (.iload_n 3, 1) := by decide +kernel
theorem dX5_digest_70 : decode cX5_digest 70 = .ok (.invokevirtual 45, 3) := by decide +kernel
theorem dX5_digest_73 : decode cX5_digest 73 = .ok (.ifCond .eq 73, 3) := by decide +kernel
theorem dX5_digest_76 : decode cX5_digest 76 = .ok (.ldc2_w 188, 3) := by decide +kernel
theorem dX5_digest_79 : decode cX5_digest 79 = .ok (.lload_n 1, 1) := by decide +kernel
theorem dX5_digest_80 : decode cX5_digest 80 = .ok (.lmul, 1) := by decide +kernel
theorem dX5_digest_81 : decode cX5_digest 81 = .ok (.iload_n 3, 1) := by decide +kernel
theorem dX5_digest_82 : decode cX5_digest 82 = .ok (.i2l, 1) := by decide +kernel
theorem dX5_digest_83 : decode cX5_digest 83 = .ok (.ladd, 1) := by decide +kernel
theorem dX5_digest_84 : decode cX5_digest 84 = .ok (.lstore_n 1, 1) := by decide +kernel
theorem dX5_digest_85 : decode cX5_digest 85 = .ok (.iconst 0, 1) := by decide +kernel
theorem dX5_digest_86 : decode cX5_digest 86 = .ok (.istore 4, 2) := by decide +kernel
theorem dX5_digest_88 : decode cX5_digest 88 = .ok (.iload 4, 2) := by decide +kernel
theorem dX5_digest_90 : decode cX5_digest 90 = .ok (.iconst 4, 1) := by decide +kernel
theorem dX5_digest_91 : decode cX5_digest 91 = .ok (.if_icmp .gt 24, 3) := by decide +kernel
theorem dX5_digest_94 : decode cX5_digest 94 = .ok (.ldc2_w 188, 3) := by decide +kernel
theorem dX5_digest_97 : decode cX5_digest 97 = .ok (.lload_n 1, 1) := by decide +kernel
theorem dX5_digest_98 : decode cX5_digest 98 = .ok (.lmul, 1) := by decide +kernel
theorem dX5_digest_99 : decode cX5_digest 99 = .ok (.aload_n 0, 1) := by decide +kernel
theorem dX5_digest_100 : decode cX5_digest 100 = .ok (.iload_n 3, 1) := by decide +kernel
theorem dX5_digest_101 : decode cX5_digest 101 = .ok (.iload 4, 2) := by decide +kernel
theorem dX5_digest_103 : decode cX5_digest 103 = .ok (.invokevirtual 134, 3) := by decide +kernel
theorem dX5_digest_106 : decode cX5_digest 106 = .ok (.i2l, 1) := by decide +kernel
theorem dX5_digest_107 : decode cX5_digest 107 = .ok (.ladd, 1) := by decide +kernel
theorem dX5_digest_108 : decode cX5_digest 108 = .ok (.lstore_n 1, 1) := by decide +kernel
theorem dX5_digest_109 : decode cX5_digest 109 = .ok (.iinc 4 1, 3) := by decide +kernel
theorem dX5_digest_112 : decode cX5_digest 112 = .ok (.goto (-24), 3) := by decide +kernel
theorem dX5_digest_115 : decode cX5_digest 115 = .ok (.iconst 0, 1) := by decide +kernel
theorem dX5_digest_116 : decode cX5_digest 116 = .ok (.istore 4, 2) := by decide +kernel
theorem dX5_digest_118 : decode cX5_digest 118 = .ok (.iload 4, 2) := by decide +kernel
theorem dX5_digest_120 : decode cX5_digest 120 = .ok (.bipush 6, 2) := by decide +kernel
theorem dX5_digest_122 : decode cX5_digest 122 = .ok (.if_icmp .ge 24, 3) := by decide +kernel
theorem dX5_digest_125 : decode cX5_digest 125 = .ok (.ldc2_w 188, 3) := by decide +kernel
theorem dX5_digest_128 : decode cX5_digest 128 = .ok (.lload_n 1, 1) := by decide +kernel
theorem dX5_digest_129 : decode cX5_digest 129 = .ok (.lmul, 1) := by decide +kernel
theorem dX5_digest_130 : decode cX5_digest 130 = .ok (.aload_n 0, 1) := by decide +kernel
theorem dX5_digest_131 : decode cX5_digest 131 = .ok (.iload_n 3, 1) := by decide +kernel
theorem dX5_digest_132 : decode cX5_digest 132 = .ok (.iload 4, 2) := by decide +kernel
theorem dX5_digest_134 : decode cX5_digest 134 = .ok (.invokevirtual 58, 3) := by decide +kernel
theorem dX5_digest_137 : decode cX5_digest 137 = .ok (.i2l, 1) := by decide +kernel
theorem dX5_digest_138 : decode cX5_digest 138 = .ok (.ladd, 1) := by decide +kernel
theorem dX5_digest_139 : decode cX5_digest 139 = .ok (.lstore_n 1, 1) := by decide +kernel
theorem dX5_digest_140 : decode cX5_digest 140 = .ok (.iinc 4 1, 3) := by decide +kernel
theorem dX5_digest_143 : decode cX5_digest 143 = .ok (.goto (-25), 3) := by decide +kernel
theorem dX5_digest_146 : decode cX5_digest 146 = .ok (.iinc 3 1, 3) := by decide +kernel
theorem dX5_digest_149 : decode cX5_digest 149 = .ok (.goto (-87), 3) := by decide +kernel
theorem dX5_digest_152 : decode cX5_digest 152 = .ok (.iconst 0, 1) := by decide +kernel
theorem dX5_digest_153 : decode cX5_digest 153 = .ok (.istore_n 3, 1) := by decide +kernel
theorem dX5_digest_154 : decode cX5_digest 154 = .ok (.iload_n 3, 1) := by decide +kernel
theorem dX5_digest_155 : decode cX5_digest 155 = .ok (.bipush 6, 2) := by decide +kernel
theorem dX5_digest_157 : decode cX5_digest 157 = .ok (.if_icmp .ge 22, 3) := by decide +kernel
theorem dX5_digest_160 : decode cX5_digest 160 = .ok (.ldc2_w 188, 3) := by decide +kernel
theorem dX5_digest_163 : decode cX5_digest 163 = .ok (.lload_n 1, 1) := by decide +kernel
theorem dX5_digest_164 : decode cX5_digest 164 = .ok (.lmul, 1) := by decide +kernel
theorem dX5_digest_165 : decode cX5_digest 165 = .ok (.aload_n 0, 1) := by decide +kernel
theorem dX5_digest_166 : decode cX5_digest 166 = .ok (.iload_n 3, 1) := by decide +kernel
theorem dX5_digest_167 : decode cX5_digest 167 = .ok (.invokevirtual 143, 3) := by decide +kernel
theorem dX5_digest_170 : decode cX5_digest 170 = .ok (.i2l, 1) := by decide +kernel
theorem dX5_digest_171 : decode cX5_digest 171 = .ok (.ladd, 1) := by decide +kernel
theorem dX5_digest_172 : decode cX5_digest 172 = .ok (.lstore_n 1, 1) := by decide +kernel
theorem dX5_digest_173 : decode cX5_digest 173 = .ok (.iinc 3 1, 3) := by decide +kernel
theorem dX5_digest_176 : decode cX5_digest 176 = .ok (.goto (-22), 3) := by decide +kernel
theorem dX5_digest_179 : decode cX5_digest 179 = .ok (.iconst 0, 1) := by decide +kernel
theorem dX5_digest_180 : decode cX5_digest 180 = .ok (.istore_n 3, 1) := by decide +kernel
theorem dX5_digest_181 : decode cX5_digest 181 = .ok (.iload_n 3, 1) := by decide +kernel
theorem dX5_digest_182 : decode cX5_digest 182 = .ok (.bipush 8, 2) := by decide +kernel
theorem dX5_digest_184 : decode cX5_digest 184 = .ok (.if_icmp .ge 74, 3) := by decide +kernel
theorem dX5_digest_187 : decode cX5_digest 187 = .ok (.iload_n 3, 1) := by decide +kernel
theorem dX5_digest_188 : decode cX5_digest 188 = .ok (.iconst 1, 1) := by decide +kernel
theorem dX5_digest_189 : decode cX5_digest 189 = .ok (.iadd, 1) := by decide +kernel
theorem dX5_digest_190 : decode cX5_digest 190 = .ok (.istore 4, 2) := by decide +kernel
theorem dX5_digest_192 : decode cX5_digest 192 = .ok (.iload 4, 2) := by decide +kernel
theorem dX5_digest_194 : decode cX5_digest 194 = .ok (.bipush 8, 2) := by decide +kernel
theorem dX5_digest_196 : decode cX5_digest 196 = .ok (.if_icmp .ge 56, 3) := by decide +kernel
theorem dX5_digest_199 : decode cX5_digest 199 = .ok (.aload_n 0, 1) := by decide +kernel
theorem dX5_digest_200 : decode cX5_digest 200 = .ok (.iload_n 3, 1) := by decide +kernel
theorem dX5_digest_201 : decode cX5_digest 201 = .ok (.invokevirtual 45, 3) := by decide +kernel
theorem dX5_digest_204 : decode cX5_digest 204 = .ok (.ifCond .eq 42, 3) := by decide +kernel
theorem dX5_digest_207 : decode cX5_digest 207 = .ok (.aload_n 0, 1) := by decide +kernel
theorem dX5_digest_208 : decode cX5_digest 208 = .ok (.iload 4, 2) := by decide +kernel
theorem dX5_digest_210 : decode cX5_digest 210 = .ok (.invokevirtual 45, 3) := by decide +kernel
theorem dX5_digest_213 : decode cX5_digest 213 = .ok (.ifCond .eq 33, 3) := by decide +kernel
theorem dX5_digest_216 : decode cX5_digest 216 = .ok (.ldc2_w 188, 3) := by decide +kernel
theorem dX5_digest_219 : decode cX5_digest 219 = .ok (.lload_n 1, 1) := by decide +kernel
theorem dX5_digest_220 : decode cX5_digest 220 = .ok (.lmul, 1) := by decide +kernel
theorem dX5_digest_221 : decode cX5_digest 221 = .ok (.aload_n 0, 1) := by decide +kernel
theorem dX5_digest_222 : decode cX5_digest 222 = .ok (.iload_n 3, 1) := by decide +kernel
theorem dX5_digest_223 : decode cX5_digest 223 = .ok (.iload 4, 2) := by decide +kernel
theorem dX5_digest_225 : decode cX5_digest 225 = .ok (.invokevirtual 137, 3) := by decide +kernel
theorem dX5_digest_228 : decode cX5_digest 228 = .ok (.i2l, 1) := by decide +kernel
theorem dX5_digest_229 : decode cX5_digest 229 = .ok (.ladd, 1) := by decide +kernel
theorem dX5_digest_230 : decode cX5_digest 230 = .ok (.lstore_n 1, 1) := by decide +kernel
theorem dX5_digest_231 : decode cX5_digest 231 = .ok (.ldc2_w 188, 3) := by decide +kernel
theorem dX5_digest_234 : decode cX5_digest 234 = .ok (.lload_n 1, 1) := by decide +kernel
theorem dX5_digest_235 : decode cX5_digest 235 = .ok (.lmul, 1) := by decide +kernel
theorem dX5_digest_236 : decode cX5_digest 236 = .ok (.aload_n 0, 1) := by decide +kernel
theorem dX5_digest_237 : decode cX5_digest 237 = .ok (.iload_n 3, 1) := by decide +kernel
theorem dX5_digest_238 : decode cX5_digest 238 = .ok (.iload 4, 2) := by decide +kernel
theorem dX5_digest_240 : decode cX5_digest 240 = .ok (.invokevirtual 140, 3) := by decide +kernel
theorem dX5_digest_243 : decode cX5_digest 243 = .ok (.i2l, 1) := by decide +kernel
theorem dX5_digest_244 : decode cX5_digest 244 = .ok (.ladd, 1) := by decide +kernel
theorem dX5_digest_245 : decode cX5_digest 245 = .ok (.lstore_n 1, 1) := by decide +kernel
theorem dX5_digest_246 : decode cX5_digest 246 = .ok (.iinc 4 1, 3) := by decide +kernel
theorem dX5_digest_249 : decode cX5_digest 249 = .ok (.goto (-57), 3) := by decide +kernel
theorem dX5_digest_252 : decode cX5_digest 252 = .ok (.iinc 3 1, 3) := by decide +kernel
theorem dX5_digest_255 : decode cX5_digest 255 = .ok (.goto (-74), 3) := by decide +kernel
theorem dX5_digest_258 : decode cX5_digest 258 = .ok (.lload_n 1, 1) := by decide +kernel
theorem dX5_digest_259 : decode cX5_digest 259 = .ok (.lreturn, 1) := by decide +kernel
theorem dL_law_0 : decode cL_law 0 = .ok (.new 7, 3) := by decide +kernel
theorem dL_law_3 : decode cL_law 3 = .ok (.dup, 1) := by decide +kernel
theorem dL_law_4 : decode cL_law 4 = .ok (.invokespecial 9, 3) := by decide +kernel
theorem dL_law_7 : decode cL_law 7 = .ok (.astore_n 1, 1) := by decide +kernel
theorem dL_law_8 : decode cL_law 8 = .ok (.new 10, 3) := by decide +kernel
theorem dL_law_11 : decode cL_law 11 = .ok (.dup, 1) := by decide +kernel
theorem dL_law_12 : decode cL_law 12 = .ok (.invokespecial 12, 3) := by decide +kernel
theorem dL_law_15 : decode cL_law 15 = .ok (.astore_n 2, 1) := by decide +kernel
theorem dL_law_16 : decode cL_law 16 = .ok (.iconst 0, 1) := by decide +kernel
theorem dL_law_17 : decode cL_law 17 = .ok (.istore_n 3, 1) := by decide +kernel
theorem dL_law_18 : decode cL_law 18 = .ok (.iload_n 3, 1) := by decide +kernel
theorem dL_law_19 : decode cL_law 19 = .ok (.aload_n 0, 1) := by decide +kernel
theorem dL_law_20 : decode cL_law 20 = .ok (.arraylength, 1) := by decide +kernel
theorem dL_law_21 : decode cL_law 21 = .ok (.iconst 5, 1) := by decide +kernel
theorem dL_law_22 : decode cL_law 22 = .ok (.isub, 1) := by decide +kernel
theorem dL_law_23 : decode cL_law 23 = .ok (.if_icmp .gt 918, 3) := by decide +kernel
theorem dL_law_26 : decode cL_law 26 = .ok (.aload_n 0, 1) := by decide +kernel
theorem dL_law_27 : decode cL_law 27 = .ok (.iload_n 3, 1) := by decide +kernel
theorem dL_law_28 : decode cL_law 28 = .ok (.iaload, 1) := by decide +kernel
theorem dL_law_29 : decode cL_law 29 = .ok (.bipush 31, 2) := by decide +kernel
theorem dL_law_31 : decode cL_law 31 = .ok (.iand, 1) := by decide +kernel
theorem dL_law_32 : decode cL_law 32 = .ok (.tableswitch 903 0 27 #[128, 141, 164, 197, 220, 273, 306, 349, 372, 395, 418, 441, 484, 517, 550, 583, 616, 659, 692, 715, 768, 791, 814, 837, 850, 863, 876, 889], 128) := by decide +kernel
theorem dL_law_160 : decode cL_law 160 = .ok (.aload_n 1, 1) := by decide +kernel
theorem dL_law_161 : decode cL_law 161 = .ok (.invokevirtual 13, 3) := by decide +kernel
theorem dL_law_164 : decode cL_law 164 = .ok (.aload_n 2, 1) := by decide +kernel
theorem dL_law_165 : decode cL_law 165 = .ok (.invokevirtual 17, 3) := by decide +kernel
theorem dL_law_168 : decode cL_law 168 = .ok (.if_icmp .eq 767, 3) := by decide +kernel
theorem dL_law_171 : decode cL_law 171 = .ok (.iconst 0, 1) := by decide +kernel
theorem dL_law_172 : decode cL_law 172 = .ok (.ireturn, 1) := by decide +kernel
theorem dL_law_173 : decode cL_law 173 = .ok (.aload_n 1, 1) := by decide +kernel
theorem dL_law_174 : decode cL_law 174 = .ok (.aload_n 0, 1) := by decide +kernel
theorem dL_law_175 : decode cL_law 175 = .ok (.iload_n 3, 1) := by decide +kernel
theorem dL_law_176 : decode cL_law 176 = .ok (.iconst 1, 1) := by decide +kernel
theorem dL_law_177 : decode cL_law 177 = .ok (.iadd, 1) := by decide +kernel
theorem dL_law_178 : decode cL_law 178 = .ok (.iaload, 1) := by decide +kernel
theorem dL_law_179 : decode cL_law 179 = .ok (.invokevirtual 18, 3) := by decide +kernel
theorem dL_law_182 : decode cL_law 182 = .ok (.aload_n 2, 1) := by decide +kernel
theorem dL_law_183 : decode cL_law 183 = .ok (.aload_n 0, 1) := by decide +kernel
theorem dL_law_184 : decode cL_law 184 = .ok (.iload_n 3, 1) := by decide +kernel
theorem dL_law_185 : decode cL_law 185 = .ok (.iconst 1, 1) := by decide +kernel
theorem dL_law_186 : decode cL_law 186 = .ok (.iadd, 1) := by decide +kernel
theorem dL_law_187 : decode cL_law 187 = .ok (.iaload, 1) := by decide +kernel
theorem dL_law_188 : decode cL_law 188 = .ok (.invokevirtual 22, 3) := by decide +kernel
theorem dL_law_191 : decode cL_law 191 = .ok (.if_icmp .eq 744, 3) := by decide +kernel
theorem dL_law_194 : decode cL_law 194 = .ok (.iconst 0, 1) := by decide +kernel
theorem dL_law_195 : decode cL_law 195 = .ok (.ireturn, 1) := by decide +kernel
theorem dL_law_196 : decode cL_law 196 = .ok (.aload_n 1, 1) := by decide +kernel
theorem dL_law_197 : decode cL_law 197 = .ok (.aload_n 0, 1) := by decide +kernel
theorem dL_law_198 : decode cL_law 198 = .ok (.iload_n 3, 1) := by decide +kernel
theorem dL_law_199 : decode cL_law 199 = .ok (.iconst 1, 1) := by decide +kernel
theorem dL_law_200 : decode cL_law 200 = .ok (.iadd, 1) := by decide +kernel
theorem dL_law_201 : decode cL_law 201 = .ok (.iaload, 1) := by decide +kernel
theorem dL_law_202 : decode cL_law 202 = .ok (.aload_n 0, 1) := by decide +kernel
theorem dL_law_203 : decode cL_law 203 = .ok (.iload_n 3, 1) := by decide +kernel
theorem dL_law_204 : decode cL_law 204 = .ok (.iconst 2, 1) := by decide +kernel
theorem dL_law_205 : decode cL_law 205 = .ok (.iadd, 1) := by decide +kernel
theorem dL_law_206 : decode cL_law 206 = .ok (.iaload, 1) := by decide +kernel
theorem dL_law_207 : decode cL_law 207 = .ok (.invokevirtual 23, 3) := by decide +kernel
theorem dL_law_210 : decode cL_law 210 = .ok (.aload_n 2, 1) := by decide +kernel
theorem dL_law_211 : decode cL_law 211 = .ok (.aload_n 0, 1) := by decide +kernel
theorem dL_law_212 : decode cL_law 212 = .ok (.iload_n 3, 1) := by decide +kernel
theorem dL_law_213 : decode cL_law 213 = .ok (.iconst 1, 1) := by decide +kernel
theorem dL_law_214 : decode cL_law 214 = .ok (.iadd, 1) := by decide +kernel
theorem dL_law_215 : decode cL_law 215 = .ok (.iaload, 1) := by decide +kernel
theorem dL_law_216 : decode cL_law 216 = .ok (.aload_n 0, 1) := by decide +kernel
theorem dL_law_217 : decode cL_law 217 = .ok (.iload_n 3, 1) := by decide +kernel
theorem dL_law_218 : decode cL_law 218 = .ok (.iconst 2, 1) := by decide +kernel
theorem dL_law_219 : decode cL_law 219 = .ok (.iadd, 1) := by decide +kernel
theorem dL_law_220 : decode cL_law 220 = .ok (.iaload, 1) := by decide +kernel
theorem dL_law_221 : decode cL_law 221 = .ok (.invokevirtual 27, 3) := by decide +kernel
theorem dL_law_224 : decode cL_law 224 = .ok (.if_icmp .eq 711, 3) := by decide +kernel
theorem dL_law_227 : decode cL_law 227 = .ok (.iconst 0, 1) := by decide +kernel
theorem dL_law_228 : decode cL_law 228 = .ok (.ireturn, 1) := by decide +kernel
theorem dL_law_229 : decode cL_law 229 = .ok (.aload_n 1, 1) := by decide +kernel
theorem dL_law_230 : decode cL_law 230 = .ok (.aload_n 0, 1) := by decide +kernel
theorem dL_law_231 : decode cL_law 231 = .ok (.iload_n 3, 1) := by decide +kernel
theorem dL_law_232 : decode cL_law 232 = .ok (.iconst 1, 1) := by decide +kernel
theorem dL_law_233 : decode cL_law 233 = .ok (.iadd, 1) := by decide +kernel
theorem dL_law_234 : decode cL_law 234 = .ok (.iaload, 1) := by decide +kernel
theorem dL_law_235 : decode cL_law 235 = .ok (.invokevirtual 28, 3) := by decide +kernel
theorem dL_law_238 : decode cL_law 238 = .ok (.aload_n 2, 1) := by decide +kernel
theorem dL_law_239 : decode cL_law 239 = .ok (.aload_n 0, 1) := by decide +kernel
theorem dL_law_240 : decode cL_law 240 = .ok (.iload_n 3, 1) := by decide +kernel
theorem dL_law_241 : decode cL_law 241 = .ok (.iconst 1, 1) := by decide +kernel
theorem dL_law_242 : decode cL_law 242 = .ok (.iadd, 1) := by decide +kernel
theorem dL_law_243 : decode cL_law 243 = .ok (.iaload, 1) := by decide +kernel
theorem dL_law_244 : decode cL_law 244 = .ok (.invokevirtual 31, 3) := by decide +kernel
theorem dL_law_247 : decode cL_law 247 = .ok (.if_icmp .eq 688, 3) := by decide +kernel
theorem dL_law_250 : decode cL_law 250 = .ok (.iconst 0, 1) := by decide +kernel
theorem dL_law_251 : decode cL_law 251 = .ok (.ireturn, 1) := by decide +kernel
theorem dL_law_252 : decode cL_law 252 = .ok (.aload_n 1, 1) := by decide +kernel
theorem dL_law_253 : decode cL_law 253 = .ok (.aload_n 0, 1) := by decide +kernel
theorem dL_law_254 : decode cL_law 254 = .ok (.iload_n 3, 1) := by decide +kernel
theorem dL_law_255 : decode cL_law 255 = .ok (.iconst 1, 1) := by decide +kernel
theorem dL_law_256 : decode cL_law 256 = .ok (.iadd, 1) := by decide +kernel
theorem dL_law_257 : decode cL_law 257 = .ok (.iaload, 1) := by decide +kernel
theorem dL_law_258 : decode cL_law 258 = .ok (.aload_n 0, 1) := by decide +kernel
theorem dL_law_259 : decode cL_law 259 = .ok (.iload_n 3, 1) := by decide +kernel
theorem dL_law_260 : decode cL_law 260 = .ok (.iconst 2, 1) := by decide +kernel
theorem dL_law_261 : decode cL_law 261 = .ok (.iadd, 1) := by decide +kernel
theorem dL_law_262 : decode cL_law 262 = .ok (.iaload, 1) := by decide +kernel
theorem dL_law_263 : decode cL_law 263 = .ok (.aload_n 0, 1) := by decide +kernel
theorem dL_law_264 : decode cL_law 264 = .ok (.iload_n 3, 1) := by decide +kernel
theorem dL_law_265 : decode cL_law 265 = .ok (.iconst 3, 1) := by decide +kernel
theorem dL_law_266 : decode cL_law 266 = .ok (.iadd, 1) := by decide +kernel
theorem dL_law_267 : decode cL_law 267 = .ok (.iaload, 1) := by decide +kernel
theorem dL_law_268 : decode cL_law 268 = .ok (.aload_n 0, 1) := by decide +kernel
theorem dL_law_269 : decode cL_law 269 = .ok (.iload_n 3, 1) := by decide +kernel
theorem dL_law_270 : decode cL_law 270 = .ok (.iconst 4, 1) := by decide +kernel
theorem dL_law_271 : decode cL_law 271 = .ok (.iadd, 1) := by decide +kernel
theorem dL_law_272 : decode cL_law 272 = .ok (.iaload, 1) := by decide +kernel
theorem dL_law_273 : decode cL_law 273 = .ok (.invokevirtual 32, 3) := by decide +kernel
theorem dL_law_276 : decode cL_law 276 = .ok (.aload_n 2, 1) := by decide +kernel
theorem dL_law_277 : decode cL_law 277 = .ok (.aload_n 0, 1) := by decide +kernel
theorem dL_law_278 : decode cL_law 278 = .ok (.iload_n 3, 1) := by decide +kernel
theorem dL_law_279 : decode cL_law 279 = .ok (.iconst 1, 1) := by decide +kernel
theorem dL_law_280 : decode cL_law 280 = .ok (.iadd, 1) := by decide +kernel
theorem dL_law_281 : decode cL_law 281 = .ok (.iaload, 1) := by decide +kernel
theorem dL_law_282 : decode cL_law 282 = .ok (.aload_n 0, 1) := by decide +kernel
theorem dL_law_283 : decode cL_law 283 = .ok (.iload_n 3, 1) := by decide +kernel
theorem dL_law_284 : decode cL_law 284 = .ok (.iconst 2, 1) := by decide +kernel
theorem dL_law_285 : decode cL_law 285 = .ok (.iadd, 1) := by decide +kernel
theorem dL_law_286 : decode cL_law 286 = .ok (.iaload, 1) := by decide +kernel
theorem dL_law_287 : decode cL_law 287 = .ok (.aload_n 0, 1) := by decide +kernel
theorem dL_law_288 : decode cL_law 288 = .ok (.iload_n 3, 1) := by decide +kernel
theorem dL_law_289 : decode cL_law 289 = .ok (.iconst 3, 1) := by decide +kernel
theorem dL_law_290 : decode cL_law 290 = .ok (.iadd, 1) := by decide +kernel
theorem dL_law_291 : decode cL_law 291 = .ok (.iaload, 1) := by decide +kernel
theorem dL_law_292 : decode cL_law 292 = .ok (.aload_n 0, 1) := by decide +kernel
theorem dL_law_293 : decode cL_law 293 = .ok (.iload_n 3, 1) := by decide +kernel
theorem dL_law_294 : decode cL_law 294 = .ok (.iconst 4, 1) := by decide +kernel
theorem dL_law_295 : decode cL_law 295 = .ok (.iadd, 1) := by decide +kernel
theorem dL_law_296 : decode cL_law 296 = .ok (.iaload, 1) := by decide +kernel
theorem dL_law_297 : decode cL_law 297 = .ok (.invokevirtual 36, 3) := by decide +kernel
theorem dL_law_300 : decode cL_law 300 = .ok (.if_icmp .eq 635, 3) := by decide +kernel
theorem dL_law_303 : decode cL_law 303 = .ok (.iconst 0, 1) := by decide +kernel
theorem dL_law_304 : decode cL_law 304 = .ok (.ireturn, 1) := by decide +kernel
theorem dL_law_305 : decode cL_law 305 = .ok (.aload_n 1, 1) := by decide +kernel
theorem dL_law_306 : decode cL_law 306 = .ok (.aload_n 0, 1) := by decide +kernel
theorem dL_law_307 : decode cL_law 307 = .ok (.iload_n 3, 1) := by decide +kernel
theorem dL_law_308 : decode cL_law 308 = .ok (.iconst 1, 1) := by decide +kernel
theorem dL_law_309 : decode cL_law 309 = .ok (.iadd, 1) := by decide +kernel
theorem dL_law_310 : decode cL_law 310 = .ok (.iaload, 1) := by decide +kernel
theorem dL_law_311 : decode cL_law 311 = .ok (.aload_n 0, 1) := by decide +kernel
theorem dL_law_312 : decode cL_law 312 = .ok (.iload_n 3, 1) := by decide +kernel
theorem dL_law_313 : decode cL_law 313 = .ok (.iconst 2, 1) := by decide +kernel
theorem dL_law_314 : decode cL_law 314 = .ok (.iadd, 1) := by decide +kernel
theorem dL_law_315 : decode cL_law 315 = .ok (.iaload, 1) := by decide +kernel
theorem dL_law_316 : decode cL_law 316 = .ok (.invokevirtual 37, 3) := by decide +kernel
theorem dL_law_319 : decode cL_law 319 = .ok (.aload_n 2, 1) := by decide +kernel
theorem dL_law_320 : decode cL_law 320 = .ok (.aload_n 0, 1) := by decide +kernel
theorem dL_law_321 : decode cL_law 321 = .ok (.iload_n 3, 1) := by decide +kernel
theorem dL_law_322 : decode cL_law 322 = .ok (.iconst 1, 1) := by decide +kernel
theorem dL_law_323 : decode cL_law 323 = .ok (.iadd, 1) := by decide +kernel
theorem dL_law_324 : decode cL_law 324 = .ok (.iaload, 1) := by decide +kernel
theorem dL_law_325 : decode cL_law 325 = .ok (.aload_n 0, 1) := by decide +kernel
theorem dL_law_326 : decode cL_law 326 = .ok (.iload_n 3, 1) := by decide +kernel
theorem dL_law_327 : decode cL_law 327 = .ok (.iconst 2, 1) := by decide +kernel
theorem dL_law_328 : decode cL_law 328 = .ok (.iadd, 1) := by decide +kernel
theorem dL_law_329 : decode cL_law 329 = .ok (.iaload, 1) := by decide +kernel
theorem dL_law_330 : decode cL_law 330 = .ok (.invokevirtual 40, 3) := by decide +kernel
theorem dL_law_333 : decode cL_law 333 = .ok (.if_icmp .eq 602, 3) := by decide +kernel
theorem dL_law_336 : decode cL_law 336 = .ok (.iconst 0, 1) := by decide +kernel
theorem dL_law_337 : decode cL_law 337 = .ok (.ireturn, 1) := by decide +kernel
theorem dL_law_338 : decode cL_law 338 = .ok (.aload_n 1, 1) := by decide +kernel
theorem dL_law_339 : decode cL_law 339 = .ok (.aload_n 0, 1) := by decide +kernel
theorem dL_law_340 : decode cL_law 340 = .ok (.iload_n 3, 1) := by decide +kernel
theorem dL_law_341 : decode cL_law 341 = .ok (.iconst 1, 1) := by decide +kernel
theorem dL_law_342 : decode cL_law 342 = .ok (.iadd, 1) := by decide +kernel
theorem dL_law_343 : decode cL_law 343 = .ok (.iaload, 1) := by decide +kernel
theorem dL_law_344 : decode cL_law 344 = .ok (.aload_n 0, 1) := by decide +kernel
theorem dL_law_345 : decode cL_law 345 = .ok (.iload_n 3, 1) := by decide +kernel
theorem dL_law_346 : decode cL_law 346 = .ok (.iconst 2, 1) := by decide +kernel
theorem dL_law_347 : decode cL_law 347 = .ok (.iadd, 1) := by decide +kernel
theorem dL_law_348 : decode cL_law 348 = .ok (.iaload, 1) := by decide +kernel
theorem dL_law_349 : decode cL_law 349 = .ok (.aload_n 0, 1) := by decide +kernel
theorem dL_law_350 : decode cL_law 350 = .ok (.iload_n 3, 1) := by decide +kernel
theorem dL_law_351 : decode cL_law 351 = .ok (.iconst 3, 1) := by decide +kernel
theorem dL_law_352 : decode cL_law 352 = .ok (.iadd, 1) := by decide +kernel
theorem dL_law_353 : decode cL_law 353 = .ok (.iaload, 1) := by decide +kernel
theorem dL_law_354 : decode cL_law 354 = .ok (.invokevirtual 41, 3) := by decide +kernel
theorem dL_law_357 : decode cL_law 357 = .ok (.aload_n 2, 1) := by decide +kernel
theorem dL_law_358 : decode cL_law 358 = .ok (.aload_n 0, 1) := by decide +kernel
theorem dL_law_359 : decode cL_law 359 = .ok (.iload_n 3, 1) := by decide +kernel
theorem dL_law_360 : decode cL_law 360 = .ok (.iconst 1, 1) := by decide +kernel
theorem dL_law_361 : decode cL_law 361 = .ok (.iadd, 1) := by decide +kernel
theorem dL_law_362 : decode cL_law 362 = .ok (.iaload, 1) := by decide +kernel
theorem dL_law_363 : decode cL_law 363 = .ok (.aload_n 0, 1) := by decide +kernel
theorem dL_law_364 : decode cL_law 364 = .ok (.iload_n 3, 1) := by decide +kernel
theorem dL_law_365 : decode cL_law 365 = .ok (.iconst 2, 1) := by decide +kernel
theorem dL_law_366 : decode cL_law 366 = .ok (.iadd, 1) := by decide +kernel
theorem dL_law_367 : decode cL_law 367 = .ok (.iaload, 1) := by decide +kernel
theorem dL_law_368 : decode cL_law 368 = .ok (.aload_n 0, 1) := by decide +kernel
theorem dL_law_369 : decode cL_law 369 = .ok (.iload_n 3, 1) := by decide +kernel
theorem dL_law_370 : decode cL_law 370 = .ok (.iconst 3, 1) := by decide +kernel
theorem dL_law_371 : decode cL_law 371 = .ok (.iadd, 1) := by decide +kernel
theorem dL_law_372 : decode cL_law 372 = .ok (.iaload, 1) := by decide +kernel
theorem dL_law_373 : decode cL_law 373 = .ok (.invokevirtual 45, 3) := by decide +kernel
theorem dL_law_376 : decode cL_law 376 = .ok (.if_icmp .eq 559, 3) := by decide +kernel
theorem dL_law_379 : decode cL_law 379 = .ok (.iconst 0, 1) := by decide +kernel
theorem dL_law_380 : decode cL_law 380 = .ok (.ireturn, 1) := by decide +kernel
theorem dL_law_381 : decode cL_law 381 = .ok (.aload_n 1, 1) := by decide +kernel
theorem dL_law_382 : decode cL_law 382 = .ok (.aload_n 0, 1) := by decide +kernel
theorem dL_law_383 : decode cL_law 383 = .ok (.iload_n 3, 1) := by decide +kernel
theorem dL_law_384 : decode cL_law 384 = .ok (.iconst 1, 1) := by decide +kernel
theorem dL_law_385 : decode cL_law 385 = .ok (.iadd, 1) := by decide +kernel
theorem dL_law_386 : decode cL_law 386 = .ok (.iaload, 1) := by decide +kernel
theorem dL_law_387 : decode cL_law 387 = .ok (.invokevirtual 46, 3) := by decide +kernel
theorem dL_law_390 : decode cL_law 390 = .ok (.aload_n 2, 1) := by decide +kernel
theorem dL_law_391 : decode cL_law 391 = .ok (.aload_n 0, 1) := by decide +kernel
theorem dL_law_392 : decode cL_law 392 = .ok (.iload_n 3, 1) := by decide +kernel
theorem dL_law_393 : decode cL_law 393 = .ok (.iconst 1, 1) := by decide +kernel
theorem dL_law_394 : decode cL_law 394 = .ok (.iadd, 1) := by decide +kernel
theorem dL_law_395 : decode cL_law 395 = .ok (.iaload, 1) := by decide +kernel
theorem dL_law_396 : decode cL_law 396 = .ok (.invokevirtual 49, 3) := by decide +kernel
theorem dL_law_399 : decode cL_law 399 = .ok (.if_icmp .eq 536, 3) := by decide +kernel
theorem dL_law_402 : decode cL_law 402 = .ok (.iconst 0, 1) := by decide +kernel
theorem dL_law_403 : decode cL_law 403 = .ok (.ireturn, 1) := by decide +kernel
theorem dL_law_404 : decode cL_law 404 = .ok (.aload_n 1, 1) := by decide +kernel
theorem dL_law_405 : decode cL_law 405 = .ok (.aload_n 0, 1) := by decide +kernel
theorem dL_law_406 : decode cL_law 406 = .ok (.iload_n 3, 1) := by decide +kernel
theorem dL_law_407 : decode cL_law 407 = .ok (.iconst 1, 1) := by decide +kernel
theorem dL_law_408 : decode cL_law 408 = .ok (.iadd, 1) := by decide +kernel
theorem dL_law_409 : decode cL_law 409 = .ok (.iaload, 1) := by decide +kernel
theorem dL_law_410 : decode cL_law 410 = .ok (.invokevirtual 50, 3) := by decide +kernel
theorem dL_law_413 : decode cL_law 413 = .ok (.aload_n 2, 1) := by decide +kernel
theorem dL_law_414 : decode cL_law 414 = .ok (.aload_n 0, 1) := by decide +kernel
theorem dL_law_415 : decode cL_law 415 = .ok (.iload_n 3, 1) := by decide +kernel
theorem dL_law_416 : decode cL_law 416 = .ok (.iconst 1, 1) := by decide +kernel
theorem dL_law_417 : decode cL_law 417 = .ok (.iadd, 1) := by decide +kernel
theorem dL_law_418 : decode cL_law 418 = .ok (.iaload, 1) := by decide +kernel
theorem dL_law_419 : decode cL_law 419 = .ok (.invokevirtual 53, 3) := by decide +kernel
theorem dL_law_422 : decode cL_law 422 = .ok (.if_icmp .eq 513, 3) := by decide +kernel
theorem dL_law_425 : decode cL_law 425 = .ok (.iconst 0, 1) := by decide +kernel
theorem dL_law_426 : decode cL_law 426 = .ok (.ireturn, 1) := by decide +kernel
theorem dL_law_427 : decode cL_law 427 = .ok (.aload_n 1, 1) := by decide +kernel
theorem dL_law_428 : decode cL_law 428 = .ok (.aload_n 0, 1) := by decide +kernel
theorem dL_law_429 : decode cL_law 429 = .ok (.iload_n 3, 1) := by decide +kernel
theorem dL_law_430 : decode cL_law 430 = .ok (.iconst 1, 1) := by decide +kernel
theorem dL_law_431 : decode cL_law 431 = .ok (.iadd, 1) := by decide +kernel
theorem dL_law_432 : decode cL_law 432 = .ok (.iaload, 1) := by decide +kernel
theorem dL_law_433 : decode cL_law 433 = .ok (.invokevirtual 54, 3) := by decide +kernel
theorem dL_law_436 : decode cL_law 436 = .ok (.aload_n 2, 1) := by decide +kernel
theorem dL_law_437 : decode cL_law 437 = .ok (.aload_n 0, 1) := by decide +kernel
theorem dL_law_438 : decode cL_law 438 = .ok (.iload_n 3, 1) := by decide +kernel
theorem dL_law_439 : decode cL_law 439 = .ok (.iconst 1, 1) := by decide +kernel
theorem dL_law_440 : decode cL_law 440 = .ok (.iadd, 1) := by decide +kernel
theorem dL_law_441 : decode cL_law 441 = .ok (.iaload, 1) := by decide +kernel
theorem dL_law_442 : decode cL_law 442 = .ok (.invokevirtual 57, 3) := by decide +kernel
theorem dL_law_445 : decode cL_law 445 = .ok (.if_icmp .eq 490, 3) := by decide +kernel
theorem dL_law_448 : decode cL_law 448 = .ok (.iconst 0, 1) := by decide +kernel
theorem dL_law_449 : decode cL_law 449 = .ok (.ireturn, 1) := by decide +kernel
theorem dL_law_450 : decode cL_law 450 = .ok (.aload_n 1, 1) := by decide +kernel
theorem dL_law_451 : decode cL_law 451 = .ok (.aload_n 0, 1) := by decide +kernel
theorem dL_law_452 : decode cL_law 452 = .ok (.iload_n 3, 1) := by decide +kernel
theorem dL_law_453 : decode cL_law 453 = .ok (.iconst 1, 1) := by decide +kernel
theorem dL_law_454 : decode cL_law 454 = .ok (.iadd, 1) := by decide +kernel
theorem dL_law_455 : decode cL_law 455 = .ok (.iaload, 1) := by decide +kernel
theorem dL_law_456 : decode cL_law 456 = .ok (.invokevirtual 58, 3) := by decide +kernel
theorem dL_law_459 : decode cL_law 459 = .ok (.aload_n 2, 1) := by decide +kernel
theorem dL_law_460 : decode cL_law 460 = .ok (.aload_n 0, 1) := by decide +kernel
theorem dL_law_461 : decode cL_law 461 = .ok (.iload_n 3, 1) := by decide +kernel
theorem dL_law_462 : decode cL_law 462 = .ok (.iconst 1, 1) := by decide +kernel
theorem dL_law_463 : decode cL_law 463 = .ok (.iadd, 1) := by decide +kernel
theorem dL_law_464 : decode cL_law 464 = .ok (.iaload, 1) := by decide +kernel
theorem dL_law_465 : decode cL_law 465 = .ok (.invokevirtual 61, 3) := by decide +kernel
theorem dL_law_468 : decode cL_law 468 = .ok (.if_icmp .eq 467, 3) := by decide +kernel
theorem dL_law_471 : decode cL_law 471 = .ok (.iconst 0, 1) := by decide +kernel
theorem dL_law_472 : decode cL_law 472 = .ok (.ireturn, 1) := by decide +kernel
theorem dL_law_473 : decode cL_law 473 = .ok (.aload_n 1, 1) := by decide +kernel
theorem dL_law_474 : decode cL_law 474 = .ok (.aload_n 0, 1) := by decide +kernel
theorem dL_law_475 : decode cL_law 475 = .ok (.iload_n 3, 1) := by decide +kernel
theorem dL_law_476 : decode cL_law 476 = .ok (.iconst 1, 1) := by decide +kernel
theorem dL_law_477 : decode cL_law 477 = .ok (.iadd, 1) := by decide +kernel
theorem dL_law_478 : decode cL_law 478 = .ok (.iaload, 1) := by decide +kernel
theorem dL_law_479 : decode cL_law 479 = .ok (.aload_n 0, 1) := by decide +kernel
theorem dL_law_480 : decode cL_law 480 = .ok (.iload_n 3, 1) := by decide +kernel
theorem dL_law_481 : decode cL_law 481 = .ok (.iconst 2, 1) := by decide +kernel
theorem dL_law_482 : decode cL_law 482 = .ok (.iadd, 1) := by decide +kernel
theorem dL_law_483 : decode cL_law 483 = .ok (.iaload, 1) := by decide +kernel
theorem dL_law_484 : decode cL_law 484 = .ok (.aload_n 0, 1) := by decide +kernel
theorem dL_law_485 : decode cL_law 485 = .ok (.iload_n 3, 1) := by decide +kernel
theorem dL_law_486 : decode cL_law 486 = .ok (.iconst 3, 1) := by decide +kernel
theorem dL_law_487 : decode cL_law 487 = .ok (.iadd, 1) := by decide +kernel
theorem dL_law_488 : decode cL_law 488 = .ok (.iaload, 1) := by decide +kernel
theorem dL_law_489 : decode cL_law 489 = .ok (.invokevirtual 62, 3) := by decide +kernel
theorem dL_law_492 : decode cL_law 492 = .ok (.aload_n 2, 1) := by decide +kernel
theorem dL_law_493 : decode cL_law 493 = .ok (.aload_n 0, 1) := by decide +kernel
theorem dL_law_494 : decode cL_law 494 = .ok (.iload_n 3, 1) := by decide +kernel
theorem dL_law_495 : decode cL_law 495 = .ok (.iconst 1, 1) := by decide +kernel
theorem dL_law_496 : decode cL_law 496 = .ok (.iadd, 1) := by decide +kernel
theorem dL_law_497 : decode cL_law 497 = .ok (.iaload, 1) := by decide +kernel
theorem dL_law_498 : decode cL_law 498 = .ok (.aload_n 0, 1) := by decide +kernel
theorem dL_law_499 : decode cL_law 499 = .ok (.iload_n 3, 1) := by decide +kernel
theorem dL_law_500 : decode cL_law 500 = .ok (.iconst 2, 1) := by decide +kernel
theorem dL_law_501 : decode cL_law 501 = .ok (.iadd, 1) := by decide +kernel
theorem dL_law_502 : decode cL_law 502 = .ok (.iaload, 1) := by decide +kernel
theorem dL_law_503 : decode cL_law 503 = .ok (.aload_n 0, 1) := by decide +kernel
theorem dL_law_504 : decode cL_law 504 = .ok (.iload_n 3, 1) := by decide +kernel
theorem dL_law_505 : decode cL_law 505 = .ok (.iconst 3, 1) := by decide +kernel
theorem dL_law_506 : decode cL_law 506 = .ok (.iadd, 1) := by decide +kernel
theorem dL_law_507 : decode cL_law 507 = .ok (.iaload, 1) := by decide +kernel
theorem dL_law_508 : decode cL_law 508 = .ok (.invokevirtual 65, 3) := by decide +kernel
theorem dL_law_511 : decode cL_law 511 = .ok (.if_icmp .eq 424, 3) := by decide +kernel
theorem dL_law_514 : decode cL_law 514 = .ok (.iconst 0, 1) := by decide +kernel
theorem dL_law_515 : decode cL_law 515 = .ok (.ireturn, 1) := by decide +kernel
theorem dL_law_516 : decode cL_law 516 = .ok (.aload_n 1, 1) := by decide +kernel
theorem dL_law_517 : decode cL_law 517 = .ok (.aload_n 0, 1) := by decide +kernel
theorem dL_law_518 : decode cL_law 518 = .ok (.iload_n 3, 1) := by decide +kernel
theorem dL_law_519 : decode cL_law 519 = .ok (.iconst 1, 1) := by decide +kernel
theorem dL_law_520 : decode cL_law 520 = .ok (.iadd, 1) := by decide +kernel
theorem dL_law_521 : decode cL_law 521 = .ok (.iaload, 1) := by decide +kernel
theorem dL_law_522 : decode cL_law 522 = .ok (.aload_n 0, 1) := by decide +kernel
theorem dL_law_523 : decode cL_law 523 = .ok (.iload_n 3, 1) := by decide +kernel
theorem dL_law_524 : decode cL_law 524 = .ok (.iconst 2, 1) := by decide +kernel
theorem dL_law_525 : decode cL_law 525 = .ok (.iadd, 1) := by decide +kernel
theorem dL_law_526 : decode cL_law 526 = .ok (.iaload, 1) := by decide +kernel
theorem dL_law_527 : decode cL_law 527 = .ok (.invokevirtual 66, 3) := by decide +kernel
theorem dL_law_530 : decode cL_law 530 = .ok (.aload_n 2, 1) := by decide +kernel
theorem dL_law_531 : decode cL_law 531 = .ok (.aload_n 0, 1) := by decide +kernel
theorem dL_law_532 : decode cL_law 532 = .ok (.iload_n 3, 1) := by decide +kernel
theorem dL_law_533 : decode cL_law 533 = .ok (.iconst 1, 1) := by decide +kernel
theorem dL_law_534 : decode cL_law 534 = .ok (.iadd, 1) := by decide +kernel
theorem dL_law_535 : decode cL_law 535 = .ok (.iaload, 1) := by decide +kernel
theorem dL_law_536 : decode cL_law 536 = .ok (.aload_n 0, 1) := by decide +kernel
theorem dL_law_537 : decode cL_law 537 = .ok (.iload_n 3, 1) := by decide +kernel
theorem dL_law_538 : decode cL_law 538 = .ok (.iconst 2, 1) := by decide +kernel
theorem dL_law_539 : decode cL_law 539 = .ok (.iadd, 1) := by decide +kernel
theorem dL_law_540 : decode cL_law 540 = .ok (.iaload, 1) := by decide +kernel
theorem dL_law_541 : decode cL_law 541 = .ok (.invokevirtual 69, 3) := by decide +kernel
theorem dL_law_544 : decode cL_law 544 = .ok (.if_icmp .eq 391, 3) := by decide +kernel
theorem dL_law_547 : decode cL_law 547 = .ok (.iconst 0, 1) := by decide +kernel
theorem dL_law_548 : decode cL_law 548 = .ok (.ireturn, 1) := by decide +kernel
theorem dL_law_549 : decode cL_law 549 = .ok (.aload_n 1, 1) := by decide +kernel
theorem dL_law_550 : decode cL_law 550 = .ok (.aload_n 0, 1) := by decide +kernel
theorem dL_law_551 : decode cL_law 551 = .ok (.iload_n 3, 1) := by decide +kernel
theorem dL_law_552 : decode cL_law 552 = .ok (.iconst 1, 1) := by decide +kernel
theorem dL_law_553 : decode cL_law 553 = .ok (.iadd, 1) := by decide +kernel
theorem dL_law_554 : decode cL_law 554 = .ok (.iaload, 1) := by decide +kernel
theorem dL_law_555 : decode cL_law 555 = .ok (.aload_n 0, 1) := by decide +kernel
theorem dL_law_556 : decode cL_law 556 = .ok (.iload_n 3, 1) := by decide +kernel
theorem dL_law_557 : decode cL_law 557 = .ok (.iconst 2, 1) := by decide +kernel
theorem dL_law_558 : decode cL_law 558 = .ok (.iadd, 1) := by decide +kernel
theorem dL_law_559 : decode cL_law 559 = .ok (.iaload, 1) := by decide +kernel
theorem dL_law_560 : decode cL_law 560 = .ok (.invokevirtual 70, 3) := by decide +kernel
theorem dL_law_563 : decode cL_law 563 = .ok (.aload_n 2, 1) := by decide +kernel
theorem dL_law_564 : decode cL_law 564 = .ok (.aload_n 0, 1) := by decide +kernel
theorem dL_law_565 : decode cL_law 565 = .ok (.iload_n 3, 1) := by decide +kernel
theorem dL_law_566 : decode cL_law 566 = .ok (.iconst 1, 1) := by decide +kernel
theorem dL_law_567 : decode cL_law 567 = .ok (.iadd, 1) := by decide +kernel
theorem dL_law_568 : decode cL_law 568 = .ok (.iaload, 1) := by decide +kernel
theorem dL_law_569 : decode cL_law 569 = .ok (.aload_n 0, 1) := by decide +kernel
theorem dL_law_570 : decode cL_law 570 = .ok (.iload_n 3, 1) := by decide +kernel
theorem dL_law_571 : decode cL_law 571 = .ok (.iconst 2, 1) := by decide +kernel
theorem dL_law_572 : decode cL_law 572 = .ok (.iadd, 1) := by decide +kernel
theorem dL_law_573 : decode cL_law 573 = .ok (.iaload, 1) := by decide +kernel
theorem dL_law_574 : decode cL_law 574 = .ok (.invokevirtual 73, 3) := by decide +kernel
theorem dL_law_577 : decode cL_law 577 = .ok (.if_icmp .eq 358, 3) := by decide +kernel
theorem dL_law_580 : decode cL_law 580 = .ok (.iconst 0, 1) := by decide +kernel
theorem dL_law_581 : decode cL_law 581 = .ok (.ireturn, 1) := by decide +kernel
theorem dL_law_582 : decode cL_law 582 = .ok (.aload_n 1, 1) := by decide +kernel
theorem dL_law_583 : decode cL_law 583 = .ok (.aload_n 0, 1) := by decide +kernel
theorem dL_law_584 : decode cL_law 584 = .ok (.iload_n 3, 1) := by decide +kernel
theorem dL_law_585 : decode cL_law 585 = .ok (.iconst 1, 1) := by decide +kernel
theorem dL_law_586 : decode cL_law 586 = .ok (.iadd, 1) := by decide +kernel
theorem dL_law_587 : decode cL_law 587 = .ok (.iaload, 1) := by decide +kernel
theorem dL_law_588 : decode cL_law 588 = .ok (.aload_n 0, 1) := by decide +kernel
theorem dL_law_589 : decode cL_law 589 = .ok (.iload_n 3, 1) := by decide +kernel
theorem dL_law_590 : decode cL_law 590 = .ok (.iconst 2, 1) := by decide +kernel
theorem dL_law_591 : decode cL_law 591 = .ok (.iadd, 1) := by decide +kernel
theorem dL_law_592 : decode cL_law 592 = .ok (.iaload, 1) := by decide +kernel
theorem dL_law_593 : decode cL_law 593 = .ok (.invokevirtual 74, 3) := by decide +kernel
theorem dL_law_596 : decode cL_law 596 = .ok (.aload_n 2, 1) := by decide +kernel
theorem dL_law_597 : decode cL_law 597 = .ok (.aload_n 0, 1) := by decide +kernel
theorem dL_law_598 : decode cL_law 598 = .ok (.iload_n 3, 1) := by decide +kernel
theorem dL_law_599 : decode cL_law 599 = .ok (.iconst 1, 1) := by decide +kernel
theorem dL_law_600 : decode cL_law 600 = .ok (.iadd, 1) := by decide +kernel
theorem dL_law_601 : decode cL_law 601 = .ok (.iaload, 1) := by decide +kernel
theorem dL_law_602 : decode cL_law 602 = .ok (.aload_n 0, 1) := by decide +kernel
theorem dL_law_603 : decode cL_law 603 = .ok (.iload_n 3, 1) := by decide +kernel
theorem dL_law_604 : decode cL_law 604 = .ok (.iconst 2, 1) := by decide +kernel
theorem dL_law_605 : decode cL_law 605 = .ok (.iadd, 1) := by decide +kernel
theorem dL_law_606 : decode cL_law 606 = .ok (.iaload, 1) := by decide +kernel
theorem dL_law_607 : decode cL_law 607 = .ok (.invokevirtual 77, 3) := by decide +kernel
theorem dL_law_610 : decode cL_law 610 = .ok (.if_icmp .eq 325, 3) := by decide +kernel
theorem dL_law_613 : decode cL_law 613 = .ok (.iconst 0, 1) := by decide +kernel
theorem dL_law_614 : decode cL_law 614 = .ok (.ireturn, 1) := by decide +kernel
theorem dL_law_615 : decode cL_law 615 = .ok (.aload_n 1, 1) := by decide +kernel
theorem dL_law_616 : decode cL_law 616 = .ok (.aload_n 0, 1) := by decide +kernel
theorem dL_law_617 : decode cL_law 617 = .ok (.iload_n 3, 1) := by decide +kernel
theorem dL_law_618 : decode cL_law 618 = .ok (.iconst 1, 1) := by decide +kernel
theorem dL_law_619 : decode cL_law 619 = .ok (.iadd, 1) := by decide +kernel
theorem dL_law_620 : decode cL_law 620 = .ok (.iaload, 1) := by decide +kernel
theorem dL_law_621 : decode cL_law 621 = .ok (.aload_n 0, 1) := by decide +kernel
theorem dL_law_622 : decode cL_law 622 = .ok (.iload_n 3, 1) := by decide +kernel
theorem dL_law_623 : decode cL_law 623 = .ok (.iconst 2, 1) := by decide +kernel
theorem dL_law_624 : decode cL_law 624 = .ok (.iadd, 1) := by decide +kernel
theorem dL_law_625 : decode cL_law 625 = .ok (.iaload, 1) := by decide +kernel
theorem dL_law_626 : decode cL_law 626 = .ok (.invokevirtual 78, 3) := by decide +kernel
theorem dL_law_629 : decode cL_law 629 = .ok (.aload_n 2, 1) := by decide +kernel
theorem dL_law_630 : decode cL_law 630 = .ok (.aload_n 0, 1) := by decide +kernel
theorem dL_law_631 : decode cL_law 631 = .ok (.iload_n 3, 1) := by decide +kernel
theorem dL_law_632 : decode cL_law 632 = .ok (.iconst 1, 1) := by decide +kernel
theorem dL_law_633 : decode cL_law 633 = .ok (.iadd, 1) := by decide +kernel
theorem dL_law_634 : decode cL_law 634 = .ok (.iaload, 1) := by decide +kernel
theorem dL_law_635 : decode cL_law 635 = .ok (.aload_n 0, 1) := by decide +kernel
theorem dL_law_636 : decode cL_law 636 = .ok (.iload_n 3, 1) := by decide +kernel
theorem dL_law_637 : decode cL_law 637 = .ok (.iconst 2, 1) := by decide +kernel
theorem dL_law_638 : decode cL_law 638 = .ok (.iadd, 1) := by decide +kernel
theorem dL_law_639 : decode cL_law 639 = .ok (.iaload, 1) := by decide +kernel
theorem dL_law_640 : decode cL_law 640 = .ok (.invokevirtual 81, 3) := by decide +kernel
theorem dL_law_643 : decode cL_law 643 = .ok (.if_icmp .eq 292, 3) := by decide +kernel
theorem dL_law_646 : decode cL_law 646 = .ok (.iconst 0, 1) := by decide +kernel
theorem dL_law_647 : decode cL_law 647 = .ok (.ireturn, 1) := by decide +kernel
theorem dL_law_648 : decode cL_law 648 = .ok (.aload_n 1, 1) := by decide +kernel
theorem dL_law_649 : decode cL_law 649 = .ok (.aload_n 0, 1) := by decide +kernel
theorem dL_law_650 : decode cL_law 650 = .ok (.iload_n 3, 1) := by decide +kernel
theorem dL_law_651 : decode cL_law 651 = .ok (.iconst 1, 1) := by decide +kernel
theorem dL_law_652 : decode cL_law 652 = .ok (.iadd, 1) := by decide +kernel
theorem dL_law_653 : decode cL_law 653 = .ok (.iaload, 1) := by decide +kernel
theorem dL_law_654 : decode cL_law 654 = .ok (.aload_n 0, 1) := by decide +kernel
theorem dL_law_655 : decode cL_law 655 = .ok (.iload_n 3, 1) := by decide +kernel
theorem dL_law_656 : decode cL_law 656 = .ok (.iconst 2, 1) := by decide +kernel
theorem dL_law_657 : decode cL_law 657 = .ok (.iadd, 1) := by decide +kernel
theorem dL_law_658 : decode cL_law 658 = .ok (.iaload, 1) := by decide +kernel
theorem dL_law_659 : decode cL_law 659 = .ok (.aload_n 0, 1) := by decide +kernel
theorem dL_law_660 : decode cL_law 660 = .ok (.iload_n 3, 1) := by decide +kernel
theorem dL_law_661 : decode cL_law 661 = .ok (.iconst 3, 1) := by decide +kernel
theorem dL_law_662 : decode cL_law 662 = .ok (.iadd, 1) := by decide +kernel
theorem dL_law_663 : decode cL_law 663 = .ok (.iaload, 1) := by decide +kernel
theorem dL_law_664 : decode cL_law 664 = .ok (.invokevirtual 82, 3) := by decide +kernel
theorem dL_law_667 : decode cL_law 667 = .ok (.aload_n 2, 1) := by decide +kernel
theorem dL_law_668 : decode cL_law 668 = .ok (.aload_n 0, 1) := by decide +kernel
theorem dL_law_669 : decode cL_law 669 = .ok (.iload_n 3, 1) := by decide +kernel
theorem dL_law_670 : decode cL_law 670 = .ok (.iconst 1, 1) := by decide +kernel
theorem dL_law_671 : decode cL_law 671 = .ok (.iadd, 1) := by decide +kernel
theorem dL_law_672 : decode cL_law 672 = .ok (.iaload, 1) := by decide +kernel
theorem dL_law_673 : decode cL_law 673 = .ok (.aload_n 0, 1) := by decide +kernel
theorem dL_law_674 : decode cL_law 674 = .ok (.iload_n 3, 1) := by decide +kernel
theorem dL_law_675 : decode cL_law 675 = .ok (.iconst 2, 1) := by decide +kernel
theorem dL_law_676 : decode cL_law 676 = .ok (.iadd, 1) := by decide +kernel
theorem dL_law_677 : decode cL_law 677 = .ok (.iaload, 1) := by decide +kernel
theorem dL_law_678 : decode cL_law 678 = .ok (.aload_n 0, 1) := by decide +kernel
theorem dL_law_679 : decode cL_law 679 = .ok (.iload_n 3, 1) := by decide +kernel
theorem dL_law_680 : decode cL_law 680 = .ok (.iconst 3, 1) := by decide +kernel
theorem dL_law_681 : decode cL_law 681 = .ok (.iadd, 1) := by decide +kernel
theorem dL_law_682 : decode cL_law 682 = .ok (.iaload, 1) := by decide +kernel
theorem dL_law_683 : decode cL_law 683 = .ok (.invokevirtual 85, 3) := by decide +kernel
theorem dL_law_686 : decode cL_law 686 = .ok (.if_icmp .eq 249, 3) := by decide +kernel
theorem dL_law_689 : decode cL_law 689 = .ok (.iconst 0, 1) := by decide +kernel
theorem dL_law_690 : decode cL_law 690 = .ok (.ireturn, 1) := by decide +kernel
theorem dL_law_691 : decode cL_law 691 = .ok (.aload_n 1, 1) := by decide +kernel
theorem dL_law_692 : decode cL_law 692 = .ok (.aload_n 0, 1) := by decide +kernel
theorem dL_law_693 : decode cL_law 693 = .ok (.iload_n 3, 1) := by decide +kernel
theorem dL_law_694 : decode cL_law 694 = .ok (.iconst 1, 1) := by decide +kernel
theorem dL_law_695 : decode cL_law 695 = .ok (.iadd, 1) := by decide +kernel
theorem dL_law_696 : decode cL_law 696 = .ok (.iaload, 1) := by decide +kernel
theorem dL_law_697 : decode cL_law 697 = .ok (.aload_n 0, 1) := by decide +kernel
theorem dL_law_698 : decode cL_law 698 = .ok (.iload_n 3, 1) := by decide +kernel
theorem dL_law_699 : decode cL_law 699 = .ok (.iconst 2, 1) := by decide +kernel
theorem dL_law_700 : decode cL_law 700 = .ok (.iadd, 1) := by decide +kernel
theorem dL_law_701 : decode cL_law 701 = .ok (.iaload, 1) := by decide +kernel
theorem dL_law_702 : decode cL_law 702 = .ok (.invokevirtual 86, 3) := by decide +kernel
theorem dL_law_705 : decode cL_law 705 = .ok (.aload_n 2, 1) := by decide +kernel
theorem dL_law_706 : decode cL_law 706 = .ok (.aload_n 0, 1) := by decide +kernel
theorem dL_law_707 : decode cL_law 707 = .ok (.iload_n 3, 1) := by decide +kernel
theorem dL_law_708 : decode cL_law 708 = .ok (.iconst 1, 1) := by decide +kernel
theorem dL_law_709 : decode cL_law 709 = .ok (.iadd, 1) := by decide +kernel
theorem dL_law_710 : decode cL_law 710 = .ok (.iaload, 1) := by decide +kernel
theorem dL_law_711 : decode cL_law 711 = .ok (.aload_n 0, 1) := by decide +kernel
theorem dL_law_712 : decode cL_law 712 = .ok (.iload_n 3, 1) := by decide +kernel
theorem dL_law_713 : decode cL_law 713 = .ok (.iconst 2, 1) := by decide +kernel
theorem dL_law_714 : decode cL_law 714 = .ok (.iadd, 1) := by decide +kernel
theorem dL_law_715 : decode cL_law 715 = .ok (.iaload, 1) := by decide +kernel
theorem dL_law_716 : decode cL_law 716 = .ok (.invokevirtual 89, 3) := by decide +kernel
theorem dL_law_719 : decode cL_law 719 = .ok (.if_icmp .eq 216, 3) := by decide +kernel
theorem dL_law_722 : decode cL_law 722 = .ok (.iconst 0, 1) := by decide +kernel
theorem dL_law_723 : decode cL_law 723 = .ok (.ireturn, 1) := by decide +kernel
theorem dL_law_724 : decode cL_law 724 = .ok (.aload_n 1, 1) := by decide +kernel
theorem dL_law_725 : decode cL_law 725 = .ok (.aload_n 0, 1) := by decide +kernel
theorem dL_law_726 : decode cL_law 726 = .ok (.iload_n 3, 1) := by decide +kernel
theorem dL_law_727 : decode cL_law 727 = .ok (.iconst 1, 1) := by decide +kernel
theorem dL_law_728 : decode cL_law 728 = .ok (.iadd, 1) := by decide +kernel
theorem dL_law_729 : decode cL_law 729 = .ok (.iaload, 1) := by decide +kernel
theorem dL_law_730 : decode cL_law 730 = .ok (.invokevirtual 90, 3) := by decide +kernel
theorem dL_law_733 : decode cL_law 733 = .ok (.aload_n 2, 1) := by decide +kernel
theorem dL_law_734 : decode cL_law 734 = .ok (.aload_n 0, 1) := by decide +kernel
theorem dL_law_735 : decode cL_law 735 = .ok (.iload_n 3, 1) := by decide +kernel
theorem dL_law_736 : decode cL_law 736 = .ok (.iconst 1, 1) := by decide +kernel
theorem dL_law_737 : decode cL_law 737 = .ok (.iadd, 1) := by decide +kernel
theorem dL_law_738 : decode cL_law 738 = .ok (.iaload, 1) := by decide +kernel
theorem dL_law_739 : decode cL_law 739 = .ok (.invokevirtual 93, 3) := by decide +kernel
theorem dL_law_742 : decode cL_law 742 = .ok (.if_icmp .eq 193, 3) := by decide +kernel
theorem dL_law_745 : decode cL_law 745 = .ok (.iconst 0, 1) := by decide +kernel
theorem dL_law_746 : decode cL_law 746 = .ok (.ireturn, 1) := by decide +kernel
theorem dL_law_747 : decode cL_law 747 = .ok (.aload_n 1, 1) := by decide +kernel
theorem dL_law_748 : decode cL_law 748 = .ok (.aload_n 0, 1) := by decide +kernel
theorem dL_law_749 : decode cL_law 749 = .ok (.iload_n 3, 1) := by decide +kernel
theorem dL_law_750 : decode cL_law 750 = .ok (.iconst 1, 1) := by decide +kernel
theorem dL_law_751 : decode cL_law 751 = .ok (.iadd, 1) := by decide +kernel
theorem dL_law_752 : decode cL_law 752 = .ok (.iaload, 1) := by decide +kernel
theorem dL_law_753 : decode cL_law 753 = .ok (.aload_n 0, 1) := by decide +kernel
theorem dL_law_754 : decode cL_law 754 = .ok (.iload_n 3, 1) := by decide +kernel
theorem dL_law_755 : decode cL_law 755 = .ok (.iconst 2, 1) := by decide +kernel
theorem dL_law_756 : decode cL_law 756 = .ok (.iadd, 1) := by decide +kernel
theorem dL_law_757 : decode cL_law 757 = .ok (.iaload, 1) := by decide +kernel
theorem dL_law_758 : decode cL_law 758 = .ok (.aload_n 0, 1) := by decide +kernel
theorem dL_law_759 : decode cL_law 759 = .ok (.iload_n 3, 1) := by decide +kernel
theorem dL_law_760 : decode cL_law 760 = .ok (.iconst 3, 1) := by decide +kernel
theorem dL_law_761 : decode cL_law 761 = .ok (.iadd, 1) := by decide +kernel
theorem dL_law_762 : decode cL_law 762 = .ok (.iaload, 1) := by decide +kernel
theorem dL_law_763 : decode cL_law 763 = .ok (.aload_n 0, 1) := by decide +kernel
theorem dL_law_764 : decode cL_law 764 = .ok (.iload_n 3, 1) := by decide +kernel
theorem dL_law_765 : decode cL_law 765 = .ok (.iconst 4, 1) := by decide +kernel
theorem dL_law_766 : decode cL_law 766 = .ok (.iadd, 1) := by decide +kernel
theorem dL_law_767 : decode cL_law 767 = .ok (.iaload, 1) := by decide +kernel
theorem dL_law_768 : decode cL_law 768 = .ok (.invokevirtual 94, 3) := by decide +kernel
theorem dL_law_771 : decode cL_law 771 = .ok (.aload_n 2, 1) := by decide +kernel
theorem dL_law_772 : decode cL_law 772 = .ok (.aload_n 0, 1) := by decide +kernel
theorem dL_law_773 : decode cL_law 773 = .ok (.iload_n 3, 1) := by decide +kernel
theorem dL_law_774 : decode cL_law 774 = .ok (.iconst 1, 1) := by decide +kernel
theorem dL_law_775 : decode cL_law 775 = .ok (.iadd, 1) := by decide +kernel
theorem dL_law_776 : decode cL_law 776 = .ok (.iaload, 1) := by decide +kernel
theorem dL_law_777 : decode cL_law 777 = .ok (.aload_n 0, 1) := by decide +kernel
theorem dL_law_778 : decode cL_law 778 = .ok (.iload_n 3, 1) := by decide +kernel
theorem dL_law_779 : decode cL_law 779 = .ok (.iconst 2, 1) := by decide +kernel
theorem dL_law_780 : decode cL_law 780 = .ok (.iadd, 1) := by decide +kernel
theorem dL_law_781 : decode cL_law 781 = .ok (.iaload, 1) := by decide +kernel
theorem dL_law_782 : decode cL_law 782 = .ok (.aload_n 0, 1) := by decide +kernel
theorem dL_law_783 : decode cL_law 783 = .ok (.iload_n 3, 1) := by decide +kernel
theorem dL_law_784 : decode cL_law 784 = .ok (.iconst 3, 1) := by decide +kernel
theorem dL_law_785 : decode cL_law 785 = .ok (.iadd, 1) := by decide +kernel
theorem dL_law_786 : decode cL_law 786 = .ok (.iaload, 1) := by decide +kernel
theorem dL_law_787 : decode cL_law 787 = .ok (.aload_n 0, 1) := by decide +kernel
theorem dL_law_788 : decode cL_law 788 = .ok (.iload_n 3, 1) := by decide +kernel
theorem dL_law_789 : decode cL_law 789 = .ok (.iconst 4, 1) := by decide +kernel
theorem dL_law_790 : decode cL_law 790 = .ok (.iadd, 1) := by decide +kernel
theorem dL_law_791 : decode cL_law 791 = .ok (.iaload, 1) := by decide +kernel
theorem dL_law_792 : decode cL_law 792 = .ok (.invokevirtual 97, 3) := by decide +kernel
theorem dL_law_795 : decode cL_law 795 = .ok (.if_icmp .eq 140, 3) := by decide +kernel
theorem dL_law_798 : decode cL_law 798 = .ok (.iconst 0, 1) := by decide +kernel
theorem dL_law_799 : decode cL_law 799 = .ok (.ireturn, 1) := by decide +kernel
theorem dL_law_800 : decode cL_law 800 = .ok (.aload_n 1, 1) := by decide +kernel
theorem dL_law_801 : decode cL_law 801 = .ok (.aload_n 0, 1) := by decide +kernel
theorem dL_law_802 : decode cL_law 802 = .ok (.iload_n 3, 1) := by decide +kernel
theorem dL_law_803 : decode cL_law 803 = .ok (.iconst 1, 1) := by decide +kernel
theorem dL_law_804 : decode cL_law 804 = .ok (.iadd, 1) := by decide +kernel
theorem dL_law_805 : decode cL_law 805 = .ok (.iaload, 1) := by decide +kernel
theorem dL_law_806 : decode cL_law 806 = .ok (.invokevirtual 98, 3) := by decide +kernel
theorem dL_law_809 : decode cL_law 809 = .ok (.aload_n 2, 1) := by decide +kernel
theorem dL_law_810 : decode cL_law 810 = .ok (.aload_n 0, 1) := by decide +kernel
theorem dL_law_811 : decode cL_law 811 = .ok (.iload_n 3, 1) := by decide +kernel
theorem dL_law_812 : decode cL_law 812 = .ok (.iconst 1, 1) := by decide +kernel
theorem dL_law_813 : decode cL_law 813 = .ok (.iadd, 1) := by decide +kernel
theorem dL_law_814 : decode cL_law 814 = .ok (.iaload, 1) := by decide +kernel
theorem dL_law_815 : decode cL_law 815 = .ok (.invokevirtual 101, 3) := by decide +kernel
theorem dL_law_818 : decode cL_law 818 = .ok (.if_icmp .eq 117, 3) := by decide +kernel
theorem dL_law_821 : decode cL_law 821 = .ok (.iconst 0, 1) := by decide +kernel
theorem dL_law_822 : decode cL_law 822 = .ok (.ireturn, 1) := by decide +kernel
theorem dL_law_823 : decode cL_law 823 = .ok (.aload_n 1, 1) := by decide +kernel
theorem dL_law_824 : decode cL_law 824 = .ok (.aload_n 0, 1) := by decide +kernel
theorem dL_law_825 : decode cL_law 825 = .ok (.iload_n 3, 1) := by decide +kernel
theorem dL_law_826 : decode cL_law 826 = .ok (.iconst 1, 1) := by decide +kernel
theorem dL_law_827 : decode cL_law 827 = .ok (.iadd, 1) := by decide +kernel
theorem dL_law_828 : decode cL_law 828 = .ok (.iaload, 1) := by decide +kernel
theorem dL_law_829 : decode cL_law 829 = .ok (.invokevirtual 102, 3) := by decide +kernel
theorem dL_law_832 : decode cL_law 832 = .ok (.aload_n 2, 1) := by decide +kernel
theorem dL_law_833 : decode cL_law 833 = .ok (.aload_n 0, 1) := by decide +kernel
theorem dL_law_834 : decode cL_law 834 = .ok (.iload_n 3, 1) := by decide +kernel
theorem dL_law_835 : decode cL_law 835 = .ok (.iconst 1, 1) := by decide +kernel
theorem dL_law_836 : decode cL_law 836 = .ok (.iadd, 1) := by decide +kernel
theorem dL_law_837 : decode cL_law 837 = .ok (.iaload, 1) := by decide +kernel
theorem dL_law_838 : decode cL_law 838 = .ok (.invokevirtual 105, 3) := by decide +kernel
theorem dL_law_841 : decode cL_law 841 = .ok (.if_icmp .eq 94, 3) := by decide +kernel
theorem dL_law_844 : decode cL_law 844 = .ok (.iconst 0, 1) := by decide +kernel
theorem dL_law_845 : decode cL_law 845 = .ok (.ireturn, 1) := by decide +kernel
theorem dL_law_846 : decode cL_law 846 = .ok (.aload_n 1, 1) := by decide +kernel
theorem dL_law_847 : decode cL_law 847 = .ok (.aload_n 0, 1) := by decide +kernel
theorem dL_law_848 : decode cL_law 848 = .ok (.iload_n 3, 1) := by decide +kernel
theorem dL_law_849 : decode cL_law 849 = .ok (.iconst 1, 1) := by decide +kernel
theorem dL_law_850 : decode cL_law 850 = .ok (.iadd, 1) := by decide +kernel
theorem dL_law_851 : decode cL_law 851 = .ok (.iaload, 1) := by decide +kernel
theorem dL_law_852 : decode cL_law 852 = .ok (.invokevirtual 106, 3) := by decide +kernel
theorem dL_law_855 : decode cL_law 855 = .ok (.aload_n 2, 1) := by decide +kernel
theorem dL_law_856 : decode cL_law 856 = .ok (.aload_n 0, 1) := by decide +kernel
theorem dL_law_857 : decode cL_law 857 = .ok (.iload_n 3, 1) := by decide +kernel
theorem dL_law_858 : decode cL_law 858 = .ok (.iconst 1, 1) := by decide +kernel
theorem dL_law_859 : decode cL_law 859 = .ok (.iadd, 1) := by decide +kernel
theorem dL_law_860 : decode cL_law 860 = .ok (.iaload, 1) := by decide +kernel
theorem dL_law_861 : decode cL_law 861 = .ok (.invokevirtual 109, 3) := by decide +kernel
theorem dL_law_864 : decode cL_law 864 = .ok (.if_icmp .eq 71, 3) := by decide +kernel
theorem dL_law_867 : decode cL_law 867 = .ok (.iconst 0, 1) := by decide +kernel
theorem dL_law_868 : decode cL_law 868 = .ok (.ireturn, 1) := by decide +kernel
theorem dL_law_869 : decode cL_law 869 = .ok (.aload_n 1, 1) := by decide +kernel
theorem dL_law_870 : decode cL_law 870 = .ok (.invokevirtual 110, 3) := by decide +kernel
theorem dL_law_873 : decode cL_law 873 = .ok (.aload_n 2, 1) := by decide +kernel
theorem dL_law_874 : decode cL_law 874 = .ok (.invokevirtual 113, 3) := by decide +kernel
theorem dL_law_877 : decode cL_law 877 = .ok (.if_icmp .eq 58, 3) := by decide +kernel
theorem dL_law_880 : decode cL_law 880 = .ok (.iconst 0, 1) := by decide +kernel
theorem dL_law_881 : decode cL_law 881 = .ok (.ireturn, 1) := by decide +kernel
theorem dL_law_882 : decode cL_law 882 = .ok (.aload_n 1, 1) := by decide +kernel
theorem dL_law_883 : decode cL_law 883 = .ok (.invokevirtual 114, 3) := by decide +kernel
theorem dL_law_886 : decode cL_law 886 = .ok (.aload_n 2, 1) := by decide +kernel
theorem dL_law_887 : decode cL_law 887 = .ok (.invokevirtual 117, 3) := by decide +kernel
theorem dL_law_890 : decode cL_law 890 = .ok (.if_icmp .eq 45, 3) := by decide +kernel
theorem dL_law_893 : decode cL_law 893 = .ok (.iconst 0, 1) := by decide +kernel
theorem dL_law_894 : decode cL_law 894 = .ok (.ireturn, 1) := by decide +kernel
theorem dL_law_895 : decode cL_law 895 = .ok (.aload_n 1, 1) := by decide +kernel
theorem dL_law_896 : decode cL_law 896 = .ok (.invokevirtual 118, 3) := by decide +kernel
theorem dL_law_899 : decode cL_law 899 = .ok (.aload_n 2, 1) := by decide +kernel
theorem dL_law_900 : decode cL_law 900 = .ok (.invokevirtual 121, 3) := by decide +kernel
theorem dL_law_903 : decode cL_law 903 = .ok (.if_icmp .eq 32, 3) := by decide +kernel
theorem dL_law_906 : decode cL_law 906 = .ok (.iconst 0, 1) := by decide +kernel
theorem dL_law_907 : decode cL_law 907 = .ok (.ireturn, 1) := by decide +kernel
theorem dL_law_908 : decode cL_law 908 = .ok (.aload_n 1, 1) := by decide +kernel
theorem dL_law_909 : decode cL_law 909 = .ok (.invokevirtual 122, 3) := by decide +kernel
theorem dL_law_912 : decode cL_law 912 = .ok (.aload_n 2, 1) := by decide +kernel
theorem dL_law_913 : decode cL_law 913 = .ok (.invokevirtual 125, 3) := by decide +kernel
theorem dL_law_916 : decode cL_law 916 = .ok (.if_icmp .eq 19, 3) := by decide +kernel
theorem dL_law_919 : decode cL_law 919 = .ok (.iconst 0, 1) := by decide +kernel
theorem dL_law_920 : decode cL_law 920 = .ok (.ireturn, 1) := by decide +kernel
theorem dL_law_921 : decode cL_law 921 = .ok (.aload_n 1, 1) := by decide +kernel
theorem dL_law_922 : decode cL_law 922 = .ok (.invokevirtual 126, 3) := by decide +kernel
theorem dL_law_925 : decode cL_law 925 = .ok (.aload_n 2, 1) := by decide +kernel
theorem dL_law_926 : decode cL_law 926 = .ok (.invokevirtual 130, 3) := by decide +kernel
theorem dL_law_929 : decode cL_law 929 = .ok (.lcmp, 1) := by decide +kernel
theorem dL_law_930 : decode cL_law 930 = .ok (.ifCond .eq 5, 3) := by decide +kernel
theorem dL_law_933 : decode cL_law 933 = .ok (.iconst 0, 1) := by decide +kernel
theorem dL_law_934 : decode cL_law 934 = .ok (.ireturn, 1) := by decide +kernel
theorem dL_law_935 : decode cL_law 935 = .ok (.iinc 3 5, 3) := by decide +kernel
theorem dL_law_938 : decode cL_law 938 = .ok (.goto (-920), 3) := by decide +kernel
theorem dL_law_941 : decode cL_law 941 = .ok (.iconst 1, 1) := by decide +kernel
theorem dL_law_942 : decode cL_law 942 = .ok (.ireturn, 1) := by decide +kernel
end
section
/-! THE OWN JUDGEMENT. xX k N a b σ pc lv st: from the frame at pc with locals lv (by place) and stack st, over any heap of N cells that holds the map σ (address -> cell), the method comes to its end as wanted. k: all that stays the same in one call. -/
def xNest : Cond → Bool
  | .fieldLinkNest _ _ _ _ _ _ => true
  | .methodLinkNest _ _ _ _ => true
  | .arrayOver (.object _) => true
  | _ => false
def xG : List Cond := lw_tbl.filter goodWord
def xGN : List Cond := lw_tbl.filter xNest
theorem xG_of {i : Nat} {w : Cond} (h : lw_tbl[i]? = some w) (g : goodWord w = true) : w ∈ xG := List.mem_filter.mpr ⟨List.mem_of_getElem? h, g⟩
theorem xGN_of {i : Nat} {w : Cond} (h : lw_tbl[i]? = some w) (g : xNest w = true) : w ∈ xGN := List.mem_filter.mpr ⟨List.mem_of_getElem? h, g⟩
theorem xG_good {w : Cond} (h : w ∈ xG) : (w.onTables && w.keeps) = true ∨ ∃ ty, w = .arrayClass ty := good_of_word (List.mem_filter.mp h).2
abbrev xEnv : Type := va_G × ClassId × ClassId × ClassId × ClassId
abbrev xI (E : xEnv) : ClassId := E.2.1
abbrev xCh (E : xEnv) : ClassId := E.2.2.1
abbrev xSp (E : xEnv) : ClassId := E.2.2.2.1
abbrev xVi (E : xEnv) : ClassId := E.2.2.2.2
def xtys (E : xEnv) : List (ClassId × FieldType) := [(xI E, .int), (xCh E, .char), (xSp E, .object RX2), (xVi E, .object RX3)]
def xk (E : xEnv) (U : State) : Prop := va_K E.1 vwCl (xtys E) U ∧ ∀ w ∈ xGN, va_Nw w U
theorem xNw_moved {s U : State} (hW : s.WarmedH U.vm) {w : Cond} (hn : xNest w = true) (h : va_Nw w s) : va_Nw w U := by
  cases w with
  | fieldLinkNest a i b n d q => exact va_Nw.warmF hW h
  | methodLinkNest a i x q => exact va_Nw.warmM hW h
  | arrayOver t =>
    cases t with
    | object C => exact va_AO.moved hW.alike h
    | _ => simp [xNest] at hn
  | _ => simp [xNest] at hn
theorem xk.moved {E : xEnv} {s U : State} (hW : s.WarmedH U.vm) (h : xk E s) : xk E U :=
  ⟨va_K.moved hW.alike h.1, fun w hw => xNw_moved hW (List.mem_filter.mp hw).2 (h.2 w hw)⟩
theorem xNw_same {u U : State} (hv : u.vm = U.vm) {w : Cond} (hn : xNest w = true) (h : va_Nw w u) : va_Nw w U := by
  cases w with
  | fieldLinkNest a i b n d q => exact va_Nw.same rfl hv h
  | methodLinkNest a i x q => exact va_Nw.same rfl hv h
  | arrayOver t =>
    cases t with
    | object C => exact va_AO.moved (by rw [hv]; exact Vm.Alike.refl _) h
    | _ => simp [xNest] at hn
  | _ => simp [xNest] at hn
theorem xk.same {E : xEnv} {u U : State} (hv : u.vm = U.vm) (h : xk E u) : xk E U :=
  ⟨va_K.moved (by rw [hv]; exact Vm.Alike.refl _) h.1, fun w hw => xNw_same hv (List.mem_filter.mp hw).2 (h.2 w hw)⟩
abbrev Sg : Type := Nat → Option va_E
def xup (σ : Sg) (a : Nat) (e : va_E) : Sg := fun q => if q = a then some e else σ q
theorem xup_s {σ : Sg} {a : Nat} {e : va_E} : xup σ a e a = some e := by simp [xup]
theorem xup_n {σ : Sg} {a q : Nat} {e : va_E} (h : q ≠ a) : xup σ a e q = σ q := by simp [xup, h]
def xh (E : xEnv) (B N : Nat) (σ : Sg) (H : Heap) : Prop := H.size = N ∧ B ≤ N ∧ ∀ a e, σ a = some e → B ≤ a ∧ va_at E.1 vwCl (a, e) H
theorem xh.put {E : xEnv} {B N : Nat} {σ : Sg} {H H1 : Heap} {a : Nat} {e0 e : va_E} (h : xh E B N σ H) (h0 : σ a = some e0) (z : H1.size = H.size) (oq : ∀ q : Nat, q ≠ a → H1[q]? = H[q]?) (he : va_at E.1 vwCl (a, e) H1) : xh E B N (xup σ a e) H1 := by
  refine ⟨by rw [z]; exact h.1, h.2.1, fun q x hx => ?_⟩
  by_cases hq : q = a
  · subst hq
    rw [xup_s] at hx
    cases hx
    exact ⟨(h.2.2 q e0 h0).1, he⟩
  · rw [xup_n hq] at hx
    obtain ⟨h1, h2⟩ := h.2.2 q x hx
    exact ⟨h1, h2.kept (oq q hq)⟩
theorem xh.push {E : xEnv} {B N : Nat} {σ : Sg} {H H1 : Heap} {e : va_E} (h : xh E B N σ H) (z : H1.size = N + 1) (oq : ∀ q : Nat, q < N → H1[q]? = H[q]?) (he : va_at E.1 vwCl (N, e) H1) : xh E B (N + 1) (xup σ N e) H1 := by
  refine ⟨z, Nat.le_succ_of_le h.2.1, fun q x hx => ?_⟩
  by_cases hq : q = N
  · subst hq
    rw [xup_s] at hx
    cases hx
    exact ⟨h.2.1, he⟩
  · rw [xup_n hq] at hx
    obtain ⟨h1, h2⟩ := h.2.2 q x hx
    have hl := h2.lt
    rw [h.1] at hl
    exact ⟨h1, h2.kept (oq q hl)⟩
theorem xh.fresh {E : xEnv} {B N : Nat} {σ : Sg} {H : Heap} (h : xh E B N σ H) {q : Nat} (hq : N ≤ q) : σ q = none := by
  cases hx : σ q with
  | none => rfl
  | some x =>
    have hl := ((h.2.2 q x hx).2).lt
    rw [h.1] at hl
    exact absurd hl (Nat.not_lt.mpr hq)
-- locals, by place
def xL : Nat → List (Option Value) → List (Nat × Value)
  | _, [] => []
  | i, none :: l => xL (i + 1) l
  | i, some v :: l => (i, v) :: xL (i + 1) l
def xget : List (Option Value) → Nat → Option Value
  | [], _ => none
  | o :: _, 0 => o
  | _ :: l, n + 1 => xget l n
def xset : List (Option Value) → Nat → Value → List (Option Value)
  | [], _, _ => []
  | _ :: l, 0, v => some v :: l
  | o :: l, n + 1, v => o :: xset l n v
def xset2 : List (Option Value) → Nat → Value → List (Option Value)
  | [], _, _ => []
  | [_], 0, v => [some v]
  | _ :: _ :: l, 0, v => some v :: none :: l
  | o :: l, n + 1, v => o :: xset2 l n v
def xnl (lv : List (Option Value)) (i : Nat) : Bool := match i with
  | 0 => true
  | n + 1 => match xget lv n with
    | some v => v.category != 2
    | none => true
theorem xget_mem : ∀ (lv : List (Option Value)) (i j : Nat) (v : Value), xget lv j = some v → (i + j, v) ∈ xL i lv
  | [], _, _, _, h => by simp [xget] at h
  | o :: l, i, 0, v, h => by
    simp only [xget] at h
    subst h
    simp [xL]
  | o :: l, i, n + 1, v, h => by
    simp only [xget] at h
    have h1 := xget_mem l (i + 1) n v h
    rw [show i + 1 + n = i + (n + 1) by omega] at h1
    cases o with
    | none => exact h1
    | some x => exact List.mem_cons_of_mem _ h1
theorem xmem_get : ∀ (lv : List (Option Value)) (i : Nat) (q : Nat × Value), q ∈ xL i lv → i ≤ q.1 ∧ xget lv (q.1 - i) = some q.2
  | [], _, _, h => by simp [xL] at h
  | none :: l, i, q, h => by
    obtain ⟨h1, h2⟩ := xmem_get l (i + 1) q h
    refine ⟨by omega, ?_⟩
    rw [show q.1 - i = (q.1 - (i + 1)) + 1 by omega]
    exact h2
  | some v :: l, i, q, h => by
    rcases List.mem_cons.mp h with h | h
    · subst h
      simp [xget]
    · obtain ⟨h1, h2⟩ := xmem_get l (i + 1) q h
      refine ⟨by omega, ?_⟩
      rw [show q.1 - i = (q.1 - (i + 1)) + 1 by omega]
      exact h2
theorem xmem_of : ∀ (lv : List (Option Value)) (i j : Nat) (v : Value), xget lv j = some v → (i + j, v) ∈ xL i lv := xget_mem
theorem xget_set : ∀ (lv : List (Option Value)) (i j : Nat) (v x : Value), xget (xset lv i v) j = some x → (j = i ∧ x = v) ∨ (j ≠ i ∧ xget lv j = some x)
  | [], _, _, _, _, h => by simp [xset, xget] at h
  | o :: l, 0, 0, v, x, h => by
    simp only [xset, xget] at h
    cases h
    exact Or.inl ⟨rfl, rfl⟩
  | o :: l, 0, j + 1, v, x, h => Or.inr ⟨by omega, h⟩
  | o :: l, i + 1, 0, v, x, h => Or.inr ⟨by omega, h⟩
  | o :: l, i + 1, j + 1, v, x, h => by
    rcases xget_set l i j v x h with ⟨h1, h2⟩ | ⟨h1, h2⟩
    · exact Or.inl ⟨by omega, h2⟩
    · exact Or.inr ⟨by omega, h2⟩
theorem xget_set2 : ∀ (lv : List (Option Value)) (i j : Nat) (v x : Value), xget (xset2 lv i v) j = some x → (j = i ∧ x = v) ∨ (j ≠ i ∧ j ≠ i + 1 ∧ xget lv j = some x)
  | [], _, _, _, _, h => by simp [xset2, xget] at h
  | [o], 0, 0, v, x, h => by
    simp only [xset2, xget] at h
    cases h
    exact Or.inl ⟨rfl, rfl⟩
  | [o], 0, j + 1, v, x, h => by simp [xset2, xget] at h
  | o :: o2 :: l, 0, 0, v, x, h => by
    simp only [xset2, xget] at h
    cases h
    exact Or.inl ⟨rfl, rfl⟩
  | o :: o2 :: l, 0, 1, v, x, h => by simp [xset2, xget] at h
  | o :: o2 :: l, 0, j + 2, v, x, h => Or.inr ⟨by omega, by omega, h⟩
  | [o], i + 1, 0, v, x, h => Or.inr ⟨by omega, by omega, h⟩
  | o :: o2 :: l, i + 1, 0, v, x, h => Or.inr ⟨by omega, by omega, h⟩
  | [o], i + 1, j + 1, v, x, h => by simp [xset2, xget] at h
  | o :: o2 :: l, i + 1, j + 1, v, x, h => by
    rcases xget_set2 (o2 :: l) i j v x h with ⟨h1, h2⟩ | ⟨h1, h2, h3⟩
    · exact Or.inl ⟨by omega, h2⟩
    · exact Or.inr ⟨by omega, by omega, h3⟩
theorem xat {ls : Array Slot} {nL : Nat} {lv : List (Option Value)} (h : lv_has ls nL (xL 0 lv)) {i : Nat} {v : Value} (hg : xget lv i = some v) : ls[i]? = some (.val v) := by
  have h1 := xget_mem lv 0 i v hg
  rw [Nat.zero_add] at h1
  exact h.2.2 _ h1
theorem xst1 {ls : Array Slot} {nL : Nat} {lv : List (Option Value)} {i : Nat} {v : Value} (hn : xnl lv i = true) (h : lv_has ls nL ((i, v) :: (xL 0 lv).filter (fun q => !(q.1 == i) && !(q.1 + 1 == i && q.2.category == 2)))) : lv_has ls nL (xL 0 (xset lv i v)) := by
  refine ⟨h.1, h.2.1, fun q hq => ?_⟩
  obtain ⟨-, h2⟩ := xmem_get _ 0 q hq
  rw [Nat.sub_zero] at h2
  refine h.2.2 q ?_
  rcases xget_set lv i q.1 v q.2 h2 with ⟨h3, h4⟩ | ⟨h3, h4⟩
  · exact List.mem_cons.mpr (Or.inl (Prod.ext h3 h4))
  · refine List.mem_cons_of_mem _ (List.mem_filter.mpr ⟨?_, ?_⟩)
    · have h5 := xget_mem lv 0 q.1 q.2 h4
      rw [Nat.zero_add] at h5
      exact h5
    · by_cases h6 : q.1 + 1 = i
      · subst h6
        simp only [xnl, h4] at hn
        simp at hn
        simp [hn]
      · simp [h3, h6]
theorem xst2 {ls : Array Slot} {nL : Nat} {lv : List (Option Value)} {i : Nat} {v : Value} (hn : xnl lv i = true) (h : lv_has ls nL ((i, v) :: (xL 0 lv).filter (fun q => !(q.1 == i) && (!(q.1 == i + 1) && !(q.1 + 1 == i && q.2.category == 2))))) : lv_has ls nL (xL 0 (xset2 lv i v)) := by
  refine ⟨h.1, h.2.1, fun q hq => ?_⟩
  obtain ⟨-, h2⟩ := xmem_get _ 0 q hq
  rw [Nat.sub_zero] at h2
  refine h.2.2 q ?_
  rcases xget_set2 lv i q.1 v q.2 h2 with ⟨h3, h4⟩ | ⟨h3, h3b, h4⟩
  · exact List.mem_cons.mpr (Or.inl (Prod.ext h3 h4))
  · refine List.mem_cons_of_mem _ (List.mem_filter.mpr ⟨?_, ?_⟩)
    · have h5 := xget_mem lv 0 q.1 q.2 h4
      rw [Nat.zero_add] at h5
      exact h5
    · by_cases h6 : q.1 + 1 = i
      · subst h6
        simp only [xnl, h4] at hn
        simp at hn
        simp [hn]
        omega
      · simp [h3, h3b, h6]
-- the judgement
abbrev xT : Type := Program × Launch × Env × Room × State × MethodId × Array Value × List Frame × Method × Code × (State → Prop) × xEnv × Nat × Nat
def xX (k : xT) (N a b : Nat) (σ : Sg) (pc : Nat) (lv : List (Option Value)) (st : List Value) : Prop := match k with
  | (p, l, e, R, s, m, args, below, meth, c, Q, E, B, nL) => ∀ (H : Heap) (locs : List Loc) (ls : Array Slot), xh E B N σ H → va_S (fun q => B ≤ q) s.heap H locs → lv_has ls nL (xL 0 lv) → W p l e R s m args below meth c H locs a b Q (F0 m pc ls st)
def xC (k : xT) (l0 : Launch) (E0 : xEnv) (B0 : Nat) (cc : ByteArray) (nL0 : Nat) (ret : Option FieldType) (own mn : String) (fr lo ce sl : Nat) : Prop := match k with
  | (p, l, e, R, s, m, args, below, meth, c, Q, E, B, nL) => l = l0 ∧ E = E0 ∧ B = B0 ∧ nL = nL0 ∧ p.tables.exec = Jvm.exec ∧ c.code = cc ∧ c.maxLocals = nL0 ∧ s.vm.findClass own = some m.cls ∧ (∀ w ∈ xG, w.before args s = true) ∧ xk E0 s ∧ (R.frames = fr ∧ R.locals = lo ∧ R.cells = ce ∧ R.slots = sl) ∧ meth.sig.returnType = ret ∧ meth.locks = false ∧ meth.name = mn ∧ B0 ≤ s.heap.size
def xQc (E : xEnv) (B N : Nat) (σ : Sg) (oc : Option Value) : Array Value → State → Outcome → State → Prop := fun _ st o t => o = .returned oc ∧ xh E B N σ t.heap ∧ xk E t ∧ va_F (fun q => B ≤ q) st t
def xZ (k : xT) (ce sl N : Nat) (σ : Sg) (oc : Option Value) : Prop := match k with
  | (p, l, e, R, s, m, args, below, meth, c, Q, E, B, nL) => Q = MQ below (xQc E B N σ oc) args s ce sl (fun q => B ≤ q)
/-- a method's contract: called with av over the map σ (N cells), it answers oc, over the map σ2 (N2 cells) -/
def xM (l : Launch) (y : MethodName) (cc : ByteArray) (nL : Nat) (ret : Option FieldType) (fr lo ce sl : Nat) (E : xEnv) (B : Nat) (av : List Value) (N : Nat) (σ : Sg) (N2 : Nat) (σ2 : Sg) (oc : Option Value) : Prop :=
  Met l y (.code y cc nL ret :: xG) { frames := fr, cells := ce, slots := sl, locals := lo } (va_Pc av (fun U => xh E B N σ U.heap ∧ xk E U)) (xQc E B N2 σ2 oc) ce sl (fun q => B ≤ q)
theorem xM_of {l : Launch} {y : MethodName} {cc : ByteArray} {nL : Nat} {ret : Option FieldType} {fr lo ce sl : Nat} {E : xEnv} {B : Nat} {av : List Value} {N : Nat} {σ : Sg} {N2 : Nat} {σ2 : Sg} {oc : Option Value} (lv0 : List (Option Value)) (hy : plainName y.cls = true) (hlen : (lg_sl av).length ≤ nL) (ha : xL 0 lv0 = lv_args 0 av)
    (body : ∀ k : xT, xC k l E B cc nL ret y.cls y.name fr lo ce sl → xZ k ce sl N2 σ2 oc → xX k N 0 0 σ 0 lv0 []) : xM l y cc nL ret fr lo ce sl E B av N σ N2 σ2 oc := by
  refine Met.ofW (cc := cc) (maxL := nL) (ret := ret) hy rfl ?_
  intro p e s m args below meth c s₁ Bd hml hv
  obtain ⟨rfl, hh, hk⟩ := hv
  have hts := atoms_spec (ws := .code y cc nL ret :: xG) Bd.pre
  have h := body (p, l, e, { frames := fr, cells := ce, slots := sl, locals := lo }, s, m, av.toArray, below, meth, c, MQ below (xQc E B N2 σ2 oc) av.toArray s ce sl (fun q => B ≤ q), E, B, nL) ⟨rfl, rfl, rfl, rfl, Bd.exec, Bd.bytes, hml, findClass_of_methodNamed Bd.named, fun w hw => hts w (List.mem_cons_of_mem _ hw), hk, ⟨rfl, rfl, rfl, rfl⟩, Bd.returns, Bd.notSynchronized, (name_of_methodNamed Bd.named Bd.method).1, by rw [hh.1]; exact hh.2.1⟩ rfl
  rw [lg_entry_eq]
  have hl := lv_entry av (n := nL) hlen
  rw [← ha] at hl
  exact h s.heap [] _ hh va_S.rf hl

section XR
variable {k : xT} {l : Launch} {E : xEnv} {B : Nat} {cc : ByteArray} {nL : Nat} {ret : Option FieldType} {own mn : String} {fr lo ce sl N a b : Nat} {σ : Sg} {pc : Nat} {lv : List (Option Value)} {st : List Value}
theorem xX.widen {a2 b2 : Nat} (h1 : a ≤ a2) (h2 : b ≤ b2) (kk : xX k N a2 b2 σ pc lv st) : xX k N a b σ pc lv st := by
  obtain ⟨p, l0, e, R, s, m, args, below, meth, c, Q, E0, B0, nL0⟩ := k
  intro H locs ls hh hS hl
  exact W.widen h1 h2 (kk H locs ls hh hS hl)
theorem xX.sg {σ2 : Sg} (h : σ = σ2) (kk : xX k N a b σ2 pc lv st) : xX k N a b σ pc lv st := h ▸ kk
theorem xX.cg {σ2 : Sg} {lv2 : List (Option Value)} {st2 : List Value} (kk : xX k N a b σ2 pc lv2 st2) (h : σ = σ2) (h2 : lv = lv2) (h3 : st = st2) : xX k N a b σ pc lv st := by subst h; subst h2; subst h3; exact kk
theorem xX.loc {lv2 : List (Option Value)} (h : lv = lv2) (kk : xX k N a b σ pc lv2 st) : xX k N a b σ pc lv st := h ▸ kk
theorem x_iconst (C : xC k l E B cc nL ret own mn fr lo ce sl) {n : Int} {v : Int32} (d : decode cc pc = .ok (.iconst n, 1)) (hv : Int32.ofInt n = v)
    (kk : xX k N a b σ (pc + 1) lv (.int v :: st)) : xX k N a b σ pc lv (st) := by
  obtain ⟨p, l0, e, R, s, m, args, below, meth, c, Q, E0, B0, nL0⟩ := k
  obtain ⟨rfl, rfl, rfl, rfl, hx, hb, hml, hown, hts, hk, ⟨hR1, hR2, hR3, hR4⟩, hr, hlk, hmn, hBs⟩ := C
  intro H locs ls hh hS hl
  exact lv_iconst hx hb d hv (kk H locs ls hh hS hl)
theorem x_bipush (C : xC k l E B cc nL ret own mn fr lo ce sl) {n : Int} {v : Int32} (d : decode cc pc = .ok (.bipush n, 2)) (hv : (Int8.ofInt n).toInt32 = v)
    (kk : xX k N a b σ (pc + 2) lv (.int v :: st)) : xX k N a b σ pc lv (st) := by
  obtain ⟨p, l0, e, R, s, m, args, below, meth, c, Q, E0, B0, nL0⟩ := k
  obtain ⟨rfl, rfl, rfl, rfl, hx, hb, hml, hown, hts, hk, ⟨hR1, hR2, hR3, hR4⟩, hr, hlk, hmn, hBs⟩ := C
  intro H locs ls hh hS hl
  exact lv_bipush hx hb d hv (kk H locs ls hh hS hl)
theorem x_sipush (C : xC k l E B cc nL ret own mn fr lo ce sl) {n : Int} {v : Int32} (d : decode cc pc = .ok (.sipush n, 3)) (hv : (Int16.ofInt n).toInt32 = v)
    (kk : xX k N a b σ (pc + 3) lv (.int v :: st)) : xX k N a b σ pc lv (st) := by
  obtain ⟨p, l0, e, R, s, m, args, below, meth, c, Q, E0, B0, nL0⟩ := k
  obtain ⟨rfl, rfl, rfl, rfl, hx, hb, hml, hown, hts, hk, ⟨hR1, hR2, hR3, hR4⟩, hr, hlk, hmn, hBs⟩ := C
  intro H locs ls hh hS hl
  exact lv_sipush hx hb d hv (kk H locs ls hh hS hl)
theorem x_ldc (C : xC k l E B cc nL ret own mn fr lo ce sl) {i : Nat} {v : Int32} (w : Cond.constant own i v ∈ xG) (d : decode cc pc = .ok (.ldc i, 2))
    (kk : xX k N a b σ (pc + 2) lv (.int v :: st)) : xX k N a b σ pc lv (st) := by
  obtain ⟨p, l0, e, R, s, m, args, below, meth, c, Q, E0, B0, nL0⟩ := k
  obtain ⟨rfl, rfl, rfl, rfl, hx, hb, hml, hown, hts, hk, ⟨hR1, hR2, hR3, hR4⟩, hr, hlk, hmn, hBs⟩ := C
  intro H locs ls hh hS hl
  exact lv_ldc hx hb hown (hts _ w) d (kk H locs ls hh hS hl)
theorem x_ldc2 (C : xC k l E B cc nL ret own mn fr lo ce sl) {i : Nat} {v : Int64} (w : Cond.constantLong own i v ∈ xG) (d : decode cc pc = .ok (.ldc2_w i, 3))
    (kk : xX k N a b σ (pc + 3) lv (.long v :: st)) : xX k N a b σ pc lv (st) := by
  obtain ⟨p, l0, e, R, s, m, args, below, meth, c, Q, E0, B0, nL0⟩ := k
  obtain ⟨rfl, rfl, rfl, rfl, hx, hb, hml, hown, hts, hk, ⟨hR1, hR2, hR3, hR4⟩, hr, hlk, hmn, hBs⟩ := C
  intro H locs ls hh hS hl
  exact lv_ldc2 hx hb hown (hts _ w) d (kk H locs ls hh hS hl)
theorem x_null (C : xC k l E B cc nL ret own mn fr lo ce sl) (d : decode cc pc = .ok (.aconst_null, 1))
    (kk : xX k N a b σ (pc + 1) lv (.null :: st)) : xX k N a b σ pc lv (st) := by
  obtain ⟨p, l0, e, R, s, m, args, below, meth, c, Q, E0, B0, nL0⟩ := k
  obtain ⟨rfl, rfl, rfl, rfl, hx, hb, hml, hown, hts, hk, ⟨hR1, hR2, hR3, hR4⟩, hr, hlk, hmn, hBs⟩ := C
  intro H locs ls hh hS hl
  exact lv_null hx hb d (kk H locs ls hh hS hl)
theorem x_iload_n (C : xC k l E B cc nL ret own mn fr lo ce sl) {i : Fin 4} {x : Int32} (d : decode cc pc = .ok (.iload_n i, 1)) (h : xget lv (i : Nat) = some (.int x))
    (kk : xX k N a b σ (pc + 1) lv (.int x :: st)) : xX k N a b σ pc lv (st) := by
  obtain ⟨p, l0, e, R, s, m, args, below, meth, c, Q, E0, B0, nL0⟩ := k
  obtain ⟨rfl, rfl, rfl, rfl, hx, hb, hml, hown, hts, hk, ⟨hR1, hR2, hR3, hR4⟩, hr, hlk, hmn, hBs⟩ := C
  intro H locs ls hh hS hl
  exact lv_iload_n hx hb d rfl (xat hl h) (kk H locs ls hh hS hl)
theorem x_iload (C : xC k l E B cc nL ret own mn fr lo ce sl) {i : Nat} {x : Int32} (d : decode cc pc = .ok (.iload i, 2)) (h : xget lv i = some (.int x))
    (kk : xX k N a b σ (pc + 2) lv (.int x :: st)) : xX k N a b σ pc lv (st) := by
  obtain ⟨p, l0, e, R, s, m, args, below, meth, c, Q, E0, B0, nL0⟩ := k
  obtain ⟨rfl, rfl, rfl, rfl, hx, hb, hml, hown, hts, hk, ⟨hR1, hR2, hR3, hR4⟩, hr, hlk, hmn, hBs⟩ := C
  intro H locs ls hh hS hl
  exact lv_iload hx hb d (xat hl h) (kk H locs ls hh hS hl)
theorem x_lload_n (C : xC k l E B cc nL ret own mn fr lo ce sl) {i : Fin 4} {x : Int64} (d : decode cc pc = .ok (.lload_n i, 1)) (h : xget lv (i : Nat) = some (.long x))
    (kk : xX k N a b σ (pc + 1) lv (.long x :: st)) : xX k N a b σ pc lv (st) := by
  obtain ⟨p, l0, e, R, s, m, args, below, meth, c, Q, E0, B0, nL0⟩ := k
  obtain ⟨rfl, rfl, rfl, rfl, hx, hb, hml, hown, hts, hk, ⟨hR1, hR2, hR3, hR4⟩, hr, hlk, hmn, hBs⟩ := C
  intro H locs ls hh hS hl
  exact lv_lload_n hx hb d rfl (xat hl h) (kk H locs ls hh hS hl)
theorem x_lload (C : xC k l E B cc nL ret own mn fr lo ce sl) {i : Nat} {x : Int64} (d : decode cc pc = .ok (.lload i, 2)) (h : xget lv i = some (.long x))
    (kk : xX k N a b σ (pc + 2) lv (.long x :: st)) : xX k N a b σ pc lv (st) := by
  obtain ⟨p, l0, e, R, s, m, args, below, meth, c, Q, E0, B0, nL0⟩ := k
  obtain ⟨rfl, rfl, rfl, rfl, hx, hb, hml, hown, hts, hk, ⟨hR1, hR2, hR3, hR4⟩, hr, hlk, hmn, hBs⟩ := C
  intro H locs ls hh hS hl
  exact lv_lload hx hb d (xat hl h) (kk H locs ls hh hS hl)
theorem x_aload_n (C : xC k l E B cc nL ret own mn fr lo ce sl) {i : Fin 4} {x : Nat} (d : decode cc pc = .ok (.aload_n i, 1)) (h : xget lv (i : Nat) = some (.ref x))
    (kk : xX k N a b σ (pc + 1) lv (.ref x :: st)) : xX k N a b σ pc lv (st) := by
  obtain ⟨p, l0, e, R, s, m, args, below, meth, c, Q, E0, B0, nL0⟩ := k
  obtain ⟨rfl, rfl, rfl, rfl, hx, hb, hml, hown, hts, hk, ⟨hR1, hR2, hR3, hR4⟩, hr, hlk, hmn, hBs⟩ := C
  intro H locs ls hh hS hl
  exact lv_aload_n hx hb d rfl (xat hl h) (kk H locs ls hh hS hl)
theorem x_aload (C : xC k l E B cc nL ret own mn fr lo ce sl) {i : Nat} {x : Nat} (d : decode cc pc = .ok (.aload i, 2)) (h : xget lv i = some (.ref x))
    (kk : xX k N a b σ (pc + 2) lv (.ref x :: st)) : xX k N a b σ pc lv (st) := by
  obtain ⟨p, l0, e, R, s, m, args, below, meth, c, Q, E0, B0, nL0⟩ := k
  obtain ⟨rfl, rfl, rfl, rfl, hx, hb, hml, hown, hts, hk, ⟨hR1, hR2, hR3, hR4⟩, hr, hlk, hmn, hBs⟩ := C
  intro H locs ls hh hS hl
  exact lv_aload hx hb d (xat hl h) (kk H locs ls hh hS hl)
theorem x_aload_nN (C : xC k l E B cc nL ret own mn fr lo ce sl) {i : Fin 4} (d : decode cc pc = .ok (.aload_n i, 1)) (h : xget lv (i : Nat) = some .null)
    (kk : xX k N a b σ (pc + 1) lv (.null :: st)) : xX k N a b σ pc lv (st) := by
  obtain ⟨p, l0, e, R, s, m, args, below, meth, c, Q, E0, B0, nL0⟩ := k
  obtain ⟨rfl, rfl, rfl, rfl, hx, hb, hml, hown, hts, hk, ⟨hR1, hR2, hR3, hR4⟩, hr, hlk, hmn, hBs⟩ := C
  intro H locs ls hh hS hl
  exact lv_aload_nN hx hb d rfl (xat hl h) (kk H locs ls hh hS hl)
theorem x_aloadN (C : xC k l E B cc nL ret own mn fr lo ce sl) {i : Nat} (d : decode cc pc = .ok (.aload i, 2)) (h : xget lv i = some .null)
    (kk : xX k N a b σ (pc + 2) lv (.null :: st)) : xX k N a b σ pc lv (st) := by
  obtain ⟨p, l0, e, R, s, m, args, below, meth, c, Q, E0, B0, nL0⟩ := k
  obtain ⟨rfl, rfl, rfl, rfl, hx, hb, hml, hown, hts, hk, ⟨hR1, hR2, hR3, hR4⟩, hr, hlk, hmn, hBs⟩ := C
  intro H locs ls hh hS hl
  exact lv_aloadN hx hb d (xat hl h) (kk H locs ls hh hS hl)
theorem x_istore_n (C : xC k l E B cc nL ret own mn fr lo ce sl) {i : Fin 4} {x : Int32} (d : decode cc pc = .ok (.istore_n i, 1)) (hn : (i : Nat) < nL) (ho : xnl lv (i : Nat) = true)
    (kk : xX k N a b σ (pc + 1) (xset lv (i : Nat) (.int x)) st) : xX k N a b σ pc lv (.int x :: st) := by
  obtain ⟨p, l0, e, R, s, m, args, below, meth, c, Q, E0, B0, nL0⟩ := k
  obtain ⟨rfl, rfl, rfl, rfl, hx, hb, hml, hown, hts, hk, ⟨hR1, hR2, hR3, hR4⟩, hr, hlk, hmn, hBs⟩ := C
  intro H locs ls hh hS hl
  exact lv_istore_n hx hb d rfl hl hn rfl (fun ls2 hl2 => kk H locs ls2 hh hS (xst1 ho hl2))
theorem x_istore (C : xC k l E B cc nL ret own mn fr lo ce sl) {i : Nat} {x : Int32} (d : decode cc pc = .ok (.istore i, 2)) (hn : (i : Nat) < nL) (ho : xnl lv i = true)
    (kk : xX k N a b σ (pc + 2) (xset lv i (.int x)) st) : xX k N a b σ pc lv (.int x :: st) := by
  obtain ⟨p, l0, e, R, s, m, args, below, meth, c, Q, E0, B0, nL0⟩ := k
  obtain ⟨rfl, rfl, rfl, rfl, hx, hb, hml, hown, hts, hk, ⟨hR1, hR2, hR3, hR4⟩, hr, hlk, hmn, hBs⟩ := C
  intro H locs ls hh hS hl
  exact lv_istore hx hb d hl hn rfl (fun ls2 hl2 => kk H locs ls2 hh hS (xst1 ho hl2))
theorem x_lstore_n (C : xC k l E B cc nL ret own mn fr lo ce sl) {i : Fin 4} {x : Int64} (d : decode cc pc = .ok (.lstore_n i, 1)) (hn : (i : Nat) + 1 < nL) (ho : xnl lv (i : Nat) = true)
    (kk : xX k N a b σ (pc + 1) (xset2 lv (i : Nat) (.long x)) st) : xX k N a b σ pc lv (.long x :: st) := by
  obtain ⟨p, l0, e, R, s, m, args, below, meth, c, Q, E0, B0, nL0⟩ := k
  obtain ⟨rfl, rfl, rfl, rfl, hx, hb, hml, hown, hts, hk, ⟨hR1, hR2, hR3, hR4⟩, hr, hlk, hmn, hBs⟩ := C
  intro H locs ls hh hS hl
  exact lv_lstore_n hx hb d rfl hl hn rfl (fun ls2 hl2 => kk H locs ls2 hh hS (xst2 ho hl2))
theorem x_lstore (C : xC k l E B cc nL ret own mn fr lo ce sl) {i : Nat} {x : Int64} (d : decode cc pc = .ok (.lstore i, 2)) (hn : (i : Nat) + 1 < nL) (ho : xnl lv i = true)
    (kk : xX k N a b σ (pc + 2) (xset2 lv i (.long x)) st) : xX k N a b σ pc lv (.long x :: st) := by
  obtain ⟨p, l0, e, R, s, m, args, below, meth, c, Q, E0, B0, nL0⟩ := k
  obtain ⟨rfl, rfl, rfl, rfl, hx, hb, hml, hown, hts, hk, ⟨hR1, hR2, hR3, hR4⟩, hr, hlk, hmn, hBs⟩ := C
  intro H locs ls hh hS hl
  exact lv_lstore hx hb d hl hn rfl (fun ls2 hl2 => kk H locs ls2 hh hS (xst2 ho hl2))
theorem x_astore_n (C : xC k l E B cc nL ret own mn fr lo ce sl) {i : Fin 4} {x : Nat} (d : decode cc pc = .ok (.astore_n i, 1)) (hn : (i : Nat) < nL) (ho : xnl lv (i : Nat) = true)
    (kk : xX k N a b σ (pc + 1) (xset lv (i : Nat) (.ref x)) st) : xX k N a b σ pc lv (.ref x :: st) := by
  obtain ⟨p, l0, e, R, s, m, args, below, meth, c, Q, E0, B0, nL0⟩ := k
  obtain ⟨rfl, rfl, rfl, rfl, hx, hb, hml, hown, hts, hk, ⟨hR1, hR2, hR3, hR4⟩, hr, hlk, hmn, hBs⟩ := C
  intro H locs ls hh hS hl
  exact lv_astore_n hx hb d rfl hl hn rfl (fun ls2 hl2 => kk H locs ls2 hh hS (xst1 ho hl2))
theorem x_astore (C : xC k l E B cc nL ret own mn fr lo ce sl) {i : Nat} {x : Nat} (d : decode cc pc = .ok (.astore i, 2)) (hn : (i : Nat) < nL) (ho : xnl lv i = true)
    (kk : xX k N a b σ (pc + 2) (xset lv i (.ref x)) st) : xX k N a b σ pc lv (.ref x :: st) := by
  obtain ⟨p, l0, e, R, s, m, args, below, meth, c, Q, E0, B0, nL0⟩ := k
  obtain ⟨rfl, rfl, rfl, rfl, hx, hb, hml, hown, hts, hk, ⟨hR1, hR2, hR3, hR4⟩, hr, hlk, hmn, hBs⟩ := C
  intro H locs ls hh hS hl
  exact lv_astore hx hb d hl hn rfl (fun ls2 hl2 => kk H locs ls2 hh hS (xst1 ho hl2))
theorem x_astore_nN (C : xC k l E B cc nL ret own mn fr lo ce sl) {i : Fin 4} (d : decode cc pc = .ok (.astore_n i, 1)) (hn : (i : Nat) < nL) (ho : xnl lv (i : Nat) = true)
    (kk : xX k N a b σ (pc + 1) (xset lv (i : Nat) .null) st) : xX k N a b σ pc lv (.null :: st) := by
  obtain ⟨p, l0, e, R, s, m, args, below, meth, c, Q, E0, B0, nL0⟩ := k
  obtain ⟨rfl, rfl, rfl, rfl, hx, hb, hml, hown, hts, hk, ⟨hR1, hR2, hR3, hR4⟩, hr, hlk, hmn, hBs⟩ := C
  intro H locs ls hh hS hl
  exact lv_astore_nN hx hb d rfl hl hn rfl (fun ls2 hl2 => kk H locs ls2 hh hS (xst1 ho hl2))
theorem x_astoreN (C : xC k l E B cc nL ret own mn fr lo ce sl) {i : Nat} (d : decode cc pc = .ok (.astore i, 2)) (hn : i < nL) (ho : xnl lv i = true)
    (kk : xX k N a b σ (pc + 2) (xset lv i .null) st) : xX k N a b σ pc lv (.null :: st) := by
  obtain ⟨p, l0, e, R, s, m, args, below, meth, c, Q, E0, B0, nL0⟩ := k
  obtain ⟨rfl, rfl, rfl, rfl, hx, hb, hml, hown, hts, hk, ⟨hR1, hR2, hR3, hR4⟩, hr, hlk, hmn, hBs⟩ := C
  intro H locs ls hh hS hl
  exact lv_astoreN hx hb d hl hn rfl (fun ls2 hl2 => kk H locs ls2 hh hS (xst1 ho hl2))
theorem x_iinc (C : xC k l E B cc nL ret own mn fr lo ce sl) {i : Nat} {n : Int} {x v : Int32} (d : decode cc pc = .ok (.iinc i n, 3)) (h : xget lv i = some (.int x)) (hv : x + Int32.ofInt n = v) (hn : i < nL) (ho : xnl lv i = true)
    (kk : xX k N a b σ (pc + 3) (xset lv i (.int v)) st) : xX k N a b σ pc lv st := by
  obtain ⟨p, l0, e, R, s, m, args, below, meth, c, Q, E0, B0, nL0⟩ := k
  obtain ⟨rfl, rfl, rfl, rfl, hx, hb, hml, hown, hts, hk, ⟨hR1, hR2, hR3, hR4⟩, hr, hlk, hmn, hBs⟩ := C
  intro H locs ls hh hS hl
  have h1 := xget_mem lv 0 i _ h
  rw [Nat.zero_add] at h1
  obtain ⟨j, hj⟩ := List.getElem?_of_mem h1
  exact lv_iinc hx hb d hl (k := j) hj hv hn rfl (fun ls2 hl2 => kk H locs ls2 hh hS (xst1 ho hl2))
theorem x_iadd (C : xC k l E B cc nL ret own mn fr lo ce sl) {x y : Int32} (d : decode cc pc = .ok (.iadd, 1))
    (kk : xX k N a b σ (pc + 1) lv (.int (x + y) :: st)) : xX k N a b σ pc lv (.int y :: .int x :: st) := by
  obtain ⟨p, l0, e, R, s, m, args, below, meth, c, Q, E0, B0, nL0⟩ := k
  obtain ⟨rfl, rfl, rfl, rfl, hx, hb, hml, hown, hts, hk, ⟨hR1, hR2, hR3, hR4⟩, hr, hlk, hmn, hBs⟩ := C
  intro H locs ls hh hS hl
  exact lv_iadd hx hb d (kk H locs ls hh hS hl)
theorem x_isub (C : xC k l E B cc nL ret own mn fr lo ce sl) {x y : Int32} (d : decode cc pc = .ok (.isub, 1))
    (kk : xX k N a b σ (pc + 1) lv (.int (x - y) :: st)) : xX k N a b σ pc lv (.int y :: .int x :: st) := by
  obtain ⟨p, l0, e, R, s, m, args, below, meth, c, Q, E0, B0, nL0⟩ := k
  obtain ⟨rfl, rfl, rfl, rfl, hx, hb, hml, hown, hts, hk, ⟨hR1, hR2, hR3, hR4⟩, hr, hlk, hmn, hBs⟩ := C
  intro H locs ls hh hS hl
  exact lv_isub hx hb d (kk H locs ls hh hS hl)
theorem x_imul (C : xC k l E B cc nL ret own mn fr lo ce sl) {x y : Int32} (d : decode cc pc = .ok (.imul, 1))
    (kk : xX k N a b σ (pc + 1) lv (.int (x * y) :: st)) : xX k N a b σ pc lv (.int y :: .int x :: st) := by
  obtain ⟨p, l0, e, R, s, m, args, below, meth, c, Q, E0, B0, nL0⟩ := k
  obtain ⟨rfl, rfl, rfl, rfl, hx, hb, hml, hown, hts, hk, ⟨hR1, hR2, hR3, hR4⟩, hr, hlk, hmn, hBs⟩ := C
  intro H locs ls hh hS hl
  exact lv_imul hx hb d (kk H locs ls hh hS hl)
theorem x_iand (C : xC k l E B cc nL ret own mn fr lo ce sl) {x y : Int32} (d : decode cc pc = .ok (.iand, 1))
    (kk : xX k N a b σ (pc + 1) lv (.int (x &&& y) :: st)) : xX k N a b σ pc lv (.int y :: .int x :: st) := by
  obtain ⟨p, l0, e, R, s, m, args, below, meth, c, Q, E0, B0, nL0⟩ := k
  obtain ⟨rfl, rfl, rfl, rfl, hx, hb, hml, hown, hts, hk, ⟨hR1, hR2, hR3, hR4⟩, hr, hlk, hmn, hBs⟩ := C
  intro H locs ls hh hS hl
  exact lv_iand hx hb d (kk H locs ls hh hS hl)
theorem x_idiv (C : xC k l E B cc nL ret own mn fr lo ce sl) {x y : Int32} (d : decode cc pc = .ok (.idiv, 1)) (h : ¬ y = 0)
    (kk : xX k N a b σ (pc + 1) lv (.int (x / y) :: st)) : xX k N a b σ pc lv (.int y :: .int x :: st) := by
  obtain ⟨p, l0, e, R, s, m, args, below, meth, c, Q, E0, B0, nL0⟩ := k
  obtain ⟨rfl, rfl, rfl, rfl, hx, hb, hml, hown, hts, hk, ⟨hR1, hR2, hR3, hR4⟩, hr, hlk, hmn, hBs⟩ := C
  intro H locs ls hh hS hl
  exact lv_idiv hx hb d h (kk H locs ls hh hS hl)
theorem x_irem (C : xC k l E B cc nL ret own mn fr lo ce sl) {x y : Int32} (d : decode cc pc = .ok (.irem, 1)) (h : ¬ y = 0)
    (kk : xX k N a b σ (pc + 1) lv (.int (x - x / y * y) :: st)) : xX k N a b σ pc lv (.int y :: .int x :: st) := by
  obtain ⟨p, l0, e, R, s, m, args, below, meth, c, Q, E0, B0, nL0⟩ := k
  obtain ⟨rfl, rfl, rfl, rfl, hx, hb, hml, hown, hts, hk, ⟨hR1, hR2, hR3, hR4⟩, hr, hlk, hmn, hBs⟩ := C
  intro H locs ls hh hS hl
  exact lv_irem hx hb d h (kk H locs ls hh hS hl)
theorem x_ineg (C : xC k l E B cc nL ret own mn fr lo ce sl) {x : Int32} (d : decode cc pc = .ok (.ineg, 1))
    (kk : xX k N a b σ (pc + 1) lv (.int (-x) :: st)) : xX k N a b σ pc lv (.int x :: st) := by
  obtain ⟨p, l0, e, R, s, m, args, below, meth, c, Q, E0, B0, nL0⟩ := k
  obtain ⟨rfl, rfl, rfl, rfl, hx, hb, hml, hown, hts, hk, ⟨hR1, hR2, hR3, hR4⟩, hr, hlk, hmn, hBs⟩ := C
  intro H locs ls hh hS hl
  exact lv_ineg hx hb d (kk H locs ls hh hS hl)
theorem x_ishr (C : xC k l E B cc nL ret own mn fr lo ce sl) {x y : Int32} (d : decode cc pc = .ok (.ishr, 1))
    (kk : xX k N a b σ (pc + 1) lv (.int (x >>> (y &&& 31)) :: st)) : xX k N a b σ pc lv (.int y :: .int x :: st) := by
  obtain ⟨p, l0, e, R, s, m, args, below, meth, c, Q, E0, B0, nL0⟩ := k
  obtain ⟨rfl, rfl, rfl, rfl, hx, hb, hml, hown, hts, hk, ⟨hR1, hR2, hR3, hR4⟩, hr, hlk, hmn, hBs⟩ := C
  intro H locs ls hh hS hl
  exact lv_ishr hx hb d (kk H locs ls hh hS hl)
theorem x_ladd (C : xC k l E B cc nL ret own mn fr lo ce sl) {x y : Int64} (d : decode cc pc = .ok (.ladd, 1))
    (kk : xX k N a b σ (pc + 1) lv (.long (x + y) :: st)) : xX k N a b σ pc lv (.long y :: .long x :: st) := by
  obtain ⟨p, l0, e, R, s, m, args, below, meth, c, Q, E0, B0, nL0⟩ := k
  obtain ⟨rfl, rfl, rfl, rfl, hx, hb, hml, hown, hts, hk, ⟨hR1, hR2, hR3, hR4⟩, hr, hlk, hmn, hBs⟩ := C
  intro H locs ls hh hS hl
  exact lv_ladd hx hb d (kk H locs ls hh hS hl)
theorem x_lmul (C : xC k l E B cc nL ret own mn fr lo ce sl) {x y : Int64} (d : decode cc pc = .ok (.lmul, 1))
    (kk : xX k N a b σ (pc + 1) lv (.long (x * y) :: st)) : xX k N a b σ pc lv (.long y :: .long x :: st) := by
  obtain ⟨p, l0, e, R, s, m, args, below, meth, c, Q, E0, B0, nL0⟩ := k
  obtain ⟨rfl, rfl, rfl, rfl, hx, hb, hml, hown, hts, hk, ⟨hR1, hR2, hR3, hR4⟩, hr, hlk, hmn, hBs⟩ := C
  intro H locs ls hh hS hl
  exact lv_lmul hx hb d (kk H locs ls hh hS hl)
theorem x_i2l (C : xC k l E B cc nL ret own mn fr lo ce sl) {x : Int32} (d : decode cc pc = .ok (.i2l, 1))
    (kk : xX k N a b σ (pc + 1) lv (.long x.toInt64 :: st)) : xX k N a b σ pc lv (.int x :: st) := by
  obtain ⟨p, l0, e, R, s, m, args, below, meth, c, Q, E0, B0, nL0⟩ := k
  obtain ⟨rfl, rfl, rfl, rfl, hx, hb, hml, hown, hts, hk, ⟨hR1, hR2, hR3, hR4⟩, hr, hlk, hmn, hBs⟩ := C
  intro H locs ls hh hS hl
  exact lv_i2l hx hb d rfl (kk H locs ls hh hS hl)
theorem x_i2c (C : xC k l E B cc nL ret own mn fr lo ce sl) {x v : Int32} (d : decode cc pc = .ok (.i2c, 1)) (hv : (x.toUInt32 % 65536).toInt32 = v)
    (kk : xX k N a b σ (pc + 1) lv (.int v :: st)) : xX k N a b σ pc lv (.int x :: st) := by
  obtain ⟨p, l0, e, R, s, m, args, below, meth, c, Q, E0, B0, nL0⟩ := k
  obtain ⟨rfl, rfl, rfl, rfl, hx, hb, hml, hown, hts, hk, ⟨hR1, hR2, hR3, hR4⟩, hr, hlk, hmn, hBs⟩ := C
  intro H locs ls hh hS hl
  exact lv_i2c hx hb d hv (kk H locs ls hh hS hl)
theorem x_dup (C : xC k l E B cc nL ret own mn fr lo ce sl) {v : Value} (d : decode cc pc = .ok (.dup, 1)) (hc : v.category = 1)
    (kk : xX k N a b σ (pc + 1) lv (v :: v :: st)) : xX k N a b σ pc lv (v :: st) := by
  obtain ⟨p, l0, e, R, s, m, args, below, meth, c, Q, E0, B0, nL0⟩ := k
  obtain ⟨rfl, rfl, rfl, rfl, hx, hb, hml, hown, hts, hk, ⟨hR1, hR2, hR3, hR4⟩, hr, hlk, hmn, hBs⟩ := C
  intro H locs ls hh hS hl
  exact lv_dup hx hb d hc (kk H locs ls hh hS hl)
theorem x_dup2 (C : xC k l E B cc nL ret own mn fr lo ce sl) {v u : Value} (d : decode cc pc = .ok (.dup2, 1)) (hc : v.category = 1) (hc2 : u.category = 1)
    (kk : xX k N a b σ (pc + 1) lv (v :: u :: v :: u :: st)) : xX k N a b σ pc lv (v :: u :: st) := by
  obtain ⟨p, l0, e, R, s, m, args, below, meth, c, Q, E0, B0, nL0⟩ := k
  obtain ⟨rfl, rfl, rfl, rfl, hx, hb, hml, hown, hts, hk, ⟨hR1, hR2, hR3, hR4⟩, hr, hlk, hmn, hBs⟩ := C
  intro H locs ls hh hS hl
  exact lv_dup2_11 hx hb d hc hc2 (kk H locs ls hh hS hl)
theorem x_pop (C : xC k l E B cc nL ret own mn fr lo ce sl) {v : Value} (d : decode cc pc = .ok (.pop, 1)) (hc : v.category = 1)
    (kk : xX k N a b σ (pc + 1) lv (st)) : xX k N a b σ pc lv (v :: st) := by
  obtain ⟨p, l0, e, R, s, m, args, below, meth, c, Q, E0, B0, nL0⟩ := k
  obtain ⟨rfl, rfl, rfl, rfl, hx, hb, hml, hown, hts, hk, ⟨hR1, hR2, hR3, hR4⟩, hr, hlk, hmn, hBs⟩ := C
  intro H locs ls hh hS hl
  exact lv_pop hx hb d hc (kk H locs ls hh hS hl)
theorem x_if_eq (C : xC k l E B cc nL ret own mn fr lo ce sl) {x : Int32} {off : Int} (tgt : Nat) (d : decode cc pc = .ok (.ifCond .eq off, 3)) (ht : (pc : Int) + off = (tgt : Int))
    (kt : x = 0 → xX k N a b σ (tgt) lv (st)) (kf : ¬ x = 0 → xX k N a b σ (pc + 3) lv (st)) : xX k N a b σ pc lv (.int x :: st) := by
  obtain ⟨p, l0, e, R, s, m, args, below, meth, c, Q, E0, B0, nL0⟩ := k
  obtain ⟨rfl, rfl, rfl, rfl, hx, hb, hml, hown, hts, hk, ⟨hR1, hR2, hR3, hR4⟩, hr, hlk, hmn, hBs⟩ := C
  intro H locs ls hh hS hl
  exact lv_if_eq hx hb d ht (fun h => kt h H locs ls hh hS hl) (fun h => kf h H locs ls hh hS hl)
theorem x_ic_eq (C : xC k l E B cc nL ret own mn fr lo ce sl) {x y : Int32} {off : Int} (tgt : Nat) (d : decode cc pc = .ok (.if_icmp .eq off, 3)) (ht : (pc : Int) + off = (tgt : Int))
    (kt : x = y → xX k N a b σ (tgt) lv (st)) (kf : ¬ x = y → xX k N a b σ (pc + 3) lv (st)) : xX k N a b σ pc lv (.int y :: .int x :: st) := by
  obtain ⟨p, l0, e, R, s, m, args, below, meth, c, Q, E0, B0, nL0⟩ := k
  obtain ⟨rfl, rfl, rfl, rfl, hx, hb, hml, hown, hts, hk, ⟨hR1, hR2, hR3, hR4⟩, hr, hlk, hmn, hBs⟩ := C
  intro H locs ls hh hS hl
  exact lv_icmp_eq hx hb d ht (fun h => kt h H locs ls hh hS hl) (fun h => kf h H locs ls hh hS hl)
theorem x_if_ne (C : xC k l E B cc nL ret own mn fr lo ce sl) {x : Int32} {off : Int} (tgt : Nat) (d : decode cc pc = .ok (.ifCond .ne off, 3)) (ht : (pc : Int) + off = (tgt : Int))
    (kt : ¬ x = 0 → xX k N a b σ (tgt) lv (st)) (kf : x = 0 → xX k N a b σ (pc + 3) lv (st)) : xX k N a b σ pc lv (.int x :: st) := by
  obtain ⟨p, l0, e, R, s, m, args, below, meth, c, Q, E0, B0, nL0⟩ := k
  obtain ⟨rfl, rfl, rfl, rfl, hx, hb, hml, hown, hts, hk, ⟨hR1, hR2, hR3, hR4⟩, hr, hlk, hmn, hBs⟩ := C
  intro H locs ls hh hS hl
  exact lv_if_ne hx hb d ht (fun h => kt h H locs ls hh hS hl) (fun h => kf h H locs ls hh hS hl)
theorem x_ic_ne (C : xC k l E B cc nL ret own mn fr lo ce sl) {x y : Int32} {off : Int} (tgt : Nat) (d : decode cc pc = .ok (.if_icmp .ne off, 3)) (ht : (pc : Int) + off = (tgt : Int))
    (kt : ¬ x = y → xX k N a b σ (tgt) lv (st)) (kf : x = y → xX k N a b σ (pc + 3) lv (st)) : xX k N a b σ pc lv (.int y :: .int x :: st) := by
  obtain ⟨p, l0, e, R, s, m, args, below, meth, c, Q, E0, B0, nL0⟩ := k
  obtain ⟨rfl, rfl, rfl, rfl, hx, hb, hml, hown, hts, hk, ⟨hR1, hR2, hR3, hR4⟩, hr, hlk, hmn, hBs⟩ := C
  intro H locs ls hh hS hl
  exact lv_icmp_ne hx hb d ht (fun h => kt h H locs ls hh hS hl) (fun h => kf h H locs ls hh hS hl)
theorem x_if_lt (C : xC k l E B cc nL ret own mn fr lo ce sl) {x : Int32} {off : Int} (tgt : Nat) (d : decode cc pc = .ok (.ifCond .lt off, 3)) (ht : (pc : Int) + off = (tgt : Int))
    (kt : x < 0 → xX k N a b σ (tgt) lv (st)) (kf : ¬ x < 0 → xX k N a b σ (pc + 3) lv (st)) : xX k N a b σ pc lv (.int x :: st) := by
  obtain ⟨p, l0, e, R, s, m, args, below, meth, c, Q, E0, B0, nL0⟩ := k
  obtain ⟨rfl, rfl, rfl, rfl, hx, hb, hml, hown, hts, hk, ⟨hR1, hR2, hR3, hR4⟩, hr, hlk, hmn, hBs⟩ := C
  intro H locs ls hh hS hl
  exact lv_if_lt hx hb d ht (fun h => kt h H locs ls hh hS hl) (fun h => kf h H locs ls hh hS hl)
theorem x_ic_lt (C : xC k l E B cc nL ret own mn fr lo ce sl) {x y : Int32} {off : Int} (tgt : Nat) (d : decode cc pc = .ok (.if_icmp .lt off, 3)) (ht : (pc : Int) + off = (tgt : Int))
    (kt : x < y → xX k N a b σ (tgt) lv (st)) (kf : ¬ x < y → xX k N a b σ (pc + 3) lv (st)) : xX k N a b σ pc lv (.int y :: .int x :: st) := by
  obtain ⟨p, l0, e, R, s, m, args, below, meth, c, Q, E0, B0, nL0⟩ := k
  obtain ⟨rfl, rfl, rfl, rfl, hx, hb, hml, hown, hts, hk, ⟨hR1, hR2, hR3, hR4⟩, hr, hlk, hmn, hBs⟩ := C
  intro H locs ls hh hS hl
  exact lv_icmp_lt hx hb d ht (fun h => kt h H locs ls hh hS hl) (fun h => kf h H locs ls hh hS hl)
theorem x_if_ge (C : xC k l E B cc nL ret own mn fr lo ce sl) {x : Int32} {off : Int} (tgt : Nat) (d : decode cc pc = .ok (.ifCond .ge off, 3)) (ht : (pc : Int) + off = (tgt : Int))
    (kt : 0 ≤ x → xX k N a b σ (tgt) lv (st)) (kf : ¬ 0 ≤ x → xX k N a b σ (pc + 3) lv (st)) : xX k N a b σ pc lv (.int x :: st) := by
  obtain ⟨p, l0, e, R, s, m, args, below, meth, c, Q, E0, B0, nL0⟩ := k
  obtain ⟨rfl, rfl, rfl, rfl, hx, hb, hml, hown, hts, hk, ⟨hR1, hR2, hR3, hR4⟩, hr, hlk, hmn, hBs⟩ := C
  intro H locs ls hh hS hl
  exact lv_if_ge hx hb d ht (fun h => kt h H locs ls hh hS hl) (fun h => kf h H locs ls hh hS hl)
theorem x_ic_ge (C : xC k l E B cc nL ret own mn fr lo ce sl) {x y : Int32} {off : Int} (tgt : Nat) (d : decode cc pc = .ok (.if_icmp .ge off, 3)) (ht : (pc : Int) + off = (tgt : Int))
    (kt : y ≤ x → xX k N a b σ (tgt) lv (st)) (kf : ¬ y ≤ x → xX k N a b σ (pc + 3) lv (st)) : xX k N a b σ pc lv (.int y :: .int x :: st) := by
  obtain ⟨p, l0, e, R, s, m, args, below, meth, c, Q, E0, B0, nL0⟩ := k
  obtain ⟨rfl, rfl, rfl, rfl, hx, hb, hml, hown, hts, hk, ⟨hR1, hR2, hR3, hR4⟩, hr, hlk, hmn, hBs⟩ := C
  intro H locs ls hh hS hl
  exact lv_icmp_ge hx hb d ht (fun h => kt h H locs ls hh hS hl) (fun h => kf h H locs ls hh hS hl)
theorem x_if_gt (C : xC k l E B cc nL ret own mn fr lo ce sl) {x : Int32} {off : Int} (tgt : Nat) (d : decode cc pc = .ok (.ifCond .gt off, 3)) (ht : (pc : Int) + off = (tgt : Int))
    (kt : 0 < x → xX k N a b σ (tgt) lv (st)) (kf : ¬ 0 < x → xX k N a b σ (pc + 3) lv (st)) : xX k N a b σ pc lv (.int x :: st) := by
  obtain ⟨p, l0, e, R, s, m, args, below, meth, c, Q, E0, B0, nL0⟩ := k
  obtain ⟨rfl, rfl, rfl, rfl, hx, hb, hml, hown, hts, hk, ⟨hR1, hR2, hR3, hR4⟩, hr, hlk, hmn, hBs⟩ := C
  intro H locs ls hh hS hl
  exact lv_if_gt hx hb d ht (fun h => kt h H locs ls hh hS hl) (fun h => kf h H locs ls hh hS hl)
theorem x_ic_gt (C : xC k l E B cc nL ret own mn fr lo ce sl) {x y : Int32} {off : Int} (tgt : Nat) (d : decode cc pc = .ok (.if_icmp .gt off, 3)) (ht : (pc : Int) + off = (tgt : Int))
    (kt : y < x → xX k N a b σ (tgt) lv (st)) (kf : ¬ y < x → xX k N a b σ (pc + 3) lv (st)) : xX k N a b σ pc lv (.int y :: .int x :: st) := by
  obtain ⟨p, l0, e, R, s, m, args, below, meth, c, Q, E0, B0, nL0⟩ := k
  obtain ⟨rfl, rfl, rfl, rfl, hx, hb, hml, hown, hts, hk, ⟨hR1, hR2, hR3, hR4⟩, hr, hlk, hmn, hBs⟩ := C
  intro H locs ls hh hS hl
  exact lv_icmp_gt hx hb d ht (fun h => kt h H locs ls hh hS hl) (fun h => kf h H locs ls hh hS hl)
theorem x_if_le (C : xC k l E B cc nL ret own mn fr lo ce sl) {x : Int32} {off : Int} (tgt : Nat) (d : decode cc pc = .ok (.ifCond .le off, 3)) (ht : (pc : Int) + off = (tgt : Int))
    (kt : x ≤ 0 → xX k N a b σ (tgt) lv (st)) (kf : ¬ x ≤ 0 → xX k N a b σ (pc + 3) lv (st)) : xX k N a b σ pc lv (.int x :: st) := by
  obtain ⟨p, l0, e, R, s, m, args, below, meth, c, Q, E0, B0, nL0⟩ := k
  obtain ⟨rfl, rfl, rfl, rfl, hx, hb, hml, hown, hts, hk, ⟨hR1, hR2, hR3, hR4⟩, hr, hlk, hmn, hBs⟩ := C
  intro H locs ls hh hS hl
  exact lv_if_le hx hb d ht (fun h => kt h H locs ls hh hS hl) (fun h => kf h H locs ls hh hS hl)
theorem x_ic_le (C : xC k l E B cc nL ret own mn fr lo ce sl) {x y : Int32} {off : Int} (tgt : Nat) (d : decode cc pc = .ok (.if_icmp .le off, 3)) (ht : (pc : Int) + off = (tgt : Int))
    (kt : x ≤ y → xX k N a b σ (tgt) lv (st)) (kf : ¬ x ≤ y → xX k N a b σ (pc + 3) lv (st)) : xX k N a b σ pc lv (.int y :: .int x :: st) := by
  obtain ⟨p, l0, e, R, s, m, args, below, meth, c, Q, E0, B0, nL0⟩ := k
  obtain ⟨rfl, rfl, rfl, rfl, hx, hb, hml, hown, hts, hk, ⟨hR1, hR2, hR3, hR4⟩, hr, hlk, hmn, hBs⟩ := C
  intro H locs ls hh hS hl
  exact lv_icmp_le hx hb d ht (fun h => kt h H locs ls hh hS hl) (fun h => kf h H locs ls hh hS hl)
theorem x_goto (C : xC k l E B cc nL ret own mn fr lo ce sl) {off : Int} (tgt : Nat) (d : decode cc pc = .ok (.goto off, 3)) (ht : (pc : Int) + off = (tgt : Int))
    (kk : xX k N a b σ (tgt) lv (st)) : xX k N a b σ pc lv (st) := by
  obtain ⟨p, l0, e, R, s, m, args, below, meth, c, Q, E0, B0, nL0⟩ := k
  obtain ⟨rfl, rfl, rfl, rfl, hx, hb, hml, hown, hts, hk, ⟨hR1, hR2, hR3, hR4⟩, hr, hlk, hmn, hBs⟩ := C
  intro H locs ls hh hS hl
  exact lv_goto hx hb d ht (kk H locs ls hh hS hl)
theorem x_ifnull (C : xC k l E B cc nL ret own mn fr lo ce sl) {x : Nat} {off : Int} (d : decode cc pc = .ok (.ifnull off, 3))
    (kk : xX k N a b σ (pc + 3) lv (st)) : xX k N a b σ pc lv (.ref x :: st) := by
  obtain ⟨p, l0, e, R, s, m, args, below, meth, c, Q, E0, B0, nL0⟩ := k
  obtain ⟨rfl, rfl, rfl, rfl, hx, hb, hml, hown, hts, hk, ⟨hR1, hR2, hR3, hR4⟩, hr, hlk, hmn, hBs⟩ := C
  intro H locs ls hh hS hl
  exact lv_ifnull hx hb d (kk H locs ls hh hS hl)
theorem x_ifnullN (C : xC k l E B cc nL ret own mn fr lo ce sl) {off : Int} (tgt : Nat) (d : decode cc pc = .ok (.ifnull off, 3)) (ht : (pc : Int) + off = (tgt : Int))
    (kk : xX k N a b σ (tgt) lv (st)) : xX k N a b σ pc lv (.null :: st) := by
  obtain ⟨p, l0, e, R, s, m, args, below, meth, c, Q, E0, B0, nL0⟩ := k
  obtain ⟨rfl, rfl, rfl, rfl, hx, hb, hml, hown, hts, hk, ⟨hR1, hR2, hR3, hR4⟩, hr, hlk, hmn, hBs⟩ := C
  intro H locs ls hh hS hl
  exact lv_ifnullN hx hb d ht (kk H locs ls hh hS hl)
theorem x_ifnn (C : xC k l E B cc nL ret own mn fr lo ce sl) {x : Nat} {off : Int} (tgt : Nat) (d : decode cc pc = .ok (.ifnonnull off, 3)) (ht : (pc : Int) + off = (tgt : Int))
    (kk : xX k N a b σ (tgt) lv (st)) : xX k N a b σ pc lv (.ref x :: st) := by
  obtain ⟨p, l0, e, R, s, m, args, below, meth, c, Q, E0, B0, nL0⟩ := k
  obtain ⟨rfl, rfl, rfl, rfl, hx, hb, hml, hown, hts, hk, ⟨hR1, hR2, hR3, hR4⟩, hr, hlk, hmn, hBs⟩ := C
  intro H locs ls hh hS hl
  exact lv_ifnonnull hx hb d ht (kk H locs ls hh hS hl)
theorem x_ifnnN (C : xC k l E B cc nL ret own mn fr lo ce sl) {off : Int} (d : decode cc pc = .ok (.ifnonnull off, 3))
    (kk : xX k N a b σ (pc + 3) lv (st)) : xX k N a b σ pc lv (.null :: st) := by
  obtain ⟨p, l0, e, R, s, m, args, below, meth, c, Q, E0, B0, nL0⟩ := k
  obtain ⟨rfl, rfl, rfl, rfl, hx, hb, hml, hown, hts, hk, ⟨hR1, hR2, hR3, hR4⟩, hr, hlk, hmn, hBs⟩ := C
  intro H locs ls hh hS hl
  exact lv_ifnonnullN hx hb d (kk H locs ls hh hS hl)
theorem x_lcmp (C : xC k l E B cc nL ret own mn fr lo ce sl) {x y : Int64} (d : decode cc pc = .ok (.lcmp, 1))
    (kk : xX k N a b σ (pc + 1) lv (.int (lg_cmp x y) :: st)) : xX k N a b σ pc lv (.long y :: .long x :: st) := by
  obtain ⟨p, l0, e, R, s, m, args, below, meth, c, Q, E0, B0, nL0⟩ := k
  obtain ⟨rfl, rfl, rfl, rfl, hx, hb, hml, hown, hts, hk, ⟨hR1, hR2, hR3, hR4⟩, hr, hlk, hmn, hBs⟩ := C
  intro H locs ls hh hS hl
  exact W.lcmp hx hb d (kk H locs ls hh hS hl)
theorem x_tbO (C : xC k l E B cc nL ret own mn fr lo ce sl) {dflt lo2 hi : Int} {offs : Array Int} {len : Nat} {x : Int32} (tgt : Nat) (d : decode cc pc = .ok (.tableswitch dflt lo2 hi offs, len)) (h : x.toInt < lo2 ∨ hi < x.toInt) (ht : (pc : Int) + dflt = (tgt : Int))
    (kk : xX k N a b σ (tgt) lv (st)) : xX k N a b σ pc lv (.int x :: st) := by
  obtain ⟨p, l0, e, R, s, m, args, below, meth, c, Q, E0, B0, nL0⟩ := k
  obtain ⟨rfl, rfl, rfl, rfl, hx, hb, hml, hown, hts, hk, ⟨hR1, hR2, hR3, hR4⟩, hr, hlk, hmn, hBs⟩ := C
  intro H locs ls hh hS hl
  exact lv_tableOut hx hb d h ht (kk H locs ls hh hS hl)
theorem x_tbI (C : xC k l E B cc nL ret own mn fr lo ce sl) {dflt lo2 hi off : Int} {offs : Array Int} {len : Nat} {x : Int32} (tgt : Nat) (d : decode cc pc = .ok (.tableswitch dflt lo2 hi offs, len)) (h1 : ¬ x.toInt < lo2) (h2 : ¬ hi < x.toInt) (ho : offs[(x.toInt - lo2).toNat]? = some off) (ht : (pc : Int) + off = (tgt : Int))
    (kk : xX k N a b σ (tgt) lv (st)) : xX k N a b σ pc lv (.int x :: st) := by
  obtain ⟨p, l0, e, R, s, m, args, below, meth, c, Q, E0, B0, nL0⟩ := k
  obtain ⟨rfl, rfl, rfl, rfl, hx, hb, hml, hown, hts, hk, ⟨hR1, hR2, hR3, hR4⟩, hr, hlk, hmn, hBs⟩ := C
  intro H locs ls hh hS hl
  exact lv_tableIn hx hb d h1 h2 ho ht (kk H locs ls hh hS hl)
theorem x_lkp (C : xC k l E B cc nL ret own mn fr lo ce sl) {dflt off : Int} {ps : Array (Int × Int)} {len : Nat} {x : Int32} (tgt : Nat) (d : decode cc pc = .ok (.lookupswitch dflt ps, len)) (hp : (ps.toList.zip (ps.toList.drop 1)).all (fun (a, next) => a.1 < next.1) = true) (ho : Op.lookupswitch.offset ps.toList dflt x.toInt = off) (ht : (pc : Int) + off = (tgt : Int))
    (kk : xX k N a b σ (tgt) lv (st)) : xX k N a b σ pc lv (.int x :: st) := by
  obtain ⟨p, l0, e, R, s, m, args, below, meth, c, Q, E0, B0, nL0⟩ := k
  obtain ⟨rfl, rfl, rfl, rfl, hx, hb, hml, hown, hts, hk, ⟨hR1, hR2, hR3, hR4⟩, hr, hlk, hmn, hBs⟩ := C
  intro H locs ls hh hS hl
  exact lv_lookup hx hb d hp ho ht (kk H locs ls hh hS hl)
/-- a field access of class own at pool number idx: field j of class ci -/
def xFd (own : String) (idx : Nat) (q : vw_C) (ci j : Nat) : Prop := vwCl[ci]? = some q ∧ j < q.2.2 ∧ (Cond.fieldLink own idx (q.2.1 j).1 (q.2.1 j).2.1 (q.2.1 j).2.2.1 ∈ xG ∨ ∃ host : String, Cond.fieldLinkNest own idx (q.2.1 j).1 (q.2.1 j).2.1 (q.2.1 j).2.2.1 host ∈ xGN) ∧ (∀ w ∈ u_ws q.1 q.2.1 q.2.2, w ∈ xG) ∧ (∃ ty0 : Nat → FieldType, ∀ k, k < q.2.2 → parseFieldDescriptor (q.2.1 k).2.2.1 = some (ty0 k)) ∧ (∀ a, a < q.2.2 → ∀ b, b < q.2.2 → a ≠ b → (q.2.1 a).2.1 ≠ (q.2.1 b).2.1)
theorem x_get (C : xC k l E B cc nL ret own mn fr lo ce sl) {idx ci j a0 : Nat} {q : vw_C} (F : xFd own idx q ci j) {fs : List Value} {v : Value} (he : σ a0 = some (.inr (ci, fs))) (hv : fs[j]? = some v) (d : decode cc pc = .ok (.getfield idx, 3))
    (kk : xX k N a b σ (pc + 3) lv (v :: st)) : xX k N a b σ pc lv (.ref a0 :: st) := by
  obtain ⟨p, l0, e, R, s, m, args, below, meth, c, Q, E0, B0, nL0⟩ := k
  obtain ⟨rfl, rfl, rfl, rfl, hx, hb, hml, hown, hts, hk, ⟨hR1, hR2, hR3, hR4⟩, hr, hlk, hmn, hBs⟩ := C
  obtain ⟨hc, hj, hln, hin, -, -⟩ := F
  obtain ⟨Cn, T, n⟩ := q
  intro H locs ls hh hS hl
  have hP : va_P E0.1 vwCl [(a0, .inr (ci, fs))] H := fun i q2 hq => by
    have h1 := hh.2.2 a0 _ he
    cases i with
    | zero => cases hq; exact h1.2
    | succ i => simp at hq
  rcases hln with h | ⟨host, h⟩
  · exact va_get hx hb hts hin hown hk.1 hP 0 rfl hc j hj (hts _ h) (fun _ h9 => h9) hv d (kk H locs ls hh hS hl)
  · exact va_getN hx hb hts hin hown hk.1 hP 0 rfl hc j hj (va_Nw.use rfl (hk.2 _ h)) (fun _ h9 => h9) hv d (kk H locs ls hh hS hl)
theorem x_put (C : xC k l E B cc nL ret own mn fr lo ce sl) {idx ci j a0 : Nat} {q : vw_C} (F : xFd own idx q ci j) {fs : List Value} {v : Value} {ty : FieldType} {σ2 : Sg} (he : σ a0 = some (.inr (ci, fs))) (hfin : (q.2.1 j).2.2.2 = false) (hd : parseFieldDescriptor (q.2.1 j).2.2.1 = some ty) (hn : narrow ty v = v) (hfit : fits ty v = true) (hl0 : j < fs.length) (hs : xup σ a0 (.inr (ci, fs.set j v)) = σ2) (d : decode cc pc = .ok (.putfield idx, 3))
    (kk : xX k N a b σ2 (pc + 3) lv (st)) : xX k N a b σ pc lv (v :: .ref a0 :: st) := by
  obtain ⟨p, l0, e, R, s, m, args, below, meth, c, Q, E0, B0, nL0⟩ := k
  obtain ⟨rfl, rfl, rfl, rfl, hx, hb, hml, hown, hts, hk, ⟨hR1, hR2, hR3, hR4⟩, hr, hlk, hmn, hBs⟩ := C
  obtain ⟨hc, hj, hln, hin, ⟨ty0, hty⟩, hnm⟩ := F
  obtain ⟨Cn, T, n⟩ := q
  subst hs
  intro H locs ls hh hS hl
  have hap := va_apart (own := own) hts hin ty0 hty hnm hk.1 hc
  obtain ⟨hba, h0⟩ := hh.2.2 a0 _ he
  obtain ⟨r2, h1, cell, q1, q2, q3, q4⟩ := h0
  have hr2 : r2 = (Cn, T, n) := Option.some.inj (h1.symm.trans hc)
  subst hr2
  obtain ⟨hS2, hfc, kC, hkC, hkind⟩ := hk.1.1 ci _ hc
  obtain ⟨cf, kf, fi, f, hi, hsl⟩ := hS2 j hj
  have hlay := hts _ (hin _ (u_in_lay hj))
  unfold u_lay at hlay
  rw [if_neg (by rw [hfin]; decide)] at hlay
  have hst := (u_facts hfc hkC (u_lays hts hin hj) hi).1
  have h6 := u_store hfc hkC hkind hlay hi hd hn hfit
  rcases hln with h | ⟨host, h⟩
  · refine W.putK hx hb (f := f) ⟨hown, hts _ h, ⟨_, _, _, hi⟩, hst⟩ (by rw [q2]; exact h6) q1 q3 (by rw [hsl]; exact k2_hasslot (q4 j hj)) rfl rfl d fun H2 e1 e2 e3 => ?_
    rw [hsl] at e1 ⊢
    exact kk H2 _ ls (hh.put he e2 e3 ⟨_, hc, t_OB.to (V := updV (vp_V fs) j v) ⟨_, e1, q2, q3, t_set q4 hap hj v⟩ (fun i _ => vp_updV_set hl0 v i)⟩) (hS.put e2 e3 hba) hl
  · refine va_WputK hx hb (f := f) hown (va_Nw.use rfl (hk.2 _ h)) hi hst (by rw [q2]; exact h6) q1 q3 (by rw [hsl]; exact k2_hasslot (q4 j hj)) rfl rfl d fun H2 e1 e2 e3 => ?_
    rw [hsl] at e1 ⊢
    exact kk H2 _ ls (hh.put he e2 e3 ⟨_, hc, t_OB.to (V := updV (vp_V fs) j v) ⟨_, e1, q2, q3, t_set q4 hap hj v⟩ (fun i _ => vp_updV_set hl0 v i)⟩) (hS.put e2 e3 hba) hl
theorem x_putF (C : xC k l E B cc nL ret own mn fr lo ce sl) (hmi : mn = "<init>") {idx ci j a0 : Nat} {q : vw_C} (F : xFd own idx q ci j) {fs : List Value} {v : Value} {ty : FieldType} {σ2 : Sg} (he : σ a0 = some (.inr (ci, fs))) (hfin : (q.2.1 j).2.2.2 = true) (hdecl : (q.2.1 j).1 = own) (hw : Cond.fieldLink own idx (q.2.1 j).1 (q.2.1 j).2.1 (q.2.1 j).2.2.1 ∈ xG) (hd : parseFieldDescriptor (q.2.1 j).2.2.1 = some ty) (hn : narrow ty v = v) (hfit : fits ty v = true) (hl0 : j < fs.length) (hs : xup σ a0 (.inr (ci, fs.set j v)) = σ2) (d : decode cc pc = .ok (.putfield idx, 3))
    (kk : xX k N a b σ2 (pc + 3) lv (st)) : xX k N a b σ pc lv (v :: .ref a0 :: st) := by
  obtain ⟨p, l0, e, R, s, m, args, below, meth, c, Q, E0, B0, nL0⟩ := k
  obtain ⟨rfl, rfl, rfl, rfl, hx, hb, hml, hown, hts, hk, ⟨hR1, hR2, hR3, hR4⟩, hr, hlk, hmn, hBs⟩ := C
  obtain ⟨hc, hj, -, hin, ⟨ty0, hty⟩, hnm⟩ := F
  obtain ⟨Cn, T, n⟩ := q
  subst hs
  intro H locs ls hh hS hl
  have hap := va_apart (own := own) hts hin ty0 hty hnm hk.1 hc
  obtain ⟨hba, h0⟩ := hh.2.2 a0 _ he
  obtain ⟨r2, h1, cell, q1, q2, q3, q4⟩ := h0
  have hr2 : r2 = (Cn, T, n) := Option.some.inj (h1.symm.trans hc)
  subst hr2
  obtain ⟨hS2, hfc, kC, hkC, hkind⟩ := hk.1.1 ci _ hc
  obtain ⟨cf, kf, fi, f, hi, hsl⟩ := hS2 j hj
  have hlay := hts _ (hin _ (u_in_lay hj))
  unfold u_lay at hlay
  rw [if_pos hfin] at hlay
  have hst := (u_facts hfc hkC (u_lays hts hin hj) hi).1
  have hcf : m.cls = cf := by
    obtain ⟨_, _, c2, _, _, _, -, -, hf2, -, -, -, hown2, -⟩ := Cond.laysFinal_spec hlay
    have e1 : c2 = cf := by have := hi.symm.trans hf2; simp at this; exact this.1.symm
    rw [hdecl] at hown2
    rw [← e1]; exact Option.some.inj (hown.symm.trans hown2)
  have h6 := u_fits hfc hkC hkind (Or.inr hlay) hi hd hn hfit
  refine W.putFinK hx hb hown (hts _ hw) hi hst hcf (hmn.trans hmi) (by rw [q2]; exact h6) q1 q3 (by rw [hsl]; exact k2_hasslot (q4 j hj)) rfl rfl d fun H2 e1 e2 e3 => ?_
  rw [hsl] at e1 ⊢
  exact kk H2 _ ls (hh.put he e2 e3 ⟨_, hc, t_OB.to (V := updV (vp_V fs) j v) ⟨_, e1, q2, q3, t_set q4 hap hj v⟩ (fun i _ => vp_updV_set hl0 v i)⟩) (hS.put e2 e3 hba) hl
theorem x_iald (C : xC k l E B cc nL ret own mn fr lo ce sl) {a0 n : Nat} {f : Nat → Int32} {i : Int32} (he : σ a0 = some (.inl (xI E, n, .inl f))) (hin : vp_in i n) (d : decode cc pc = .ok (.iaload, 1))
    (kk : xX k N a b σ (pc + 1) lv (.int (f i.toNatClampNeg) :: st)) : xX k N a b σ pc lv (.int i :: .ref a0 :: st) := by
  obtain ⟨p, l0, e, R, s, m, args, below, meth, c, Q, E0, B0, nL0⟩ := k
  obtain ⟨rfl, rfl, rfl, rfl, hx, hb, hml, hown, hts, hk, ⟨hR1, hR2, hR3, hR4⟩, hr, hlk, hmn, hBs⟩ := C
  intro H locs ls hh hS hl
  have hP : va_P E0.1 vwCl [(a0, .inl (xI E0, n, .inl f))] H := fun i q2 hq => by
    have h1 := hh.2.2 a0 _ he
    cases i with
    | zero => cases hq; exact h1.2
    | succ i => simp at hq
  exact va_iald hx hb hk.1 hP 0 0 rfl rfl hin d (kk H locs ls hh hS hl)
theorem x_cald (C : xC k l E B cc nL ret own mn fr lo ce sl) {a0 n : Nat} {f : Nat → Int32} {i : Int32} (he : σ a0 = some (.inl (xCh E, n, .inl f))) (hin : vp_in i n) (d : decode cc pc = .ok (.caload, 1))
    (kk : xX k N a b σ (pc + 1) lv (.int (f i.toNatClampNeg) :: st)) : xX k N a b σ pc lv (.int i :: .ref a0 :: st) := by
  obtain ⟨p, l0, e, R, s, m, args, below, meth, c, Q, E0, B0, nL0⟩ := k
  obtain ⟨rfl, rfl, rfl, rfl, hx, hb, hml, hown, hts, hk, ⟨hR1, hR2, hR3, hR4⟩, hr, hlk, hmn, hBs⟩ := C
  intro H locs ls hh hS hl
  have hP : va_P E0.1 vwCl [(a0, .inl (xCh E0, n, .inl f))] H := fun i q2 hq => by
    have h1 := hh.2.2 a0 _ he
    cases i with
    | zero => cases hq; exact h1.2
    | succ i => simp at hq
  exact va_cald hx hb hk.1 hP 0 1 rfl rfl hin d (kk H locs ls hh hS hl)
theorem x_aald (C : xC k l E B cc nL ret own mn fr lo ce sl) {a0 n t0 : Nat} {cA : ClassId} {Cn : String} {f : Nat → Option Nat} {i : Int32} {v : Value} (he : σ a0 = some (.inl (cA, n, .inr (.inr (.inr (.inr f)))))) (ht : (xtys E)[t0]? = some (cA, .object Cn)) (hin : vp_in i n) (hv : va_rf (f i.toNatClampNeg) = v) (d : decode cc pc = .ok (.aaload, 1))
    (kk : xX k N a b σ (pc + 1) lv (v :: st)) : xX k N a b σ pc lv (.int i :: .ref a0 :: st) := by
  obtain ⟨p, l0, e, R, s, m, args, below, meth, c, Q, E0, B0, nL0⟩ := k
  obtain ⟨rfl, rfl, rfl, rfl, hx, hb, hml, hown, hts, hk, ⟨hR1, hR2, hR3, hR4⟩, hr, hlk, hmn, hBs⟩ := C
  subst hv
  intro H locs ls hh hS hl
  have hP : va_P E0.1 vwCl [(a0, .inl (cA, n, .inr (.inr (.inr (.inr f)))))] H := fun i q2 hq => by
    have h1 := hh.2.2 a0 _ he
    cases i with
    | zero => cases hq; exact h1.2
    | succ i => simp at hq
  exact va_aldq hx hb hk.1 hP 0 t0 rfl ht hin d (kk H locs ls hh hS hl)
theorem x_alen (C : xC k l E B cc nL ret own mn fr lo ce sl) {a0 n t0 : Nat} {cA : ClassId} {ty : FieldType} {x} (he : σ a0 = some (.inl (cA, n, x))) (ht : (xtys E)[t0]? = some (cA, ty)) (d : decode cc pc = .ok (.arraylength, 1))
    (kk : xX k N a b σ (pc + 1) lv (.int (nI n) :: st)) : xX k N a b σ pc lv (.ref a0 :: st) := by
  obtain ⟨p, l0, e, R, s, m, args, below, meth, c, Q, E0, B0, nL0⟩ := k
  obtain ⟨rfl, rfl, rfl, rfl, hx, hb, hml, hown, hts, hk, ⟨hR1, hR2, hR3, hR4⟩, hr, hlk, hmn, hBs⟩ := C
  intro H locs ls hh hS hl
  have hP : va_P E0.1 vwCl [(a0, .inl (cA, n, x))] H := fun i q2 hq => by
    have h1 := hh.2.2 a0 _ he
    cases i with
    | zero => cases hq; exact h1.2
    | succ i => simp at hq
  exact va_alen hx hb hk.1 hP 0 t0 rfl ht rfl d (kk H locs ls hh hS hl)
theorem x_cell {cA : ClassId} {n : Nat} {f g : Nat → Int32} (h : ∀ j, j < n → f j = g j) : vp_cell cA (n, .inl f) = vp_cell cA (n, .inl g) := by
  rw [vp_cell_i, vp_cell_i]
  unfold arrV
  congr 1
  congr 1
  funext j
  show Value.int (f j.val) = Value.int (g j.val)
  rw [h j.val j.isLt]
theorem x_iast (C : xC k l E B cc nL ret own mn fr lo ce sl) {a0 n : Nat} {f g : Nat → Int32} {i x : Int32} {σ2 : Sg} (he : σ a0 = some (.inl (xI E, n, .inl f))) (hin : vp_in i n) (hg : ∀ j, j < n → upd f i.toNatClampNeg x j = g j) (hs : xup σ a0 (.inl (xI E, n, .inl g)) = σ2) (d : decode cc pc = .ok (.iastore, 1))
    (kk : xX k N a b σ2 (pc + 1) lv (st)) : xX k N a b σ pc lv (.int x :: .int i :: .ref a0 :: st) := by
  obtain ⟨p, l0, e, R, s, m, args, below, meth, c, Q, E0, B0, nL0⟩ := k
  obtain ⟨rfl, rfl, rfl, rfl, hx, hb, hml, hown, hts, hk, ⟨hR1, hR2, hR3, hR4⟩, hr, hlk, hmn, hBs⟩ := C
  subst hs
  intro H locs ls hh hS hl
  obtain ⟨hba, h0⟩ := hh.2.2 a0 _ he
  refine W.iast hx hb h0 ((hk.1.2 0 _ rfl).1 n (fun j => .int (f j))) (fun q => by cases q) (by show ¬ (i < 0 ∨ (arrV _ _ _).slots.size ≤ _); rw [arrV_size]; exact hin) rfl rfl d fun H1 e z oq => ?_
  refine kk H1 _ ls (hh.put he z oq ?_) (hS.put z oq hba) hl
  show H1[a0]? = some (vp_cell _ _)
  rw [← x_cell hg, e]
  rw [vp_cell_i, vp_cell_i, arrV_store]
  congr 2
  funext q
  by_cases hq : q = i.toNatClampNeg
  · subst hq
    simp [updV, upd, vp_nar]
    try rfl
  · simp [updV, upd, hq]
theorem x_cast (C : xC k l E B cc nL ret own mn fr lo ce sl) {a0 n : Nat} {f g : Nat → Int32} {i x : Int32} {σ2 : Sg} (he : σ a0 = some (.inl (xCh E, n, .inl f))) (hin : vp_in i n) (hg : ∀ j, j < n → upd f i.toNatClampNeg (vp_nar .char x) j = g j) (hs : xup σ a0 (.inl (xCh E, n, .inl g)) = σ2) (d : decode cc pc = .ok (.castore, 1))
    (kk : xX k N a b σ2 (pc + 1) lv (st)) : xX k N a b σ pc lv (.int x :: .int i :: .ref a0 :: st) := by
  obtain ⟨p, l0, e, R, s, m, args, below, meth, c, Q, E0, B0, nL0⟩ := k
  obtain ⟨rfl, rfl, rfl, rfl, hx, hb, hml, hown, hts, hk, ⟨hR1, hR2, hR3, hR4⟩, hr, hlk, hmn, hBs⟩ := C
  subst hs
  intro H locs ls hh hS hl
  obtain ⟨hba, h0⟩ := hh.2.2 a0 _ he
  refine W.cast hx hb h0 ((hk.1.2 1 _ rfl).1 n (fun j => .int (f j))) (fun q => by cases q) (by show ¬ (i < 0 ∨ (arrV _ _ _).slots.size ≤ _); rw [arrV_size]; exact hin) rfl rfl d fun H1 e z oq => ?_
  refine kk H1 _ ls (hh.put he z oq ?_) (hS.put z oq hba) hl
  show H1[a0]? = some (vp_cell _ _)
  rw [← x_cell hg, e]
  rw [vp_cell_i, vp_cell_i, arrV_store]
  congr 2
  funext q
  by_cases hq : q = i.toNatClampNeg
  · subst hq
    simp [updV, upd, vp_nar]
    try rfl
  · simp [updV, upd, hq]
theorem x_copy (C : xC k l E B cc nL ret own mn fr lo ce sl) {a0 a1 n0 n1 idx : Nat} {f g g2 : Nat → Int32} {sp dp n : Int32} {σ2 : Sg} (w1 : Cond.methodLink own idx arraycopyName ∈ xG) (w2 : Cond.native arraycopyName ∈ xG) (w3 : Cond.static arraycopyName ∈ xG) (w4 : Cond.initialized "java/lang/System" ∈ xG) (he0 : σ a0 = some (.inl (xI E, n0, .inl f))) (he1 : σ a1 = some (.inl (xI E, n1, .inl g))) (hd : a0 ≠ a1) (h1 : ¬ sp < 0) (h2 : ¬ dp < 0) (h3 : ¬ n < 0) (h4 : sp.toNatClampNeg + n.toNatClampNeg ≤ n0) (h5 : dp.toNatClampNeg + n.toNatClampNeg ≤ n1) (hg : ∀ j, j < n1 → va_cpy f g sp.toNatClampNeg dp.toNatClampNeg n.toNatClampNeg j = g2 j) (hfr : 1 ≤ fr) (hlo : (st.map fun v => v.category).sum + (nativeFrameWords "java/lang/System" "arraycopy" 5 + 11) ≤ lo) (hs : xup σ a1 (.inl (xI E, n1, .inl g2)) = σ2) (d : decode cc pc = .ok (.invokestatic idx, 3))
    (kk : xX k N a b σ2 (pc + 3) lv (st)) : xX k N a b σ pc lv (.int n :: .int dp :: .ref a1 :: .int sp :: .ref a0 :: st) := by
  obtain ⟨p, l0, e, R, s, m, args, below, meth, c, Q, E0, B0, nL0⟩ := k
  obtain ⟨rfl, rfl, rfl, rfl, hx, hb, hml, hown, hts, hk, ⟨hR1, hR2, hR3, hR4⟩, hr, hlk, hmn, hBs⟩ := C
  subst hs
  intro H locs ls hh hS hl
  obtain ⟨hb0, hc0⟩ := hh.2.2 a0 _ he0
  obtain ⟨hb1, hc1⟩ := hh.2.2 a1 _ he1
  have hP : va_P E0.1 vwCl [(a0, .inl (xI E0, n0, .inl f)), (a1, .inl (xI E0, n1, .inl g))] H := fun i q2 hq => by
    match i, hq with
    | 0, hq => cases hq; exact hc0
    | 1, hq => cases hq; exact hc1
    | i + 2, hq => simp at hq
  have hD : va_D (fun q => q = a1 ∨ q = a0) [(a0, .inl (xI E0, n0, .inl f)), (a1, .inl (xI E0, n1, .inl g))] := by
    refine ⟨fun i j p q hi hj hpq => ?_, fun i q hq => ?_⟩
    · match i, j, hi, hj with
      | 0, 0, _, _ => rfl
      | 1, 1, _, _ => rfl
      | 0, 1, hi, hj => cases hi; cases hj; exact absurd hpq hd
      | 1, 0, hi, hj => cases hi; cases hj; exact absurd hpq.symm hd
      | i + 2, _, hi, _ => simp at hi
      | _, j + 2, _, hj => simp at hj
    · match i, hq with
      | 0, hq => cases hq; exact Or.inr rfl
      | 1, hq => cases hq; exact Or.inl rfl
      | i + 2, hq => simp at hq
  have nn : ∀ z : Int32, ¬ z < 0 → z.toInt = (z.toNatClampNeg : Int) := by
    intro z hz
    have hz0 : (0 : Int) ≤ z.toInt := by
      have := Int32.not_lt.mp hz
      simpa using Int32.le_iff_toInt_le.mp this
    show z.toInt = ((z.toInt.toNat : Nat) : Int)
    omega
  intro T hT X
  obtain ⟨-, k0, hk0, cm0, hkk0⟩ := (hk.1.2 0 _ rfl).1 n0 (fun j => .int (f j))
  obtain ⟨-, k1, hk1, cm1, hkk1⟩ := (hk.1.2 0 _ rfl).1 n1 (fun j => .int (g j))
  obtain ⟨vm2, X2, step⟩ := X.arraycopy hx hown (hts _ w1) (hts _ w2) (hts _ w3) (hts _ w4) (src := a0) (dst := a1) (cs := vp_cell (xI E0) (n0, .inl f)) (cd := vp_cell (xI E0) (n1, .inl g)) (srcPos := sp) (destPos := dp) (n := n) (by rw [hT]; exact hc0) (by rw [hT]; exact hc1)
    (fun _ h => by cases h) (fun _ h => by cases h) (fun h => by cases h) (fun h => by cases h) hk0 hk1 hkk0 hkk1 (by simp [refKind]) h1 h2 h3
    (by rw [nn sp h1, nn n h3]; show ¬ _ > ((arrV (xI E0) n0 (fun j => .int (f j))).slots.size : Int); rw [arrV_size]; omega)
    (by rw [nn dp h2, nn n h3]; show ¬ _ > ((arrV (xI E0) n1 (fun j => .int (g j))).slots.size : Int); rw [arrV_size]; omega)
    (fun vm₁ _ i hi => by
      have e : (vp_cell (xI E0) (n0, .inl f)).slots.getD (sp.toNatClampNeg + i) .null = .int (f (sp.toNatClampNeg + i)) := by
        show (arrV (xI E0) n0 (fun j => .int (f j))).slots.getD _ _ = _
        rw [Array.getD_eq_getD_getElem?, arrV_read _ _ (by omega)]
        rfl
      refine ⟨?_, ?_⟩
      · rw [e]
        rfl
      · rw [e]
        exact trivial)
    (g := F0 m pc ls (.int n :: .int dp :: .ref a1 :: .int sp :: .ref a0 :: st)) rfl (by rw [hml]; exact hl.1) (rest := st) rfl (by rw [hb]; exact d) (by rw [hR1]; exact hfr) (by rw [hR2]; show 2 * 0 + _ + _ ≤ _; omega)
  have e1 : copied (vp_cell (xI E0) (n0, .inl f)) (vp_cell (xI E0) (n1, .inl g)) sp dp n = vp_cell (xI E0) (n1, .inl (va_cpy f g sp.toNatClampNeg dp.toNatClampNeg n.toNatClampNeg)) := va_copied (fun z => .int z) (xI E0) (xI E0) f g h4
  rw [e1] at X2 step
  have hlt : a1 < H.size := (Array.getElem?_eq_some_iff.mp hc1).1
  have hheap : ((T.setVm vm2).setCell a1 (vp_cell (xI E0) (n1, .inl (va_cpy f g sp.toNatClampNeg dp.toNatClampNeg n.toNatClampNeg)))).heap = H.setIfInBounds a1 (vp_cell (xI E0) (n1, .inl (va_cpy f g sp.toNatClampNeg dp.toNatClampNeg n.toNatClampNeg))) := by rw [← hT]; rfl
  have oq : ∀ q : Nat, q ≠ a1 → (H.setIfInBounds a1 (vp_cell (xI E0) (n1, .inl (va_cpy f g sp.toNatClampNeg dp.toNatClampNeg n.toNatClampNeg))))[q]? = H[q]? := fun q hq => by simp [Array.getElem?_setIfInBounds, Ne.symm hq]
  obtain ⟨t, b1, b2⟩ := kk _ _ ls (hh.put he1 (by simp) oq (show (H.setIfInBounds a1 _)[a1]? = some (vp_cell (xI E0) (n1, .inl g2)) by rw [← x_cell hg]; simp [Array.getElem?_setIfInBounds, hlt])) ⟨by simp; exact hS.1, fun q g1 g2 => by
      rw [oq q (fun e => g2 (by rw [e]; exact hb1))]
      exact hS.2.1 q g1 g2, fun q hq => by
      rcases List.mem_append.mp hq with h | h
      · exact hS.2.2 q h
      · obtain ⟨z, -, hz⟩ := List.mem_map.mp h
        rw [← hz]
        exact hb1⟩ hl _ hheap X2
  exact ⟨t, step t b1, b2⟩
theorem x_mmax (C : xC k l E B cc nL ret own mn fr lo ce sl) {idx : Nat} {x y : Int32} (w1 : Cond.methodLink own idx Lib.Math.max.name ∈ xG) (w2 : Cond.static Lib.Math.max.name ∈ xG) (w3 : Cond.initialized "java/lang/Math" ∈ xG) (w4 : Cond.code Lib.Math.max.name Lib.Math.max.code 2 (some .int) ∈ xG) (hfr : 1 ≤ fr) (hlo : (st.map fun v => v.category).sum + 13 ≤ lo) (hca : a ≤ ce) (hcb : b ≤ sl) (d : decode cc pc = .ok (.invokestatic idx, 3))
    (kk : xX k N a b σ (pc + 3) lv (.int (if x < y then y else x) :: st)) : xX k N a b σ pc lv (.int y :: .int x :: st) := by
  obtain ⟨p, l0, e, R, s, m, args, below, meth, c, Q, E0, B0, nL0⟩ := k
  obtain ⟨rfl, rfl, rfl, rfl, hx, hb, hml, hown, hts, hk, ⟨hR1, hR2, hR3, hR4⟩, hr, hlk, hmn, hBs⟩ := C
  intro H locs ls hh hS hl
  exact va_mmax hx hb (by rw [hml]; exact hl.1.symm) hown (hts _ w1) (hts _ w2) (hts _ w3) (hts _ w4) (by rw [hR1]; exact hfr) (by rw [hR2]; exact hlo) (by rw [hR3]; exact hca) (by rw [hR4]; exact hcb) d (kk H locs ls hh hS hl)
theorem x_mmin (C : xC k l E B cc nL ret own mn fr lo ce sl) {idx : Nat} {x y : Int32} (w1 : Cond.methodLink own idx Lib.Math.min.name ∈ xG) (w2 : Cond.static Lib.Math.min.name ∈ xG) (w3 : Cond.initialized "java/lang/Math" ∈ xG) (w4 : Cond.code Lib.Math.min.name Lib.Math.min.code 2 (some .int) ∈ xG) (hfr : 1 ≤ fr) (hlo : (st.map fun v => v.category).sum + 13 ≤ lo) (hca : a ≤ ce) (hcb : b ≤ sl) (d : decode cc pc = .ok (.invokestatic idx, 3))
    (kk : xX k N a b σ (pc + 3) lv (.int (if y < x then y else x) :: st)) : xX k N a b σ pc lv (.int y :: .int x :: st) := by
  obtain ⟨p, l0, e, R, s, m, args, below, meth, c, Q, E0, B0, nL0⟩ := k
  obtain ⟨rfl, rfl, rfl, rfl, hx, hb, hml, hown, hts, hk, ⟨hR1, hR2, hR3, hR4⟩, hr, hlk, hmn, hBs⟩ := C
  intro H locs ls hh hS hl
  exact va_mmin hx hb (by rw [hml]; exact hl.1.symm) hown (hts _ w1) (hts _ w2) (hts _ w3) (hts _ w4) (by rw [hR1]; exact hfr) (by rw [hR2]; exact hlo) (by rw [hR3]; exact hca) (by rw [hR4]; exact hcb) d (kk H locs ls hh hS hl)
end XR
abbrev xLk (own : String) (idx : Nat) (y : MethodName) : Prop := Cond.methodLink own idx y ∈ xG ∨ ∃ host : String, Cond.methodLinkNest own idx y host ∈ xGN
abbrev xAr (y : MethodName) (n : Nat) : Prop := y.cls ≠ "java/lang/invoke/MethodHandle" ∧ y.cls ≠ "java/lang/invoke/VarHandle" ∧ (parseMethodDescriptor y.desc).map (fun d => d.parameters.length) = some n
/-- the words of a method that is called: its code, its class, how many arguments -/
def xYv (y : MethodName) (cc : ByteArray) (nL : Nat) (ret : Option FieldType) (n ci : Nat) (q : vw_C) : Prop := Cond.instanceMethod y ∈ xG ∧ Cond.selects y.cls y y ∈ xG ∧ Cond.code y cc nL ret ∈ xG ∧ Cond.initialized y.cls ∈ xG ∧ xAr y n ∧ vwCl[ci]? = some q ∧ q.1 = y.cls
def xYs (y : MethodName) (cc : ByteArray) (nL : Nat) (ret : Option FieldType) (n : Nat) : Prop := Cond.static y ∈ xG ∧ Cond.code y cc nL ret ∈ xG ∧ Cond.initialized y.cls ∈ xG ∧ xAr y n
def xYi (y : MethodName) (cc : ByteArray) (nL : Nat) (n : Nat) : Prop := Cond.instanceMethod y ∈ xG ∧ Cond.code y cc nL none ∈ xG ∧ Cond.initialized y.cls ∈ xG ∧ xAr y n ∧ y.name = "<init>"
theorem x_ws {args : Array Value} {s : State} {y : MethodName} {cc : ByteArray} {nL : Nat} {ret : Option FieldType} (hts : ∀ w ∈ xG, w.before args s = true) (hc : Cond.code y cc nL ret ∈ xG) : ∀ w ∈ (Cond.code y cc nL ret :: xG), ∀ (a' : Array Value) (U : State), s.WarmedH U.vm → w.before a' U = true := fun w hw a' U hW => by
  have hm : w ∈ xG := by
    rcases List.mem_cons.mp hw with h | h
    · rw [h]; exact hc
    · exact h
  exact word_at hW (xG_good hm) (hts w hm)
theorem x_pre {E : xEnv} {B N : Nat} {σ : Sg} {av : List Value} : FrameBlind (va_Pc av (fun U => xh E B N σ U.heap ∧ xk E U)) := fun a U g mk q => ⟨q.1, q.2.1, xk.same (u := U) (U := U.calling g mk a) rfl q.2.2⟩
section XRC
variable {k : xT} {l : Launch} {E : xEnv} {B : Nat} {cc : ByteArray} {nL : Nat} {ret : Option FieldType} {own mn : String} {fr lo ce sl N a b : Nat} {σ : Sg} {pc : Nat} {lv : List (Option Value)} {st : List Value}
variable {y : MethodName} {cc2 : ByteArray} {nL2 : Nat} {ret2 : Option FieldType} {fr2 lo2 ce2 sl2 : Nat} {As : List Value} {N2 : Nat} {σ1 σ2 σ3 : Sg} {oc : Option Value} {idx n b0 : Nat} {st0 : List Value}
/-- from a call's run to what follows -/
theorem x_run {p : Program} {e : Env} {R : Room} {s : State} {m : MethodId} {args : Array Value} {below : List Frame} {meth : Method} {c : Code} {H : Heap} {locs : List Loc} {ls : Array Slot} {Q : State → Prop} {g : JFrame} {av : Array Value} {stk : List Value} (hs : xk E s) (hg : g = F0 m pc ls stk) (hr : va_Run p l e R s m args below meth c H locs a b ce2 sl2 g st (xQc E B N2 σ2 oc av) (fun q => B ≤ q)) (hS : va_S (fun q => B ≤ q) s.heap H locs) (hl : lv_has ls nL (xL 0 lv)) (hB : B ≤ s.heap.size)
    (kk : ∀ (H : Heap) (locs : List Loc) (ls : Array Slot), xh E B N2 σ2 H → va_S (fun q => B ≤ q) s.heap H locs → lv_has ls nL (xL 0 lv) → W p l e R s m args below meth c H locs (a + ce2) (b + sl2) Q (F0 m (pc + 3) ls (oc.toList ++ st))) : W p l e R s m args below meth c H locs a b Q g := by
  subst hg
  intro T hT X
  obtain ⟨v, st₀, t, T2, L, h0, X2, hL, e1, e2, ⟨hv, hx2, -, hF⟩, stp⟩ := hr T hT X
  cases hv
  obtain ⟨hz, hk2⟩ := hF
  rw [h0] at hz hk2
  obtain ⟨t2, a1, b1⟩ := kk T2.heap (locs ++ L) ls (by rw [e1]; exact hx2) ⟨Nat.le_trans hS.1 (by rw [e1]; exact hz), fun q h1 h2 => by rw [e1, hk2 q (Nat.lt_of_lt_of_le h1 hS.1) h2]; exact hS.2.1 q h1 h2, fun q hq => by
    rcases List.mem_append.mp hq with h | h
    · exact hS.2.2 q h
    · exact hL q h⟩ hl T2 rfl X2
  exact ⟨t2, stp t2 a1, b1⟩
theorem x_callV (C : xC k l E B cc nL ret own mn fr lo ce sl) (hM : xM l y cc2 nL2 ret2 fr2 lo2 ce2 sl2 E B (.ref b0 :: As) N σ1 N2 σ2 oc) {ci : Nat} {q : vw_C} {fs : List Value} (hY : xYv y cc2 nL2 ret2 n ci q) (hl0 : xLk own idx y) (d : decode cc pc = .ok (.invokevirtual idx, 3)) (he : σ b0 = some (.inr (ci, fs))) (hs1 : σ = σ1) (hs2 : σ2 = σ3) (hn : As.length = n) (hst : st0 = As.reverse ++ .ref b0 :: st) (hcat : (st.map fun v => v.category).sum ≤ 8) (hr1 : fr2 + 1 ≤ fr) (hr2 : 8 + (nL2 + 11) + lo2 ≤ lo) (hr3 : a + ce2 ≤ ce) (hr4 : b + sl2 ≤ sl)
    (kk : xX k N2 (a + ce2) (b + sl2) σ3 (pc + 3) lv (oc.toList ++ st)) : xX k N a b σ pc lv st0 := by
  obtain ⟨p, l0, e, R, s, m, args, below, meth, c, Q, E0, B0, nL0⟩ := k
  obtain ⟨rfl, rfl, rfl, rfl, hx, hb, hml, hown, hts, hk, ⟨hR1, hR2, hR3, hR4⟩, hr, hlk, hmn, hBs⟩ := C
  subst hs1; subst hs2; subst hst
  obtain ⟨w1, w2, w3, w4, ⟨w5, w6, w7⟩, w8, w9⟩ := hY
  intro H locs ls hh hS hl
  have hP : va_P E0.1 vwCl [(b0, .inr (ci, fs))] H := fun i q2 hq => by
    have h1 := hh.2.2 b0 _ he
    cases i with
    | zero => cases hq; exact h1.2
    | succ i => simp at hq
  have hpv : PreV s H y.cls b0 (va_Pc (.ref b0 :: As) (fun U => xh E0 B0 N σ U.heap ∧ xk E0 U)) As := ⟨x_pre, by rw [← w9]; exact va_recv (q0 := 0) hk.1 hP w8 rfl, fun U hU hW => ⟨rfl, by rw [hU]; exact hh, xk.moved hW hk⟩⟩
  have hlen : ∀ sig, parseMethodDescriptor y.desc = some sig → n = sig.parameters.length := fun sig h => by
    rw [h] at w7
    exact (Option.some.inj w7).symm
  rcases hl0 with h | ⟨host, h⟩
  · have hrun := va_runV (e := e) (meth := meth) (below := below) (H := H) (locs := locs) (cells := a) (slots := b) (rest := st) (g := F0 m pc ls (As.reverse ++ .ref b0 :: st)) ⟨hx, hb, hml, hown, hts⟩ hM (index := idx) ⟨⟨rfl, rfl, by rw [hR1]; exact hr1, by rw [hR2]; exact hr2, x_ws hts w3, List.mem_cons_self, hts _ w3, hts _ w4, ⟨w5, w6⟩, hlen, hts _ h⟩, hts _ w1, hts _ w2⟩ hpv rfl hn hl.1 rfl (lv_room hcat) d ⟨by rw [hR3]; exact hr3, by rw [hR4]; exact hr4⟩
    exact x_run hk rfl hrun hS hl hBs kk
  · have hrun := va_runVN (e := e) (meth := meth) (below := below) (H := H) (locs := locs) (cells := a) (slots := b) (rest := st) (g := F0 m pc ls (As.reverse ++ .ref b0 :: st)) ⟨hx, hb, hml, hown, hts⟩ hM (index := idx) (host := host) ⟨⟨⟨rfl, rfl, by rw [hR1]; exact hr1, by rw [hR2]; exact hr2, x_ws hts w3, List.mem_cons_self⟩, hts _ w3, hts _ w4, ⟨w5, w6⟩, hlen, va_Nw.use rfl (hk.2 _ h)⟩, hts _ w1, hts _ w2⟩ hpv rfl hn hl.1 rfl (lv_room hcat) d ⟨by rw [hR3]; exact hr3, by rw [hR4]; exact hr4⟩
    exact x_run hk rfl hrun hS hl hBs kk
theorem x_callS (C : xC k l E B cc nL ret own mn fr lo ce sl) (hM : xM l y cc2 nL2 ret2 fr2 lo2 ce2 sl2 E B As N σ1 N2 σ2 oc) (hY : xYs y cc2 nL2 ret2 n) (hl0 : xLk own idx y) (d : decode cc pc = .ok (.invokestatic idx, 3)) (hs1 : σ = σ1) (hs2 : σ2 = σ3) (hn : As.length = n) (hst : st0 = As.reverse ++ st) (hcat : (st.map fun v => v.category).sum ≤ 8) (hr1 : fr2 + 1 ≤ fr) (hr2 : 8 + (nL2 + 11) + lo2 ≤ lo) (hr3 : a + ce2 ≤ ce) (hr4 : b + sl2 ≤ sl)
    (kk : xX k N2 (a + ce2) (b + sl2) σ3 (pc + 3) lv (oc.toList ++ st)) : xX k N a b σ pc lv st0 := by
  obtain ⟨p, l0, e, R, s, m, args, below, meth, c, Q, E0, B0, nL0⟩ := k
  obtain ⟨rfl, rfl, rfl, rfl, hx, hb, hml, hown, hts, hk, ⟨hR1, hR2, hR3, hR4⟩, hr, hlk, hmn, hBs⟩ := C
  subst hs1; subst hs2; subst hst
  obtain ⟨w1, w3, w4, w5, w6, w7⟩ := hY
  intro H locs ls hh hS hl
  have hpv : PreS s H (va_Pc As (fun U => xh E0 B0 N σ U.heap ∧ xk E0 U)) As := ⟨x_pre, fun U hU hW => ⟨rfl, by rw [hU]; exact hh, xk.moved hW hk⟩⟩
  have hlen : ∀ sig, parseMethodDescriptor y.desc = some sig → n = sig.parameters.length := fun sig h => by
    rw [h] at w7
    exact (Option.some.inj w7).symm
  rcases hl0 with h | ⟨host, h⟩
  · have hrun := va_runS (e := e) (meth := meth) (below := below) (H := H) (locs := locs) (cells := a) (slots := b) (rest := st) (g := F0 m pc ls (As.reverse ++ st)) ⟨hx, hb, hml, hown, hts⟩ hM (index := idx) ⟨⟨rfl, rfl, by rw [hR1]; exact hr1, by rw [hR2]; exact hr2, x_ws hts w3, List.mem_cons_self, hts _ w3, hts _ w4, ⟨w5, w6⟩, hlen, hts _ h⟩, hts _ w1⟩ hpv rfl hn hl.1 rfl (lv_room hcat) d ⟨by rw [hR3]; exact hr3, by rw [hR4]; exact hr4⟩
    exact x_run hk rfl hrun hS hl hBs kk
  · have hrun := va_runSN (e := e) (meth := meth) (below := below) (H := H) (locs := locs) (cells := a) (slots := b) (rest := st) (g := F0 m pc ls (As.reverse ++ st)) ⟨hx, hb, hml, hown, hts⟩ hM (index := idx) (host := host) ⟨⟨⟨rfl, rfl, by rw [hR1]; exact hr1, by rw [hR2]; exact hr2, x_ws hts w3, List.mem_cons_self⟩, hts _ w3, hts _ w4, ⟨w5, w6⟩, hlen, va_Nw.use rfl (hk.2 _ h)⟩, hts _ w1, trivial⟩ hpv rfl hn hl.1 rfl (lv_room hcat) d ⟨by rw [hR3]; exact hr3, by rw [hR4]; exact hr4⟩
    exact x_run hk rfl hrun hS hl hBs kk
theorem x_callI (C : xC k l E B cc nL ret own mn fr lo ce sl) (hM : xM l y cc2 nL2 none fr2 lo2 ce2 sl2 E B (.ref b0 :: As) N σ1 N2 σ2 oc) (hY : xYi y cc2 nL2 n) (hl0 : Cond.methodLink own idx y ∈ xG) (d : decode cc pc = .ok (.invokespecial idx, 3)) (hs1 : σ = σ1) (hs2 : σ2 = σ3) (hn : As.length = n) (hst : st0 = As.reverse ++ .ref b0 :: st) (hcat : (st.map fun v => v.category).sum ≤ 8) (hr1 : fr2 + 1 ≤ fr) (hr2 : 8 + (nL2 + 11) + lo2 ≤ lo) (hr3 : a + ce2 ≤ ce) (hr4 : b + sl2 ≤ sl)
    (kk : xX k N2 (a + ce2) (b + sl2) σ3 (pc + 3) lv (oc.toList ++ st)) : xX k N a b σ pc lv st0 := by
  obtain ⟨p, l0, e, R, s, m, args, below, meth, c, Q, E0, B0, nL0⟩ := k
  obtain ⟨rfl, rfl, rfl, rfl, hx, hb, hml, hown, hts, hk, ⟨hR1, hR2, hR3, hR4⟩, hr, hlk, hmn, hBs⟩ := C
  subst hs1; subst hs2; subst hst
  obtain ⟨w1, w3, w4, ⟨w5, w6, w7⟩, w8⟩ := hY
  intro H locs ls hh hS hl
  have hpv : PreS s H (va_Pc (.ref b0 :: As) (fun U => xh E0 B0 N σ U.heap ∧ xk E0 U)) (.ref b0 :: As) := ⟨x_pre, fun U hU hW => ⟨rfl, by rw [hU]; exact hh, xk.moved hW hk⟩⟩
  have hlen : ∀ sig, parseMethodDescriptor y.desc = some sig → n = sig.parameters.length := fun sig h => by
    rw [h] at w7
    exact (Option.some.inj w7).symm
  have hrun := va_runI (e := e) (meth := meth) (below := below) (H := H) (locs := locs) (cells := a) (slots := b) (rest := st) (g := F0 m pc ls (As.reverse ++ .ref b0 :: st)) ⟨hx, hb, hml, hown, hts⟩ hM (index := idx) ⟨⟨rfl, rfl, by rw [hR1]; exact hr1, by rw [hR2]; exact hr2, x_ws hts w3, List.mem_cons_self, hts _ w3, hts _ w4, ⟨w5, w6⟩, hlen, hts _ hl0⟩, w8, hts _ w1⟩ hpv rfl hn hl.1 rfl (lv_room hcat) d ⟨by rw [hR3]; exact hr3, by rw [hR4]; exact hr4⟩
  exact x_run hk rfl hrun hS hl hBs kk
theorem x_new (C : xC k l E B cc nL ret own mn fr lo ce sl) {ci i2 : Nat} {q : vw_C} {fs : List Value} {σ9 : Sg} (hc : vwCl[ci]? = some q) (hin : ∀ w ∈ u_ws q.1 q.2.1 q.2.2, w ∈ xG) (ty0 : Nat → FieldType) (hty : ∀ j, j < q.2.2 → parseFieldDescriptor (q.2.1 j).2.2.1 = some (ty0 j)) (w1 : Cond.classLink own i2 q.1 ∈ xG) (w2 : Cond.instantiable q.1 q.2.2 ∈ xG) (w3 : Cond.initialized q.1 ∈ xG) (hfs : ∀ j, j < q.2.2 → defaultValue (ty0 j) = vp_V fs j) (hca : a + 1 ≤ ce) (hcb : b + q.2.2 ≤ sl) (hs : xup σ N (.inr (ci, fs)) = σ9) (d : decode cc pc = .ok (.new i2, 3))
    (kk : xX k (N + 1) (a + 1) (b + q.2.2) σ9 (pc + 3) lv (.ref N :: st)) : xX k N a b σ pc lv st := by
  obtain ⟨p, l0, e, R, s, m, args, below, meth, c, Q, E0, B0, nL0⟩ := k
  obtain ⟨rfl, rfl, rfl, rfl, hx, hb, hml, hown, hts, hk, ⟨hR1, hR2, hR3, hR4⟩, hr, hlk, hmn, hBs⟩ := C
  obtain ⟨Cn, T, n⟩ := q
  subst hs
  intro H locs ls hh hS hl
  have hKn := hk.1.1 ci _ hc
  refine W.newcK hx hb hown (hts _ w1) (hts _ w2) (hts _ w3) rfl d (by rw [hR3]; exact hca) (by rw [hR4]; exact hcb) hKn.2.1 hh.1 fun H1 kC hkC e1 z1 o1 => ?_
  refine kk H1 locs ls (hh.push z1 o1 ⟨_, hc, (u_born ty0 hts hin hKn hkC e1 hty).to hfs⟩) ⟨Nat.le_trans hS.1 (by rw [z1, hh.1]; exact Nat.le_succ N), fun x h1 h2 => (o1 x (Nat.lt_of_lt_of_le h1 (by rw [← hh.1]; exact hS.1))).trans (hS.2.1 x h1 h2), hS.2.2⟩ hl
theorem x_newi (C : xC k l E B cc nL ret own mn fr lo ce sl) {n : Int32} {n2 : Nat} {σ9 : Sg} (w1 : Cond.arrayClass .int ∈ xG) (hn : ¬ n < 0) (hN : n.toNatClampNeg = n2) (hby : n2 * componentBytes .int ≤ 536870912) (hca : a + 1 ≤ ce) (hcb : b + n2 ≤ sl) (hs : xup σ N (.inl (xI E, n2, .inl (fun _ => 0))) = σ9) (d : decode cc pc = .ok (.newarray .int, 2))
    (kk : xX k (N + 1) (a + 1) (b + n2) σ9 (pc + 2) lv (.ref N :: st)) : xX k N a b σ pc lv (.int n :: st) := by
  obtain ⟨p, l0, e, R, s, m, args, below, meth, c, Q, E0, B0, nL0⟩ := k
  obtain ⟨rfl, rfl, rfl, rfl, hx, hb, hml, hown, hts, hk, ⟨hR1, hR2, hR3, hR4⟩, hr, hlk, hmn, hBs⟩ := C
  subst hs
  intro H locs ls hh hS hl
  refine va_newaK hx hb (atype := .int) (hts _ w1) rfl d rfl hn hN hby (by rw [hR3]; exact hca) (by rw [hR4]; exact hcb) hh.1 fun H1 cA e1 z1 o1 hAr hNm => ?_
  have hcA : cA = xI E0 := by
    have h1 := (hk.1.2 0 _ rfl).2
    have h2 : s.vm.findClass ("[" ++ FieldType.toString .int) = some (xI E0) := h1
    exact Option.some.inj (hNm.symm.trans h2)
  subst hcA
  refine kk H1 locs ls (hh.push z1 o1 e1) ⟨Nat.le_trans hS.1 (by rw [z1, hh.1]; exact Nat.le_succ N), fun x h1 h2 => (o1 x (Nat.lt_of_lt_of_le h1 (by rw [← hh.1]; exact hS.1))).trans (hS.2.1 x h1 h2), hS.2.2⟩ hl
theorem x_newc (C : xC k l E B cc nL ret own mn fr lo ce sl) {n : Int32} {n2 : Nat} {σ9 : Sg} (w1 : Cond.arrayClass .char ∈ xG) (hn : ¬ n < 0) (hN : n.toNatClampNeg = n2) (hby : n2 * componentBytes .char ≤ 536870912) (hca : a + 1 ≤ ce) (hcb : b + n2 ≤ sl) (hs : xup σ N (.inl (xCh E, n2, .inl (fun _ => 0))) = σ9) (d : decode cc pc = .ok (.newarray .char, 2))
    (kk : xX k (N + 1) (a + 1) (b + n2) σ9 (pc + 2) lv (.ref N :: st)) : xX k N a b σ pc lv (.int n :: st) := by
  obtain ⟨p, l0, e, R, s, m, args, below, meth, c, Q, E0, B0, nL0⟩ := k
  obtain ⟨rfl, rfl, rfl, rfl, hx, hb, hml, hown, hts, hk, ⟨hR1, hR2, hR3, hR4⟩, hr, hlk, hmn, hBs⟩ := C
  subst hs
  intro H locs ls hh hS hl
  refine va_newaK hx hb (atype := .char) (hts _ w1) rfl d rfl hn hN hby (by rw [hR3]; exact hca) (by rw [hR4]; exact hcb) hh.1 fun H1 cA e1 z1 o1 hAr hNm => ?_
  have hcA : cA = xCh E0 := by
    have h1 := (hk.1.2 1 _ rfl).2
    have h2 : s.vm.findClass ("[" ++ FieldType.toString .char) = some (xCh E0) := h1
    exact Option.some.inj (hNm.symm.trans h2)
  subst hcA
  refine kk H1 locs ls (hh.push z1 o1 e1) ⟨Nat.le_trans hS.1 (by rw [z1, hh.1]; exact Nat.le_succ N), fun x h1 h2 => (o1 x (Nat.lt_of_lt_of_le h1 (by rw [← hh.1]; exact hS.1))).trans (hS.2.1 x h1 h2), hS.2.2⟩ hl
theorem x_newq (C : xC k l E B cc nL ret own mn fr lo ce sl) {n : Int32} {n2 t0 i2 : Nat} {cA : ClassId} {Cn : String} {σ9 : Sg} (w1 : Cond.classLink own i2 Cn ∈ xG) (w2 : Cond.arrayOver (.object Cn) ∈ xGN) (ht : (xtys E)[t0]? = some (cA, .object Cn)) (hn : ¬ n < 0) (hN : n.toNatClampNeg = n2) (hby : n2 * 4 ≤ 536870912) (hca : a + 1 ≤ ce) (hcb : b + n2 ≤ sl) (hs : xup σ N (.inl (cA, n2, .inr (.inr (.inr (.inr (fun _ => none)))))) = σ9) (d : decode cc pc = .ok (.anewarray i2, 3))
    (kk : xX k (N + 1) (a + 1) (b + n2) σ9 (pc + 3) lv (.ref N :: st)) : xX k N a b σ pc lv (.int n :: st) := by
  obtain ⟨p, l0, e, R, s, m, args, below, meth, c, Q, E0, B0, nL0⟩ := k
  obtain ⟨rfl, rfl, rfl, rfl, hx, hb, hml, hown, hts, hk, ⟨hR1, hR2, hR3, hR4⟩, hr, hlk, hmn, hBs⟩ := C
  subst hs; subst hN
  intro H locs ls hh hS hl
  refine W.anew hx hb hown (hts _ w1) (va_AO.use (hk.2 _ w2)) rfl d rfl hn hby (by rw [hR3]; exact hca) (by rw [hR4]; exact hcb) fun cB kA comp f1 f2 f3 f4 => ?_
  have hcA : cB = cA := by
    obtain ⟨kA2, comp2, g1, g2, g3, g4⟩ := (hk.1.2 t0 _ ht).2
    exact Option.some.inj (f1.symm.trans g4)
  subst hcA
  generalize hH1 : H.push ({ cls := cB, slots := Array.replicate n.toNatClampNeg .null, vm := .none } : Cell) = H1
  have z1 : H1.size = N + 1 := by rw [← hH1, Array.size_push, hh.1]
  have e1 : H1[N]? = some (arrV cB n.toNatClampNeg (fun _ => .null)) := by rw [← hH1, ← hh.1, Array.getElem?_push_size, ← arrV_new]
  have o1 : ∀ q : Nat, q < N → H1[q]? = H[q]? := fun q hq => by rw [← hH1, Array.getElem?_push, if_neg (by rw [hh.1]; exact Nat.ne_of_lt hq)]
  rw [hh.1]
  refine kk H1 locs ls (hh.push z1 o1 (show H1[N]? = some (vp_cell _ _) by rw [vp_cell_q]; exact e1)) ⟨Nat.le_trans hS.1 (by rw [z1, hh.1]; exact Nat.le_succ N), fun x h1 h2 => (o1 x (Nat.lt_of_lt_of_le h1 (by rw [← hh.1]; exact hS.1))).trans (hS.2.1 x h1 h2), hS.2.2⟩ hl
theorem x_aast (C : xC k l E B cc nL ret own mn fr lo ce sl) {a0 n t0 v ci : Nat} {cA : ClassId} {r : vw_C} {f g : Nat → Option Nat} {vs : List Value} {i : Int32} {σ9 : Sg} (he : σ a0 = some (.inl (cA, n, .inr (.inr (.inr (.inr f)))))) (ht : (xtys E)[t0]? = some (cA, .object r.1)) (hv : σ v = some (.inr (ci, vs))) (hc : vwCl[ci]? = some r) (hin : vp_in i n) (hg : ∀ j, j < n → va_up f i.toNatClampNeg (some v) j = g j) (hs : xup σ a0 (.inl (cA, n, .inr (.inr (.inr (.inr g))))) = σ9) (d : decode cc pc = .ok (.aastore, 1))
    (kk : xX k N a b σ9 (pc + 1) lv (st)) : xX k N a b σ pc lv (.ref v :: .int i :: .ref a0 :: st) := by
  obtain ⟨p, l0, e, R, s, m, args, below, meth, c, Q, E0, B0, nL0⟩ := k
  obtain ⟨rfl, rfl, rfl, rfl, hx, hb, hml, hown, hts, hk, ⟨hR1, hR2, hR3, hR4⟩, hr, hlk, hmn, hBs⟩ := C
  subst hs
  intro H locs ls hh hS hl
  have hlt : i.toNatClampNeg < n := Nat.not_le.mp fun q => hin (Or.inr q)
  have h0 : ¬ i < 0 := fun q => hin (Or.inl q)
  obtain ⟨hba, hca⟩ := hh.2.2 a0 _ he
  obtain ⟨-, r2, hr2, cellV, g1, g2, g3, -⟩ := hh.2.2 v _ hv
  have hcls := (hk.1.1 ci r hc).2
  obtain ⟨kA, comp, k1, k2, k3, -⟩ := (hk.1.2 t0 _ ht).2
  have hcomp : comp = E0.1.1 ci := Option.some.inj (k3.symm.trans hcls.1)
  subst hcomp
  obtain ⟨kC, hkC, -⟩ := hcls.2
  refine W.aast hx hb hca (fun q h => by cases h) (fun h => by cases h) k1 k2 rfl hkC ⟨h0, by show _ < (arrV _ _ _).slots.size; rw [arrV_size]; exact hlt⟩ g1 (fun q h => by rw [g3] at h; cases h) (by rw [g2]; exact hkC) (by rw [g2]; exact va_assign hcls) rfl rfl d fun H1 e z oq => ?_
  refine kk H1 _ ls (hh.put he z oq ?_) (hS.put z oq hba) hl
  show H1[a0]? = some (vp_cell _ _)
  rw [e]
  rw [vp_cell_q, vp_cell_q, arrV_store]
  unfold arrV
  congr 2
  congr 1
  funext q
  show updV (fun j => va_rf (f j)) i.toNatClampNeg (.ref v) q.val = va_rf (g q.val)
  rw [← hg q.val q.isLt]
  by_cases hq : q.val = i.toNatClampNeg
  · simp [updV, va_up, va_rf, hq]
  · simp [updV, va_up, hq]
theorem x_obj (C : xC k l E B cc nL ret own mn fr lo ce sl) (w1 : Cond.methodLink own idx objectInit ∈ xG) (w2 : Cond.instanceMethod objectInit ∈ xG) (w3 : Cond.code objectInit ⟨#[0xb1]⟩ 1 none ∈ xG) {a0 : Nat} (d : decode cc pc = .ok (.invokespecial idx, 3)) (hfr : 1 ≤ fr) (hlo : (st.map fun v => v.category).sum + 12 ≤ lo)
    (kk : xX k N a b σ (pc + 3) lv (st)) : xX k N a b σ pc lv (.ref a0 :: st) := by
  obtain ⟨p, l0, e, R, s, m, args, below, meth, c, Q, E0, B0, nL0⟩ := k
  obtain ⟨rfl, rfl, rfl, rfl, hx, hb, hml, hown, hts, hk, ⟨hR1, hR2, hR3, hR4⟩, hr, hlk, hmn, hBs⟩ := C
  intro H locs ls hh hS hl
  refine W.objInit hx hb hown (hts _ w1) (hts _ w2) (hts _ w3) rfl (by rw [hml]; exact hl.1) rfl d (by rw [hR1]; exact hfr) (by rw [hR2]; show 2 * 0 + _ + _ ≤ _; omega) ?_
  exact (kk H locs ls hh hS hl)
theorem x_zret {ty : FieldType} (C : xC k l E B cc nL (some ty) own mn fr lo ce sl) {v v2 : Int32} (Z : xZ k ce sl N2 σ2 (some (.int v2))) (d : decode cc pc = .ok (.ireturn, 1)) (hnw : narrow ty (.int v) = .int v) (ha : a ≤ ce) (hb2 : b ≤ sl) (hN : N = N2) (hs : σ = σ2) (hv : v = v2) : xX k N a b σ pc lv [.int v] := by
  obtain ⟨p, l0, e, R, s, m, args, below, meth, c, Q, E0, B0, nL0⟩ := k
  obtain ⟨rfl, rfl, rfl, rfl, hx, hb, hml, hown, hts, hk, ⟨hR1, hR2, hR3, hR4⟩, hr, hlk, hmn, hBs⟩ := C
  subst hN; subst hs; subst hv
  have Z : Q = _ := Z
  subst Z
  intro H locs ls hh hS hl
  refine W.widen ha hb2 ?_
  exact W.zret hx hb hr hnw (fun t ht hW => ⟨rfl, by rw [ht]; exact hh, xk.moved hW hk, hS.F ht⟩) hS.2.2 d hlk
theorem x_lret (C : xC k l E B cc nL (some .long) own mn fr lo ce sl) {v v2 : Int64} (Z : xZ k ce sl N2 σ2 (some (.long v2))) (d : decode cc pc = .ok (.lreturn, 1))  (ha : a ≤ ce) (hb2 : b ≤ sl) (hN : N = N2) (hs : σ = σ2) (hv : v = v2) : xX k N a b σ pc lv [.long v] := by
  obtain ⟨p, l0, e, R, s, m, args, below, meth, c, Q, E0, B0, nL0⟩ := k
  obtain ⟨rfl, rfl, rfl, rfl, hx, hb, hml, hown, hts, hk, ⟨hR1, hR2, hR3, hR4⟩, hr, hlk, hmn, hBs⟩ := C
  subst hN; subst hs; subst hv
  have Z : Q = _ := Z
  subst Z
  intro H locs ls hh hS hl
  refine W.widen ha hb2 ?_
  exact W.lret hx hb hr (fun t ht hW => ⟨rfl, by rw [ht]; exact hh, xk.moved hW hk, hS.F ht⟩) hS.2.2 d hlk
theorem x_vret (C : xC k l E B cc nL none own mn fr lo ce sl) (Z : xZ k ce sl N2 σ2 none) (d : decode cc pc = .ok (.return_, 1)) (ha : a ≤ ce) (hb2 : b ≤ sl) (hN : N = N2) (hs : σ = σ2) : xX k N a b σ pc lv [] := by
  obtain ⟨p, l0, e, R, s, m, args, below, meth, c, Q, E0, B0, nL0⟩ := k
  obtain ⟨rfl, rfl, rfl, rfl, hx, hb, hml, hown, hts, hk, ⟨hR1, hR2, hR3, hR4⟩, hr, hlk, hmn, hBs⟩ := C
  subst hN; subst hs
  have Z : Q = _ := Z
  subst Z
  intro H locs ls hh hS hl
  refine W.widen ha hb2 ?_
  exact W.vret hx hb hr (fun t ht hW => ⟨rfl, by rw [ht]; exact hh, xk.moved hW hk, hS.F ht⟩) hS.2.2 d hlk
theorem x_aret {on : String} (C : xC k l E B cc nL (some (.object on)) own mn fr lo ce sl) {v v2 : Value} (Z : xZ k ce sl N2 σ2 (some v2)) (d : decode cc pc = .ok (.areturn, 1)) (hvr : v = .null ∨ ∃ a, v = .ref a) (ha : a ≤ ce) (hb2 : b ≤ sl) (hN : N = N2) (hs : σ = σ2) (hv : v = v2) : xX k N a b σ pc lv [v] := by
  obtain ⟨p, l0, e, R, s, m, args, below, meth, c, Q, E0, B0, nL0⟩ := k
  obtain ⟨rfl, rfl, rfl, rfl, hx, hb, hml, hown, hts, hk, ⟨hR1, hR2, hR3, hR4⟩, hr, hlk, hmn, hBs⟩ := C
  subst hN; subst hs; subst hv
  have Z : Q = _ := Z
  subst Z
  intro H locs ls hh hS hl
  refine W.widen ha hb2 ?_
  exact W.aret hx hb hr (Or.inl ⟨_, rfl⟩) hvr (fun t ht hW => ⟨rfl, by rw [ht]; exact hh, xk.moved hW hk, hS.F ht⟩) hS.2.2 d hlk
end XRC
end
section
theorem kc_X0 : ∀ w ∈ u_ws RX0 TX0 2, w ∈ xG := by
  intro w hw
  obtain ⟨j, hj, rfl⟩ := List.mem_map.mp hw
  have hj := List.mem_range.mp hj
  match j, hj with
  | 0, _ => exact (xG_of (i := 148) (by decide +kernel) rfl)
  | 1, _ => exact (xG_of (i := 150) (by decide +kernel) rfl)
  | j + 2, h => exact absurd h (by omega)
theorem ki_X0 : Cond.initialized RX0 ∈ xG := (xG_of (i := 50) (by decide +kernel) rfl)
theorem kn_X0 : Cond.instantiable RX0 2 ∈ xG := (xG_of (i := 140) (by decide +kernel) rfl)
theorem kc_X1 : ∀ w ∈ u_ws RX1 TX1 3, w ∈ xG := by
  intro w hw
  obtain ⟨j, hj, rfl⟩ := List.mem_map.mp hw
  have hj := List.mem_range.mp hj
  match j, hj with
  | 0, _ => exact (xG_of (i := 132) (by decide +kernel) rfl)
  | 1, _ => exact (xG_of (i := 134) (by decide +kernel) rfl)
  | 2, _ => exact (xG_of (i := 136) (by decide +kernel) rfl)
  | j + 3, h => exact absurd h (by omega)
theorem ki_X1 : Cond.initialized RX1 ∈ xG := (xG_of (i := 49) (by decide +kernel) rfl)
theorem kn_X1 : Cond.instantiable RX1 3 ∈ xG := (xG_of (i := 120) (by decide +kernel) rfl)
theorem kc_X2 : ∀ w ∈ u_ws RX2 TX2 4, w ∈ xG := by
  intro w hw
  obtain ⟨j, hj, rfl⟩ := List.mem_map.mp hw
  have hj := List.mem_range.mp hj
  match j, hj with
  | 0, _ => exact (xG_of (i := 83) (by decide +kernel) rfl)
  | 1, _ => exact (xG_of (i := 85) (by decide +kernel) rfl)
  | 2, _ => exact (xG_of (i := 87) (by decide +kernel) rfl)
  | 3, _ => exact (xG_of (i := 89) (by decide +kernel) rfl)
  | j + 4, h => exact absurd h (by omega)
theorem ki_X2 : Cond.initialized RX2 ∈ xG := (xG_of (i := 48) (by decide +kernel) rfl)
theorem kn_X2 : Cond.instantiable RX2 4 ∈ xG := (xG_of (i := 70) (by decide +kernel) rfl)
theorem kc_X3 : ∀ w ∈ u_ws RX3 TX3 8, w ∈ xG := by
  intro w hw
  obtain ⟨j, hj, rfl⟩ := List.mem_map.mp hw
  have hj := List.mem_range.mp hj
  match j, hj with
  | 0, _ => exact (xG_of (i := 102) (by decide +kernel) rfl)
  | 1, _ => exact (xG_of (i := 104) (by decide +kernel) rfl)
  | 2, _ => exact (xG_of (i := 106) (by decide +kernel) rfl)
  | 3, _ => exact (xG_of (i := 108) (by decide +kernel) rfl)
  | 4, _ => exact (xG_of (i := 110) (by decide +kernel) rfl)
  | 5, _ => exact (xG_of (i := 112) (by decide +kernel) rfl)
  | 6, _ => exact (xG_of (i := 114) (by decide +kernel) rfl)
  | 7, _ => exact (xG_of (i := 116) (by decide +kernel) rfl)
  | j + 8, h => exact absurd h (by omega)
theorem ki_X3 : Cond.initialized RX3 ∈ xG := (xG_of (i := 47) (by decide +kernel) rfl)
theorem kn_X3 : Cond.instantiable RX3 8 ∈ xG := (xG_of (i := 63) (by decide +kernel) rfl)
theorem kc_X4 : ∀ w ∈ u_ws RX4 TX4 4, w ∈ xG := by
  intro w hw
  obtain ⟨j, hj, rfl⟩ := List.mem_map.mp hw
  have hj := List.mem_range.mp hj
  match j, hj with
  | 0, _ => exact (xG_of (i := 158) (by decide +kernel) rfl)
  | 1, _ => exact (xG_of (i := 160) (by decide +kernel) rfl)
  | 2, _ => exact (xG_of (i := 162) (by decide +kernel) rfl)
  | 3, _ => exact (xG_of (i := 164) (by decide +kernel) rfl)
  | j + 4, h => exact absurd h (by omega)
theorem ki_X4 : Cond.initialized RX4 ∈ xG := (xG_of (i := 46) (by decide +kernel) rfl)
theorem kn_X4 : Cond.instantiable RX4 4 ∈ xG := (xG_of (i := 55) (by decide +kernel) rfl)
theorem kc_X5 : ∀ w ∈ u_ws RX5 TX5 13, w ∈ xG := by
  intro w hw
  obtain ⟨j, hj, rfl⟩ := List.mem_map.mp hw
  have hj := List.mem_range.mp hj
  match j, hj with
  | 0, _ => exact (xG_of (i := 563) (by decide +kernel) rfl)
  | 1, _ => exact (xG_of (i := 565) (by decide +kernel) rfl)
  | 2, _ => exact (xG_of (i := 567) (by decide +kernel) rfl)
  | 3, _ => exact (xG_of (i := 569) (by decide +kernel) rfl)
  | 4, _ => exact (xG_of (i := 571) (by decide +kernel) rfl)
  | 5, _ => exact (xG_of (i := 573) (by decide +kernel) rfl)
  | 6, _ => exact (xG_of (i := 575) (by decide +kernel) rfl)
  | 7, _ => exact (xG_of (i := 577) (by decide +kernel) rfl)
  | 8, _ => exact (xG_of (i := 579) (by decide +kernel) rfl)
  | 9, _ => exact (xG_of (i := 581) (by decide +kernel) rfl)
  | 10, _ => exact (xG_of (i := 583) (by decide +kernel) rfl)
  | 11, _ => exact (xG_of (i := 585) (by decide +kernel) rfl)
  | 12, _ => exact (xG_of (i := 587) (by decide +kernel) rfl)
  | j + 13, h => exact absurd h (by omega)
theorem ki_X5 : Cond.initialized RX5 ∈ xG := (xG_of (i := 51) (by decide +kernel) rfl)
theorem kn_X5 : Cond.instantiable RX5 13 ∈ xG := (xG_of (i := 545) (by decide +kernel) rfl)
theorem kf_X2_9 : xFd RX2 9 (RX2, TX2, 4) 2 0 := ⟨rfl, by decide, Or.inl (xG_of (i := 75) (by decide +kernel) rfl), kc_X2, ⟨tyX2, tyX2_ok⟩, nmX2⟩
theorem kfw_X2_9 : Cond.fieldLink RX2 9 (TX2 0).1 (TX2 0).2.1 (TX2 0).2.2.1 ∈ xG := (xG_of (i := 75) (by decide +kernel) rfl)
theorem kf_X2_21 : xFd RX2 21 (RX2, TX2, 4) 2 1 := ⟨rfl, by decide, Or.inl (xG_of (i := 76) (by decide +kernel) rfl), kc_X2, ⟨tyX2, tyX2_ok⟩, nmX2⟩
theorem kfw_X2_21 : Cond.fieldLink RX2 21 (TX2 1).1 (TX2 1).2.1 (TX2 1).2.2.1 ∈ xG := (xG_of (i := 76) (by decide +kernel) rfl)
theorem kf_X3_55 : xFd RX3 55 (RX2, TX2, 4) 2 1 := ⟨rfl, by decide, Or.inr ⟨"GesturePidgin", (xGN_of (i := 77) (by decide +kernel) rfl)⟩, kc_X2, ⟨tyX2, tyX2_ok⟩, nmX2⟩
theorem kf_X2_25 : xFd RX2 25 (RX2, TX2, 4) 2 2 := ⟨rfl, by decide, Or.inl (xG_of (i := 78) (by decide +kernel) rfl), kc_X2, ⟨tyX2, tyX2_ok⟩, nmX2⟩
theorem kfw_X2_25 : Cond.fieldLink RX2 25 (TX2 2).1 (TX2 2).2.1 (TX2 2).2.2.1 ∈ xG := (xG_of (i := 78) (by decide +kernel) rfl)
theorem kf_X4_95 : xFd RX4 95 (RX2, TX2, 4) 2 2 := ⟨rfl, by decide, Or.inr ⟨"GesturePidgin", (xGN_of (i := 79) (by decide +kernel) rfl)⟩, kc_X2, ⟨tyX2, tyX2_ok⟩, nmX2⟩
theorem kf_X3_104 : xFd RX3 104 (RX2, TX2, 4) 2 2 := ⟨rfl, by decide, Or.inr ⟨"GesturePidgin", (xGN_of (i := 80) (by decide +kernel) rfl)⟩, kc_X2, ⟨tyX2, tyX2_ok⟩, nmX2⟩
theorem kf_X2_29 : xFd RX2 29 (RX2, TX2, 4) 2 3 := ⟨rfl, by decide, Or.inl (xG_of (i := 81) (by decide +kernel) rfl), kc_X2, ⟨tyX2, tyX2_ok⟩, nmX2⟩
theorem kfw_X2_29 : Cond.fieldLink RX2 29 (TX2 3).1 (TX2 3).2.1 (TX2 3).2.2.1 ∈ xG := (xG_of (i := 81) (by decide +kernel) rfl)
theorem kf_X3_73 : xFd RX3 73 (RX2, TX2, 4) 2 3 := ⟨rfl, by decide, Or.inr ⟨"GesturePidgin", (xGN_of (i := 82) (by decide +kernel) rfl)⟩, kc_X2, ⟨tyX2, tyX2_ok⟩, nmX2⟩
theorem kf_X3_11 : xFd RX3 11 (RX3, TX3, 8) 3 0 := ⟨rfl, by decide, Or.inl (xG_of (i := 93) (by decide +kernel) rfl), kc_X3, ⟨tyX3, tyX3_ok⟩, nmX3⟩
theorem kfw_X3_11 : Cond.fieldLink RX3 11 (TX3 0).1 (TX3 0).2.1 (TX3 0).2.2.1 ∈ xG := (xG_of (i := 93) (by decide +kernel) rfl)
theorem kf_X3_18 : xFd RX3 18 (RX3, TX3, 8) 3 1 := ⟨rfl, by decide, Or.inl (xG_of (i := 94) (by decide +kernel) rfl), kc_X3, ⟨tyX3, tyX3_ok⟩, nmX3⟩
theorem kfw_X3_18 : Cond.fieldLink RX3 18 (TX3 1).1 (TX3 1).2.1 (TX3 1).2.2.1 ∈ xG := (xG_of (i := 94) (by decide +kernel) rfl)
theorem kf_X3_22 : xFd RX3 22 (RX3, TX3, 8) 3 2 := ⟨rfl, by decide, Or.inl (xG_of (i := 95) (by decide +kernel) rfl), kc_X3, ⟨tyX3, tyX3_ok⟩, nmX3⟩
theorem kfw_X3_22 : Cond.fieldLink RX3 22 (TX3 2).1 (TX3 2).2.1 (TX3 2).2.2.1 ∈ xG := (xG_of (i := 95) (by decide +kernel) rfl)
theorem kf_X3_25 : xFd RX3 25 (RX3, TX3, 8) 3 3 := ⟨rfl, by decide, Or.inl (xG_of (i := 96) (by decide +kernel) rfl), kc_X3, ⟨tyX3, tyX3_ok⟩, nmX3⟩
theorem kfw_X3_25 : Cond.fieldLink RX3 25 (TX3 3).1 (TX3 3).2.1 (TX3 3).2.2.1 ∈ xG := (xG_of (i := 96) (by decide +kernel) rfl)
theorem kf_X4_76 : xFd RX4 76 (RX3, TX3, 8) 3 3 := ⟨rfl, by decide, Or.inr ⟨"GesturePidgin", (xGN_of (i := 97) (by decide +kernel) rfl)⟩, kc_X3, ⟨tyX3, tyX3_ok⟩, nmX3⟩
theorem kf_X3_39 : xFd RX3 39 (RX3, TX3, 8) 3 4 := ⟨rfl, by decide, Or.inl (xG_of (i := 98) (by decide +kernel) rfl), kc_X3, ⟨tyX3, tyX3_ok⟩, nmX3⟩
theorem kfw_X3_39 : Cond.fieldLink RX3 39 (TX3 4).1 (TX3 4).2.1 (TX3 4).2.2.1 ∈ xG := (xG_of (i := 98) (by decide +kernel) rfl)
theorem kf_X3_42 : xFd RX3 42 (RX3, TX3, 8) 3 5 := ⟨rfl, by decide, Or.inl (xG_of (i := 99) (by decide +kernel) rfl), kc_X3, ⟨tyX3, tyX3_ok⟩, nmX3⟩
theorem kfw_X3_42 : Cond.fieldLink RX3 42 (TX3 5).1 (TX3 5).2.1 (TX3 5).2.2.1 ∈ xG := (xG_of (i := 99) (by decide +kernel) rfl)
theorem kf_X3_45 : xFd RX3 45 (RX3, TX3, 8) 3 6 := ⟨rfl, by decide, Or.inl (xG_of (i := 100) (by decide +kernel) rfl), kc_X3, ⟨tyX3, tyX3_ok⟩, nmX3⟩
theorem kfw_X3_45 : Cond.fieldLink RX3 45 (TX3 6).1 (TX3 6).2.1 (TX3 6).2.2.1 ∈ xG := (xG_of (i := 100) (by decide +kernel) rfl)
theorem kf_X3_48 : xFd RX3 48 (RX3, TX3, 8) 3 7 := ⟨rfl, by decide, Or.inl (xG_of (i := 101) (by decide +kernel) rfl), kc_X3, ⟨tyX3, tyX3_ok⟩, nmX3⟩
theorem kfw_X3_48 : Cond.fieldLink RX3 48 (TX3 7).1 (TX3 7).2.1 (TX3 7).2.2.1 ∈ xG := (xG_of (i := 101) (by decide +kernel) rfl)
theorem kf_X1_11 : xFd RX1 11 (RX1, TX1, 3) 1 0 := ⟨rfl, by decide, Or.inl (xG_of (i := 128) (by decide +kernel) rfl), kc_X1, ⟨tyX1, tyX1_ok⟩, nmX1⟩
theorem kfw_X1_11 : Cond.fieldLink RX1 11 (TX1 0).1 (TX1 0).2.1 (TX1 0).2.2.1 ∈ xG := (xG_of (i := 128) (by decide +kernel) rfl)
theorem kf_X1_18 : xFd RX1 18 (RX1, TX1, 3) 1 1 := ⟨rfl, by decide, Or.inl (xG_of (i := 129) (by decide +kernel) rfl), kc_X1, ⟨tyX1, tyX1_ok⟩, nmX1⟩
theorem kfw_X1_18 : Cond.fieldLink RX1 18 (TX1 1).1 (TX1 1).2.1 (TX1 1).2.2.1 ∈ xG := (xG_of (i := 129) (by decide +kernel) rfl)
theorem kf_X1_26 : xFd RX1 26 (RX1, TX1, 3) 1 2 := ⟨rfl, by decide, Or.inl (xG_of (i := 130) (by decide +kernel) rfl), kc_X1, ⟨tyX1, tyX1_ok⟩, nmX1⟩
theorem kfw_X1_26 : Cond.fieldLink RX1 26 (TX1 2).1 (TX1 2).2.1 (TX1 2).2.2.1 ∈ xG := (xG_of (i := 130) (by decide +kernel) rfl)
theorem kf_X4_164 : xFd RX4 164 (RX1, TX1, 3) 1 2 := ⟨rfl, by decide, Or.inr ⟨"GesturePidgin", (xGN_of (i := 131) (by decide +kernel) rfl)⟩, kc_X1, ⟨tyX1, tyX1_ok⟩, nmX1⟩
theorem kf_X0_9 : xFd RX0 9 (RX0, TX0, 2) 0 0 := ⟨rfl, by decide, Or.inl (xG_of (i := 145) (by decide +kernel) rfl), kc_X0, ⟨tyX0, tyX0_ok⟩, nmX0⟩
theorem kfw_X0_9 : Cond.fieldLink RX0 9 (TX0 0).1 (TX0 0).2.1 (TX0 0).2.2.1 ∈ xG := (xG_of (i := 145) (by decide +kernel) rfl)
theorem kf_X0_15 : xFd RX0 15 (RX0, TX0, 2) 0 1 := ⟨rfl, by decide, Or.inl (xG_of (i := 146) (by decide +kernel) rfl), kc_X0, ⟨tyX0, tyX0_ok⟩, nmX0⟩
theorem kfw_X0_15 : Cond.fieldLink RX0 15 (TX0 1).1 (TX0 1).2.1 (TX0 1).2.2.1 ∈ xG := (xG_of (i := 146) (by decide +kernel) rfl)
theorem kf_X4_150 : xFd RX4 150 (RX0, TX0, 2) 0 1 := ⟨rfl, by decide, Or.inr ⟨"GesturePidgin", (xGN_of (i := 147) (by decide +kernel) rfl)⟩, kc_X0, ⟨tyX0, tyX0_ok⟩, nmX0⟩
theorem kf_X4_10 : xFd RX4 10 (RX4, TX4, 4) 4 0 := ⟨rfl, by decide, Or.inl (xG_of (i := 154) (by decide +kernel) rfl), kc_X4, ⟨tyX4, tyX4_ok⟩, nmX4⟩
theorem kfw_X4_10 : Cond.fieldLink RX4 10 (TX4 0).1 (TX4 0).2.1 (TX4 0).2.2.1 ∈ xG := (xG_of (i := 154) (by decide +kernel) rfl)
theorem kf_X4_16 : xFd RX4 16 (RX4, TX4, 4) 4 1 := ⟨rfl, by decide, Or.inl (xG_of (i := 155) (by decide +kernel) rfl), kc_X4, ⟨tyX4, tyX4_ok⟩, nmX4⟩
theorem kfw_X4_16 : Cond.fieldLink RX4 16 (TX4 1).1 (TX4 1).2.1 (TX4 1).2.2.1 ∈ xG := (xG_of (i := 155) (by decide +kernel) rfl)
theorem kf_X4_22 : xFd RX4 22 (RX4, TX4, 4) 4 2 := ⟨rfl, by decide, Or.inl (xG_of (i := 156) (by decide +kernel) rfl), kc_X4, ⟨tyX4, tyX4_ok⟩, nmX4⟩
theorem kfw_X4_22 : Cond.fieldLink RX4 22 (TX4 2).1 (TX4 2).2.1 (TX4 2).2.2.1 ∈ xG := (xG_of (i := 156) (by decide +kernel) rfl)
theorem kf_X4_29 : xFd RX4 29 (RX4, TX4, 4) 4 3 := ⟨rfl, by decide, Or.inl (xG_of (i := 157) (by decide +kernel) rfl), kc_X4, ⟨tyX4, tyX4_ok⟩, nmX4⟩
theorem kfw_X4_29 : Cond.fieldLink RX4 29 (TX4 3).1 (TX4 3).2.1 (TX4 3).2.2.1 ∈ xG := (xG_of (i := 157) (by decide +kernel) rfl)
theorem kf_X5_7 : xFd RX5 7 (RX5, TX5, 13) 5 0 := ⟨rfl, by decide, Or.inl (xG_of (i := 550) (by decide +kernel) rfl), kc_X5, ⟨tyX5, tyX5_ok⟩, nmX5⟩
theorem kfw_X5_7 : Cond.fieldLink RX5 7 (TX5 0).1 (TX5 0).2.1 (TX5 0).2.2.1 ∈ xG := (xG_of (i := 550) (by decide +kernel) rfl)
theorem kf_X5_13 : xFd RX5 13 (RX5, TX5, 13) 5 1 := ⟨rfl, by decide, Or.inl (xG_of (i := 551) (by decide +kernel) rfl), kc_X5, ⟨tyX5, tyX5_ok⟩, nmX5⟩
theorem kfw_X5_13 : Cond.fieldLink RX5 13 (TX5 1).1 (TX5 1).2.1 (TX5 1).2.2.1 ∈ xG := (xG_of (i := 551) (by decide +kernel) rfl)
theorem kf_X5_16 : xFd RX5 16 (RX5, TX5, 13) 5 2 := ⟨rfl, by decide, Or.inl (xG_of (i := 552) (by decide +kernel) rfl), kc_X5, ⟨tyX5, tyX5_ok⟩, nmX5⟩
theorem kfw_X5_16 : Cond.fieldLink RX5 16 (TX5 2).1 (TX5 2).2.1 (TX5 2).2.2.1 ∈ xG := (xG_of (i := 552) (by decide +kernel) rfl)
theorem kf_X5_22 : xFd RX5 22 (RX5, TX5, 13) 5 3 := ⟨rfl, by decide, Or.inl (xG_of (i := 553) (by decide +kernel) rfl), kc_X5, ⟨tyX5, tyX5_ok⟩, nmX5⟩
theorem kfw_X5_22 : Cond.fieldLink RX5 22 (TX5 3).1 (TX5 3).2.1 (TX5 3).2.2.1 ∈ xG := (xG_of (i := 553) (by decide +kernel) rfl)
theorem kf_X5_19 : xFd RX5 19 (RX5, TX5, 13) 5 4 := ⟨rfl, by decide, Or.inl (xG_of (i := 554) (by decide +kernel) rfl), kc_X5, ⟨tyX5, tyX5_ok⟩, nmX5⟩
theorem kfw_X5_19 : Cond.fieldLink RX5 19 (TX5 4).1 (TX5 4).2.1 (TX5 4).2.2.1 ∈ xG := (xG_of (i := 554) (by decide +kernel) rfl)
theorem kf_X5_146 : xFd RX5 146 (RX5, TX5, 13) 5 5 := ⟨rfl, by decide, Or.inl (xG_of (i := 555) (by decide +kernel) rfl), kc_X5, ⟨tyX5, tyX5_ok⟩, nmX5⟩
theorem kfw_X5_146 : Cond.fieldLink RX5 146 (TX5 5).1 (TX5 5).2.1 (TX5 5).2.2.1 ∈ xG := (xG_of (i := 555) (by decide +kernel) rfl)
theorem kf_X5_61 : xFd RX5 61 (RX5, TX5, 13) 5 6 := ⟨rfl, by decide, Or.inl (xG_of (i := 556) (by decide +kernel) rfl), kc_X5, ⟨tyX5, tyX5_ok⟩, nmX5⟩
theorem kfw_X5_61 : Cond.fieldLink RX5 61 (TX5 6).1 (TX5 6).2.1 (TX5 6).2.2.1 ∈ xG := (xG_of (i := 556) (by decide +kernel) rfl)
theorem kf_X5_70 : xFd RX5 70 (RX5, TX5, 13) 5 7 := ⟨rfl, by decide, Or.inl (xG_of (i := 557) (by decide +kernel) rfl), kc_X5, ⟨tyX5, tyX5_ok⟩, nmX5⟩
theorem kfw_X5_70 : Cond.fieldLink RX5 70 (TX5 7).1 (TX5 7).2.1 (TX5 7).2.2.1 ∈ xG := (xG_of (i := 557) (by decide +kernel) rfl)
theorem kf_X5_149 : xFd RX5 149 (RX5, TX5, 13) 5 8 := ⟨rfl, by decide, Or.inl (xG_of (i := 558) (by decide +kernel) rfl), kc_X5, ⟨tyX5, tyX5_ok⟩, nmX5⟩
theorem kfw_X5_149 : Cond.fieldLink RX5 149 (TX5 8).1 (TX5 8).2.1 (TX5 8).2.2.1 ∈ xG := (xG_of (i := 558) (by decide +kernel) rfl)
theorem kf_X5_155 : xFd RX5 155 (RX5, TX5, 13) 5 9 := ⟨rfl, by decide, Or.inl (xG_of (i := 559) (by decide +kernel) rfl), kc_X5, ⟨tyX5, tyX5_ok⟩, nmX5⟩
theorem kfw_X5_155 : Cond.fieldLink RX5 155 (TX5 9).1 (TX5 9).2.1 (TX5 9).2.2.1 ∈ xG := (xG_of (i := 559) (by decide +kernel) rfl)
theorem kf_X5_168 : xFd RX5 168 (RX5, TX5, 13) 5 10 := ⟨rfl, by decide, Or.inl (xG_of (i := 560) (by decide +kernel) rfl), kc_X5, ⟨tyX5, tyX5_ok⟩, nmX5⟩
theorem kfw_X5_168 : Cond.fieldLink RX5 168 (TX5 10).1 (TX5 10).2.1 (TX5 10).2.2.1 ∈ xG := (xG_of (i := 560) (by decide +kernel) rfl)
theorem kf_X5_174 : xFd RX5 174 (RX5, TX5, 13) 5 11 := ⟨rfl, by decide, Or.inl (xG_of (i := 561) (by decide +kernel) rfl), kc_X5, ⟨tyX5, tyX5_ok⟩, nmX5⟩
theorem kfw_X5_174 : Cond.fieldLink RX5 174 (TX5 11).1 (TX5 11).2.1 (TX5 11).2.2.1 ∈ xG := (xG_of (i := 561) (by decide +kernel) rfl)
theorem kf_X5_162 : xFd RX5 162 (RX5, TX5, 13) 5 12 := ⟨rfl, by decide, Or.inl (xG_of (i := 562) (by decide +kernel) rfl), kc_X5, ⟨tyX5, tyX5_ok⟩, nmX5⟩
theorem kfw_X5_162 : Cond.fieldLink RX5 162 (TX5 12).1 (TX5 12).2.1 (TX5 12).2.2.1 ∈ xG := (xG_of (i := 562) (by decide +kernel) rfl)
theorem kj_X4_init : xYi yX4_init cX4_init 1 0 := ⟨(xG_of (i := 57) (by decide +kernel) rfl), (xG_of (i := 58) (by decide +kernel) rfl), (xG_of (i := 46) (by decide +kernel) rfl), ⟨by decide +kernel, by decide +kernel, by decide +kernel⟩, rfl⟩
theorem kj_X3_init : xYi yX3_init cX3_init 2 0 := ⟨(xG_of (i := 65) (by decide +kernel) rfl), (xG_of (i := 66) (by decide +kernel) rfl), (xG_of (i := 47) (by decide +kernel) rfl), ⟨by decide +kernel, by decide +kernel, by decide +kernel⟩, rfl⟩
theorem kj_X2_init : xYi yX2_init cX2_init 1 0 := ⟨(xG_of (i := 72) (by decide +kernel) rfl), (xG_of (i := 73) (by decide +kernel) rfl), (xG_of (i := 48) (by decide +kernel) rfl), ⟨by decide +kernel, by decide +kernel, by decide +kernel⟩, rfl⟩
theorem kj_X1_init : xYi yX1_init cX1_init 2 0 := ⟨(xG_of (i := 122) (by decide +kernel) rfl), (xG_of (i := 123) (by decide +kernel) rfl), (xG_of (i := 49) (by decide +kernel) rfl), ⟨by decide +kernel, by decide +kernel, by decide +kernel⟩, rfl⟩
theorem kj_X0_init : xYi yX0_init cX0_init 1 0 := ⟨(xG_of (i := 142) (by decide +kernel) rfl), (xG_of (i := 143) (by decide +kernel) rfl), (xG_of (i := 50) (by decide +kernel) rfl), ⟨by decide +kernel, by decide +kernel, by decide +kernel⟩, rfl⟩
theorem kv_X4_come : xYv yX4_come cX4_come 2 (some .int) 0 4 (RX4, TX4, 4) := ⟨(xG_of (i := 168) (by decide +kernel) rfl), (xG_of (i := 169) (by decide +kernel) rfl), (xG_of (i := 170) (by decide +kernel) rfl), (xG_of (i := 46) (by decide +kernel) rfl), ⟨by decide +kernel, by decide +kernel, by decide +kernel⟩, rfl, rfl⟩
theorem kv_X3_lowestFree : xYv yX3_lowestFree cX3_lowestFree 2 (some .int) 0 3 (RX3, TX3, 8) := ⟨(xG_of (i := 172) (by decide +kernel) rfl), (xG_of (i := 173) (by decide +kernel) rfl), (xG_of (i := 174) (by decide +kernel) rfl), (xG_of (i := 47) (by decide +kernel) rfl), ⟨by decide +kernel, by decide +kernel, by decide +kernel⟩, rfl, rfl⟩
theorem kv_X1_keep : xYv yX1_keep cX1_keep 2 none 1 1 (RX1, TX1, 3) := ⟨(xG_of (i := 176) (by decide +kernel) rfl), (xG_of (i := 177) (by decide +kernel) rfl), (xG_of (i := 178) (by decide +kernel) rfl), (xG_of (i := 49) (by decide +kernel) rfl), ⟨by decide +kernel, by decide +kernel, by decide +kernel⟩, rfl, rfl⟩
theorem kv_X3_copyFrom : xYv yX3_copyFrom cX3_copyFrom 3 none 1 3 (RX3, TX3, 8) := ⟨(xG_of (i := 180) (by decide +kernel) rfl), (xG_of (i := 181) (by decide +kernel) rfl), (xG_of (i := 182) (by decide +kernel) rfl), (xG_of (i := 47) (by decide +kernel) rfl), ⟨by decide +kernel, by decide +kernel, by decide +kernel⟩, rfl, rfl⟩
theorem kv_X2_copyFrom : xYv yX2_copyFrom cX2_copyFrom 2 none 1 2 (RX2, TX2, 4) := ⟨(xG_of (i := 184) (by decide +kernel) rfl), (xG_of (i := 185) (by decide +kernel) rfl), (xG_of (i := 186) (by decide +kernel) rfl), (xG_of (i := 48) (by decide +kernel) rfl), ⟨by decide +kernel, by decide +kernel, by decide +kernel⟩, rfl, rfl⟩
theorem kv_X3_welcome : xYv yX3_welcome cX3_welcome 2 none 1 3 (RX3, TX3, 8) := ⟨(xG_of (i := 195) (by decide +kernel) rfl), (xG_of (i := 196) (by decide +kernel) rfl), (xG_of (i := 197) (by decide +kernel) rfl), (xG_of (i := 47) (by decide +kernel) rfl), ⟨by decide +kernel, by decide +kernel, by decide +kernel⟩, rfl, rfl⟩
theorem ks_X4_isBelow : xYs yX4_isBelow cX4_isBelow 2 (some .boolean) 2 := ⟨(xG_of (i := 199) (by decide +kernel) rfl), (xG_of (i := 200) (by decide +kernel) rfl), (xG_of (i := 46) (by decide +kernel) rfl), ⟨by decide +kernel, by decide +kernel, by decide +kernel⟩⟩
theorem kv_X2_arrive : xYv yX2_arrive cX2_arrive 1 none 0 2 (RX2, TX2, 4) := ⟨(xG_of (i := 202) (by decide +kernel) rfl), (xG_of (i := 203) (by decide +kernel) rfl), (xG_of (i := 204) (by decide +kernel) rfl), (xG_of (i := 48) (by decide +kernel) rfl), ⟨by decide +kernel, by decide +kernel, by decide +kernel⟩, rfl, rfl⟩
theorem kv_X2_beginLife : xYv yX2_beginLife cX2_beginLife 6 none 2 2 (RX2, TX2, 4) := ⟨(xG_of (i := 206) (by decide +kernel) rfl), (xG_of (i := 207) (by decide +kernel) rfl), (xG_of (i := 208) (by decide +kernel) rfl), (xG_of (i := 48) (by decide +kernel) rfl), ⟨by decide +kernel, by decide +kernel, by decide +kernel⟩, rfl, rfl⟩
theorem kv_X2_weightOf : xYv yX2_weightOf cX2_weightOf 3 (some .int) 2 2 (RX2, TX2, 4) := ⟨(xG_of (i := 210) (by decide +kernel) rfl), (xG_of (i := 211) (by decide +kernel) rfl), (xG_of (i := 212) (by decide +kernel) rfl), (xG_of (i := 48) (by decide +kernel) rfl), ⟨by decide +kernel, by decide +kernel, by decide +kernel⟩, rfl, rfl⟩
theorem ks_X4_isMeaning : xYs yX4_isMeaning cX4_isMeaning 1 (some .boolean) 1 := ⟨(xG_of (i := 214) (by decide +kernel) rfl), (xG_of (i := 215) (by decide +kernel) rfl), (xG_of (i := 46) (by decide +kernel) rfl), ⟨by decide +kernel, by decide +kernel, by decide +kernel⟩⟩
theorem ks_X4_isWord : xYs yX4_isWord cX4_isWord 1 (some .boolean) 1 := ⟨(xG_of (i := 217) (by decide +kernel) rfl), (xG_of (i := 218) (by decide +kernel) rfl), (xG_of (i := 46) (by decide +kernel) rfl), ⟨by decide +kernel, by decide +kernel, by decide +kernel⟩⟩
theorem kv_X2_putWeight : xYv yX2_putWeight cX2_putWeight 4 none 3 2 (RX2, TX2, 4) := ⟨(xG_of (i := 220) (by decide +kernel) rfl), (xG_of (i := 221) (by decide +kernel) rfl), (xG_of (i := 222) (by decide +kernel) rfl), (xG_of (i := 48) (by decide +kernel) rfl), ⟨by decide +kernel, by decide +kernel, by decide +kernel⟩, rfl, rfl⟩
theorem kv_X4_go : xYv yX4_go cX4_go 3 (some .int) 1 4 (RX4, TX4, 4) := ⟨(xG_of (i := 228) (by decide +kernel) rfl), (xG_of (i := 229) (by decide +kernel) rfl), (xG_of (i := 230) (by decide +kernel) rfl), (xG_of (i := 46) (by decide +kernel) rfl), ⟨by decide +kernel, by decide +kernel, by decide +kernel⟩, rfl, rfl⟩
theorem kv_X3_find : xYv yX3_find cX3_find 2 (some (.object "GesturePidgin$Speaker")) 1 3 (RX3, TX3, 8) := ⟨(xG_of (i := 232) (by decide +kernel) rfl), (xG_of (i := 233) (by decide +kernel) rfl), (xG_of (i := 234) (by decide +kernel) rfl), (xG_of (i := 47) (by decide +kernel) rfl), ⟨by decide +kernel, by decide +kernel, by decide +kernel⟩, rfl, rfl⟩
theorem kv_X2_leave : xYv yX2_leave cX2_leave 1 none 0 2 (RX2, TX2, 4) := ⟨(xG_of (i := 236) (by decide +kernel) rfl), (xG_of (i := 237) (by decide +kernel) rfl), (xG_of (i := 238) (by decide +kernel) rfl), (xG_of (i := 48) (by decide +kernel) rfl), ⟨by decide +kernel, by decide +kernel, by decide +kernel⟩, rfl, rfl⟩
theorem kv_X3_countSpeakers : xYv yX3_countSpeakers cX3_countSpeakers 3 (some .int) 0 3 (RX3, TX3, 8) := ⟨(xG_of (i := 240) (by decide +kernel) rfl), (xG_of (i := 241) (by decide +kernel) rfl), (xG_of (i := 242) (by decide +kernel) rfl), (xG_of (i := 47) (by decide +kernel) rfl), ⟨by decide +kernel, by decide +kernel, by decide +kernel⟩, rfl, rfl⟩
theorem kv_X4_set : xYv yX4_set cX4_set 4 (some .int) 2 4 (RX4, TX4, 4) := ⟨(xG_of (i := 244) (by decide +kernel) rfl), (xG_of (i := 245) (by decide +kernel) rfl), (xG_of (i := 246) (by decide +kernel) rfl), (xG_of (i := 46) (by decide +kernel) rfl), ⟨by decide +kernel, by decide +kernel, by decide +kernel⟩, rfl, rfl⟩
theorem ks_X4_leastOf : xYs yX4_leastOf cX4_leastOf 1 (some .int) 1 := ⟨(xG_of (i := 249) (by decide +kernel) rfl), (xG_of (i := 250) (by decide +kernel) rfl), (xG_of (i := 46) (by decide +kernel) rfl), ⟨by decide +kernel, by decide +kernel, by decide +kernel⟩⟩
theorem ks_X4_mostOf : xYs yX4_mostOf cX4_mostOf 1 (some .int) 1 := ⟨(xG_of (i := 252) (by decide +kernel) rfl), (xG_of (i := 253) (by decide +kernel) rfl), (xG_of (i := 46) (by decide +kernel) rfl), ⟨by decide +kernel, by decide +kernel, by decide +kernel⟩⟩
theorem kv_X3_settingAt : xYv yX3_settingAt cX3_settingAt 2 (some .int) 1 3 (RX3, TX3, 8) := ⟨(xG_of (i := 255) (by decide +kernel) rfl), (xG_of (i := 256) (by decide +kernel) rfl), (xG_of (i := 257) (by decide +kernel) rfl), (xG_of (i := 47) (by decide +kernel) rfl), ⟨by decide +kernel, by decide +kernel, by decide +kernel⟩, rfl, rfl⟩
theorem kv_X3_putSetting : xYv yX3_putSetting cX3_putSetting 3 none 2 3 (RX3, TX3, 8) := ⟨(xG_of (i := 259) (by decide +kernel) rfl), (xG_of (i := 260) (by decide +kernel) rfl), (xG_of (i := 261) (by decide +kernel) rfl), (xG_of (i := 47) (by decide +kernel) rfl), ⟨by decide +kernel, by decide +kernel, by decide +kernel⟩, rfl, rfl⟩
theorem kv_X4_setSeed : xYv yX4_setSeed cX4_setSeed 3 (some .int) 1 4 (RX4, TX4, 4) := ⟨(xG_of (i := 263) (by decide +kernel) rfl), (xG_of (i := 264) (by decide +kernel) rfl), (xG_of (i := 265) (by decide +kernel) rfl), (xG_of (i := 46) (by decide +kernel) rfl), ⟨by decide +kernel, by decide +kernel, by decide +kernel⟩, rfl, rfl⟩
theorem kv_X4_teach : xYv yX4_teach cX4_teach 7 (some .int) 4 4 (RX4, TX4, 4) := ⟨(xG_of (i := 268) (by decide +kernel) rfl), (xG_of (i := 269) (by decide +kernel) rfl), (xG_of (i := 270) (by decide +kernel) rfl), (xG_of (i := 46) (by decide +kernel) rfl), ⟨by decide +kernel, by decide +kernel, by decide +kernel⟩, rfl, rfl⟩
theorem kv_X4_setAge : xYv yX4_setAge cX4_setAge 5 (some .int) 2 4 (RX4, TX4, 4) := ⟨(xG_of (i := 276) (by decide +kernel) rfl), (xG_of (i := 277) (by decide +kernel) rfl), (xG_of (i := 278) (by decide +kernel) rfl), (xG_of (i := 46) (by decide +kernel) rfl), ⟨by decide +kernel, by decide +kernel, by decide +kernel⟩, rfl, rfl⟩
theorem kv_X4_meet : xYv yX4_meet cX4_meet 6 (some .int) 3 4 (RX4, TX4, 4) := ⟨(xG_of (i := 280) (by decide +kernel) rfl), (xG_of (i := 281) (by decide +kernel) rfl), (xG_of (i := 282) (by decide +kernel) rfl), (xG_of (i := 46) (by decide +kernel) rfl), ⟨by decide +kernel, by decide +kernel, by decide +kernel⟩, rfl, rfl⟩
theorem kv_X3_holdMeeting : xYv yX3_holdMeeting cX3_holdMeeting 7 (some .int) 3 3 (RX3, TX3, 8) := ⟨(xG_of (i := 284) (by decide +kernel) rfl), (xG_of (i := 285) (by decide +kernel) rfl), (xG_of (i := 286) (by decide +kernel) rfl), (xG_of (i := 47) (by decide +kernel) rfl), ⟨by decide +kernel, by decide +kernel, by decide +kernel⟩, rfl, rfl⟩
theorem kv_X2_wordFor : xYv yX2_wordFor cX2_wordFor 6 (some .int) 1 2 (RX2, TX2, 4) := ⟨(xG_of (i := 288) (by decide +kernel) rfl), (xG_of (i := 289) (by decide +kernel) rfl), (xG_of (i := 290) (by decide +kernel) rfl), (xG_of (i := 48) (by decide +kernel) rfl), ⟨by decide +kernel, by decide +kernel, by decide +kernel⟩, rfl, rfl⟩
theorem kv_X3_draw : xYv yX3_draw cX3_draw 2 (some .int) 1 3 (RX3, TX3, 8) := ⟨(xG_of (i := 292) (by decide +kernel) rfl), (xG_of (i := 293) (by decide +kernel) rfl), (xG_of (i := 294) (by decide +kernel) rfl), (xG_of (i := 47) (by decide +kernel) rfl), ⟨by decide +kernel, by decide +kernel, by decide +kernel⟩, rfl, rfl⟩
theorem kv_X2_meaningOf : xYv yX2_meaningOf cX2_meaningOf 6 (some .int) 1 2 (RX2, TX2, 4) := ⟨(xG_of (i := 297) (by decide +kernel) rfl), (xG_of (i := 298) (by decide +kernel) rfl), (xG_of (i := 299) (by decide +kernel) rfl), (xG_of (i := 48) (by decide +kernel) rfl), ⟨by decide +kernel, by decide +kernel, by decide +kernel⟩, rfl, rfl⟩
theorem kv_X2_prefer : xYv yX2_prefer cX2_prefer 6 none 4 2 (RX2, TX2, 4) := ⟨(xG_of (i := 301) (by decide +kernel) rfl), (xG_of (i := 302) (by decide +kernel) rfl), (xG_of (i := 303) (by decide +kernel) rfl), (xG_of (i := 48) (by decide +kernel) rfl), ⟨by decide +kernel, by decide +kernel, by decide +kernel⟩, rfl, rfl⟩
theorem kv_X2_learnsWith : xYv yX2_learnsWith cX2_learnsWith 2 (some .int) 1 2 (RX2, TX2, 4) := ⟨(xG_of (i := 305) (by decide +kernel) rfl), (xG_of (i := 306) (by decide +kernel) rfl), (xG_of (i := 307) (by decide +kernel) rfl), (xG_of (i := 48) (by decide +kernel) rfl), ⟨by decide +kernel, by decide +kernel, by decide +kernel⟩, rfl, rfl⟩
theorem kv_X2_changeWeight : xYv yX2_changeWeight cX2_changeWeight 4 none 3 2 (RX2, TX2, 4) := ⟨(xG_of (i := 309) (by decide +kernel) rfl), (xG_of (i := 310) (by decide +kernel) rfl), (xG_of (i := 311) (by decide +kernel) rfl), (xG_of (i := 48) (by decide +kernel) rfl), ⟨by decide +kernel, by decide +kernel, by decide +kernel⟩, rfl, rfl⟩
theorem kv_X2_forgetOtherMeanings : xYv yX2_forgetOtherMeanings cX2_forgetOtherMeanings 5 none 3 2 (RX2, TX2, 4) := ⟨(xG_of (i := 313) (by decide +kernel) rfl), (xG_of (i := 314) (by decide +kernel) rfl), (xG_of (i := 315) (by decide +kernel) rfl), (xG_of (i := 48) (by decide +kernel) rfl), ⟨by decide +kernel, by decide +kernel, by decide +kernel⟩, rfl, rfl⟩
theorem kv_X4_chat : xYv yX4_chat cX4_chat 3 (some .int) 1 4 (RX4, TX4, 4) := ⟨(xG_of (i := 318) (by decide +kernel) rfl), (xG_of (i := 319) (by decide +kernel) rfl), (xG_of (i := 320) (by decide +kernel) rfl), (xG_of (i := 46) (by decide +kernel) rfl), ⟨by decide +kernel, by decide +kernel, by decide +kernel⟩, rfl, rfl⟩
theorem kv_X4_refusalOfChat : xYv yX4_refusalOfChat cX4_refusalOfChat 2 (some .int) 1 4 (RX4, TX4, 4) := ⟨(xG_of (i := 323) (by decide +kernel) rfl), (xG_of (i := 0) (by decide +kernel) rfl), (xG_of (i := 324) (by decide +kernel) rfl), (xG_of (i := 46) (by decide +kernel) rfl), ⟨by decide +kernel, by decide +kernel, by decide +kernel⟩, rfl, rfl⟩
theorem kv_X3_holdChats : xYv yX3_holdChats cX3_holdChats 10 (some .int) 1 3 (RX3, TX3, 8) := ⟨(xG_of (i := 326) (by decide +kernel) rfl), (xG_of (i := 327) (by decide +kernel) rfl), (xG_of (i := 328) (by decide +kernel) rfl), (xG_of (i := 47) (by decide +kernel) rfl), ⟨by decide +kernel, by decide +kernel, by decide +kernel⟩, rfl, rfl⟩
theorem kv_X3_numberInOrder : xYv yX3_numberInOrder cX3_numberInOrder 5 (some .int) 2 3 (RX3, TX3, 8) := ⟨(xG_of (i := 331) (by decide +kernel) rfl), (xG_of (i := 332) (by decide +kernel) rfl), (xG_of (i := 333) (by decide +kernel) rfl), (xG_of (i := 47) (by decide +kernel) rfl), ⟨by decide +kernel, by decide +kernel, by decide +kernel⟩, rfl, rfl⟩
theorem kv_X4_age : xYv yX4_age cX4_age 2 (some .int) 1 4 (RX4, TX4, 4) := ⟨(xG_of (i := 337) (by decide +kernel) rfl), (xG_of (i := 338) (by decide +kernel) rfl), (xG_of (i := 339) (by decide +kernel) rfl), (xG_of (i := 46) (by decide +kernel) rfl), ⟨by decide +kernel, by decide +kernel, by decide +kernel⟩, rfl, rfl⟩
theorem kv_X3_passYears : xYv yX3_passYears cX3_passYears 4 (some .int) 1 3 (RX3, TX3, 8) := ⟨(xG_of (i := 341) (by decide +kernel) rfl), (xG_of (i := 342) (by decide +kernel) rfl), (xG_of (i := 343) (by decide +kernel) rfl), (xG_of (i := 47) (by decide +kernel) rfl), ⟨by decide +kernel, by decide +kernel, by decide +kernel⟩, rfl, rfl⟩
theorem kv_X3_passYear : xYv yX3_passYear cX3_passYear 3 none 0 3 (RX3, TX3, 8) := ⟨(xG_of (i := 346) (by decide +kernel) rfl), (xG_of (i := 1) (by decide +kernel) rfl), (xG_of (i := 347) (by decide +kernel) rfl), (xG_of (i := 47) (by decide +kernel) rfl), ⟨by decide +kernel, by decide +kernel, by decide +kernel⟩, rfl, rfl⟩
theorem kv_X3_teacherFor : xYv yX3_teacherFor cX3_teacherFor 5 (some (.object "GesturePidgin$Speaker")) 1 3 (RX3, TX3, 8) := ⟨(xG_of (i := 350) (by decide +kernel) rfl), (xG_of (i := 2) (by decide +kernel) rfl), (xG_of (i := 351) (by decide +kernel) rfl), (xG_of (i := 47) (by decide +kernel) rfl), ⟨by decide +kernel, by decide +kernel, by decide +kernel⟩, rfl, rfl⟩
theorem kv_X4_count : xYv yX4_count cX4_count 2 (some .int) 1 4 (RX4, TX4, 4) := ⟨(xG_of (i := 354) (by decide +kernel) rfl), (xG_of (i := 355) (by decide +kernel) rfl), (xG_of (i := 356) (by decide +kernel) rfl), (xG_of (i := 46) (by decide +kernel) rfl), ⟨by decide +kernel, by decide +kernel, by decide +kernel⟩, rfl, rfl⟩
theorem kv_X3_numberOf : xYv yX3_numberOf cX3_numberOf 2 (some .int) 1 3 (RX3, TX3, 8) := ⟨(xG_of (i := 358) (by decide +kernel) rfl), (xG_of (i := 359) (by decide +kernel) rfl), (xG_of (i := 360) (by decide +kernel) rfl), (xG_of (i := 47) (by decide +kernel) rfl), ⟨by decide +kernel, by decide +kernel, by decide +kernel⟩, rfl, rfl⟩
theorem kv_X3_sumOfWeights : xYv yX3_sumOfWeights cX3_sumOfWeights 3 (some .int) 0 3 (RX3, TX3, 8) := ⟨(xG_of (i := 363) (by decide +kernel) rfl), (xG_of (i := 3) (by decide +kernel) rfl), (xG_of (i := 364) (by decide +kernel) rfl), (xG_of (i := 47) (by decide +kernel) rfl), ⟨by decide +kernel, by decide +kernel, by decide +kernel⟩, rfl, rfl⟩
theorem kv_X2_sumOfWeights : xYv yX2_sumOfWeights cX2_sumOfWeights 6 (some .int) 0 2 (RX2, TX2, 4) := ⟨(xG_of (i := 366) (by decide +kernel) rfl), (xG_of (i := 367) (by decide +kernel) rfl), (xG_of (i := 368) (by decide +kernel) rfl), (xG_of (i := 48) (by decide +kernel) rfl), ⟨by decide +kernel, by decide +kernel, by decide +kernel⟩, rfl, rfl⟩
theorem kv_X4_setting : xYv yX4_setting cX4_setting 2 (some .int) 1 4 (RX4, TX4, 4) := ⟨(xG_of (i := 370) (by decide +kernel) rfl), (xG_of (i := 371) (by decide +kernel) rfl), (xG_of (i := 372) (by decide +kernel) rfl), (xG_of (i := 46) (by decide +kernel) rfl), ⟨by decide +kernel, by decide +kernel, by decide +kernel⟩, rfl, rfl⟩
theorem kv_X4_weight : xYv yX4_weight cX4_weight 5 (some .int) 3 4 (RX4, TX4, 4) := ⟨(xG_of (i := 374) (by decide +kernel) rfl), (xG_of (i := 375) (by decide +kernel) rfl), (xG_of (i := 376) (by decide +kernel) rfl), (xG_of (i := 46) (by decide +kernel) rfl), ⟨by decide +kernel, by decide +kernel, by decide +kernel⟩, rfl, rfl⟩
theorem kv_X4_speaker : xYv yX4_speaker cX4_speaker 4 (some .int) 2 4 (RX4, TX4, 4) := ⟨(xG_of (i := 378) (by decide +kernel) rfl), (xG_of (i := 379) (by decide +kernel) rfl), (xG_of (i := 380) (by decide +kernel) rfl), (xG_of (i := 46) (by decide +kernel) rfl), ⟨by decide +kernel, by decide +kernel, by decide +kernel⟩, rfl, rfl⟩
theorem kv_X3_numberOfSpeaker : xYv yX3_numberOfSpeaker cX3_numberOfSpeaker 3 (some .int) 2 3 (RX3, TX3, 8) := ⟨(xG_of (i := 382) (by decide +kernel) rfl), (xG_of (i := 383) (by decide +kernel) rfl), (xG_of (i := 384) (by decide +kernel) rfl), (xG_of (i := 47) (by decide +kernel) rfl), ⟨by decide +kernel, by decide +kernel, by decide +kernel⟩, rfl, rfl⟩
theorem kv_X2_countWords : xYv yX2_countWords cX2_countWords 3 (some .int) 0 2 (RX2, TX2, 4) := ⟨(xG_of (i := 387) (by decide +kernel) rfl), (xG_of (i := 388) (by decide +kernel) rfl), (xG_of (i := 389) (by decide +kernel) rfl), (xG_of (i := 48) (by decide +kernel) rfl), ⟨by decide +kernel, by decide +kernel, by decide +kernel⟩, rfl, rfl⟩
theorem kv_X2_countConfusions : xYv yX2_countConfusions cX2_countConfusions 5 (some .int) 0 2 (RX2, TX2, 4) := ⟨(xG_of (i := 392) (by decide +kernel) rfl), (xG_of (i := 393) (by decide +kernel) rfl), (xG_of (i := 394) (by decide +kernel) rfl), (xG_of (i := 48) (by decide +kernel) rfl), ⟨by decide +kernel, by decide +kernel, by decide +kernel⟩, rfl, rfl⟩
theorem kv_X4_wordOf : xYv yX4_wordOf cX4_wordOf 4 (some .int) 2 4 (RX4, TX4, 4) := ⟨(xG_of (i := 396) (by decide +kernel) rfl), (xG_of (i := 397) (by decide +kernel) rfl), (xG_of (i := 398) (by decide +kernel) rfl), (xG_of (i := 46) (by decide +kernel) rfl), ⟨by decide +kernel, by decide +kernel, by decide +kernel⟩, rfl, rfl⟩
theorem kv_X4_hears : xYv yX4_hears cX4_hears 4 (some .int) 2 4 (RX4, TX4, 4) := ⟨(xG_of (i := 401) (by decide +kernel) rfl), (xG_of (i := 402) (by decide +kernel) rfl), (xG_of (i := 403) (by decide +kernel) rfl), (xG_of (i := 46) (by decide +kernel) rfl), ⟨by decide +kernel, by decide +kernel, by decide +kernel⟩, rfl, rfl⟩
theorem kv_X4_gesture : xYv yX4_gesture cX4_gesture 5 (some .int) 2 4 (RX4, TX4, 4) := ⟨(xG_of (i := 406) (by decide +kernel) rfl), (xG_of (i := 407) (by decide +kernel) rfl), (xG_of (i := 408) (by decide +kernel) rfl), (xG_of (i := 46) (by decide +kernel) rfl), ⟨by decide +kernel, by decide +kernel, by decide +kernel⟩, rfl, rfl⟩
theorem ks_X4_lengthOfWord : xYs yX4_lengthOfWord cX4_lengthOfWord 2 (some .int) 1 := ⟨(xG_of (i := 410) (by decide +kernel) rfl), (xG_of (i := 411) (by decide +kernel) rfl), (xG_of (i := 46) (by decide +kernel) rfl), ⟨by decide +kernel, by decide +kernel, by decide +kernel⟩⟩
theorem ks_X4_codeOfWord : xYs yX4_codeOfWord cX4_codeOfWord 1 (some .int) 1 := ⟨(xG_of (i := 413) (by decide +kernel) rfl), (xG_of (i := 414) (by decide +kernel) rfl), (xG_of (i := 46) (by decide +kernel) rfl), ⟨by decide +kernel, by decide +kernel, by decide +kernel⟩⟩
theorem kv_X4_agreement : xYv yX4_agreement cX4_agreement 6 (some .int) 3 4 (RX4, TX4, 4) := ⟨(xG_of (i := 416) (by decide +kernel) rfl), (xG_of (i := 417) (by decide +kernel) rfl), (xG_of (i := 418) (by decide +kernel) rfl), (xG_of (i := 46) (by decide +kernel) rfl), ⟨by decide +kernel, by decide +kernel, by decide +kernel⟩, rfl, rfl⟩
theorem ks_X4_agreementByMeanings : xYs yX4_agreementByMeanings cX4_agreementByMeanings 5 (some .int) 2 := ⟨(xG_of (i := 420) (by decide +kernel) rfl), (xG_of (i := 421) (by decide +kernel) rfl), (xG_of (i := 46) (by decide +kernel) rfl), ⟨by decide +kernel, by decide +kernel, by decide +kernel⟩⟩
theorem ks_X4_agreementByWords : xYs yX4_agreementByWords cX4_agreementByWords 5 (some .int) 2 := ⟨(xG_of (i := 423) (by decide +kernel) rfl), (xG_of (i := 424) (by decide +kernel) rfl), (xG_of (i := 46) (by decide +kernel) rfl), ⟨by decide +kernel, by decide +kernel, by decide +kernel⟩⟩
theorem kv_X4_understanding : xYv yX4_understanding cX4_understanding 5 (some .int) 2 4 (RX4, TX4, 4) := ⟨(xG_of (i := 426) (by decide +kernel) rfl), (xG_of (i := 427) (by decide +kernel) rfl), (xG_of (i := 428) (by decide +kernel) rfl), (xG_of (i := 46) (by decide +kernel) rfl), ⟨by decide +kernel, by decide +kernel, by decide +kernel⟩, rfl, rfl⟩
theorem ks_X4_understandingOf : xYs yX4_understandingOf cX4_understandingOf 5 (some .int) 2 := ⟨(xG_of (i := 430) (by decide +kernel) rfl), (xG_of (i := 431) (by decide +kernel) rfl), (xG_of (i := 46) (by decide +kernel) rfl), ⟨by decide +kernel, by decide +kernel, by decide +kernel⟩⟩
theorem kv_X4_common : xYv yX4_common cX4_common 2 (some .int) 1 4 (RX4, TX4, 4) := ⟨(xG_of (i := 433) (by decide +kernel) rfl), (xG_of (i := 434) (by decide +kernel) rfl), (xG_of (i := 435) (by decide +kernel) rfl), (xG_of (i := 46) (by decide +kernel) rfl), ⟨by decide +kernel, by decide +kernel, by decide +kernel⟩, rfl, rfl⟩
theorem kv_X3_commonWord : xYv yX3_commonWord cX3_commonWord 5 (some .int) 1 3 (RX3, TX3, 8) := ⟨(xG_of (i := 437) (by decide +kernel) rfl), (xG_of (i := 438) (by decide +kernel) rfl), (xG_of (i := 439) (by decide +kernel) rfl), (xG_of (i := 47) (by decide +kernel) rfl), ⟨by decide +kernel, by decide +kernel, by decide +kernel⟩, rfl, rfl⟩
theorem kv_X3_countUsers : xYv yX3_countUsers cX3_countUsers 4 none 1 3 (RX3, TX3, 8) := ⟨(xG_of (i := 442) (by decide +kernel) rfl), (xG_of (i := 4) (by decide +kernel) rfl), (xG_of (i := 443) (by decide +kernel) rfl), (xG_of (i := 47) (by decide +kernel) rfl), ⟨by decide +kernel, by decide +kernel, by decide +kernel⟩, rfl, rfl⟩
theorem kv_X4_ifMet : xYv yX4_ifMet cX4_ifMet 8 (some .int) 4 4 (RX4, TX4, 4) := ⟨(xG_of (i := 446) (by decide +kernel) rfl), (xG_of (i := 447) (by decide +kernel) rfl), (xG_of (i := 448) (by decide +kernel) rfl), (xG_of (i := 46) (by decide +kernel) rfl), ⟨by decide +kernel, by decide +kernel, by decide +kernel⟩, rfl, rfl⟩
theorem kv_X4_ifChat : xYv yX4_ifChat cX4_ifChat 3 (some .int) 1 4 (RX4, TX4, 4) := ⟨(xG_of (i := 451) (by decide +kernel) rfl), (xG_of (i := 452) (by decide +kernel) rfl), (xG_of (i := 453) (by decide +kernel) rfl), (xG_of (i := 46) (by decide +kernel) rfl), ⟨by decide +kernel, by decide +kernel, by decide +kernel⟩, rfl, rfl⟩
theorem kv_X4_bestSayer : xYv yX4_bestSayer cX4_bestSayer 8 (some .int) 1 4 (RX4, TX4, 4) := ⟨(xG_of (i := 455) (by decide +kernel) rfl), (xG_of (i := 456) (by decide +kernel) rfl), (xG_of (i := 457) (by decide +kernel) rfl), (xG_of (i := 46) (by decide +kernel) rfl), ⟨by decide +kernel, by decide +kernel, by decide +kernel⟩, rfl, rfl⟩
theorem kv_X4_type : xYv yX4_type cX4_type 2 (some .int) 1 4 (RX4, TX4, 4) := ⟨(xG_of (i := 459) (by decide +kernel) rfl), (xG_of (i := 460) (by decide +kernel) rfl), (xG_of (i := 461) (by decide +kernel) rfl), (xG_of (i := 46) (by decide +kernel) rfl), ⟨by decide +kernel, by decide +kernel, by decide +kernel⟩, rfl, rfl⟩
theorem kv_X0_append : xYv yX0_append cX0_append 2 (some .boolean) 1 0 (RX0, TX0, 2) := ⟨(xG_of (i := 463) (by decide +kernel) rfl), (xG_of (i := 464) (by decide +kernel) rfl), (xG_of (i := 465) (by decide +kernel) rfl), (xG_of (i := 50) (by decide +kernel) rfl), ⟨by decide +kernel, by decide +kernel, by decide +kernel⟩, rfl, rfl⟩
theorem kv_X4_clearText : xYv yX4_clearText cX4_clearText 2 (some .int) 0 4 (RX4, TX4, 4) := ⟨(xG_of (i := 468) (by decide +kernel) rfl), (xG_of (i := 469) (by decide +kernel) rfl), (xG_of (i := 470) (by decide +kernel) rfl), (xG_of (i := 46) (by decide +kernel) rfl), ⟨by decide +kernel, by decide +kernel, by decide +kernel⟩, rfl, rfl⟩
theorem kv_X4_syntaxError : xYv yX4_syntaxError cX4_syntaxError 1 (some .int) 0 4 (RX4, TX4, 4) := ⟨(xG_of (i := 472) (by decide +kernel) rfl), (xG_of (i := 473) (by decide +kernel) rfl), (xG_of (i := 474) (by decide +kernel) rfl), (xG_of (i := 46) (by decide +kernel) rfl), ⟨by decide +kernel, by decide +kernel, by decide +kernel⟩, rfl, rfl⟩
theorem kv_X0_firstError : xYv yX0_firstError cX0_firstError 3 (some .int) 0 0 (RX0, TX0, 2) := ⟨(xG_of (i := 476) (by decide +kernel) rfl), (xG_of (i := 477) (by decide +kernel) rfl), (xG_of (i := 478) (by decide +kernel) rfl), (xG_of (i := 50) (by decide +kernel) rfl), ⟨by decide +kernel, by decide +kernel, by decide +kernel⟩, rfl, rfl⟩
theorem kv_X0_signAt : xYv yX0_signAt cX0_signAt 2 (some .int) 1 0 (RX0, TX0, 2) := ⟨(xG_of (i := 481) (by decide +kernel) rfl), (xG_of (i := 5) (by decide +kernel) rfl), (xG_of (i := 482) (by decide +kernel) rfl), (xG_of (i := 50) (by decide +kernel) rfl), ⟨by decide +kernel, by decide +kernel, by decide +kernel⟩, rfl, rfl⟩
theorem ks_X0_expectedAfter : xYs yX0_expectedAfter cX0_expectedAfter 2 (some .int) 2 := ⟨(xG_of (i := 484) (by decide +kernel) rfl), (xG_of (i := 485) (by decide +kernel) rfl), (xG_of (i := 50) (by decide +kernel) rfl), ⟨by decide +kernel, by decide +kernel, by decide +kernel⟩⟩
theorem ks_X0_isGesture : xYs yX0_isGesture cX0_isGesture 1 (some .boolean) 1 := ⟨(xG_of (i := 487) (by decide +kernel) rfl), (xG_of (i := 488) (by decide +kernel) rfl), (xG_of (i := 50) (by decide +kernel) rfl), ⟨by decide +kernel, by decide +kernel, by decide +kernel⟩⟩
theorem ks_X0_afterStar : xYs yX0_afterStar cX0_afterStar 1 (some .int) 1 := ⟨(xG_of (i := 490) (by decide +kernel) rfl), (xG_of (i := 491) (by decide +kernel) rfl), (xG_of (i := 50) (by decide +kernel) rfl), ⟨by decide +kernel, by decide +kernel, by decide +kernel⟩⟩
theorem ks_X0_isDigit : xYs yX0_isDigit cX0_isDigit 1 (some .boolean) 1 := ⟨(xG_of (i := 493) (by decide +kernel) rfl), (xG_of (i := 494) (by decide +kernel) rfl), (xG_of (i := 50) (by decide +kernel) rfl), ⟨by decide +kernel, by decide +kernel, by decide +kernel⟩⟩
theorem ks_X0_afterEnd : xYs yX0_afterEnd cX0_afterEnd 1 (some .int) 1 := ⟨(xG_of (i := 496) (by decide +kernel) rfl), (xG_of (i := 497) (by decide +kernel) rfl), (xG_of (i := 50) (by decide +kernel) rfl), ⟨by decide +kernel, by decide +kernel, by decide +kernel⟩⟩
theorem kv_X4_learn : xYv yX4_learn cX4_learn 2 (some .int) 0 4 (RX4, TX4, 4) := ⟨(xG_of (i := 499) (by decide +kernel) rfl), (xG_of (i := 500) (by decide +kernel) rfl), (xG_of (i := 501) (by decide +kernel) rfl), (xG_of (i := 46) (by decide +kernel) rfl), ⟨by decide +kernel, by decide +kernel, by decide +kernel⟩, rfl, rfl⟩
theorem kv_X0_giveHabits : xYv yX0_giveHabits cX0_giveHabits 6 (some .int) 1 0 (RX0, TX0, 2) := ⟨(xG_of (i := 503) (by decide +kernel) rfl), (xG_of (i := 504) (by decide +kernel) rfl), (xG_of (i := 505) (by decide +kernel) rfl), (xG_of (i := 50) (by decide +kernel) rfl), ⟨by decide +kernel, by decide +kernel, by decide +kernel⟩, rfl, rfl⟩
theorem kv_X0_digitAt : xYv yX0_digitAt cX0_digitAt 2 (some .int) 1 0 (RX0, TX0, 2) := ⟨(xG_of (i := 508) (by decide +kernel) rfl), (xG_of (i := 6) (by decide +kernel) rfl), (xG_of (i := 509) (by decide +kernel) rfl), (xG_of (i := 50) (by decide +kernel) rfl), ⟨by decide +kernel, by decide +kernel, by decide +kernel⟩, rfl, rfl⟩
theorem kv_X0_giveHabit : xYv yX0_giveHabit cX0_giveHabit 8 none 3 0 (RX0, TX0, 2) := ⟨(xG_of (i := 513) (by decide +kernel) rfl), (xG_of (i := 7) (by decide +kernel) rfl), (xG_of (i := 514) (by decide +kernel) rfl), (xG_of (i := 50) (by decide +kernel) rfl), ⟨by decide +kernel, by decide +kernel, by decide +kernel⟩, rfl, rfl⟩
theorem ks_X4_wordOfCode : xYs yX4_wordOfCode cX4_wordOfCode 1 (some .int) 1 := ⟨(xG_of (i := 516) (by decide +kernel) rfl), (xG_of (i := 517) (by decide +kernel) rfl), (xG_of (i := 46) (by decide +kernel) rfl), ⟨by decide +kernel, by decide +kernel, by decide +kernel⟩⟩
theorem kv_X4_undo : xYv yX4_undo cX4_undo 1 (some .int) 0 4 (RX4, TX4, 4) := ⟨(xG_of (i := 520) (by decide +kernel) rfl), (xG_of (i := 521) (by decide +kernel) rfl), (xG_of (i := 522) (by decide +kernel) rfl), (xG_of (i := 46) (by decide +kernel) rfl), ⟨by decide +kernel, by decide +kernel, by decide +kernel⟩, rfl, rfl⟩
theorem kv_X1_restore : xYv yX1_restore cX1_restore 2 (some .boolean) 1 1 (RX1, TX1, 3) := ⟨(xG_of (i := 524) (by decide +kernel) rfl), (xG_of (i := 525) (by decide +kernel) rfl), (xG_of (i := 526) (by decide +kernel) rfl), (xG_of (i := 49) (by decide +kernel) rfl), ⟨by decide +kernel, by decide +kernel, by decide +kernel⟩, rfl, rfl⟩
theorem kv_X4_digest : xYv yX4_digest cX4_digest 4 (some .long) 0 4 (RX4, TX4, 4) := ⟨(xG_of (i := 528) (by decide +kernel) rfl), (xG_of (i := 529) (by decide +kernel) rfl), (xG_of (i := 530) (by decide +kernel) rfl), (xG_of (i := 46) (by decide +kernel) rfl), ⟨by decide +kernel, by decide +kernel, by decide +kernel⟩, rfl, rfl⟩
theorem ks_X4_mixed : xYs yX4_mixed cX4_mixed 3 (some .long) 2 := ⟨(xG_of (i := 533) (by decide +kernel) rfl), (xG_of (i := 534) (by decide +kernel) rfl), (xG_of (i := 46) (by decide +kernel) rfl), ⟨by decide +kernel, by decide +kernel, by decide +kernel⟩⟩
theorem kv_X4_withSpeaker : xYv yX4_withSpeaker cX4_withSpeaker 8 (some .long) 2 4 (RX4, TX4, 4) := ⟨(xG_of (i := 538) (by decide +kernel) rfl), (xG_of (i := 8) (by decide +kernel) rfl), (xG_of (i := 539) (by decide +kernel) rfl), (xG_of (i := 46) (by decide +kernel) rfl), ⟨by decide +kernel, by decide +kernel, by decide +kernel⟩, rfl, rfl⟩
theorem kv_X4_withPairsOf : xYv yX4_withPairsOf cX4_withPairsOf 9 (some .long) 2 4 (RX4, TX4, 4) := ⟨(xG_of (i := 542) (by decide +kernel) rfl), (xG_of (i := 9) (by decide +kernel) rfl), (xG_of (i := 543) (by decide +kernel) rfl), (xG_of (i := 46) (by decide +kernel) rfl), ⟨by decide +kernel, by decide +kernel, by decide +kernel⟩, rfl, rfl⟩
theorem kj_X5_init : xYi yX5_init cX5_init 1 0 := ⟨(xG_of (i := 547) (by decide +kernel) rfl), (xG_of (i := 548) (by decide +kernel) rfl), (xG_of (i := 51) (by decide +kernel) rfl), ⟨by decide +kernel, by decide +kernel, by decide +kernel⟩, rfl⟩
theorem kv_X5_meet : xYv yX5_meet cX5_meet 5 (some .int) 3 5 (RX5, TX5, 13) := ⟨(xG_of (i := 591) (by decide +kernel) rfl), (xG_of (i := 592) (by decide +kernel) rfl), (xG_of (i := 593) (by decide +kernel) rfl), (xG_of (i := 51) (by decide +kernel) rfl), ⟨by decide +kernel, by decide +kernel, by decide +kernel⟩, rfl, rfl⟩
theorem kv_X5_whyNotMet : xYv yX5_whyNotMet cX5_whyNotMet 4 (some .int) 3 5 (RX5, TX5, 13) := ⟨(xG_of (i := 596) (by decide +kernel) rfl), (xG_of (i := 10) (by decide +kernel) rfl), (xG_of (i := 597) (by decide +kernel) rfl), (xG_of (i := 51) (by decide +kernel) rfl), ⟨by decide +kernel, by decide +kernel, by decide +kernel⟩, rfl, rfl⟩
theorem kv_X5_isSpeaker : xYv yX5_isSpeaker cX5_isSpeaker 2 (some .boolean) 1 5 (RX5, TX5, 13) := ⟨(xG_of (i := 600) (by decide +kernel) rfl), (xG_of (i := 11) (by decide +kernel) rfl), (xG_of (i := 601) (by decide +kernel) rfl), (xG_of (i := 51) (by decide +kernel) rfl), ⟨by decide +kernel, by decide +kernel, by decide +kernel⟩, rfl, rfl⟩
theorem ks_X5_within : xYs yX5_within cX5_within 3 (some .boolean) 3 := ⟨(xG_of (i := 603) (by decide +kernel) rfl), (xG_of (i := 604) (by decide +kernel) rfl), (xG_of (i := 51) (by decide +kernel) rfl), ⟨by decide +kernel, by decide +kernel, by decide +kernel⟩⟩
theorem kv_X5_part : xYv yX5_part cX5_part 3 (some .int) 2 5 (RX5, TX5, 13) := ⟨(xG_of (i := 607) (by decide +kernel) rfl), (xG_of (i := 12) (by decide +kernel) rfl), (xG_of (i := 608) (by decide +kernel) rfl), (xG_of (i := 51) (by decide +kernel) rfl), ⟨by decide +kernel, by decide +kernel, by decide +kernel⟩, rfl, rfl⟩
theorem ks_X5_isMeaning : xYs yX5_isMeaning cX5_isMeaning 1 (some .boolean) 1 := ⟨(xG_of (i := 610) (by decide +kernel) rfl), (xG_of (i := 611) (by decide +kernel) rfl), (xG_of (i := 51) (by decide +kernel) rfl), ⟨by decide +kernel, by decide +kernel, by decide +kernel⟩⟩
theorem kv_X5_record : xYv yX5_record cX5_record 2 none 0 5 (RX5, TX5, 13) := ⟨(xG_of (i := 614) (by decide +kernel) rfl), (xG_of (i := 13) (by decide +kernel) rfl), (xG_of (i := 615) (by decide +kernel) rfl), (xG_of (i := 51) (by decide +kernel) rfl), ⟨by decide +kernel, by decide +kernel, by decide +kernel⟩, rfl, rfl⟩
theorem ks_X5_copies : xYs yX5_copies cX5_copies 5 none 4 := ⟨(xG_of (i := 617) (by decide +kernel) rfl), (xG_of (i := 618) (by decide +kernel) rfl), (xG_of (i := 51) (by decide +kernel) rfl), ⟨by decide +kernel, by decide +kernel, by decide +kernel⟩⟩
theorem kv_X5_meets : xYv yX5_meets cX5_meets 5 (some .boolean) 3 5 (RX5, TX5, 13) := ⟨(xG_of (i := 621) (by decide +kernel) rfl), (xG_of (i := 14) (by decide +kernel) rfl), (xG_of (i := 622) (by decide +kernel) rfl), (xG_of (i := 51) (by decide +kernel) rfl), ⟨by decide +kernel, by decide +kernel, by decide +kernel⟩, rfl, rfl⟩
theorem kv_X5_wordFor : xYv yX5_wordFor cX5_wordFor 7 (some .int) 2 5 (RX5, TX5, 13) := ⟨(xG_of (i := 625) (by decide +kernel) rfl), (xG_of (i := 15) (by decide +kernel) rfl), (xG_of (i := 626) (by decide +kernel) rfl), (xG_of (i := 51) (by decide +kernel) rfl), ⟨by decide +kernel, by decide +kernel, by decide +kernel⟩, rfl, rfl⟩
theorem kv_X5_weightOf : xYv yX5_weightOf cX5_weightOf 4 (some .int) 3 5 (RX5, TX5, 13) := ⟨(xG_of (i := 629) (by decide +kernel) rfl), (xG_of (i := 16) (by decide +kernel) rfl), (xG_of (i := 630) (by decide +kernel) rfl), (xG_of (i := 51) (by decide +kernel) rfl), ⟨by decide +kernel, by decide +kernel, by decide +kernel⟩, rfl, rfl⟩
theorem ks_X5_weightAt : xYs yX5_weightAt cX5_weightAt 3 (some .int) 3 := ⟨(xG_of (i := 632) (by decide +kernel) rfl), (xG_of (i := 633) (by decide +kernel) rfl), (xG_of (i := 51) (by decide +kernel) rfl), ⟨by decide +kernel, by decide +kernel, by decide +kernel⟩⟩
theorem kv_X5_draws : xYv yX5_draws cX5_draws 2 (some .int) 1 5 (RX5, TX5, 13) := ⟨(xG_of (i := 636) (by decide +kernel) rfl), (xG_of (i := 17) (by decide +kernel) rfl), (xG_of (i := 637) (by decide +kernel) rfl), (xG_of (i := 51) (by decide +kernel) rfl), ⟨by decide +kernel, by decide +kernel, by decide +kernel⟩, rfl, rfl⟩
theorem kv_X5_heardAs : xYv yX5_heardAs cX5_heardAs 7 (some .int) 2 5 (RX5, TX5, 13) := ⟨(xG_of (i := 641) (by decide +kernel) rfl), (xG_of (i := 18) (by decide +kernel) rfl), (xG_of (i := 642) (by decide +kernel) rfl), (xG_of (i := 51) (by decide +kernel) rfl), ⟨by decide +kernel, by decide +kernel, by decide +kernel⟩, rfl, rfl⟩
theorem kv_X5_strengthens : xYv yX5_strengthens cX5_strengthens 5 none 3 5 (RX5, TX5, 13) := ⟨(xG_of (i := 645) (by decide +kernel) rfl), (xG_of (i := 19) (by decide +kernel) rfl), (xG_of (i := 646) (by decide +kernel) rfl), (xG_of (i := 51) (by decide +kernel) rfl), ⟨by decide +kernel, by decide +kernel, by decide +kernel⟩, rfl, rfl⟩
theorem kv_X5_learns : xYv yX5_learns cX5_learns 3 (some .int) 1 5 (RX5, TX5, 13) := ⟨(xG_of (i := 649) (by decide +kernel) rfl), (xG_of (i := 20) (by decide +kernel) rfl), (xG_of (i := 650) (by decide +kernel) rfl), (xG_of (i := 51) (by decide +kernel) rfl), ⟨by decide +kernel, by decide +kernel, by decide +kernel⟩, rfl, rfl⟩
theorem kv_X5_changes : xYv yX5_changes cX5_changes 6 none 4 5 (RX5, TX5, 13) := ⟨(xG_of (i := 653) (by decide +kernel) rfl), (xG_of (i := 21) (by decide +kernel) rfl), (xG_of (i := 654) (by decide +kernel) rfl), (xG_of (i := 51) (by decide +kernel) rfl), ⟨by decide +kernel, by decide +kernel, by decide +kernel⟩, rfl, rfl⟩
theorem kv_X5_setPart : xYv yX5_setPart cX5_setPart 4 none 3 5 (RX5, TX5, 13) := ⟨(xG_of (i := 657) (by decide +kernel) rfl), (xG_of (i := 22) (by decide +kernel) rfl), (xG_of (i := 658) (by decide +kernel) rfl), (xG_of (i := 51) (by decide +kernel) rfl), ⟨by decide +kernel, by decide +kernel, by decide +kernel⟩, rfl, rfl⟩
theorem kv_X5_chat : xYv yX5_chat cX5_chat 3 (some .int) 1 5 (RX5, TX5, 13) := ⟨(xG_of (i := 660) (by decide +kernel) rfl), (xG_of (i := 661) (by decide +kernel) rfl), (xG_of (i := 662) (by decide +kernel) rfl), (xG_of (i := 51) (by decide +kernel) rfl), ⟨by decide +kernel, by decide +kernel, by decide +kernel⟩, rfl, rfl⟩
theorem kv_X5_whyNotChat : xYv yX5_whyNotChat cX5_whyNotChat 2 (some .int) 1 5 (RX5, TX5, 13) := ⟨(xG_of (i := 665) (by decide +kernel) rfl), (xG_of (i := 23) (by decide +kernel) rfl), (xG_of (i := 666) (by decide +kernel) rfl), (xG_of (i := 51) (by decide +kernel) rfl), ⟨by decide +kernel, by decide +kernel, by decide +kernel⟩, rfl, rfl⟩
theorem kv_X5_speakers : xYv yX5_speakers cX5_speakers 3 (some .int) 0 5 (RX5, TX5, 13) := ⟨(xG_of (i := 669) (by decide +kernel) rfl), (xG_of (i := 24) (by decide +kernel) rfl), (xG_of (i := 670) (by decide +kernel) rfl), (xG_of (i := 51) (by decide +kernel) rfl), ⟨by decide +kernel, by decide +kernel, by decide +kernel⟩, rfl, rfl⟩
theorem kv_X5_chats : xYv yX5_chats cX5_chats 8 (some .int) 1 5 (RX5, TX5, 13) := ⟨(xG_of (i := 673) (by decide +kernel) rfl), (xG_of (i := 25) (by decide +kernel) rfl), (xG_of (i := 674) (by decide +kernel) rfl), (xG_of (i := 51) (by decide +kernel) rfl), ⟨by decide +kernel, by decide +kernel, by decide +kernel⟩, rfl, rfl⟩
theorem kv_X5_speakerAt : xYv yX5_speakerAt cX5_speakerAt 6 (some .int) 2 5 (RX5, TX5, 13) := ⟨(xG_of (i := 677) (by decide +kernel) rfl), (xG_of (i := 26) (by decide +kernel) rfl), (xG_of (i := 678) (by decide +kernel) rfl), (xG_of (i := 51) (by decide +kernel) rfl), ⟨by decide +kernel, by decide +kernel, by decide +kernel⟩, rfl, rfl⟩
theorem kv_X5_age : xYv yX5_age cX5_age 4 (some .int) 1 5 (RX5, TX5, 13) := ⟨(xG_of (i := 680) (by decide +kernel) rfl), (xG_of (i := 681) (by decide +kernel) rfl), (xG_of (i := 682) (by decide +kernel) rfl), (xG_of (i := 51) (by decide +kernel) rfl), ⟨by decide +kernel, by decide +kernel, by decide +kernel⟩, rfl, rfl⟩
theorem kv_X5_passesYear : xYv yX5_passesYear cX5_passesYear 2 none 0 5 (RX5, TX5, 13) := ⟨(xG_of (i := 685) (by decide +kernel) rfl), (xG_of (i := 27) (by decide +kernel) rfl), (xG_of (i := 686) (by decide +kernel) rfl), (xG_of (i := 51) (by decide +kernel) rfl), ⟨by decide +kernel, by decide +kernel, by decide +kernel⟩, rfl, rfl⟩
theorem kv_X5_isBorn : xYv yX5_isBorn cX5_isBorn 5 none 1 5 (RX5, TX5, 13) := ⟨(xG_of (i := 689) (by decide +kernel) rfl), (xG_of (i := 28) (by decide +kernel) rfl), (xG_of (i := 690) (by decide +kernel) rfl), (xG_of (i := 51) (by decide +kernel) rfl), ⟨by decide +kernel, by decide +kernel, by decide +kernel⟩, rfl, rfl⟩
theorem kv_X5_teacherOf : xYv yX5_teacherOf cX5_teacherOf 5 (some .int) 1 5 (RX5, TX5, 13) := ⟨(xG_of (i := 693) (by decide +kernel) rfl), (xG_of (i := 29) (by decide +kernel) rfl), (xG_of (i := 694) (by decide +kernel) rfl), (xG_of (i := 51) (by decide +kernel) rfl), ⟨by decide +kernel, by decide +kernel, by decide +kernel⟩, rfl, rfl⟩
theorem kv_X5_come : xYv yX5_come cX5_come 2 (some .int) 0 5 (RX5, TX5, 13) := ⟨(xG_of (i := 696) (by decide +kernel) rfl), (xG_of (i := 697) (by decide +kernel) rfl), (xG_of (i := 698) (by decide +kernel) rfl), (xG_of (i := 51) (by decide +kernel) rfl), ⟨by decide +kernel, by decide +kernel, by decide +kernel⟩, rfl, rfl⟩
theorem kv_X5_go : xYv yX5_go cX5_go 3 (some .int) 1 5 (RX5, TX5, 13) := ⟨(xG_of (i := 700) (by decide +kernel) rfl), (xG_of (i := 701) (by decide +kernel) rfl), (xG_of (i := 702) (by decide +kernel) rfl), (xG_of (i := 51) (by decide +kernel) rfl), ⟨by decide +kernel, by decide +kernel, by decide +kernel⟩, rfl, rfl⟩
theorem kv_X5_set : xYv yX5_set cX5_set 5 (some .int) 2 5 (RX5, TX5, 13) := ⟨(xG_of (i := 704) (by decide +kernel) rfl), (xG_of (i := 705) (by decide +kernel) rfl), (xG_of (i := 706) (by decide +kernel) rfl), (xG_of (i := 51) (by decide +kernel) rfl), ⟨by decide +kernel, by decide +kernel, by decide +kernel⟩, rfl, rfl⟩
theorem ks_X5_isSetting : xYs yX5_isSetting cX5_isSetting 1 (some .boolean) 1 := ⟨(xG_of (i := 708) (by decide +kernel) rfl), (xG_of (i := 709) (by decide +kernel) rfl), (xG_of (i := 51) (by decide +kernel) rfl), ⟨by decide +kernel, by decide +kernel, by decide +kernel⟩⟩
theorem kv_X5_setSeed : xYv yX5_setSeed cX5_setSeed 3 (some .int) 1 5 (RX5, TX5, 13) := ⟨(xG_of (i := 711) (by decide +kernel) rfl), (xG_of (i := 712) (by decide +kernel) rfl), (xG_of (i := 713) (by decide +kernel) rfl), (xG_of (i := 51) (by decide +kernel) rfl), ⟨by decide +kernel, by decide +kernel, by decide +kernel⟩, rfl, rfl⟩
theorem kv_X5_teach : xYv yX5_teach cX5_teach 6 (some .int) 4 5 (RX5, TX5, 13) := ⟨(xG_of (i := 716) (by decide +kernel) rfl), (xG_of (i := 717) (by decide +kernel) rfl), (xG_of (i := 718) (by decide +kernel) rfl), (xG_of (i := 51) (by decide +kernel) rfl), ⟨by decide +kernel, by decide +kernel, by decide +kernel⟩, rfl, rfl⟩
theorem ks_X5_isWord : xYs yX5_isWord cX5_isWord 1 (some .boolean) 1 := ⟨(xG_of (i := 720) (by decide +kernel) rfl), (xG_of (i := 721) (by decide +kernel) rfl), (xG_of (i := 51) (by decide +kernel) rfl), ⟨by decide +kernel, by decide +kernel, by decide +kernel⟩⟩
theorem kv_X5_setAge : xYv yX5_setAge cX5_setAge 4 (some .int) 2 5 (RX5, TX5, 13) := ⟨(xG_of (i := 723) (by decide +kernel) rfl), (xG_of (i := 724) (by decide +kernel) rfl), (xG_of (i := 725) (by decide +kernel) rfl), (xG_of (i := 51) (by decide +kernel) rfl), ⟨by decide +kernel, by decide +kernel, by decide +kernel⟩, rfl, rfl⟩
theorem kv_X5_count : xYv yX5_count cX5_count 2 (some .int) 1 5 (RX5, TX5, 13) := ⟨(xG_of (i := 727) (by decide +kernel) rfl), (xG_of (i := 728) (by decide +kernel) rfl), (xG_of (i := 729) (by decide +kernel) rfl), (xG_of (i := 51) (by decide +kernel) rfl), ⟨by decide +kernel, by decide +kernel, by decide +kernel⟩, rfl, rfl⟩
theorem kv_X5_countOf : xYv yX5_countOf cX5_countOf 2 (some .int) 1 5 (RX5, TX5, 13) := ⟨(xG_of (i := 732) (by decide +kernel) rfl), (xG_of (i := 30) (by decide +kernel) rfl), (xG_of (i := 733) (by decide +kernel) rfl), (xG_of (i := 51) (by decide +kernel) rfl), ⟨by decide +kernel, by decide +kernel, by decide +kernel⟩, rfl, rfl⟩
theorem kv_X5_allWeights : xYv yX5_allWeights cX5_allWeights 3 (some .int) 0 5 (RX5, TX5, 13) := ⟨(xG_of (i := 736) (by decide +kernel) rfl), (xG_of (i := 31) (by decide +kernel) rfl), (xG_of (i := 737) (by decide +kernel) rfl), (xG_of (i := 51) (by decide +kernel) rfl), ⟨by decide +kernel, by decide +kernel, by decide +kernel⟩, rfl, rfl⟩
theorem kv_X5_setting : xYv yX5_setting cX5_setting 2 (some .int) 1 5 (RX5, TX5, 13) := ⟨(xG_of (i := 739) (by decide +kernel) rfl), (xG_of (i := 740) (by decide +kernel) rfl), (xG_of (i := 741) (by decide +kernel) rfl), (xG_of (i := 51) (by decide +kernel) rfl), ⟨by decide +kernel, by decide +kernel, by decide +kernel⟩, rfl, rfl⟩
theorem kv_X5_weight : xYv yX5_weight cX5_weight 4 (some .int) 3 5 (RX5, TX5, 13) := ⟨(xG_of (i := 743) (by decide +kernel) rfl), (xG_of (i := 744) (by decide +kernel) rfl), (xG_of (i := 745) (by decide +kernel) rfl), (xG_of (i := 51) (by decide +kernel) rfl), ⟨by decide +kernel, by decide +kernel, by decide +kernel⟩, rfl, rfl⟩
theorem kv_X5_speaker : xYv yX5_speaker cX5_speaker 3 (some .int) 2 5 (RX5, TX5, 13) := ⟨(xG_of (i := 747) (by decide +kernel) rfl), (xG_of (i := 748) (by decide +kernel) rfl), (xG_of (i := 749) (by decide +kernel) rfl), (xG_of (i := 51) (by decide +kernel) rfl), ⟨by decide +kernel, by decide +kernel, by decide +kernel⟩, rfl, rfl⟩
theorem kv_X5_ofSpeaker : xYv yX5_ofSpeaker cX5_ofSpeaker 3 (some .int) 2 5 (RX5, TX5, 13) := ⟨(xG_of (i := 752) (by decide +kernel) rfl), (xG_of (i := 32) (by decide +kernel) rfl), (xG_of (i := 753) (by decide +kernel) rfl), (xG_of (i := 51) (by decide +kernel) rfl), ⟨by decide +kernel, by decide +kernel, by decide +kernel⟩, rfl, rfl⟩
theorem kv_X5_wordsOf : xYv yX5_wordsOf cX5_wordsOf 4 (some .int) 1 5 (RX5, TX5, 13) := ⟨(xG_of (i := 756) (by decide +kernel) rfl), (xG_of (i := 33) (by decide +kernel) rfl), (xG_of (i := 757) (by decide +kernel) rfl), (xG_of (i := 51) (by decide +kernel) rfl), ⟨by decide +kernel, by decide +kernel, by decide +kernel⟩, rfl, rfl⟩
theorem kv_X5_confusions : xYv yX5_confusions cX5_confusions 5 (some .int) 1 5 (RX5, TX5, 13) := ⟨(xG_of (i := 760) (by decide +kernel) rfl), (xG_of (i := 34) (by decide +kernel) rfl), (xG_of (i := 761) (by decide +kernel) rfl), (xG_of (i := 51) (by decide +kernel) rfl), ⟨by decide +kernel, by decide +kernel, by decide +kernel⟩, rfl, rfl⟩
theorem kv_X5_wordOf : xYv yX5_wordOf cX5_wordOf 3 (some .int) 2 5 (RX5, TX5, 13) := ⟨(xG_of (i := 763) (by decide +kernel) rfl), (xG_of (i := 764) (by decide +kernel) rfl), (xG_of (i := 765) (by decide +kernel) rfl), (xG_of (i := 51) (by decide +kernel) rfl), ⟨by decide +kernel, by decide +kernel, by decide +kernel⟩, rfl, rfl⟩
theorem kv_X5_hears : xYv yX5_hears cX5_hears 3 (some .int) 2 5 (RX5, TX5, 13) := ⟨(xG_of (i := 767) (by decide +kernel) rfl), (xG_of (i := 768) (by decide +kernel) rfl), (xG_of (i := 769) (by decide +kernel) rfl), (xG_of (i := 51) (by decide +kernel) rfl), ⟨by decide +kernel, by decide +kernel, by decide +kernel⟩, rfl, rfl⟩
theorem kv_X5_gesture : xYv yX5_gesture cX5_gesture 5 (some .int) 2 5 (RX5, TX5, 13) := ⟨(xG_of (i := 771) (by decide +kernel) rfl), (xG_of (i := 772) (by decide +kernel) rfl), (xG_of (i := 773) (by decide +kernel) rfl), (xG_of (i := 51) (by decide +kernel) rfl), ⟨by decide +kernel, by decide +kernel, by decide +kernel⟩, rfl, rfl⟩
theorem kv_X5_agreement : xYv yX5_agreement cX5_agreement 4 (some .int) 3 5 (RX5, TX5, 13) := ⟨(xG_of (i := 775) (by decide +kernel) rfl), (xG_of (i := 776) (by decide +kernel) rfl), (xG_of (i := 777) (by decide +kernel) rfl), (xG_of (i := 51) (by decide +kernel) rfl), ⟨by decide +kernel, by decide +kernel, by decide +kernel⟩, rfl, rfl⟩
theorem kv_X5_agreements : xYv yX5_agreements cX5_agreements 5 (some .int) 2 5 (RX5, TX5, 13) := ⟨(xG_of (i := 780) (by decide +kernel) rfl), (xG_of (i := 35) (by decide +kernel) rfl), (xG_of (i := 781) (by decide +kernel) rfl), (xG_of (i := 51) (by decide +kernel) rfl), ⟨by decide +kernel, by decide +kernel, by decide +kernel⟩, rfl, rfl⟩
theorem kv_X5_understanding : xYv yX5_understanding cX5_understanding 3 (some .int) 2 5 (RX5, TX5, 13) := ⟨(xG_of (i := 783) (by decide +kernel) rfl), (xG_of (i := 784) (by decide +kernel) rfl), (xG_of (i := 785) (by decide +kernel) rfl), (xG_of (i := 51) (by decide +kernel) rfl), ⟨by decide +kernel, by decide +kernel, by decide +kernel⟩, rfl, rfl⟩
theorem kv_X5_understood : xYv yX5_understood cX5_understood 5 (some .int) 2 5 (RX5, TX5, 13) := ⟨(xG_of (i := 788) (by decide +kernel) rfl), (xG_of (i := 36) (by decide +kernel) rfl), (xG_of (i := 789) (by decide +kernel) rfl), (xG_of (i := 51) (by decide +kernel) rfl), ⟨by decide +kernel, by decide +kernel, by decide +kernel⟩, rfl, rfl⟩
theorem kv_X5_common : xYv yX5_common cX5_common 2 (some .int) 1 5 (RX5, TX5, 13) := ⟨(xG_of (i := 791) (by decide +kernel) rfl), (xG_of (i := 792) (by decide +kernel) rfl), (xG_of (i := 793) (by decide +kernel) rfl), (xG_of (i := 51) (by decide +kernel) rfl), ⟨by decide +kernel, by decide +kernel, by decide +kernel⟩, rfl, rfl⟩
theorem kv_X5_commonOf : xYv yX5_commonOf cX5_commonOf 7 (some .int) 1 5 (RX5, TX5, 13) := ⟨(xG_of (i := 796) (by decide +kernel) rfl), (xG_of (i := 37) (by decide +kernel) rfl), (xG_of (i := 797) (by decide +kernel) rfl), (xG_of (i := 51) (by decide +kernel) rfl), ⟨by decide +kernel, by decide +kernel, by decide +kernel⟩, rfl, rfl⟩
theorem kv_X5_ifMet : xYv yX5_ifMet cX5_ifMet 8 (some .int) 4 5 (RX5, TX5, 13) := ⟨(xG_of (i := 799) (by decide +kernel) rfl), (xG_of (i := 800) (by decide +kernel) rfl), (xG_of (i := 801) (by decide +kernel) rfl), (xG_of (i := 51) (by decide +kernel) rfl), ⟨by decide +kernel, by decide +kernel, by decide +kernel⟩, rfl, rfl⟩
theorem kv_X5_ifChat : xYv yX5_ifChat cX5_ifChat 4 (some .int) 1 5 (RX5, TX5, 13) := ⟨(xG_of (i := 803) (by decide +kernel) rfl), (xG_of (i := 804) (by decide +kernel) rfl), (xG_of (i := 805) (by decide +kernel) rfl), (xG_of (i := 51) (by decide +kernel) rfl), ⟨by decide +kernel, by decide +kernel, by decide +kernel⟩, rfl, rfl⟩
theorem kv_X5_bestSayer : xYv yX5_bestSayer cX5_bestSayer 4 (some .int) 1 5 (RX5, TX5, 13) := ⟨(xG_of (i := 807) (by decide +kernel) rfl), (xG_of (i := 808) (by decide +kernel) rfl), (xG_of (i := 809) (by decide +kernel) rfl), (xG_of (i := 51) (by decide +kernel) rfl), ⟨by decide +kernel, by decide +kernel, by decide +kernel⟩, rfl, rfl⟩
theorem kv_X5_type : xYv yX5_type cX5_type 2 (some .int) 1 5 (RX5, TX5, 13) := ⟨(xG_of (i := 811) (by decide +kernel) rfl), (xG_of (i := 812) (by decide +kernel) rfl), (xG_of (i := 813) (by decide +kernel) rfl), (xG_of (i := 51) (by decide +kernel) rfl), ⟨by decide +kernel, by decide +kernel, by decide +kernel⟩, rfl, rfl⟩
theorem kv_X5_clearText : xYv yX5_clearText cX5_clearText 2 (some .int) 0 5 (RX5, TX5, 13) := ⟨(xG_of (i := 815) (by decide +kernel) rfl), (xG_of (i := 816) (by decide +kernel) rfl), (xG_of (i := 817) (by decide +kernel) rfl), (xG_of (i := 51) (by decide +kernel) rfl), ⟨by decide +kernel, by decide +kernel, by decide +kernel⟩, rfl, rfl⟩
theorem kv_X5_syntaxError : xYv yX5_syntaxError cX5_syntaxError 1 (some .int) 0 5 (RX5, TX5, 13) := ⟨(xG_of (i := 819) (by decide +kernel) rfl), (xG_of (i := 820) (by decide +kernel) rfl), (xG_of (i := 821) (by decide +kernel) rfl), (xG_of (i := 51) (by decide +kernel) rfl), ⟨by decide +kernel, by decide +kernel, by decide +kernel⟩, rfl, rfl⟩
theorem kv_X5_findError : xYv yX5_findError cX5_findError 1 (some .int) 0 5 (RX5, TX5, 13) := ⟨(xG_of (i := 824) (by decide +kernel) rfl), (xG_of (i := 38) (by decide +kernel) rfl), (xG_of (i := 825) (by decide +kernel) rfl), (xG_of (i := 51) (by decide +kernel) rfl), ⟨by decide +kernel, by decide +kernel, by decide +kernel⟩, rfl, rfl⟩
theorem kv_X5_readsHabit : xYv yX5_readsHabit cX5_readsHabit 2 (some .boolean) 0 5 (RX5, TX5, 13) := ⟨(xG_of (i := 828) (by decide +kernel) rfl), (xG_of (i := 39) (by decide +kernel) rfl), (xG_of (i := 829) (by decide +kernel) rfl), (xG_of (i := 51) (by decide +kernel) rfl), ⟨by decide +kernel, by decide +kernel, by decide +kernel⟩, rfl, rfl⟩
theorem kv_X5_readsDigit : xYv yX5_readsDigit cX5_readsDigit 3 (some .boolean) 1 5 (RX5, TX5, 13) := ⟨(xG_of (i := 832) (by decide +kernel) rfl), (xG_of (i := 40) (by decide +kernel) rfl), (xG_of (i := 833) (by decide +kernel) rfl), (xG_of (i := 51) (by decide +kernel) rfl), ⟨by decide +kernel, by decide +kernel, by decide +kernel⟩, rfl, rfl⟩
theorem kv_X5_character : xYv yX5_character cX5_character 2 (some .int) 1 5 (RX5, TX5, 13) := ⟨(xG_of (i := 836) (by decide +kernel) rfl), (xG_of (i := 41) (by decide +kernel) rfl), (xG_of (i := 837) (by decide +kernel) rfl), (xG_of (i := 51) (by decide +kernel) rfl), ⟨by decide +kernel, by decide +kernel, by decide +kernel⟩, rfl, rfl⟩
theorem kv_X5_isNext : xYv yX5_isNext cX5_isNext 3 (some .boolean) 1 5 (RX5, TX5, 13) := ⟨(xG_of (i := 840) (by decide +kernel) rfl), (xG_of (i := 42) (by decide +kernel) rfl), (xG_of (i := 841) (by decide +kernel) rfl), (xG_of (i := 51) (by decide +kernel) rfl), ⟨by decide +kernel, by decide +kernel, by decide +kernel⟩, rfl, rfl⟩
theorem kv_X5_readsWord : xYv yX5_readsWord cX5_readsWord 3 (some .boolean) 0 5 (RX5, TX5, 13) := ⟨(xG_of (i := 844) (by decide +kernel) rfl), (xG_of (i := 43) (by decide +kernel) rfl), (xG_of (i := 845) (by decide +kernel) rfl), (xG_of (i := 51) (by decide +kernel) rfl), ⟨by decide +kernel, by decide +kernel, by decide +kernel⟩, rfl, rfl⟩
theorem kv_X5_isGesture : xYv yX5_isGesture cX5_isGesture 1 (some .boolean) 0 5 (RX5, TX5, 13) := ⟨(xG_of (i := 848) (by decide +kernel) rfl), (xG_of (i := 44) (by decide +kernel) rfl), (xG_of (i := 849) (by decide +kernel) rfl), (xG_of (i := 51) (by decide +kernel) rfl), ⟨by decide +kernel, by decide +kernel, by decide +kernel⟩, rfl, rfl⟩
theorem kv_X5_learn : xYv yX5_learn cX5_learn 3 (some .int) 0 5 (RX5, TX5, 13) := ⟨(xG_of (i := 851) (by decide +kernel) rfl), (xG_of (i := 852) (by decide +kernel) rfl), (xG_of (i := 853) (by decide +kernel) rfl), (xG_of (i := 51) (by decide +kernel) rfl), ⟨by decide +kernel, by decide +kernel, by decide +kernel⟩, rfl, rfl⟩
theorem kv_X5_undo : xYv yX5_undo cX5_undo 1 (some .int) 0 5 (RX5, TX5, 13) := ⟨(xG_of (i := 855) (by decide +kernel) rfl), (xG_of (i := 856) (by decide +kernel) rfl), (xG_of (i := 857) (by decide +kernel) rfl), (xG_of (i := 51) (by decide +kernel) rfl), ⟨by decide +kernel, by decide +kernel, by decide +kernel⟩, rfl, rfl⟩
theorem kv_X5_digest : xYv yX5_digest cX5_digest 5 (some .long) 0 5 (RX5, TX5, 13) := ⟨(xG_of (i := 859) (by decide +kernel) rfl), (xG_of (i := 860) (by decide +kernel) rfl), (xG_of (i := 861) (by decide +kernel) rfl), (xG_of (i := 51) (by decide +kernel) rfl), ⟨by decide +kernel, by decide +kernel, by decide +kernel⟩, rfl, rfl⟩
theorem kcl_L_7 : Cond.classLink RL 7 RX4 ∈ xG := (xG_of (i := 54) (by decide +kernel) rfl)
theorem kl_L_9 : Cond.methodLink RL 9 yX4_init ∈ xG := (xG_of (i := 56) (by decide +kernel) rfl)
theorem kl_X4_1 : Cond.methodLink RX4 1 objectInit ∈ xG := (xG_of (i := 59) (by decide +kernel) rfl)
theorem kcl_X4_7 : Cond.classLink RX4 7 RX3 ∈ xG := (xG_of (i := 62) (by decide +kernel) rfl)
theorem kl_X4_9 : Cond.methodLink RX4 9 yX3_init ∈ xG := (xG_of (i := 64) (by decide +kernel) rfl)
theorem kl_X3_3 : Cond.methodLink RX3 3 objectInit ∈ xG := (xG_of (i := 67) (by decide +kernel) rfl)
theorem kcl_X3_9 : Cond.classLink RX3 9 RX2 ∈ xG := (xG_of (i := 68) (by decide +kernel) rfl)
theorem ka_X2 : Cond.arrayOver (.object RX2) ∈ xGN := (xGN_of (i := 69) (by decide +kernel) rfl)
theorem kl_X3_17 : Cond.methodLink RX3 17 yX2_init ∈ xG := (xG_of (i := 71) (by decide +kernel) rfl)
theorem kl_X2_3 : Cond.methodLink RX2 3 objectInit ∈ xG := (xG_of (i := 74) (by decide +kernel) rfl)
theorem ka_int : Cond.arrayClass .int ∈ xG := (xG_of (i := 92) (by decide +kernel) rfl)
theorem kcl_X4_19 : Cond.classLink RX4 19 RX1 ∈ xG := (xG_of (i := 119) (by decide +kernel) rfl)
theorem kl_X4_21 : Cond.methodLink RX4 21 yX1_init ∈ xG := (xG_of (i := 121) (by decide +kernel) rfl)
theorem kl_X1_3 : Cond.methodLink RX1 3 objectInit ∈ xG := (xG_of (i := 124) (by decide +kernel) rfl)
theorem kcl_X1_9 : Cond.classLink RX1 9 RX3 ∈ xG := (xG_of (i := 125) (by decide +kernel) rfl)
theorem ka_X3 : Cond.arrayOver (.object RX3) ∈ xGN := (xGN_of (i := 126) (by decide +kernel) rfl)
theorem kl_X1_17 : Cond.methodLink RX1 17 yX3_init ∈ xG := (xG_of (i := 127) (by decide +kernel) rfl)
theorem kcl_X4_26 : Cond.classLink RX4 26 RX0 ∈ xG := (xG_of (i := 139) (by decide +kernel) rfl)
theorem kl_X4_28 : Cond.methodLink RX4 28 yX0_init ∈ xG := (xG_of (i := 141) (by decide +kernel) rfl)
theorem kl_X0_3 : Cond.methodLink RX0 3 objectInit ∈ xG := (xG_of (i := 144) (by decide +kernel) rfl)
theorem ka_char : Cond.arrayClass .char ∈ xG := (xG_of (i := 153) (by decide +kernel) rfl)
theorem kl_L_13 : xLk RL 13 yX4_come := Or.inl (xG_of (i := 167) (by decide +kernel) rfl)
theorem kl_X4_33 : xLk RX4 33 yX3_lowestFree := Or.inl (xG_of (i := 171) (by decide +kernel) rfl)
theorem kl_X4_37 : xLk RX4 37 yX1_keep := Or.inl (xG_of (i := 175) (by decide +kernel) rfl)
theorem kl_X1_22 : xLk RX1 22 yX3_copyFrom := Or.inl (xG_of (i := 179) (by decide +kernel) rfl)
theorem kl_X3_29 : xLk RX3 29 yX2_copyFrom := Or.inl (xG_of (i := 183) (by decide +kernel) rfl)
theorem kl_X2_15 : Cond.methodLink RX2 15 arraycopyName ∈ xG := (xG_of (i := 187) (by decide +kernel) rfl)
theorem kl_X3_33 : Cond.methodLink RX3 33 arraycopyName ∈ xG := (xG_of (i := 190) (by decide +kernel) rfl)
theorem kl_X1_29 : Cond.methodLink RX1 29 Lib.Math.min.name ∈ xG := (xG_of (i := 191) (by decide +kernel) rfl)
theorem kl_X4_41 : xLk RX4 41 yX3_welcome := Or.inl (xG_of (i := 194) (by decide +kernel) rfl)
theorem kl_X3_51 : xLk RX3 51 yX4_isBelow := Or.inr ⟨"GesturePidgin", (xGN_of (i := 198) (by decide +kernel) rfl)⟩
theorem kl_X3_59 : xLk RX3 59 yX2_arrive := Or.inl (xG_of (i := 201) (by decide +kernel) rfl)
theorem kl_X2_32 : xLk RX2 32 yX2_beginLife := Or.inl (xG_of (i := 205) (by decide +kernel) rfl)
theorem kl_X2_36 : xLk RX2 36 yX2_weightOf := Or.inl (xG_of (i := 209) (by decide +kernel) rfl)
theorem kl_X2_44 : xLk RX2 44 yX4_isMeaning := Or.inr ⟨"GesturePidgin", (xGN_of (i := 213) (by decide +kernel) rfl)⟩
theorem kl_X2_48 : xLk RX2 48 yX4_isWord := Or.inr ⟨"GesturePidgin", (xGN_of (i := 216) (by decide +kernel) rfl)⟩
theorem kl_X2_40 : xLk RX2 40 yX2_putWeight := Or.inl (xG_of (i := 219) (by decide +kernel) rfl)
theorem kl_X2_51 : Cond.methodLink RX2 51 Lib.Math.min.name ∈ xG := (xG_of (i := 223) (by decide +kernel) rfl)
theorem kl_X2_56 : Cond.methodLink RX2 56 Lib.Math.max.name ∈ xG := (xG_of (i := 224) (by decide +kernel) rfl)
theorem kl_L_18 : xLk RL 18 yX4_go := Or.inl (xG_of (i := 227) (by decide +kernel) rfl)
theorem kl_X4_45 : xLk RX4 45 yX3_find := Or.inl (xG_of (i := 231) (by decide +kernel) rfl)
theorem kl_X4_49 : xLk RX4 49 yX2_leave := Or.inl (xG_of (i := 235) (by decide +kernel) rfl)
theorem kl_X4_54 : xLk RX4 54 yX3_countSpeakers := Or.inl (xG_of (i := 239) (by decide +kernel) rfl)
theorem kl_L_23 : xLk RL 23 yX4_set := Or.inl (xG_of (i := 243) (by decide +kernel) rfl)
theorem kl_X4_57 : xLk RX4 57 yX4_isBelow := Or.inl (xG_of (i := 247) (by decide +kernel) rfl)
theorem kl_X4_61 : xLk RX4 61 yX4_leastOf := Or.inl (xG_of (i := 248) (by decide +kernel) rfl)
theorem kl_X4_65 : xLk RX4 65 yX4_mostOf := Or.inl (xG_of (i := 251) (by decide +kernel) rfl)
theorem kl_X4_68 : xLk RX4 68 yX3_settingAt := Or.inl (xG_of (i := 254) (by decide +kernel) rfl)
theorem kl_X4_71 : xLk RX4 71 yX3_putSetting := Or.inl (xG_of (i := 258) (by decide +kernel) rfl)
theorem kl_L_28 : xLk RL 28 yX4_setSeed := Or.inl (xG_of (i := 262) (by decide +kernel) rfl)
theorem kk_X4_75 : Cond.constant RX4 75 (65535) ∈ xG := (xG_of (i := 266) (by decide +kernel) rfl)
theorem kl_L_32 : xLk RL 32 yX4_teach := Or.inl (xG_of (i := 267) (by decide +kernel) rfl)
theorem kl_X4_80 : xLk RX4 80 yX4_isMeaning := Or.inl (xG_of (i := 271) (by decide +kernel) rfl)
theorem kl_X4_84 : xLk RX4 84 yX4_isWord := Or.inl (xG_of (i := 272) (by decide +kernel) rfl)
theorem kl_X4_87 : xLk RX4 87 yX2_weightOf := Or.inl (xG_of (i := 273) (by decide +kernel) rfl)
theorem kl_X4_91 : xLk RX4 91 yX2_putWeight := Or.inl (xG_of (i := 274) (by decide +kernel) rfl)
theorem kl_L_37 : xLk RL 37 yX4_setAge := Or.inl (xG_of (i := 275) (by decide +kernel) rfl)
theorem kl_L_41 : xLk RL 41 yX4_meet := Or.inl (xG_of (i := 279) (by decide +kernel) rfl)
theorem kl_X4_98 : xLk RX4 98 yX3_holdMeeting := Or.inl (xG_of (i := 283) (by decide +kernel) rfl)
theorem kl_X3_63 : xLk RX3 63 yX2_wordFor := Or.inl (xG_of (i := 287) (by decide +kernel) rfl)
theorem kl_X3_67 : xLk RX3 67 yX3_draw := Or.inl (xG_of (i := 291) (by decide +kernel) rfl)
theorem kk_X3_62 : Cond.constant RX3 62 (65536) ∈ xG := (xG_of (i := 295) (by decide +kernel) rfl)
theorem kl_X3_70 : xLk RX3 70 yX2_meaningOf := Or.inl (xG_of (i := 296) (by decide +kernel) rfl)
theorem kl_X3_74 : xLk RX3 74 yX2_prefer := Or.inl (xG_of (i := 300) (by decide +kernel) rfl)
theorem kl_X2_59 : xLk RX2 59 yX2_learnsWith := Or.inl (xG_of (i := 304) (by decide +kernel) rfl)
theorem kl_X2_63 : xLk RX2 63 yX2_changeWeight := Or.inl (xG_of (i := 308) (by decide +kernel) rfl)
theorem kl_X3_78 : xLk RX3 78 yX2_forgetOtherMeanings := Or.inl (xG_of (i := 312) (by decide +kernel) rfl)
theorem kl_X3_82 : xLk RX3 82 yX2_changeWeight := Or.inl (xG_of (i := 316) (by decide +kernel) rfl)
theorem kl_L_46 : xLk RL 46 yX4_chat := Or.inl (xG_of (i := 317) (by decide +kernel) rfl)
theorem kl_X4_102 : xLk RX4 102 yX4_refusalOfChat := Or.inl (xG_of (i := 321) (by decide +kernel) rfl)
theorem kl_X4_105 : xLk RX4 105 yX3_holdChats := Or.inl (xG_of (i := 325) (by decide +kernel) rfl)
theorem kl_X3_85 : xLk RX3 85 yX3_countSpeakers := Or.inl (xG_of (i := 329) (by decide +kernel) rfl)
theorem kl_X3_89 : xLk RX3 89 yX3_numberInOrder := Or.inl (xG_of (i := 330) (by decide +kernel) rfl)
theorem kl_X3_93 : xLk RX3 93 yX3_find := Or.inl (xG_of (i := 334) (by decide +kernel) rfl)
theorem kl_X3_97 : xLk RX3 97 yX3_holdMeeting := Or.inl (xG_of (i := 335) (by decide +kernel) rfl)
theorem kl_L_50 : xLk RL 50 yX4_age := Or.inl (xG_of (i := 336) (by decide +kernel) rfl)
theorem kl_X4_108 : xLk RX4 108 yX3_passYears := Or.inl (xG_of (i := 340) (by decide +kernel) rfl)
theorem kl_X3_101 : xLk RX3 101 yX3_passYear := Or.inl (xG_of (i := 344) (by decide +kernel) rfl)
theorem kl_X3_105 : xLk RX3 105 yX3_teacherFor := Or.inl (xG_of (i := 348) (by decide +kernel) rfl)
theorem kl_X3_108 : xLk RX3 108 yX2_beginLife := Or.inl (xG_of (i := 352) (by decide +kernel) rfl)
theorem kl_L_54 : xLk RL 54 yX4_count := Or.inl (xG_of (i := 353) (by decide +kernel) rfl)
theorem kl_X4_111 : xLk RX4 111 yX3_numberOf := Or.inl (xG_of (i := 357) (by decide +kernel) rfl)
theorem kl_X3_112 : xLk RX3 112 yX3_sumOfWeights := Or.inl (xG_of (i := 361) (by decide +kernel) rfl)
theorem kl_X3_124 : xLk RX3 124 yX2_sumOfWeights := Or.inl (xG_of (i := 365) (by decide +kernel) rfl)
theorem kl_L_58 : xLk RL 58 yX4_setting := Or.inl (xG_of (i := 369) (by decide +kernel) rfl)
theorem kl_L_62 : xLk RL 62 yX4_weight := Or.inl (xG_of (i := 373) (by decide +kernel) rfl)
theorem kl_L_66 : xLk RL 66 yX4_speaker := Or.inl (xG_of (i := 377) (by decide +kernel) rfl)
theorem kl_X4_114 : xLk RX4 114 yX3_numberOfSpeaker := Or.inl (xG_of (i := 381) (by decide +kernel) rfl)
theorem kl_X3_115 : xLk RX3 115 yX2_learnsWith := Or.inl (xG_of (i := 385) (by decide +kernel) rfl)
theorem kl_X3_118 : xLk RX3 118 yX2_countWords := Or.inl (xG_of (i := 386) (by decide +kernel) rfl)
theorem kl_X2_66 : xLk RX2 66 yX2_wordFor := Or.inl (xG_of (i := 390) (by decide +kernel) rfl)
theorem kl_X3_121 : xLk RX3 121 yX2_countConfusions := Or.inl (xG_of (i := 391) (by decide +kernel) rfl)
theorem kl_L_70 : xLk RL 70 yX4_wordOf := Or.inl (xG_of (i := 395) (by decide +kernel) rfl)
theorem kl_X4_118 : xLk RX4 118 yX2_wordFor := Or.inl (xG_of (i := 399) (by decide +kernel) rfl)
theorem kl_L_74 : xLk RL 74 yX4_hears := Or.inl (xG_of (i := 400) (by decide +kernel) rfl)
theorem kl_X4_121 : xLk RX4 121 yX2_meaningOf := Or.inl (xG_of (i := 404) (by decide +kernel) rfl)
theorem kl_L_78 : xLk RL 78 yX4_gesture := Or.inl (xG_of (i := 405) (by decide +kernel) rfl)
theorem kl_X4_124 : xLk RX4 124 yX4_lengthOfWord := Or.inl (xG_of (i := 409) (by decide +kernel) rfl)
theorem kl_X4_127 : xLk RX4 127 yX4_codeOfWord := Or.inl (xG_of (i := 412) (by decide +kernel) rfl)
theorem kl_L_82 : xLk RL 82 yX4_agreement := Or.inl (xG_of (i := 415) (by decide +kernel) rfl)
theorem kl_X4_130 : xLk RX4 130 yX4_agreementByMeanings := Or.inl (xG_of (i := 419) (by decide +kernel) rfl)
theorem kl_X4_134 : xLk RX4 134 yX4_agreementByWords := Or.inl (xG_of (i := 422) (by decide +kernel) rfl)
theorem kl_L_86 : xLk RL 86 yX4_understanding := Or.inl (xG_of (i := 425) (by decide +kernel) rfl)
theorem kl_X4_137 : xLk RX4 137 yX4_understandingOf := Or.inl (xG_of (i := 429) (by decide +kernel) rfl)
theorem kl_L_90 : xLk RL 90 yX4_common := Or.inl (xG_of (i := 432) (by decide +kernel) rfl)
theorem kl_X4_140 : xLk RX4 140 yX3_commonWord := Or.inl (xG_of (i := 436) (by decide +kernel) rfl)
theorem kl_X3_125 : xLk RX3 125 yX3_countUsers := Or.inl (xG_of (i := 440) (by decide +kernel) rfl)
theorem kl_X3_129 : xLk RX3 129 yX4_isWord := Or.inr ⟨"GesturePidgin", (xGN_of (i := 444) (by decide +kernel) rfl)⟩
theorem kl_L_94 : xLk RL 94 yX4_ifMet := Or.inl (xG_of (i := 445) (by decide +kernel) rfl)
theorem kl_X4_143 : xLk RX4 143 yX3_copyFrom := Or.inl (xG_of (i := 449) (by decide +kernel) rfl)
theorem kl_L_98 : xLk RL 98 yX4_ifChat := Or.inl (xG_of (i := 450) (by decide +kernel) rfl)
theorem kl_L_102 : xLk RL 102 yX4_bestSayer := Or.inl (xG_of (i := 454) (by decide +kernel) rfl)
theorem kl_L_106 : xLk RL 106 yX4_type := Or.inl (xG_of (i := 458) (by decide +kernel) rfl)
theorem kl_X4_146 : xLk RX4 146 yX0_append := Or.inl (xG_of (i := 462) (by decide +kernel) rfl)
theorem kl_X0_19 : xLk RX0 19 yX4_isBelow := Or.inr ⟨"GesturePidgin", (xGN_of (i := 466) (by decide +kernel) rfl)⟩
theorem kl_L_110 : xLk RL 110 yX4_clearText := Or.inl (xG_of (i := 467) (by decide +kernel) rfl)
theorem kl_L_114 : xLk RL 114 yX4_syntaxError := Or.inl (xG_of (i := 471) (by decide +kernel) rfl)
theorem kl_X4_153 : xLk RX4 153 yX0_firstError := Or.inl (xG_of (i := 475) (by decide +kernel) rfl)
theorem kl_X0_23 : xLk RX0 23 yX0_signAt := Or.inl (xG_of (i := 479) (by decide +kernel) rfl)
theorem kl_X0_27 : xLk RX0 27 yX0_expectedAfter := Or.inl (xG_of (i := 483) (by decide +kernel) rfl)
theorem kl_X0_31 : xLk RX0 31 yX0_isGesture := Or.inl (xG_of (i := 486) (by decide +kernel) rfl)
theorem kl_X0_35 : xLk RX0 35 yX0_afterStar := Or.inl (xG_of (i := 489) (by decide +kernel) rfl)
theorem kl_X0_38 : xLk RX0 38 yX0_isDigit := Or.inl (xG_of (i := 492) (by decide +kernel) rfl)
theorem kl_X0_41 : xLk RX0 41 yX0_afterEnd := Or.inl (xG_of (i := 495) (by decide +kernel) rfl)
theorem kl_L_118 : xLk RL 118 yX4_learn := Or.inl (xG_of (i := 498) (by decide +kernel) rfl)
theorem kl_X4_156 : xLk RX4 156 yX0_giveHabits := Or.inl (xG_of (i := 502) (by decide +kernel) rfl)
theorem kl_X0_44 : xLk RX0 44 yX0_digitAt := Or.inl (xG_of (i := 506) (by decide +kernel) rfl)
theorem kl_X0_47 : xLk RX0 47 yX3_find := Or.inl (xG_of (i := 510) (by decide +kernel) rfl)
theorem kl_X0_53 : xLk RX0 53 yX0_giveHabit := Or.inl (xG_of (i := 511) (by decide +kernel) rfl)
theorem kl_X0_57 : xLk RX0 57 yX4_wordOfCode := Or.inr ⟨"GesturePidgin", (xGN_of (i := 515) (by decide +kernel) rfl)⟩
theorem kl_X0_60 : xLk RX0 60 yX2_putWeight := Or.inl (xG_of (i := 518) (by decide +kernel) rfl)
theorem kl_L_122 : xLk RL 122 yX4_undo := Or.inl (xG_of (i := 519) (by decide +kernel) rfl)
theorem kl_X4_160 : xLk RX4 160 yX1_restore := Or.inl (xG_of (i := 523) (by decide +kernel) rfl)
theorem kl_L_126 : xLk RL 126 yX4_digest := Or.inl (xG_of (i := 527) (by decide +kernel) rfl)
theorem kk_X4_167 : Cond.constantLong RX4 167 (473) ∈ xG := (xG_of (i := 531) (by decide +kernel) rfl)
theorem kl_X4_169 : xLk RX4 169 yX4_mixed := Or.inl (xG_of (i := 532) (by decide +kernel) rfl)
theorem kk_X4_179 : Cond.constantLong RX4 179 (31) ∈ xG := (xG_of (i := 535) (by decide +kernel) rfl)
theorem kl_X4_173 : xLk RX4 173 yX4_withSpeaker := Or.inl (xG_of (i := 536) (by decide +kernel) rfl)
theorem kl_X4_176 : xLk RX4 176 yX4_withPairsOf := Or.inl (xG_of (i := 540) (by decide +kernel) rfl)
theorem kcl_L_10 : Cond.classLink RL 10 RX5 ∈ xG := (xG_of (i := 544) (by decide +kernel) rfl)
theorem kl_L_12 : Cond.methodLink RL 12 yX5_init ∈ xG := (xG_of (i := 546) (by decide +kernel) rfl)
theorem kl_X5_1 : Cond.methodLink RX5 1 objectInit ∈ xG := (xG_of (i := 549) (by decide +kernel) rfl)
theorem kl_L_45 : xLk RL 45 yX5_meet := Or.inl (xG_of (i := 590) (by decide +kernel) rfl)
theorem kl_X5_83 : xLk RX5 83 yX5_whyNotMet := Or.inl (xG_of (i := 594) (by decide +kernel) rfl)
theorem kl_X5_45 : xLk RX5 45 yX5_isSpeaker := Or.inl (xG_of (i := 598) (by decide +kernel) rfl)
theorem kl_X5_30 : xLk RX5 30 yX5_within := Or.inl (xG_of (i := 602) (by decide +kernel) rfl)
theorem kl_X5_34 : xLk RX5 34 yX5_part := Or.inl (xG_of (i := 605) (by decide +kernel) rfl)
theorem kl_X5_80 : xLk RX5 80 yX5_isMeaning := Or.inl (xG_of (i := 609) (by decide +kernel) rfl)
theorem kl_X5_86 : xLk RX5 86 yX5_record := Or.inl (xG_of (i := 612) (by decide +kernel) rfl)
theorem kl_X5_26 : xLk RX5 26 yX5_copies := Or.inl (xG_of (i := 616) (by decide +kernel) rfl)
theorem kl_X5_89 : xLk RX5 89 yX5_meets := Or.inl (xG_of (i := 619) (by decide +kernel) rfl)
theorem kl_X5_58 : xLk RX5 58 yX5_wordFor := Or.inl (xG_of (i := 623) (by decide +kernel) rfl)
theorem kl_X5_42 : xLk RX5 42 yX5_weightOf := Or.inl (xG_of (i := 627) (by decide +kernel) rfl)
theorem kl_X5_38 : xLk RX5 38 yX5_weightAt := Or.inl (xG_of (i := 631) (by decide +kernel) rfl)
theorem kl_X5_64 : xLk RX5 64 yX5_draws := Or.inl (xG_of (i := 634) (by decide +kernel) rfl)
theorem kk_X5_49 : Cond.constant RX5 49 (65536) ∈ xG := (xG_of (i := 638) (by decide +kernel) rfl)
theorem kl_X5_67 : xLk RX5 67 yX5_heardAs := Or.inl (xG_of (i := 639) (by decide +kernel) rfl)
theorem kl_X5_73 : xLk RX5 73 yX5_strengthens := Or.inl (xG_of (i := 643) (by decide +kernel) rfl)
theorem kl_X5_50 : xLk RX5 50 yX5_learns := Or.inl (xG_of (i := 647) (by decide +kernel) rfl)
theorem kl_X5_54 : xLk RX5 54 yX5_changes := Or.inl (xG_of (i := 651) (by decide +kernel) rfl)
theorem kl_X5_77 : xLk RX5 77 yX5_setPart := Or.inl (xG_of (i := 655) (by decide +kernel) rfl)
theorem kl_L_49 : xLk RL 49 yX5_chat := Or.inl (xG_of (i := 659) (by decide +kernel) rfl)
theorem kl_X5_99 : xLk RX5 99 yX5_whyNotChat := Or.inl (xG_of (i := 663) (by decide +kernel) rfl)
theorem kl_X5_92 : xLk RX5 92 yX5_speakers := Or.inl (xG_of (i := 667) (by decide +kernel) rfl)
theorem kl_X5_102 : xLk RX5 102 yX5_chats := Or.inl (xG_of (i := 671) (by decide +kernel) rfl)
theorem kl_X5_96 : xLk RX5 96 yX5_speakerAt := Or.inl (xG_of (i := 675) (by decide +kernel) rfl)
theorem kl_L_53 : xLk RL 53 yX5_age := Or.inl (xG_of (i := 679) (by decide +kernel) rfl)
theorem kl_X5_112 : xLk RX5 112 yX5_passesYear := Or.inl (xG_of (i := 683) (by decide +kernel) rfl)
theorem kl_X5_108 : xLk RX5 108 yX5_isBorn := Or.inl (xG_of (i := 687) (by decide +kernel) rfl)
theorem kl_X5_105 : xLk RX5 105 yX5_teacherOf := Or.inl (xG_of (i := 691) (by decide +kernel) rfl)
theorem kl_L_17 : xLk RL 17 yX5_come := Or.inl (xG_of (i := 695) (by decide +kernel) rfl)
theorem kl_L_22 : xLk RL 22 yX5_go := Or.inl (xG_of (i := 699) (by decide +kernel) rfl)
theorem kl_L_27 : xLk RL 27 yX5_set := Or.inl (xG_of (i := 703) (by decide +kernel) rfl)
theorem kl_X5_115 : xLk RX5 115 yX5_isSetting := Or.inl (xG_of (i := 707) (by decide +kernel) rfl)
theorem kl_L_31 : xLk RL 31 yX5_setSeed := Or.inl (xG_of (i := 710) (by decide +kernel) rfl)
theorem kk_X5_118 : Cond.constant RX5 118 (65535) ∈ xG := (xG_of (i := 714) (by decide +kernel) rfl)
theorem kl_L_36 : xLk RL 36 yX5_teach := Or.inl (xG_of (i := 715) (by decide +kernel) rfl)
theorem kl_X5_119 : xLk RX5 119 yX5_isWord := Or.inl (xG_of (i := 719) (by decide +kernel) rfl)
theorem kl_L_40 : xLk RL 40 yX5_setAge := Or.inl (xG_of (i := 722) (by decide +kernel) rfl)
theorem kl_L_57 : xLk RL 57 yX5_count := Or.inl (xG_of (i := 726) (by decide +kernel) rfl)
theorem kl_X5_125 : xLk RX5 125 yX5_countOf := Or.inl (xG_of (i := 730) (by decide +kernel) rfl)
theorem kl_X5_122 : xLk RX5 122 yX5_allWeights := Or.inl (xG_of (i := 734) (by decide +kernel) rfl)
theorem kl_L_61 : xLk RL 61 yX5_setting := Or.inl (xG_of (i := 738) (by decide +kernel) rfl)
theorem kl_L_65 : xLk RL 65 yX5_weight := Or.inl (xG_of (i := 742) (by decide +kernel) rfl)
theorem kl_L_69 : xLk RL 69 yX5_speaker := Or.inl (xG_of (i := 746) (by decide +kernel) rfl)
theorem kl_X5_134 : xLk RX5 134 yX5_ofSpeaker := Or.inl (xG_of (i := 750) (by decide +kernel) rfl)
theorem kl_X5_128 : xLk RX5 128 yX5_wordsOf := Or.inl (xG_of (i := 754) (by decide +kernel) rfl)
theorem kl_X5_131 : xLk RX5 131 yX5_confusions := Or.inl (xG_of (i := 758) (by decide +kernel) rfl)
theorem kl_L_73 : xLk RL 73 yX5_wordOf := Or.inl (xG_of (i := 762) (by decide +kernel) rfl)
theorem kl_L_77 : xLk RL 77 yX5_hears := Or.inl (xG_of (i := 766) (by decide +kernel) rfl)
theorem kl_L_81 : xLk RL 81 yX5_gesture := Or.inl (xG_of (i := 770) (by decide +kernel) rfl)
theorem kl_L_85 : xLk RL 85 yX5_agreement := Or.inl (xG_of (i := 774) (by decide +kernel) rfl)
theorem kl_X5_137 : xLk RX5 137 yX5_agreements := Or.inl (xG_of (i := 778) (by decide +kernel) rfl)
theorem kl_L_89 : xLk RL 89 yX5_understanding := Or.inl (xG_of (i := 782) (by decide +kernel) rfl)
theorem kl_X5_140 : xLk RX5 140 yX5_understood := Or.inl (xG_of (i := 786) (by decide +kernel) rfl)
theorem kl_L_93 : xLk RL 93 yX5_common := Or.inl (xG_of (i := 790) (by decide +kernel) rfl)
theorem kl_X5_143 : xLk RX5 143 yX5_commonOf := Or.inl (xG_of (i := 794) (by decide +kernel) rfl)
theorem kl_L_97 : xLk RL 97 yX5_ifMet := Or.inl (xG_of (i := 798) (by decide +kernel) rfl)
theorem kl_L_101 : xLk RL 101 yX5_ifChat := Or.inl (xG_of (i := 802) (by decide +kernel) rfl)
theorem kl_L_105 : xLk RL 105 yX5_bestSayer := Or.inl (xG_of (i := 806) (by decide +kernel) rfl)
theorem kl_L_109 : xLk RL 109 yX5_type := Or.inl (xG_of (i := 810) (by decide +kernel) rfl)
theorem kl_L_113 : xLk RL 113 yX5_clearText := Or.inl (xG_of (i := 814) (by decide +kernel) rfl)
theorem kl_L_117 : xLk RL 117 yX5_syntaxError := Or.inl (xG_of (i := 818) (by decide +kernel) rfl)
theorem kl_X5_183 : xLk RX5 183 yX5_findError := Or.inl (xG_of (i := 822) (by decide +kernel) rfl)
theorem kl_X5_180 : xLk RX5 180 yX5_readsHabit := Or.inl (xG_of (i := 826) (by decide +kernel) rfl)
theorem kl_X5_165 : xLk RX5 165 yX5_readsDigit := Or.inl (xG_of (i := 830) (by decide +kernel) rfl)
theorem kl_X5_152 : xLk RX5 152 yX5_character := Or.inl (xG_of (i := 834) (by decide +kernel) rfl)
theorem kl_X5_171 : xLk RX5 171 yX5_isNext := Or.inl (xG_of (i := 838) (by decide +kernel) rfl)
theorem kl_X5_177 : xLk RX5 177 yX5_readsWord := Or.inl (xG_of (i := 842) (by decide +kernel) rfl)
theorem kl_X5_158 : xLk RX5 158 yX5_isGesture := Or.inl (xG_of (i := 846) (by decide +kernel) rfl)
theorem kl_L_121 : xLk RL 121 yX5_learn := Or.inl (xG_of (i := 850) (by decide +kernel) rfl)
theorem kl_L_125 : xLk RL 125 yX5_undo := Or.inl (xG_of (i := 854) (by decide +kernel) rfl)
theorem kl_L_130 : xLk RL 130 yX5_digest := Or.inl (xG_of (i := 858) (by decide +kernel) rfl)
theorem kk_X5_186 : Cond.constantLong RX5 186 (473) ∈ xG := (xG_of (i := 862) (by decide +kernel) rfl)
theorem kk_X5_188 : Cond.constantLong RX5 188 (31) ∈ xG := (xG_of (i := 863) (by decide +kernel) rfl)
theorem ki_sys : Cond.initialized "java/lang/System" ∈ xG := (xG_of (i := 52) (by decide +kernel) rfl)
theorem ki_math : Cond.initialized "java/lang/Math" ∈ xG := (xG_of (i := 53) (by decide +kernel) rfl)
theorem kz_native : Cond.native arraycopyName ∈ xG := (xG_of (i := 189) (by decide +kernel) rfl)
theorem kz_static : Cond.static arraycopyName ∈ xG := (xG_of (i := 188) (by decide +kernel) rfl)
theorem kz_smax : Cond.static Lib.Math.max.name ∈ xG := (xG_of (i := 225) (by decide +kernel) rfl)
theorem kz_cmax : Cond.code Lib.Math.max.name Lib.Math.max.code 2 (some .int) ∈ xG := (xG_of (i := 226) (by decide +kernel) rfl)
theorem kz_smin : Cond.static Lib.Math.min.name ∈ xG := (xG_of (i := 192) (by decide +kernel) rfl)
theorem kz_cmin : Cond.code Lib.Math.min.name Lib.Math.min.code 2 (some .int) ∈ xG := (xG_of (i := 193) (by decide +kernel) rfl)
theorem kz_oi : Cond.instanceMethod objectInit ∈ xG := (xG_of (i := 60) (by decide +kernel) rfl)
theorem kz_oc : Cond.code objectInit ⟨#[0xb1]⟩ 1 none ∈ xG := (xG_of (i := 61) (by decide +kernel) rfl)
end
section
/-! THE WORLDS. A village at b: 20 cells; the class's object at B: 165 cells; the model's object at M: 5 cells. A village's numbers V: rows 0..7 weights of a speaker, 8 settings, 9 seed, meetings, successes, children, years; 10 there, 11 age, 12 meetings of a speaker; 13 users. -/
abbrev Vs : Type := Nat → Nat → Int32
abbrev Fn : Type := Nat → Int32
def up2 (V : Vs) (r j : Nat) (x : Int32) : Vs := fun p q => if p = r ∧ q = j then x else V p q
def xfl (c : Int32) : Int32 := if c = 1 then 1 else 0
def xb (p : Prop) [Decidable p] : Int32 := if p then 1 else 0
def vfs (b : Nat) (V : Vs) : List Value := [.ref (b + 1), .ref (b + 18), .ref (b + 19), .int (V 9 0), .int (V 9 1), .int (V 9 2), .int (V 9 3), .int (V 9 4)]
def sfs (b : Nat) (V : Vs) (k : Nat) : List Value := [.ref (b + 3 + 2 * k), .int (xfl (V 10 k)), .int (V 11 k), .int (V 12 k)]
def vcell (E : xEnv) (b : Nat) (V : Vs) (o : Nat) : va_E :=
  if o = 0 then .inr (3, vfs b V)
  else if o = 1 then .inl (xSp E, 8, .inr (.inr (.inr (.inr (fun k => some (b + 2 + 2 * k))))))
  else if o = 18 then .inl (xI E, 4, .inl (V 8))
  else if o = 19 then .inl (xI E, 14, .inl (V 13))
  else if o % 2 = 0 then .inr (2, sfs b V ((o - 2) / 2))
  else .inl (xI E, 84, .inl (V ((o - 3) / 2)))
def vput (E : xEnv) (σ : Sg) (b : Nat) (V : Vs) : Sg := fun a => if b ≤ a ∧ a < b + 20 then some (vcell E b V (a - b)) else σ a
section WV
variable {E : xEnv} {σ : Sg} {b k : Nat} {V : Vs}
theorem vput_in {a : Nat} (h1 : b ≤ a) (h2 : a < b + 20) : vput E σ b V a = some (vcell E b V (a - b)) := if_pos ⟨h1, h2⟩
theorem vput_out {a : Nat} (h : a < b ∨ b + 20 ≤ a) : vput E σ b V a = σ a := if_neg (by omega)
theorem vput_0 : vput E σ b V b = some (.inr (3, vfs b V)) := by rw [vput_in (Nat.le_refl _) (by omega), Nat.sub_self]; rfl
theorem vput_1 : vput E σ b V (b + 1) = some (.inl (xSp E, 8, .inr (.inr (.inr (.inr (fun k => some (b + 2 + 2 * k))))))) := by rw [vput_in (by omega) (by omega), Nat.add_sub_cancel_left]; rfl
theorem vput_18 : vput E σ b V (b + 18) = some (.inl (xI E, 4, .inl (V 8))) := by rw [vput_in (by omega) (by omega), Nat.add_sub_cancel_left]; rfl
theorem vput_19 : vput E σ b V (b + 19) = some (.inl (xI E, 14, .inl (V 13))) := by rw [vput_in (by omega) (by omega), Nat.add_sub_cancel_left]; rfl
theorem vcell_s (hk : k < 8) : vcell E b V (2 + 2 * k) = .inr (2, sfs b V k) := by
  unfold vcell
  rw [if_neg (by omega), if_neg (by omega), if_neg (by omega), if_neg (by omega), if_pos (by omega), show (2 + 2 * k - 2) / 2 = k by omega]
theorem vcell_w (hk : k < 8) : vcell E b V (3 + 2 * k) = .inl (xI E, 84, .inl (V k)) := by
  unfold vcell
  rw [if_neg (by omega), if_neg (by omega), if_neg (by omega), if_neg (by omega), if_neg (by omega), show (3 + 2 * k - 3) / 2 = k by omega]
theorem vput_s (hk : k < 8) : vput E σ b V (b + 2 + 2 * k) = some (.inr (2, sfs b V k)) := by
  rw [vput_in (by omega) (by omega), show b + 2 + 2 * k - b = 2 + 2 * k by omega, vcell_s hk]
theorem vput_w (hk : k < 8) : vput E σ b V (b + 3 + 2 * k) = some (.inl (xI E, 84, .inl (V k))) := by
  rw [vput_in (by omega) (by omega), show b + 3 + 2 * k - b = 3 + 2 * k by omega, vcell_w hk]
/-- every cell of a village, by its place -/
theorem vcases {P : Nat → Prop} (h0 : P 0) (h1 : P 1) (h18 : P 18) (h19 : P 19) (hs : ∀ k, k < 8 → P (2 + 2 * k)) (hw : ∀ k, k < 8 → P (3 + 2 * k)) : ∀ o, o < 20 → P o := by
  intro o ho
  by_cases e0 : o = 0
  · exact e0 ▸ h0
  by_cases e1 : o = 1
  · exact e1 ▸ h1
  by_cases e2 : o = 18
  · exact e2 ▸ h18
  by_cases e3 : o = 19
  · exact e3 ▸ h19
  by_cases e4 : o % 2 = 0
  · have h := hs ((o - 2) / 2) (by omega)
    rw [show 2 + 2 * ((o - 2) / 2) = o by omega] at h
    exact h
  · have h := hw ((o - 3) / 2) (by omega)
    rw [show 3 + 2 * ((o - 3) / 2) = o by omega] at h
    exact h
/-- one cell of a village is another one: the village's numbers are others -/
theorem vput_up {V2 : Vs} {o : Nat} {e : va_E} (ho : o < 20) (he : e = vcell E b V2 o) (hr : ∀ o2, o2 < 20 → o2 ≠ o → vcell E b V o2 = vcell E b V2 o2) : xup (vput E σ b V) (b + o) e = vput E σ b V2 := by
  funext a
  by_cases ha : a = b + o
  · subst ha
    rw [xup_s, vput_in (by omega) (by omega), Nat.add_sub_cancel_left, he]
  · rw [xup_n ha]
    by_cases hb : b ≤ a ∧ a < b + 20
    · rw [vput_in hb.1 hb.2, vput_in hb.1 hb.2, hr (a - b) (by omega) (by omega)]
    · rw [vput_out (by omega), vput_out (by omega)]
theorem vcell_cong {V2 : Vs} (h0 : vfs b V = vfs b V2) (h8 : V 8 = V2 8) (h13 : V 13 = V2 13) (hs : ∀ k, k < 8 → sfs b V k = sfs b V2 k) (hw : ∀ k, k < 8 → V k = V2 k) : ∀ o, o < 20 → vcell E b V o = vcell E b V2 o :=
  vcases (by show (Sum.inr _ : va_E) = Sum.inr _; rw [h0]) rfl (by show (Sum.inl _ : va_E) = Sum.inl _; rw [h8]) (by show (Sum.inl _ : va_E) = Sum.inl _; rw [h13]) (fun k hk => by rw [vcell_s hk, vcell_s hk, hs k hk]) (fun k hk => by rw [vcell_w hk, vcell_w hk, hw k hk])
end WV
theorem up2_s {V : Vs} {r j : Nat} {x : Int32} : up2 V r j x r j = x := by simp [up2]
theorem up2_n {V : Vs} {r j p q : Nat} {x : Int32} (h : ¬ (p = r ∧ q = j)) : up2 V r j x p q = V p q := by simp [up2, h]
theorem up2_r {V : Vs} {r j p : Nat} {x : Int32} (h : p ≠ r) : up2 V r j x p = V p := by funext q; simp [up2, h]
theorem up2_u {V : Vs} {r j : Nat} {x : Int32} : up2 V r j x r = upd (V r) j x := by funext q; simp [up2, upd]
theorem xfl_1 : xfl 1 = 1 := by decide
theorem xfl_0 : xfl 0 = 0 := by decide
theorem xfl_x (c : Int32) : xfl (xfl c) = xfl c := by unfold xfl; split <;> decide
theorem xfl_e (c : Int32) : xfl c = 0 ↔ ¬ c = 1 := by
  unfold xfl
  split
  · rename_i h; simp [h]
  · rename_i h; simp [h]
theorem xfl_nar (c : Int32) : narrow .boolean (.int (xfl c)) = .int (xfl c) := by unfold xfl; split <;> rfl
theorem xfl_fit (c : Int32) : fits .boolean (.int (xfl c)) = true := by unfold xfl; split <;> rfl
section WV2
variable {E : xEnv} {σ : Sg} {b k : Nat} {V V2 : Vs}
theorem sfs_cong (h1 : xfl (V 10 k) = xfl (V2 10 k)) (h2 : V 11 k = V2 11 k) (h3 : V 12 k = V2 12 k) : sfs b V k = sfs b V2 k := by unfold sfs; rw [h1, h2, h3]
theorem vput_r9 (h : ∀ r, r ≠ 9 → V2 r = V r) : xup (vput E σ b V) b (.inr (3, vfs b V2)) = vput E σ b V2 := by
  have h1 := vput_up (E := E) (σ := σ) (b := b) (V := V) (V2 := V2) (o := 0) (e := .inr (3, vfs b V2)) (by omega) rfl (vcases (P := fun o => o ≠ 0 → vcell E b V o = vcell E b V2 o) (fun z => absurd rfl z) (fun _ => rfl)
    (fun _ => by show (Sum.inl _ : va_E) = Sum.inl _; rw [h 8 (by omega)]) (fun _ => by show (Sum.inl _ : va_E) = Sum.inl _; rw [h 13 (by omega)])
    (fun k hk _ => by rw [vcell_s hk, vcell_s hk, sfs_cong (V2 := V2) (by rw [h 10 (by omega)]) (by rw [h 11 (by omega)]) (by rw [h 12 (by omega)])]) (fun k hk _ => by rw [vcell_w hk, vcell_w hk, h k (by omega)]))
  exact h1
theorem vfs_cong (h : V2 9 = V 9) : vfs b V = vfs b V2 := by unfold vfs; rw [h]
theorem vput_rs (hk : k < 8) (h : ∀ r, r ≠ 10 → r ≠ 11 → r ≠ 12 → V2 r = V r) (hj : ∀ r j, j ≠ k → V2 r j = V r j) : xup (vput E σ b V) (b + 2 + 2 * k) (.inr (2, sfs b V2 k)) = vput E σ b V2 := by
  have h1 := vput_up (E := E) (σ := σ) (b := b) (V := V) (V2 := V2) (o := 2 + 2 * k) (e := .inr (2, sfs b V2 k)) (by omega) (vcell_s hk).symm (vcases (P := fun o => o ≠ 2 + 2 * k → vcell E b V o = vcell E b V2 o) (fun _ => by show (Sum.inr _ : va_E) = Sum.inr _; rw [vfs_cong (V2 := V2) (h 9 (by omega) (by omega) (by omega))]) (fun _ => rfl)
    (fun _ => by show (Sum.inl _ : va_E) = Sum.inl _; rw [h 8 (by omega) (by omega) (by omega)]) (fun _ => by show (Sum.inl _ : va_E) = Sum.inl _; rw [h 13 (by omega) (by omega) (by omega)])
    (fun i hi z => by rw [vcell_s hi, vcell_s hi, sfs_cong (V2 := V2) (by rw [hj 10 i (by omega)]) (by rw [hj 11 i (by omega)]) (by rw [hj 12 i (by omega)])]) (fun i hi _ => by rw [vcell_w hi, vcell_w hi, h i (by omega) (by omega) (by omega)]))
  rw [show b + 2 + 2 * k = b + (2 + 2 * k) by omega]
  exact h1
theorem vput_rw (hk : k < 8) (h : ∀ r, r ≠ k → V2 r = V r) : xup (vput E σ b V) (b + 3 + 2 * k) (.inl (xI E, 84, .inl (V2 k))) = vput E σ b V2 := by
  have h1 := vput_up (E := E) (σ := σ) (b := b) (V := V) (V2 := V2) (o := 3 + 2 * k) (e := .inl (xI E, 84, .inl (V2 k))) (by omega) (vcell_w hk).symm (vcases (P := fun o => o ≠ 3 + 2 * k → vcell E b V o = vcell E b V2 o) (fun _ => by show (Sum.inr _ : va_E) = Sum.inr _; rw [vfs_cong (V2 := V2) (h 9 (by omega))]) (fun _ => rfl)
    (fun _ => by show (Sum.inl _ : va_E) = Sum.inl _; rw [h 8 (by omega)]) (fun _ => by show (Sum.inl _ : va_E) = Sum.inl _; rw [h 13 (by omega)])
    (fun i hi z => by rw [vcell_s hi, vcell_s hi, sfs_cong (V2 := V2) (by rw [h 10 (by omega)]) (by rw [h 11 (by omega)]) (by rw [h 12 (by omega)])]) (fun i hi z => by rw [vcell_w hi, vcell_w hi, h i (by omega)]))
  rw [show b + 3 + 2 * k = b + (3 + 2 * k) by omega]
  exact h1
theorem vput_r8 (h : ∀ r, r ≠ 8 → V2 r = V r) : xup (vput E σ b V) (b + 18) (.inl (xI E, 4, .inl (V2 8))) = vput E σ b V2 :=
  vput_up (E := E) (σ := σ) (b := b) (V := V) (V2 := V2) (o := 18) (e := .inl (xI E, 4, .inl (V2 8))) (by omega) rfl (vcases (P := fun o => o ≠ 18 → vcell E b V o = vcell E b V2 o) (fun _ => by show (Sum.inr _ : va_E) = Sum.inr _; rw [vfs_cong (V2 := V2) (h 9 (by omega))]) (fun _ => rfl)
    (fun z => absurd rfl z) (fun _ => by show (Sum.inl _ : va_E) = Sum.inl _; rw [h 13 (by omega)])
    (fun i hi z => by rw [vcell_s hi, vcell_s hi, sfs_cong (V2 := V2) (by rw [h 10 (by omega)]) (by rw [h 11 (by omega)]) (by rw [h 12 (by omega)])]) (fun i hi z => by rw [vcell_w hi, vcell_w hi, h i (by omega)]))
theorem vput_r13 (h : ∀ r, r ≠ 13 → V2 r = V r) : xup (vput E σ b V) (b + 19) (.inl (xI E, 14, .inl (V2 13))) = vput E σ b V2 :=
  vput_up (E := E) (σ := σ) (b := b) (V := V) (V2 := V2) (o := 19) (e := .inl (xI E, 14, .inl (V2 13))) (by omega) rfl (vcases (P := fun o => o ≠ 19 → vcell E b V o = vcell E b V2 o) (fun _ => by show (Sum.inr _ : va_E) = Sum.inr _; rw [vfs_cong (V2 := V2) (h 9 (by omega))]) (fun _ => rfl)
    (fun _ => by show (Sum.inl _ : va_E) = Sum.inl _; rw [h 8 (by omega)]) (fun z => absurd rfl z)
    (fun i hi z => by rw [vcell_s hi, vcell_s hi, sfs_cong (V2 := V2) (by rw [h 10 (by omega)]) (by rw [h 11 (by omega)]) (by rw [h 12 (by omega)])]) (fun i hi z => by rw [vcell_w hi, vcell_w hi, h i (by omega)]))
-- the writes, one by one
theorem vput_v0 (x : Int32) : xup (vput E σ b V) b (.inr (3, (vfs b V).set 3 (.int x))) = vput E σ b (up2 V 9 0 x) := by
  rw [← vput_r9 (V2 := up2 V 9 0 x) (fun r h => up2_r h)]; simp [vfs, up2]
theorem vput_v1 (x : Int32) : xup (vput E σ b V) b (.inr (3, (vfs b V).set 4 (.int x))) = vput E σ b (up2 V 9 1 x) := by
  rw [← vput_r9 (V2 := up2 V 9 1 x) (fun r h => up2_r h)]; simp [vfs, up2]
theorem vput_v2 (x : Int32) : xup (vput E σ b V) b (.inr (3, (vfs b V).set 5 (.int x))) = vput E σ b (up2 V 9 2 x) := by
  rw [← vput_r9 (V2 := up2 V 9 2 x) (fun r h => up2_r h)]; simp [vfs, up2]
theorem vput_v3 (x : Int32) : xup (vput E σ b V) b (.inr (3, (vfs b V).set 6 (.int x))) = vput E σ b (up2 V 9 3 x) := by
  rw [← vput_r9 (V2 := up2 V 9 3 x) (fun r h => up2_r h)]; simp [vfs, up2]
theorem vput_v4 (x : Int32) : xup (vput E σ b V) b (.inr (3, (vfs b V).set 7 (.int x))) = vput E σ b (up2 V 9 4 x) := by
  rw [← vput_r9 (V2 := up2 V 9 4 x) (fun r h => up2_r h)]; simp [vfs, up2]
theorem vput_p (hk : k < 8) (x : Int32) : xup (vput E σ b V) (b + 2 + 2 * k) (.inr (2, (sfs b V k).set 1 (.int (xfl x)))) = vput E σ b (up2 V 10 k x) := by
  rw [← vput_rs (V2 := up2 V 10 k x) hk (fun r h _ _ => up2_r h) (fun r j h => up2_n (fun z => h z.2))]; simp [sfs, up2]
theorem vput_p1 (hk : k < 8) : xup (vput E σ b V) (b + 2 + 2 * k) (.inr (2, (sfs b V k).set 1 (.int 1))) = vput E σ b (up2 V 10 k 1) := vput_p hk 1
theorem vput_p0 (hk : k < 8) : xup (vput E σ b V) (b + 2 + 2 * k) (.inr (2, (sfs b V k).set 1 (.int 0))) = vput E σ b (up2 V 10 k 0) := vput_p hk 0
theorem vput_a (hk : k < 8) (x : Int32) : xup (vput E σ b V) (b + 2 + 2 * k) (.inr (2, (sfs b V k).set 2 (.int x))) = vput E σ b (up2 V 11 k x) := by
  rw [← vput_rs (V2 := up2 V 11 k x) hk (fun r _ h _ => up2_r h) (fun r j h => up2_n (fun z => h z.2))]; simp [sfs, up2]
theorem vput_m (hk : k < 8) (x : Int32) : xup (vput E σ b V) (b + 2 + 2 * k) (.inr (2, (sfs b V k).set 3 (.int x))) = vput E σ b (up2 V 12 k x) := by
  rw [← vput_rs (V2 := up2 V 12 k x) hk (fun r _ _ h => up2_r h) (fun r j h => up2_n (fun z => h z.2))]; simp [sfs, up2]
theorem vput_wt (hk : k < 8) (j : Nat) (x : Int32) : xup (vput E σ b V) (b + 3 + 2 * k) (.inl (xI E, 84, .inl (upd (V k) j x))) = vput E σ b (up2 V k j x) := by
  rw [← vput_rw (V2 := up2 V k j x) hk (fun r h => up2_r h), up2_u]
theorem vput_st (j : Nat) (x : Int32) : xup (vput E σ b V) (b + 18) (.inl (xI E, 4, .inl (upd (V 8) j x))) = vput E σ b (up2 V 8 j x) := by
  rw [← vput_r8 (V2 := up2 V 8 j x) (fun r h => up2_r h), up2_u]
theorem vput_us (j : Nat) (x : Int32) : xup (vput E σ b V) (b + 19) (.inl (xI E, 14, .inl (upd (V 13) j x))) = vput E σ b (up2 V 13 j x) := by
  rw [← vput_r13 (V2 := up2 V 13 j x) (fun r h => up2_r h), up2_u]
theorem vput_vv {W : Vs} : vput E (vput E σ b V) b W = vput E σ b W := by
  funext a
  by_cases hb : b ≤ a ∧ a < b + 20
  · rw [vput_in hb.1 hb.2, vput_in hb.1 hb.2]
  · rw [vput_out (by omega), vput_out (by omega), vput_out (by omega)]
theorem vput_comm {c : Nat} {W : Vs} (h : b + 20 ≤ c ∨ c + 20 ≤ b) : vput E (vput E σ b V) c W = vput E (vput E σ c W) b V := by
  funext a
  by_cases hb : b ≤ a ∧ a < b + 20
  · rw [vput_in (b := b) hb.1 hb.2, vput_out (by omega), vput_in hb.1 hb.2]
  · rw [vput_out (b := b) (by omega)]
    by_cases hc : c ≤ a ∧ a < c + 20
    · rw [vput_in hc.1 hc.2, vput_in hc.1 hc.2]
    · rw [vput_out (by omega), vput_out (by omega), vput_out (by omega)]
end WV2
/-! the class's object -/
def bs (B i : Nat) : Nat := if i < 2 then B + 1 + 20 * i else B + 3 + 20 * i
abbrev Cs : Type := Nat → Vs
def upV (VV : Cs) (i : Nat) (W : Vs) : Cs := fun j => if j = i then W else VV j
theorem upV_s {VV : Cs} {i : Nat} {W : Vs} : upV VV i W i = W := by simp [upV]
theorem upV_n {VV : Cs} {i j : Nat} {W : Vs} (h : j ≠ i) : upV VV i W j = VV j := by simp [upV, h]
theorem upV_e {VV : Cs} {i : Nat} : upV VV i (VV i) = VV := by
  funext j
  by_cases h : j = i
  · subst h; exact upV_s
  · exact upV_n h
theorem upV_u {VV : Cs} {i : Nat} {W X : Vs} : upV (upV VV i W) i X = upV VV i X := by
  funext j
  by_cases h : j = i
  · subst h; rw [upV_s, upV_s]
  · rw [upV_n h, upV_n h, upV_n h]
def ccell (E : xEnv) (B : Nat) (VV : Cs) (nx sz len : Int32) (tx : Fn) (o : Nat) : va_E :=
  if o = 0 then .inr (4, [.ref (B + 1), .ref (B + 21), .ref (B + 41), .ref (B + 163)])
  else if o < 41 then vcell E (B + 1 + 20 * ((o - 1) / 20)) (VV ((o - 1) / 20)) ((o - 1) % 20)
  else if o = 41 then .inr (1, [.ref (B + 42), .int nx, .int sz])
  else if o = 42 then .inl (xVi E, 6, .inr (.inr (.inr (.inr (fun k => some (B + 43 + 20 * k))))))
  else if o < 163 then vcell E (B + 43 + 20 * ((o - 43) / 20)) (VV (2 + (o - 43) / 20)) ((o - 43) % 20)
  else if o = 163 then .inr (0, [.ref (B + 164), .int len])
  else .inl (xCh E, 80, .inl tx)
def cput (E : xEnv) (σ : Sg) (B : Nat) (VV : Cs) (nx sz len : Int32) (tx : Fn) : Sg := fun a => if B ≤ a ∧ a < B + 165 then some (ccell E B VV nx sz len tx (a - B)) else σ a
def tput (E : xEnv) (σ : Sg) (h : Nat) (len : Int32) (tx : Fn) : Sg := fun a => if a = h then some (.inr (0, [.ref (h + 1), .int len])) else if a = h + 1 then some (.inl (xCh E, 80, .inl tx)) else σ a
section WC
variable {E : xEnv} {σ : Sg} {B i : Nat} {VV : Cs} {nx sz len : Int32} {tx : Fn}
theorem cput_in {a : Nat} (h1 : B ≤ a) (h2 : a < B + 165) : cput E σ B VV nx sz len tx a = some (ccell E B VV nx sz len tx (a - B)) := if_pos ⟨h1, h2⟩
theorem cput_out {a : Nat} (h : a < B ∨ B + 165 ≤ a) : cput E σ B VV nx sz len tx a = σ a := if_neg (by omega)
theorem cput_0 : cput E σ B VV nx sz len tx B = some (.inr (4, [.ref (B + 1), .ref (B + 21), .ref (B + 41), .ref (B + 163)])) := by rw [cput_in (by omega) (by omega), Nat.sub_self]; rfl
theorem cput_41 : cput E σ B VV nx sz len tx (B + 41) = some (.inr (1, [.ref (B + 42), .int nx, .int sz])) := by rw [cput_in (by omega) (by omega), Nat.add_sub_cancel_left]; rfl
theorem cput_42 : cput E σ B VV nx sz len tx (B + 42) = some (.inl (xVi E, 6, .inr (.inr (.inr (.inr (fun k => some (B + 43 + 20 * k))))))) := by rw [cput_in (by omega) (by omega), Nat.add_sub_cancel_left]; rfl
theorem cput_163 : cput E σ B VV nx sz len tx (B + 163) = some (.inr (0, [.ref (B + 164), .int len])) := by rw [cput_in (by omega) (by omega), Nat.add_sub_cancel_left]; rfl
theorem cput_164 : cput E σ B VV nx sz len tx (B + 164) = some (.inl (xCh E, 80, .inl tx)) := by rw [cput_in (by omega) (by omega), Nat.add_sub_cancel_left]; rfl
theorem bs_in (hi : i < 8) : B ≤ bs B i ∧ bs B i + 20 ≤ B + 165 := by unfold bs; split <;> omega
theorem ccell_v (hi : i < 8) {o : Nat} (ho : o < 20) : ccell E B VV nx sz len tx (bs B i + o - B) = vcell E (bs B i) (VV i) o := by
  unfold ccell bs
  by_cases h : i < 2
  · rw [if_pos h]
    have e : B + 1 + 20 * i + o - B = 1 + 20 * i + o := by omega
    rw [e, if_neg (by omega), if_pos (by omega), show (1 + 20 * i + o - 1) / 20 = i by omega, show (1 + 20 * i + o - 1) % 20 = o by omega]
  · rw [if_neg h]
    have e : B + 3 + 20 * i + o - B = 3 + 20 * i + o := by omega
    rw [e, if_neg (by omega), if_neg (by omega), if_neg (by omega), if_neg (by omega), if_pos (by omega), show (3 + 20 * i + o - 43) / 20 = i - 2 by omega, show (3 + 20 * i + o - 43) % 20 = o by omega, show 2 + (i - 2) = i by omega, show B + 43 + 20 * (i - 2) = B + 3 + 20 * i by omega]
theorem cput_vc (hi : i < 8) {o : Nat} (ho : o < 20) : cput E σ B VV nx sz len tx (bs B i + o) = some (vcell E (bs B i) (VV i) o) := by
  have h := bs_in (B := B) hi
  rw [cput_in (by omega) (by omega), ccell_v hi ho]
theorem cput_v (hi : i < 8) : vput E (cput E σ B VV nx sz len tx) (bs B i) (VV i) = cput E σ B VV nx sz len tx := by
  funext a
  by_cases h : bs B i ≤ a ∧ a < bs B i + 20
  · obtain ⟨o, rfl⟩ : ∃ o, a = bs B i + o := ⟨a - bs B i, by omega⟩
    rw [vput_in h.1 h.2, cput_vc hi (by omega), Nat.add_sub_cancel_left]
  · rw [vput_out (by omega)]
theorem ccell_n {W : Vs} {o : Nat} (hi : i < 8) (ho : o < 165) (h : B + o < bs B i ∨ bs B i + 20 ≤ B + o) : ccell E B (upV VV i W) nx sz len tx o = ccell E B VV nx sz len tx o := by
  unfold bs at h
  unfold ccell
  by_cases h0 : o = 0
  · rw [if_pos h0, if_pos h0]
  rw [if_neg h0, if_neg h0]
  by_cases h1 : o < 41
  · rw [if_pos h1, if_pos h1, upV_n (show (o - 1) / 20 ≠ i by split at h <;> omega)]
  rw [if_neg h1, if_neg h1]
  by_cases h2 : o = 41
  · rw [if_pos h2, if_pos h2]
  rw [if_neg h2, if_neg h2]
  by_cases h3 : o = 42
  · rw [if_pos h3, if_pos h3]
  rw [if_neg h3, if_neg h3]
  by_cases h4 : o < 163
  · rw [if_pos h4, if_pos h4, upV_n (show 2 + (o - 43) / 20 ≠ i by split at h <;> omega)]
  rw [if_neg h4, if_neg h4]
theorem cput_w {W : Vs} (hi : i < 8) : vput E (cput E σ B VV nx sz len tx) (bs B i) W = cput E σ B (upV VV i W) nx sz len tx := by
  have hb := bs_in (B := B) hi
  funext a
  by_cases h : bs B i ≤ a ∧ a < bs B i + 20
  · obtain ⟨o, rfl⟩ : ∃ o, a = bs B i + o := ⟨a - bs B i, by omega⟩
    rw [vput_in h.1 h.2, cput_vc hi (by omega), Nat.add_sub_cancel_left, upV_s]
  · rw [vput_out (by omega)]
    by_cases h2 : B ≤ a ∧ a < B + 165
    · rw [cput_in h2.1 h2.2, cput_in h2.1 h2.2, ccell_n hi (by omega) (by omega)]
    · rw [cput_out (by omega), cput_out (by omega)]
theorem tput_0 {h : Nat} : tput E σ h len tx h = some (.inr (0, [.ref (h + 1), .int len])) := if_pos rfl
theorem tput_1 {h : Nat} : tput E σ h len tx (h + 1) = some (.inl (xCh E, 80, .inl tx)) := by
  unfold tput
  rw [if_neg (by omega), if_pos rfl]
theorem tput_out {h a : Nat} (h1 : a ≠ h) (h2 : a ≠ h + 1) : tput E σ h len tx a = σ a := by
  unfold tput
  rw [if_neg h1, if_neg h2]
theorem tput_l {h : Nat} (x : Int32) : xup (tput E σ h len tx) h (.inr (0, ([.ref (h + 1), .int len] : List Value).set 1 (.int x))) = tput E σ h x tx := by
  funext a
  by_cases h1 : a = h
  · subst h1; rw [xup_s, tput_0]; rfl
  · rw [xup_n h1]
    by_cases h2 : a = h + 1
    · subst h2; rw [tput_1, tput_1]
    · rw [tput_out h1 h2, tput_out h1 h2]
theorem tput_c {h : Nat} (g : Fn) : xup (tput E σ h len tx) (h + 1) (.inl (xCh E, 80, .inl g)) = tput E σ h len g := by
  funext a
  by_cases h2 : a = h + 1
  · subst h2; rw [xup_s, tput_1]
  · rw [xup_n h2]
    by_cases h1 : a = h
    · subst h1; rw [tput_0, tput_0]
    · rw [tput_out h1 h2, tput_out h1 h2]
theorem ccell_t {len2 : Int32} {tx2 : Fn} {o : Nat} (h : o < 163) : ccell E B VV nx sz len2 tx2 o = ccell E B VV nx sz len tx o := by
  unfold ccell
  by_cases h0 : o = 0
  · rw [if_pos h0, if_pos h0]
  rw [if_neg h0, if_neg h0]
  by_cases h1 : o < 41
  · rw [if_pos h1, if_pos h1]
  rw [if_neg h1, if_neg h1]
  by_cases h2 : o = 41
  · rw [if_pos h2, if_pos h2]
  rw [if_neg h2, if_neg h2]
  by_cases h3 : o = 42
  · rw [if_pos h3, if_pos h3]
  rw [if_neg h3, if_neg h3, if_pos h, if_pos h]
theorem cput_t {len2 : Int32} {tx2 : Fn} : tput E (cput E σ B VV nx sz len tx) (B + 163) len2 tx2 = cput E σ B VV nx sz len2 tx2 := by
  funext a
  by_cases h1 : a = B + 163
  · subst h1; rw [tput_0, cput_163]
  by_cases h2 : a = B + 163 + 1
  · subst h2; rw [tput_1]; exact cput_164.symm
  rw [tput_out h1 h2]
  by_cases h3 : B ≤ a ∧ a < B + 165
  · rw [cput_in h3.1 h3.2, cput_in h3.1 h3.2, ccell_t (by omega)]
  · rw [cput_out (by omega), cput_out (by omega)]
theorem ccell_s {nx2 sz2 : Int32} {o : Nat} (h : o ≠ 41) : ccell E B VV nx2 sz2 len tx o = ccell E B VV nx sz len tx o := by
  unfold ccell
  by_cases h0 : o = 0
  · rw [if_pos h0, if_pos h0]
  rw [if_neg h0, if_neg h0]
  by_cases h1 : o < 41
  · rw [if_pos h1, if_pos h1]
  rw [if_neg h1, if_neg h1, if_neg h, if_neg h]
theorem cput_s {nx2 sz2 : Int32} : xup (cput E σ B VV nx sz len tx) (B + 41) (.inr (1, [.ref (B + 42), .int nx2, .int sz2])) = cput E σ B VV nx2 sz2 len tx := by
  funext a
  by_cases h1 : a = B + 41
  · subst h1; rw [xup_s, cput_41]
  rw [xup_n h1]
  by_cases h3 : B ≤ a ∧ a < B + 165
  · rw [cput_in h3.1 h3.2, cput_in h3.1 h3.2, ccell_s (by omega)]
  · rw [cput_out (by omega), cput_out (by omega)]
theorem tput_v {h : Nat} {b : Nat} {V : Vs} (hd : b + 20 ≤ h ∨ h + 2 ≤ b) : tput E (vput E σ b V) h len tx = vput E (tput E σ h len tx) b V := by
  funext a
  by_cases h1 : b ≤ a ∧ a < b + 20
  · rw [tput_out (by omega) (by omega), vput_in h1.1 h1.2, vput_in h1.1 h1.2]
  · rw [vput_out (b := b) (by omega)]
    by_cases h2 : a = h
    · subst h2; rw [tput_0, tput_0]
    by_cases h3 : a = h + 1
    · subst h3; rw [tput_1, tput_1]
    rw [tput_out h2 h3, tput_out h2 h3, vput_out (by omega)]
end WC
/-! the model's object -/
def flat (U : Vs) : Fn := fun j => if j < 5 then U 9 j else if j < 9 then U 8 (j - 5) else if j < 33 then (if (j - 9) % 3 = 0 then xfl (U 10 ((j - 9) / 3)) else if (j - 9) % 3 = 1 then U 11 ((j - 9) / 3) else U 12 ((j - 9) / 3)) else U ((j - 33) / 84) ((j - 33) % 84)
def mfs (M : Nat) (sc : Fn) : List Value := [.ref (M + 1), .ref (M + 2), .ref (M + 3), .int (sc 0), .ref (M + 4), .int (sc 1), .int (sc 2), .int (sc 3), .int (sc 4), .int (sc 5), .int (sc 6), .int (sc 7), .int (sc 8)]
def mcell (E : xEnv) (M : Nat) (U : Vs) (kp hi tx sc : Fn) (o : Nat) : va_E :=
  if o = 0 then .inr (5, mfs M sc) else if o = 1 then .inl (xI E, 705, .inl (flat U)) else if o = 2 then .inl (xI E, 705, .inl kp) else if o = 3 then .inl (xI E, 4230, .inl hi) else .inl (xI E, 80, .inl tx)
def mput (E : xEnv) (σ : Sg) (M : Nat) (U : Vs) (kp hi tx sc : Fn) : Sg := fun a => if M ≤ a ∧ a < M + 5 then some (mcell E M U kp hi tx sc (a - M)) else σ a
section WM
variable {E : xEnv} {σ : Sg} {M : Nat} {U : Vs} {kp hi tx sc : Fn}
theorem mput_in {a : Nat} (h1 : M ≤ a) (h2 : a < M + 5) : mput E σ M U kp hi tx sc a = some (mcell E M U kp hi tx sc (a - M)) := if_pos ⟨h1, h2⟩
theorem mput_out {a : Nat} (h : a < M ∨ M + 5 ≤ a) : mput E σ M U kp hi tx sc a = σ a := if_neg (by omega)
theorem mput_0 : mput E σ M U kp hi tx sc M = some (.inr (5, mfs M sc)) := by rw [mput_in (by omega) (by omega), Nat.sub_self]; rfl
theorem mput_1 : mput E σ M U kp hi tx sc (M + 1) = some (.inl (xI E, 705, .inl (flat U))) := by rw [mput_in (by omega) (by omega), Nat.add_sub_cancel_left]; rfl
theorem mput_2 : mput E σ M U kp hi tx sc (M + 2) = some (.inl (xI E, 705, .inl kp)) := by rw [mput_in (by omega) (by omega), Nat.add_sub_cancel_left]; rfl
theorem mput_3 : mput E σ M U kp hi tx sc (M + 3) = some (.inl (xI E, 4230, .inl hi)) := by rw [mput_in (by omega) (by omega), Nat.add_sub_cancel_left]; rfl
theorem mput_4 : mput E σ M U kp hi tx sc (M + 4) = some (.inl (xI E, 80, .inl tx)) := by rw [mput_in (by omega) (by omega), Nat.add_sub_cancel_left]; rfl
theorem mput_up {U2 : Vs} {kp2 hi2 tx2 sc2 : Fn} {o : Nat} {e : va_E} (ho : o < 5) (he : e = mcell E M U2 kp2 hi2 tx2 sc2 o) (hr : ∀ o2, o2 < 5 → o2 ≠ o → mcell E M U kp hi tx sc o2 = mcell E M U2 kp2 hi2 tx2 sc2 o2) : xup (mput E σ M U kp hi tx sc) (M + o) e = mput E σ M U2 kp2 hi2 tx2 sc2 := by
  funext a
  by_cases ha : a = M + o
  · subst ha
    rw [xup_s, mput_in (by omega) (by omega), Nat.add_sub_cancel_left, he]
  · rw [xup_n ha]
    by_cases hb : M ≤ a ∧ a < M + 5
    · rw [mput_in hb.1 hb.2, mput_in hb.1 hb.2, hr (a - M) (by omega) (by omega)]
    · rw [mput_out (by omega), mput_out (by omega)]
theorem m5 {P : Nat → Prop} (h0 : P 0) (h1 : P 1) (h2 : P 2) (h3 : P 3) (h4 : P 4) : ∀ o, o < 5 → P o := fun o ho => by
  match o, ho with
  | 0, _ => exact h0
  | 1, _ => exact h1
  | 2, _ => exact h2
  | 3, _ => exact h3
  | 4, _ => exact h4
theorem mput_st (U2 : Vs) : xup (mput E σ M U kp hi tx sc) (M + 1) (.inl (xI E, 705, .inl (flat U2))) = mput E σ M U2 kp hi tx sc :=
  mput_up (by omega) rfl (m5 (fun _ => rfl) (fun z => absurd rfl z) (fun _ => rfl) (fun _ => rfl) (fun _ => rfl))
theorem mput_kp (g : Fn) : xup (mput E σ M U kp hi tx sc) (M + 2) (.inl (xI E, 705, .inl g)) = mput E σ M U g hi tx sc :=
  mput_up (by omega) rfl (m5 (fun _ => rfl) (fun _ => rfl) (fun z => absurd rfl z) (fun _ => rfl) (fun _ => rfl))
theorem mput_hi (g : Fn) : xup (mput E σ M U kp hi tx sc) (M + 3) (.inl (xI E, 4230, .inl g)) = mput E σ M U kp g tx sc :=
  mput_up (by omega) rfl (m5 (fun _ => rfl) (fun _ => rfl) (fun _ => rfl) (fun z => absurd rfl z) (fun _ => rfl))
theorem mput_tx (g : Fn) : xup (mput E σ M U kp hi tx sc) (M + 4) (.inl (xI E, 80, .inl g)) = mput E σ M U kp hi g sc :=
  mput_up (by omega) rfl (m5 (fun _ => rfl) (fun _ => rfl) (fun _ => rfl) (fun _ => rfl) (fun z => absurd rfl z))
theorem mput_sc (sc2 : Fn) {e : va_E} (he : e = .inr (5, mfs M sc2)) : xup (mput E σ M U kp hi tx sc) M e = mput E σ M U kp hi tx sc2 := by
  subst he
  exact mput_up (o := 0) (by omega) rfl (m5 (fun z => absurd rfl z) (fun _ => rfl) (fun _ => rfl) (fun _ => rfl) (fun _ => rfl))
theorem mfs_0 (x : Int32) : (mfs M sc).set 3 (.int x) = mfs M (upd sc 0 x) := by simp [mfs, upd]
theorem mfs_1 (x : Int32) : (mfs M sc).set 5 (.int x) = mfs M (upd sc 1 x) := by simp [mfs, upd]
theorem mfs_2 (x : Int32) : (mfs M sc).set 6 (.int x) = mfs M (upd sc 2 x) := by simp [mfs, upd]
theorem mfs_3 (x : Int32) : (mfs M sc).set 7 (.int x) = mfs M (upd sc 3 x) := by simp [mfs, upd]
theorem mfs_4 (x : Int32) : (mfs M sc).set 8 (.int x) = mfs M (upd sc 4 x) := by simp [mfs, upd]
theorem mfs_5 (x : Int32) : (mfs M sc).set 9 (.int x) = mfs M (upd sc 5 x) := by simp [mfs, upd]
theorem mfs_6 (x : Int32) : (mfs M sc).set 10 (.int x) = mfs M (upd sc 6 x) := by simp [mfs, upd]
theorem mfs_7 (x : Int32) : (mfs M sc).set 11 (.int x) = mfs M (upd sc 7 x) := by simp [mfs, upd]
theorem mfs_8 (x : Int32) : (mfs M sc).set 12 (.int x) = mfs M (upd sc 8 x) := by simp [mfs, upd]
theorem mput_s0 (x : Int32) : xup (mput E σ M U kp hi tx sc) M (.inr (5, (mfs M sc).set 3 (.int x))) = mput E σ M U kp hi tx (upd sc 0 x) := mput_sc _ (by rw [mfs_0])
theorem mput_s1 (x : Int32) : xup (mput E σ M U kp hi tx sc) M (.inr (5, (mfs M sc).set 5 (.int x))) = mput E σ M U kp hi tx (upd sc 1 x) := mput_sc _ (by rw [mfs_1])
theorem mput_s2 (x : Int32) : xup (mput E σ M U kp hi tx sc) M (.inr (5, (mfs M sc).set 6 (.int x))) = mput E σ M U kp hi tx (upd sc 2 x) := mput_sc _ (by rw [mfs_2])
theorem mput_s3 (x : Int32) : xup (mput E σ M U kp hi tx sc) M (.inr (5, (mfs M sc).set 7 (.int x))) = mput E σ M U kp hi tx (upd sc 3 x) := mput_sc _ (by rw [mfs_3])
theorem mput_s4 (x : Int32) : xup (mput E σ M U kp hi tx sc) M (.inr (5, (mfs M sc).set 8 (.int x))) = mput E σ M U kp hi tx (upd sc 4 x) := mput_sc _ (by rw [mfs_4])
theorem mput_s5 (x : Int32) : xup (mput E σ M U kp hi tx sc) M (.inr (5, (mfs M sc).set 9 (.int x))) = mput E σ M U kp hi tx (upd sc 5 x) := mput_sc _ (by rw [mfs_5])
theorem mput_s6 (x : Int32) : xup (mput E σ M U kp hi tx sc) M (.inr (5, (mfs M sc).set 10 (.int x))) = mput E σ M U kp hi tx (upd sc 6 x) := mput_sc _ (by rw [mfs_6])
theorem mput_s7 (x : Int32) : xup (mput E σ M U kp hi tx sc) M (.inr (5, (mfs M sc).set 11 (.int x))) = mput E σ M U kp hi tx (upd sc 7 x) := mput_sc _ (by rw [mfs_7])
theorem mput_s8 (x : Int32) : xup (mput E σ M U kp hi tx sc) M (.inr (5, (mfs M sc).set 12 (.int x))) = mput E σ M U kp hi tx (upd sc 8 x) := mput_sc _ (by rw [mfs_8])
theorem mput_mm {U2 : Vs} {kp2 hi2 tx2 sc2 : Fn} : mput E (mput E σ M U kp hi tx sc) M U2 kp2 hi2 tx2 sc2 = mput E σ M U2 kp2 hi2 tx2 sc2 := by
  funext a
  by_cases hb : M ≤ a ∧ a < M + 5
  · rw [mput_in hb.1 hb.2, mput_in hb.1 hb.2]
  · rw [mput_out (by omega), mput_out (by omega), mput_out (by omega)]
theorem mput_c {B : Nat} {VV : Cs} {nx sz len : Int32} {tc : Fn} (h : B + 165 ≤ M) : mput E (cput E σ B VV nx sz len tc) M U kp hi tx sc = cput E (mput E σ M U kp hi tx sc) B VV nx sz len tc := by
  funext a
  by_cases hb : M ≤ a ∧ a < M + 5
  · rw [mput_in hb.1 hb.2, cput_out (by omega), mput_in hb.1 hb.2]
  · rw [mput_out (by omega)]
    by_cases hc : B ≤ a ∧ a < B + 165
    · rw [cput_in hc.1 hc.2, cput_in hc.1 hc.2]
    · rw [cput_out (by omega), cput_out (by omega), mput_out (by omega)]
end WM
-- reads and writes of the model's row of numbers
section FL
variable {U : Vs}
theorem fl_9 {j : Nat} (h : j < 5) : flat U j = U 9 j := if_pos h
theorem fl_8 {j : Nat} (h : j < 4) : flat U (5 + j) = U 8 j := by
  unfold flat
  rw [if_neg (by omega), if_pos (by omega), Nat.add_sub_cancel_left]
theorem fl_10 {s : Nat} (h : s < 8) : flat U (9 + 3 * s) = xfl (U 10 s) := by
  unfold flat
  rw [if_neg (by omega), if_neg (by omega), if_pos (by omega), if_pos (by omega), show (9 + 3 * s - 9) / 3 = s by omega]
theorem fl_11 {s : Nat} (h : s < 8) : flat U (9 + 3 * s + 1) = U 11 s := by
  unfold flat
  rw [if_neg (by omega), if_neg (by omega), if_pos (by omega), if_neg (by omega), if_pos (by omega), show (9 + 3 * s + 1 - 9) / 3 = s by omega]
theorem fl_12 {s : Nat} (h : s < 8) : flat U (9 + 3 * s + 2) = U 12 s := by
  unfold flat
  rw [if_neg (by omega), if_neg (by omega), if_pos (by omega), if_neg (by omega), if_neg (by omega), show (9 + 3 * s + 2 - 9) / 3 = s by omega]
theorem fl_w {s j : Nat} (hj : j < 84) : flat U (33 + 84 * s + j) = U s j := by
  unfold flat
  rw [if_neg (by omega), if_neg (by omega), if_neg (by omega), show (33 + 84 * s + j - 33) / 84 = s by omega, show (33 + 84 * s + j - 33) % 84 = j by omega]
/-- every place of the row -/
theorem flcases {P : Nat → Prop} (h9 : ∀ j, j < 5 → P j) (h8 : ∀ j, j < 4 → P (5 + j)) (h10 : ∀ s, s < 8 → P (9 + 3 * s)) (h11 : ∀ s, s < 8 → P (9 + 3 * s + 1)) (h12 : ∀ s, s < 8 → P (9 + 3 * s + 2)) (hw : ∀ s, s < 8 → ∀ j, j < 84 → P (33 + 84 * s + j)) : ∀ i, i < 705 → P i := by
  intro i hi
  by_cases e0 : i < 5
  · exact h9 i e0
  by_cases e1 : i < 9
  · have h := h8 (i - 5) (by omega)
    rw [show 5 + (i - 5) = i by omega] at h
    exact h
  by_cases e2 : i < 33
  · by_cases e3 : (i - 9) % 3 = 0
    · have h := h10 ((i - 9) / 3) (by omega)
      rw [show 9 + 3 * ((i - 9) / 3) = i by omega] at h
      exact h
    · by_cases e4 : (i - 9) % 3 = 1
      · have h := h11 ((i - 9) / 3) (by omega)
        rw [show 9 + 3 * ((i - 9) / 3) + 1 = i by omega] at h
        exact h
      · have h := h12 ((i - 9) / 3) (by omega)
        rw [show 9 + 3 * ((i - 9) / 3) + 2 = i by omega] at h
        exact h
  · have h := hw ((i - 33) / 84) (by omega) ((i - 33) % 84) (by omega)
    rw [show 33 + 84 * ((i - 33) / 84) + (i - 33) % 84 = i by omega] at h
    exact h
theorem flu_9 {q : Nat} (hq : q < 5) (x : Int32) : ∀ j, j < 705 → upd (flat U) q x j = flat (up2 U 9 q x) j := by
  refine flcases (fun j h => ?_) (fun j h => ?_) (fun s h => ?_) (fun s h => ?_) (fun s h => ?_) (fun s h j hj => ?_)
  · rw [fl_9 h]; by_cases e : j = q <;> simp [upd, up2, e, fl_9 h]
  · rw [fl_8 h, up2_r (by omega)]; simp [upd, show 5 + j ≠ q by omega, fl_8 h]
  · rw [fl_10 h, up2_r (by omega)]; simp [upd, show 9 + 3 * s ≠ q by omega, fl_10 h]
  · rw [fl_11 h, up2_r (by omega)]; simp [upd, show 9 + 3 * s + 1 ≠ q by omega, fl_11 h]
  · rw [fl_12 h, up2_r (by omega)]; simp [upd, show 9 + 3 * s + 2 ≠ q by omega, fl_12 h]
  · rw [fl_w hj, up2_r (by omega)]; simp [upd, show 33 + 84 * s + j ≠ q by omega, fl_w hj]
theorem flu_8 {q : Nat} (hq : q < 4) (x : Int32) : ∀ j, j < 705 → upd (flat U) (5 + q) x j = flat (up2 U 8 q x) j := by
  refine flcases (fun j h => ?_) (fun j h => ?_) (fun s h => ?_) (fun s h => ?_) (fun s h => ?_) (fun s h j hj => ?_)
  · rw [fl_9 h, up2_r (by omega)]; simp [upd, show j ≠ 5 + q by omega, fl_9 h]
  · rw [fl_8 h]; by_cases e : j = q <;> simp [upd, up2, e, fl_8 h, fl_8 hq]
  · rw [fl_10 h, up2_r (by omega)]; simp [upd, show 9 + 3 * s ≠ 5 + q by omega, fl_10 h]
  · rw [fl_11 h, up2_r (by omega)]; simp [upd, show 9 + 3 * s + 1 ≠ 5 + q by omega, fl_11 h]
  · rw [fl_12 h, up2_r (by omega)]; simp [upd, show 9 + 3 * s + 2 ≠ 5 + q by omega, fl_12 h]
  · rw [fl_w hj, up2_r (by omega)]; simp [upd, show 33 + 84 * s + j ≠ 5 + q by omega, fl_w hj]
theorem flu_10 {q : Nat} (hq : q < 8) (x y : Int32) (hx : x = xfl y) : ∀ j, j < 705 → upd (flat U) (9 + 3 * q) x j = flat (up2 U 10 q y) j := by
  refine flcases (fun j h => ?_) (fun j h => ?_) (fun s h => ?_) (fun s h => ?_) (fun s h => ?_) (fun s h j hj => ?_)
  · rw [fl_9 h, up2_r (by omega)]; simp [upd, show j ≠ 9 + 3 * q by omega, fl_9 h]
  · rw [fl_8 h, up2_r (by omega)]; simp [upd, show 5 + j ≠ 9 + 3 * q by omega, fl_8 h]
  · rw [fl_10 h]
    by_cases e : s = q
    · subst e; simp [upd, up2, hx]
    · rw [up2_n (fun z => e z.2), pk_un (by omega), fl_10 h]
  · rw [fl_11 h, up2_r (by omega)]; simp [upd, show 9 + 3 * s + 1 ≠ 9 + 3 * q by omega, fl_11 h]
  · rw [fl_12 h, up2_r (by omega)]; simp [upd, show 9 + 3 * s + 2 ≠ 9 + 3 * q by omega, fl_12 h]
  · rw [fl_w hj, up2_r (by omega)]; simp [upd, show 33 + 84 * s + j ≠ 9 + 3 * q by omega, fl_w hj]
theorem flu_11 {q : Nat} (hq : q < 8) (x : Int32) : ∀ j, j < 705 → upd (flat U) (9 + 3 * q + 1) x j = flat (up2 U 11 q x) j := by
  refine flcases (fun j h => ?_) (fun j h => ?_) (fun s h => ?_) (fun s h => ?_) (fun s h => ?_) (fun s h j hj => ?_)
  · rw [fl_9 h, up2_r (by omega)]; simp [upd, show j ≠ 9 + 3 * q + 1 by omega, fl_9 h]
  · rw [fl_8 h, up2_r (by omega)]; simp [upd, show 5 + j ≠ 9 + 3 * q + 1 by omega, fl_8 h]
  · rw [fl_10 h, up2_r (by omega)]; simp [upd, show 9 + 3 * s ≠ 9 + 3 * q + 1 by omega, fl_10 h]
  · rw [fl_11 h]
    by_cases e : s = q
    · subst e; simp [upd, up2]
    · rw [up2_n (fun z => e z.2), pk_un (by omega), fl_11 h]
  · rw [fl_12 h, up2_r (by omega)]; simp [upd, show 9 + 3 * s + 2 ≠ 9 + 3 * q + 1 by omega, fl_12 h]
  · rw [fl_w hj, up2_r (by omega)]; simp [upd, show 33 + 84 * s + j ≠ 9 + 3 * q + 1 by omega, fl_w hj]
theorem flu_12 {q : Nat} (hq : q < 8) (x : Int32) : ∀ j, j < 705 → upd (flat U) (9 + 3 * q + 2) x j = flat (up2 U 12 q x) j := by
  refine flcases (fun j h => ?_) (fun j h => ?_) (fun s h => ?_) (fun s h => ?_) (fun s h => ?_) (fun s h j hj => ?_)
  · rw [fl_9 h, up2_r (by omega)]; simp [upd, show j ≠ 9 + 3 * q + 2 by omega, fl_9 h]
  · rw [fl_8 h, up2_r (by omega)]; simp [upd, show 5 + j ≠ 9 + 3 * q + 2 by omega, fl_8 h]
  · rw [fl_10 h, up2_r (by omega)]; simp [upd, show 9 + 3 * s ≠ 9 + 3 * q + 2 by omega, fl_10 h]
  · rw [fl_11 h, up2_r (by omega), pk_un (by omega), fl_11 h]
  · rw [fl_12 h]
    by_cases e : s = q
    · subst e; simp [upd, up2]
    · rw [up2_n (fun z => e z.2), pk_un (by omega), fl_12 h]
  · rw [fl_w hj, up2_r (by omega)]; simp [upd, show 33 + 84 * s + j ≠ 9 + 3 * q + 2 by omega, fl_w hj]
theorem flu_w {k q : Nat} (hk : k < 8) (hq : q < 84) (x : Int32) : ∀ j, j < 705 → upd (flat U) (33 + 84 * k + q) x j = flat (up2 U k q x) j := by
  refine flcases (fun j h => ?_) (fun j h => ?_) (fun s h => ?_) (fun s h => ?_) (fun s h => ?_) (fun s h j hj => ?_)
  · rw [fl_9 h, up2_r (by omega)]; simp [upd, show j ≠ 33 + 84 * k + q by omega, fl_9 h]
  · rw [fl_8 h, up2_r (by omega)]; simp [upd, show 5 + j ≠ 33 + 84 * k + q by omega, fl_8 h]
  · rw [fl_10 h, up2_r (by omega)]; simp [upd, show 9 + 3 * s ≠ 33 + 84 * k + q by omega, fl_10 h]
  · rw [fl_11 h, up2_r (by omega)]; simp [upd, show 9 + 3 * s + 1 ≠ 33 + 84 * k + q by omega, fl_11 h]
  · rw [fl_12 h, up2_r (by omega)]; simp [upd, show 9 + 3 * s + 2 ≠ 33 + 84 * k + q by omega, fl_12 h]
  · rw [fl_w hj]
    by_cases e : s = k ∧ j = q
    · obtain ⟨rfl, rfl⟩ := e; simp [upd, up2]
    · rw [up2_n e]; simp [upd, show 33 + 84 * s + j ≠ 33 + 84 * k + q by omega, fl_w hj]
end FL
end
section
/-! handier rows, loops -/
theorem nI_inc (n : Nat) : nI n + Int32.ofInt 1 = nI (n + 1) := (nI_succ n).symm
theorem inc1 (x : Int32) : x + Int32.ofInt 1 = x + 1 := rfl
theorem x_for {P : Nat → Prop} (n : Nat) (h0 : P n) (hs : ∀ i, i < n → P (i + 1) → P i) : ∀ i, i ≤ n → P i := by
  intro i hi
  obtain ⟨d, rfl⟩ : ∃ d, n = i + d := ⟨n - i, by omega⟩
  clear hi
  induction d generalizing i with
  | zero => exact h0
  | succ d ih => exact hs i (by omega) (ih (i + 1) (by rw [show i + 1 + d = i + (d + 1) by omega]; exact h0) (fun j hj => hs j (by omega)))
section XH
variable {k : xT} {l : Launch} {E : xEnv} {B : Nat} {cc : ByteArray} {nL : Nat} {ret : Option FieldType} {own mn : String} {fr lo ce sl N a b : Nat} {σ : Sg} {pc : Nat} {lv : List (Option Value)} {st : List Value}
theorem x_iald2 (C : xC k l E B cc nL ret own mn fr lo ce sl) {a0 n q : Nat} {f : Nat → Int32} {i : Int32} (he : σ a0 = some (.inl (xI E, n, .inl f))) (hi : i = nI q) (hq : q < n) (hn : n < 2 ^ 31) (d : decode cc pc = .ok (.iaload, 1))
    (kk : xX k N a b σ (pc + 1) lv (.int (f q) :: st)) : xX k N a b σ pc lv (.int i :: .ref a0 :: st) := by
  subst hi
  refine x_iald C he (vp_in_nI hq hn) d ?_
  rw [nI_clamp (by omega)]
  exact kk
theorem x_cald2 (C : xC k l E B cc nL ret own mn fr lo ce sl) {a0 n q : Nat} {f : Nat → Int32} {i : Int32} (he : σ a0 = some (.inl (xCh E, n, .inl f))) (hi : i = nI q) (hq : q < n) (hn : n < 2 ^ 31) (d : decode cc pc = .ok (.caload, 1))
    (kk : xX k N a b σ (pc + 1) lv (.int (f q) :: st)) : xX k N a b σ pc lv (.int i :: .ref a0 :: st) := by
  subst hi
  refine x_cald C he (vp_in_nI hq hn) d ?_
  rw [nI_clamp (by omega)]
  exact kk
theorem x_aald2 (C : xC k l E B cc nL ret own mn fr lo ce sl) {a0 n q t0 : Nat} {cA : ClassId} {Cn : String} {f : Nat → Option Nat} {i : Int32} (he : σ a0 = some (.inl (cA, n, .inr (.inr (.inr (.inr f)))))) (ht : (xtys E)[t0]? = some (cA, .object Cn)) (hi : i = nI q) (hq : q < n) (hn : n < 2 ^ 31) (d : decode cc pc = .ok (.aaload, 1))
    (kk : xX k N a b σ (pc + 1) lv (va_rf (f q) :: st)) : xX k N a b σ pc lv (.int i :: .ref a0 :: st) := by
  subst hi
  refine x_aald C he ht (vp_in_nI hq hn) rfl d ?_
  rw [nI_clamp (by omega)]
  exact kk
theorem x_iast2 (C : xC k l E B cc nL ret own mn fr lo ce sl) {a0 n q : Nat} {f g : Nat → Int32} {i x : Int32} {σ2 : Sg} (he : σ a0 = some (.inl (xI E, n, .inl f))) (hi : i = nI q) (hq : q < n) (hn : n < 2 ^ 31) (hg : ∀ j, j < n → upd f q x j = g j) (hs : xup σ a0 (.inl (xI E, n, .inl g)) = σ2) (d : decode cc pc = .ok (.iastore, 1))
    (kk : xX k N a b σ2 (pc + 1) lv st) : xX k N a b σ pc lv (.int x :: .int i :: .ref a0 :: st) := by
  subst hi
  exact x_iast C he (vp_in_nI hq hn) (by rw [nI_clamp (by omega)]; exact hg) hs d kk
theorem x_cast2 (C : xC k l E B cc nL ret own mn fr lo ce sl) {a0 n q : Nat} {f g : Nat → Int32} {i x : Int32} {σ2 : Sg} (he : σ a0 = some (.inl (xCh E, n, .inl f))) (hi : i = nI q) (hq : q < n) (hn : n < 2 ^ 31) (hg : ∀ j, j < n → upd f q (vp_nar .char x) j = g j) (hs : xup σ a0 (.inl (xCh E, n, .inl g)) = σ2) (d : decode cc pc = .ok (.castore, 1))
    (kk : xX k N a b σ2 (pc + 1) lv st) : xX k N a b σ pc lv (.int x :: .int i :: .ref a0 :: st) := by
  subst hi
  exact x_cast C he (vp_in_nI hq hn) (by rw [nI_clamp (by omega)]; exact hg) hs d kk
/-- a truth value under 'ifeq', 'ifne' -/
theorem x_beq (C : xC k l E B cc nL ret own mn fr lo ce sl) {p : Prop} [Decidable p] {off : Int} (tgt : Nat) (d : decode cc pc = .ok (.ifCond .eq off, 3)) (ht : (pc : Int) + off = (tgt : Int))
    (kt : ¬ p → xX k N a b σ tgt lv st) (kf : p → xX k N a b σ (pc + 3) lv st) : xX k N a b σ pc lv (.int (xb p) :: st) := by
  refine x_if_eq C tgt d ht (fun h => kt ?_) (fun h => kf ?_)
  · intro hp; rw [xb, if_pos hp] at h; exact absurd h (by decide)
  · by_cases hp : p
    · exact hp
    · rw [xb, if_neg hp] at h; exact absurd rfl h
theorem x_bne (C : xC k l E B cc nL ret own mn fr lo ce sl) {p : Prop} [Decidable p] {off : Int} (tgt : Nat) (d : decode cc pc = .ok (.ifCond .ne off, 3)) (ht : (pc : Int) + off = (tgt : Int))
    (kt : p → xX k N a b σ tgt lv st) (kf : ¬ p → xX k N a b σ (pc + 3) lv st) : xX k N a b σ pc lv (.int (xb p) :: st) := by
  refine x_if_ne C tgt d ht (fun h => kt ?_) (fun h => kf ?_)
  · by_cases hp : p
    · exact hp
    · rw [xb, if_neg hp] at h; exact absurd rfl h
  · intro hp; rw [xb, if_pos hp] at h; exact absurd h (by decide)
/-- the flag of a speaker who is there -/
theorem x_feq (C : xC k l E B cc nL ret own mn fr lo ce sl) {c : Int32} {off : Int} (tgt : Nat) (d : decode cc pc = .ok (.ifCond .eq off, 3)) (ht : (pc : Int) + off = (tgt : Int))
    (kt : ¬ c = 1 → xX k N a b σ tgt lv st) (kf : c = 1 → xX k N a b σ (pc + 3) lv st) : xX k N a b σ pc lv (.int (xfl c) :: st) := x_beq C tgt d ht kt kf
theorem x_fne (C : xC k l E B cc nL ret own mn fr lo ce sl) {c : Int32} {off : Int} (tgt : Nat) (d : decode cc pc = .ok (.ifCond .ne off, 3)) (ht : (pc : Int) + off = (tgt : Int))
    (kt : c = 1 → xX k N a b σ tgt lv st) (kf : ¬ c = 1 → xX k N a b σ (pc + 3) lv st) : xX k N a b σ pc lv (.int (xfl c) :: st) := x_bne C tgt d ht kt kf
end XH
theorem ix14 (a b : Nat) : nI a * 14 + nI b = nI (14 * a + b) := by
  rw [show (14 : Int32) = nI 14 from rfl, pk_mul, nI_add, Nat.mul_comm]
theorem b_t {p : Prop} [Decidable p] (h : p) : xb p = 1 := if_pos h
theorem b_f {p : Prop} [Decidable p] (h : ¬ p) : xb p = 0 := if_neg h
theorem b_n (p : Prop) [Decidable p] : narrow .boolean (.int (xb p)) = .int (xb p) := by unfold xb; split <;> rfl
theorem bd_in {i c : Nat} (h : i < c) (hc : c < 2 ^ 31) : (0 : Int32) ≤ nI i ∧ nI i < nI c := ⟨nI_pos' (by omega), nI_lt h hc⟩
theorem bd_of {x : Int32} {c : Nat} (hc : c < 2 ^ 31) (h : 0 ≤ x ∧ x < nI c) : ∃ i, i < c ∧ x = nI i := by
  rcases pk_ix x hc with h1 | h1 | h1
  · exact absurd h.1 (by simpa using h1)
  · exact absurd h.2 (by simpa using h1)
  · exact h1
/-- a local that is no longer asked -/
def xdrop : List (Option Value) → Nat → List (Option Value)
  | [], _ => []
  | _ :: l, 0 => none :: l
  | o :: l, n + 1 => o :: xdrop l n
theorem xget_drop : ∀ (lv : List (Option Value)) (i j : Nat) (x : Value), xget (xdrop lv i) j = some x → xget lv j = some x
  | [], _, _, _, h => by simp [xdrop, xget] at h
  | o :: l, 0, 0, x, h => by simp [xdrop, xget] at h
  | o :: l, 0, j + 1, x, h => h
  | o :: l, i + 1, 0, x, h => h
  | o :: l, i + 1, j + 1, x, h => xget_drop l i j x h
/-- fewer locals are known -/
def xle : List (Option Value) → List (Option Value) → Prop
  | [], _ => True
  | none :: l, l2 => xle l (l2.drop 1)
  | some v :: l, l2 => l2.head? = some (some v) ∧ xle l (l2.drop 1)
theorem xle_get : ∀ (l1 l2 : List (Option Value)) (j : Nat) (x : Value), xle l1 l2 → xget l1 j = some x → xget l2 j = some x
  | [], _, _, _, _, h => by simp [xget] at h
  | none :: l, l2, 0, x, _, h => by simp [xget] at h
  | none :: l, [], j + 1, x, hl, h => xle_get l [] j x hl h
  | none :: l, o :: l2, j + 1, x, hl, h => xle_get l l2 j x hl h
  | some v :: l, [], 0, x, hl, h => by simp [xle] at hl
  | some v :: l, o :: l2, 0, x, hl, h => by
    simp only [xle, List.head?_cons, Option.some.injEq] at hl
    simp only [xget] at h ⊢
    rw [hl.1]; exact h
  | some v :: l, [], j + 1, x, hl, h => by simp [xle] at hl
  | some v :: l, o :: l2, j + 1, x, hl, h => xle_get l l2 j x hl.2 h
theorem xX.less {k : xT} {N a b : Nat} {σ : Sg} {pc : Nat} {lv lv2 : List (Option Value)} {st : List Value} (h : xle lv2 lv) (kk : xX k N a b σ pc lv2 st) : xX k N a b σ pc lv st := by
  obtain ⟨p, l0, e, R, s, m, args, below, meth, c, Q, E0, B0, nL0⟩ := k
  intro H locs ls hh hS hl
  refine kk H locs ls hh hS ⟨hl.1, hl.2.1, fun q hq => ?_⟩
  obtain ⟨-, h2⟩ := xmem_get _ 0 q hq
  rw [Nat.sub_zero] at h2
  have h3 := xget_mem lv 0 q.1 q.2 (xle_get lv2 lv q.1 q.2 h h2)
  rw [Nat.zero_add] at h3
  exact hl.2.2 _ h3
theorem xX.cl {k : xT} {N a b : Nat} {σ σ2 : Sg} {pc : Nat} {lv lv2 : List (Option Value)} {st st2 : List Value} (kk : xX k N a b σ2 pc lv2 st2) (h : σ = σ2) (h2 : xle lv2 lv) (h3 : st = st2) : xX k N a b σ pc lv st := by
  subst h; subst h3
  exact kk.less h2
end
section
/-! WHAT THE CELLS' NUMBERS BECOME: the mathematics that both sides, class and model, are tied to -/
def oI (o : Option Nat) : Int32 := match o with
  | none => -6
  | some i => nI i
theorem nI_ne6 {i : Nat} (h : i < 2 ^ 31) : ¬ nI i = -6 := by
  intro e
  have h1 := nI_toInt h
  rw [e] at h1
  have h2 : ((-6 : Int32)).toInt = -6 := by decide
  omega
theorem oI_6 {o : Option Nat} (h : ∀ i, o = some i → i < 2 ^ 31) : oI o = -6 ↔ o = none := by
  cases o with
  | none => simp [oI]
  | some i => simp [oI, nI_ne6 (h i rfl)]
theorem oI_inj {o u : Option Nat} (h : ∀ i, o = some i → i < 2 ^ 31) (hu : ∀ i, u = some i → i < 2 ^ 31) : oI o = oI u ↔ o = u := by
  cases o with
  | none =>
    cases u with
    | none => simp
    | some j => simpa [oI, eq_comm] using nI_ne6 (hu j rfl)
  | some i =>
    cases u with
    | none => simpa [oI] using nI_ne6 (h i rfl)
    | some j => simpa [oI] using nI_eq (h i rfl) (hu j rfl)
/-- a weight is kept from 0 to 99 -/
def clS (x : Int32) : Int32 := if 0 < (if x < 99 then x else 99) then (if x < 99 then x else 99) else 0
/-- the first greatest one above 0, among n; and how great -/
def wfL (g : Fn) : Nat → Option Nat × Int32
  | 0 => (none, 0)
  | n + 1 => if g n ≤ (wfL g n).2 then wfL g n else (some n, g n)
theorem wfL_in (g : Fn) : ∀ (n i : Nat), (wfL g n).1 = some i → i < n
  | 0, i, h => by simp [wfL] at h
  | n + 1, i, h => by
    unfold wfL at h
    split at h
    · have := wfL_in g n i h; omega
    · simp at h; omega
theorem wfL_cg {f g : Fn} : ∀ {n : Nat}, (∀ j, j < n → f j = g j) → wfL f n = wfL g n
  | 0, _ => rfl
  | n + 1, h => by
    unfold wfL
    rw [wfL_cg (fun j hj => h j (by omega)), h n (by omega)]
def wfS (r : Fn) (m : Nat) : Option Nat := (wfL (fun w => r (14 * m + w)) 14).1
def haS (r : Fn) (w : Nat) : Option Nat := (wfL (fun m => r (14 * m + w)) 6).1
theorem wfS_in {r : Fn} {m i : Nat} (h : wfS r m = some i) : i < 14 := wfL_in _ _ _ h
theorem haS_in {r : Fn} {w i : Nat} (h : haS r w = some i) : i < 6 := wfL_in _ _ _ h
theorem wfS_6 {r : Fn} {m : Nat} : oI (wfS r m) = -6 ↔ wfS r m = none := oI_6 (fun _ h => by have := wfS_in h; omega)
theorem haS_6 {r : Fn} {w : Nat} : oI (haS r w) = -6 ↔ haS r w = none := oI_6 (fun _ h => by have := haS_in h; omega)
theorem wfS_ij {r s : Fn} {m o : Nat} : oI (wfS r m) = oI (wfS s o) ↔ wfS r m = wfS s o := oI_inj (fun _ h => by have := wfS_in h; omega) (fun _ h => by have := wfS_in h; omega)
theorem wfS_is {r : Fn} {m w : Nat} (hw : w < 2 ^ 31) : oI (wfS r m) = nI w ↔ wfS r m = some w := oI_inj (u := some w) (fun _ h => by have := wfS_in h; omega) (fun i h => by cases h; exact hw)
theorem haS_is {r : Fn} {m w : Nat} (hw : w < 2 ^ 31) : oI (haS r m) = nI w ↔ haS r m = some w := oI_inj (u := some w) (fun _ h => by have := haS_in h; omega) (fun i h => by cases h; exact hw)
/-- what a speaker learns -/
def lnS (age gain : Int32) : Int32 := if 1 < gain - age / 20 then gain - age / 20 else 1
/-- one weight changes -/
def chS (V : Vs) (k m w : Nat) (d : Int32) : Vs := up2 V k (14 * m + w) (clS (V k (14 * m + w) + d))
/-- a word is preferred: its weight grows by a, those of the first i others become less -/
def prL (V : Vs) (k m w : Nat) (a loss : Int32) (i : Nat) : Vs := fun r j => if r = k ∧ j = 14 * m + w then clS (V r j + a) else if r = k ∧ 14 * m ≤ j ∧ j < 14 * m + i then clS (V r j + -loss) else V r j
def prS (V : Vs) (k m w : Nat) (a loss : Int32) : Vs := prL V k m w a loss 14
theorem prL_0 {V : Vs} {k m w : Nat} {a loss : Int32} : prL V k m w a loss 0 = chS V k m w a := by
  funext r j
  unfold prL chS up2
  by_cases h : r = k ∧ j = 14 * m + w
  · rw [if_pos h, if_pos h, h.1, h.2]
  · rw [if_neg h, if_neg h, if_neg (by omega)]
theorem prL_s {V : Vs} {k m w i : Nat} {a loss : Int32} (hi : ¬ i = w) : chS (prL V k m w a loss i) k m i (-loss) = prL V k m w a loss (i + 1) := by
  have e : prL V k m w a loss i k (14 * m + i) = V k (14 * m + i) := by
    unfold prL
    rw [if_neg (by omega), if_neg (by omega)]
  funext r j
  unfold chS
  rw [e]
  by_cases h : r = k ∧ j = 14 * m + i
  · obtain ⟨rfl, rfl⟩ := h
    rw [up2_s]
    unfold prL
    rw [if_neg (by omega), if_pos (by omega)]
  · rw [up2_n h]
    unfold prL
    by_cases h2 : r = k ∧ j = 14 * m + w
    · rw [if_pos h2, if_pos h2]
    · rw [if_neg h2, if_neg h2]
      by_cases h3 : r = k ∧ 14 * m ≤ j ∧ j < 14 * m + i
      · rw [if_pos h3, if_pos (by omega)]
      · rw [if_neg h3, if_neg (by omega)]
theorem prL_e {V : Vs} {k m w : Nat} {a loss : Int32} : prL V k m w a loss w = prL V k m w a loss (w + 1) := by
  funext r j
  unfold prL
  by_cases h2 : r = k ∧ j = 14 * m + w
  · rw [if_pos h2, if_pos h2]
  · rw [if_neg h2, if_neg h2]
    by_cases h3 : r = k ∧ 14 * m ≤ j ∧ j < 14 * m + w
    · rw [if_pos h3, if_pos (by omega)]
    · rw [if_neg h3, if_neg (by omega)]
/-- the hearer forgets the word for the first i other meanings -/
def fmL (V : Vs) (k m w : Nat) (loss : Int32) (i : Nat) : Vs := fun r j => if r = k ∧ j % 14 = w ∧ j / 14 < i ∧ j / 14 ≠ m then clS (V r j + -loss) else V r j
def fmS (V : Vs) (k m w : Nat) (loss : Int32) : Vs := fmL V k m w loss 6
theorem fmL_0 {V : Vs} {k m w : Nat} {loss : Int32} : fmL V k m w loss 0 = V := by
  funext r j
  unfold fmL
  rw [if_neg (by omega)]
theorem fmL_s {V : Vs} {k m w i : Nat} {loss : Int32} (hw : w < 14) (hi : ¬ i = m) : chS (fmL V k m w loss i) k i w (-loss) = fmL V k m w loss (i + 1) := by
  have e : fmL V k m w loss i k (14 * i + w) = V k (14 * i + w) := by
    unfold fmL
    rw [if_neg (by omega)]
  funext r j
  unfold chS
  rw [e]
  by_cases h : r = k ∧ j = 14 * i + w
  · obtain ⟨rfl, rfl⟩ := h
    rw [up2_s]
    unfold fmL
    rw [if_pos (by omega)]
  · rw [up2_n h]
    unfold fmL
    by_cases h3 : r = k ∧ j % 14 = w ∧ j / 14 < i ∧ j / 14 ≠ m
    · rw [if_pos h3, if_pos (by omega)]
    · rw [if_neg h3, if_neg (by omega)]
theorem fmL_e {V : Vs} {k m w : Nat} {loss : Int32} : fmL V k m w loss m = fmL V k m w loss (m + 1) := by
  funext r j
  unfold fmL
  by_cases h3 : r = k ∧ j % 14 = w ∧ j / 14 < m ∧ j / 14 ≠ m
  · rw [if_pos h3, if_pos (by omega)]
  · rw [if_neg h3, if_neg (by omega)]
def smL (g : Fn) : Nat → Int32
  | 0 => 0
  | n + 1 => smL g n + g n
/-- for how many of the first n meanings there is a word -/
def cwN (r : Fn) : Nat → Nat
  | 0 => 0
  | n + 1 => cwN r n + (if wfS r n = none then 0 else 1)
/-- pairs of meanings with one word: with meaning m, among the t behind it; then of the first n meanings with those behind -/
def ccI (r : Fn) (m : Nat) : Nat → Nat
  | 0 => 0
  | t + 1 => ccI r m t + (if wfS r m ≠ none ∧ wfS r m = wfS r (m + 1 + t) then 1 else 0)
def ccN (r : Fn) : Nat → Nat
  | 0 => 0
  | n + 1 => ccN r n + ccI r n (5 - n)
/-- a life begins: the first n weights, with a share of the teacher's -/
def blL (V : Vs) (k : Nat) (t : Option Nat) (sh : Int32) (n : Nat) : Vs := fun r j => if r = 11 ∧ j = k then 0 else if r = 12 ∧ j = k then 0 else if r = k ∧ j < n then clS (match t with | none => 0 | some t => V t j * sh / 100) else V r j
def blS (V : Vs) (k : Nat) (t : Option Nat) (sh : Int32) : Vs := blL V k t sh 84
theorem blL_0 {V : Vs} {k : Nat} {t : Option Nat} {sh : Int32} : up2 (up2 V 11 k 0) 12 k 0 = blL V k t sh 0 := by
  funext r j
  unfold blL up2
  by_cases h1 : r = 11 ∧ j = k
  · rw [if_pos h1, if_neg (by omega), if_pos h1]
  · rw [if_neg h1]
    by_cases h2 : r = 12 ∧ j = k
    · rw [if_pos h2, if_neg h1, if_pos h2]
    · rw [if_neg h2, if_neg h2, if_neg h1, if_neg (by omega)]
theorem blL_t {V : Vs} {k n t j : Nat} {sh : Int32} (ht : t < 8) (hk : k < 8) (h : t ≠ k) : blL V k (some t) sh n t j = V t j := by
  unfold blL
  rw [if_neg (by omega), if_neg (by omega), if_neg (by omega)]
theorem blL_s {V : Vs} {k n : Nat} {t : Option Nat} {sh : Int32} (hk : k < 8) : up2 (blL V k t sh n) k n (clS (match t with | none => 0 | some t => V t n * sh / 100)) = blL V k t sh (n + 1) := by
  funext r j
  by_cases h : r = k ∧ j = n
  · obtain ⟨rfl, rfl⟩ := h
    rw [up2_s]
    unfold blL
    rw [if_neg (by omega), if_neg (by omega), if_pos (by omega)]
  · rw [up2_n h]
    unfold blL
    by_cases h1 : r = 11 ∧ j = k
    · rw [if_pos h1, if_pos h1]
    rw [if_neg h1, if_neg h1]
    by_cases h2 : r = 12 ∧ j = k
    · rw [if_pos h2, if_pos h2]
    rw [if_neg h2, if_neg h2]
    by_cases h3 : r = k ∧ j < n
    · rw [if_pos h3, if_pos (by omega)]
    · rw [if_neg h3, if_neg (by omega)]
end
section
section XO
variable {E : xEnv} {σ : Sg} {b c k : Nat} {V W : Vs}
theorem xup_o {a : Nat} {e : va_E} (h : a < c ∨ c + 20 ≤ a) : xup (vput E σ c W) a e = vput E (xup σ a e) c W := by
  funext q
  by_cases h1 : c ≤ q ∧ q < c + 20
  · rw [xup_n (by omega), vput_in h1.1 h1.2, vput_in h1.1 h1.2]
  · rw [vput_out (by omega)]
    by_cases h2 : q = a
    · subst h2; rw [xup_s, xup_s]
    · rw [xup_n h2, xup_n h2, vput_out (by omega)]
end XO
def upr (V : Vs) (r : Nat) (g : Fn) : Vs := fun p => if p = r then g else V p
theorem upr_s {V : Vs} {r : Nat} {g : Fn} : upr V r g r = g := if_pos rfl
theorem upr_n {V : Vs} {r p : Nat} {g : Fn} (h : p ≠ r) : upr V r g p = V p := if_neg h
/-- one speaker is copied -/
def cpK (V W : Vs) (k : Nat) : Vs := up2 (up2 (up2 (upr V k (W k)) 10 k (W 10 k)) 11 k (W 11 k)) 12 k (W 12 k)
def cpL (V W : Vs) (i : Nat) : Vs := fun r j => if r < i ∨ ((r = 10 ∨ r = 11 ∨ r = 12) ∧ j < i) then W r j else V r j
theorem cpL_0 {V W : Vs} : cpL V W 0 = V := by
  funext r j
  unfold cpL
  rw [if_neg (by omega)]
theorem cpK_at {V W : Vs} {k r j : Nat} (hk : k < 8) : cpK V W k r j = if r = k ∨ ((r = 10 ∨ r = 11 ∨ r = 12) ∧ j = k) then W r j else V r j := by
  unfold cpK
  by_cases h : r = k
  · subst h
    rw [if_pos (Or.inl rfl), up2_n (by omega), up2_n (by omega), up2_n (by omega), upr_s]
  · by_cases h2 : j = k
    · subst h2
      by_cases a : r = 12
      · subst a; rw [up2_s, if_pos (by omega)]
      rw [up2_n (by omega)]
      by_cases a2 : r = 11
      · subst a2; rw [up2_s, if_pos (by omega)]
      rw [up2_n (by omega)]
      by_cases a3 : r = 10
      · subst a3; rw [up2_s, if_pos (by omega)]
      rw [up2_n (by omega), upr_n h, if_neg (by omega)]
    · rw [up2_n (by omega), up2_n (by omega), up2_n (by omega), upr_n h, if_neg (by omega)]
theorem cpL_s {V W : Vs} {i : Nat} (hi : i < 8) : cpK (cpL V W i) W i = cpL V W (i + 1) := by
  funext r j
  rw [cpK_at hi]
  unfold cpL
  by_cases h : r = i ∨ ((r = 10 ∨ r = 11 ∨ r = 12) ∧ j = i)
  · rw [if_pos h, if_pos (by omega)]
  · rw [if_neg h]
    by_cases h2 : r < i ∨ ((r = 10 ∨ r = 11 ∨ r = 12) ∧ j < i)
    · rw [if_pos h2, if_pos (by omega)]
    · rw [if_neg h2, if_neg (by omega)]
theorem cpy84 {f g : Fn} : ∀ j, j < 84 → va_cpy f g (0 : Int32).toNatClampNeg (0 : Int32).toNatClampNeg (84 : Int32).toNatClampNeg j = f j := fun j hj => by
  rw [show (0 : Int32).toNatClampNeg = 0 from rfl, show (84 : Int32).toNatClampNeg = 84 from rfl]
  exact sb_cpy0 hj
theorem cpy4 {f g : Fn} : ∀ j, j < 4 → va_cpy f g (0 : Int32).toNatClampNeg (0 : Int32).toNatClampNeg (4 : Int32).toNatClampNeg j = f j := fun j hj => by
  rw [show (0 : Int32).toNatClampNeg = 0 from rfl, show (4 : Int32).toNatClampNeg = 4 from rfl]
  exact sb_cpy0 hj
theorem vput_rowk {E : xEnv} {σ : Sg} {b k : Nat} {V : Vs} {g : Fn} (hk : k < 8) : xup (vput E σ b V) (b + 3 + 2 * k) (.inl (xI E, 84, .inl g)) = vput E σ b (upr V k g) := by
  rw [← vput_rw (V2 := upr V k g) hk (fun r h => upr_n h), upr_s]
theorem vput_row8 {E : xEnv} {σ : Sg} {b : Nat} {V : Vs} {g : Fn} : xup (vput E σ b V) (b + 18) (.inl (xI E, 4, .inl g)) = vput E σ b (upr V 8 g) := by
  rw [← vput_r8 (V2 := upr V 8 g) (fun r h => upr_n h), upr_s]
theorem vput_row13 {E : xEnv} {σ : Sg} {b : Nat} {V : Vs} {g : Fn} : xup (vput E σ b V) (b + 19) (.inl (xI E, 14, .inl g)) = vput E σ b (upr V 13 g) := by
  rw [← vput_r13 (V2 := upr V 13 g) (fun r h => upr_n h), upr_s]
end
section
set_option maxRecDepth 100000 in
set_option maxHeartbeats 1000000 in
theorem c_X4_isMeaning {l : Launch} {E : xEnv} {B N : Nat} {σ : Sg} (x : Int32) : xM l yX4_isMeaning cX4_isMeaning 1 (some .boolean) 0 0 0 0 E B [.int x] N σ N σ (some (.int (xb (0 ≤ x ∧ x < 6)))) := by
  refine xM_of [some (.int _)] (by decide +kernel) (Nat.le_of_ble_eq_true rfl) rfl (fun k0 C Z => ?_)
  refine x_iload_n C dX4_isMeaning_0 rfl ?_
  refine x_if_lt C 14 dX4_isMeaning_1 (by decide) (fun h1 => ?_) (fun h1 => ?_)
  · refine x_iconst (v := 0) C dX4_isMeaning_14 (by decide) ?_
    exact x_zret C Z dX4_isMeaning_15 rfl (Nat.le_of_ble_eq_true rfl) (Nat.le_of_ble_eq_true rfl) rfl rfl (b_f (fun z => absurd h1 (Int32.not_lt.mpr z.1))).symm
  · refine x_iload_n C dX4_isMeaning_4 rfl ?_
    refine x_bipush (v := 6) C dX4_isMeaning_5 (by decide) ?_
    refine x_ic_ge C 14 dX4_isMeaning_7 (by decide) (fun h7 => ?_) (fun h7 => ?_)
    · refine x_iconst (v := 0) C dX4_isMeaning_14 (by decide) ?_
      exact x_zret C Z dX4_isMeaning_15 rfl (Nat.le_of_ble_eq_true rfl) (Nat.le_of_ble_eq_true rfl) rfl rfl (b_f (fun z => absurd z.2 (Int32.not_lt.mpr h7))).symm
    · refine x_iconst (v := 1) C dX4_isMeaning_10 (by decide) ?_
      refine x_goto C 15 dX4_isMeaning_11 (by decide) ?_
      exact x_zret C Z dX4_isMeaning_15 rfl (Nat.le_of_ble_eq_true rfl) (Nat.le_of_ble_eq_true rfl) rfl rfl (b_t ⟨Int32.not_lt.mp h1, Int32.not_le.mp h7⟩).symm
set_option maxRecDepth 100000 in
set_option maxHeartbeats 1000000 in
theorem c_X4_isWord {l : Launch} {E : xEnv} {B N : Nat} {σ : Sg} (x : Int32) : xM l yX4_isWord cX4_isWord 1 (some .boolean) 0 0 0 0 E B [.int x] N σ N σ (some (.int (xb (0 ≤ x ∧ x < 14)))) := by
  refine xM_of [some (.int _)] (by decide +kernel) (Nat.le_of_ble_eq_true rfl) rfl (fun k0 C Z => ?_)
  refine x_iload_n C dX4_isWord_0 rfl ?_
  refine x_if_lt C 14 dX4_isWord_1 (by decide) (fun h1 => ?_) (fun h1 => ?_)
  · refine x_iconst (v := 0) C dX4_isWord_14 (by decide) ?_
    exact x_zret C Z dX4_isWord_15 rfl (Nat.le_of_ble_eq_true rfl) (Nat.le_of_ble_eq_true rfl) rfl rfl (b_f (fun z => absurd h1 (Int32.not_lt.mpr z.1))).symm
  · refine x_iload_n C dX4_isWord_4 rfl ?_
    refine x_bipush (v := 14) C dX4_isWord_5 (by decide) ?_
    refine x_ic_ge C 14 dX4_isWord_7 (by decide) (fun h7 => ?_) (fun h7 => ?_)
    · refine x_iconst (v := 0) C dX4_isWord_14 (by decide) ?_
      exact x_zret C Z dX4_isWord_15 rfl (Nat.le_of_ble_eq_true rfl) (Nat.le_of_ble_eq_true rfl) rfl rfl (b_f (fun z => absurd z.2 (Int32.not_lt.mpr h7))).symm
    · refine x_iconst (v := 1) C dX4_isWord_10 (by decide) ?_
      refine x_goto C 15 dX4_isWord_11 (by decide) ?_
      exact x_zret C Z dX4_isWord_15 rfl (Nat.le_of_ble_eq_true rfl) (Nat.le_of_ble_eq_true rfl) rfl rfl (b_t ⟨Int32.not_lt.mp h1, Int32.not_le.mp h7⟩).symm
set_option maxRecDepth 100000 in
set_option maxHeartbeats 1000000 in
theorem c_X4_isBelow {l : Launch} {E : xEnv} {B N : Nat} {σ : Sg} (x y : Int32) : xM l yX4_isBelow cX4_isBelow 2 (some .boolean) 0 0 0 0 E B [.int x, .int y] N σ N σ (some (.int (xb (0 ≤ x ∧ x < y)))) := by
  refine xM_of [some (.int _), some (.int _)] (by decide +kernel) (Nat.le_of_ble_eq_true rfl) rfl (fun k0 C Z => ?_)
  refine x_iload_n C dX4_isBelow_0 rfl ?_
  refine x_if_lt C 13 dX4_isBelow_1 (by decide) (fun h1 => ?_) (fun h1 => ?_)
  · refine x_iconst (v := 0) C dX4_isBelow_13 (by decide) ?_
    exact x_zret C Z dX4_isBelow_14 rfl (Nat.le_of_ble_eq_true rfl) (Nat.le_of_ble_eq_true rfl) rfl rfl (b_f (fun z => absurd h1 (Int32.not_lt.mpr z.1))).symm
  · refine x_iload_n C dX4_isBelow_4 rfl ?_
    refine x_iload_n C dX4_isBelow_5 rfl ?_
    refine x_ic_ge C 13 dX4_isBelow_6 (by decide) (fun h6 => ?_) (fun h6 => ?_)
    · refine x_iconst (v := 0) C dX4_isBelow_13 (by decide) ?_
      exact x_zret C Z dX4_isBelow_14 rfl (Nat.le_of_ble_eq_true rfl) (Nat.le_of_ble_eq_true rfl) rfl rfl (b_f (fun z => absurd z.2 (Int32.not_lt.mpr h6))).symm
    · refine x_iconst (v := 1) C dX4_isBelow_9 (by decide) ?_
      refine x_goto C 14 dX4_isBelow_10 (by decide) ?_
      exact x_zret C Z dX4_isBelow_14 rfl (Nat.le_of_ble_eq_true rfl) (Nat.le_of_ble_eq_true rfl) rfl rfl (b_t ⟨Int32.not_lt.mp h1, Int32.not_le.mp h6⟩).symm
set_option maxRecDepth 100000 in
set_option maxHeartbeats 1000000 in
theorem c_X2_weightOf {l : Launch} {E : xEnv} {B N : Nat} {σ : Sg} {b k : Nat} {V : Vs} (hk : k < 8) {mm ww : Nat} (hm : mm < 6) (hw : ww < 14) : xM l yX2_weightOf cX2_weightOf 3 (some .int) 1 20 0 0 E B [.ref (b + 2 + 2 * k), .int (nI mm), .int (nI ww)] N (vput E σ b V) N (vput E σ b V) (some (.int (V k (14 * mm + ww)))) := by
  refine xM_of [some (.ref _), some (.int _), some (.int _)] (by decide +kernel) (Nat.le_of_ble_eq_true rfl) rfl (fun k0 C Z => ?_)
  refine x_iload_n C dX2_weightOf_0 rfl ?_
  refine x_callS C (c_X4_isMeaning _) ks_X4_isMeaning kl_X2_44 dX2_weightOf_1 rfl rfl rfl rfl (Nat.le_of_ble_eq_true rfl) (Nat.le_of_ble_eq_true rfl) (Nat.le_of_ble_eq_true rfl) (Nat.le_of_ble_eq_true rfl) (Nat.le_of_ble_eq_true rfl) ?_
  refine x_beq C 28 dX2_weightOf_4 (by decide) (fun h => absurd (bd_in (c := 6) hm (by decide)) h) (fun _ => ?_)
  refine x_iload_n C dX2_weightOf_7 rfl ?_
  refine x_callS C (c_X4_isWord _) ks_X4_isWord kl_X2_48 dX2_weightOf_8 rfl rfl rfl rfl (Nat.le_of_ble_eq_true rfl) (Nat.le_of_ble_eq_true rfl) (Nat.le_of_ble_eq_true rfl) (Nat.le_of_ble_eq_true rfl) (Nat.le_of_ble_eq_true rfl) ?_
  refine x_beq C 28 dX2_weightOf_11 (by decide) (fun h => absurd (bd_in (c := 14) hw (by decide)) h) (fun _ => ?_)
  refine x_aload_n C dX2_weightOf_14 rfl ?_
  refine x_get C kf_X2_9 (vput_s hk) rfl dX2_weightOf_15 ?_
  refine x_iload_n C dX2_weightOf_18 rfl ?_
  refine x_bipush (v := 14) C dX2_weightOf_19 (by decide) ?_
  refine x_imul C dX2_weightOf_21 ?_
  refine x_iload_n C dX2_weightOf_22 rfl ?_
  refine x_iadd C dX2_weightOf_23 ?_
  refine x_iald2 C (vput_w hk) (ix14 _ _) (by omega) (by decide) dX2_weightOf_24 ?_
  refine x_goto C 29 dX2_weightOf_25 (by decide) ?_
  exact x_zret C Z dX2_weightOf_29 rfl (Nat.le_of_ble_eq_true rfl) (Nat.le_of_ble_eq_true rfl) rfl rfl rfl
set_option maxRecDepth 100000 in
set_option maxHeartbeats 1000000 in
theorem c_X2_putWeight {l : Launch} {E : xEnv} {B N : Nat} {σ : Sg} {b k : Nat} {V : Vs} (hk : k < 8) {mm ww : Nat} (hm : mm < 6) (hw : ww < 14) (x : Int32) : xM l yX2_putWeight cX2_putWeight 4 none 1 21 0 0 E B [.ref (b + 2 + 2 * k), .int (nI mm), .int (nI ww), .int x] N (vput E σ b V) N (vput E σ b (up2 V k (14 * mm + ww) (clS x))) none := by
  refine xM_of [some (.ref _), some (.int _), some (.int _), some (.int _)] (by decide +kernel) (Nat.le_of_ble_eq_true rfl) rfl (fun k0 C Z => ?_)
  refine x_iload_n C dX2_putWeight_0 rfl ?_
  refine x_callS C (c_X4_isMeaning _) ks_X4_isMeaning kl_X2_44 dX2_putWeight_1 rfl rfl rfl rfl (Nat.le_of_ble_eq_true rfl) (Nat.le_of_ble_eq_true rfl) (Nat.le_of_ble_eq_true rfl) (Nat.le_of_ble_eq_true rfl) (Nat.le_of_ble_eq_true rfl) ?_
  refine x_beq C 35 dX2_putWeight_4 (by decide) (fun h => absurd (bd_in (c := 6) hm (by decide)) h) (fun _ => ?_)
  refine x_iload_n C dX2_putWeight_7 rfl ?_
  refine x_callS C (c_X4_isWord _) ks_X4_isWord kl_X2_48 dX2_putWeight_8 rfl rfl rfl rfl (Nat.le_of_ble_eq_true rfl) (Nat.le_of_ble_eq_true rfl) (Nat.le_of_ble_eq_true rfl) (Nat.le_of_ble_eq_true rfl) (Nat.le_of_ble_eq_true rfl) ?_
  refine x_beq C 35 dX2_putWeight_11 (by decide) (fun h => absurd (bd_in (c := 14) hw (by decide)) h) (fun _ => ?_)
  refine x_aload_n C dX2_putWeight_14 rfl ?_
  refine x_get C kf_X2_9 (vput_s hk) rfl dX2_putWeight_15 ?_
  refine x_iload_n C dX2_putWeight_18 rfl ?_
  refine x_bipush (v := 14) C dX2_putWeight_19 (by decide) ?_
  refine x_imul C dX2_putWeight_21 ?_
  refine x_iload_n C dX2_putWeight_22 rfl ?_
  refine x_iadd C dX2_putWeight_23 ?_
  refine x_iconst (v := 0) C dX2_putWeight_24 (by decide) ?_
  refine x_bipush (v := 99) C dX2_putWeight_25 (by decide) ?_
  refine x_iload_n C dX2_putWeight_27 rfl ?_
  refine x_mmin C kl_X2_51 kz_smin ki_math kz_cmin (Nat.le_of_ble_eq_true rfl) (Nat.le_of_ble_eq_true rfl) (Nat.le_of_ble_eq_true rfl) (Nat.le_of_ble_eq_true rfl) dX2_putWeight_28 ?_
  refine x_mmax C kl_X2_56 kz_smax ki_math kz_cmax (Nat.le_of_ble_eq_true rfl) (Nat.le_of_ble_eq_true rfl) (Nat.le_of_ble_eq_true rfl) (Nat.le_of_ble_eq_true rfl) dX2_putWeight_31 ?_
  refine x_iast2 C (vput_w hk) (ix14 _ _) (by omega) (by decide) (fun _ _ => rfl) (vput_wt hk _ _) dX2_putWeight_34 ?_
  exact x_vret C Z dX2_putWeight_35 (Nat.le_of_ble_eq_true rfl) (Nat.le_of_ble_eq_true rfl) rfl rfl
set_option maxRecDepth 100000 in
set_option maxHeartbeats 1000000 in
theorem c_X2_changeWeight {l : Launch} {E : xEnv} {B N : Nat} {σ : Sg} {b k : Nat} {V : Vs} (hk : k < 8) {mm ww : Nat} (hm : mm < 6) (hw : ww < 14) (x : Int32) : xM l yX2_changeWeight cX2_changeWeight 4 none 2 44 0 0 E B [.ref (b + 2 + 2 * k), .int (nI mm), .int (nI ww), .int x] N (vput E σ b V) N (vput E σ b (chS V k mm ww x)) none := by
  refine xM_of [some (.ref _), some (.int _), some (.int _), some (.int _)] (by decide +kernel) (Nat.le_of_ble_eq_true rfl) rfl (fun k0 C Z => ?_)
  refine x_aload_n C dX2_changeWeight_0 rfl ?_
  refine x_iload_n C dX2_changeWeight_1 rfl ?_
  refine x_iload_n C dX2_changeWeight_2 rfl ?_
  refine x_aload_n C dX2_changeWeight_3 rfl ?_
  refine x_iload_n C dX2_changeWeight_4 rfl ?_
  refine x_iload_n C dX2_changeWeight_5 rfl ?_
  refine x_callV C (c_X2_weightOf hk hm hw) kv_X2_weightOf kl_X2_36 dX2_changeWeight_6 (vput_s hk) rfl rfl rfl rfl (Nat.le_of_ble_eq_true rfl) (Nat.le_of_ble_eq_true rfl) (Nat.le_of_ble_eq_true rfl) (Nat.le_of_ble_eq_true rfl) (Nat.le_of_ble_eq_true rfl) ?_
  refine x_iload_n C dX2_changeWeight_9 rfl ?_
  refine x_iadd C dX2_changeWeight_10 ?_
  refine x_callV C (c_X2_putWeight hk hm hw _) kv_X2_putWeight kl_X2_40 dX2_changeWeight_11 (vput_s hk) rfl rfl rfl rfl (Nat.le_of_ble_eq_true rfl) (Nat.le_of_ble_eq_true rfl) (Nat.le_of_ble_eq_true rfl) (Nat.le_of_ble_eq_true rfl) (Nat.le_of_ble_eq_true rfl) ?_
  exact x_vret C Z dX2_changeWeight_14 (Nat.le_of_ble_eq_true rfl) (Nat.le_of_ble_eq_true rfl) rfl rfl
set_option maxRecDepth 100000 in
set_option maxHeartbeats 1000000 in
theorem c_X2_wordFor {l : Launch} {E : xEnv} {B N : Nat} {σ : Sg} {b k : Nat} {V : Vs} (hk : k < 8) {mm : Nat} (hm : mm < 6) : xM l yX2_wordFor cX2_wordFor 6 (some .int) 2 42 0 0 E B [.ref (b + 2 + 2 * k), .int (nI mm)] N (vput E σ b V) N (vput E σ b V) (some (.int (oI (wfS (V k) mm)))) := by
  refine xM_of [some (.ref _), some (.int _), none, none, none, none] (by decide +kernel) (Nat.le_of_ble_eq_true rfl) rfl (fun k0 C Z => ?_)
  have hl : ∀ i, i ≤ 14 → xX k0 N 0 0 (vput E σ b V) 8 [some (.ref (b + 2 + 2 * k)), some (.int (nI mm)), some (.int (oI (wfL (fun w => V k (14 * mm + w)) i).1)), some (.int (wfL (fun w => V k (14 * mm + w)) i).2), some (.int (nI i)), none] [] := by
    refine x_for 14 ?_ ?_
    · refine x_iload C dX2_wordFor_8 rfl ?_
      refine x_bipush (v := 14) C dX2_wordFor_10 (by decide) ?_
      refine x_ic_ge C 42 dX2_wordFor_12 (by decide) (fun _ => ?_) (fun h => absurd (nI_le (a := 14) (Nat.le_refl _) (by decide)) h)
      refine x_iload_n C dX2_wordFor_42 rfl ?_
      exact x_zret C Z dX2_wordFor_43 rfl (Nat.le_of_ble_eq_true rfl) (Nat.le_of_ble_eq_true rfl) rfl rfl rfl
    · intro i hi ih
      refine x_iload C dX2_wordFor_8 rfl ?_
      refine x_bipush (v := 14) C dX2_wordFor_10 (by decide) ?_
      refine x_ic_ge C 42 dX2_wordFor_12 (by decide) (fun h => absurd h (nI_ge (b := 14) hi (by decide))) (fun _ => ?_)
      refine x_aload_n C dX2_wordFor_15 rfl ?_
      refine x_iload_n C dX2_wordFor_16 rfl ?_
      refine x_iload C dX2_wordFor_17 rfl ?_
      refine x_callV C (c_X2_weightOf hk hm hi) kv_X2_weightOf kl_X2_36 dX2_wordFor_19 (vput_s hk) rfl rfl rfl rfl (Nat.le_of_ble_eq_true rfl) (Nat.le_of_ble_eq_true rfl) (Nat.le_of_ble_eq_true rfl) (Nat.le_of_ble_eq_true rfl) (Nat.le_of_ble_eq_true rfl) ?_
      refine x_istore C dX2_wordFor_22 (by decide) rfl ?_
      refine x_iload C dX2_wordFor_24 rfl ?_
      refine x_iload_n C dX2_wordFor_26 rfl ?_
      refine x_ic_le C 36 dX2_wordFor_27 (by decide) (fun h27 => ?_) (fun h27 => ?_)
      · refine x_iinc C dX2_wordFor_36 rfl (nI_inc _) (by decide) rfl ?_
        refine x_goto C 8 dX2_wordFor_39 (by decide) ?_
        refine xX.cl ih rfl (And.intro rfl (And.intro rfl (And.intro ?_ (And.intro ?_ (And.intro rfl trivial))))) rfl
        all_goals (rw [wfL, if_pos h27]; rfl)
      · refine x_iload C dX2_wordFor_30 rfl ?_
        refine x_istore_n C dX2_wordFor_32 (by decide) rfl ?_
        refine x_iload C dX2_wordFor_33 rfl ?_
        refine x_istore_n C dX2_wordFor_35 (by decide) rfl ?_
        refine x_iinc C dX2_wordFor_36 rfl (nI_inc _) (by decide) rfl ?_
        refine x_goto C 8 dX2_wordFor_39 (by decide) ?_
        refine xX.cl ih rfl (And.intro rfl (And.intro rfl (And.intro ?_ (And.intro ?_ (And.intro rfl trivial))))) rfl
        all_goals (rw [wfL, if_neg h27]; rfl)
  refine x_bipush (v := (-6)) C dX2_wordFor_0 (by decide) ?_
  refine x_istore_n C dX2_wordFor_2 (by decide) rfl ?_
  refine x_iconst (v := 0) C dX2_wordFor_3 (by decide) ?_
  refine x_istore_n C dX2_wordFor_4 (by decide) rfl ?_
  refine x_iconst (v := 0) C dX2_wordFor_5 (by decide) ?_
  refine x_istore C dX2_wordFor_6 (by decide) rfl ?_
  exact hl 0 (by omega)
set_option maxRecDepth 100000 in
set_option maxHeartbeats 1000000 in
theorem c_X2_meaningOf {l : Launch} {E : xEnv} {B N : Nat} {σ : Sg} {b k : Nat} {V : Vs} (hk : k < 8) {ww : Nat} (hw : ww < 14) : xM l yX2_meaningOf cX2_meaningOf 6 (some .int) 2 42 0 0 E B [.ref (b + 2 + 2 * k), .int (nI ww)] N (vput E σ b V) N (vput E σ b V) (some (.int (oI (haS (V k) ww)))) := by
  refine xM_of [some (.ref _), some (.int _), none, none, none, none] (by decide +kernel) (Nat.le_of_ble_eq_true rfl) rfl (fun k0 C Z => ?_)
  have hl : ∀ i, i ≤ 6 → xX k0 N 0 0 (vput E σ b V) 8 [some (.ref (b + 2 + 2 * k)), some (.int (nI ww)), some (.int (oI (wfL (fun m => V k (14 * m + ww)) i).1)), some (.int (wfL (fun m => V k (14 * m + ww)) i).2), some (.int (nI i)), none] [] := by
    refine x_for 6 ?_ ?_
    · refine x_iload C dX2_meaningOf_8 rfl ?_
      refine x_bipush (v := 6) C dX2_meaningOf_10 (by decide) ?_
      refine x_ic_ge C 42 dX2_meaningOf_12 (by decide) (fun _ => ?_) (fun h => absurd (nI_le (a := 6) (Nat.le_refl _) (by decide)) h)
      refine x_iload_n C dX2_meaningOf_42 rfl ?_
      exact x_zret C Z dX2_meaningOf_43 rfl (Nat.le_of_ble_eq_true rfl) (Nat.le_of_ble_eq_true rfl) rfl rfl rfl
    · intro i hi ih
      refine x_iload C dX2_meaningOf_8 rfl ?_
      refine x_bipush (v := 6) C dX2_meaningOf_10 (by decide) ?_
      refine x_ic_ge C 42 dX2_meaningOf_12 (by decide) (fun h => absurd h (nI_ge (b := 6) hi (by decide))) (fun _ => ?_)
      refine x_aload_n C dX2_meaningOf_15 rfl ?_
      refine x_iload C dX2_meaningOf_16 rfl ?_
      refine x_iload_n C dX2_meaningOf_18 rfl ?_
      refine x_callV C (c_X2_weightOf hk hi hw) kv_X2_weightOf kl_X2_36 dX2_meaningOf_19 (vput_s hk) rfl rfl rfl rfl (Nat.le_of_ble_eq_true rfl) (Nat.le_of_ble_eq_true rfl) (Nat.le_of_ble_eq_true rfl) (Nat.le_of_ble_eq_true rfl) (Nat.le_of_ble_eq_true rfl) ?_
      refine x_istore C dX2_meaningOf_22 (by decide) rfl ?_
      refine x_iload C dX2_meaningOf_24 rfl ?_
      refine x_iload_n C dX2_meaningOf_26 rfl ?_
      refine x_ic_le C 36 dX2_meaningOf_27 (by decide) (fun h27 => ?_) (fun h27 => ?_)
      · refine x_iinc C dX2_meaningOf_36 rfl (nI_inc _) (by decide) rfl ?_
        refine x_goto C 8 dX2_meaningOf_39 (by decide) ?_
        refine xX.cl ih rfl (And.intro rfl (And.intro rfl (And.intro ?_ (And.intro ?_ (And.intro rfl trivial))))) rfl
        all_goals (rw [wfL, if_pos h27]; rfl)
      · refine x_iload C dX2_meaningOf_30 rfl ?_
        refine x_istore_n C dX2_meaningOf_32 (by decide) rfl ?_
        refine x_iload C dX2_meaningOf_33 rfl ?_
        refine x_istore_n C dX2_meaningOf_35 (by decide) rfl ?_
        refine x_iinc C dX2_meaningOf_36 rfl (nI_inc _) (by decide) rfl ?_
        refine x_goto C 8 dX2_meaningOf_39 (by decide) ?_
        refine xX.cl ih rfl (And.intro rfl (And.intro rfl (And.intro ?_ (And.intro ?_ (And.intro rfl trivial))))) rfl
        all_goals (rw [wfL, if_neg h27]; rfl)
  refine x_bipush (v := (-6)) C dX2_meaningOf_0 (by decide) ?_
  refine x_istore_n C dX2_meaningOf_2 (by decide) rfl ?_
  refine x_iconst (v := 0) C dX2_meaningOf_3 (by decide) ?_
  refine x_istore_n C dX2_meaningOf_4 (by decide) rfl ?_
  refine x_iconst (v := 0) C dX2_meaningOf_5 (by decide) ?_
  refine x_istore C dX2_meaningOf_6 (by decide) rfl ?_
  exact hl 0 (by omega)
end
section
set_option maxRecDepth 100000 in
set_option maxHeartbeats 1000000 in
theorem c_X2_learnsWith {l : Launch} {E : xEnv} {B N : Nat} {σ : Sg} {b k : Nat} {V : Vs} (hk : k < 8) (g : Int32) : xM l yX2_learnsWith cX2_learnsWith 2 (some .int) 1 21 0 0 E B [.ref (b + 2 + 2 * k), .int g] N (vput E σ b V) N (vput E σ b V) (some (.int (lnS (V 11 k) g))) := by
  refine xM_of [some (.ref _), some (.int _)] (by decide +kernel) (Nat.le_of_ble_eq_true rfl) rfl (fun k0 C Z => ?_)
  refine x_iconst (v := 1) C dX2_learnsWith_0 (by decide) ?_
  refine x_iload_n C dX2_learnsWith_1 rfl ?_
  refine x_aload_n C dX2_learnsWith_2 rfl ?_
  refine x_get C kf_X2_25 (vput_s hk) rfl dX2_learnsWith_3 ?_
  refine x_bipush (v := 20) C dX2_learnsWith_6 (by decide) ?_
  refine x_idiv C dX2_learnsWith_8 (by decide) ?_
  refine x_isub C dX2_learnsWith_9 ?_
  refine x_mmax C kl_X2_56 kz_smax ki_math kz_cmax (Nat.le_of_ble_eq_true rfl) (Nat.le_of_ble_eq_true rfl) (Nat.le_of_ble_eq_true rfl) (Nat.le_of_ble_eq_true rfl) dX2_learnsWith_10 ?_
  exact x_zret C Z dX2_learnsWith_13 rfl (Nat.le_of_ble_eq_true rfl) (Nat.le_of_ble_eq_true rfl) rfl rfl rfl
set_option maxRecDepth 100000 in
set_option maxHeartbeats 1000000 in
theorem c_X2_prefer {l : Launch} {E : xEnv} {B N : Nat} {σ : Sg} {b k : Nat} {V : Vs} (hk : k < 8) {mm ww : Nat} (hm : mm < 6) (hw : ww < 14) (g x : Int32) : xM l yX2_prefer cX2_prefer 6 none 3 67 0 0 E B [.ref (b + 2 + 2 * k), .int (nI mm), .int (nI ww), .int g, .int x] N (vput E σ b V) N (vput E σ b (prS V k mm ww (lnS (V 11 k) g) x)) none := by
  refine xM_of [some (.ref _), some (.int _), some (.int _), some (.int _), some (.int _), none] (by decide +kernel) (Nat.le_of_ble_eq_true rfl) rfl (fun k0 C Z => ?_)
  have hl : ∀ i, i ≤ 14 → xX k0 N 0 0 (vput E σ b (prL V k mm ww (lnS (V 11 k) g) x i)) 14 [some (.ref (b + 2 + 2 * k)), some (.int (nI mm)), some (.int (nI ww)), some (.int g), some (.int x), some (.int (nI i))] [] := by
    refine x_for 14 ?_ ?_
    · refine x_iload C dX2_prefer_14 rfl ?_
      refine x_bipush (v := 14) C dX2_prefer_16 (by decide) ?_
      refine x_ic_ge C 43 dX2_prefer_18 (by decide) (fun _ => ?_) (fun h => absurd (nI_le (a := 14) (Nat.le_refl _) (by decide)) h)
      exact x_vret C Z dX2_prefer_43 (Nat.le_of_ble_eq_true rfl) (Nat.le_of_ble_eq_true rfl) rfl rfl
    · intro i hi ih
      refine x_iload C dX2_prefer_14 rfl ?_
      refine x_bipush (v := 14) C dX2_prefer_16 (by decide) ?_
      refine x_ic_ge C 43 dX2_prefer_18 (by decide) (fun h => absurd h (nI_ge (b := 14) hi (by decide))) (fun _ => ?_)
      refine x_iload C dX2_prefer_21 rfl ?_
      refine x_iload_n C dX2_prefer_23 rfl ?_
      refine x_ic_eq C 37 dX2_prefer_24 (by decide) (fun h24 => ?_) (fun h24 => ?_)
      · refine x_iinc C dX2_prefer_37 rfl (nI_inc _) (by decide) rfl ?_
        refine x_goto C 14 dX2_prefer_40 (by decide) ?_
        refine xX.cl ih (by rw [(nI_eq (by omega) (by omega)).mp h24]; exact congrArg _ prL_e) (And.intro rfl (And.intro rfl (And.intro rfl (And.intro rfl (And.intro rfl (And.intro rfl trivial)))))) rfl
      · refine x_aload_n C dX2_prefer_27 rfl ?_
        refine x_iload_n C dX2_prefer_28 rfl ?_
        refine x_iload C dX2_prefer_29 rfl ?_
        refine x_iload C dX2_prefer_31 rfl ?_
        refine x_ineg C dX2_prefer_33 ?_
        refine x_callV C (c_X2_changeWeight hk hm hi _) kv_X2_changeWeight kl_X2_63 dX2_prefer_34 (vput_s hk) rfl rfl rfl rfl (Nat.le_of_ble_eq_true rfl) (Nat.le_of_ble_eq_true rfl) (Nat.le_of_ble_eq_true rfl) (Nat.le_of_ble_eq_true rfl) (Nat.le_of_ble_eq_true rfl) ?_
        refine x_iinc C dX2_prefer_37 rfl (nI_inc _) (by decide) rfl ?_
        refine x_goto C 14 dX2_prefer_40 (by decide) ?_
        refine xX.cl ih (congrArg _ (prL_s (fun z => h24 (by rw [z])))) (And.intro rfl (And.intro rfl (And.intro rfl (And.intro rfl (And.intro rfl (And.intro rfl trivial)))))) rfl
  refine x_aload_n C dX2_prefer_0 rfl ?_
  refine x_iload_n C dX2_prefer_1 rfl ?_
  refine x_iload_n C dX2_prefer_2 rfl ?_
  refine x_aload_n C dX2_prefer_3 rfl ?_
  refine x_iload_n C dX2_prefer_4 rfl ?_
  refine x_callV C (c_X2_learnsWith hk _) kv_X2_learnsWith kl_X2_59 dX2_prefer_5 (vput_s hk) rfl rfl rfl rfl (Nat.le_of_ble_eq_true rfl) (Nat.le_of_ble_eq_true rfl) (Nat.le_of_ble_eq_true rfl) (Nat.le_of_ble_eq_true rfl) (Nat.le_of_ble_eq_true rfl) ?_
  refine x_callV C (c_X2_changeWeight hk hm hw _) kv_X2_changeWeight kl_X2_63 dX2_prefer_8 (vput_s hk) rfl rfl rfl rfl (Nat.le_of_ble_eq_true rfl) (Nat.le_of_ble_eq_true rfl) (Nat.le_of_ble_eq_true rfl) (Nat.le_of_ble_eq_true rfl) (Nat.le_of_ble_eq_true rfl) ?_
  refine x_iconst (v := 0) C dX2_prefer_11 (by decide) ?_
  refine x_istore C dX2_prefer_12 (by decide) rfl ?_
  refine xX.cl (hl 0 (by omega)) (congrArg _ prL_0.symm) (And.intro rfl (And.intro rfl (And.intro rfl (And.intro rfl (And.intro rfl (And.intro rfl trivial)))))) rfl
set_option maxRecDepth 100000 in
set_option maxHeartbeats 1000000 in
theorem c_X2_forgetOtherMeanings {l : Launch} {E : xEnv} {B N : Nat} {σ : Sg} {b k : Nat} {V : Vs} (hk : k < 8) {mm ww : Nat} (hm : mm < 6) (hw : ww < 14) (x : Int32) : xM l yX2_forgetOtherMeanings cX2_forgetOtherMeanings 5 none 3 67 0 0 E B [.ref (b + 2 + 2 * k), .int (nI mm), .int (nI ww), .int x] N (vput E σ b V) N (vput E σ b (fmS V k mm ww x)) none := by
  refine xM_of [some (.ref _), some (.int _), some (.int _), some (.int _), none] (by decide +kernel) (Nat.le_of_ble_eq_true rfl) rfl (fun k0 C Z => ?_)
  have hl : ∀ i, i ≤ 6 → xX k0 N 0 0 (vput E σ b (fmL V k mm ww x i)) 3 [some (.ref (b + 2 + 2 * k)), some (.int (nI mm)), some (.int (nI ww)), some (.int x), some (.int (nI i))] [] := by
    refine x_for 6 ?_ ?_
    · refine x_iload C dX2_forgetOtherMeanings_3 rfl ?_
      refine x_bipush (v := 6) C dX2_forgetOtherMeanings_5 (by decide) ?_
      refine x_ic_ge C 31 dX2_forgetOtherMeanings_7 (by decide) (fun _ => ?_) (fun h => absurd (nI_le (a := 6) (Nat.le_refl _) (by decide)) h)
      exact x_vret C Z dX2_forgetOtherMeanings_31 (Nat.le_of_ble_eq_true rfl) (Nat.le_of_ble_eq_true rfl) rfl rfl
    · intro i hi ih
      refine x_iload C dX2_forgetOtherMeanings_3 rfl ?_
      refine x_bipush (v := 6) C dX2_forgetOtherMeanings_5 (by decide) ?_
      refine x_ic_ge C 31 dX2_forgetOtherMeanings_7 (by decide) (fun h => absurd h (nI_ge (b := 6) hi (by decide))) (fun _ => ?_)
      refine x_iload C dX2_forgetOtherMeanings_10 rfl ?_
      refine x_iload_n C dX2_forgetOtherMeanings_12 rfl ?_
      refine x_ic_eq C 25 dX2_forgetOtherMeanings_13 (by decide) (fun h13 => ?_) (fun h13 => ?_)
      · refine x_iinc C dX2_forgetOtherMeanings_25 rfl (nI_inc _) (by decide) rfl ?_
        refine x_goto C 3 dX2_forgetOtherMeanings_28 (by decide) ?_
        refine xX.cl ih (by rw [(nI_eq (by omega) (by omega)).mp h13]; exact congrArg _ fmL_e) (And.intro rfl (And.intro rfl (And.intro rfl (And.intro rfl (And.intro rfl trivial))))) rfl
      · refine x_aload_n C dX2_forgetOtherMeanings_16 rfl ?_
        refine x_iload C dX2_forgetOtherMeanings_17 rfl ?_
        refine x_iload_n C dX2_forgetOtherMeanings_19 rfl ?_
        refine x_iload_n C dX2_forgetOtherMeanings_20 rfl ?_
        refine x_ineg C dX2_forgetOtherMeanings_21 ?_
        refine x_callV C (c_X2_changeWeight hk hi hw _) kv_X2_changeWeight kl_X2_63 dX2_forgetOtherMeanings_22 (vput_s hk) rfl rfl rfl rfl (Nat.le_of_ble_eq_true rfl) (Nat.le_of_ble_eq_true rfl) (Nat.le_of_ble_eq_true rfl) (Nat.le_of_ble_eq_true rfl) (Nat.le_of_ble_eq_true rfl) ?_
        refine x_iinc C dX2_forgetOtherMeanings_25 rfl (nI_inc _) (by decide) rfl ?_
        refine x_goto C 3 dX2_forgetOtherMeanings_28 (by decide) ?_
        refine xX.cl ih (congrArg _ (fmL_s hw (fun z => h13 (by rw [z])))) (And.intro rfl (And.intro rfl (And.intro rfl (And.intro rfl (And.intro rfl trivial))))) rfl
  refine x_iconst (v := 0) C dX2_forgetOtherMeanings_0 (by decide) ?_
  refine x_istore C dX2_forgetOtherMeanings_1 (by decide) rfl ?_
  refine xX.cl (hl 0 (by omega)) (congrArg _ fmL_0.symm) (And.intro rfl (And.intro rfl (And.intro rfl (And.intro rfl (And.intro rfl trivial))))) rfl
set_option maxRecDepth 100000 in
set_option maxHeartbeats 1000000 in
theorem c_X2_sumOfWeights {l : Launch} {E : xEnv} {B N : Nat} {σ : Sg} {b k : Nat} {V : Vs} (hk : k < 8) : xM l yX2_sumOfWeights cX2_sumOfWeights 6 (some .int) 0 0 0 0 E B [.ref (b + 2 + 2 * k)] N (vput E σ b V) N (vput E σ b V) (some (.int (smL (V k) 84))) := by
  refine xM_of [some (.ref _), none, none, none, none, none] (by decide +kernel) (Nat.le_of_ble_eq_true rfl) rfl (fun k0 C Z => ?_)
  have hl : ∀ i, i ≤ 84 → xX k0 N 0 0 (vput E σ b V) 13 [some (.ref (b + 2 + 2 * k)), some (.int (smL (V k) i)), some (.ref (b + 3 + 2 * k)), some (.int (nI 84)), some (.int (nI i)), none] [] := by
    refine x_for 84 ?_ ?_
    · refine x_iload C dX2_sumOfWeights_13 rfl ?_
      refine x_iload_n C dX2_sumOfWeights_15 rfl ?_
      refine x_ic_ge C 36 dX2_sumOfWeights_16 (by decide) (fun _ => ?_) (fun h => absurd (nI_le (a := 84) (Nat.le_refl _) (by decide)) h)
      refine x_iload_n C dX2_sumOfWeights_36 rfl ?_
      exact x_zret C Z dX2_sumOfWeights_37 rfl (Nat.le_of_ble_eq_true rfl) (Nat.le_of_ble_eq_true rfl) rfl rfl rfl
    · intro i hi ih
      refine x_iload C dX2_sumOfWeights_13 rfl ?_
      refine x_iload_n C dX2_sumOfWeights_15 rfl ?_
      refine x_ic_ge C 36 dX2_sumOfWeights_16 (by decide) (fun h => absurd h (nI_ge (b := 84) hi (by decide))) (fun _ => ?_)
      refine x_aload_n C dX2_sumOfWeights_19 rfl ?_
      refine x_iload C dX2_sumOfWeights_20 rfl ?_
      refine x_iald2 C (vput_w hk) rfl hi (by decide) dX2_sumOfWeights_22 ?_
      refine x_istore C dX2_sumOfWeights_23 (by decide) rfl ?_
      refine x_iload_n C dX2_sumOfWeights_25 rfl ?_
      refine x_iload C dX2_sumOfWeights_26 rfl ?_
      refine x_iadd C dX2_sumOfWeights_28 ?_
      refine x_istore_n C dX2_sumOfWeights_29 (by decide) rfl ?_
      refine x_iinc C dX2_sumOfWeights_30 rfl (nI_inc _) (by decide) rfl ?_
      refine x_goto C 13 dX2_sumOfWeights_33 (by decide) ?_
      refine xX.cl ih rfl (And.intro rfl (And.intro rfl (And.intro rfl (And.intro rfl (And.intro rfl trivial))))) rfl
  refine x_iconst (v := 0) C dX2_sumOfWeights_0 (by decide) ?_
  refine x_istore_n C dX2_sumOfWeights_1 (by decide) rfl ?_
  refine x_aload_n C dX2_sumOfWeights_2 rfl ?_
  refine x_get C kf_X2_9 (vput_s hk) rfl dX2_sumOfWeights_3 ?_
  refine x_astore_n C dX2_sumOfWeights_6 (by decide) rfl ?_
  refine x_aload_n C dX2_sumOfWeights_7 rfl ?_
  refine x_alen (t0 := 0) C (vput_w hk) rfl dX2_sumOfWeights_8 ?_
  refine x_istore_n C dX2_sumOfWeights_9 (by decide) rfl ?_
  refine x_iconst (v := 0) C dX2_sumOfWeights_10 (by decide) ?_
  refine x_istore C dX2_sumOfWeights_11 (by decide) rfl ?_
  refine xX.cl (hl 0 (by omega)) rfl (And.intro rfl (And.intro rfl (And.intro rfl (And.intro rfl (And.intro rfl trivial))))) rfl
set_option maxRecDepth 100000 in
set_option maxHeartbeats 1000000 in
theorem c_X2_countWords {l : Launch} {E : xEnv} {B N : Nat} {σ : Sg} {b k : Nat} {V : Vs} (hk : k < 8) : xM l yX2_countWords cX2_countWords 3 (some .int) 3 67 0 0 E B [.ref (b + 2 + 2 * k)] N (vput E σ b V) N (vput E σ b V) (some (.int (nI (cwN (V k) 6)))) := by
  refine xM_of [some (.ref _), none, none] (by decide +kernel) (Nat.le_of_ble_eq_true rfl) rfl (fun k0 C Z => ?_)
  have hl : ∀ i, i ≤ 6 → xX k0 N 0 0 (vput E σ b V) 4 [some (.ref (b + 2 + 2 * k)), some (.int (nI (cwN (V k) i))), some (.int (nI i))] [] := by
    refine x_for 6 ?_ ?_
    · refine x_iload_n C dX2_countWords_4 rfl ?_
      refine x_bipush (v := 6) C dX2_countWords_5 (by decide) ?_
      refine x_ic_ge C 29 dX2_countWords_7 (by decide) (fun _ => ?_) (fun h => absurd (nI_le (a := 6) (Nat.le_refl _) (by decide)) h)
      refine x_iload_n C dX2_countWords_29 rfl ?_
      exact x_zret C Z dX2_countWords_30 rfl (Nat.le_of_ble_eq_true rfl) (Nat.le_of_ble_eq_true rfl) rfl rfl rfl
    · intro i hi ih
      refine x_iload_n C dX2_countWords_4 rfl ?_
      refine x_bipush (v := 6) C dX2_countWords_5 (by decide) ?_
      refine x_ic_ge C 29 dX2_countWords_7 (by decide) (fun h => absurd h (nI_ge (b := 6) hi (by decide))) (fun _ => ?_)
      refine x_aload_n C dX2_countWords_10 rfl ?_
      refine x_iload_n C dX2_countWords_11 rfl ?_
      refine x_callV C (c_X2_wordFor hk hi) kv_X2_wordFor kl_X2_66 dX2_countWords_12 (vput_s hk) rfl rfl rfl rfl (Nat.le_of_ble_eq_true rfl) (Nat.le_of_ble_eq_true rfl) (Nat.le_of_ble_eq_true rfl) (Nat.le_of_ble_eq_true rfl) (Nat.le_of_ble_eq_true rfl) ?_
      refine x_bipush (v := (-6)) C dX2_countWords_15 (by decide) ?_
      refine x_ic_eq C 23 dX2_countWords_17 (by decide) (fun h17 => ?_) (fun h17 => ?_)
      · refine x_iinc C dX2_countWords_23 rfl (nI_inc _) (by decide) rfl ?_
        refine x_goto C 4 dX2_countWords_26 (by decide) ?_
        refine xX.cl ih rfl (And.intro rfl (And.intro ?_ (And.intro rfl trivial))) rfl
        rw [cwN, if_pos (wfS_6.mp h17)]; rfl
      · refine x_iinc C dX2_countWords_20 rfl (nI_inc _) (by decide) rfl ?_
        refine x_iinc C dX2_countWords_23 rfl (nI_inc _) (by decide) rfl ?_
        refine x_goto C 4 dX2_countWords_26 (by decide) ?_
        refine xX.cl ih rfl (And.intro rfl (And.intro ?_ (And.intro rfl trivial))) rfl
        rw [cwN, if_neg (fun z => h17 (wfS_6.mpr z))]; rfl
  refine x_iconst (v := 0) C dX2_countWords_0 (by decide) ?_
  refine x_istore_n C dX2_countWords_1 (by decide) rfl ?_
  refine x_iconst (v := 0) C dX2_countWords_2 (by decide) ?_
  refine x_istore_n C dX2_countWords_3 (by decide) rfl ?_
  refine xX.cl (hl 0 (by omega)) rfl (And.intro rfl (And.intro rfl (And.intro rfl trivial))) rfl
set_option maxRecDepth 100000 in
set_option maxHeartbeats 1000000 in
theorem c_X2_countConfusions {l : Launch} {E : xEnv} {B N : Nat} {σ : Sg} {b k : Nat} {V : Vs} (hk : k < 8) : xM l yX2_countConfusions cX2_countConfusions 5 (some .int) 3 67 0 0 E B [.ref (b + 2 + 2 * k)] N (vput E σ b V) N (vput E σ b V) (some (.int (nI (ccN (V k) 6)))) := by
  refine xM_of [some (.ref _), none, none, none, none] (by decide +kernel) (Nat.le_of_ble_eq_true rfl) rfl (fun k0 C Z => ?_)
  have hl : ∀ i, i ≤ 6 → xX k0 N 0 0 (vput E σ b V) 4 [some (.ref (b + 2 + 2 * k)), some (.int (nI (ccN (V k) i))), some (.int (nI i)), none, none] [] := by
    refine x_for 6 ?_ ?_
    · refine x_iload_n C dX2_countConfusions_4 rfl ?_
      refine x_bipush (v := 6) C dX2_countConfusions_5 (by decide) ?_
      refine x_ic_ge C 59 dX2_countConfusions_7 (by decide) (fun _ => ?_) (fun h => absurd (nI_le (a := 6) (Nat.le_refl _) (by decide)) h)
      refine x_iload_n C dX2_countConfusions_59 rfl ?_
      exact x_zret C Z dX2_countConfusions_60 rfl (Nat.le_of_ble_eq_true rfl) (Nat.le_of_ble_eq_true rfl) rfl rfl rfl
    · intro i hi ih
      have hl2 : ∀ t, t ≤ (5 - i) → xX k0 N 0 0 (vput E σ b V) 21 [some (.ref (b + 2 + 2 * k)), some (.int (nI (ccN (V k) i + ccI (V k) i t))), some (.int (nI i)), some (.int (oI (wfS (V k) i))), some (.int (nI (i + 1 + t)))] [] := by
        refine x_for (5 - i) ?_ ?_
        · refine x_iload C dX2_countConfusions_21 rfl ?_
          refine x_bipush (v := 6) C dX2_countConfusions_23 (by decide) ?_
          refine x_ic_ge C 53 dX2_countConfusions_25 (by decide) (fun _ => ?_) (fun h => absurd (nI_le (a := 6) (by omega) (by omega)) h)
          refine x_iinc C dX2_countConfusions_53 rfl (nI_inc _) (by decide) rfl ?_
          refine x_goto C 4 dX2_countConfusions_56 (by decide) ?_
          refine xX.cl ih rfl (And.intro rfl (And.intro rfl (And.intro rfl trivial))) rfl
        · intro t hi2 ih2
          refine x_iload C dX2_countConfusions_21 rfl ?_
          refine x_bipush (v := 6) C dX2_countConfusions_23 (by decide) ?_
          refine x_ic_ge C 53 dX2_countConfusions_25 (by decide) (fun h => absurd h (nI_ge (b := 6) (by omega) (by decide))) (fun _ => ?_)
          refine x_iload_n C dX2_countConfusions_28 rfl ?_
          refine x_bipush (v := (-6)) C dX2_countConfusions_29 (by decide) ?_
          refine x_ic_eq C 47 dX2_countConfusions_31 (by decide) (fun h31 => ?_) (fun h31 => ?_)
          · refine x_iinc C dX2_countConfusions_47 rfl (nI_inc _) (by decide) rfl ?_
            refine x_goto C 21 dX2_countConfusions_50 (by decide) ?_
            refine xX.cl ih2 rfl (And.intro rfl (And.intro ?_ (And.intro rfl (And.intro rfl (And.intro rfl trivial))))) rfl
            rw [ccI, if_neg (fun z => z.1 (wfS_6.mp h31))]; rfl
          · refine x_iload_n C dX2_countConfusions_34 rfl ?_
            refine x_aload_n C dX2_countConfusions_35 rfl ?_
            refine x_iload C dX2_countConfusions_36 rfl ?_
            refine x_callV C (c_X2_wordFor hk (show i + 1 + t < 6 by omega)) kv_X2_wordFor kl_X2_66 dX2_countConfusions_38 (vput_s hk) rfl rfl rfl rfl (Nat.le_of_ble_eq_true rfl) (Nat.le_of_ble_eq_true rfl) (Nat.le_of_ble_eq_true rfl) (Nat.le_of_ble_eq_true rfl) (Nat.le_of_ble_eq_true rfl) ?_
            refine x_ic_ne C 47 dX2_countConfusions_41 (by decide) (fun h41 => ?_) (fun h41 => ?_)
            · refine x_iinc C dX2_countConfusions_47 rfl (nI_inc _) (by decide) rfl ?_
              refine x_goto C 21 dX2_countConfusions_50 (by decide) ?_
              refine xX.cl ih2 rfl (And.intro rfl (And.intro ?_ (And.intro rfl (And.intro rfl (And.intro rfl trivial))))) rfl
              rw [ccI, if_neg (fun z => h41 (wfS_ij.mpr z.2))]; rfl
            · refine x_iinc C dX2_countConfusions_44 rfl (nI_inc _) (by decide) rfl ?_
              refine x_iinc C dX2_countConfusions_47 rfl (nI_inc _) (by decide) rfl ?_
              refine x_goto C 21 dX2_countConfusions_50 (by decide) ?_
              refine xX.cl ih2 rfl (And.intro rfl (And.intro ?_ (And.intro rfl (And.intro rfl (And.intro rfl trivial))))) rfl
              rw [ccI, if_pos ⟨fun z => h31 (wfS_6.mpr z), wfS_ij.mp h41⟩]; rfl
      refine x_iload_n C dX2_countConfusions_4 rfl ?_
      refine x_bipush (v := 6) C dX2_countConfusions_5 (by decide) ?_
      refine x_ic_ge C 59 dX2_countConfusions_7 (by decide) (fun h => absurd h (nI_ge (b := 6) hi (by decide))) (fun _ => ?_)
      refine x_aload_n C dX2_countConfusions_10 rfl ?_
      refine x_iload_n C dX2_countConfusions_11 rfl ?_
      refine x_callV C (c_X2_wordFor hk hi) kv_X2_wordFor kl_X2_66 dX2_countConfusions_12 (vput_s hk) rfl rfl rfl rfl (Nat.le_of_ble_eq_true rfl) (Nat.le_of_ble_eq_true rfl) (Nat.le_of_ble_eq_true rfl) (Nat.le_of_ble_eq_true rfl) (Nat.le_of_ble_eq_true rfl) ?_
      refine x_istore_n C dX2_countConfusions_15 (by decide) rfl ?_
      refine x_iload_n C dX2_countConfusions_16 rfl ?_
      refine x_iconst (v := 1) C dX2_countConfusions_17 (by decide) ?_
      refine x_iadd C dX2_countConfusions_18 ?_
      refine x_istore C dX2_countConfusions_19 (by decide) rfl ?_
      refine xX.cl (hl2 0 (by omega)) rfl (And.intro rfl (And.intro rfl (And.intro rfl (And.intro rfl (And.intro (congrArg (fun z => some (some (Value.int z))) (nI_1 i)) trivial))))) rfl
  refine x_iconst (v := 0) C dX2_countConfusions_0 (by decide) ?_
  refine x_istore_n C dX2_countConfusions_1 (by decide) rfl ?_
  refine x_iconst (v := 0) C dX2_countConfusions_2 (by decide) ?_
  refine x_istore_n C dX2_countConfusions_3 (by decide) rfl ?_
  refine xX.cl (hl 0 (by omega)) rfl (And.intro rfl (And.intro rfl (And.intro rfl trivial))) rfl
set_option maxRecDepth 100000 in
set_option maxHeartbeats 1000000 in
theorem c_X2_beginLife_none {l : Launch} {E : xEnv} {B N : Nat} {σ : Sg} {b k : Nat} {V : Vs} (hk : k < 8) (sh : Int32) : xM l yX2_beginLife cX2_beginLife 6 none 2 44 0 0 E B [.ref (b + 2 + 2 * k), .null, .int sh] N (vput E σ b V) N (vput E σ b (blS V k (none : Option Nat) sh)) none := by
  refine xM_of [some (.ref _), some .null, some (.int _), none, none, none] (by decide +kernel) (Nat.le_of_ble_eq_true rfl) rfl (fun k0 C Z => ?_)
  have hl : ∀ i, i ≤ 6 → xX k0 N 0 0 (vput E σ b (blL V k (none : Option Nat) sh (14 * i))) 12 [some (.ref (b + 2 + 2 * k)), some .null, some (.int sh), some (.int (nI i)), none, none] [] := by
    refine x_for 6 ?_ ?_
    · refine x_iload_n C dX2_beginLife_12 rfl ?_
      refine x_bipush (v := 6) C dX2_beginLife_13 (by decide) ?_
      refine x_ic_ge C 71 dX2_beginLife_15 (by decide) (fun _ => ?_) (fun h => absurd (nI_le (a := 6) (Nat.le_refl _) (by decide)) h)
      exact x_vret C Z dX2_beginLife_71 (Nat.le_of_ble_eq_true rfl) (Nat.le_of_ble_eq_true rfl) rfl rfl
    · intro i hi ih
      have hl2 : ∀ j, j ≤ 14 → xX k0 N 0 0 (vput E σ b (blL V k (none : Option Nat) sh (14 * i + j))) 21 [some (.ref (b + 2 + 2 * k)), some .null, some (.int sh), some (.int (nI i)), some (.int (nI j)), none] [] := by
        refine x_for 14 ?_ ?_
        · refine x_iload C dX2_beginLife_21 rfl ?_
          refine x_bipush (v := 14) C dX2_beginLife_23 (by decide) ?_
          refine x_ic_ge C 65 dX2_beginLife_25 (by decide) (fun _ => ?_) (fun h => absurd (nI_le (a := 14) (Nat.le_refl _) (by decide)) h)
          refine x_iinc C dX2_beginLife_65 rfl (nI_inc _) (by decide) rfl ?_
          refine x_goto C 12 dX2_beginLife_68 (by decide) ?_
          refine xX.cl ih rfl (And.intro rfl (And.intro rfl (And.intro rfl (And.intro rfl trivial)))) rfl
        · intro j hi2 ih2
          refine x_iload C dX2_beginLife_21 rfl ?_
          refine x_bipush (v := 14) C dX2_beginLife_23 (by decide) ?_
          refine x_ic_ge C 65 dX2_beginLife_25 (by decide) (fun h => absurd h (nI_ge (b := 14) hi2 (by decide))) (fun _ => ?_)
          refine x_aload_nN C dX2_beginLife_28 rfl ?_
          refine x_ifnnN C dX2_beginLife_29 ?_
          refine x_iconst (v := 0) C dX2_beginLife_32 (by decide) ?_
          refine x_goto C 48 dX2_beginLife_33 (by decide) ?_
          refine x_istore C dX2_beginLife_48 (by decide) rfl ?_
          refine x_aload_n C dX2_beginLife_50 rfl ?_
          refine x_iload_n C dX2_beginLife_51 rfl ?_
          refine x_iload C dX2_beginLife_52 rfl ?_
          refine x_iload C dX2_beginLife_54 rfl ?_
          refine x_callV C (c_X2_putWeight hk hi hi2 _) kv_X2_putWeight kl_X2_40 dX2_beginLife_56 (vput_s hk) rfl rfl rfl rfl (Nat.le_of_ble_eq_true rfl) (Nat.le_of_ble_eq_true rfl) (Nat.le_of_ble_eq_true rfl) (Nat.le_of_ble_eq_true rfl) (Nat.le_of_ble_eq_true rfl) ?_
          refine x_iinc C dX2_beginLife_59 rfl (nI_inc _) (by decide) rfl ?_
          refine x_goto C 21 dX2_beginLife_62 (by decide) ?_
          refine xX.cl ih2 (congrArg _ (blL_s hk)) (And.intro rfl (And.intro rfl (And.intro rfl (And.intro rfl (And.intro rfl trivial))))) rfl
      refine x_iload_n C dX2_beginLife_12 rfl ?_
      refine x_bipush (v := 6) C dX2_beginLife_13 (by decide) ?_
      refine x_ic_ge C 71 dX2_beginLife_15 (by decide) (fun h => absurd h (nI_ge (b := 6) hi (by decide))) (fun _ => ?_)
      refine x_iconst (v := 0) C dX2_beginLife_18 (by decide) ?_
      refine x_istore C dX2_beginLife_19 (by decide) rfl ?_
      refine xX.cl (hl2 0 (by omega)) rfl (And.intro rfl (And.intro rfl (And.intro rfl (And.intro rfl (And.intro rfl trivial))))) rfl
  refine x_aload_n C dX2_beginLife_0 rfl ?_
  refine x_iconst (v := 0) C dX2_beginLife_1 (by decide) ?_
  refine x_put (ty := .int) C kf_X2_25 (vput_s hk) rfl (by decide +kernel) rfl rfl (Nat.le_of_ble_eq_true rfl) (vput_a hk _) dX2_beginLife_2 ?_
  refine x_aload_n C dX2_beginLife_5 rfl ?_
  refine x_iconst (v := 0) C dX2_beginLife_6 (by decide) ?_
  refine x_put (ty := .int) C kf_X2_29 (vput_s hk) rfl (by decide +kernel) rfl rfl (Nat.le_of_ble_eq_true rfl) (vput_m hk _) dX2_beginLife_7 ?_
  refine x_iconst (v := 0) C dX2_beginLife_10 (by decide) ?_
  refine x_istore_n C dX2_beginLife_11 (by decide) rfl ?_
  refine xX.cl (hl 0 (by omega)) (congrArg _ blL_0) (And.intro rfl (And.intro rfl (And.intro rfl (And.intro rfl trivial)))) rfl
set_option maxRecDepth 100000 in
set_option maxHeartbeats 1000000 in
theorem c_X2_beginLife_some {l : Launch} {E : xEnv} {B N : Nat} {σ : Sg} {b k : Nat} {V : Vs} (hk : k < 8) {t : Nat} (ht : t < 8) (hne : t ≠ k) (sh : Int32) : xM l yX2_beginLife cX2_beginLife 6 none 2 44 0 0 E B [.ref (b + 2 + 2 * k), .ref (b + 2 + 2 * t), .int sh] N (vput E σ b V) N (vput E σ b (blS V k (some t) sh)) none := by
  refine xM_of [some (.ref _), some (.ref _), some (.int _), none, none, none] (by decide +kernel) (Nat.le_of_ble_eq_true rfl) rfl (fun k0 C Z => ?_)
  have hl : ∀ i, i ≤ 6 → xX k0 N 0 0 (vput E σ b (blL V k (some t) sh (14 * i))) 12 [some (.ref (b + 2 + 2 * k)), some (.ref (b + 2 + 2 * t)), some (.int sh), some (.int (nI i)), none, none] [] := by
    refine x_for 6 ?_ ?_
    · refine x_iload_n C dX2_beginLife_12 rfl ?_
      refine x_bipush (v := 6) C dX2_beginLife_13 (by decide) ?_
      refine x_ic_ge C 71 dX2_beginLife_15 (by decide) (fun _ => ?_) (fun h => absurd (nI_le (a := 6) (Nat.le_refl _) (by decide)) h)
      exact x_vret C Z dX2_beginLife_71 (Nat.le_of_ble_eq_true rfl) (Nat.le_of_ble_eq_true rfl) rfl rfl
    · intro i hi ih
      have hl2 : ∀ j, j ≤ 14 → xX k0 N 0 0 (vput E σ b (blL V k (some t) sh (14 * i + j))) 21 [some (.ref (b + 2 + 2 * k)), some (.ref (b + 2 + 2 * t)), some (.int sh), some (.int (nI i)), some (.int (nI j)), none] [] := by
        refine x_for 14 ?_ ?_
        · refine x_iload C dX2_beginLife_21 rfl ?_
          refine x_bipush (v := 14) C dX2_beginLife_23 (by decide) ?_
          refine x_ic_ge C 65 dX2_beginLife_25 (by decide) (fun _ => ?_) (fun h => absurd (nI_le (a := 14) (Nat.le_refl _) (by decide)) h)
          refine x_iinc C dX2_beginLife_65 rfl (nI_inc _) (by decide) rfl ?_
          refine x_goto C 12 dX2_beginLife_68 (by decide) ?_
          refine xX.cl ih rfl (And.intro rfl (And.intro rfl (And.intro rfl (And.intro rfl trivial)))) rfl
        · intro j hi2 ih2
          refine x_iload C dX2_beginLife_21 rfl ?_
          refine x_bipush (v := 14) C dX2_beginLife_23 (by decide) ?_
          refine x_ic_ge C 65 dX2_beginLife_25 (by decide) (fun h => absurd h (nI_ge (b := 14) hi2 (by decide))) (fun _ => ?_)
          refine x_aload_n C dX2_beginLife_28 rfl ?_
          refine x_ifnn C 36 dX2_beginLife_29 (by decide) ?_
          refine x_aload_n C dX2_beginLife_36 rfl ?_
          refine x_iload_n C dX2_beginLife_37 rfl ?_
          refine x_iload C dX2_beginLife_38 rfl ?_
          refine x_callV C (c_X2_weightOf ht hi hi2) kv_X2_weightOf kl_X2_36 dX2_beginLife_40 (vput_s ht) rfl rfl rfl rfl (Nat.le_of_ble_eq_true rfl) (Nat.le_of_ble_eq_true rfl) (Nat.le_of_ble_eq_true rfl) (Nat.le_of_ble_eq_true rfl) (Nat.le_of_ble_eq_true rfl) ?_
          refine x_iload_n C dX2_beginLife_43 rfl ?_
          refine x_imul C dX2_beginLife_44 ?_
          refine x_bipush (v := 100) C dX2_beginLife_45 (by decide) ?_
          refine x_idiv C dX2_beginLife_47 (by decide) ?_
          refine x_istore C dX2_beginLife_48 (by decide) rfl ?_
          refine x_aload_n C dX2_beginLife_50 rfl ?_
          refine x_iload_n C dX2_beginLife_51 rfl ?_
          refine x_iload C dX2_beginLife_52 rfl ?_
          refine x_iload C dX2_beginLife_54 rfl ?_
          refine x_callV C (c_X2_putWeight hk hi hi2 _) kv_X2_putWeight kl_X2_40 dX2_beginLife_56 (vput_s hk) rfl rfl rfl rfl (Nat.le_of_ble_eq_true rfl) (Nat.le_of_ble_eq_true rfl) (Nat.le_of_ble_eq_true rfl) (Nat.le_of_ble_eq_true rfl) (Nat.le_of_ble_eq_true rfl) ?_
          refine x_iinc C dX2_beginLife_59 rfl (nI_inc _) (by decide) rfl ?_
          refine x_goto C 21 dX2_beginLife_62 (by decide) ?_
          refine xX.cl ih2 (by rw [blL_t ht hk hne]; exact congrArg _ (blL_s hk)) (And.intro rfl (And.intro rfl (And.intro rfl (And.intro rfl (And.intro rfl trivial))))) rfl
      refine x_iload_n C dX2_beginLife_12 rfl ?_
      refine x_bipush (v := 6) C dX2_beginLife_13 (by decide) ?_
      refine x_ic_ge C 71 dX2_beginLife_15 (by decide) (fun h => absurd h (nI_ge (b := 6) hi (by decide))) (fun _ => ?_)
      refine x_iconst (v := 0) C dX2_beginLife_18 (by decide) ?_
      refine x_istore C dX2_beginLife_19 (by decide) rfl ?_
      refine xX.cl (hl2 0 (by omega)) rfl (And.intro rfl (And.intro rfl (And.intro rfl (And.intro rfl (And.intro rfl trivial))))) rfl
  refine x_aload_n C dX2_beginLife_0 rfl ?_
  refine x_iconst (v := 0) C dX2_beginLife_1 (by decide) ?_
  refine x_put (ty := .int) C kf_X2_25 (vput_s hk) rfl (by decide +kernel) rfl rfl (Nat.le_of_ble_eq_true rfl) (vput_a hk _) dX2_beginLife_2 ?_
  refine x_aload_n C dX2_beginLife_5 rfl ?_
  refine x_iconst (v := 0) C dX2_beginLife_6 (by decide) ?_
  refine x_put (ty := .int) C kf_X2_29 (vput_s hk) rfl (by decide +kernel) rfl rfl (Nat.le_of_ble_eq_true rfl) (vput_m hk _) dX2_beginLife_7 ?_
  refine x_iconst (v := 0) C dX2_beginLife_10 (by decide) ?_
  refine x_istore_n C dX2_beginLife_11 (by decide) rfl ?_
  refine xX.cl (hl 0 (by omega)) (congrArg _ blL_0) (And.intro rfl (And.intro rfl (And.intro rfl (And.intro rfl trivial)))) rfl
set_option maxRecDepth 100000 in
set_option maxHeartbeats 1000000 in
theorem c_X2_arrive {l : Launch} {E : xEnv} {B N : Nat} {σ : Sg} {b k : Nat} {V : Vs} (hk : k < 8) : xM l yX2_arrive cX2_arrive 1 none 3 69 0 0 E B [.ref (b + 2 + 2 * k)] N (vput E σ b V) N (vput E σ b (blS (up2 V 10 k 1) k none 0)) none := by
  refine xM_of [some (.ref _)] (by decide +kernel) (Nat.le_of_ble_eq_true rfl) rfl (fun k0 C Z => ?_)
  refine x_aload_n C dX2_arrive_0 rfl ?_
  refine x_iconst (v := 1) C dX2_arrive_1 (by decide) ?_
  refine x_put (ty := .boolean) C kf_X2_21 (vput_s hk) rfl (by decide +kernel) rfl rfl (Nat.le_of_ble_eq_true rfl) (vput_p1 hk) dX2_arrive_2 ?_
  refine x_aload_n C dX2_arrive_5 rfl ?_
  refine x_null C dX2_arrive_6 ?_
  refine x_iconst (v := 0) C dX2_arrive_7 (by decide) ?_
  refine x_callV C (c_X2_beginLife_none hk _) kv_X2_beginLife kl_X2_32 dX2_arrive_8 (vput_s hk) rfl rfl rfl rfl (Nat.le_of_ble_eq_true rfl) (Nat.le_of_ble_eq_true rfl) (Nat.le_of_ble_eq_true rfl) (Nat.le_of_ble_eq_true rfl) (Nat.le_of_ble_eq_true rfl) ?_
  exact x_vret C Z dX2_arrive_11 (Nat.le_of_ble_eq_true rfl) (Nat.le_of_ble_eq_true rfl) rfl rfl
set_option maxRecDepth 100000 in
set_option maxHeartbeats 1000000 in
theorem c_X2_leave {l : Launch} {E : xEnv} {B N : Nat} {σ : Sg} {b k : Nat} {V : Vs} (hk : k < 8) : xM l yX2_leave cX2_leave 1 none 0 0 0 0 E B [.ref (b + 2 + 2 * k)] N (vput E σ b V) N (vput E σ b (up2 V 10 k 0)) none := by
  refine xM_of [some (.ref _)] (by decide +kernel) (Nat.le_of_ble_eq_true rfl) rfl (fun k0 C Z => ?_)
  refine x_aload_n C dX2_leave_0 rfl ?_
  refine x_iconst (v := 0) C dX2_leave_1 (by decide) ?_
  refine x_put (ty := .boolean) C kf_X2_21 (vput_s hk) rfl (by decide +kernel) rfl rfl (Nat.le_of_ble_eq_true rfl) (vput_p0 hk) dX2_leave_2 ?_
  exact x_vret C Z dX2_leave_5 (Nat.le_of_ble_eq_true rfl) (Nat.le_of_ble_eq_true rfl) rfl rfl
set_option maxRecDepth 100000 in
set_option maxHeartbeats 1000000 in
theorem c_X2_copyFrom {l : Launch} {E : xEnv} {B N : Nat} {σ : Sg} {b c k : Nat} {V W : Vs} (hk : k < 8) (hd : b + 20 ≤ c ∨ c + 20 ≤ b) : xM l yX2_copyFrom cX2_copyFrom 2 none 1 32 0 0 E B [.ref (b + 2 + 2 * k), .ref (c + 2 + 2 * k)] N (vput E (vput E σ b V) c W) N (vput E (vput E σ b (cpK V W k)) c W) none := by
  refine xM_of [some (.ref _), some (.ref _)] (by decide +kernel) (Nat.le_of_ble_eq_true rfl) rfl (fun k0 C Z => ?_)
  refine x_aload_n C dX2_copyFrom_0 rfl ?_
  refine x_get C kf_X2_9 (vput_s hk) rfl dX2_copyFrom_1 ?_
  refine x_iconst (v := 0) C dX2_copyFrom_4 (by decide) ?_
  refine x_aload_n C dX2_copyFrom_5 rfl ?_
  refine x_get C kf_X2_9 (by rw [vput_out (by omega)]; exact vput_s hk) rfl dX2_copyFrom_6 ?_
  refine x_iconst (v := 0) C dX2_copyFrom_9 (by decide) ?_
  refine x_bipush (v := 84) C dX2_copyFrom_10 (by decide) ?_
  refine x_copy C kl_X2_15 kz_native kz_static ki_sys (vput_w hk) (by rw [vput_out (by omega)]; exact vput_w hk) (by omega) (by decide) (by decide) (by decide) (by decide) (by decide) (g2 := W k) cpy84 (Nat.le_of_ble_eq_true rfl) (Nat.le_of_ble_eq_true rfl) (by rw [xup_o (by omega), vput_rowk hk]) dX2_copyFrom_12 ?_
  refine x_aload_n C dX2_copyFrom_15 rfl ?_
  refine x_aload_n C dX2_copyFrom_16 rfl ?_
  refine x_get C kf_X2_21 (vput_s hk) rfl dX2_copyFrom_17 ?_
  refine x_put (ty := .boolean) C kf_X2_21 (by rw [vput_out (by omega)]; exact vput_s hk) rfl (by decide +kernel) (xfl_nar _) (xfl_fit _) (Nat.le_of_ble_eq_true rfl) (by rw [xup_o (by omega), vput_p hk]) dX2_copyFrom_20 ?_
  refine x_aload_n C dX2_copyFrom_23 rfl ?_
  refine x_aload_n C dX2_copyFrom_24 rfl ?_
  refine x_get C kf_X2_25 (vput_s hk) rfl dX2_copyFrom_25 ?_
  refine x_put (ty := .int) C kf_X2_25 (by rw [vput_out (by omega)]; exact vput_s hk) rfl (by decide +kernel) rfl rfl (Nat.le_of_ble_eq_true rfl) (by rw [xup_o (by omega), vput_a hk]) dX2_copyFrom_28 ?_
  refine x_aload_n C dX2_copyFrom_31 rfl ?_
  refine x_aload_n C dX2_copyFrom_32 rfl ?_
  refine x_get C kf_X2_29 (vput_s hk) rfl dX2_copyFrom_33 ?_
  refine x_put (ty := .int) C kf_X2_29 (by rw [vput_out (by omega)]; exact vput_s hk) rfl (by decide +kernel) rfl rfl (Nat.le_of_ble_eq_true rfl) (by rw [xup_o (by omega), vput_m hk]) dX2_copyFrom_36 ?_
  exact x_vret C Z dX2_copyFrom_39 (Nat.le_of_ble_eq_true rfl) (Nat.le_of_ble_eq_true rfl) rfl rfl
end
section
/-! village: counts, draws, meetings, years -/
def cpV (V W : Vs) : Vs := up2 (up2 (up2 (up2 (up2 (upr (cpL V W 8) 8 (W 8)) 9 0 (W 9 0)) 9 1 (W 9 1)) 9 2 (W 9 2)) 9 3 (W 9 3)) 9 4 (W 9 4)
def cnN (P : Fn) : Nat → Nat
  | 0 => 0
  | n + 1 => cnN P n + (if P n = 1 then 1 else 0)
def cxN (P : Fn) (lo : Int32) : Nat → Nat
  | 0 => 0
  | n + 1 => cxN P lo n + (if P n = 1 ∧ ¬ nI n = lo then 1 else 0)
theorem cxN_le {P : Fn} {lo : Int32} : ∀ n, cxN P lo n ≤ n
  | 0 => Nat.le_refl _
  | n + 1 => by
    have := cxN_le (P := P) (lo := lo) n
    unfold cxN
    split <;> omega
theorem cnN_le {P : Fn} : ∀ n, cnN P n ≤ n
  | 0 => Nat.le_refl _
  | n + 1 => by
    have := cnN_le (P := P) n
    unfold cnN
    split <;> omega
/-- the speaker with p others before, one of them left out -/
def kS (P : Fn) (lo : Int32) (p : Nat) : Nat := ((List.range 8).find? (fun q => decide (P q = 1 ∧ ¬ nI q = lo ∧ cxN P lo q = p))).getD 0
theorem kS_ex {P : Fn} {lo : Int32} {p : Nat} : ∀ n, p < cxN P lo n → ∃ q, q < n ∧ P q = 1 ∧ ¬ nI q = lo ∧ cxN P lo q = p
  | 0, h => absurd h (Nat.not_lt_zero _)
  | n + 1, h => by
    unfold cxN at h
    by_cases hc : P n = 1 ∧ ¬ nI n = lo
    · rw [if_pos hc] at h
      by_cases he : cxN P lo n = p
      · exact ⟨n, Nat.lt_succ_self n, hc.1, hc.2, he⟩
      · obtain ⟨q, h1, h2⟩ := kS_ex n (show p < cxN P lo n by omega)
        exact ⟨q, by omega, h2⟩
    · rw [if_neg hc, Nat.add_zero] at h
      obtain ⟨q, h1, h2⟩ := kS_ex n h
      exact ⟨q, by omega, h2⟩
theorem kS_ok {P : Fn} {lo : Int32} {p : Nat} (h : p < cxN P lo 8) : kS P lo p < 8 ∧ P (kS P lo p) = 1 ∧ ¬ nI (kS P lo p) = lo ∧ cxN P lo (kS P lo p) = p := by
  unfold kS
  cases hf : (List.range 8).find? (fun q => decide (P q = 1 ∧ ¬ nI q = lo ∧ cxN P lo q = p)) with
  | none =>
    obtain ⟨q, h1, h2⟩ := kS_ex 8 h
    have := List.find?_eq_none.mp hf q (List.mem_range.mpr h1)
    exact absurd (decide_eq_true h2) this
  | some q =>
    have h1 := List.find?_some hf
    have h2 := List.mem_range.mp (List.mem_of_find?_eq_some hf)
    exact ⟨h2, of_decide_eq_true h1⟩
/-- the seed -/
def sok (V : Vs) : Prop := ∃ q, q < 65536 ∧ V 9 0 = nI q
def sdN (x : Int32) : Nat := (25173 * x.toNatClampNeg + 13849) % 65536
def drV (V : Vs) : Vs := up2 V 9 0 (nI (sdN (V 9 0)))
def dvN (V : Vs) (n : Nat) : Nat := sdN (V 9 0) / 16 % n
theorem sdN_lt {x : Int32} : sdN x < 65536 := Nat.mod_lt _ (by decide)
theorem drV_ok {V : Vs} : sok (drV V) := ⟨_, sdN_lt, by rw [drV, up2_s]⟩
theorem dr_e {V : Vs} (h : sok V) : 25173 * V 9 0 + 13849 - (25173 * V 9 0 + 13849) / 65536 * 65536 = nI (sdN (V 9 0)) := by
  obtain ⟨q, hq, e⟩ := h
  unfold sdN
  rw [e, nI_clamp (by omega), show (25173 : Int32) = nI 25173 from rfl, show (13849 : Int32) = nI 13849 from rfl, show (65536 : Int32) = nI 65536 from rfl, pk_mul, nI_add, pk_rem (by omega) (by decide) (by decide)]
theorem dv_e {x n : Nat} (hx : x < 65536) (h0 : 0 < n) (hn : n < 2 ^ 31) : nI x / 16 - nI x / 16 / nI n * nI n = nI (x / 16 % n) := by
  rw [show (16 : Int32) = nI 16 from rfl, pk_div (by omega) (by decide) (by decide), pk_rem (by omega) h0 hn]
theorem dvN_lt {V : Vs} {n : Nat} (h : 0 < n) : dvN V n < n := Nat.mod_lt _ h
/-- a meeting: what is said, what is heard -/
def wdN (V : Vs) (k m : Nat) : Vs × Nat := match wfS (V k) m with
  | none => (drV V, dvN V 14)
  | some w => (V, w)
def hdN (V : Vs) (k w : Nat) : Vs × Nat := match haS (V k) w with
  | none => (drV V, dvN V 6)
  | some m => (V, m)
def mc1 (V : Vs) : Vs := up2 V 9 1 (V 9 1 + 1)
def mck (V : Vs) (k : Nat) : Vs := up2 V 12 k (V 12 k + 1)
def mtC (V : Vs) (k1 k2 : Nat) : Vs := mck (mck (mc1 V) k1) k2
def mtG (V : Vs) : Vs := up2 V 9 2 (V 9 2 + 1)
def mtA (V : Vs) (k1 k2 m w : Nat) : Vs := prS V k1 m w (lnS (V 11 k1) (V 8 0)) (V 8 1)
def mtS (V : Vs) (k1 k2 m w : Nat) (x : Int32) : Vs := fmS (prS (prS (mtG V) k1 m w (lnS (mtG V 11 k1) (mtG V 8 0)) x) k2 m w (lnS (prS (mtG V) k1 m w (lnS (mtG V 11 k1) (mtG V 8 0)) x 11 k2) (prS (mtG V) k1 m w (lnS (mtG V 11 k1) (mtG V 8 0)) x 8 0)) x) k2 m w x
def mtN (V : Vs) (k1 k2 m w h : Nat) (x : Int32) : Vs := chS (chS (chS V k1 m w (-x)) k2 m w 1) k2 h w (-x)
def mtF (V : Vs) (k1 k2 m w h : Nat) : Vs := if h = m then mtS (mtC V k1 k2) k1 k2 m w (mtC V k1 k2 8 1) else mtN (mtC V k1 k2) k1 k2 m w h (mtC V k1 k2 8 1)
/-- the village, the word and the meaning as which it is heard, ahead of what is learnt; and the village behind it -/
def mt1 (V : Vs) (k1 k2 m : Nat) : Vs × Nat × Nat := ((hdN (wdN V k1 m).1 k2 (wdN V k1 m).2).1, (wdN V k1 m).2, (hdN (wdN V k1 m).1 k2 (wdN V k1 m).2).2)
def mtV (V : Vs) (k1 k2 m : Nat) : Vs := mtF (mt1 V k1 k2 m).1 k1 k2 m (mt1 V k1 k2 m).2.1 (mt1 V k1 k2 m).2.2
theorem wdN_lt {V : Vs} {k m : Nat} : (wdN V k m).2 < 14 := by
  unfold wdN
  split
  · exact dvN_lt (by decide)
  · rename_i w h; exact wfS_in h
theorem hdN_lt {V : Vs} {k w : Nat} : (hdN V k w).2 < 6 := by
  unfold hdN
  split
  · exact dvN_lt (by decide)
  · rename_i m h; exact haS_in h
theorem wdN_ok {V : Vs} {k m : Nat} (h : sok V) : sok (wdN V k m).1 := by
  unfold wdN
  split
  · exact drV_ok
  · exact h
theorem hdN_ok {V : Vs} {k m : Nat} (h : sok V) : sok (hdN V k m).1 := by
  unfold hdN
  split
  · exact drV_ok
  · exact h
/-- one chance meeting in a village of c speakers -/
def c1S (V : Vs) (c : Nat) : Nat := kS (V 10) (-1) (dvN V c)
def c2S (V : Vs) (c : Nat) : Nat := kS (V 10) (nI (c1S V c)) (dvN (drV V) (c - 1))
def cmN (V : Vs) : Nat := dvN (drV (drV V)) 6
def chT (V : Vs) (c : Nat) : Vs := mtV (drV (drV (drV V))) (c1S V c) (c2S V c) (cmN V)
def chL (V : Vs) (c : Nat) : Nat → Vs
  | 0 => V
  | n + 1 => chT (chL V c n) c
/-- years -/
def agL (V : Vs) (i : Nat) : Vs := fun r j => if r = 11 ∧ j < i ∧ V 10 j = 1 then V r j + 1 else V r j
theorem agL_0 {V : Vs} : agL V 0 = V := by
  funext r j
  unfold agL
  rw [if_neg (by omega)]
theorem agL_t {V : Vs} {i : Nat} (h : V 10 i = 1) : up2 (agL V i) 11 i (agL V i 11 i + 1) = agL V (i + 1) := by
  funext r j
  by_cases h1 : r = 11 ∧ j = i
  · obtain ⟨rfl, rfl⟩ := h1
    rw [up2_s]
    unfold agL
    rw [if_neg (by omega), if_pos ⟨rfl, by omega, h⟩]
  · rw [up2_n h1]
    unfold agL
    by_cases h2 : r = 11 ∧ j < i ∧ V 10 j = 1
    · rw [if_pos h2, if_pos ⟨h2.1, by omega, h2.2.2⟩]
    · rw [if_neg h2, if_neg (fun z => h2 ⟨z.1, by omega, z.2.2⟩)]
theorem agL_f {V : Vs} {i : Nat} (h : ¬ V 10 i = 1) : agL V i = agL V (i + 1) := by
  funext r j
  unfold agL
  by_cases h2 : r = 11 ∧ j < i ∧ V 10 j = 1
  · rw [if_pos h2, if_pos ⟨h2.1, by omega, h2.2.2⟩]
  · rw [if_neg h2, if_neg (fun z => by
      by_cases e : j = i
      · subst e; exact h z.2.2
      · exact h2 ⟨z.1, by omega, z.2.2⟩)]
def teS (V : Vs) (c : Nat) : Nat → Option Nat
  | 0 => none
  | n + 1 => if n = c ∨ ¬ V 10 n = 1 ∨ ¬ V 11 n ≤ V 8 2 then teS V c n else match teS V c n with
    | none => some n
    | some y => if V 11 y ≤ V 11 n then some y else some n
theorem teS_in {V : Vs} {c : Nat} : ∀ {n y : Nat}, teS V c n = some y → y < n ∧ y ≠ c
  | 0, y, h => by simp [teS] at h
  | n + 1, y, h => by
    unfold teS at h
    split at h
    · have := teS_in h; omega
    · rename_i hc
      cases ht : teS V c n with
      | none =>
        rw [ht] at h
        simp at h
        omega
      | some z =>
        rw [ht] at h
        have hz := teS_in ht
        simp at h
        split at h
        · simp at h; omega
        · simp at h; omega
def byK (W : Vs) (i : Nat) : Vs := if W 10 i = 1 ∧ ¬ W 11 i ≤ W 8 2 then up2 (blS W i (teS W i 8) (W 8 3)) 9 3 (blS W i (teS W i 8) (W 8 3) 9 3 + 1) else W
def byL (V : Vs) : Nat → Vs
  | 0 => V
  | n + 1 => byK (byL V n) n
def yrS (V : Vs) : Vs := byL (agL (up2 V 9 4 (V 9 4 + 1)) 8) 8
def yrL (V : Vs) : Nat → Vs
  | 0 => V
  | n + 1 => yrS (yrL V n)
/-- numbers that are asked -/
def swL (V : Vs) : Nat → Int32
  | 0 => 0
  | n + 1 => if V 10 n = 1 then swL V n + smL (V n) 84 else swL V n
def nuS (V : Vs) (j : Nat) : Int32 := if j = 0 then nI (cnN (V 10) 8) else if j = 6 then swL V 8 else V 9 (j - 1)
def nsS (V : Vs) (k j : Nat) : Int32 := if j = 0 then V 11 k else if j = 1 then lnS (V 11 k) (V 8 0) else if j = 2 then nI (cwN (V k) 6) else if j = 3 then nI (ccN (V k) 6) else V 12 k
/-- how many of the first n speakers have the word w for the meaning m -/
def cuN (V : Vs) (m w : Nat) : Nat → Nat
  | 0 => 0
  | n + 1 => cuN V m w n + (if V 10 n = 1 ∧ wfS (V n) m = some w then 1 else 0)
theorem cuN_le {V : Vs} {m w : Nat} : ∀ n, cuN V m w n ≤ n
  | 0 => Nat.le_refl _
  | n + 1 => by
    have := cuN_le (V := V) (m := m) (w := w) n
    unfold cuN
    split <;> omega
def usR (V : Vs) (m n : Nat) : Vs := upr V 13 (fun w => if w < 14 then nI (cuN V m w n) else V 13 w)
def usZ (V : Vs) (i : Nat) : Vs := upr V 13 (fun w => if w < i then 0 else V 13 w)
def cmS (V : Vs) (m : Nat) : Option Nat := (wfL (fun w => nI (cuN V m w 8)) 14).1
theorem usZ_0 {V : Vs} : usZ V 0 = V := by
  funext r j
  unfold usZ upr
  by_cases h : r = 13
  · subst h; rw [if_pos rfl, if_neg (by omega)]
  · rw [if_neg h]
theorem usZ_s {V : Vs} {i : Nat} : up2 (usZ V i) 13 i 0 = usZ V (i + 1) := by
  funext r j
  by_cases h : r = 13 ∧ j = i
  · obtain ⟨rfl, rfl⟩ := h
    rw [up2_s]
    unfold usZ upr
    rw [if_pos rfl, if_pos (by omega)]
  · rw [up2_n h]
    unfold usZ upr
    by_cases h2 : r = 13
    · subst h2
      rw [if_pos rfl, if_pos rfl]
      by_cases h3 : j < i
      · rw [if_pos h3, if_pos (by omega)]
      · rw [if_neg h3, if_neg (by omega)]
    · rw [if_neg h2, if_neg h2]
theorem usR_0 {V : Vs} {m : Nat} : usZ V 14 = usR V m 0 := rfl
theorem usR_r {V : Vs} {m n r : Nat} (h : r ≠ 13) : usR V m n r = V r := upr_n h
theorem usR_w {V : Vs} {m n w : Nat} (h : w < 14) : usR V m n 13 w = nI (cuN V m w n) := by
  unfold usR
  rw [upr_s, if_pos h]
theorem usR_f {V : Vs} {m n : Nat} (h : ∀ w, ¬ (V 10 n = 1 ∧ wfS (V n) m = some w)) : usR V m n = usR V m (n + 1) := by
  unfold usR
  congr 1
  funext w
  rw [cuN, if_neg (h w), Nat.add_zero]
theorem usR_t {V : Vs} {m n w : Nat} (h1 : V 10 n = 1) (h2 : wfS (V n) m = some w) : up2 (usR V m n) 13 w (usR V m n 13 w + 1) = usR V m (n + 1) := by
  have hw := wfS_in h2
  funext r j
  by_cases h : r = 13 ∧ j = w
  · obtain ⟨rfl, rfl⟩ := h
    rw [up2_s, usR_w hw, usR_w hw, cuN, if_pos ⟨h1, h2⟩, nI_1]
  · rw [up2_n h]
    by_cases h3 : r = 13
    · subst h3
      unfold usR
      rw [upr_s, upr_s]
      by_cases h4 : j < 14
      · rw [if_pos h4, if_pos h4, cuN, if_neg (fun z => h ⟨rfl, by rw [h2] at z; exact (Option.some.inj z.2).symm⟩), Nat.add_zero]
      · rw [if_neg h4, if_neg h4]
    · rw [usR_r h3, usR_r h3]
theorem cxN_s {P : Fn} {lo : Int32} {i q : Nat} (hi : i < q) (h1 : P i = 1) (h2 : ¬ nI i = lo) : cxN P lo i < cxN P lo q := by
  obtain ⟨d, rfl⟩ : ∃ d, q = i + 1 + d := ⟨q - (i + 1), by omega⟩
  clear hi
  induction d with
  | zero =>
    show _ < cxN P lo (i + 1)
    rw [cxN, if_pos ⟨h1, h2⟩]
    omega
  | succ d ih =>
    show _ < cxN P lo (i + 1 + d + 1)
    rw [cxN]
    omega
theorem cx_ne {P : Fn} {lo : Int32} {i q p : Nat} (hq : q < 8) (hi : i < q) (h1 : P i = 1) (h2 : ¬ nI i = lo) (h3 : cxN P lo q = p) : ¬ nI (cxN P lo i) = nI p := by
  have a := cxN_s hi h1 h2
  have b := cxN_le (P := P) (lo := lo) q
  intro e
  have := (nI_eq (by omega) (by omega)).mp e
  omega
theorem nI_m1 (q : Nat) (h : q < 2 ^ 31) : ¬ nI q = -1 := by
  intro e
  have h1 := nI_toInt h
  rw [e] at h1
  have h2 : ((-1 : Int32)).toInt = -1 := by decide
  omega
theorem cxN_m1 {P : Fn} : ∀ n, n ≤ 8 → cxN P (-1) n = cnN P n
  | 0, _ => rfl
  | n + 1, h => by
    rw [cxN, cnN, cxN_m1 n (by omega)]
    by_cases hp : P n = 1
    · rw [if_pos ⟨hp, nI_m1 n (by omega)⟩, if_pos hp]
    · rw [if_neg (fun z => hp z.1), if_neg hp]
theorem cxN_w {P : Fn} {s : Nat} (hs : s < 8) (hp : P s = 1) : ∀ n, n ≤ 8 → cxN P (nI s) n + (if s < n then 1 else 0) = cnN P n
  | 0, _ => rfl
  | n + 1, h => by
    have ih := cxN_w hs hp n (by omega)
    rw [cxN, cnN]
    by_cases e : n = s
    · subst e
      rw [if_neg (fun z => z.2 rfl), if_pos hp, if_pos (by omega)]
      rw [if_neg (by omega)] at ih
      omega
    · have e2 : ¬ nI n = nI s := fun z => e ((nI_eq (by omega) (by omega)).mp z)
      by_cases hp2 : P n = 1
      · rw [if_pos ⟨hp2, e2⟩, if_pos hp2]
        by_cases h3 : s < n
        · rw [if_pos h3] at ih; rw [if_pos (by omega)]; omega
        · rw [if_neg h3] at ih; rw [if_neg (by omega)]; omega
      · rw [if_neg (fun z => hp2 z.1), if_neg hp2]
        by_cases h3 : s < n
        · rw [if_pos h3] at ih; rw [if_pos (by omega)]; omega
        · rw [if_neg h3] at ih; rw [if_neg (by omega)]; omega
-- rows that stay
theorem drV_r {V : Vs} {r : Nat} (h : r ≠ 9) : drV V r = V r := up2_r h
theorem chS_r {V : Vs} {k m w r : Nat} {d : Int32} (h : r ≠ k) : chS V k m w d r = V r := up2_r h
theorem prS_r {V : Vs} {k m w r : Nat} {a x : Int32} (h : r ≠ k) : prS V k m w a x r = V r := by
  funext j
  unfold prS prL
  rw [if_neg (fun z => h z.1), if_neg (fun z => h z.1)]
theorem fmS_r {V : Vs} {k m w r : Nat} {x : Int32} (h : r ≠ k) : fmS V k m w x r = V r := by
  funext j
  unfold fmS fmL
  rw [if_neg (fun z => h z.1)]
theorem mtC_r {V : Vs} {k1 k2 r : Nat} (h : r ≠ 9) (h2 : r ≠ 12) : mtC V k1 k2 r = V r := by
  unfold mtC mck mc1
  rw [up2_r h2, up2_r h2, up2_r h]
theorem mtF_r {V : Vs} {k1 k2 m w h r : Nat} (h1 : r ≠ k1) (h2 : r ≠ k2) (h3 : r ≠ 9) (h4 : r ≠ 12) : mtF V k1 k2 m w h r = V r := by
  unfold mtF
  split
  · unfold mtS mtG
    rw [fmS_r h2, prS_r h2, prS_r h1, up2_r h3, mtC_r h3 h4]
  · unfold mtN
    rw [chS_r h2, chS_r h2, chS_r h1, mtC_r h3 h4]
theorem wdN_r {V : Vs} {k m r : Nat} (h : r ≠ 9) : (wdN V k m).1 r = V r := by
  unfold wdN
  split
  · exact drV_r h
  · rfl
theorem hdN_r {V : Vs} {k m r : Nat} (h : r ≠ 9) : (hdN V k m).1 r = V r := by
  unfold hdN
  split
  · exact drV_r h
  · rfl
theorem mtV_r {V : Vs} {k1 k2 m r : Nat} (h1 : r ≠ k1) (h2 : r ≠ k2) (h3 : r ≠ 9) (h4 : r ≠ 12) : mtV V k1 k2 m r = V r := by
  unfold mtV
  rw [mtF_r h1 h2 h3 h4]
  unfold mt1
  rw [hdN_r h3, wdN_r h3]
theorem mtF_sd {V : Vs} {k1 k2 m w h : Nat} (hk1 : k1 < 8) (hk2 : k2 < 8) : mtF V k1 k2 m w h 9 0 = V 9 0 := by
  have e : mtC V k1 k2 9 0 = V 9 0 := by
    unfold mtC mck mc1
    rw [up2_n (by omega), up2_n (by omega), up2_n (by omega)]
  unfold mtF
  split
  · unfold mtS mtG
    rw [fmS_r (by omega), prS_r (by omega), prS_r (by omega), up2_n (by omega), e]
  · unfold mtN
    rw [chS_r (by omega), chS_r (by omega), chS_r (by omega), e]
theorem mtV_ok {V : Vs} {k1 k2 m : Nat} (hk1 : k1 < 8) (hk2 : k2 < 8) (h : sok V) : sok (mtV V k1 k2 m) := by
  obtain ⟨q, hq, e⟩ := hdN_ok (k := k2) (m := (wdN V k1 m).2) (wdN_ok (k := k1) (m := m) h)
  refine ⟨q, hq, ?_⟩
  unfold mtV
  rw [mtF_sd hk1 hk2]
  dsimp only [mt1]
  exact e
/-- who meets -/
theorem ch_f {W : Vs} {c : Nat} (hc : cnN (W 10) 8 = c) (h2 : 2 ≤ c) : (c1S W c < 8 ∧ W 10 (c1S W c) = 1 ∧ ¬ nI (c1S W c) = -1 ∧ cxN (W 10) (-1) (c1S W c) = dvN W c) ∧ (c2S W c < 8 ∧ W 10 (c2S W c) = 1 ∧ ¬ nI (c2S W c) = nI (c1S W c) ∧ cxN (W 10) (nI (c1S W c)) (c2S W c) = dvN (drV W) (c - 1)) ∧ cmN W < 6 := by
  have a := kS_ok (P := W 10) (lo := -1) (p := dvN W c) (by rw [cxN_m1 8 (Nat.le_refl _), hc]; exact dvN_lt (by omega))
  refine ⟨a, ?_, dvN_lt (by decide)⟩
  have e := cxN_w (P := W 10) (s := c1S W c) a.1 a.2.1 8 (Nat.le_refl _)
  rw [if_pos (show c1S W c < 8 from a.1), hc] at e
  exact kS_ok (P := W 10) (lo := nI (c1S W c)) (p := dvN (drV W) (c - 1)) (by have := dvN_lt (V := drV W) (n := c - 1) (by omega); omega)
theorem chT_r {V : Vs} {c r : Nat} (hc : cnN (V 10) 8 = c) (h2 : 2 ≤ c) (h8 : 8 ≤ r) (h3 : r ≠ 9) (h4 : r ≠ 12) : chT V c r = V r := by
  obtain ⟨a, b, -⟩ := ch_f hc h2
  unfold chT
  rw [mtV_r (by omega) (by omega) h3 h4, drV_r h3, drV_r h3, drV_r h3]
theorem chT_ok {V : Vs} {c : Nat} (hc : cnN (V 10) 8 = c) (h2 : 2 ≤ c) : sok (chT V c) := by
  obtain ⟨a, b, -⟩ := ch_f hc h2
  exact mtV_ok a.1 b.1 drV_ok
theorem chL_f {V : Vs} {c : Nat} (hc : cnN (V 10) 8 = c) (h2 : 2 ≤ c) (hs : sok V) : ∀ i, sok (chL V c i) ∧ ∀ r, 8 ≤ r → r ≠ 9 → r ≠ 12 → chL V c i r = V r
  | 0 => ⟨hs, fun _ _ _ _ => rfl⟩
  | i + 1 => by
    obtain ⟨a, b⟩ := chL_f hc h2 hs i
    have hc2 : cnN (chL V c i 10) 8 = c := by rw [b 10 (by decide) (by decide) (by decide)]; exact hc
    exact ⟨chT_ok hc2 h2, fun r h8 h3 h4 => (chT_r hc2 h2 h8 h3 h4).trans (b r h8 h3 h4)⟩
theorem agL_10 {V : Vs} {i r : Nat} (h : r ≠ 11) : agL V i r = V r := by
  funext j
  unfold agL
  rw [if_neg (fun z => h z.1)]
theorem teS_sk {V : Vs} {c n : Nat} (h : n = c ∨ ¬ V 10 n = 1 ∨ ¬ V 11 n ≤ V 8 2) : teS V c (n + 1) = teS V c n := by rw [teS, if_pos h]
theorem teS_n {V : Vs} {c n : Nat} (h1 : ¬ n = c) (h2 : V 10 n = 1) (h3 : V 11 n ≤ V 8 2) (hy : teS V c n = none) : teS V c (n + 1) = some n := by
  rw [teS, if_neg (fun z => z.elim h1 (fun z => z.elim (fun z => z h2) (fun z => z h3))), hy]
theorem teS_k {V : Vs} {c n y : Nat} (h1 : ¬ n = c) (h2 : V 10 n = 1) (h3 : V 11 n ≤ V 8 2) (hy : teS V c n = some y) (h4 : V 11 y ≤ V 11 n) : teS V c (n + 1) = some y := by
  rw [teS, if_neg (fun z => z.elim h1 (fun z => z.elim (fun z => z h2) (fun z => z h3))), hy]
  exact if_pos h4
theorem teS_u {V : Vs} {c n y : Nat} (h1 : ¬ n = c) (h2 : V 10 n = 1) (h3 : V 11 n ≤ V 8 2) (hy : teS V c n = some y) (h4 : ¬ V 11 y ≤ V 11 n) : teS V c (n + 1) = some n := by
  rw [teS, if_neg (fun z => z.elim h1 (fun z => z.elim (fun z => z h2) (fun z => z h3))), hy]
  exact if_neg h4
theorem byK_f {W : Vs} {i : Nat} (h : ¬ (W 10 i = 1 ∧ ¬ W 11 i ≤ W 8 2)) : byK W i = W := if_neg h
theorem byK_t {W : Vs} {i : Nat} {t : Option Nat} (h : W 10 i = 1 ∧ ¬ W 11 i ≤ W 8 2) (ht : teS W i 8 = t) : byK W i = up2 (blS W i t (W 8 3)) 9 3 (blS W i t (W 8 3) 9 3 + 1) := by
  subst ht
  exact if_pos h
theorem mtF_s {V : Vs} {k1 k2 m w h : Nat} (e : h = m) : mtS (mtC V k1 k2) k1 k2 m w (mtC V k1 k2 8 1) = mtF V k1 k2 m w h := (if_pos e).symm
theorem mtF_n {V : Vs} {k1 k2 m w h : Nat} (e : ¬ h = m) : mtN (mtC V k1 k2) k1 k2 m w h (mtC V k1 k2 8 1) = mtF V k1 k2 m w h := (if_neg e).symm
theorem wdN_n {V : Vs} {k m : Nat} (h : wfS (V k) m = none) : wdN V k m = (drV V, dvN V 14) := by unfold wdN; rw [h]
theorem wdN_s {V : Vs} {k m w : Nat} (h : wfS (V k) m = some w) : wdN V k m = (V, w) := by unfold wdN; rw [h]
theorem hdN_n {V : Vs} {k m : Nat} (h : haS (V k) m = none) : hdN V k m = (drV V, dvN V 6) := by unfold hdN; rw [h]
theorem hdN_s {V : Vs} {k m w : Nat} (h : haS (V k) m = some w) : hdN V k m = (V, w) := by unfold hdN; rw [h]
end
section
set_option maxRecDepth 100000 in
set_option maxHeartbeats 1000000 in
theorem c_X3_find_some {l : Launch} {E : xEnv} {B N : Nat} {σ : Sg} {b : Nat} {V : Vs} {k : Nat} (hk : k < 8) (hp : V 10 k = 1) : xM l yX3_find cX3_find 2 (some (.object "GesturePidgin$Speaker")) 1 21 0 0 E B [.ref b, .int (nI k)] N (vput E σ b V) N (vput E σ b V) (some (.ref (b + 2 + 2 * k))) := by
  refine xM_of [some (.ref _), some (.int _)] (by decide +kernel) (Nat.le_of_ble_eq_true rfl) rfl (fun k0 C Z => ?_)
  refine x_iload_n C dX3_find_0 rfl ?_
  refine x_bipush (v := 8) C dX3_find_1 (by decide) ?_
  refine x_callS C (c_X4_isBelow _ _) ks_X4_isBelow kl_X3_51 dX3_find_3 rfl rfl rfl rfl (Nat.le_of_ble_eq_true rfl) (Nat.le_of_ble_eq_true rfl) (Nat.le_of_ble_eq_true rfl) (Nat.le_of_ble_eq_true rfl) (Nat.le_of_ble_eq_true rfl) ?_
  refine x_beq C 30 dX3_find_6 (by decide) (fun h => absurd (bd_in (c := 8) hk (by decide)) h) (fun _ => ?_)
  refine x_aload_n C dX3_find_9 rfl ?_
  refine x_get C kf_X3_11 vput_0 rfl dX3_find_10 ?_
  refine x_iload_n C dX3_find_13 rfl ?_
  refine x_aald2 (t0 := 2) C vput_1 rfl rfl hk (by decide) dX3_find_14 ?_
  refine x_get C kf_X3_55 (vput_s hk) rfl dX3_find_15 ?_
  refine x_feq C 30 dX3_find_18 (by decide) (fun h => absurd hp h) (fun _ => ?_)
  refine x_aload_n C dX3_find_21 rfl ?_
  refine x_get C kf_X3_11 vput_0 rfl dX3_find_22 ?_
  refine x_iload_n C dX3_find_25 rfl ?_
  refine x_aald2 (t0 := 2) C vput_1 rfl rfl hk (by decide) dX3_find_26 ?_
  refine x_goto C 31 dX3_find_27 (by decide) ?_
  exact x_aret C Z dX3_find_31 (Or.inr ⟨_, rfl⟩) (Nat.le_of_ble_eq_true rfl) (Nat.le_of_ble_eq_true rfl) rfl rfl rfl
set_option maxRecDepth 100000 in
set_option maxHeartbeats 1000000 in
theorem c_X3_find_none {l : Launch} {E : xEnv} {B N : Nat} {σ : Sg} {b : Nat} {V : Vs} {x : Int32} (hno : ¬ ∃ k, k < 8 ∧ x = nI k ∧ V 10 k = 1) : xM l yX3_find cX3_find 2 (some (.object "GesturePidgin$Speaker")) 1 21 0 0 E B [.ref b, .int x] N (vput E σ b V) N (vput E σ b V) (some .null) := by
  refine xM_of [some (.ref _), some (.int _)] (by decide +kernel) (Nat.le_of_ble_eq_true rfl) rfl (fun k0 C Z => ?_)
  refine x_iload_n C dX3_find_0 rfl ?_
  refine x_bipush (v := 8) C dX3_find_1 (by decide) ?_
  refine x_callS C (c_X4_isBelow _ _) ks_X4_isBelow kl_X3_51 dX3_find_3 rfl rfl rfl rfl (Nat.le_of_ble_eq_true rfl) (Nat.le_of_ble_eq_true rfl) (Nat.le_of_ble_eq_true rfl) (Nat.le_of_ble_eq_true rfl) (Nat.le_of_ble_eq_true rfl) ?_
  refine x_beq C 30 dX3_find_6 (by decide) (fun h6 => ?_) (fun h6 => ?_)
  · refine x_null C dX3_find_30 ?_
    exact x_aret C Z dX3_find_31 (Or.inl rfl) (Nat.le_of_ble_eq_true rfl) (Nat.le_of_ble_eq_true rfl) rfl rfl rfl
  · obtain ⟨k, hk, rfl⟩ := bd_of (c := 8) (by decide) h6
    refine x_aload_n C dX3_find_9 rfl ?_
    refine x_get C kf_X3_11 vput_0 rfl dX3_find_10 ?_
    refine x_iload_n C dX3_find_13 rfl ?_
    refine x_aald2 (t0 := 2) C vput_1 rfl rfl hk (by decide) dX3_find_14 ?_
    refine x_get C kf_X3_55 (vput_s hk) rfl dX3_find_15 ?_
    refine x_feq C 30 dX3_find_18 (by decide) (fun h18 => ?_) (fun h18 => ?_)
    · refine x_null C dX3_find_30 ?_
      exact x_aret C Z dX3_find_31 (Or.inl rfl) (Nat.le_of_ble_eq_true rfl) (Nat.le_of_ble_eq_true rfl) rfl rfl rfl
    · exact absurd ⟨k, hk, rfl, h18⟩ hno
set_option maxRecDepth 100000 in
set_option maxHeartbeats 1000000 in
theorem c_X3_lowestFree_some {l : Launch} {E : xEnv} {B N : Nat} {σ : Sg} {b : Nat} {V : Vs} {q : Nat} (hq : q < 8) (hall : ∀ j, j < q → V 10 j = 1) (hno : ¬ V 10 q = 1) : xM l yX3_lowestFree cX3_lowestFree 2 (some .int) 0 0 0 0 E B [.ref b] N (vput E σ b V) N (vput E σ b V) (some (.int (nI q))) := by
  refine xM_of [some (.ref _), none] (by decide +kernel) (Nat.le_of_ble_eq_true rfl) rfl (fun k0 C Z => ?_)
  have hl : ∀ i, i ≤ q → xX k0 N 0 0 (vput E σ b V) 2 [some (.ref b), some (.int (nI i))] [] := by
    refine x_for q ?_ ?_
    · refine x_iload_n C dX3_lowestFree_2 rfl ?_
      refine x_bipush (v := 8) C dX3_lowestFree_3 (by decide) ?_
      refine x_ic_ge C 28 dX3_lowestFree_5 (by decide) (fun h => absurd h (nI_ge (b := 8) hq (by omega))) (fun _ => ?_)
      refine x_aload_n C dX3_lowestFree_8 rfl ?_
      refine x_get C kf_X3_11 vput_0 rfl dX3_lowestFree_9 ?_
      refine x_iload_n C dX3_lowestFree_12 rfl ?_
      refine x_aald2 (t0 := 2) C vput_1 rfl rfl (by omega) (by decide) dX3_lowestFree_13 ?_
      refine x_get C kf_X3_55 (vput_s (by omega)) rfl dX3_lowestFree_14 ?_
      refine x_fne C 22 dX3_lowestFree_17 (by decide) (fun h => absurd h hno) (fun _ => ?_)
      refine x_iload_n C dX3_lowestFree_20 rfl ?_
      exact x_zret C Z dX3_lowestFree_21 rfl (Nat.le_of_ble_eq_true rfl) (Nat.le_of_ble_eq_true rfl) rfl rfl rfl
    · intro i hi ih
      refine x_iload_n C dX3_lowestFree_2 rfl ?_
      refine x_bipush (v := 8) C dX3_lowestFree_3 (by decide) ?_
      refine x_ic_ge C 28 dX3_lowestFree_5 (by decide) (fun h => absurd h (nI_ge (b := 8) (show i < 8 by omega) (by omega))) (fun _ => ?_)
      refine x_aload_n C dX3_lowestFree_8 rfl ?_
      refine x_get C kf_X3_11 vput_0 rfl dX3_lowestFree_9 ?_
      refine x_iload_n C dX3_lowestFree_12 rfl ?_
      refine x_aald2 (t0 := 2) C vput_1 rfl rfl (by omega) (by decide) dX3_lowestFree_13 ?_
      refine x_get C kf_X3_55 (vput_s (by omega)) rfl dX3_lowestFree_14 ?_
      refine x_fne C 22 dX3_lowestFree_17 (by decide) (fun _ => ?_) (fun h => absurd (hall i hi) h)
      refine x_iinc C dX3_lowestFree_22 rfl (nI_inc _) (by decide) rfl ?_
      refine x_goto C 2 dX3_lowestFree_25 (by decide) ?_
      refine xX.cl ih rfl (And.intro rfl (And.intro rfl trivial)) rfl
  refine x_iconst (v := 0) C dX3_lowestFree_0 (by decide) ?_
  refine x_istore_n C dX3_lowestFree_1 (by decide) rfl ?_
  refine xX.cl (hl 0 (by omega)) rfl (And.intro rfl (And.intro rfl trivial)) rfl
set_option maxRecDepth 100000 in
set_option maxHeartbeats 1000000 in
theorem c_X3_lowestFree_none {l : Launch} {E : xEnv} {B N : Nat} {σ : Sg} {b : Nat} {V : Vs} (hall : ∀ j, j < 8 → V 10 j = 1) : xM l yX3_lowestFree cX3_lowestFree 2 (some .int) 0 0 0 0 E B [.ref b] N (vput E σ b V) N (vput E σ b V) (some (.int (-6))) := by
  refine xM_of [some (.ref _), none] (by decide +kernel) (Nat.le_of_ble_eq_true rfl) rfl (fun k0 C Z => ?_)
  have hl : ∀ i, i ≤ 8 → xX k0 N 0 0 (vput E σ b V) 2 [some (.ref b), some (.int (nI i))] [] := by
    refine x_for 8 ?_ ?_
    · refine x_iload_n C dX3_lowestFree_2 rfl ?_
      refine x_bipush (v := 8) C dX3_lowestFree_3 (by decide) ?_
      refine x_ic_ge C 28 dX3_lowestFree_5 (by decide) (fun _ => ?_) (fun h => absurd (nI_le (a := 8) (Nat.le_refl _) (by omega)) h)
      refine x_bipush (v := (-6)) C dX3_lowestFree_28 (by decide) ?_
      exact x_zret C Z dX3_lowestFree_30 rfl (Nat.le_of_ble_eq_true rfl) (Nat.le_of_ble_eq_true rfl) rfl rfl rfl
    · intro i hi ih
      refine x_iload_n C dX3_lowestFree_2 rfl ?_
      refine x_bipush (v := 8) C dX3_lowestFree_3 (by decide) ?_
      refine x_ic_ge C 28 dX3_lowestFree_5 (by decide) (fun h => absurd h (nI_ge (b := 8) hi (by omega))) (fun _ => ?_)
      refine x_aload_n C dX3_lowestFree_8 rfl ?_
      refine x_get C kf_X3_11 vput_0 rfl dX3_lowestFree_9 ?_
      refine x_iload_n C dX3_lowestFree_12 rfl ?_
      refine x_aald2 (t0 := 2) C vput_1 rfl rfl (by omega) (by decide) dX3_lowestFree_13 ?_
      refine x_get C kf_X3_55 (vput_s (by omega)) rfl dX3_lowestFree_14 ?_
      refine x_fne C 22 dX3_lowestFree_17 (by decide) (fun _ => ?_) (fun h => absurd (hall i hi) h)
      refine x_iinc C dX3_lowestFree_22 rfl (nI_inc _) (by decide) rfl ?_
      refine x_goto C 2 dX3_lowestFree_25 (by decide) ?_
      refine xX.cl ih rfl (And.intro rfl (And.intro rfl trivial)) rfl
  refine x_iconst (v := 0) C dX3_lowestFree_0 (by decide) ?_
  refine x_istore_n C dX3_lowestFree_1 (by decide) rfl ?_
  refine xX.cl (hl 0 (by omega)) rfl (And.intro rfl (And.intro rfl trivial)) rfl
set_option maxRecDepth 100000 in
set_option maxHeartbeats 1000000 in
theorem c_X3_countSpeakers {l : Launch} {E : xEnv} {B N : Nat} {σ : Sg} {b : Nat} {V : Vs} : xM l yX3_countSpeakers cX3_countSpeakers 3 (some .int) 0 0 0 0 E B [.ref b] N (vput E σ b V) N (vput E σ b V) (some (.int (nI (cnN (V 10) 8)))) := by
  refine xM_of [some (.ref _), none, none] (by decide +kernel) (Nat.le_of_ble_eq_true rfl) rfl (fun k0 C Z => ?_)
  have hl : ∀ i, i ≤ 8 → xX k0 N 0 0 (vput E σ b V) 4 [some (.ref b), some (.int (nI (cnN (V 10) i))), some (.int (nI i))] [] := by
    refine x_for 8 ?_ ?_
    · refine x_iload_n C dX3_countSpeakers_4 rfl ?_
      refine x_bipush (v := 8) C dX3_countSpeakers_5 (by decide) ?_
      refine x_ic_ge C 31 dX3_countSpeakers_7 (by decide) (fun _ => ?_) (fun h => absurd (nI_le (a := 8) (Nat.le_refl _) (by omega)) h)
      refine x_iload_n C dX3_countSpeakers_31 rfl ?_
      exact x_zret C Z dX3_countSpeakers_32 rfl (Nat.le_of_ble_eq_true rfl) (Nat.le_of_ble_eq_true rfl) rfl rfl rfl
    · intro i hi ih
      refine x_iload_n C dX3_countSpeakers_4 rfl ?_
      refine x_bipush (v := 8) C dX3_countSpeakers_5 (by decide) ?_
      refine x_ic_ge C 31 dX3_countSpeakers_7 (by decide) (fun h => absurd h (nI_ge (b := 8) hi (by omega))) (fun _ => ?_)
      refine x_aload_n C dX3_countSpeakers_10 rfl ?_
      refine x_get C kf_X3_11 vput_0 rfl dX3_countSpeakers_11 ?_
      refine x_iload_n C dX3_countSpeakers_14 rfl ?_
      refine x_aald2 (t0 := 2) C vput_1 rfl rfl hi (by decide) dX3_countSpeakers_15 ?_
      refine x_get C kf_X3_55 (vput_s hi) rfl dX3_countSpeakers_16 ?_
      refine x_feq C 25 dX3_countSpeakers_19 (by decide) (fun h19 => ?_) (fun h19 => ?_)
      · refine x_iinc C dX3_countSpeakers_25 rfl (nI_inc _) (by decide) rfl ?_
        refine x_goto C 4 dX3_countSpeakers_28 (by decide) ?_
        refine xX.cl ih rfl (And.intro rfl (And.intro ?_ (And.intro rfl trivial))) rfl
        rw [cnN, if_neg h19]; rfl
      · refine x_iinc C dX3_countSpeakers_22 rfl (nI_inc _) (by decide) rfl ?_
        refine x_iinc C dX3_countSpeakers_25 rfl (nI_inc _) (by decide) rfl ?_
        refine x_goto C 4 dX3_countSpeakers_28 (by decide) ?_
        refine xX.cl ih rfl (And.intro rfl (And.intro ?_ (And.intro rfl trivial))) rfl
        rw [cnN, if_pos h19]; rfl
  refine x_iconst (v := 0) C dX3_countSpeakers_0 (by decide) ?_
  refine x_istore_n C dX3_countSpeakers_1 (by decide) rfl ?_
  refine x_iconst (v := 0) C dX3_countSpeakers_2 (by decide) ?_
  refine x_istore_n C dX3_countSpeakers_3 (by decide) rfl ?_
  refine xX.cl (hl 0 (by omega)) rfl (And.intro rfl (And.intro rfl (And.intro rfl trivial))) rfl
set_option maxRecDepth 100000 in
set_option maxHeartbeats 1000000 in
theorem c_X3_welcome {l : Launch} {E : xEnv} {B N : Nat} {σ : Sg} {b : Nat} {V : Vs} {k : Nat} (hk : k < 8) : xM l yX3_welcome cX3_welcome 2 none 4 89 0 0 E B [.ref b, .int (nI k)] N (vput E σ b V) N (vput E σ b (blS (up2 V 10 k 1) k none 0)) none := by
  refine xM_of [some (.ref _), some (.int _)] (by decide +kernel) (Nat.le_of_ble_eq_true rfl) rfl (fun k0 C Z => ?_)
  refine x_iload_n C dX3_welcome_0 rfl ?_
  refine x_bipush (v := 8) C dX3_welcome_1 (by decide) ?_
  refine x_callS C (c_X4_isBelow _ _) ks_X4_isBelow kl_X3_51 dX3_welcome_3 rfl rfl rfl rfl (Nat.le_of_ble_eq_true rfl) (Nat.le_of_ble_eq_true rfl) (Nat.le_of_ble_eq_true rfl) (Nat.le_of_ble_eq_true rfl) (Nat.le_of_ble_eq_true rfl) ?_
  refine x_beq C 18 dX3_welcome_6 (by decide) (fun h => absurd (bd_in (c := 8) hk (by decide)) h) (fun _ => ?_)
  refine x_aload_n C dX3_welcome_9 rfl ?_
  refine x_get C kf_X3_11 vput_0 rfl dX3_welcome_10 ?_
  refine x_iload_n C dX3_welcome_13 rfl ?_
  refine x_aald2 (t0 := 2) C vput_1 rfl rfl hk (by decide) dX3_welcome_14 ?_
  refine x_callV C (c_X2_arrive hk) kv_X2_arrive kl_X3_59 dX3_welcome_15 (vput_s hk) rfl rfl rfl rfl (Nat.le_of_ble_eq_true rfl) (Nat.le_of_ble_eq_true rfl) (Nat.le_of_ble_eq_true rfl) (Nat.le_of_ble_eq_true rfl) (Nat.le_of_ble_eq_true rfl) ?_
  exact x_vret C Z dX3_welcome_18 (Nat.le_of_ble_eq_true rfl) (Nat.le_of_ble_eq_true rfl) rfl rfl
set_option maxRecDepth 100000 in
set_option maxHeartbeats 1000000 in
theorem c_X3_settingAt {l : Launch} {E : xEnv} {B N : Nat} {σ : Sg} {b : Nat} {V : Vs} {k : Nat} (hk : k < 4) : xM l yX3_settingAt cX3_settingAt 2 (some .int) 1 21 0 0 E B [.ref b, .int (nI k)] N (vput E σ b V) N (vput E σ b V) (some (.int (V 8 k))) := by
  refine xM_of [some (.ref _), some (.int _)] (by decide +kernel) (Nat.le_of_ble_eq_true rfl) rfl (fun k0 C Z => ?_)
  refine x_iload_n C dX3_settingAt_0 rfl ?_
  refine x_iconst (v := 4) C dX3_settingAt_1 (by decide) ?_
  refine x_callS C (c_X4_isBelow _ _) ks_X4_isBelow kl_X3_51 dX3_settingAt_2 rfl rfl rfl rfl (Nat.le_of_ble_eq_true rfl) (Nat.le_of_ble_eq_true rfl) (Nat.le_of_ble_eq_true rfl) (Nat.le_of_ble_eq_true rfl) (Nat.le_of_ble_eq_true rfl) ?_
  refine x_beq C 17 dX3_settingAt_5 (by decide) (fun h => absurd (bd_in (c := 4) hk (by decide)) h) (fun _ => ?_)
  refine x_aload_n C dX3_settingAt_8 rfl ?_
  refine x_get C kf_X3_18 vput_0 rfl dX3_settingAt_9 ?_
  refine x_iload_n C dX3_settingAt_12 rfl ?_
  refine x_iald2 C vput_18 rfl hk (by decide) dX3_settingAt_13 ?_
  refine x_goto C 18 dX3_settingAt_14 (by decide) ?_
  exact x_zret C Z dX3_settingAt_18 rfl (Nat.le_of_ble_eq_true rfl) (Nat.le_of_ble_eq_true rfl) rfl rfl rfl
set_option maxRecDepth 100000 in
set_option maxHeartbeats 1000000 in
theorem c_X3_putSetting {l : Launch} {E : xEnv} {B N : Nat} {σ : Sg} {b : Nat} {V : Vs} {k : Nat} (hk : k < 4) (x : Int32) : xM l yX3_putSetting cX3_putSetting 3 none 1 21 0 0 E B [.ref b, .int (nI k), .int x] N (vput E σ b V) N (vput E σ b (up2 V 8 k x)) none := by
  refine xM_of [some (.ref _), some (.int _), some (.int _)] (by decide +kernel) (Nat.le_of_ble_eq_true rfl) rfl (fun k0 C Z => ?_)
  refine x_iload_n C dX3_putSetting_0 rfl ?_
  refine x_iconst (v := 4) C dX3_putSetting_1 (by decide) ?_
  refine x_callS C (c_X4_isBelow _ _) ks_X4_isBelow kl_X3_51 dX3_putSetting_2 rfl rfl rfl rfl (Nat.le_of_ble_eq_true rfl) (Nat.le_of_ble_eq_true rfl) (Nat.le_of_ble_eq_true rfl) (Nat.le_of_ble_eq_true rfl) (Nat.le_of_ble_eq_true rfl) ?_
  refine x_beq C 15 dX3_putSetting_5 (by decide) (fun h => absurd (bd_in (c := 4) hk (by decide)) h) (fun _ => ?_)
  refine x_aload_n C dX3_putSetting_8 rfl ?_
  refine x_get C kf_X3_18 vput_0 rfl dX3_putSetting_9 ?_
  refine x_iload_n C dX3_putSetting_12 rfl ?_
  refine x_iload_n C dX3_putSetting_13 rfl ?_
  refine x_iast2 C vput_18 rfl hk (by decide) (fun _ _ => rfl) (vput_st _ _) dX3_putSetting_14 ?_
  exact x_vret C Z dX3_putSetting_15 (Nat.le_of_ble_eq_true rfl) (Nat.le_of_ble_eq_true rfl) rfl rfl
set_option maxRecDepth 100000 in
set_option maxHeartbeats 1000000 in
theorem c_X3_draw {l : Launch} {E : xEnv} {B N : Nat} {σ : Sg} {b : Nat} {V : Vs} {n : Nat} (hs : sok V) (h0 : 0 < n) (hn : n < 2 ^ 31) : xM l yX3_draw cX3_draw 2 (some .int) 0 0 0 0 E B [.ref b, .int (nI n)] N (vput E σ b V) N (vput E σ b (drV V)) (some (.int (nI (dvN V n)))) := by
  refine xM_of [some (.ref _), some (.int _)] (by decide +kernel) (Nat.le_of_ble_eq_true rfl) rfl (fun k0 C Z => ?_)
  refine x_aload_n C dX3_draw_0 rfl ?_
  refine x_sipush (v := 25173) C dX3_draw_1 (by decide) ?_
  refine x_aload_n C dX3_draw_4 rfl ?_
  refine x_get C kf_X3_25 vput_0 rfl dX3_draw_5 ?_
  refine x_imul C dX3_draw_8 ?_
  refine x_sipush (v := 13849) C dX3_draw_9 (by decide) ?_
  refine x_iadd C dX3_draw_12 ?_
  refine x_ldc C kk_X3_62 dX3_draw_13 ?_
  refine x_irem C dX3_draw_15 (by decide) ?_
  refine x_put (ty := .int) C kf_X3_25 vput_0 rfl (by decide +kernel) rfl rfl (Nat.le_of_ble_eq_true rfl) (vput_v0 _) dX3_draw_16 ?_
  refine xX.sg (congrArg (fun z => vput E σ b (up2 V 9 0 z)) (dr_e hs)) ?_
  refine x_iload_n C dX3_draw_19 rfl ?_
  refine x_iconst (v := 1) C dX3_draw_20 (by decide) ?_
  refine x_ic_ge C 28 dX3_draw_21 (by decide) (fun _ => ?_) (fun h => absurd (nI_le (a := 1) h0 hn) h)
  refine x_aload_n C dX3_draw_28 rfl ?_
  refine x_get C kf_X3_25 vput_0 rfl dX3_draw_29 ?_
  refine x_bipush (v := 16) C dX3_draw_32 (by decide) ?_
  refine x_idiv C dX3_draw_34 (by decide) ?_
  refine x_iload_n C dX3_draw_35 rfl ?_
  refine x_irem C dX3_draw_36 (nI_ne0 h0 hn) ?_
  exact x_zret C Z dX3_draw_37 rfl (Nat.le_of_ble_eq_true rfl) (Nat.le_of_ble_eq_true rfl) rfl rfl (by rw [up2_s]; exact dv_e sdN_lt h0 hn)
set_option maxRecDepth 100000 in
set_option maxHeartbeats 1000000 in
theorem c_X3_numberInOrder {l : Launch} {E : xEnv} {B N : Nat} {σ : Sg} {b : Nat} {V : Vs} {q p : Nat} {lo : Int32} (hq : q < 8) (h1 : V 10 q = 1) (h2 : ¬ nI q = lo) (h3 : cxN (V 10) lo q = p) : xM l yX3_numberInOrder cX3_numberInOrder 5 (some .int) 0 0 0 0 E B [.ref b, .int (nI p), .int lo] N (vput E σ b V) N (vput E σ b V) (some (.int (nI q))) := by
  refine xM_of [some (.ref _), some (.int _), some (.int _), none, none] (by decide +kernel) (Nat.le_of_ble_eq_true rfl) rfl (fun k0 C Z => ?_)
  have hl : ∀ i, i ≤ q → xX k0 N 0 0 (vput E σ b V) 5 [some (.ref b), some (.int (nI p)), some (.int lo), some (.int (nI (cxN (V 10) lo i))), some (.int (nI i))] [] := by
    refine x_for q ?_ ?_
    · refine x_iload C dX3_numberInOrder_5 rfl ?_
      refine x_bipush (v := 8) C dX3_numberInOrder_7 (by decide) ?_
      refine x_ic_ge C 51 dX3_numberInOrder_9 (by decide) (fun h => absurd h (nI_ge (b := 8) hq (by omega))) (fun _ => ?_)
      refine x_aload_n C dX3_numberInOrder_12 rfl ?_
      refine x_get C kf_X3_11 vput_0 rfl dX3_numberInOrder_13 ?_
      refine x_iload C dX3_numberInOrder_16 rfl ?_
      refine x_aald2 (t0 := 2) C vput_1 rfl rfl (by omega) (by decide) dX3_numberInOrder_18 ?_
      refine x_get C kf_X3_55 (vput_s (by omega)) rfl dX3_numberInOrder_19 ?_
      refine x_feq C 45 dX3_numberInOrder_22 (by decide) (fun h => absurd h1 h) (fun _ => ?_)
      refine x_iload C dX3_numberInOrder_25 rfl ?_
      refine x_iload_n C dX3_numberInOrder_27 rfl ?_
      refine x_ic_ne C 34 dX3_numberInOrder_28 (by decide) (fun _ => ?_) (fun h => absurd h h2)
      refine x_iload_n C dX3_numberInOrder_34 rfl ?_
      refine x_iload_n C dX3_numberInOrder_35 rfl ?_
      refine x_ic_ne C 42 dX3_numberInOrder_36 (by decide) (fun h => absurd (congrArg nI h3) h) (fun _ => ?_)
      refine x_iload C dX3_numberInOrder_39 rfl ?_
      exact x_zret C Z dX3_numberInOrder_41 rfl (Nat.le_of_ble_eq_true rfl) (Nat.le_of_ble_eq_true rfl) rfl rfl rfl
    · intro i hi ih
      refine x_iload C dX3_numberInOrder_5 rfl ?_
      refine x_bipush (v := 8) C dX3_numberInOrder_7 (by decide) ?_
      refine x_ic_ge C 51 dX3_numberInOrder_9 (by decide) (fun h => absurd h (nI_ge (b := 8) (show i < 8 by omega) (by omega))) (fun _ => ?_)
      refine x_aload_n C dX3_numberInOrder_12 rfl ?_
      refine x_get C kf_X3_11 vput_0 rfl dX3_numberInOrder_13 ?_
      refine x_iload C dX3_numberInOrder_16 rfl ?_
      refine x_aald2 (t0 := 2) C vput_1 rfl rfl (by omega) (by decide) dX3_numberInOrder_18 ?_
      refine x_get C kf_X3_55 (vput_s (by omega)) rfl dX3_numberInOrder_19 ?_
      refine x_feq C 45 dX3_numberInOrder_22 (by decide) (fun h22 => ?_) (fun h22 => ?_)
      · refine x_iinc C dX3_numberInOrder_45 rfl (nI_inc _) (by decide) rfl ?_
        refine x_goto C 5 dX3_numberInOrder_48 (by decide) ?_
        refine xX.cl ih rfl (And.intro rfl (And.intro rfl (And.intro rfl (And.intro ?_ (And.intro rfl trivial))))) rfl
        rw [cxN, if_neg (fun z => h22 z.1)]; rfl
      · refine x_iload C dX3_numberInOrder_25 rfl ?_
        refine x_iload_n C dX3_numberInOrder_27 rfl ?_
        refine x_ic_ne C 34 dX3_numberInOrder_28 (by decide) (fun h28 => ?_) (fun h28 => ?_)
        · refine x_iload_n C dX3_numberInOrder_34 rfl ?_
          refine x_iload_n C dX3_numberInOrder_35 rfl ?_
          refine x_ic_ne C 42 dX3_numberInOrder_36 (by decide) (fun _ => ?_) (fun h => absurd h (cx_ne hq hi h22 h28 h3))
          refine x_iinc C dX3_numberInOrder_42 rfl (nI_inc _) (by decide) rfl ?_
          refine x_iinc C dX3_numberInOrder_45 rfl (nI_inc _) (by decide) rfl ?_
          refine x_goto C 5 dX3_numberInOrder_48 (by decide) ?_
          refine xX.cl ih rfl (And.intro rfl (And.intro rfl (And.intro rfl (And.intro ?_ (And.intro rfl trivial))))) rfl
          rw [cxN, if_pos ⟨h22, h28⟩]; rfl
        · refine x_goto C 45 dX3_numberInOrder_31 (by decide) ?_
          refine x_iinc C dX3_numberInOrder_45 rfl (nI_inc _) (by decide) rfl ?_
          refine x_goto C 5 dX3_numberInOrder_48 (by decide) ?_
          refine xX.cl ih rfl (And.intro rfl (And.intro rfl (And.intro rfl (And.intro ?_ (And.intro rfl trivial))))) rfl
          rw [cxN, if_neg (fun z => z.2 h28)]; rfl
  refine x_iconst (v := 0) C dX3_numberInOrder_0 (by decide) ?_
  refine x_istore_n C dX3_numberInOrder_1 (by decide) rfl ?_
  refine x_iconst (v := 0) C dX3_numberInOrder_2 (by decide) ?_
  refine x_istore C dX3_numberInOrder_3 (by decide) rfl ?_
  refine xX.cl (hl 0 (by omega)) rfl (And.intro rfl (And.intro rfl (And.intro rfl (And.intro rfl (And.intro rfl trivial))))) rfl
set_option maxRecDepth 100000 in
set_option maxHeartbeats 1000000 in
theorem c_X3_teacherFor_none {l : Launch} {E : xEnv} {B N : Nat} {σ : Sg} {b : Nat} {V : Vs} {c : Nat} (hc : c < 8) (ht : teS V c 8 = none) : xM l yX3_teacherFor cX3_teacherFor 5 (some (.object "GesturePidgin$Speaker")) 0 0 0 0 E B [.ref b, .int (nI c)] N (vput E σ b V) N (vput E σ b V) (some .null) := by
  refine xM_of [some (.ref _), some (.int _), none, none, none] (by decide +kernel) (Nat.le_of_ble_eq_true rfl) rfl (fun k0 C Z => ?_)
  have hl : ∀ i, i ≤ 8 → xX k0 N 0 0 (vput E σ b V) 4 [some (.ref b), some (.int (nI c)), some (va_rf ((teS V c i).map (fun y => b + 2 + 2 * y))), some (.int (nI i)), none] [] := by
    refine x_for 8 ?_ ?_
    · rw [ht]
      show xX k0 N 0 0 (vput E σ b V) 4 [some (.ref b), some (.int (nI c)), some .null, some (.int (nI 8)), none] []
      refine x_iload_n C dX3_teacherFor_4 rfl ?_
      refine x_bipush (v := 8) C dX3_teacherFor_5 (by decide) ?_
      refine x_ic_ge C 73 dX3_teacherFor_7 (by decide) (fun _ => ?_) (fun h => absurd (nI_le (a := 8) (Nat.le_refl _) (by omega)) h)
      refine x_aload_nN C dX3_teacherFor_73 rfl ?_
      exact x_aret C Z dX3_teacherFor_74 (Or.inl rfl) (Nat.le_of_ble_eq_true rfl) (Nat.le_of_ble_eq_true rfl) rfl rfl rfl
    · intro i hi ih
      cases hy : teS V c i with
      | none =>
        show xX k0 N 0 0 (vput E σ b V) 4 [some (.ref b), some (.int (nI c)), some .null, some (.int (nI i)), none] []
        refine x_iload_n C dX3_teacherFor_4 rfl ?_
        refine x_bipush (v := 8) C dX3_teacherFor_5 (by decide) ?_
        refine x_ic_ge C 73 dX3_teacherFor_7 (by decide) (fun h => absurd h (nI_ge (b := 8) hi (by omega))) (fun _ => ?_)
        refine x_aload_n C dX3_teacherFor_10 rfl ?_
        refine x_get C kf_X3_11 vput_0 rfl dX3_teacherFor_11 ?_
        refine x_iload_n C dX3_teacherFor_14 rfl ?_
        refine x_aald2 (t0 := 2) C vput_1 rfl rfl hi (by decide) dX3_teacherFor_15 ?_
        refine x_astore C dX3_teacherFor_16 (by decide) rfl ?_
        refine x_iload_n C dX3_teacherFor_18 rfl ?_
        refine x_iload_n C dX3_teacherFor_19 rfl ?_
        refine x_ic_eq C 67 dX3_teacherFor_20 (by decide) (fun h20 => ?_) (fun h20 => ?_)
        · refine x_iinc C dX3_teacherFor_67 rfl (nI_inc _) (by decide) rfl ?_
          refine x_goto C 4 dX3_teacherFor_70 (by decide) ?_
          refine xX.cl ih rfl (And.intro rfl (And.intro rfl (And.intro ?_ (And.intro rfl trivial)))) rfl
          rw [teS_sk (Or.inl ((nI_eq (by omega) (by omega)).mp h20)), hy]; rfl
        · refine x_aload C dX3_teacherFor_23 rfl ?_
          refine x_get C kf_X3_55 (vput_s hi) rfl dX3_teacherFor_25 ?_
          refine x_feq C 67 dX3_teacherFor_28 (by decide) (fun h28 => ?_) (fun h28 => ?_)
          · refine x_iinc C dX3_teacherFor_67 rfl (nI_inc _) (by decide) rfl ?_
            refine x_goto C 4 dX3_teacherFor_70 (by decide) ?_
            refine xX.cl ih rfl (And.intro rfl (And.intro rfl (And.intro ?_ (And.intro rfl trivial)))) rfl
            rw [teS_sk (Or.inr (Or.inl h28)), hy]; rfl
          · refine x_aload C dX3_teacherFor_31 rfl ?_
            refine x_get C kf_X3_104 (vput_s hi) rfl dX3_teacherFor_33 ?_
            refine x_aload_n C dX3_teacherFor_36 rfl ?_
            refine x_get C kf_X3_18 vput_0 rfl dX3_teacherFor_37 ?_
            refine x_iconst (v := 2) C dX3_teacherFor_40 (by decide) ?_
            refine x_iald2 C vput_18 rfl (by decide) (by decide) dX3_teacherFor_41 ?_
            refine x_ic_le C 48 dX3_teacherFor_42 (by decide) (fun h42 => ?_) (fun h42 => ?_)
            · refine x_aload_nN C dX3_teacherFor_48 rfl ?_
              refine x_ifnullN C 64 dX3_teacherFor_49 (by decide) ?_
              refine x_aload C dX3_teacherFor_64 rfl ?_
              refine x_astore_n C dX3_teacherFor_66 (by decide) rfl ?_
              refine x_iinc C dX3_teacherFor_67 rfl (nI_inc _) (by decide) rfl ?_
              refine x_goto C 4 dX3_teacherFor_70 (by decide) ?_
              refine xX.cl ih rfl (And.intro rfl (And.intro rfl (And.intro ?_ (And.intro rfl trivial)))) rfl
              rw [teS_n (fun z => h20 (by rw [z])) h28 h42 hy]; rfl
            · refine x_goto C 67 dX3_teacherFor_45 (by decide) ?_
              refine x_iinc C dX3_teacherFor_67 rfl (nI_inc _) (by decide) rfl ?_
              refine x_goto C 4 dX3_teacherFor_70 (by decide) ?_
              refine xX.cl ih rfl (And.intro rfl (And.intro rfl (And.intro ?_ (And.intro rfl trivial)))) rfl
              rw [teS_sk (Or.inr (Or.inr h42)), hy]; rfl
      | some y =>
        show xX k0 N 0 0 (vput E σ b V) 4 [some (.ref b), some (.int (nI c)), some (.ref (b + 2 + 2 * y)), some (.int (nI i)), none] []
        have hy8 : y < 8 := by have := (teS_in hy).1; omega
        refine x_iload_n C dX3_teacherFor_4 rfl ?_
        refine x_bipush (v := 8) C dX3_teacherFor_5 (by decide) ?_
        refine x_ic_ge C 73 dX3_teacherFor_7 (by decide) (fun h => absurd h (nI_ge (b := 8) hi (by omega))) (fun _ => ?_)
        refine x_aload_n C dX3_teacherFor_10 rfl ?_
        refine x_get C kf_X3_11 vput_0 rfl dX3_teacherFor_11 ?_
        refine x_iload_n C dX3_teacherFor_14 rfl ?_
        refine x_aald2 (t0 := 2) C vput_1 rfl rfl hi (by decide) dX3_teacherFor_15 ?_
        refine x_astore C dX3_teacherFor_16 (by decide) rfl ?_
        refine x_iload_n C dX3_teacherFor_18 rfl ?_
        refine x_iload_n C dX3_teacherFor_19 rfl ?_
        refine x_ic_eq C 67 dX3_teacherFor_20 (by decide) (fun h20 => ?_) (fun h20 => ?_)
        · refine x_iinc C dX3_teacherFor_67 rfl (nI_inc _) (by decide) rfl ?_
          refine x_goto C 4 dX3_teacherFor_70 (by decide) ?_
          refine xX.cl ih rfl (And.intro rfl (And.intro rfl (And.intro ?_ (And.intro rfl trivial)))) rfl
          rw [teS_sk (Or.inl ((nI_eq (by omega) (by omega)).mp h20)), hy]; rfl
        · refine x_aload C dX3_teacherFor_23 rfl ?_
          refine x_get C kf_X3_55 (vput_s hi) rfl dX3_teacherFor_25 ?_
          refine x_feq C 67 dX3_teacherFor_28 (by decide) (fun h28 => ?_) (fun h28 => ?_)
          · refine x_iinc C dX3_teacherFor_67 rfl (nI_inc _) (by decide) rfl ?_
            refine x_goto C 4 dX3_teacherFor_70 (by decide) ?_
            refine xX.cl ih rfl (And.intro rfl (And.intro rfl (And.intro ?_ (And.intro rfl trivial)))) rfl
            rw [teS_sk (Or.inr (Or.inl h28)), hy]; rfl
          · refine x_aload C dX3_teacherFor_31 rfl ?_
            refine x_get C kf_X3_104 (vput_s hi) rfl dX3_teacherFor_33 ?_
            refine x_aload_n C dX3_teacherFor_36 rfl ?_
            refine x_get C kf_X3_18 vput_0 rfl dX3_teacherFor_37 ?_
            refine x_iconst (v := 2) C dX3_teacherFor_40 (by decide) ?_
            refine x_iald2 C vput_18 rfl (by decide) (by decide) dX3_teacherFor_41 ?_
            refine x_ic_le C 48 dX3_teacherFor_42 (by decide) (fun h42 => ?_) (fun h42 => ?_)
            · refine x_aload_n C dX3_teacherFor_48 rfl ?_
              refine x_ifnull C dX3_teacherFor_49 ?_
              refine x_aload C dX3_teacherFor_52 rfl ?_
              refine x_get C kf_X3_104 (vput_s hi) rfl dX3_teacherFor_54 ?_
              refine x_aload_n C dX3_teacherFor_57 rfl ?_
              refine x_get C kf_X3_104 (vput_s hy8) rfl dX3_teacherFor_58 ?_
              refine x_ic_ge C 67 dX3_teacherFor_61 (by decide) (fun h61 => ?_) (fun h61 => ?_)
              · refine x_iinc C dX3_teacherFor_67 rfl (nI_inc _) (by decide) rfl ?_
                refine x_goto C 4 dX3_teacherFor_70 (by decide) ?_
                refine xX.cl ih rfl (And.intro rfl (And.intro rfl (And.intro ?_ (And.intro rfl trivial)))) rfl
                rw [teS_k (fun z => h20 (by rw [z])) h28 h42 hy h61]; rfl
              · refine x_aload C dX3_teacherFor_64 rfl ?_
                refine x_astore_n C dX3_teacherFor_66 (by decide) rfl ?_
                refine x_iinc C dX3_teacherFor_67 rfl (nI_inc _) (by decide) rfl ?_
                refine x_goto C 4 dX3_teacherFor_70 (by decide) ?_
                refine xX.cl ih rfl (And.intro rfl (And.intro rfl (And.intro ?_ (And.intro rfl trivial)))) rfl
                rw [teS_u (fun z => h20 (by rw [z])) h28 h42 hy h61]; rfl
            · refine x_goto C 67 dX3_teacherFor_45 (by decide) ?_
              refine x_iinc C dX3_teacherFor_67 rfl (nI_inc _) (by decide) rfl ?_
              refine x_goto C 4 dX3_teacherFor_70 (by decide) ?_
              refine xX.cl ih rfl (And.intro rfl (And.intro rfl (And.intro ?_ (And.intro rfl trivial)))) rfl
              rw [teS_sk (Or.inr (Or.inr h42)), hy]; rfl
  refine x_null C dX3_teacherFor_0 ?_
  refine x_astore_nN C dX3_teacherFor_1 (by decide) rfl ?_
  refine x_iconst (v := 0) C dX3_teacherFor_2 (by decide) ?_
  refine x_istore_n C dX3_teacherFor_3 (by decide) rfl ?_
  refine xX.cl (hl 0 (by omega)) rfl (And.intro rfl (And.intro rfl (And.intro rfl (And.intro rfl trivial)))) rfl
set_option maxRecDepth 100000 in
set_option maxHeartbeats 1000000 in
theorem c_X3_teacherFor_some {l : Launch} {E : xEnv} {B N : Nat} {σ : Sg} {b : Nat} {V : Vs} {c : Nat} (hc : c < 8) {y0 : Nat} (ht : teS V c 8 = some y0) : xM l yX3_teacherFor cX3_teacherFor 5 (some (.object "GesturePidgin$Speaker")) 0 0 0 0 E B [.ref b, .int (nI c)] N (vput E σ b V) N (vput E σ b V) (some (.ref (b + 2 + 2 * y0))) := by
  refine xM_of [some (.ref _), some (.int _), none, none, none] (by decide +kernel) (Nat.le_of_ble_eq_true rfl) rfl (fun k0 C Z => ?_)
  have hl : ∀ i, i ≤ 8 → xX k0 N 0 0 (vput E σ b V) 4 [some (.ref b), some (.int (nI c)), some (va_rf ((teS V c i).map (fun y => b + 2 + 2 * y))), some (.int (nI i)), none] [] := by
    refine x_for 8 ?_ ?_
    · rw [ht]
      show xX k0 N 0 0 (vput E σ b V) 4 [some (.ref b), some (.int (nI c)), some (.ref (b + 2 + 2 * y0)), some (.int (nI 8)), none] []
      refine x_iload_n C dX3_teacherFor_4 rfl ?_
      refine x_bipush (v := 8) C dX3_teacherFor_5 (by decide) ?_
      refine x_ic_ge C 73 dX3_teacherFor_7 (by decide) (fun _ => ?_) (fun h => absurd (nI_le (a := 8) (Nat.le_refl _) (by omega)) h)
      refine x_aload_n C dX3_teacherFor_73 rfl ?_
      exact x_aret C Z dX3_teacherFor_74 (Or.inr ⟨_, rfl⟩) (Nat.le_of_ble_eq_true rfl) (Nat.le_of_ble_eq_true rfl) rfl rfl rfl
    · intro i hi ih
      cases hy : teS V c i with
      | none =>
        show xX k0 N 0 0 (vput E σ b V) 4 [some (.ref b), some (.int (nI c)), some .null, some (.int (nI i)), none] []
        refine x_iload_n C dX3_teacherFor_4 rfl ?_
        refine x_bipush (v := 8) C dX3_teacherFor_5 (by decide) ?_
        refine x_ic_ge C 73 dX3_teacherFor_7 (by decide) (fun h => absurd h (nI_ge (b := 8) hi (by omega))) (fun _ => ?_)
        refine x_aload_n C dX3_teacherFor_10 rfl ?_
        refine x_get C kf_X3_11 vput_0 rfl dX3_teacherFor_11 ?_
        refine x_iload_n C dX3_teacherFor_14 rfl ?_
        refine x_aald2 (t0 := 2) C vput_1 rfl rfl hi (by decide) dX3_teacherFor_15 ?_
        refine x_astore C dX3_teacherFor_16 (by decide) rfl ?_
        refine x_iload_n C dX3_teacherFor_18 rfl ?_
        refine x_iload_n C dX3_teacherFor_19 rfl ?_
        refine x_ic_eq C 67 dX3_teacherFor_20 (by decide) (fun h20 => ?_) (fun h20 => ?_)
        · refine x_iinc C dX3_teacherFor_67 rfl (nI_inc _) (by decide) rfl ?_
          refine x_goto C 4 dX3_teacherFor_70 (by decide) ?_
          refine xX.cl ih rfl (And.intro rfl (And.intro rfl (And.intro ?_ (And.intro rfl trivial)))) rfl
          rw [teS_sk (Or.inl ((nI_eq (by omega) (by omega)).mp h20)), hy]; rfl
        · refine x_aload C dX3_teacherFor_23 rfl ?_
          refine x_get C kf_X3_55 (vput_s hi) rfl dX3_teacherFor_25 ?_
          refine x_feq C 67 dX3_teacherFor_28 (by decide) (fun h28 => ?_) (fun h28 => ?_)
          · refine x_iinc C dX3_teacherFor_67 rfl (nI_inc _) (by decide) rfl ?_
            refine x_goto C 4 dX3_teacherFor_70 (by decide) ?_
            refine xX.cl ih rfl (And.intro rfl (And.intro rfl (And.intro ?_ (And.intro rfl trivial)))) rfl
            rw [teS_sk (Or.inr (Or.inl h28)), hy]; rfl
          · refine x_aload C dX3_teacherFor_31 rfl ?_
            refine x_get C kf_X3_104 (vput_s hi) rfl dX3_teacherFor_33 ?_
            refine x_aload_n C dX3_teacherFor_36 rfl ?_
            refine x_get C kf_X3_18 vput_0 rfl dX3_teacherFor_37 ?_
            refine x_iconst (v := 2) C dX3_teacherFor_40 (by decide) ?_
            refine x_iald2 C vput_18 rfl (by decide) (by decide) dX3_teacherFor_41 ?_
            refine x_ic_le C 48 dX3_teacherFor_42 (by decide) (fun h42 => ?_) (fun h42 => ?_)
            · refine x_aload_nN C dX3_teacherFor_48 rfl ?_
              refine x_ifnullN C 64 dX3_teacherFor_49 (by decide) ?_
              refine x_aload C dX3_teacherFor_64 rfl ?_
              refine x_astore_n C dX3_teacherFor_66 (by decide) rfl ?_
              refine x_iinc C dX3_teacherFor_67 rfl (nI_inc _) (by decide) rfl ?_
              refine x_goto C 4 dX3_teacherFor_70 (by decide) ?_
              refine xX.cl ih rfl (And.intro rfl (And.intro rfl (And.intro ?_ (And.intro rfl trivial)))) rfl
              rw [teS_n (fun z => h20 (by rw [z])) h28 h42 hy]; rfl
            · refine x_goto C 67 dX3_teacherFor_45 (by decide) ?_
              refine x_iinc C dX3_teacherFor_67 rfl (nI_inc _) (by decide) rfl ?_
              refine x_goto C 4 dX3_teacherFor_70 (by decide) ?_
              refine xX.cl ih rfl (And.intro rfl (And.intro rfl (And.intro ?_ (And.intro rfl trivial)))) rfl
              rw [teS_sk (Or.inr (Or.inr h42)), hy]; rfl
      | some y =>
        show xX k0 N 0 0 (vput E σ b V) 4 [some (.ref b), some (.int (nI c)), some (.ref (b + 2 + 2 * y)), some (.int (nI i)), none] []
        have hy8 : y < 8 := by have := (teS_in hy).1; omega
        refine x_iload_n C dX3_teacherFor_4 rfl ?_
        refine x_bipush (v := 8) C dX3_teacherFor_5 (by decide) ?_
        refine x_ic_ge C 73 dX3_teacherFor_7 (by decide) (fun h => absurd h (nI_ge (b := 8) hi (by omega))) (fun _ => ?_)
        refine x_aload_n C dX3_teacherFor_10 rfl ?_
        refine x_get C kf_X3_11 vput_0 rfl dX3_teacherFor_11 ?_
        refine x_iload_n C dX3_teacherFor_14 rfl ?_
        refine x_aald2 (t0 := 2) C vput_1 rfl rfl hi (by decide) dX3_teacherFor_15 ?_
        refine x_astore C dX3_teacherFor_16 (by decide) rfl ?_
        refine x_iload_n C dX3_teacherFor_18 rfl ?_
        refine x_iload_n C dX3_teacherFor_19 rfl ?_
        refine x_ic_eq C 67 dX3_teacherFor_20 (by decide) (fun h20 => ?_) (fun h20 => ?_)
        · refine x_iinc C dX3_teacherFor_67 rfl (nI_inc _) (by decide) rfl ?_
          refine x_goto C 4 dX3_teacherFor_70 (by decide) ?_
          refine xX.cl ih rfl (And.intro rfl (And.intro rfl (And.intro ?_ (And.intro rfl trivial)))) rfl
          rw [teS_sk (Or.inl ((nI_eq (by omega) (by omega)).mp h20)), hy]; rfl
        · refine x_aload C dX3_teacherFor_23 rfl ?_
          refine x_get C kf_X3_55 (vput_s hi) rfl dX3_teacherFor_25 ?_
          refine x_feq C 67 dX3_teacherFor_28 (by decide) (fun h28 => ?_) (fun h28 => ?_)
          · refine x_iinc C dX3_teacherFor_67 rfl (nI_inc _) (by decide) rfl ?_
            refine x_goto C 4 dX3_teacherFor_70 (by decide) ?_
            refine xX.cl ih rfl (And.intro rfl (And.intro rfl (And.intro ?_ (And.intro rfl trivial)))) rfl
            rw [teS_sk (Or.inr (Or.inl h28)), hy]; rfl
          · refine x_aload C dX3_teacherFor_31 rfl ?_
            refine x_get C kf_X3_104 (vput_s hi) rfl dX3_teacherFor_33 ?_
            refine x_aload_n C dX3_teacherFor_36 rfl ?_
            refine x_get C kf_X3_18 vput_0 rfl dX3_teacherFor_37 ?_
            refine x_iconst (v := 2) C dX3_teacherFor_40 (by decide) ?_
            refine x_iald2 C vput_18 rfl (by decide) (by decide) dX3_teacherFor_41 ?_
            refine x_ic_le C 48 dX3_teacherFor_42 (by decide) (fun h42 => ?_) (fun h42 => ?_)
            · refine x_aload_n C dX3_teacherFor_48 rfl ?_
              refine x_ifnull C dX3_teacherFor_49 ?_
              refine x_aload C dX3_teacherFor_52 rfl ?_
              refine x_get C kf_X3_104 (vput_s hi) rfl dX3_teacherFor_54 ?_
              refine x_aload_n C dX3_teacherFor_57 rfl ?_
              refine x_get C kf_X3_104 (vput_s hy8) rfl dX3_teacherFor_58 ?_
              refine x_ic_ge C 67 dX3_teacherFor_61 (by decide) (fun h61 => ?_) (fun h61 => ?_)
              · refine x_iinc C dX3_teacherFor_67 rfl (nI_inc _) (by decide) rfl ?_
                refine x_goto C 4 dX3_teacherFor_70 (by decide) ?_
                refine xX.cl ih rfl (And.intro rfl (And.intro rfl (And.intro ?_ (And.intro rfl trivial)))) rfl
                rw [teS_k (fun z => h20 (by rw [z])) h28 h42 hy h61]; rfl
              · refine x_aload C dX3_teacherFor_64 rfl ?_
                refine x_astore_n C dX3_teacherFor_66 (by decide) rfl ?_
                refine x_iinc C dX3_teacherFor_67 rfl (nI_inc _) (by decide) rfl ?_
                refine x_goto C 4 dX3_teacherFor_70 (by decide) ?_
                refine xX.cl ih rfl (And.intro rfl (And.intro rfl (And.intro ?_ (And.intro rfl trivial)))) rfl
                rw [teS_u (fun z => h20 (by rw [z])) h28 h42 hy h61]; rfl
            · refine x_goto C 67 dX3_teacherFor_45 (by decide) ?_
              refine x_iinc C dX3_teacherFor_67 rfl (nI_inc _) (by decide) rfl ?_
              refine x_goto C 4 dX3_teacherFor_70 (by decide) ?_
              refine xX.cl ih rfl (And.intro rfl (And.intro rfl (And.intro ?_ (And.intro rfl trivial)))) rfl
              rw [teS_sk (Or.inr (Or.inr h42)), hy]; rfl
  refine x_null C dX3_teacherFor_0 ?_
  refine x_astore_nN C dX3_teacherFor_1 (by decide) rfl ?_
  refine x_iconst (v := 0) C dX3_teacherFor_2 (by decide) ?_
  refine x_istore_n C dX3_teacherFor_3 (by decide) rfl ?_
  refine xX.cl (hl 0 (by omega)) rfl (And.intro rfl (And.intro rfl (And.intro rfl (And.intro rfl trivial)))) rfl
end
section
set_option maxRecDepth 100000 in
set_option maxHeartbeats 1000000 in
theorem c_X3_sumOfWeights {l : Launch} {E : xEnv} {B N : Nat} {σ : Sg} {b : Nat} {V : Vs} : xM l yX3_sumOfWeights cX3_sumOfWeights 3 (some .int) 1 25 0 0 E B [.ref b] N (vput E σ b V) N (vput E σ b V) (some (.int (swL V 8))) := by
  refine xM_of [some (.ref _), none, none] (by decide +kernel) (Nat.le_of_ble_eq_true rfl) rfl (fun k0 C Z => ?_)
  have hl : ∀ i, i ≤ 8 → xX k0 N 0 0 (vput E σ b V) 4 [some (.ref b), some (.int (swL V i)), some (.int (nI i))] [] := by
    refine x_for 8 ?_ ?_
    · refine x_iload_n C dX3_sumOfWeights_4 rfl ?_
      refine x_bipush (v := 8) C dX3_sumOfWeights_5 (by decide) ?_
      refine x_ic_ge C 40 dX3_sumOfWeights_7 (by decide) (fun _ => ?_) (fun h => absurd (nI_le (a := 8) (Nat.le_refl _) (by omega)) h)
      refine x_iload_n C dX3_sumOfWeights_40 rfl ?_
      exact x_zret C Z dX3_sumOfWeights_41 rfl (Nat.le_of_ble_eq_true rfl) (Nat.le_of_ble_eq_true rfl) rfl rfl rfl
    · intro i hi ih
      refine x_iload_n C dX3_sumOfWeights_4 rfl ?_
      refine x_bipush (v := 8) C dX3_sumOfWeights_5 (by decide) ?_
      refine x_ic_ge C 40 dX3_sumOfWeights_7 (by decide) (fun h => absurd h (nI_ge (b := 8) hi (by omega))) (fun _ => ?_)
      refine x_aload_n C dX3_sumOfWeights_10 rfl ?_
      refine x_get C kf_X3_11 vput_0 rfl dX3_sumOfWeights_11 ?_
      refine x_iload_n C dX3_sumOfWeights_14 rfl ?_
      refine x_aald2 (t0 := 2) C vput_1 rfl rfl hi (by decide) dX3_sumOfWeights_15 ?_
      refine x_get C kf_X3_55 (vput_s hi) rfl dX3_sumOfWeights_16 ?_
      refine x_feq C 34 dX3_sumOfWeights_19 (by decide) (fun h19 => ?_) (fun h19 => ?_)
      · refine x_iinc C dX3_sumOfWeights_34 rfl (nI_inc _) (by decide) rfl ?_
        refine x_goto C 4 dX3_sumOfWeights_37 (by decide) ?_
        refine xX.cl ih rfl (And.intro rfl (And.intro ?_ (And.intro rfl trivial))) rfl
        rw [swL, if_neg h19]; rfl
      · refine x_iload_n C dX3_sumOfWeights_22 rfl ?_
        refine x_aload_n C dX3_sumOfWeights_23 rfl ?_
        refine x_get C kf_X3_11 vput_0 rfl dX3_sumOfWeights_24 ?_
        refine x_iload_n C dX3_sumOfWeights_27 rfl ?_
        refine x_aald2 (t0 := 2) C vput_1 rfl rfl hi (by decide) dX3_sumOfWeights_28 ?_
        refine x_callV C (c_X2_sumOfWeights hi) kv_X2_sumOfWeights kl_X3_124 dX3_sumOfWeights_29 (vput_s hi) rfl rfl rfl rfl (Nat.le_of_ble_eq_true rfl) (Nat.le_of_ble_eq_true rfl) (Nat.le_of_ble_eq_true rfl) (Nat.le_of_ble_eq_true rfl) (Nat.le_of_ble_eq_true rfl) ?_
        refine x_iadd C dX3_sumOfWeights_32 ?_
        refine x_istore_n C dX3_sumOfWeights_33 (by decide) rfl ?_
        refine x_iinc C dX3_sumOfWeights_34 rfl (nI_inc _) (by decide) rfl ?_
        refine x_goto C 4 dX3_sumOfWeights_37 (by decide) ?_
        refine xX.cl ih rfl (And.intro rfl (And.intro ?_ (And.intro rfl trivial))) rfl
        rw [swL, if_pos h19]; rfl
  refine x_iconst (v := 0) C dX3_sumOfWeights_0 (by decide) ?_
  refine x_istore_n C dX3_sumOfWeights_1 (by decide) rfl ?_
  refine x_iconst (v := 0) C dX3_sumOfWeights_2 (by decide) ?_
  refine x_istore_n C dX3_sumOfWeights_3 (by decide) rfl ?_
  refine xX.cl (hl 0 (by omega)) rfl (And.intro rfl (And.intro rfl (And.intro rfl trivial))) rfl
set_option maxRecDepth 100000 in
set_option maxHeartbeats 1000000 in
theorem c_X3_numberOf {l : Launch} {E : xEnv} {B N : Nat} {σ : Sg} {b : Nat} {V : Vs} {j : Nat} (hj : j < 7) : xM l yX3_numberOf cX3_numberOf 2 (some .int) 2 47 0 0 E B [.ref b, .int (nI j)] N (vput E σ b V) N (vput E σ b V) (some (.int (nuS V j))) := by
  rcases (show j = 0 ∨ j = 1 ∨ j = 2 ∨ j = 3 ∨ j = 4 ∨ j = 5 ∨ j = 6 by omega) with rfl | rfl | rfl | rfl | rfl | rfl | rfl
  · refine xM_of [some (.ref _), some (.int _)] (by decide +kernel) (Nat.le_of_ble_eq_true rfl) rfl (fun k0 C Z => ?_)
    refine x_iload_n C dX3_numberOf_0 rfl ?_
    refine x_tbI C 40 dX3_numberOf_1 (by decide) (by decide) rfl (by decide) ?_
    refine x_aload_n C dX3_numberOf_40 rfl ?_
    refine x_callV C c_X3_countSpeakers kv_X3_countSpeakers kl_X3_85 dX3_numberOf_41 vput_0 rfl rfl rfl rfl (Nat.le_of_ble_eq_true rfl) (Nat.le_of_ble_eq_true rfl) (Nat.le_of_ble_eq_true rfl) (Nat.le_of_ble_eq_true rfl) (Nat.le_of_ble_eq_true rfl) ?_
    exact x_zret C Z dX3_numberOf_44 rfl (Nat.le_of_ble_eq_true rfl) (Nat.le_of_ble_eq_true rfl) rfl rfl rfl
  · refine xM_of [some (.ref _), some (.int _)] (by decide +kernel) (Nat.le_of_ble_eq_true rfl) rfl (fun k0 C Z => ?_)
    refine x_iload_n C dX3_numberOf_0 rfl ?_
    refine x_tbI C 45 dX3_numberOf_1 (by decide) (by decide) rfl (by decide) ?_
    refine x_aload_n C dX3_numberOf_45 rfl ?_
    refine x_get C kf_X3_25 vput_0 rfl dX3_numberOf_46 ?_
    exact x_zret C Z dX3_numberOf_49 rfl (Nat.le_of_ble_eq_true rfl) (Nat.le_of_ble_eq_true rfl) rfl rfl rfl
  · refine xM_of [some (.ref _), some (.int _)] (by decide +kernel) (Nat.le_of_ble_eq_true rfl) rfl (fun k0 C Z => ?_)
    refine x_iload_n C dX3_numberOf_0 rfl ?_
    refine x_tbI C 50 dX3_numberOf_1 (by decide) (by decide) rfl (by decide) ?_
    refine x_aload_n C dX3_numberOf_50 rfl ?_
    refine x_get C kf_X3_39 vput_0 rfl dX3_numberOf_51 ?_
    exact x_zret C Z dX3_numberOf_54 rfl (Nat.le_of_ble_eq_true rfl) (Nat.le_of_ble_eq_true rfl) rfl rfl rfl
  · refine xM_of [some (.ref _), some (.int _)] (by decide +kernel) (Nat.le_of_ble_eq_true rfl) rfl (fun k0 C Z => ?_)
    refine x_iload_n C dX3_numberOf_0 rfl ?_
    refine x_tbI C 55 dX3_numberOf_1 (by decide) (by decide) rfl (by decide) ?_
    refine x_aload_n C dX3_numberOf_55 rfl ?_
    refine x_get C kf_X3_42 vput_0 rfl dX3_numberOf_56 ?_
    exact x_zret C Z dX3_numberOf_59 rfl (Nat.le_of_ble_eq_true rfl) (Nat.le_of_ble_eq_true rfl) rfl rfl rfl
  · refine xM_of [some (.ref _), some (.int _)] (by decide +kernel) (Nat.le_of_ble_eq_true rfl) rfl (fun k0 C Z => ?_)
    refine x_iload_n C dX3_numberOf_0 rfl ?_
    refine x_tbI C 60 dX3_numberOf_1 (by decide) (by decide) rfl (by decide) ?_
    refine x_aload_n C dX3_numberOf_60 rfl ?_
    refine x_get C kf_X3_45 vput_0 rfl dX3_numberOf_61 ?_
    exact x_zret C Z dX3_numberOf_64 rfl (Nat.le_of_ble_eq_true rfl) (Nat.le_of_ble_eq_true rfl) rfl rfl rfl
  · refine xM_of [some (.ref _), some (.int _)] (by decide +kernel) (Nat.le_of_ble_eq_true rfl) rfl (fun k0 C Z => ?_)
    refine x_iload_n C dX3_numberOf_0 rfl ?_
    refine x_tbI C 65 dX3_numberOf_1 (by decide) (by decide) rfl (by decide) ?_
    refine x_aload_n C dX3_numberOf_65 rfl ?_
    refine x_get C kf_X3_48 vput_0 rfl dX3_numberOf_66 ?_
    exact x_zret C Z dX3_numberOf_69 rfl (Nat.le_of_ble_eq_true rfl) (Nat.le_of_ble_eq_true rfl) rfl rfl rfl
  · refine xM_of [some (.ref _), some (.int _)] (by decide +kernel) (Nat.le_of_ble_eq_true rfl) rfl (fun k0 C Z => ?_)
    refine x_iload_n C dX3_numberOf_0 rfl ?_
    refine x_tbO C 70 dX3_numberOf_1 (Or.inr (by decide)) (by decide) ?_
    refine x_aload_n C dX3_numberOf_70 rfl ?_
    refine x_callV C c_X3_sumOfWeights kv_X3_sumOfWeights kl_X3_112 dX3_numberOf_71 vput_0 rfl rfl rfl rfl (Nat.le_of_ble_eq_true rfl) (Nat.le_of_ble_eq_true rfl) (Nat.le_of_ble_eq_true rfl) (Nat.le_of_ble_eq_true rfl) (Nat.le_of_ble_eq_true rfl) ?_
    exact x_zret C Z dX3_numberOf_74 rfl (Nat.le_of_ble_eq_true rfl) (Nat.le_of_ble_eq_true rfl) rfl rfl rfl
set_option maxRecDepth 100000 in
set_option maxHeartbeats 1000000 in
theorem c_X3_numberOfSpeaker {l : Launch} {E : xEnv} {B N : Nat} {σ : Sg} {b : Nat} {V : Vs} {k j : Nat} (hk : k < 8) (hj : j < 5) : xM l yX3_numberOfSpeaker cX3_numberOfSpeaker 3 (some .int) 4 91 0 0 E B [.ref b, .ref (b + 2 + 2 * k), .int (nI j)] N (vput E σ b V) N (vput E σ b V) (some (.int (nsS V k j))) := by
  rcases (show j = 0 ∨ j = 1 ∨ j = 2 ∨ j = 3 ∨ j = 4 by omega) with rfl | rfl | rfl | rfl | rfl
  · refine xM_of [some (.ref _), some (.ref _), some (.int _)] (by decide +kernel) (Nat.le_of_ble_eq_true rfl) rfl (fun k0 C Z => ?_)
    refine x_iload_n C dX3_numberOfSpeaker_0 rfl ?_
    refine x_tbI C 32 dX3_numberOfSpeaker_1 (by decide) (by decide) rfl (by decide) ?_
    refine x_aload_n C dX3_numberOfSpeaker_32 rfl ?_
    refine x_get C kf_X3_104 (vput_s hk) rfl dX3_numberOfSpeaker_33 ?_
    exact x_zret C Z dX3_numberOfSpeaker_36 rfl (Nat.le_of_ble_eq_true rfl) (Nat.le_of_ble_eq_true rfl) rfl rfl rfl
  · refine xM_of [some (.ref _), some (.ref _), some (.int _)] (by decide +kernel) (Nat.le_of_ble_eq_true rfl) rfl (fun k0 C Z => ?_)
    refine x_iload_n C dX3_numberOfSpeaker_0 rfl ?_
    refine x_tbI C 37 dX3_numberOfSpeaker_1 (by decide) (by decide) rfl (by decide) ?_
    refine x_aload_n C dX3_numberOfSpeaker_37 rfl ?_
    refine x_aload_n C dX3_numberOfSpeaker_38 rfl ?_
    refine x_get C kf_X3_18 vput_0 rfl dX3_numberOfSpeaker_39 ?_
    refine x_iconst (v := 0) C dX3_numberOfSpeaker_42 (by decide) ?_
    refine x_iald2 C vput_18 rfl (by decide) (by decide) dX3_numberOfSpeaker_43 ?_
    refine x_callV C (c_X2_learnsWith hk _) kv_X2_learnsWith kl_X3_115 dX3_numberOfSpeaker_44 (vput_s hk) rfl rfl rfl rfl (Nat.le_of_ble_eq_true rfl) (Nat.le_of_ble_eq_true rfl) (Nat.le_of_ble_eq_true rfl) (Nat.le_of_ble_eq_true rfl) (Nat.le_of_ble_eq_true rfl) ?_
    exact x_zret C Z dX3_numberOfSpeaker_47 rfl (Nat.le_of_ble_eq_true rfl) (Nat.le_of_ble_eq_true rfl) rfl rfl rfl
  · refine xM_of [some (.ref _), some (.ref _), some (.int _)] (by decide +kernel) (Nat.le_of_ble_eq_true rfl) rfl (fun k0 C Z => ?_)
    refine x_iload_n C dX3_numberOfSpeaker_0 rfl ?_
    refine x_tbI C 48 dX3_numberOfSpeaker_1 (by decide) (by decide) rfl (by decide) ?_
    refine x_aload_n C dX3_numberOfSpeaker_48 rfl ?_
    refine x_callV C (c_X2_countWords hk) kv_X2_countWords kl_X3_118 dX3_numberOfSpeaker_49 (vput_s hk) rfl rfl rfl rfl (Nat.le_of_ble_eq_true rfl) (Nat.le_of_ble_eq_true rfl) (Nat.le_of_ble_eq_true rfl) (Nat.le_of_ble_eq_true rfl) (Nat.le_of_ble_eq_true rfl) ?_
    exact x_zret C Z dX3_numberOfSpeaker_52 rfl (Nat.le_of_ble_eq_true rfl) (Nat.le_of_ble_eq_true rfl) rfl rfl rfl
  · refine xM_of [some (.ref _), some (.ref _), some (.int _)] (by decide +kernel) (Nat.le_of_ble_eq_true rfl) rfl (fun k0 C Z => ?_)
    refine x_iload_n C dX3_numberOfSpeaker_0 rfl ?_
    refine x_tbI C 53 dX3_numberOfSpeaker_1 (by decide) (by decide) rfl (by decide) ?_
    refine x_aload_n C dX3_numberOfSpeaker_53 rfl ?_
    refine x_callV C (c_X2_countConfusions hk) kv_X2_countConfusions kl_X3_121 dX3_numberOfSpeaker_54 (vput_s hk) rfl rfl rfl rfl (Nat.le_of_ble_eq_true rfl) (Nat.le_of_ble_eq_true rfl) (Nat.le_of_ble_eq_true rfl) (Nat.le_of_ble_eq_true rfl) (Nat.le_of_ble_eq_true rfl) ?_
    exact x_zret C Z dX3_numberOfSpeaker_57 rfl (Nat.le_of_ble_eq_true rfl) (Nat.le_of_ble_eq_true rfl) rfl rfl rfl
  · refine xM_of [some (.ref _), some (.ref _), some (.int _)] (by decide +kernel) (Nat.le_of_ble_eq_true rfl) rfl (fun k0 C Z => ?_)
    refine x_iload_n C dX3_numberOfSpeaker_0 rfl ?_
    refine x_tbO C 58 dX3_numberOfSpeaker_1 (Or.inr (by decide)) (by decide) ?_
    refine x_aload_n C dX3_numberOfSpeaker_58 rfl ?_
    refine x_get C kf_X3_73 (vput_s hk) rfl dX3_numberOfSpeaker_59 ?_
    exact x_zret C Z dX3_numberOfSpeaker_62 rfl (Nat.le_of_ble_eq_true rfl) (Nat.le_of_ble_eq_true rfl) rfl rfl rfl
set_option maxRecDepth 100000 in
set_option maxHeartbeats 1000000 in
theorem c_X3_countUsers {l : Launch} {E : xEnv} {B N : Nat} {σ : Sg} {b : Nat} {V : Vs} {m : Nat} (hm : m < 6) : xM l yX3_countUsers cX3_countUsers 4 none 3 67 0 0 E B [.ref b, .int (nI m)] N (vput E σ b V) N (vput E σ b (usR V m 8)) none := by
  refine xM_of [some (.ref _), some (.int _), none, none] (by decide +kernel) (Nat.le_of_ble_eq_true rfl) rfl (fun k0 C Z => ?_)
  have hl2 : ∀ i, i ≤ 8 → xX k0 N 0 0 (vput E σ b (usR V m i)) 23 [some (.ref b), some (.int (nI m)), some (.int (nI i)), none] [] := by
    refine x_for 8 ?_ ?_
    · refine x_iload_n C dX3_countUsers_23 rfl ?_
      refine x_bipush (v := 8) C dX3_countUsers_24 (by decide) ?_
      refine x_ic_ge C 80 dX3_countUsers_26 (by decide) (fun _ => ?_) (fun h => absurd (nI_le (a := 8) (Nat.le_refl _) (by omega)) h)
      exact x_vret C Z dX3_countUsers_80 (Nat.le_of_ble_eq_true rfl) (Nat.le_of_ble_eq_true rfl) rfl rfl
    · intro i hi ih
      refine x_iload_n C dX3_countUsers_23 rfl ?_
      refine x_bipush (v := 8) C dX3_countUsers_24 (by decide) ?_
      refine x_ic_ge C 80 dX3_countUsers_26 (by decide) (fun h => absurd h (nI_ge (b := 8) hi (by omega))) (fun _ => ?_)
      refine x_aload_n C dX3_countUsers_29 rfl ?_
      refine x_get C kf_X3_11 vput_0 rfl dX3_countUsers_30 ?_
      refine x_iload_n C dX3_countUsers_33 rfl ?_
      refine x_aald2 (t0 := 2) C vput_1 rfl rfl hi (by decide) dX3_countUsers_34 ?_
      refine x_get C kf_X3_55 (vput_s hi) rfl dX3_countUsers_35 ?_
      refine x_feq C 54 dX3_countUsers_38 (by decide) (fun h38 => ?_) (fun h38 => ?_)
      · rw [usR_r (by decide)] at h38
        refine x_bipush (v := (-6)) C dX3_countUsers_54 (by decide) ?_
        refine x_istore_n C dX3_countUsers_56 (by decide) rfl ?_
        refine x_iload_n C dX3_countUsers_57 rfl ?_
        refine x_callS C (c_X4_isWord _) ks_X4_isWord kl_X3_129 dX3_countUsers_58 rfl rfl rfl rfl (Nat.le_of_ble_eq_true rfl) (Nat.le_of_ble_eq_true rfl) (Nat.le_of_ble_eq_true rfl) (Nat.le_of_ble_eq_true rfl) (Nat.le_of_ble_eq_true rfl) ?_
        refine x_beq C 74 dX3_countUsers_61 (by decide) (fun _ => ?_) (fun h => absurd h (show ¬ (0 ≤ (-6 : Int32) ∧ (-6 : Int32) < 14) by decide))
        refine x_iinc C dX3_countUsers_74 rfl (nI_inc _) (by decide) rfl ?_
        refine x_goto C 23 dX3_countUsers_77 (by decide) ?_
        refine xX.cl ih (congrArg _ (usR_f (fun w z => h38 z.1))) (And.intro rfl (And.intro rfl (And.intro rfl trivial))) rfl
      · rw [usR_r (by decide)] at h38
        refine x_aload_n C dX3_countUsers_41 rfl ?_
        refine x_get C kf_X3_11 vput_0 rfl dX3_countUsers_42 ?_
        refine x_iload_n C dX3_countUsers_45 rfl ?_
        refine x_aald2 (t0 := 2) C vput_1 rfl rfl hi (by decide) dX3_countUsers_46 ?_
        refine x_iload_n C dX3_countUsers_47 rfl ?_
        refine x_callV C (c_X2_wordFor hi hm) kv_X2_wordFor kl_X3_63 dX3_countUsers_48 (vput_s hi) rfl rfl rfl rfl (Nat.le_of_ble_eq_true rfl) (Nat.le_of_ble_eq_true rfl) (Nat.le_of_ble_eq_true rfl) (Nat.le_of_ble_eq_true rfl) (Nat.le_of_ble_eq_true rfl) ?_
        refine x_goto C 56 dX3_countUsers_51 (by decide) ?_
        refine x_istore_n C dX3_countUsers_56 (by decide) rfl ?_
        rw [usR_r (show i ≠ 13 by omega)]
        cases hq : wfS (V i) m with
        | none =>
          refine x_iload_n C dX3_countUsers_57 rfl ?_
          refine x_callS C (c_X4_isWord _) ks_X4_isWord kl_X3_129 dX3_countUsers_58 rfl rfl rfl rfl (Nat.le_of_ble_eq_true rfl) (Nat.le_of_ble_eq_true rfl) (Nat.le_of_ble_eq_true rfl) (Nat.le_of_ble_eq_true rfl) (Nat.le_of_ble_eq_true rfl) ?_
          refine x_beq C 74 dX3_countUsers_61 (by decide) (fun _ => ?_) (fun h => absurd h (show ¬ (0 ≤ (-6 : Int32) ∧ (-6 : Int32) < 14) by decide))
          refine x_iinc C dX3_countUsers_74 rfl (nI_inc _) (by decide) rfl ?_
          refine x_goto C 23 dX3_countUsers_77 (by decide) ?_
          refine xX.cl ih (congrArg _ (usR_f (fun w z => by rw [hq] at z; cases z.2))) (And.intro rfl (And.intro rfl (And.intro rfl trivial))) rfl
        | some w =>
          refine x_iload_n C dX3_countUsers_57 rfl ?_
          refine x_callS C (c_X4_isWord _) ks_X4_isWord kl_X3_129 dX3_countUsers_58 rfl rfl rfl rfl (Nat.le_of_ble_eq_true rfl) (Nat.le_of_ble_eq_true rfl) (Nat.le_of_ble_eq_true rfl) (Nat.le_of_ble_eq_true rfl) (Nat.le_of_ble_eq_true rfl) ?_
          refine x_beq C 74 dX3_countUsers_61 (by decide) (fun h => absurd (bd_in (c := 14) (wfS_in hq) (by decide)) h) (fun _ => ?_)
          refine x_aload_n C dX3_countUsers_64 rfl ?_
          refine x_get C kf_X3_22 vput_0 rfl dX3_countUsers_65 ?_
          refine x_iload_n C dX3_countUsers_68 rfl ?_
          refine x_dup2 C dX3_countUsers_69 rfl rfl ?_
          refine x_iald2 C vput_19 rfl (wfS_in hq) (by decide) dX3_countUsers_70 ?_
          refine x_iconst (v := 1) C dX3_countUsers_71 (by decide) ?_
          refine x_iadd C dX3_countUsers_72 ?_
          refine x_iast2 C vput_19 rfl (wfS_in hq) (by decide) (fun _ _ => rfl) (vput_us _ _) dX3_countUsers_73 ?_
          refine x_iinc C dX3_countUsers_74 rfl (nI_inc _) (by decide) rfl ?_
          refine x_goto C 23 dX3_countUsers_77 (by decide) ?_
          refine xX.cl ih (congrArg _ (usR_t h38 hq)) (And.intro rfl (And.intro rfl (And.intro rfl trivial))) rfl
  have hl : ∀ i, i ≤ 14 → xX k0 N 0 0 (vput E σ b (usZ V i)) 2 [some (.ref b), some (.int (nI m)), some (.int (nI i)), none] [] := by
    refine x_for 14 ?_ ?_
    · refine x_iload_n C dX3_countUsers_2 rfl ?_
      refine x_bipush (v := 14) C dX3_countUsers_3 (by decide) ?_
      refine x_ic_ge C 21 dX3_countUsers_5 (by decide) (fun _ => ?_) (fun h => absurd (nI_le (a := 14) (Nat.le_refl _) (by omega)) h)
      refine x_iconst (v := 0) C dX3_countUsers_21 (by decide) ?_
      refine x_istore_n C dX3_countUsers_22 (by decide) rfl ?_
      refine xX.cl (hl2 0 (by omega)) (congrArg _ usR_0) (And.intro rfl (And.intro rfl (And.intro rfl trivial))) rfl
    · intro i hi ih
      refine x_iload_n C dX3_countUsers_2 rfl ?_
      refine x_bipush (v := 14) C dX3_countUsers_3 (by decide) ?_
      refine x_ic_ge C 21 dX3_countUsers_5 (by decide) (fun h => absurd h (nI_ge (b := 14) hi (by omega))) (fun _ => ?_)
      refine x_aload_n C dX3_countUsers_8 rfl ?_
      refine x_get C kf_X3_22 vput_0 rfl dX3_countUsers_9 ?_
      refine x_iload_n C dX3_countUsers_12 rfl ?_
      refine x_iconst (v := 0) C dX3_countUsers_13 (by decide) ?_
      refine x_iast2 C vput_19 rfl hi (by decide) (fun _ _ => rfl) (vput_us _ _) dX3_countUsers_14 ?_
      refine x_iinc C dX3_countUsers_15 rfl (nI_inc _) (by decide) rfl ?_
      refine x_goto C 2 dX3_countUsers_18 (by decide) ?_
      refine xX.cl ih (congrArg _ usZ_s) (And.intro rfl (And.intro rfl (And.intro rfl trivial))) rfl
  refine x_iconst (v := 0) C dX3_countUsers_0 (by decide) ?_
  refine x_istore_n C dX3_countUsers_1 (by decide) rfl ?_
  refine xX.cl (hl 0 (by omega)) (congrArg _ usZ_0.symm) (And.intro rfl (And.intro rfl (And.intro rfl trivial))) rfl
set_option maxRecDepth 100000 in
set_option maxHeartbeats 1000000 in
theorem c_X3_commonWord {l : Launch} {E : xEnv} {B N : Nat} {σ : Sg} {b : Nat} {V : Vs} {m : Nat} (hm : m < 6) : xM l yX3_commonWord cX3_commonWord 5 (some .int) 4 90 0 0 E B [.ref b, .int (nI m)] N (vput E σ b V) N (vput E σ b (usR V m 8)) (some (.int (oI (cmS V m)))) := by
  refine xM_of [some (.ref _), some (.int _), none, none, none] (by decide +kernel) (Nat.le_of_ble_eq_true rfl) rfl (fun k0 C Z => ?_)
  have hl : ∀ i, i ≤ 14 → xX k0 N 0 0 (vput E σ b (usR V m 8)) 13 [some (.ref b), some (.int (nI m)), some (.int (oI (wfL (fun w => nI (cuN V m w 8)) i).1)), some (.int (wfL (fun w => nI (cuN V m w 8)) i).2), some (.int (nI i))] [] := by
    refine x_for 14 ?_ ?_
    · refine x_iload C dX3_commonWord_13 rfl ?_
      refine x_bipush (v := 14) C dX3_commonWord_15 (by decide) ?_
      refine x_ic_ge C 48 dX3_commonWord_17 (by decide) (fun _ => ?_) (fun h => absurd (nI_le (a := 14) (Nat.le_refl _) (by omega)) h)
      refine x_iload_n C dX3_commonWord_48 rfl ?_
      exact x_zret C Z dX3_commonWord_49 rfl (Nat.le_of_ble_eq_true rfl) (Nat.le_of_ble_eq_true rfl) rfl rfl rfl
    · intro i hi ih
      refine x_iload C dX3_commonWord_13 rfl ?_
      refine x_bipush (v := 14) C dX3_commonWord_15 (by decide) ?_
      refine x_ic_ge C 48 dX3_commonWord_17 (by decide) (fun h => absurd h (nI_ge (b := 14) hi (by omega))) (fun _ => ?_)
      refine x_aload_n C dX3_commonWord_20 rfl ?_
      refine x_get C kf_X3_22 vput_0 rfl dX3_commonWord_21 ?_
      refine x_iload C dX3_commonWord_24 rfl ?_
      refine x_iald2 C vput_19 rfl hi (by decide) dX3_commonWord_26 ?_
      rw [usR_w hi]
      refine x_iload_n C dX3_commonWord_27 rfl ?_
      refine x_ic_le C 42 dX3_commonWord_28 (by decide) (fun h28 => ?_) (fun h28 => ?_)
      · refine x_iinc C dX3_commonWord_42 rfl (nI_inc _) (by decide) rfl ?_
        refine x_goto C 13 dX3_commonWord_45 (by decide) ?_
        refine xX.cl ih rfl (And.intro rfl (And.intro rfl (And.intro ?_ (And.intro ?_ (And.intro rfl trivial))))) rfl
        all_goals (rw [wfL, if_pos h28]; rfl)
      · refine x_aload_n C dX3_commonWord_31 rfl ?_
        refine x_get C kf_X3_22 vput_0 rfl dX3_commonWord_32 ?_
        refine x_iload C dX3_commonWord_35 rfl ?_
        refine x_iald2 C vput_19 rfl hi (by decide) dX3_commonWord_37 ?_
        rw [usR_w hi]
        refine x_istore_n C dX3_commonWord_38 (by decide) rfl ?_
        refine x_iload C dX3_commonWord_39 rfl ?_
        refine x_istore_n C dX3_commonWord_41 (by decide) rfl ?_
        refine x_iinc C dX3_commonWord_42 rfl (nI_inc _) (by decide) rfl ?_
        refine x_goto C 13 dX3_commonWord_45 (by decide) ?_
        refine xX.cl ih rfl (And.intro rfl (And.intro rfl (And.intro ?_ (And.intro ?_ (And.intro rfl trivial))))) rfl
        all_goals (rw [wfL, if_neg h28]; rfl)
  refine x_aload_n C dX3_commonWord_0 rfl ?_
  refine x_iload_n C dX3_commonWord_1 rfl ?_
  refine x_callV C (c_X3_countUsers hm) kv_X3_countUsers kl_X3_125 dX3_commonWord_2 vput_0 rfl rfl rfl rfl (Nat.le_of_ble_eq_true rfl) (Nat.le_of_ble_eq_true rfl) (Nat.le_of_ble_eq_true rfl) (Nat.le_of_ble_eq_true rfl) (Nat.le_of_ble_eq_true rfl) ?_
  refine x_bipush (v := (-6)) C dX3_commonWord_5 (by decide) ?_
  refine x_istore_n C dX3_commonWord_7 (by decide) rfl ?_
  refine x_iconst (v := 0) C dX3_commonWord_8 (by decide) ?_
  refine x_istore_n C dX3_commonWord_9 (by decide) rfl ?_
  refine x_iconst (v := 0) C dX3_commonWord_10 (by decide) ?_
  refine x_istore C dX3_commonWord_11 (by decide) rfl ?_
  refine xX.cl (hl 0 (by omega)) rfl (And.intro rfl (And.intro rfl (And.intro rfl (And.intro rfl (And.intro rfl trivial))))) rfl
set_option maxRecDepth 100000 in
set_option maxHeartbeats 1000000 in
theorem c_X3_passYear {l : Launch} {E : xEnv} {B N : Nat} {σ : Sg} {b : Nat} {V : Vs} : xM l yX3_passYear cX3_passYear 3 none 3 69 0 0 E B [.ref b] N (vput E σ b V) N (vput E σ b (yrS V)) none := by
  refine xM_of [some (.ref _), none, none] (by decide +kernel) (Nat.le_of_ble_eq_true rfl) rfl (fun k0 C Z => ?_)
  have hl2 : ∀ i, i ≤ 8 → xX k0 N 0 0 (vput E σ b (byL (agL (up2 V 9 4 (V 9 4 + 1)) 8) i)) 53 [some (.ref b), some (.int (nI i)), none] [] := by
    refine x_for 8 ?_ ?_
    · refine x_iload_n C dX3_passYear_53 rfl ?_
      refine x_bipush (v := 8) C dX3_passYear_54 (by decide) ?_
      refine x_ic_ge C 117 dX3_passYear_56 (by decide) (fun _ => ?_) (fun h => absurd (nI_le (a := 8) (Nat.le_refl _) (by omega)) h)
      exact x_vret C Z dX3_passYear_117 (Nat.le_of_ble_eq_true rfl) (Nat.le_of_ble_eq_true rfl) rfl rfl
    · intro i hi ih
      refine x_iload_n C dX3_passYear_53 rfl ?_
      refine x_bipush (v := 8) C dX3_passYear_54 (by decide) ?_
      refine x_ic_ge C 117 dX3_passYear_56 (by decide) (fun h => absurd h (nI_ge (b := 8) hi (by omega))) (fun _ => ?_)
      refine x_aload_n C dX3_passYear_59 rfl ?_
      refine x_get C kf_X3_11 vput_0 rfl dX3_passYear_60 ?_
      refine x_iload_n C dX3_passYear_63 rfl ?_
      refine x_aald2 (t0 := 2) C vput_1 rfl rfl hi (by decide) dX3_passYear_64 ?_
      refine x_astore_n C dX3_passYear_65 (by decide) rfl ?_
      refine x_aload_n C dX3_passYear_66 rfl ?_
      refine x_get C kf_X3_55 (vput_s hi) rfl dX3_passYear_67 ?_
      refine x_feq C 111 dX3_passYear_70 (by decide) (fun h70 => ?_) (fun h70 => ?_)
      · refine x_iinc C dX3_passYear_111 rfl (nI_inc _) (by decide) rfl ?_
        refine x_goto C 53 dX3_passYear_114 (by decide) ?_
        refine xX.cl ih (congrArg _ (byK_f (fun z => h70 z.1)).symm) (And.intro rfl (And.intro rfl trivial)) rfl
      · refine x_aload_n C dX3_passYear_73 rfl ?_
        refine x_get C kf_X3_104 (vput_s hi) rfl dX3_passYear_74 ?_
        refine x_aload_n C dX3_passYear_77 rfl ?_
        refine x_get C kf_X3_18 vput_0 rfl dX3_passYear_78 ?_
        refine x_iconst (v := 2) C dX3_passYear_81 (by decide) ?_
        refine x_iald2 C vput_18 rfl (by decide) (by decide) dX3_passYear_82 ?_
        refine x_ic_le C 111 dX3_passYear_83 (by decide) (fun h83 => ?_) (fun h83 => ?_)
        · refine x_iinc C dX3_passYear_111 rfl (nI_inc _) (by decide) rfl ?_
          refine x_goto C 53 dX3_passYear_114 (by decide) ?_
          refine xX.cl ih (congrArg _ (byK_f (fun z => z.2 h83)).symm) (And.intro rfl (And.intro rfl trivial)) rfl
        · cases ht : teS (byL (agL (up2 V 9 4 (V 9 4 + 1)) 8) i) i 8 with
          | none =>
            refine x_aload_n C dX3_passYear_86 rfl ?_
            refine x_aload_n C dX3_passYear_87 rfl ?_
            refine x_iload_n C dX3_passYear_88 rfl ?_
            refine x_callV C (c_X3_teacherFor_none hi ht) kv_X3_teacherFor kl_X3_105 dX3_passYear_89 vput_0 rfl rfl rfl rfl (Nat.le_of_ble_eq_true rfl) (Nat.le_of_ble_eq_true rfl) (Nat.le_of_ble_eq_true rfl) (Nat.le_of_ble_eq_true rfl) (Nat.le_of_ble_eq_true rfl) ?_
            refine x_aload_n C dX3_passYear_92 rfl ?_
            refine x_get C kf_X3_18 vput_0 rfl dX3_passYear_93 ?_
            refine x_iconst (v := 3) C dX3_passYear_96 (by decide) ?_
            refine x_iald2 C vput_18 rfl (by decide) (by decide) dX3_passYear_97 ?_
            refine x_callV C (c_X2_beginLife_none hi _) kv_X2_beginLife kl_X3_108 dX3_passYear_98 (vput_s hi) rfl rfl rfl rfl (Nat.le_of_ble_eq_true rfl) (Nat.le_of_ble_eq_true rfl) (Nat.le_of_ble_eq_true rfl) (Nat.le_of_ble_eq_true rfl) (Nat.le_of_ble_eq_true rfl) ?_
            refine x_aload_n C dX3_passYear_101 rfl ?_
            refine x_dup C dX3_passYear_102 rfl ?_
            refine x_get C kf_X3_45 vput_0 rfl dX3_passYear_103 ?_
            refine x_iconst (v := 1) C dX3_passYear_106 (by decide) ?_
            refine x_iadd C dX3_passYear_107 ?_
            refine x_put (ty := .int) C kf_X3_45 vput_0 rfl (by decide +kernel) rfl rfl (Nat.le_of_ble_eq_true rfl) (vput_v3 _) dX3_passYear_108 ?_
            refine x_iinc C dX3_passYear_111 rfl (nI_inc _) (by decide) rfl ?_
            refine x_goto C 53 dX3_passYear_114 (by decide) ?_
            refine xX.cl ih (congrArg _ (byK_t ⟨h70, h83⟩ ht).symm) (And.intro rfl (And.intro rfl trivial)) rfl
          | some y =>
            have hy := teS_in ht
            refine x_aload_n C dX3_passYear_86 rfl ?_
            refine x_aload_n C dX3_passYear_87 rfl ?_
            refine x_iload_n C dX3_passYear_88 rfl ?_
            refine x_callV C (c_X3_teacherFor_some hi ht) kv_X3_teacherFor kl_X3_105 dX3_passYear_89 vput_0 rfl rfl rfl rfl (Nat.le_of_ble_eq_true rfl) (Nat.le_of_ble_eq_true rfl) (Nat.le_of_ble_eq_true rfl) (Nat.le_of_ble_eq_true rfl) (Nat.le_of_ble_eq_true rfl) ?_
            refine x_aload_n C dX3_passYear_92 rfl ?_
            refine x_get C kf_X3_18 vput_0 rfl dX3_passYear_93 ?_
            refine x_iconst (v := 3) C dX3_passYear_96 (by decide) ?_
            refine x_iald2 C vput_18 rfl (by decide) (by decide) dX3_passYear_97 ?_
            refine x_callV C (c_X2_beginLife_some hi hy.1 hy.2 _) kv_X2_beginLife kl_X3_108 dX3_passYear_98 (vput_s hi) rfl rfl rfl rfl (Nat.le_of_ble_eq_true rfl) (Nat.le_of_ble_eq_true rfl) (Nat.le_of_ble_eq_true rfl) (Nat.le_of_ble_eq_true rfl) (Nat.le_of_ble_eq_true rfl) ?_
            refine x_aload_n C dX3_passYear_101 rfl ?_
            refine x_dup C dX3_passYear_102 rfl ?_
            refine x_get C kf_X3_45 vput_0 rfl dX3_passYear_103 ?_
            refine x_iconst (v := 1) C dX3_passYear_106 (by decide) ?_
            refine x_iadd C dX3_passYear_107 ?_
            refine x_put (ty := .int) C kf_X3_45 vput_0 rfl (by decide +kernel) rfl rfl (Nat.le_of_ble_eq_true rfl) (vput_v3 _) dX3_passYear_108 ?_
            refine x_iinc C dX3_passYear_111 rfl (nI_inc _) (by decide) rfl ?_
            refine x_goto C 53 dX3_passYear_114 (by decide) ?_
            refine xX.cl ih (congrArg _ (byK_t ⟨h70, h83⟩ ht).symm) (And.intro rfl (And.intro rfl trivial)) rfl
  have hl : ∀ i, i ≤ 8 → xX k0 N 0 0 (vput E σ b (agL (up2 V 9 4 (V 9 4 + 1)) i)) 12 [some (.ref b), some (.int (nI i)), none] [] := by
    refine x_for 8 ?_ ?_
    · refine x_iload_n C dX3_passYear_12 rfl ?_
      refine x_bipush (v := 8) C dX3_passYear_13 (by decide) ?_
      refine x_ic_ge C 51 dX3_passYear_15 (by decide) (fun _ => ?_) (fun h => absurd (nI_le (a := 8) (Nat.le_refl _) (by omega)) h)
      refine x_iconst (v := 0) C dX3_passYear_51 (by decide) ?_
      refine x_istore_n C dX3_passYear_52 (by decide) rfl ?_
      refine xX.cl (hl2 0 (by omega)) rfl (And.intro rfl (And.intro rfl trivial)) rfl
    · intro i hi ih
      refine x_iload_n C dX3_passYear_12 rfl ?_
      refine x_bipush (v := 8) C dX3_passYear_13 (by decide) ?_
      refine x_ic_ge C 51 dX3_passYear_15 (by decide) (fun h => absurd h (nI_ge (b := 8) hi (by omega))) (fun _ => ?_)
      refine x_aload_n C dX3_passYear_18 rfl ?_
      refine x_get C kf_X3_11 vput_0 rfl dX3_passYear_19 ?_
      refine x_iload_n C dX3_passYear_22 rfl ?_
      refine x_aald2 (t0 := 2) C vput_1 rfl rfl hi (by decide) dX3_passYear_23 ?_
      refine x_get C kf_X3_55 (vput_s hi) rfl dX3_passYear_24 ?_
      refine x_feq C 45 dX3_passYear_27 (by decide) (fun h27 => ?_) (fun h27 => ?_)
      · rw [agL_10 (by decide)] at h27
        refine x_iinc C dX3_passYear_45 rfl (nI_inc _) (by decide) rfl ?_
        refine x_goto C 12 dX3_passYear_48 (by decide) ?_
        refine xX.cl ih (congrArg _ (agL_f h27)) (And.intro rfl (And.intro rfl trivial)) rfl
      · rw [agL_10 (by decide)] at h27
        refine x_aload_n C dX3_passYear_30 rfl ?_
        refine x_get C kf_X3_11 vput_0 rfl dX3_passYear_31 ?_
        refine x_iload_n C dX3_passYear_34 rfl ?_
        refine x_aald2 (t0 := 2) C vput_1 rfl rfl hi (by decide) dX3_passYear_35 ?_
        refine x_dup C dX3_passYear_36 rfl ?_
        refine x_get C kf_X3_104 (vput_s hi) rfl dX3_passYear_37 ?_
        refine x_iconst (v := 1) C dX3_passYear_40 (by decide) ?_
        refine x_iadd C dX3_passYear_41 ?_
        refine x_put (ty := .int) C kf_X3_104 (vput_s hi) rfl (by decide +kernel) rfl rfl (Nat.le_of_ble_eq_true rfl) (vput_a hi _) dX3_passYear_42 ?_
        refine x_iinc C dX3_passYear_45 rfl (nI_inc _) (by decide) rfl ?_
        refine x_goto C 12 dX3_passYear_48 (by decide) ?_
        refine xX.cl ih (congrArg _ (agL_t h27)) (And.intro rfl (And.intro rfl trivial)) rfl
  refine x_aload_n C dX3_passYear_0 rfl ?_
  refine x_dup C dX3_passYear_1 rfl ?_
  refine x_get C kf_X3_48 vput_0 rfl dX3_passYear_2 ?_
  refine x_iconst (v := 1) C dX3_passYear_5 (by decide) ?_
  refine x_iadd C dX3_passYear_6 ?_
  refine x_put (ty := .int) C kf_X3_48 vput_0 rfl (by decide +kernel) rfl rfl (Nat.le_of_ble_eq_true rfl) (vput_v4 _) dX3_passYear_7 ?_
  refine x_iconst (v := 0) C dX3_passYear_10 (by decide) ?_
  refine x_istore_n C dX3_passYear_11 (by decide) rfl ?_
  refine xX.cl (hl 0 (by omega)) (congrArg _ agL_0.symm) (And.intro rfl (And.intro rfl trivial)) rfl
set_option maxRecDepth 100000 in
set_option maxHeartbeats 1000000 in
theorem c_X3_passYears {l : Launch} {E : xEnv} {B N : Nat} {σ : Sg} {b : Nat} {V : Vs} {n : Nat} (hn : n < 2 ^ 31) : xM l yX3_passYears cX3_passYears 4 (some .int) 4 91 0 0 E B [.ref b, .int (nI n)] N (vput E σ b V) N (vput E σ b (yrL V n)) (some (.int (yrL V n 9 3 - V 9 3))) := by
  refine xM_of [some (.ref _), some (.int _), none, none] (by decide +kernel) (Nat.le_of_ble_eq_true rfl) rfl (fun k0 C Z => ?_)
  have hl : ∀ i, i ≤ n → xX k0 N 0 0 (vput E σ b (yrL V i)) 7 [some (.ref b), some (.int (nI n)), some (.int (V 9 3)), some (.int (nI i))] [] := by
    refine x_for n ?_ ?_
    · refine x_iload_n C dX3_passYears_7 rfl ?_
      refine x_iload_n C dX3_passYears_8 rfl ?_
      refine x_ic_ge C 22 dX3_passYears_9 (by decide) (fun _ => ?_) (fun h => absurd (nI_le (Nat.le_refl _) hn) h)
      refine x_aload_n C dX3_passYears_22 rfl ?_
      refine x_get C kf_X3_45 vput_0 rfl dX3_passYears_23 ?_
      refine x_iload_n C dX3_passYears_26 rfl ?_
      refine x_isub C dX3_passYears_27 ?_
      exact x_zret C Z dX3_passYears_28 rfl (Nat.le_of_ble_eq_true rfl) (Nat.le_of_ble_eq_true rfl) rfl rfl rfl
    · intro i hi ih
      refine x_iload_n C dX3_passYears_7 rfl ?_
      refine x_iload_n C dX3_passYears_8 rfl ?_
      refine x_ic_ge C 22 dX3_passYears_9 (by decide) (fun h => absurd h (nI_ge hi hn)) (fun _ => ?_)
      refine x_aload_n C dX3_passYears_12 rfl ?_
      refine x_callV C c_X3_passYear kv_X3_passYear kl_X3_101 dX3_passYears_13 vput_0 rfl rfl rfl rfl (Nat.le_of_ble_eq_true rfl) (Nat.le_of_ble_eq_true rfl) (Nat.le_of_ble_eq_true rfl) (Nat.le_of_ble_eq_true rfl) (Nat.le_of_ble_eq_true rfl) ?_
      refine x_iinc C dX3_passYears_16 rfl (nI_inc _) (by decide) rfl ?_
      refine x_goto C 7 dX3_passYears_19 (by decide) ?_
      refine xX.cl ih rfl (And.intro rfl (And.intro rfl (And.intro rfl (And.intro rfl trivial)))) rfl
  refine x_aload_n C dX3_passYears_0 rfl ?_
  refine x_get C kf_X3_45 vput_0 rfl dX3_passYears_1 ?_
  refine x_istore_n C dX3_passYears_4 (by decide) rfl ?_
  refine x_iconst (v := 0) C dX3_passYears_5 (by decide) ?_
  refine x_istore_n C dX3_passYears_6 (by decide) rfl ?_
  refine xX.cl (hl 0 (by omega)) rfl (And.intro rfl (And.intro rfl (And.intro rfl (And.intro rfl trivial)))) rfl
set_option maxRecDepth 100000 in
set_option maxHeartbeats 1000000 in
theorem hm_C {k0 : xT} {l : Launch} {E : xEnv} {B N : Nat} {σ : Sg} {b k1 k2 m : Nat} {W : Vs} (hk1 : k1 < 8) (hk2 : k2 < 8) (hm : m < 6) {w h : Nat} (hw : w < 14) (hh : h < 6) (C : xC k0 l E B cX3_holdMeeting 7 (some .int) yX3_holdMeeting.cls yX3_holdMeeting.name 4 92 0 0) (Z : xZ k0 0 0 N (vput E σ b (mtF W k1 k2 m w h)) (some (.int (10 * nI w + nI h)))) : xX k0 N 0 0 (vput E σ b W) 45 [some (.ref b), some (.ref (b + 2 + 2 * k1)), some (.ref (b + 2 + 2 * k2)), some (.int (nI m)), some (.int (nI w)), some (.int (nI h)), none] [] := by
  refine x_aload_n C dX3_holdMeeting_45 rfl ?_
  refine x_dup C dX3_holdMeeting_46 rfl ?_
  refine x_get C kf_X3_39 vput_0 rfl dX3_holdMeeting_47 ?_
  refine x_iconst (v := 1) C dX3_holdMeeting_50 (by decide) ?_
  refine x_iadd C dX3_holdMeeting_51 ?_
  refine x_put (ty := .int) C kf_X3_39 vput_0 rfl (by decide +kernel) rfl rfl (Nat.le_of_ble_eq_true rfl) (vput_v1 _) dX3_holdMeeting_52 ?_
  refine x_aload_n C dX3_holdMeeting_55 rfl ?_
  refine x_dup C dX3_holdMeeting_56 rfl ?_
  refine x_get C kf_X3_73 (vput_s hk1) rfl dX3_holdMeeting_57 ?_
  refine x_iconst (v := 1) C dX3_holdMeeting_60 (by decide) ?_
  refine x_iadd C dX3_holdMeeting_61 ?_
  refine x_put (ty := .int) C kf_X3_73 (vput_s hk1) rfl (by decide +kernel) rfl rfl (Nat.le_of_ble_eq_true rfl) (vput_m hk1 _) dX3_holdMeeting_62 ?_
  refine x_aload_n C dX3_holdMeeting_65 rfl ?_
  refine x_dup C dX3_holdMeeting_66 rfl ?_
  refine x_get C kf_X3_73 (vput_s hk2) rfl dX3_holdMeeting_67 ?_
  refine x_iconst (v := 1) C dX3_holdMeeting_70 (by decide) ?_
  refine x_iadd C dX3_holdMeeting_71 ?_
  refine x_put (ty := .int) C kf_X3_73 (vput_s hk2) rfl (by decide +kernel) rfl rfl (Nat.le_of_ble_eq_true rfl) (vput_m hk2 _) dX3_holdMeeting_72 ?_
  refine x_aload_n C dX3_holdMeeting_75 rfl ?_
  refine x_get C kf_X3_18 vput_0 rfl dX3_holdMeeting_76 ?_
  refine x_iconst (v := 1) C dX3_holdMeeting_79 (by decide) ?_
  refine x_iald2 C vput_18 rfl (by decide) (by decide) dX3_holdMeeting_80 ?_
  refine x_istore C dX3_holdMeeting_81 (by decide) rfl ?_
  refine x_iload C dX3_holdMeeting_83 rfl ?_
  refine x_iload_n C dX3_holdMeeting_85 rfl ?_
  refine x_ic_ne C 141 dX3_holdMeeting_86 (by decide) (fun h86 => ?_) (fun h86 => ?_)
  · refine x_aload_n C dX3_holdMeeting_141 rfl ?_
    refine x_iload_n C dX3_holdMeeting_142 rfl ?_
    refine x_iload C dX3_holdMeeting_143 rfl ?_
    refine x_iload C dX3_holdMeeting_145 rfl ?_
    refine x_ineg C dX3_holdMeeting_147 ?_
    refine x_callV C (c_X2_changeWeight hk1 hm hw _) kv_X2_changeWeight kl_X3_82 dX3_holdMeeting_148 (vput_s hk1) rfl rfl rfl rfl (Nat.le_of_ble_eq_true rfl) (Nat.le_of_ble_eq_true rfl) (Nat.le_of_ble_eq_true rfl) (Nat.le_of_ble_eq_true rfl) (Nat.le_of_ble_eq_true rfl) ?_
    refine x_aload_n C dX3_holdMeeting_151 rfl ?_
    refine x_iload_n C dX3_holdMeeting_152 rfl ?_
    refine x_iload C dX3_holdMeeting_153 rfl ?_
    refine x_iconst (v := 1) C dX3_holdMeeting_155 (by decide) ?_
    refine x_callV C (c_X2_changeWeight hk2 hm hw _) kv_X2_changeWeight kl_X3_82 dX3_holdMeeting_156 (vput_s hk2) rfl rfl rfl rfl (Nat.le_of_ble_eq_true rfl) (Nat.le_of_ble_eq_true rfl) (Nat.le_of_ble_eq_true rfl) (Nat.le_of_ble_eq_true rfl) (Nat.le_of_ble_eq_true rfl) ?_
    refine x_aload_n C dX3_holdMeeting_159 rfl ?_
    refine x_iload C dX3_holdMeeting_160 rfl ?_
    refine x_iload C dX3_holdMeeting_162 rfl ?_
    refine x_iload C dX3_holdMeeting_164 rfl ?_
    refine x_ineg C dX3_holdMeeting_166 ?_
    refine x_callV C (c_X2_changeWeight hk2 hh hw _) kv_X2_changeWeight kl_X3_82 dX3_holdMeeting_167 (vput_s hk2) rfl rfl rfl rfl (Nat.le_of_ble_eq_true rfl) (Nat.le_of_ble_eq_true rfl) (Nat.le_of_ble_eq_true rfl) (Nat.le_of_ble_eq_true rfl) (Nat.le_of_ble_eq_true rfl) ?_
    refine x_bipush (v := 10) C dX3_holdMeeting_170 (by decide) ?_
    refine x_iload C dX3_holdMeeting_172 rfl ?_
    refine x_imul C dX3_holdMeeting_174 ?_
    refine x_iload C dX3_holdMeeting_175 rfl ?_
    refine x_iadd C dX3_holdMeeting_177 ?_
    exact x_zret C Z dX3_holdMeeting_178 rfl (Nat.le_of_ble_eq_true rfl) (Nat.le_of_ble_eq_true rfl) rfl (congrArg _ (mtF_n (fun z => h86 (by rw [z])))) rfl
  · refine x_aload_n C dX3_holdMeeting_89 rfl ?_
    refine x_dup C dX3_holdMeeting_90 rfl ?_
    refine x_get C kf_X3_42 vput_0 rfl dX3_holdMeeting_91 ?_
    refine x_iconst (v := 1) C dX3_holdMeeting_94 (by decide) ?_
    refine x_iadd C dX3_holdMeeting_95 ?_
    refine x_put (ty := .int) C kf_X3_42 vput_0 rfl (by decide +kernel) rfl rfl (Nat.le_of_ble_eq_true rfl) (vput_v2 _) dX3_holdMeeting_96 ?_
    refine x_aload_n C dX3_holdMeeting_99 rfl ?_
    refine x_iload_n C dX3_holdMeeting_100 rfl ?_
    refine x_iload C dX3_holdMeeting_101 rfl ?_
    refine x_aload_n C dX3_holdMeeting_103 rfl ?_
    refine x_get C kf_X3_18 vput_0 rfl dX3_holdMeeting_104 ?_
    refine x_iconst (v := 0) C dX3_holdMeeting_107 (by decide) ?_
    refine x_iald2 C vput_18 rfl (by decide) (by decide) dX3_holdMeeting_108 ?_
    refine x_iload C dX3_holdMeeting_109 rfl ?_
    refine x_callV C (c_X2_prefer hk1 hm hw _ _) kv_X2_prefer kl_X3_74 dX3_holdMeeting_111 (vput_s hk1) rfl rfl rfl rfl (Nat.le_of_ble_eq_true rfl) (Nat.le_of_ble_eq_true rfl) (Nat.le_of_ble_eq_true rfl) (Nat.le_of_ble_eq_true rfl) (Nat.le_of_ble_eq_true rfl) ?_
    refine x_aload_n C dX3_holdMeeting_114 rfl ?_
    refine x_iload_n C dX3_holdMeeting_115 rfl ?_
    refine x_iload C dX3_holdMeeting_116 rfl ?_
    refine x_aload_n C dX3_holdMeeting_118 rfl ?_
    refine x_get C kf_X3_18 vput_0 rfl dX3_holdMeeting_119 ?_
    refine x_iconst (v := 0) C dX3_holdMeeting_122 (by decide) ?_
    refine x_iald2 C vput_18 rfl (by decide) (by decide) dX3_holdMeeting_123 ?_
    refine x_iload C dX3_holdMeeting_124 rfl ?_
    refine x_callV C (c_X2_prefer hk2 hm hw _ _) kv_X2_prefer kl_X3_74 dX3_holdMeeting_126 (vput_s hk2) rfl rfl rfl rfl (Nat.le_of_ble_eq_true rfl) (Nat.le_of_ble_eq_true rfl) (Nat.le_of_ble_eq_true rfl) (Nat.le_of_ble_eq_true rfl) (Nat.le_of_ble_eq_true rfl) ?_
    refine x_aload_n C dX3_holdMeeting_129 rfl ?_
    refine x_iload_n C dX3_holdMeeting_130 rfl ?_
    refine x_iload C dX3_holdMeeting_131 rfl ?_
    refine x_iload C dX3_holdMeeting_133 rfl ?_
    refine x_callV C (c_X2_forgetOtherMeanings hk2 hm hw _) kv_X2_forgetOtherMeanings kl_X3_78 dX3_holdMeeting_135 (vput_s hk2) rfl rfl rfl rfl (Nat.le_of_ble_eq_true rfl) (Nat.le_of_ble_eq_true rfl) (Nat.le_of_ble_eq_true rfl) (Nat.le_of_ble_eq_true rfl) (Nat.le_of_ble_eq_true rfl) ?_
    refine x_goto C 170 dX3_holdMeeting_138 (by decide) ?_
    refine x_bipush (v := 10) C dX3_holdMeeting_170 (by decide) ?_
    refine x_iload C dX3_holdMeeting_172 rfl ?_
    refine x_imul C dX3_holdMeeting_174 ?_
    refine x_iload C dX3_holdMeeting_175 rfl ?_
    refine x_iadd C dX3_holdMeeting_177 ?_
    exact x_zret C Z dX3_holdMeeting_178 rfl (Nat.le_of_ble_eq_true rfl) (Nat.le_of_ble_eq_true rfl) rfl (congrArg _ (mtF_s ((nI_eq (by omega) (by omega)).mp h86))) rfl
set_option maxRecDepth 100000 in
set_option maxHeartbeats 1000000 in
theorem hm_B {k0 : xT} {l : Launch} {E : xEnv} {B N : Nat} {σ : Sg} {b k1 k2 m : Nat} {W : Vs} (hk1 : k1 < 8) (hk2 : k2 < 8) (hm : m < 6) {w : Nat} (hw : w < 14) (hs : sok W) (C : xC k0 l E B cX3_holdMeeting 7 (some .int) yX3_holdMeeting.cls yX3_holdMeeting.name 4 92 0 0) (Z : xZ k0 0 0 N (vput E σ b (mtF (hdN W k2 w).1 k1 k2 m w (hdN W k2 w).2)) (some (.int (10 * nI w + nI (hdN W k2 w).2)))) : xX k0 N 0 0 (vput E σ b W) 22 [some (.ref b), some (.ref (b + 2 + 2 * k1)), some (.ref (b + 2 + 2 * k2)), some (.int (nI m)), some (.int (nI w)), none, none] [] := by
  refine x_aload_n C dX3_holdMeeting_22 rfl ?_
  refine x_iload C dX3_holdMeeting_23 rfl ?_
  refine x_callV C (c_X2_meaningOf hk2 hw) kv_X2_meaningOf kl_X3_70 dX3_holdMeeting_25 (vput_s hk2) rfl rfl rfl rfl (Nat.le_of_ble_eq_true rfl) (Nat.le_of_ble_eq_true rfl) (Nat.le_of_ble_eq_true rfl) (Nat.le_of_ble_eq_true rfl) (Nat.le_of_ble_eq_true rfl) ?_
  cases hq : haS (W k2) w with
  | none =>
    rw [hdN_n hq] at Z
    refine x_istore C dX3_holdMeeting_28 (by decide) rfl ?_
    refine x_iload C dX3_holdMeeting_30 rfl ?_
    refine x_bipush (v := (-6)) C dX3_holdMeeting_32 (by decide) ?_
    refine x_ic_ne C 45 dX3_holdMeeting_34 (by decide) (fun h => absurd rfl h) (fun _ => ?_)
    refine x_aload_n C dX3_holdMeeting_37 rfl ?_
    refine x_bipush (v := 6) C dX3_holdMeeting_38 (by decide) ?_
    refine x_callV C (c_X3_draw hs (n := 6) (by decide) (by decide)) kv_X3_draw kl_X3_67 dX3_holdMeeting_40 vput_0 rfl rfl rfl rfl (Nat.le_of_ble_eq_true rfl) (Nat.le_of_ble_eq_true rfl) (Nat.le_of_ble_eq_true rfl) (Nat.le_of_ble_eq_true rfl) (Nat.le_of_ble_eq_true rfl) ?_
    refine x_istore C dX3_holdMeeting_43 (by decide) rfl ?_
    exact hm_C hk1 hk2 hm hw (dvN_lt (by decide)) C Z
  | some h =>
    rw [hdN_s hq] at Z
    refine x_istore C dX3_holdMeeting_28 (by decide) rfl ?_
    refine x_iload C dX3_holdMeeting_30 rfl ?_
    refine x_bipush (v := (-6)) C dX3_holdMeeting_32 (by decide) ?_
    refine x_ic_ne C 45 dX3_holdMeeting_34 (by decide) (fun _ => ?_) (fun h => absurd h (nI_ne6 (by have := haS_in hq; omega)))
    exact hm_C hk1 hk2 hm hw (haS_in hq) C Z
set_option maxRecDepth 100000 in
set_option maxHeartbeats 1000000 in
theorem c_X3_holdMeeting {l : Launch} {E : xEnv} {B N : Nat} {σ : Sg} {b k1 k2 m : Nat} {V : Vs} (hk1 : k1 < 8) (hk2 : k2 < 8) (hm : m < 6) (hs : sok V) : xM l yX3_holdMeeting cX3_holdMeeting 7 (some .int) 4 92 0 0 E B [.ref b, .ref (b + 2 + 2 * k1), .ref (b + 2 + 2 * k2), .int (nI m)] N (vput E σ b V) N (vput E σ b (mtV V k1 k2 m)) (some (.int (10 * nI (mt1 V k1 k2 m).2.1 + nI (mt1 V k1 k2 m).2.2))) := by
  refine xM_of [some (.ref _), some (.ref _), some (.ref _), some (.int _), none, none, none] (by decide +kernel) (Nat.le_of_ble_eq_true rfl) rfl (fun k0 C Z => ?_)
  unfold mtV mt1 at Z
  dsimp only at Z
  refine x_aload_n C dX3_holdMeeting_0 rfl ?_
  refine x_iload_n C dX3_holdMeeting_1 rfl ?_
  refine x_callV C (c_X2_wordFor hk1 hm) kv_X2_wordFor kl_X3_63 dX3_holdMeeting_2 (vput_s hk1) rfl rfl rfl rfl (Nat.le_of_ble_eq_true rfl) (Nat.le_of_ble_eq_true rfl) (Nat.le_of_ble_eq_true rfl) (Nat.le_of_ble_eq_true rfl) (Nat.le_of_ble_eq_true rfl) ?_
  cases hq : wfS (V k1) m with
  | none =>
    rw [wdN_n hq] at Z
    refine x_istore C dX3_holdMeeting_5 (by decide) rfl ?_
    refine x_iload C dX3_holdMeeting_7 rfl ?_
    refine x_bipush (v := (-6)) C dX3_holdMeeting_9 (by decide) ?_
    refine x_ic_ne C 22 dX3_holdMeeting_11 (by decide) (fun h => absurd rfl h) (fun _ => ?_)
    refine x_aload_n C dX3_holdMeeting_14 rfl ?_
    refine x_bipush (v := 14) C dX3_holdMeeting_15 (by decide) ?_
    refine x_callV C (c_X3_draw hs (n := 14) (by decide) (by decide)) kv_X3_draw kl_X3_67 dX3_holdMeeting_17 vput_0 rfl rfl rfl rfl (Nat.le_of_ble_eq_true rfl) (Nat.le_of_ble_eq_true rfl) (Nat.le_of_ble_eq_true rfl) (Nat.le_of_ble_eq_true rfl) (Nat.le_of_ble_eq_true rfl) ?_
    refine x_istore C dX3_holdMeeting_20 (by decide) rfl ?_
    exact hm_B hk1 hk2 hm (dvN_lt (by decide)) drV_ok C Z
  | some w =>
    rw [wdN_s hq] at Z
    refine x_istore C dX3_holdMeeting_5 (by decide) rfl ?_
    refine x_iload C dX3_holdMeeting_7 rfl ?_
    refine x_bipush (v := (-6)) C dX3_holdMeeting_9 (by decide) ?_
    refine x_ic_ne C 22 dX3_holdMeeting_11 (by decide) (fun _ => ?_) (fun h => absurd h (nI_ne6 (by have := wfS_in hq; omega)))
    exact hm_B hk1 hk2 hm (wfS_in hq) hs C Z
end
section
set_option maxRecDepth 100000 in
set_option maxHeartbeats 1000000 in
theorem c_X3_holdChats {l : Launch} {E : xEnv} {B N : Nat} {σ : Sg} {b : Nat} {V : Vs} {n c : Nat} (hn : n < 2 ^ 31) (hc : cnN (V 10) 8 = c) (h2 : 2 ≤ c) (hs : sok V) : xM l yX3_holdChats cX3_holdChats 10 (some .int) 5 118 0 0 E B [.ref b, .int (nI n)] N (vput E σ b V) N (vput E σ b (chL V c n)) (some (.int (chL V c n 9 2 - V 9 2))) := by
  refine xM_of [some (.ref _), some (.int _), none, none, none, none, none, none, none, none] (by decide +kernel) (Nat.le_of_ble_eq_true rfl) rfl (fun k0 C Z => ?_)
  have hc8 : c ≤ 8 := hc ▸ cnN_le 8
  have hl : ∀ i, i ≤ n → xX k0 N 0 0 (vput E σ b (chL V c i)) 13 [some (.ref b), some (.int (nI n)), some (.int (V 9 2)), some (.int (nI c)), some (.int (nI i)), none, none, none, none, none] [] := by
    refine x_for n ?_ ?_
    · refine x_iload C dX3_holdChats_13 rfl ?_
      refine x_iload_n C dX3_holdChats_15 rfl ?_
      refine x_ic_ge C 97 dX3_holdChats_16 (by decide) (fun _ => ?_) (fun h => absurd (nI_le (Nat.le_refl _) hn) h)
      refine x_aload_n C dX3_holdChats_97 rfl ?_
      refine x_get C kf_X3_42 vput_0 rfl dX3_holdChats_98 ?_
      refine x_iload_n C dX3_holdChats_101 rfl ?_
      refine x_isub C dX3_holdChats_102 ?_
      exact x_zret C Z dX3_holdChats_103 rfl (Nat.le_of_ble_eq_true rfl) (Nat.le_of_ble_eq_true rfl) rfl rfl rfl
    · intro i hi ih
      have ih2 : xX k0 N 0 0 (vput E σ b (chT (chL V c i) c)) 13 [some (.ref b), some (.int (nI n)), some (.int (V 9 2)), some (.int (nI c)), some (.int (nI (i + 1))), none, none, none, none, none] [] := ih
      obtain ⟨f1, f2⟩ := chL_f hc h2 hs i
      have hc2 : cnN (chL V c i 10) 8 = c := by rw [f2 10 (by decide) (by decide) (by decide)]; exact hc
      clear ih f2
      generalize chL V c i = W at f1 hc2 ih2 ⊢
      obtain ⟨⟨a1, a2, a3, a4⟩, ⟨b1, b2, b3, b4⟩, m1⟩ := ch_f hc2 h2
      refine x_iload C dX3_holdChats_13 rfl ?_
      refine x_iload_n C dX3_holdChats_15 rfl ?_
      refine x_ic_ge C 97 dX3_holdChats_16 (by decide) (fun h => absurd h (nI_ge hi hn)) (fun _ => ?_)
      refine x_aload_n C dX3_holdChats_19 rfl ?_
      refine x_aload_n C dX3_holdChats_20 rfl ?_
      refine x_iload_n C dX3_holdChats_21 rfl ?_
      refine x_callV C (c_X3_draw f1 (n := c) (by omega) (by omega)) kv_X3_draw kl_X3_67 dX3_holdChats_22 vput_0 rfl rfl rfl rfl (Nat.le_of_ble_eq_true rfl) (Nat.le_of_ble_eq_true rfl) (Nat.le_of_ble_eq_true rfl) (Nat.le_of_ble_eq_true rfl) (Nat.le_of_ble_eq_true rfl) ?_
      refine x_iconst (v := (-1)) C dX3_holdChats_25 (by decide) ?_
      refine x_callV C (c_X3_numberInOrder (V := drV W) a1 (by rw [drV_r (by decide)]; exact a2) a3 (by rw [drV_r (by decide)]; exact a4)) kv_X3_numberInOrder kl_X3_89 dX3_holdChats_26 vput_0 rfl rfl rfl rfl (Nat.le_of_ble_eq_true rfl) (Nat.le_of_ble_eq_true rfl) (Nat.le_of_ble_eq_true rfl) (Nat.le_of_ble_eq_true rfl) (Nat.le_of_ble_eq_true rfl) ?_
      refine x_istore C dX3_holdChats_29 (by decide) rfl ?_
      refine x_aload_n C dX3_holdChats_31 rfl ?_
      refine x_aload_n C dX3_holdChats_32 rfl ?_
      refine x_iload_n C dX3_holdChats_33 rfl ?_
      refine x_iconst (v := 1) C dX3_holdChats_34 (by decide) ?_
      refine x_isub C dX3_holdChats_35 ?_
      rw [show nI c - 1 = nI (c - 1) from pk_sub (b := 1) (by omega)]
      refine x_callV C (c_X3_draw drV_ok (n := c - 1) (by omega) (by omega)) kv_X3_draw kl_X3_67 dX3_holdChats_36 vput_0 rfl rfl rfl rfl (Nat.le_of_ble_eq_true rfl) (Nat.le_of_ble_eq_true rfl) (Nat.le_of_ble_eq_true rfl) (Nat.le_of_ble_eq_true rfl) (Nat.le_of_ble_eq_true rfl) ?_
      refine x_iload C dX3_holdChats_39 rfl ?_
      refine x_callV C (c_X3_numberInOrder (V := drV (drV W)) b1 (by rw [drV_r (by decide), drV_r (by decide)]; exact b2) b3 (by rw [drV_r (by decide), drV_r (by decide)]; exact b4)) kv_X3_numberInOrder kl_X3_89 dX3_holdChats_41 vput_0 rfl rfl rfl rfl (Nat.le_of_ble_eq_true rfl) (Nat.le_of_ble_eq_true rfl) (Nat.le_of_ble_eq_true rfl) (Nat.le_of_ble_eq_true rfl) (Nat.le_of_ble_eq_true rfl) ?_
      refine x_istore C dX3_holdChats_44 (by decide) rfl ?_
      refine x_aload_n C dX3_holdChats_46 rfl ?_
      refine x_bipush (v := 6) C dX3_holdChats_47 (by decide) ?_
      refine x_callV C (c_X3_draw drV_ok (n := 6) (by decide) (by decide)) kv_X3_draw kl_X3_67 dX3_holdChats_49 vput_0 rfl rfl rfl rfl (Nat.le_of_ble_eq_true rfl) (Nat.le_of_ble_eq_true rfl) (Nat.le_of_ble_eq_true rfl) (Nat.le_of_ble_eq_true rfl) (Nat.le_of_ble_eq_true rfl) ?_
      refine x_istore C dX3_holdChats_52 (by decide) rfl ?_
      refine x_aload_n C dX3_holdChats_54 rfl ?_
      refine x_iload C dX3_holdChats_55 rfl ?_
      refine x_callV C (c_X3_find_some (V := drV (drV (drV W))) a1 (by rw [drV_r (by decide), drV_r (by decide), drV_r (by decide)]; exact a2)) kv_X3_find kl_X3_93 dX3_holdChats_57 vput_0 rfl rfl rfl rfl (Nat.le_of_ble_eq_true rfl) (Nat.le_of_ble_eq_true rfl) (Nat.le_of_ble_eq_true rfl) (Nat.le_of_ble_eq_true rfl) (Nat.le_of_ble_eq_true rfl) ?_
      refine x_astore C dX3_holdChats_60 (by decide) rfl ?_
      refine x_aload_n C dX3_holdChats_62 rfl ?_
      refine x_iload C dX3_holdChats_63 rfl ?_
      refine x_callV C (c_X3_find_some (V := drV (drV (drV W))) b1 (by rw [drV_r (by decide), drV_r (by decide), drV_r (by decide)]; exact b2)) kv_X3_find kl_X3_93 dX3_holdChats_65 vput_0 rfl rfl rfl rfl (Nat.le_of_ble_eq_true rfl) (Nat.le_of_ble_eq_true rfl) (Nat.le_of_ble_eq_true rfl) (Nat.le_of_ble_eq_true rfl) (Nat.le_of_ble_eq_true rfl) ?_
      refine x_astore C dX3_holdChats_68 (by decide) rfl ?_
      refine x_aload C dX3_holdChats_70 rfl ?_
      refine x_ifnull C dX3_holdChats_72 ?_
      refine x_aload C dX3_holdChats_75 rfl ?_
      refine x_ifnull C dX3_holdChats_77 ?_
      refine x_aload_n C dX3_holdChats_80 rfl ?_
      refine x_aload C dX3_holdChats_81 rfl ?_
      refine x_aload C dX3_holdChats_83 rfl ?_
      refine x_iload C dX3_holdChats_85 rfl ?_
      refine x_callV C (c_X3_holdMeeting a1 b1 m1 drV_ok) kv_X3_holdMeeting kl_X3_97 dX3_holdChats_87 vput_0 rfl rfl rfl rfl (Nat.le_of_ble_eq_true rfl) (Nat.le_of_ble_eq_true rfl) (Nat.le_of_ble_eq_true rfl) (Nat.le_of_ble_eq_true rfl) (Nat.le_of_ble_eq_true rfl) ?_
      refine x_pop C dX3_holdChats_90 rfl ?_
      refine x_iinc C dX3_holdChats_91 rfl (nI_inc _) (by decide) rfl ?_
      refine x_goto C 13 dX3_holdChats_94 (by decide) ?_
      refine xX.cl ih2 rfl (And.intro rfl (And.intro rfl (And.intro rfl (And.intro rfl (And.intro rfl trivial))))) rfl
  refine x_aload_n C dX3_holdChats_0 rfl ?_
  refine x_get C kf_X3_42 vput_0 rfl dX3_holdChats_1 ?_
  refine x_istore_n C dX3_holdChats_4 (by decide) rfl ?_
  refine x_aload_n C dX3_holdChats_5 rfl ?_
  refine x_callV C c_X3_countSpeakers kv_X3_countSpeakers kl_X3_85 dX3_holdChats_6 vput_0 rfl rfl rfl rfl (Nat.le_of_ble_eq_true rfl) (Nat.le_of_ble_eq_true rfl) (Nat.le_of_ble_eq_true rfl) (Nat.le_of_ble_eq_true rfl) (Nat.le_of_ble_eq_true rfl) ?_
  refine x_istore_n C dX3_holdChats_9 (by decide) rfl ?_
  refine x_iconst (v := 0) C dX3_holdChats_10 (by decide) ?_
  refine x_istore C dX3_holdChats_11 (by decide) rfl ?_
  refine xX.cl (hl 0 (by omega)) rfl (And.intro rfl (And.intro rfl (And.intro rfl (And.intro (congrArg (fun z => some (some (Value.int z))) (congrArg nI hc)) (And.intro rfl trivial))))) rfl
set_option maxRecDepth 100000 in
set_option maxHeartbeats 1000000 in
theorem c_X3_copyFrom {l : Launch} {E : xEnv} {B N : Nat} {σ : Sg} {b c : Nat} {V W : Vs} (hd : b + 20 ≤ c ∨ c + 20 ≤ b) : xM l yX3_copyFrom cX3_copyFrom 3 none 2 53 0 0 E B [.ref b, .ref c] N (vput E (vput E σ b V) c W) N (vput E (vput E σ b (cpV V W)) c W) none := by
  refine xM_of [some (.ref _), some (.ref _), none] (by decide +kernel) (Nat.le_of_ble_eq_true rfl) rfl (fun k0 C Z => ?_)
  have hl : ∀ i, i ≤ 8 → xX k0 N 0 0 (vput E (vput E σ b (cpL V W i)) c W) 2 [some (.ref b), some (.ref c), some (.int (nI i))] [] := by
    refine x_for 8 ?_ ?_
    · refine x_iload_n C dX3_copyFrom_2 rfl ?_
      refine x_bipush (v := 8) C dX3_copyFrom_3 (by decide) ?_
      refine x_ic_ge C 29 dX3_copyFrom_5 (by decide) (fun _ => ?_) (fun h => absurd (nI_le (a := 8) (Nat.le_refl _) (by omega)) h)
      refine x_aload_n C dX3_copyFrom_29 rfl ?_
      refine x_get C kf_X3_18 vput_0 rfl dX3_copyFrom_30 ?_
      refine x_iconst (v := 0) C dX3_copyFrom_33 (by decide) ?_
      refine x_aload_n C dX3_copyFrom_34 rfl ?_
      refine x_get C kf_X3_18 (by rw [vput_out (by omega)]; exact vput_0) rfl dX3_copyFrom_35 ?_
      refine x_iconst (v := 0) C dX3_copyFrom_38 (by decide) ?_
      refine x_iconst (v := 4) C dX3_copyFrom_39 (by decide) ?_
      refine x_copy C kl_X3_33 kz_native kz_static ki_sys vput_18 (by rw [vput_out (by omega)]; exact vput_18) (by omega) (by decide) (by decide) (by decide) (by decide) (by decide) (g2 := W 8) cpy4 (Nat.le_of_ble_eq_true rfl) (Nat.le_of_ble_eq_true rfl) (by rw [xup_o (by omega), vput_row8]) dX3_copyFrom_40 ?_
      refine x_aload_n C dX3_copyFrom_43 rfl ?_
      refine x_aload_n C dX3_copyFrom_44 rfl ?_
      refine x_get C kf_X3_25 vput_0 rfl dX3_copyFrom_45 ?_
      refine x_put (ty := .int) C kf_X3_25 (by rw [vput_out (by omega)]; exact vput_0) rfl (by decide +kernel) rfl rfl (Nat.le_of_ble_eq_true rfl) (by rw [xup_o (by omega), vput_v0]) dX3_copyFrom_48 ?_
      refine x_aload_n C dX3_copyFrom_51 rfl ?_
      refine x_aload_n C dX3_copyFrom_52 rfl ?_
      refine x_get C kf_X3_39 vput_0 rfl dX3_copyFrom_53 ?_
      refine x_put (ty := .int) C kf_X3_39 (by rw [vput_out (by omega)]; exact vput_0) rfl (by decide +kernel) rfl rfl (Nat.le_of_ble_eq_true rfl) (by rw [xup_o (by omega), vput_v1]) dX3_copyFrom_56 ?_
      refine x_aload_n C dX3_copyFrom_59 rfl ?_
      refine x_aload_n C dX3_copyFrom_60 rfl ?_
      refine x_get C kf_X3_42 vput_0 rfl dX3_copyFrom_61 ?_
      refine x_put (ty := .int) C kf_X3_42 (by rw [vput_out (by omega)]; exact vput_0) rfl (by decide +kernel) rfl rfl (Nat.le_of_ble_eq_true rfl) (by rw [xup_o (by omega), vput_v2]) dX3_copyFrom_64 ?_
      refine x_aload_n C dX3_copyFrom_67 rfl ?_
      refine x_aload_n C dX3_copyFrom_68 rfl ?_
      refine x_get C kf_X3_45 vput_0 rfl dX3_copyFrom_69 ?_
      refine x_put (ty := .int) C kf_X3_45 (by rw [vput_out (by omega)]; exact vput_0) rfl (by decide +kernel) rfl rfl (Nat.le_of_ble_eq_true rfl) (by rw [xup_o (by omega), vput_v3]) dX3_copyFrom_72 ?_
      refine x_aload_n C dX3_copyFrom_75 rfl ?_
      refine x_aload_n C dX3_copyFrom_76 rfl ?_
      refine x_get C kf_X3_48 vput_0 rfl dX3_copyFrom_77 ?_
      refine x_put (ty := .int) C kf_X3_48 (by rw [vput_out (by omega)]; exact vput_0) rfl (by decide +kernel) rfl rfl (Nat.le_of_ble_eq_true rfl) (by rw [xup_o (by omega), vput_v4]) dX3_copyFrom_80 ?_
      exact x_vret C Z dX3_copyFrom_83 (Nat.le_of_ble_eq_true rfl) (Nat.le_of_ble_eq_true rfl) rfl rfl
    · intro i hi ih
      refine x_iload_n C dX3_copyFrom_2 rfl ?_
      refine x_bipush (v := 8) C dX3_copyFrom_3 (by decide) ?_
      refine x_ic_ge C 29 dX3_copyFrom_5 (by decide) (fun h => absurd h (nI_ge (b := 8) hi (by omega))) (fun _ => ?_)
      refine x_aload_n C dX3_copyFrom_8 rfl ?_
      refine x_get C kf_X3_11 (by rw [vput_out (by omega)]; exact vput_0) rfl dX3_copyFrom_9 ?_
      refine x_iload_n C dX3_copyFrom_12 rfl ?_
      refine x_aald2 (t0 := 2) C (by rw [vput_out (by omega)]; exact vput_1) rfl rfl hi (by decide) dX3_copyFrom_13 ?_
      refine x_aload_n C dX3_copyFrom_14 rfl ?_
      refine x_get C kf_X3_11 vput_0 rfl dX3_copyFrom_15 ?_
      refine x_iload_n C dX3_copyFrom_18 rfl ?_
      refine x_aald2 (t0 := 2) C vput_1 rfl rfl hi (by decide) dX3_copyFrom_19 ?_
      refine x_callV C (c_X2_copyFrom (V := cpL V W i) (W := W) hi hd) kv_X2_copyFrom kl_X3_29 dX3_copyFrom_20 (by rw [vput_out (by omega)]; exact (vput_s hi)) rfl rfl rfl rfl (Nat.le_of_ble_eq_true rfl) (Nat.le_of_ble_eq_true rfl) (Nat.le_of_ble_eq_true rfl) (Nat.le_of_ble_eq_true rfl) (Nat.le_of_ble_eq_true rfl) ?_
      refine x_iinc C dX3_copyFrom_23 rfl (nI_inc _) (by decide) rfl ?_
      refine x_goto C 2 dX3_copyFrom_26 (by decide) ?_
      refine xX.cl ih (congrArg (fun z => vput E (vput E σ b z) c W) (cpL_s hi)) (And.intro rfl (And.intro rfl (And.intro rfl trivial))) rfl
  refine x_iconst (v := 0) C dX3_copyFrom_0 (by decide) ?_
  refine x_istore_n C dX3_copyFrom_1 (by decide) rfl ?_
  refine xX.cl (hl 0 (by omega)) (congrArg (fun z => vput E (vput E σ b z) c W) cpL_0.symm) (And.intro rfl (And.intro rfl (And.intro rfl trivial))) rfl
end
section
/-! the class's object, seen from its parts -/
def kpV (VV : Cs) (p : Nat) : Cs := upV VV (2 + p) (cpV (VV (2 + p)) (VV 0))
theorem kpV_0 {VV : Cs} {p : Nat} : kpV VV p 0 = VV 0 := upV_n (by omega)
theorem kpV_1 {VV : Cs} {p : Nat} : kpV VV p 1 = VV 1 := upV_n (by omega)
section W2
variable {E : xEnv} {σ : Sg} {B p k : Nat} {VV : Cs} {nx sz len : Int32} {tx : Fn}
theorem bs_0 : bs B 0 = B + 1 := rfl
theorem bs_1 : bs B 1 = B + 21 := rfl
theorem bs_s : bs B (2 + p) = B + 43 + 20 * p := by unfold bs; rw [if_neg (by omega)]; omega
theorem cput_v0 : vput E (cput E σ B VV nx sz len tx) (B + 1) (VV 0) = cput E σ B VV nx sz len tx := cput_v (i := 0) (by decide)
theorem cput_w0 {W : Vs} : vput E (cput E σ B VV nx sz len tx) (B + 1) W = cput E σ B (upV VV 0 W) nx sz len tx := cput_w (i := 0) (by decide)
theorem cput_v1 : vput E (cput E σ B VV nx sz len tx) (B + 21) (VV 1) = cput E σ B VV nx sz len tx := cput_v (i := 1) (by decide)
theorem cput_w1 {W : Vs} : vput E (cput E σ B VV nx sz len tx) (B + 21) W = cput E σ B (upV VV 1 W) nx sz len tx := cput_w (i := 1) (by decide)
theorem cput_vs (hp : p < 6) : vput E (cput E σ B VV nx sz len tx) (B + 43 + 20 * p) (VV (2 + p)) = cput E σ B VV nx sz len tx := by
  rw [← bs_s]; exact cput_v (by omega)
theorem cput_ws (hp : p < 6) {W : Vs} : vput E (cput E σ B VV nx sz len tx) (B + 43 + 20 * p) W = cput E σ B (upV VV (2 + p) W) nx sz len tx := by
  rw [← bs_s]; exact cput_w (by omega)
/-- the village itself is V -/
theorem cput_is0 {V : Vs} (h : VV 0 = V) : cput E σ B VV nx sz len tx = vput E (cput E σ B VV nx sz len tx) (B + 1) V := by rw [← h]; exact cput_v0.symm
theorem cput_is1 {V : Vs} (h : VV 1 = V) : cput E σ B VV nx sz len tx = vput E (cput E σ B VV nx sz len tx) (B + 21) V := by rw [← h]; exact cput_v1.symm
theorem cput_h0 : cput E σ B VV nx sz len tx (B + 1) = some (.inr (3, vfs (B + 1) (VV 0))) := by rw [← cput_v0]; exact vput_0
theorem cput_h1 : cput E σ B VV nx sz len tx (B + 21) = some (.inr (3, vfs (B + 21) (VV 1))) := by rw [← cput_v1]; exact vput_0
theorem cput_hv (hp : p < 6) : cput E σ B VV nx sz len tx (B + 43 + 20 * p) = some (.inr (3, vfs (B + 43 + 20 * p) (VV (2 + p)))) := by rw [← cput_vs hp]; exact vput_0
theorem cput_hs (hk : k < 8) : cput E σ B VV nx sz len tx (B + 1 + 2 + 2 * k) = some (.inr (2, sfs (B + 1) (VV 0) k)) := by rw [← cput_v0]; exact vput_s hk
theorem cput_hs1 (hk : k < 8) : cput E σ B VV nx sz len tx (B + 21 + 2 + 2 * k) = some (.inr (2, sfs (B + 21) (VV 1) k)) := by rw [← cput_v1]; exact vput_s hk
/-- two villages at once -/
theorem cput_k1 (hp : p < 6) : cput E σ B VV nx sz len tx = vput E (vput E (cput E σ B VV nx sz len tx) (B + 43 + 20 * p) (VV (2 + p))) (B + 1) (VV 0) := by rw [cput_vs hp, cput_v0]
theorem cput_k2 (hp : p < 6) {X : Vs} : vput E (vput E (cput E σ B VV nx sz len tx) (B + 43 + 20 * p) X) (B + 1) (VV 0) = cput E σ B (upV VV (2 + p) X) nx sz len tx := by
  rw [cput_ws hp]
  exact (cput_is0 (upV_n (by omega))).symm
theorem cput_r1 (hp : p < 6) : cput E σ B VV nx sz len tx = vput E (vput E (cput E σ B VV nx sz len tx) (B + 1) (VV 0)) (B + 43 + 20 * p) (VV (2 + p)) := by rw [cput_v0, cput_vs hp]
theorem cput_r2 (hp : p < 6) {X : Vs} : vput E (vput E (cput E σ B VV nx sz len tx) (B + 1) X) (B + 43 + 20 * p) (VV (2 + p)) = cput E σ B (upV VV 0 X) nx sz len tx := by
  rw [cput_w0, ← bs_s]
  have h := cput_v (E := E) (σ := σ) (B := B) (VV := upV VV 0 X) (nx := nx) (sz := sz) (len := len) (tx := tx) (i := 2 + p) (by omega)
  rw [upV_n (by omega)] at h
  exact h
/-- the trial village gets the village's state -/
theorem cput_t1 : cput E σ B VV nx sz len tx = vput E (vput E (cput E σ B VV nx sz len tx) (B + 21) (VV 1)) (B + 1) (VV 0) := by rw [cput_v1, cput_v0]
theorem cput_t2 {X : Vs} : vput E (vput E (cput E σ B VV nx sz len tx) (B + 21) X) (B + 1) (VV 0) = cput E σ B (upV VV 1 X) nx sz len tx := by
  rw [cput_w1]
  exact (cput_is0 (upV_n (by omega))).symm
theorem cput_tt : tput E (cput E σ B VV nx sz len tx) (B + 163) len tx = cput E σ B VV nx sz len tx := cput_t
theorem cput_l (x : Int32) : xup (cput E σ B VV nx sz len tx) (B + 163) (.inr (0, ([.ref (B + 164), .int len] : List Value).set 1 (.int x))) = cput E σ B VV nx sz x tx := by
  rw [← cput_t (len := len) (len2 := x) (tx := tx) (tx2 := tx), ← tput_l (len := len) x, cput_tt]
theorem cput_p0 {x : Int32} : xup (cput E σ B VV nx sz len tx) (B + 1) (.inr (3, (vfs (B + 1) (VV 0)).set 3 (.int x))) = cput E σ B (upV VV 0 (up2 (VV 0) 9 0 x)) nx sz len tx := by
  rw [← cput_w0, ← vput_v0, cput_v0]
theorem cput_pa {x : Int32} (hk : k < 8) : xup (cput E σ B VV nx sz len tx) (B + 1 + 2 + 2 * k) (.inr (2, (sfs (B + 1) (VV 0) k).set 2 (.int x))) = cput E σ B (upV VV 0 (up2 (VV 0) 11 k x)) nx sz len tx := by
  rw [← cput_w0, ← vput_a hk, cput_v0]
end W2
theorem mod6 {p : Nat} (hp : p < 6) : nI p + 1 - (nI p + 1) / 6 * 6 = nI ((p + 1) % 6) := by
  rw [nI_1, show (6 : Int32) = nI 6 from rfl, pk_rem (by omega) (by decide) (by decide)]
theorem mod5 {p : Nat} (hp : p < 6) : nI p + 6 - 1 - (nI p + 6 - 1) / 6 * 6 = nI ((p + 5) % 6) := by
  rw [show (6 : Int32) = nI 6 from rfl, nI_add, show (1 : Int32) = nI 1 from rfl, pk_sub (by omega), pk_rem (by omega) (by decide) (by decide)]
  rfl
theorem min6 {z : Nat} (hz : z ≤ 6) : (if nI z + 1 < 6 then nI z + 1 else (6 : Int32)) = nI (min 6 (z + 1)) := by
  rw [nI_1, show (6 : Int32) = nI 6 from rfl]
  by_cases h : z + 1 < 6
  · rw [if_pos (nI_lt h (by omega)), Nat.min_eq_right (by omega)]
  · rw [if_neg (nI_nlt (by omega) (by omega)), Nat.min_eq_left (by omega)]
theorem char_n {c : Nat} (h : c < 65536) : vp_nar .char (nI c) = nI c := by
  unfold vp_nar
  rw [(pk_charN h).1]
/-! the text -/
def sgS (n : Nat) (tx : Fn) (j : Nat) : Int32 := if j < n then tx j else 0
abbrev gesP (s : Int32) : Prop := s = 119 ∨ s = 110
abbrev digP (s : Int32) : Prop := 48 ≤ s ∧ s ≤ 57
def astS (s : Int32) : Nat := if s = 42 then 8 else 11
def aenS (s : Int32) : Nat := if s = 59 then 0 else 11
def exS (j : Nat) (s : Int32) : Nat :=
  if j = 0 then (if 48 ≤ s ∧ s ≤ 55 then 1 else 11)
  else if j = 1 then (if s = 46 then 2 else 11)
  else if j = 2 then (if 48 ≤ s ∧ s ≤ 53 then 3 else 11)
  else if j = 3 then (if s = 61 then 4 else 11)
  else if j = 4 then (if gesP s then 5 else 11)
  else if j = 5 then (if gesP s then 6 else astS s)
  else if j = 6 then (if gesP s then 7 else astS s)
  else if j = 7 then astS s
  else if j = 8 then (if s = 48 then 10 else if digP s then 9 else 11)
  else if j = 9 then (if digP s then 10 else aenS s)
  else if j = 10 then aenS s
  else 11
/-- where the reader stands after i characters -/
def auS (tx : Fn) : Nat → Nat
  | 0 => 0
  | i + 1 => exS (auS tx i) (tx i)
def feS (tx : Fn) (n : Nat) : Int32 := match (List.range n).find? (fun i => decide (auS tx (i + 1) = 11)) with
  | some i => nI i
  | none => if auS tx n = 9 ∨ auS tx n = 10 then -6 else nI n
theorem ite_le {c : Prop} [Decidable c] {a b n : Nat} (h1 : a ≤ n) (h2 : b ≤ n) : (if c then a else b) ≤ n := by split <;> assumption
theorem astS_le {s : Int32} : astS s ≤ 11 := ite_le (by decide) (by decide)
theorem aenS_le {s : Int32} : aenS s ≤ 11 := ite_le (by decide) (by decide)
theorem exS_le {j : Nat} {s : Int32} : exS j s ≤ 11 := by
  unfold exS
  have a : ∀ {c : Prop} [Decidable c] (x y : Nat), x ≤ 11 → y ≤ 11 → (if c then x else y) ≤ 11 := fun x y h1 h2 => ite_le h1 h2
  exact ite_le (a _ _ (by decide) (by decide)) (ite_le (a _ _ (by decide) (by decide)) (ite_le (a _ _ (by decide) (by decide)) (ite_le (a _ _ (by decide) (by decide)) (ite_le (a _ _ (by decide) (by decide)) (ite_le (a _ _ (by decide) astS_le) (ite_le (a _ _ (by decide) astS_le) (ite_le astS_le (ite_le (a _ _ (by decide) (a _ _ (by decide) (by decide))) (ite_le (a _ _ (by decide) aenS_le) (ite_le aenS_le (by decide)))))))))))
theorem auS_le {tx : Fn} : ∀ i, auS tx i ≤ 11
  | 0 => Nat.zero_le _
  | i + 1 => exS_le
theorem exS_11 {s : Int32} : exS 11 s = 11 := rfl
theorem ex_0 {s : Int32} : exS 0 s = if 48 ≤ s ∧ s ≤ 55 then 1 else 11 := rfl
theorem ex_1 {s : Int32} : exS 1 s = if s = 46 then 2 else 11 := rfl
theorem ex_2 {s : Int32} : exS 2 s = if 48 ≤ s ∧ s ≤ 53 then 3 else 11 := rfl
theorem ex_3 {s : Int32} : exS 3 s = if s = 61 then 4 else 11 := rfl
theorem ex_4 {s : Int32} : exS 4 s = if gesP s then 5 else 11 := rfl
theorem ex_5 {s : Int32} : exS 5 s = if gesP s then 6 else astS s := rfl
theorem ex_6 {s : Int32} : exS 6 s = if gesP s then 7 else astS s := rfl
theorem ex_7 {s : Int32} : exS 7 s = astS s := rfl
theorem ex_8 {s : Int32} : exS 8 s = if s = 48 then 10 else if digP s then 9 else 11 := rfl
theorem ex_9 {s : Int32} : exS 9 s = if digP s then 10 else aenS s := rfl
theorem ex_10 {s : Int32} : exS 10 s = aenS s := rfl
theorem sg_in {n j : Nat} {tx : Fn} (h : j < n) : sgS n tx j = tx j := if_pos h
theorem nI_neL {a b : Nat} (ha : a < 2 ^ 31) (hb : b < 2 ^ 31) (h : a ≠ b) : ¬ nI a = nI b := fun z => h ((nI_eq ha hb).mp z)
theorem auS_st {tx : Fn} {i j : Nat} (h : auS tx i = 11) : auS tx (i + j) = 11 := by
  induction j with
  | zero => exact h
  | succ j ih =>
    show exS (auS tx (i + j)) _ = 11
    rw [ih]; rfl
theorem feS_c (tx : Fn) (n : Nat) : (∃ q, q < n ∧ (∀ j, j ≤ q → auS tx j ≠ 11) ∧ auS tx (q + 1) = 11 ∧ feS tx n = nI q) ∨ ((∀ j, j ≤ n → auS tx j ≠ 11) ∧ (auS tx n = 9 ∨ auS tx n = 10) ∧ feS tx n = -6) ∨ ((∀ j, j ≤ n → auS tx j ≠ 11) ∧ ¬ (auS tx n = 9 ∨ auS tx n = 10) ∧ feS tx n = nI n) := by
  unfold feS
  cases hf : (List.range n).find? (fun i => decide (auS tx (i + 1) = 11)) with
  | some q =>
    left
    have h0 := List.find?_some hf
    have h1 : auS tx (q + 1) = 11 := of_decide_eq_true h0
    have h2 := List.mem_range.mp (List.mem_of_find?_eq_some hf)
    refine ⟨q, h2, fun j hj e => ?_, h1, rfl⟩
    have h3 := List.find?_eq_some_iff_append.mp hf
    obtain ⟨-, as, bs, hab, hno⟩ := h3
    cases j with
    | zero => exact absurd e (by show ¬ (0 : Nat) = 11; decide)
    | succ i =>
      have hi : i ∈ as := by
        have hlen : as.length = q := by
          have h5 : (List.range n)[as.length]? = some q := by rw [hab]; simp
          rw [List.getElem?_range (by
            have := congrArg List.length hab
            simp at this
            omega)] at h5
          exact Option.some.inj h5
        have h6 : (List.range n)[i]? = some i := List.getElem?_range (by omega)
        rw [hab, List.getElem?_append_left (by omega)] at h6
        exact List.mem_of_getElem? h6
      have := hno i hi
      simp [e] at this
  | none =>
    right
    have hall : ∀ j, j ≤ n → auS tx j ≠ 11 := by
      intro j hj e
      cases j with
      | zero => exact absurd e (by show ¬ (0 : Nat) = 11; decide)
      | succ i =>
        have := List.find?_eq_none.mp hf i (List.mem_range.mpr (by omega))
        exact this (decide_eq_true e)
    by_cases h : auS tx n = 9 ∨ auS tx n = 10
    · exact Or.inl ⟨hall, h, if_pos h⟩
    · exact Or.inr ⟨hall, h, if_neg h⟩
end
section
set_option maxRecDepth 100000 in
set_option maxHeartbeats 1000000 in
theorem c_X1_keep {l : Launch} {E : xEnv} {B N : Nat} {σ : Sg} {VV : Cs} {p z : Nat} {len : Int32} {tx : Fn} (hp : p < 6) (hz : z ≤ 6) : xM l yX1_keep cX1_keep 2 none 3 75 0 0 E B [.ref (B + 41), .ref (B + 1)] N (cput E σ B VV (nI p) (nI z) len tx) N (cput E σ B (kpV VV p) (nI ((p + 1) % 6)) (nI (min 6 (z + 1))) len tx) none := by
  refine xM_of [some (.ref _), some (.ref _)] (by decide +kernel) (Nat.le_of_ble_eq_true rfl) rfl (fun k0 C Z => ?_)
  refine x_aload_n C dX1_keep_0 rfl ?_
  refine x_get C kf_X1_11 cput_41 rfl dX1_keep_1 ?_
  refine x_aload_n C dX1_keep_4 rfl ?_
  refine x_get C kf_X1_18 cput_41 rfl dX1_keep_5 ?_
  refine x_aald2 (t0 := 3) C cput_42 rfl rfl hp (by decide) dX1_keep_8 ?_
  refine x_aload_n C dX1_keep_9 rfl ?_
  refine x_callV C (c_X3_copyFrom (V := VV (2 + p)) (W := VV 0) (by omega)) kv_X3_copyFrom kl_X1_22 dX1_keep_10 (cput_hv hp) (cput_k1 hp) (cput_k2 hp) rfl rfl (Nat.le_of_ble_eq_true rfl) (Nat.le_of_ble_eq_true rfl) (Nat.le_of_ble_eq_true rfl) (Nat.le_of_ble_eq_true rfl) (Nat.le_of_ble_eq_true rfl) ?_
  refine x_aload_n C dX1_keep_13 rfl ?_
  refine x_aload_n C dX1_keep_14 rfl ?_
  refine x_get C kf_X1_18 cput_41 rfl dX1_keep_15 ?_
  refine x_iconst (v := 1) C dX1_keep_18 (by decide) ?_
  refine x_iadd C dX1_keep_19 ?_
  refine x_bipush (v := 6) C dX1_keep_20 (by decide) ?_
  refine x_irem C dX1_keep_22 (by decide) ?_
  refine x_put (ty := .int) C kf_X1_18 cput_41 rfl (by decide +kernel) rfl rfl (Nat.le_of_ble_eq_true rfl) cput_s dX1_keep_23 ?_
  refine xX.sg (congrArg (fun q => cput E σ B _ q (nI z) len tx) (mod6 hp)) ?_
  refine x_aload_n C dX1_keep_26 rfl ?_
  refine x_bipush (v := 6) C dX1_keep_27 (by decide) ?_
  refine x_aload_n C dX1_keep_29 rfl ?_
  refine x_get C kf_X1_26 cput_41 rfl dX1_keep_30 ?_
  refine x_iconst (v := 1) C dX1_keep_33 (by decide) ?_
  refine x_iadd C dX1_keep_34 ?_
  refine x_mmin C kl_X1_29 kz_smin ki_math kz_cmin (Nat.le_of_ble_eq_true rfl) (Nat.le_of_ble_eq_true rfl) (Nat.le_of_ble_eq_true rfl) (Nat.le_of_ble_eq_true rfl) dX1_keep_35 ?_
  refine x_put (ty := .int) C kf_X1_26 cput_41 rfl (by decide +kernel) rfl rfl (Nat.le_of_ble_eq_true rfl) cput_s dX1_keep_38 ?_
  exact x_vret C Z dX1_keep_41 (Nat.le_of_ble_eq_true rfl) (Nat.le_of_ble_eq_true rfl) rfl (congrArg (fun q => cput E σ B _ _ q len tx) (min6 hz))
set_option maxRecDepth 100000 in
set_option maxHeartbeats 1000000 in
theorem c_X1_restore_0 {l : Launch} {E : xEnv} {B N : Nat} {σ : Sg} {VV : Cs} {p z : Nat} {len : Int32} {tx : Fn} (hp : p < 6) : xM l yX1_restore cX1_restore 2 (some .boolean) 3 75 0 0 E B [.ref (B + 41), .ref (B + 1)] N (cput E σ B VV (nI p) (nI 0) len tx) N (cput E σ B VV (nI p) (nI 0) len tx) (some (.int 0)) := by
  refine xM_of [some (.ref _), some (.ref _)] (by decide +kernel) (Nat.le_of_ble_eq_true rfl) rfl (fun k0 C Z => ?_)
  refine x_aload_n C dX1_restore_0 rfl ?_
  refine x_get C kf_X1_26 cput_41 rfl dX1_restore_1 ?_
  refine x_iconst (v := 1) C dX1_restore_4 (by decide) ?_
  refine x_ic_ge C 10 dX1_restore_5 (by decide) (fun h => absurd h (nI_ge (b := 1) (a := 0) (by omega) (by omega))) (fun _ => ?_)
  refine x_iconst (v := 0) C dX1_restore_8 (by decide) ?_
  exact x_zret C Z dX1_restore_9 rfl (Nat.le_of_ble_eq_true rfl) (Nat.le_of_ble_eq_true rfl) rfl rfl rfl
set_option maxRecDepth 100000 in
set_option maxHeartbeats 1000000 in
theorem c_X1_restore_s {l : Launch} {E : xEnv} {B N : Nat} {σ : Sg} {VV : Cs} {p z : Nat} {len : Int32} {tx : Fn} (hp : p < 6) (hz : z + 1 < 2 ^ 31) : xM l yX1_restore cX1_restore 2 (some .boolean) 3 75 0 0 E B [.ref (B + 41), .ref (B + 1)] N (cput E σ B VV (nI p) (nI (z + 1)) len tx) N (cput E σ B (upV VV 0 (cpV (VV 0) (VV (2 + ((p + 5) % 6))))) (nI ((p + 5) % 6)) (nI z) len tx) (some (.int 1)) := by
  refine xM_of [some (.ref _), some (.ref _)] (by decide +kernel) (Nat.le_of_ble_eq_true rfl) rfl (fun k0 C Z => ?_)
  refine x_aload_n C dX1_restore_0 rfl ?_
  refine x_get C kf_X1_26 cput_41 rfl dX1_restore_1 ?_
  refine x_iconst (v := 1) C dX1_restore_4 (by decide) ?_
  refine x_ic_ge C 10 dX1_restore_5 (by decide) (fun _ => ?_) (fun h => absurd (nI_le (a := 1) (by omega) hz) h)
  refine x_aload_n C dX1_restore_10 rfl ?_
  refine x_aload_n C dX1_restore_11 rfl ?_
  refine x_get C kf_X1_18 cput_41 rfl dX1_restore_12 ?_
  refine x_bipush (v := 6) C dX1_restore_15 (by decide) ?_
  refine x_iadd C dX1_restore_17 ?_
  refine x_iconst (v := 1) C dX1_restore_18 (by decide) ?_
  refine x_isub C dX1_restore_19 ?_
  refine x_bipush (v := 6) C dX1_restore_20 (by decide) ?_
  refine x_irem C dX1_restore_22 (by decide) ?_
  refine x_put (ty := .int) C kf_X1_18 cput_41 rfl (by decide +kernel) rfl rfl (Nat.le_of_ble_eq_true rfl) cput_s dX1_restore_23 ?_
  refine xX.sg (congrArg (fun q => cput E σ B _ q (nI (z + 1)) len tx) (mod5 hp)) ?_
  refine x_aload_n C dX1_restore_26 rfl ?_
  refine x_dup C dX1_restore_27 rfl ?_
  refine x_get C kf_X1_26 cput_41 rfl dX1_restore_28 ?_
  refine x_iconst (v := 1) C dX1_restore_31 (by decide) ?_
  refine x_isub C dX1_restore_32 ?_
  refine x_put (ty := .int) C kf_X1_26 cput_41 rfl (by decide +kernel) rfl rfl (Nat.le_of_ble_eq_true rfl) cput_s dX1_restore_33 ?_
  refine xX.sg (congrArg (fun q => cput E σ B _ _ q len tx) (nI_pred z)) ?_
  refine x_aload_n C dX1_restore_36 rfl ?_
  refine x_aload_n C dX1_restore_37 rfl ?_
  refine x_get C kf_X1_11 cput_41 rfl dX1_restore_38 ?_
  refine x_aload_n C dX1_restore_41 rfl ?_
  refine x_get C kf_X1_18 cput_41 rfl dX1_restore_42 ?_
  refine x_aald2 (t0 := 3) C cput_42 rfl rfl (Nat.mod_lt _ (by decide)) (by decide) dX1_restore_45 ?_
  refine x_callV C (c_X3_copyFrom (V := VV 0) (W := VV (2 + ((p + 5) % 6))) (by omega)) kv_X3_copyFrom kl_X1_22 dX1_restore_46 cput_h0 (cput_r1 (Nat.mod_lt _ (by decide))) (cput_r2 (Nat.mod_lt _ (by decide))) rfl rfl (Nat.le_of_ble_eq_true rfl) (Nat.le_of_ble_eq_true rfl) (Nat.le_of_ble_eq_true rfl) (Nat.le_of_ble_eq_true rfl) (Nat.le_of_ble_eq_true rfl) ?_
  refine x_iconst (v := 1) C dX1_restore_49 (by decide) ?_
  exact x_zret C Z dX1_restore_50 rfl (Nat.le_of_ble_eq_true rfl) (Nat.le_of_ble_eq_true rfl) rfl rfl rfl
set_option maxRecDepth 100000 in
set_option maxHeartbeats 1000000 in
theorem c_X0_append_ok {l : Launch} {E : xEnv} {B N : Nat} {σ : Sg} {h n : Nat} {tx : Fn} {c : Nat} (hn : n < 80) (hc : c < 65536) : xM l yX0_append cX0_append 2 (some .boolean) 1 21 0 0 E B [.ref h, .int (nI c)] N (tput E σ h (nI n) tx) N (tput E σ h (nI (n + 1)) (upd tx n (nI c))) (some (.int 1)) := by
  refine xM_of [some (.ref _), some (.int _)] (by decide +kernel) (Nat.le_of_ble_eq_true rfl) rfl (fun k0 C Z => ?_)
  refine x_aload_n C dX0_append_0 rfl ?_
  refine x_get C kf_X0_15 tput_0 rfl dX0_append_1 ?_
  refine x_bipush (v := 80) C dX0_append_4 (by decide) ?_
  refine x_callS C (c_X4_isBelow _ _) ks_X4_isBelow kl_X0_19 dX0_append_6 rfl rfl rfl rfl (Nat.le_of_ble_eq_true rfl) (Nat.le_of_ble_eq_true rfl) (Nat.le_of_ble_eq_true rfl) (Nat.le_of_ble_eq_true rfl) (Nat.le_of_ble_eq_true rfl) ?_
  refine x_bne C 14 dX0_append_9 (by decide) (fun _ => ?_) (fun h => absurd (bd_in (c := 80) hn (by decide)) h)
  refine x_aload_n C dX0_append_14 rfl ?_
  refine x_get C kf_X0_9 tput_0 rfl dX0_append_15 ?_
  refine x_aload_n C dX0_append_18 rfl ?_
  refine x_get C kf_X0_15 tput_0 rfl dX0_append_19 ?_
  refine x_iload_n C dX0_append_22 rfl ?_
  refine x_cast2 C tput_1 rfl hn (by decide) (fun j _ => by rw [char_n hc]) (tput_c _) dX0_append_23 ?_
  refine x_aload_n C dX0_append_24 rfl ?_
  refine x_dup C dX0_append_25 rfl ?_
  refine x_get C kf_X0_15 tput_0 rfl dX0_append_26 ?_
  refine x_iconst (v := 1) C dX0_append_29 (by decide) ?_
  refine x_iadd C dX0_append_30 ?_
  refine x_put (ty := .int) C kf_X0_15 tput_0 rfl (by decide +kernel) rfl rfl (Nat.le_of_ble_eq_true rfl) (tput_l _) dX0_append_31 ?_
  refine x_iconst (v := 1) C dX0_append_34 (by decide) ?_
  exact x_zret C Z dX0_append_35 rfl (Nat.le_of_ble_eq_true rfl) (Nat.le_of_ble_eq_true rfl) rfl (congrArg (fun q => tput E σ h q _) (nI_1 n)) rfl
set_option maxRecDepth 100000 in
set_option maxHeartbeats 1000000 in
theorem c_X0_append_full {l : Launch} {E : xEnv} {B N : Nat} {σ : Sg} {h n : Nat} {tx : Fn} {x : Int32} (hn : 80 ≤ n) (hn2 : n < 2 ^ 31) : xM l yX0_append cX0_append 2 (some .boolean) 1 21 0 0 E B [.ref h, .int x] N (tput E σ h (nI n) tx) N (tput E σ h (nI n) tx) (some (.int 0)) := by
  refine xM_of [some (.ref _), some (.int _)] (by decide +kernel) (Nat.le_of_ble_eq_true rfl) rfl (fun k0 C Z => ?_)
  refine x_aload_n C dX0_append_0 rfl ?_
  refine x_get C kf_X0_15 tput_0 rfl dX0_append_1 ?_
  refine x_bipush (v := 80) C dX0_append_4 (by decide) ?_
  refine x_callS C (c_X4_isBelow _ _) ks_X4_isBelow kl_X0_19 dX0_append_6 rfl rfl rfl rfl (Nat.le_of_ble_eq_true rfl) (Nat.le_of_ble_eq_true rfl) (Nat.le_of_ble_eq_true rfl) (Nat.le_of_ble_eq_true rfl) (Nat.le_of_ble_eq_true rfl) ?_
  refine x_bne C 14 dX0_append_9 (by decide) (fun h => absurd h (fun z => nI_nlt (a := n) (b := 80) hn hn2 z.2)) (fun _ => ?_)
  refine x_iconst (v := 0) C dX0_append_12 (by decide) ?_
  exact x_zret C Z dX0_append_13 rfl (Nat.le_of_ble_eq_true rfl) (Nat.le_of_ble_eq_true rfl) rfl rfl rfl
set_option maxRecDepth 100000 in
set_option maxHeartbeats 1000000 in
theorem c_X0_signAt {l : Launch} {E : xEnv} {B N : Nat} {σ : Sg} {h n : Nat} {tx : Fn} {j : Nat} (hj : j < 2 ^ 31) (hn : n ≤ 80) : xM l yX0_signAt cX0_signAt 2 (some .int) 1 21 0 0 E B [.ref h, .int (nI j)] N (tput E σ h (nI n) tx) N (tput E σ h (nI n) tx) (some (.int (sgS n tx j))) := by
  refine xM_of [some (.ref _), some (.int _)] (by decide +kernel) (Nat.le_of_ble_eq_true rfl) rfl (fun k0 C Z => ?_)
  refine x_iload_n C dX0_signAt_0 rfl ?_
  refine x_aload_n C dX0_signAt_1 rfl ?_
  refine x_get C kf_X0_15 tput_0 rfl dX0_signAt_2 ?_
  refine x_callS C (c_X4_isBelow _ _) ks_X4_isBelow kl_X0_19 dX0_signAt_5 rfl rfl rfl rfl (Nat.le_of_ble_eq_true rfl) (Nat.le_of_ble_eq_true rfl) (Nat.le_of_ble_eq_true rfl) (Nat.le_of_ble_eq_true rfl) (Nat.le_of_ble_eq_true rfl) ?_
  refine x_beq C 29 dX0_signAt_8 (by decide) (fun h8 => ?_) (fun h8 => ?_)
  · refine x_iconst (v := 0) C dX0_signAt_29 (by decide) ?_
    exact x_zret C Z dX0_signAt_30 rfl (Nat.le_of_ble_eq_true rfl) (Nat.le_of_ble_eq_true rfl) rfl rfl (if_neg (fun z => h8 (bd_in z (by omega)))).symm
  · have h8b := (nI_ltI hj (by omega)).mp h8.2
    refine x_iload_n C dX0_signAt_11 rfl ?_
    refine x_bipush (v := 80) C dX0_signAt_12 (by decide) ?_
    refine x_callS C (c_X4_isBelow _ _) ks_X4_isBelow kl_X0_19 dX0_signAt_14 rfl rfl rfl rfl (Nat.le_of_ble_eq_true rfl) (Nat.le_of_ble_eq_true rfl) (Nat.le_of_ble_eq_true rfl) (Nat.le_of_ble_eq_true rfl) (Nat.le_of_ble_eq_true rfl) ?_
    refine x_beq C 29 dX0_signAt_17 (by decide) (fun h => absurd (bd_in (c := 80) (show j < 80 by omega) (by decide)) h) (fun _ => ?_)
    refine x_aload_n C dX0_signAt_20 rfl ?_
    refine x_get C kf_X0_9 tput_0 rfl dX0_signAt_21 ?_
    refine x_iload_n C dX0_signAt_24 rfl ?_
    refine x_cald2 C tput_1 rfl (by omega) (by decide) dX0_signAt_25 ?_
    refine x_goto C 30 dX0_signAt_26 (by decide) ?_
    exact x_zret C Z dX0_signAt_30 rfl (Nat.le_of_ble_eq_true rfl) (Nat.le_of_ble_eq_true rfl) rfl rfl (if_pos h8b).symm
set_option maxRecDepth 100000 in
set_option maxHeartbeats 1000000 in
theorem c_X0_digitAt {l : Launch} {E : xEnv} {B N : Nat} {σ : Sg} {h n : Nat} {tx : Fn} {j : Nat} (hj : j < 2 ^ 31) (hn : n ≤ 80) : xM l yX0_digitAt cX0_digitAt 2 (some .int) 2 42 0 0 E B [.ref h, .int (nI j)] N (tput E σ h (nI n) tx) N (tput E σ h (nI n) tx) (some (.int (sgS n tx j - 48))) := by
  refine xM_of [some (.ref _), some (.int _)] (by decide +kernel) (Nat.le_of_ble_eq_true rfl) rfl (fun k0 C Z => ?_)
  refine x_aload_n C dX0_digitAt_0 rfl ?_
  refine x_iload_n C dX0_digitAt_1 rfl ?_
  refine x_callV C (c_X0_signAt hj hn) kv_X0_signAt kl_X0_23 dX0_digitAt_2 tput_0 rfl rfl rfl rfl (Nat.le_of_ble_eq_true rfl) (Nat.le_of_ble_eq_true rfl) (Nat.le_of_ble_eq_true rfl) (Nat.le_of_ble_eq_true rfl) (Nat.le_of_ble_eq_true rfl) ?_
  refine x_bipush (v := 48) C dX0_digitAt_5 (by decide) ?_
  refine x_isub C dX0_digitAt_7 ?_
  exact x_zret C Z dX0_digitAt_8 rfl (Nat.le_of_ble_eq_true rfl) (Nat.le_of_ble_eq_true rfl) rfl rfl rfl
set_option maxRecDepth 100000 in
set_option maxHeartbeats 1000000 in
theorem c_X0_afterStar {l : Launch} {E : xEnv} {B N : Nat} {σ : Sg} (s : Int32) : xM l yX0_afterStar cX0_afterStar 1 (some .int) 0 0 0 0 E B [.int s] N σ N σ (some (.int (nI (astS s)))) := by
  refine xM_of [some (.int _)] (by decide +kernel) (Nat.le_of_ble_eq_true rfl) rfl (fun k0 C Z => ?_)
  refine x_iload_n C dX0_afterStar_0 rfl ?_
  refine x_bipush (v := 42) C dX0_afterStar_1 (by decide) ?_
  refine x_ic_ne C 11 dX0_afterStar_3 (by decide) (fun h3 => ?_) (fun h3 => ?_)
  · refine x_bipush (v := 11) C dX0_afterStar_11 (by decide) ?_
    exact x_zret C Z dX0_afterStar_13 rfl (Nat.le_of_ble_eq_true rfl) (Nat.le_of_ble_eq_true rfl) rfl rfl (congrArg nI (if_neg h3)).symm
  · refine x_bipush (v := 8) C dX0_afterStar_6 (by decide) ?_
    refine x_goto C 13 dX0_afterStar_8 (by decide) ?_
    exact x_zret C Z dX0_afterStar_13 rfl (Nat.le_of_ble_eq_true rfl) (Nat.le_of_ble_eq_true rfl) rfl rfl (congrArg nI (if_pos h3)).symm
set_option maxRecDepth 100000 in
set_option maxHeartbeats 1000000 in
theorem c_X0_afterEnd {l : Launch} {E : xEnv} {B N : Nat} {σ : Sg} (s : Int32) : xM l yX0_afterEnd cX0_afterEnd 1 (some .int) 0 0 0 0 E B [.int s] N σ N σ (some (.int (nI (aenS s)))) := by
  refine xM_of [some (.int _)] (by decide +kernel) (Nat.le_of_ble_eq_true rfl) rfl (fun k0 C Z => ?_)
  refine x_iload_n C dX0_afterEnd_0 rfl ?_
  refine x_bipush (v := 59) C dX0_afterEnd_1 (by decide) ?_
  refine x_ic_ne C 10 dX0_afterEnd_3 (by decide) (fun h3 => ?_) (fun h3 => ?_)
  · refine x_bipush (v := 11) C dX0_afterEnd_10 (by decide) ?_
    exact x_zret C Z dX0_afterEnd_12 rfl (Nat.le_of_ble_eq_true rfl) (Nat.le_of_ble_eq_true rfl) rfl rfl (congrArg nI (if_neg h3)).symm
  · refine x_iconst (v := 0) C dX0_afterEnd_6 (by decide) ?_
    refine x_goto C 12 dX0_afterEnd_7 (by decide) ?_
    exact x_zret C Z dX0_afterEnd_12 rfl (Nat.le_of_ble_eq_true rfl) (Nat.le_of_ble_eq_true rfl) rfl rfl (congrArg nI (if_pos h3)).symm
set_option maxRecDepth 100000 in
set_option maxHeartbeats 1000000 in
theorem c_X0_isGesture {l : Launch} {E : xEnv} {B N : Nat} {σ : Sg} (s : Int32) : xM l yX0_isGesture cX0_isGesture 1 (some .boolean) 0 0 0 0 E B [.int s] N σ N σ (some (.int (xb (gesP s)))) := by
  refine xM_of [some (.int _)] (by decide +kernel) (Nat.le_of_ble_eq_true rfl) rfl (fun k0 C Z => ?_)
  refine x_iload_n C dX0_isGesture_0 rfl ?_
  refine x_bipush (v := 119) C dX0_isGesture_1 (by decide) ?_
  refine x_ic_eq C 12 dX0_isGesture_3 (by decide) (fun h3 => ?_) (fun h3 => ?_)
  · refine x_iconst (v := 1) C dX0_isGesture_12 (by decide) ?_
    refine x_goto C 17 dX0_isGesture_13 (by decide) ?_
    exact x_zret C Z dX0_isGesture_17 rfl (Nat.le_of_ble_eq_true rfl) (Nat.le_of_ble_eq_true rfl) rfl rfl (b_t (Or.inl h3)).symm
  · refine x_iload_n C dX0_isGesture_6 rfl ?_
    refine x_bipush (v := 110) C dX0_isGesture_7 (by decide) ?_
    refine x_ic_ne C 16 dX0_isGesture_9 (by decide) (fun h9 => ?_) (fun h9 => ?_)
    · refine x_iconst (v := 0) C dX0_isGesture_16 (by decide) ?_
      exact x_zret C Z dX0_isGesture_17 rfl (Nat.le_of_ble_eq_true rfl) (Nat.le_of_ble_eq_true rfl) rfl rfl (b_f (fun z => z.elim h3 h9)).symm
    · refine x_iconst (v := 1) C dX0_isGesture_12 (by decide) ?_
      refine x_goto C 17 dX0_isGesture_13 (by decide) ?_
      exact x_zret C Z dX0_isGesture_17 rfl (Nat.le_of_ble_eq_true rfl) (Nat.le_of_ble_eq_true rfl) rfl rfl (b_t (Or.inr h9)).symm
set_option maxRecDepth 100000 in
set_option maxHeartbeats 1000000 in
theorem c_X0_isDigit {l : Launch} {E : xEnv} {B N : Nat} {σ : Sg} (s : Int32) : xM l yX0_isDigit cX0_isDigit 1 (some .boolean) 0 0 0 0 E B [.int s] N σ N σ (some (.int (xb (digP s)))) := by
  refine xM_of [some (.int _)] (by decide +kernel) (Nat.le_of_ble_eq_true rfl) rfl (fun k0 C Z => ?_)
  refine x_iload_n C dX0_isDigit_0 rfl ?_
  refine x_bipush (v := 48) C dX0_isDigit_1 (by decide) ?_
  refine x_ic_lt C 16 dX0_isDigit_3 (by decide) (fun h3 => ?_) (fun h3 => ?_)
  · refine x_iconst (v := 0) C dX0_isDigit_16 (by decide) ?_
    exact x_zret C Z dX0_isDigit_17 rfl (Nat.le_of_ble_eq_true rfl) (Nat.le_of_ble_eq_true rfl) rfl rfl (b_f (fun z => absurd h3 (Int32.not_lt.mpr z.1))).symm
  · refine x_iload_n C dX0_isDigit_6 rfl ?_
    refine x_bipush (v := 57) C dX0_isDigit_7 (by decide) ?_
    refine x_ic_gt C 16 dX0_isDigit_9 (by decide) (fun h9 => ?_) (fun h9 => ?_)
    · refine x_iconst (v := 0) C dX0_isDigit_16 (by decide) ?_
      exact x_zret C Z dX0_isDigit_17 rfl (Nat.le_of_ble_eq_true rfl) (Nat.le_of_ble_eq_true rfl) rfl rfl (b_f (fun z => absurd h9 (Int32.not_lt.mpr z.2))).symm
    · refine x_iconst (v := 1) C dX0_isDigit_12 (by decide) ?_
      refine x_goto C 17 dX0_isDigit_13 (by decide) ?_
      exact x_zret C Z dX0_isDigit_17 rfl (Nat.le_of_ble_eq_true rfl) (Nat.le_of_ble_eq_true rfl) rfl rfl (b_t ⟨Int32.not_lt.mp h3, Int32.not_lt.mp h9⟩).symm
set_option maxRecDepth 100000 in
set_option maxHeartbeats 1000000 in
theorem c_X0_expectedAfter {l : Launch} {E : xEnv} {B N : Nat} {σ : Sg} {j : Nat} (hj : j ≤ 10) (s : Int32) : xM l yX0_expectedAfter cX0_expectedAfter 2 (some .int) 1 20 0 0 E B [.int (nI j), .int s] N σ N σ (some (.int (nI (exS j s)))) := by
  rcases (show j = 0 ∨ j = 1 ∨ j = 2 ∨ j = 3 ∨ j = 4 ∨ j = 5 ∨ j = 6 ∨ j = 7 ∨ j = 8 ∨ j = 9 ∨ j = 10 by omega) with rfl | rfl | rfl | rfl | rfl | rfl | rfl | rfl | rfl | rfl | rfl
  · refine xM_of [some (.int _), some (.int _)] (by decide +kernel) (Nat.le_of_ble_eq_true rfl) rfl (fun k0 C Z => ?_)
    refine x_iload_n C dX0_expectedAfter_0 rfl ?_
    refine x_tbI C 60 dX0_expectedAfter_1 (by decide) (by decide) rfl (by decide) ?_
    refine x_iload_n C dX0_expectedAfter_60 rfl ?_
    refine x_bipush (v := 48) C dX0_expectedAfter_61 (by decide) ?_
    refine x_ic_lt C 76 dX0_expectedAfter_63 (by decide) (fun h63 => ?_) (fun h63 => ?_)
    · refine x_bipush (v := 11) C dX0_expectedAfter_76 (by decide) ?_
      exact x_zret C Z dX0_expectedAfter_78 rfl (Nat.le_of_ble_eq_true rfl) (Nat.le_of_ble_eq_true rfl) rfl rfl (congrArg nI (ex_0.trans (if_neg (fun z => absurd h63 (Int32.not_lt.mpr z.1))))).symm
    · refine x_iload_n C dX0_expectedAfter_66 rfl ?_
      refine x_bipush (v := 55) C dX0_expectedAfter_67 (by decide) ?_
      refine x_ic_gt C 76 dX0_expectedAfter_69 (by decide) (fun h69 => ?_) (fun h69 => ?_)
      · refine x_bipush (v := 11) C dX0_expectedAfter_76 (by decide) ?_
        exact x_zret C Z dX0_expectedAfter_78 rfl (Nat.le_of_ble_eq_true rfl) (Nat.le_of_ble_eq_true rfl) rfl rfl (congrArg nI (ex_0.trans (if_neg (fun z => absurd h69 (Int32.not_lt.mpr z.2))))).symm
      · refine x_iconst (v := 1) C dX0_expectedAfter_72 (by decide) ?_
        refine x_goto C 78 dX0_expectedAfter_73 (by decide) ?_
        exact x_zret C Z dX0_expectedAfter_78 rfl (Nat.le_of_ble_eq_true rfl) (Nat.le_of_ble_eq_true rfl) rfl rfl (congrArg nI (ex_0.trans (if_pos ⟨Int32.not_lt.mp h63, Int32.not_lt.mp h69⟩))).symm
  · refine xM_of [some (.int _), some (.int _)] (by decide +kernel) (Nat.le_of_ble_eq_true rfl) rfl (fun k0 C Z => ?_)
    refine x_iload_n C dX0_expectedAfter_0 rfl ?_
    refine x_tbI C 79 dX0_expectedAfter_1 (by decide) (by decide) rfl (by decide) ?_
    refine x_iload_n C dX0_expectedAfter_79 rfl ?_
    refine x_bipush (v := 46) C dX0_expectedAfter_80 (by decide) ?_
    refine x_ic_ne C 89 dX0_expectedAfter_82 (by decide) (fun h82 => ?_) (fun h82 => ?_)
    · refine x_bipush (v := 11) C dX0_expectedAfter_89 (by decide) ?_
      exact x_zret C Z dX0_expectedAfter_91 rfl (Nat.le_of_ble_eq_true rfl) (Nat.le_of_ble_eq_true rfl) rfl rfl (congrArg nI (ex_1.trans (if_neg h82))).symm
    · refine x_iconst (v := 2) C dX0_expectedAfter_85 (by decide) ?_
      refine x_goto C 91 dX0_expectedAfter_86 (by decide) ?_
      exact x_zret C Z dX0_expectedAfter_91 rfl (Nat.le_of_ble_eq_true rfl) (Nat.le_of_ble_eq_true rfl) rfl rfl (congrArg nI (ex_1.trans (if_pos h82))).symm
  · refine xM_of [some (.int _), some (.int _)] (by decide +kernel) (Nat.le_of_ble_eq_true rfl) rfl (fun k0 C Z => ?_)
    refine x_iload_n C dX0_expectedAfter_0 rfl ?_
    refine x_tbI C 92 dX0_expectedAfter_1 (by decide) (by decide) rfl (by decide) ?_
    refine x_iload_n C dX0_expectedAfter_92 rfl ?_
    refine x_bipush (v := 48) C dX0_expectedAfter_93 (by decide) ?_
    refine x_ic_lt C 108 dX0_expectedAfter_95 (by decide) (fun h95 => ?_) (fun h95 => ?_)
    · refine x_bipush (v := 11) C dX0_expectedAfter_108 (by decide) ?_
      exact x_zret C Z dX0_expectedAfter_110 rfl (Nat.le_of_ble_eq_true rfl) (Nat.le_of_ble_eq_true rfl) rfl rfl (congrArg nI (ex_2.trans (if_neg (fun z => absurd h95 (Int32.not_lt.mpr z.1))))).symm
    · refine x_iload_n C dX0_expectedAfter_98 rfl ?_
      refine x_bipush (v := 53) C dX0_expectedAfter_99 (by decide) ?_
      refine x_ic_gt C 108 dX0_expectedAfter_101 (by decide) (fun h101 => ?_) (fun h101 => ?_)
      · refine x_bipush (v := 11) C dX0_expectedAfter_108 (by decide) ?_
        exact x_zret C Z dX0_expectedAfter_110 rfl (Nat.le_of_ble_eq_true rfl) (Nat.le_of_ble_eq_true rfl) rfl rfl (congrArg nI (ex_2.trans (if_neg (fun z => absurd h101 (Int32.not_lt.mpr z.2))))).symm
      · refine x_iconst (v := 3) C dX0_expectedAfter_104 (by decide) ?_
        refine x_goto C 110 dX0_expectedAfter_105 (by decide) ?_
        exact x_zret C Z dX0_expectedAfter_110 rfl (Nat.le_of_ble_eq_true rfl) (Nat.le_of_ble_eq_true rfl) rfl rfl (congrArg nI (ex_2.trans (if_pos ⟨Int32.not_lt.mp h95, Int32.not_lt.mp h101⟩))).symm
  · refine xM_of [some (.int _), some (.int _)] (by decide +kernel) (Nat.le_of_ble_eq_true rfl) rfl (fun k0 C Z => ?_)
    refine x_iload_n C dX0_expectedAfter_0 rfl ?_
    refine x_tbI C 111 dX0_expectedAfter_1 (by decide) (by decide) rfl (by decide) ?_
    refine x_iload_n C dX0_expectedAfter_111 rfl ?_
    refine x_bipush (v := 61) C dX0_expectedAfter_112 (by decide) ?_
    refine x_ic_ne C 121 dX0_expectedAfter_114 (by decide) (fun h114 => ?_) (fun h114 => ?_)
    · refine x_bipush (v := 11) C dX0_expectedAfter_121 (by decide) ?_
      exact x_zret C Z dX0_expectedAfter_123 rfl (Nat.le_of_ble_eq_true rfl) (Nat.le_of_ble_eq_true rfl) rfl rfl (congrArg nI (ex_3.trans (if_neg h114))).symm
    · refine x_iconst (v := 4) C dX0_expectedAfter_117 (by decide) ?_
      refine x_goto C 123 dX0_expectedAfter_118 (by decide) ?_
      exact x_zret C Z dX0_expectedAfter_123 rfl (Nat.le_of_ble_eq_true rfl) (Nat.le_of_ble_eq_true rfl) rfl rfl (congrArg nI (ex_3.trans (if_pos h114))).symm
  · refine xM_of [some (.int _), some (.int _)] (by decide +kernel) (Nat.le_of_ble_eq_true rfl) rfl (fun k0 C Z => ?_)
    refine x_iload_n C dX0_expectedAfter_0 rfl ?_
    refine x_tbI C 124 dX0_expectedAfter_1 (by decide) (by decide) rfl (by decide) ?_
    refine x_iload_n C dX0_expectedAfter_124 rfl ?_
    refine x_callS C (c_X0_isGesture _) ks_X0_isGesture kl_X0_31 dX0_expectedAfter_125 rfl rfl rfl rfl (Nat.le_of_ble_eq_true rfl) (Nat.le_of_ble_eq_true rfl) (Nat.le_of_ble_eq_true rfl) (Nat.le_of_ble_eq_true rfl) (Nat.le_of_ble_eq_true rfl) ?_
    refine x_beq C 135 dX0_expectedAfter_128 (by decide) (fun h128 => ?_) (fun h128 => ?_)
    · refine x_bipush (v := 11) C dX0_expectedAfter_135 (by decide) ?_
      exact x_zret C Z dX0_expectedAfter_137 rfl (Nat.le_of_ble_eq_true rfl) (Nat.le_of_ble_eq_true rfl) rfl rfl (congrArg nI (ex_4.trans (if_neg h128))).symm
    · refine x_iconst (v := 5) C dX0_expectedAfter_131 (by decide) ?_
      refine x_goto C 137 dX0_expectedAfter_132 (by decide) ?_
      exact x_zret C Z dX0_expectedAfter_137 rfl (Nat.le_of_ble_eq_true rfl) (Nat.le_of_ble_eq_true rfl) rfl rfl (congrArg nI (ex_4.trans (if_pos h128))).symm
  · refine xM_of [some (.int _), some (.int _)] (by decide +kernel) (Nat.le_of_ble_eq_true rfl) rfl (fun k0 C Z => ?_)
    refine x_iload_n C dX0_expectedAfter_0 rfl ?_
    refine x_tbI C 138 dX0_expectedAfter_1 (by decide) (by decide) rfl (by decide) ?_
    refine x_iload_n C dX0_expectedAfter_138 rfl ?_
    refine x_callS C (c_X0_isGesture _) ks_X0_isGesture kl_X0_31 dX0_expectedAfter_139 rfl rfl rfl rfl (Nat.le_of_ble_eq_true rfl) (Nat.le_of_ble_eq_true rfl) (Nat.le_of_ble_eq_true rfl) (Nat.le_of_ble_eq_true rfl) (Nat.le_of_ble_eq_true rfl) ?_
    refine x_beq C 150 dX0_expectedAfter_142 (by decide) (fun h142 => ?_) (fun h142 => ?_)
    · refine x_iload_n C dX0_expectedAfter_150 rfl ?_
      refine x_callS C (c_X0_afterStar _) ks_X0_afterStar kl_X0_35 dX0_expectedAfter_151 rfl rfl rfl rfl (Nat.le_of_ble_eq_true rfl) (Nat.le_of_ble_eq_true rfl) (Nat.le_of_ble_eq_true rfl) (Nat.le_of_ble_eq_true rfl) (Nat.le_of_ble_eq_true rfl) ?_
      exact x_zret C Z dX0_expectedAfter_154 rfl (Nat.le_of_ble_eq_true rfl) (Nat.le_of_ble_eq_true rfl) rfl rfl (congrArg nI (ex_5.trans (if_neg h142))).symm
    · refine x_bipush (v := 6) C dX0_expectedAfter_145 (by decide) ?_
      refine x_goto C 154 dX0_expectedAfter_147 (by decide) ?_
      exact x_zret C Z dX0_expectedAfter_154 rfl (Nat.le_of_ble_eq_true rfl) (Nat.le_of_ble_eq_true rfl) rfl rfl (congrArg nI (ex_5.trans (if_pos h142))).symm
  · refine xM_of [some (.int _), some (.int _)] (by decide +kernel) (Nat.le_of_ble_eq_true rfl) rfl (fun k0 C Z => ?_)
    refine x_iload_n C dX0_expectedAfter_0 rfl ?_
    refine x_tbI C 155 dX0_expectedAfter_1 (by decide) (by decide) rfl (by decide) ?_
    refine x_iload_n C dX0_expectedAfter_155 rfl ?_
    refine x_callS C (c_X0_isGesture _) ks_X0_isGesture kl_X0_31 dX0_expectedAfter_156 rfl rfl rfl rfl (Nat.le_of_ble_eq_true rfl) (Nat.le_of_ble_eq_true rfl) (Nat.le_of_ble_eq_true rfl) (Nat.le_of_ble_eq_true rfl) (Nat.le_of_ble_eq_true rfl) ?_
    refine x_beq C 167 dX0_expectedAfter_159 (by decide) (fun h159 => ?_) (fun h159 => ?_)
    · refine x_iload_n C dX0_expectedAfter_167 rfl ?_
      refine x_callS C (c_X0_afterStar _) ks_X0_afterStar kl_X0_35 dX0_expectedAfter_168 rfl rfl rfl rfl (Nat.le_of_ble_eq_true rfl) (Nat.le_of_ble_eq_true rfl) (Nat.le_of_ble_eq_true rfl) (Nat.le_of_ble_eq_true rfl) (Nat.le_of_ble_eq_true rfl) ?_
      exact x_zret C Z dX0_expectedAfter_171 rfl (Nat.le_of_ble_eq_true rfl) (Nat.le_of_ble_eq_true rfl) rfl rfl (congrArg nI (ex_6.trans (if_neg h159))).symm
    · refine x_bipush (v := 7) C dX0_expectedAfter_162 (by decide) ?_
      refine x_goto C 171 dX0_expectedAfter_164 (by decide) ?_
      exact x_zret C Z dX0_expectedAfter_171 rfl (Nat.le_of_ble_eq_true rfl) (Nat.le_of_ble_eq_true rfl) rfl rfl (congrArg nI (ex_6.trans (if_pos h159))).symm
  · refine xM_of [some (.int _), some (.int _)] (by decide +kernel) (Nat.le_of_ble_eq_true rfl) rfl (fun k0 C Z => ?_)
    refine x_iload_n C dX0_expectedAfter_0 rfl ?_
    refine x_tbI C 172 dX0_expectedAfter_1 (by decide) (by decide) rfl (by decide) ?_
    refine x_iload_n C dX0_expectedAfter_172 rfl ?_
    refine x_callS C (c_X0_afterStar _) ks_X0_afterStar kl_X0_35 dX0_expectedAfter_173 rfl rfl rfl rfl (Nat.le_of_ble_eq_true rfl) (Nat.le_of_ble_eq_true rfl) (Nat.le_of_ble_eq_true rfl) (Nat.le_of_ble_eq_true rfl) (Nat.le_of_ble_eq_true rfl) ?_
    exact x_zret C Z dX0_expectedAfter_176 rfl (Nat.le_of_ble_eq_true rfl) (Nat.le_of_ble_eq_true rfl) rfl rfl (congrArg nI (ex_7.trans (rfl))).symm
  · refine xM_of [some (.int _), some (.int _)] (by decide +kernel) (Nat.le_of_ble_eq_true rfl) rfl (fun k0 C Z => ?_)
    refine x_iload_n C dX0_expectedAfter_0 rfl ?_
    refine x_tbI C 177 dX0_expectedAfter_1 (by decide) (by decide) rfl (by decide) ?_
    refine x_iload_n C dX0_expectedAfter_177 rfl ?_
    refine x_bipush (v := 48) C dX0_expectedAfter_178 (by decide) ?_
    refine x_ic_ne C 186 dX0_expectedAfter_180 (by decide) (fun h180 => ?_) (fun h180 => ?_)
    · refine x_iload_n C dX0_expectedAfter_186 rfl ?_
      refine x_callS C (c_X0_isDigit _) ks_X0_isDigit kl_X0_38 dX0_expectedAfter_187 rfl rfl rfl rfl (Nat.le_of_ble_eq_true rfl) (Nat.le_of_ble_eq_true rfl) (Nat.le_of_ble_eq_true rfl) (Nat.le_of_ble_eq_true rfl) (Nat.le_of_ble_eq_true rfl) ?_
      refine x_beq C 198 dX0_expectedAfter_190 (by decide) (fun h190 => ?_) (fun h190 => ?_)
      · refine x_bipush (v := 11) C dX0_expectedAfter_198 (by decide) ?_
        exact x_zret C Z dX0_expectedAfter_200 rfl (Nat.le_of_ble_eq_true rfl) (Nat.le_of_ble_eq_true rfl) rfl rfl (congrArg nI (ex_8.trans ((if_neg h180).trans (if_neg h190)))).symm
      · refine x_bipush (v := 9) C dX0_expectedAfter_193 (by decide) ?_
        refine x_goto C 200 dX0_expectedAfter_195 (by decide) ?_
        exact x_zret C Z dX0_expectedAfter_200 rfl (Nat.le_of_ble_eq_true rfl) (Nat.le_of_ble_eq_true rfl) rfl rfl (congrArg nI (ex_8.trans ((if_neg h180).trans (if_pos h190)))).symm
    · refine x_bipush (v := 10) C dX0_expectedAfter_183 (by decide) ?_
      exact x_zret C Z dX0_expectedAfter_185 rfl (Nat.le_of_ble_eq_true rfl) (Nat.le_of_ble_eq_true rfl) rfl rfl (congrArg nI (ex_8.trans (if_pos h180))).symm
  · refine xM_of [some (.int _), some (.int _)] (by decide +kernel) (Nat.le_of_ble_eq_true rfl) rfl (fun k0 C Z => ?_)
    refine x_iload_n C dX0_expectedAfter_0 rfl ?_
    refine x_tbI C 201 dX0_expectedAfter_1 (by decide) (by decide) rfl (by decide) ?_
    refine x_iload_n C dX0_expectedAfter_201 rfl ?_
    refine x_callS C (c_X0_isDigit _) ks_X0_isDigit kl_X0_38 dX0_expectedAfter_202 rfl rfl rfl rfl (Nat.le_of_ble_eq_true rfl) (Nat.le_of_ble_eq_true rfl) (Nat.le_of_ble_eq_true rfl) (Nat.le_of_ble_eq_true rfl) (Nat.le_of_ble_eq_true rfl) ?_
    refine x_beq C 213 dX0_expectedAfter_205 (by decide) (fun h205 => ?_) (fun h205 => ?_)
    · refine x_iload_n C dX0_expectedAfter_213 rfl ?_
      refine x_callS C (c_X0_afterEnd _) ks_X0_afterEnd kl_X0_41 dX0_expectedAfter_214 rfl rfl rfl rfl (Nat.le_of_ble_eq_true rfl) (Nat.le_of_ble_eq_true rfl) (Nat.le_of_ble_eq_true rfl) (Nat.le_of_ble_eq_true rfl) (Nat.le_of_ble_eq_true rfl) ?_
      exact x_zret C Z dX0_expectedAfter_217 rfl (Nat.le_of_ble_eq_true rfl) (Nat.le_of_ble_eq_true rfl) rfl rfl (congrArg nI (ex_9.trans (if_neg h205))).symm
    · refine x_bipush (v := 10) C dX0_expectedAfter_208 (by decide) ?_
      refine x_goto C 217 dX0_expectedAfter_210 (by decide) ?_
      exact x_zret C Z dX0_expectedAfter_217 rfl (Nat.le_of_ble_eq_true rfl) (Nat.le_of_ble_eq_true rfl) rfl rfl (congrArg nI (ex_9.trans (if_pos h205))).symm
  · refine xM_of [some (.int _), some (.int _)] (by decide +kernel) (Nat.le_of_ble_eq_true rfl) rfl (fun k0 C Z => ?_)
    refine x_iload_n C dX0_expectedAfter_0 rfl ?_
    refine x_tbI C 218 dX0_expectedAfter_1 (by decide) (by decide) rfl (by decide) ?_
    refine x_iload_n C dX0_expectedAfter_218 rfl ?_
    refine x_callS C (c_X0_afterEnd _) ks_X0_afterEnd kl_X0_41 dX0_expectedAfter_219 rfl rfl rfl rfl (Nat.le_of_ble_eq_true rfl) (Nat.le_of_ble_eq_true rfl) (Nat.le_of_ble_eq_true rfl) (Nat.le_of_ble_eq_true rfl) (Nat.le_of_ble_eq_true rfl) ?_
    exact x_zret C Z dX0_expectedAfter_222 rfl (Nat.le_of_ble_eq_true rfl) (Nat.le_of_ble_eq_true rfl) rfl rfl (congrArg nI (ex_10.trans (rfl))).symm
set_option maxRecDepth 100000 in
set_option maxHeartbeats 1000000 in
theorem c_X0_firstError_at {l : Launch} {E : xEnv} {B N : Nat} {σ : Sg} {h n : Nat} {tx : Fn} {q : Nat} (hn : n ≤ 80) (hqn : q < n) (hall : ∀ j, j ≤ q → auS tx j ≠ 11) (hq : auS tx (q + 1) = 11) : xM l yX0_firstError cX0_firstError 3 (some .int) 2 42 0 0 E B [.ref h] N (tput E σ h (nI n) tx) N (tput E σ h (nI n) tx) (some (.int (nI q))) := by
  refine xM_of [some (.ref _), none, none] (by decide +kernel) (Nat.le_of_ble_eq_true rfl) rfl (fun k0 C Z => ?_)
  have hl : ∀ i, i ≤ q → xX k0 N 0 0 (tput E σ h (nI n) tx) 4 [some (.ref h), some (.int (nI (auS tx i))), some (.int (nI i))] [] := by
    refine x_for q ?_ ?_
    · refine x_iload_n C dX0_firstError_4 rfl ?_
      refine x_aload_n C dX0_firstError_5 rfl ?_
      refine x_get C kf_X0_15 tput_0 rfl dX0_firstError_6 ?_
      refine x_ic_ge C 36 dX0_firstError_9 (by decide) (fun h => absurd h (nI_ge hqn (by omega))) (fun _ => ?_)
      refine x_iload_n C dX0_firstError_12 rfl ?_
      refine x_aload_n C dX0_firstError_13 rfl ?_
      refine x_iload_n C dX0_firstError_14 rfl ?_
      refine x_callV C (c_X0_signAt (by omega) hn) kv_X0_signAt kl_X0_23 dX0_firstError_15 tput_0 rfl rfl rfl rfl (Nat.le_of_ble_eq_true rfl) (Nat.le_of_ble_eq_true rfl) (Nat.le_of_ble_eq_true rfl) (Nat.le_of_ble_eq_true rfl) (Nat.le_of_ble_eq_true rfl) ?_
      rw [sg_in hqn]
      refine x_callS C (c_X0_expectedAfter (by have := hall q (Nat.le_refl _); have := auS_le (tx := tx) q; omega) _) ks_X0_expectedAfter kl_X0_27 dX0_firstError_18 rfl rfl rfl rfl (Nat.le_of_ble_eq_true rfl) (Nat.le_of_ble_eq_true rfl) (Nat.le_of_ble_eq_true rfl) (Nat.le_of_ble_eq_true rfl) (Nat.le_of_ble_eq_true rfl) ?_
      refine x_istore_n C dX0_firstError_21 (by decide) rfl ?_
      refine x_iload_n C dX0_firstError_22 rfl ?_
      refine x_bipush (v := 11) C dX0_firstError_23 (by decide) ?_
      refine x_ic_ne C 30 dX0_firstError_25 (by decide) (fun h => absurd (congrArg nI hq) h) (fun _ => ?_)
      refine x_iload_n C dX0_firstError_28 rfl ?_
      exact x_zret C Z dX0_firstError_29 rfl (Nat.le_of_ble_eq_true rfl) (Nat.le_of_ble_eq_true rfl) rfl rfl rfl
    · intro i hi ih
      refine x_iload_n C dX0_firstError_4 rfl ?_
      refine x_aload_n C dX0_firstError_5 rfl ?_
      refine x_get C kf_X0_15 tput_0 rfl dX0_firstError_6 ?_
      refine x_ic_ge C 36 dX0_firstError_9 (by decide) (fun h => absurd h (nI_ge (show i < n by omega) (by omega))) (fun _ => ?_)
      refine x_iload_n C dX0_firstError_12 rfl ?_
      refine x_aload_n C dX0_firstError_13 rfl ?_
      refine x_iload_n C dX0_firstError_14 rfl ?_
      refine x_callV C (c_X0_signAt (by omega) hn) kv_X0_signAt kl_X0_23 dX0_firstError_15 tput_0 rfl rfl rfl rfl (Nat.le_of_ble_eq_true rfl) (Nat.le_of_ble_eq_true rfl) (Nat.le_of_ble_eq_true rfl) (Nat.le_of_ble_eq_true rfl) (Nat.le_of_ble_eq_true rfl) ?_
      rw [sg_in (show i < n by omega)]
      refine x_callS C (c_X0_expectedAfter (by have := hall i (by omega); have := auS_le (tx := tx) i; omega) _) ks_X0_expectedAfter kl_X0_27 dX0_firstError_18 rfl rfl rfl rfl (Nat.le_of_ble_eq_true rfl) (Nat.le_of_ble_eq_true rfl) (Nat.le_of_ble_eq_true rfl) (Nat.le_of_ble_eq_true rfl) (Nat.le_of_ble_eq_true rfl) ?_
      refine x_istore_n C dX0_firstError_21 (by decide) rfl ?_
      refine x_iload_n C dX0_firstError_22 rfl ?_
      refine x_bipush (v := 11) C dX0_firstError_23 (by decide) ?_
      refine x_ic_ne C 30 dX0_firstError_25 (by decide) (fun _ => ?_) (fun h => absurd h (nI_neL (a := auS tx (i + 1)) (b := 11) (by have := auS_le (tx := tx) (i + 1); omega) (by omega) (hall (i + 1) (by omega))))
      refine x_iinc C dX0_firstError_30 rfl (nI_inc _) (by decide) rfl ?_
      refine x_goto C 4 dX0_firstError_33 (by decide) ?_
      refine xX.cl ih rfl (And.intro rfl (And.intro rfl (And.intro rfl trivial))) rfl
  refine x_iconst (v := 0) C dX0_firstError_0 (by decide) ?_
  refine x_istore_n C dX0_firstError_1 (by decide) rfl ?_
  refine x_iconst (v := 0) C dX0_firstError_2 (by decide) ?_
  refine x_istore_n C dX0_firstError_3 (by decide) rfl ?_
  refine xX.cl (hl 0 (by omega)) rfl (And.intro rfl (And.intro rfl (And.intro rfl trivial))) rfl
set_option maxRecDepth 100000 in
set_option maxHeartbeats 1000000 in
theorem c_X0_firstError_ok {l : Launch} {E : xEnv} {B N : Nat} {σ : Sg} {h n : Nat} {tx : Fn} (hn : n ≤ 80) (hall : ∀ j, j ≤ n → auS tx j ≠ 11) (hacc : auS tx n = 9 ∨ auS tx n = 10) : xM l yX0_firstError cX0_firstError 3 (some .int) 2 42 0 0 E B [.ref h] N (tput E σ h (nI n) tx) N (tput E σ h (nI n) tx) (some (.int (-6))) := by
  refine xM_of [some (.ref _), none, none] (by decide +kernel) (Nat.le_of_ble_eq_true rfl) rfl (fun k0 C Z => ?_)
  have hl : ∀ i, i ≤ n → xX k0 N 0 0 (tput E σ h (nI n) tx) 4 [some (.ref h), some (.int (nI (auS tx i))), some (.int (nI i))] [] := by
    refine x_for n ?_ ?_
    · refine x_iload_n C dX0_firstError_4 rfl ?_
      refine x_aload_n C dX0_firstError_5 rfl ?_
      refine x_get C kf_X0_15 tput_0 rfl dX0_firstError_6 ?_
      refine x_ic_ge C 36 dX0_firstError_9 (by decide) (fun _ => ?_) (fun h => absurd (nI_le (Nat.le_refl _) (by omega)) h)
      refine x_iload_n C dX0_firstError_36 rfl ?_
      refine x_bipush (v := 9) C dX0_firstError_37 (by decide) ?_
      refine x_ic_eq C 48 dX0_firstError_39 (by decide) (fun h39 => ?_) (fun h39 => ?_)
      · refine x_bipush (v := (-6)) C dX0_firstError_48 (by decide) ?_
        refine x_goto C 57 dX0_firstError_50 (by decide) ?_
        exact x_zret C Z dX0_firstError_57 rfl (Nat.le_of_ble_eq_true rfl) (Nat.le_of_ble_eq_true rfl) rfl rfl rfl
      · refine x_iload_n C dX0_firstError_42 rfl ?_
        refine x_bipush (v := 10) C dX0_firstError_43 (by decide) ?_
        refine x_ic_ne C 53 dX0_firstError_45 (by decide) (fun h => absurd (congrArg nI (hacc.resolve_left (fun z => h39 (congrArg nI z)))) h) (fun _ => ?_)
        refine x_bipush (v := (-6)) C dX0_firstError_48 (by decide) ?_
        refine x_goto C 57 dX0_firstError_50 (by decide) ?_
        exact x_zret C Z dX0_firstError_57 rfl (Nat.le_of_ble_eq_true rfl) (Nat.le_of_ble_eq_true rfl) rfl rfl rfl
    · intro i hi ih
      refine x_iload_n C dX0_firstError_4 rfl ?_
      refine x_aload_n C dX0_firstError_5 rfl ?_
      refine x_get C kf_X0_15 tput_0 rfl dX0_firstError_6 ?_
      refine x_ic_ge C 36 dX0_firstError_9 (by decide) (fun h => absurd h (nI_ge (show i < n by omega) (by omega))) (fun _ => ?_)
      refine x_iload_n C dX0_firstError_12 rfl ?_
      refine x_aload_n C dX0_firstError_13 rfl ?_
      refine x_iload_n C dX0_firstError_14 rfl ?_
      refine x_callV C (c_X0_signAt (by omega) hn) kv_X0_signAt kl_X0_23 dX0_firstError_15 tput_0 rfl rfl rfl rfl (Nat.le_of_ble_eq_true rfl) (Nat.le_of_ble_eq_true rfl) (Nat.le_of_ble_eq_true rfl) (Nat.le_of_ble_eq_true rfl) (Nat.le_of_ble_eq_true rfl) ?_
      rw [sg_in (show i < n by omega)]
      refine x_callS C (c_X0_expectedAfter (by have := hall i (by omega); have := auS_le (tx := tx) i; omega) _) ks_X0_expectedAfter kl_X0_27 dX0_firstError_18 rfl rfl rfl rfl (Nat.le_of_ble_eq_true rfl) (Nat.le_of_ble_eq_true rfl) (Nat.le_of_ble_eq_true rfl) (Nat.le_of_ble_eq_true rfl) (Nat.le_of_ble_eq_true rfl) ?_
      refine x_istore_n C dX0_firstError_21 (by decide) rfl ?_
      refine x_iload_n C dX0_firstError_22 rfl ?_
      refine x_bipush (v := 11) C dX0_firstError_23 (by decide) ?_
      refine x_ic_ne C 30 dX0_firstError_25 (by decide) (fun _ => ?_) (fun h => absurd h (nI_neL (a := auS tx (i + 1)) (b := 11) (by have := auS_le (tx := tx) (i + 1); omega) (by omega) (hall (i + 1) (by omega))))
      refine x_iinc C dX0_firstError_30 rfl (nI_inc _) (by decide) rfl ?_
      refine x_goto C 4 dX0_firstError_33 (by decide) ?_
      refine xX.cl ih rfl (And.intro rfl (And.intro rfl (And.intro rfl trivial))) rfl
  refine x_iconst (v := 0) C dX0_firstError_0 (by decide) ?_
  refine x_istore_n C dX0_firstError_1 (by decide) rfl ?_
  refine x_iconst (v := 0) C dX0_firstError_2 (by decide) ?_
  refine x_istore_n C dX0_firstError_3 (by decide) rfl ?_
  refine xX.cl (hl 0 (by omega)) rfl (And.intro rfl (And.intro rfl (And.intro rfl trivial))) rfl
set_option maxRecDepth 100000 in
set_option maxHeartbeats 1000000 in
theorem c_X0_firstError_end {l : Launch} {E : xEnv} {B N : Nat} {σ : Sg} {h n : Nat} {tx : Fn} (hn : n ≤ 80) (hall : ∀ j, j ≤ n → auS tx j ≠ 11) (hacc : ¬ (auS tx n = 9 ∨ auS tx n = 10)) : xM l yX0_firstError cX0_firstError 3 (some .int) 2 42 0 0 E B [.ref h] N (tput E σ h (nI n) tx) N (tput E σ h (nI n) tx) (some (.int (nI n))) := by
  refine xM_of [some (.ref _), none, none] (by decide +kernel) (Nat.le_of_ble_eq_true rfl) rfl (fun k0 C Z => ?_)
  have hl : ∀ i, i ≤ n → xX k0 N 0 0 (tput E σ h (nI n) tx) 4 [some (.ref h), some (.int (nI (auS tx i))), some (.int (nI i))] [] := by
    refine x_for n ?_ ?_
    · refine x_iload_n C dX0_firstError_4 rfl ?_
      refine x_aload_n C dX0_firstError_5 rfl ?_
      refine x_get C kf_X0_15 tput_0 rfl dX0_firstError_6 ?_
      refine x_ic_ge C 36 dX0_firstError_9 (by decide) (fun _ => ?_) (fun h => absurd (nI_le (Nat.le_refl _) (by omega)) h)
      refine x_iload_n C dX0_firstError_36 rfl ?_
      refine x_bipush (v := 9) C dX0_firstError_37 (by decide) ?_
      refine x_ic_eq C 48 dX0_firstError_39 (by decide) (fun h => absurd h (nI_neL (a := auS tx n) (b := 9) (by have := auS_le (tx := tx) n; omega) (by omega) (fun z => hacc (Or.inl z)))) (fun _ => ?_)
      refine x_iload_n C dX0_firstError_42 rfl ?_
      refine x_bipush (v := 10) C dX0_firstError_43 (by decide) ?_
      refine x_ic_ne C 53 dX0_firstError_45 (by decide) (fun _ => ?_) (fun h => absurd h (nI_neL (a := auS tx n) (b := 10) (by have := auS_le (tx := tx) n; omega) (by omega) (fun z => hacc (Or.inr z))))
      refine x_aload_n C dX0_firstError_53 rfl ?_
      refine x_get C kf_X0_15 tput_0 rfl dX0_firstError_54 ?_
      exact x_zret C Z dX0_firstError_57 rfl (Nat.le_of_ble_eq_true rfl) (Nat.le_of_ble_eq_true rfl) rfl rfl rfl
    · intro i hi ih
      refine x_iload_n C dX0_firstError_4 rfl ?_
      refine x_aload_n C dX0_firstError_5 rfl ?_
      refine x_get C kf_X0_15 tput_0 rfl dX0_firstError_6 ?_
      refine x_ic_ge C 36 dX0_firstError_9 (by decide) (fun h => absurd h (nI_ge (show i < n by omega) (by omega))) (fun _ => ?_)
      refine x_iload_n C dX0_firstError_12 rfl ?_
      refine x_aload_n C dX0_firstError_13 rfl ?_
      refine x_iload_n C dX0_firstError_14 rfl ?_
      refine x_callV C (c_X0_signAt (by omega) hn) kv_X0_signAt kl_X0_23 dX0_firstError_15 tput_0 rfl rfl rfl rfl (Nat.le_of_ble_eq_true rfl) (Nat.le_of_ble_eq_true rfl) (Nat.le_of_ble_eq_true rfl) (Nat.le_of_ble_eq_true rfl) (Nat.le_of_ble_eq_true rfl) ?_
      rw [sg_in (show i < n by omega)]
      refine x_callS C (c_X0_expectedAfter (by have := hall i (by omega); have := auS_le (tx := tx) i; omega) _) ks_X0_expectedAfter kl_X0_27 dX0_firstError_18 rfl rfl rfl rfl (Nat.le_of_ble_eq_true rfl) (Nat.le_of_ble_eq_true rfl) (Nat.le_of_ble_eq_true rfl) (Nat.le_of_ble_eq_true rfl) (Nat.le_of_ble_eq_true rfl) ?_
      refine x_istore_n C dX0_firstError_21 (by decide) rfl ?_
      refine x_iload_n C dX0_firstError_22 rfl ?_
      refine x_bipush (v := 11) C dX0_firstError_23 (by decide) ?_
      refine x_ic_ne C 30 dX0_firstError_25 (by decide) (fun _ => ?_) (fun h => absurd h (nI_neL (a := auS tx (i + 1)) (b := 11) (by have := auS_le (tx := tx) (i + 1); omega) (by omega) (hall (i + 1) (by omega))))
      refine x_iinc C dX0_firstError_30 rfl (nI_inc _) (by decide) rfl ?_
      refine x_goto C 4 dX0_firstError_33 (by decide) ?_
      refine xX.cl ih rfl (And.intro rfl (And.intro rfl (And.intro rfl trivial))) rfl
  refine x_iconst (v := 0) C dX0_firstError_0 (by decide) ?_
  refine x_istore_n C dX0_firstError_1 (by decide) rfl ?_
  refine x_iconst (v := 0) C dX0_firstError_2 (by decide) ?_
  refine x_istore_n C dX0_firstError_3 (by decide) rfl ?_
  refine xX.cl (hl 0 (by omega)) rfl (And.intro rfl (And.intro rfl (And.intro rfl trivial))) rfl
theorem c_X0_firstError {l : Launch} {E : xEnv} {B N : Nat} {σ : Sg} {h n : Nat} {tx : Fn} (hn : n ≤ 80) : xM l yX0_firstError cX0_firstError 3 (some .int) 2 42 0 0 E B [.ref h] N (tput E σ h (nI n) tx) N (tput E σ h (nI n) tx) (some (.int (feS tx n))) := by
  rcases feS_c tx n with ⟨q, h1, h2, h3, h4⟩ | ⟨h1, h2, h3⟩ | ⟨h1, h2, h3⟩
  · rw [h4]; exact c_X0_firstError_at hn h1 h2 h3
  · rw [h3]; exact c_X0_firstError_ok hn h1 h2
  · rw [h3]; exact c_X0_firstError_end hn h1 h2
end
section
/-! what is asked of two speakers, of a word, of the whole village -/
def agN (V : Vs) (a b : Nat) : Nat → Nat
  | 0 => 0
  | n + 1 => agN V a b n + (if wfS (V a) n ≠ none ∧ wfS (V a) n = wfS (V b) n then 1 else 0)
def awI (V : Vs) (a b w : Nat) : Nat → Nat
  | 0 => 0
  | n + 1 => awI V a b w n + (if wfS (V a) n = some w ∧ wfS (V b) n = some w then 1 else 0)
def awN (V : Vs) (a b : Nat) : Nat → Nat
  | 0 => 0
  | w + 1 => awN V a b w + awI V a b w 6
def unT (V : Vs) (s h n : Nat) : Nat := match wfS (V s) n with
  | none => 0
  | some w => if haS (V h) w = some n then 1 else 0
def unN (V : Vs) (s h : Nat) : Nat → Nat
  | 0 => 0
  | n + 1 => unN V s h n + unT V s h n
theorem unT_n {V : Vs} {s h n : Nat} (e : wfS (V s) n = none) : unT V s h n = 0 := by unfold unT; rw [e]
theorem unT_t {V : Vs} {s h n w : Nat} (e : wfS (V s) n = some w) (e2 : haS (V h) w = some n) : unT V s h n = 1 := by unfold unT; rw [e]; exact if_pos e2
theorem unT_f {V : Vs} {s h n w : Nat} (e : wfS (V s) n = some w) (e2 : ¬ haS (V h) w = some n) : unT V s h n = 0 := by unfold unT; rw [e]; exact if_neg e2
theorem unT_le {V : Vs} {s h n : Nat} : unT V s h n ≤ 1 := by
  unfold unT
  split
  · exact Nat.zero_le _
  · split <;> decide
theorem unN_le {V : Vs} {s h : Nat} : ∀ n, unN V s h n ≤ n
  | 0 => Nat.le_refl _
  | n + 1 => by
    have a := unN_le (V := V) (s := s) (h := h) n
    have b := unT_le (V := V) (s := s) (h := h) (n := n)
    show unN V s h n + unT V s h n ≤ n + 1
    omega
/-- the other one whom h understands best -/
def bsL (V : Vs) (h : Nat) : Nat → Option Nat
  | 0 => none
  | n + 1 => if ¬ V 10 n = 1 ∨ n = h then bsL V h n else match bsL V h n with
    | none => some n
    | some y => if unN V n h 6 ≤ unN V y h 6 then some y else some n
def bsG (V : Vs) (h : Nat) (o : Option Nat) : Int32 := match o with
  | none => -1
  | some y => nI (unN V y h 6)
theorem bsL_in {V : Vs} {h : Nat} : ∀ {n y : Nat}, bsL V h n = some y → y < n
  | 0, y, e => by simp [bsL] at e
  | n + 1, y, e => by
    unfold bsL at e
    split at e
    · have := bsL_in e; omega
    · cases ht : bsL V h n with
      | none => rw [ht] at e; simp at e; omega
      | some z =>
        rw [ht] at e
        have hz := bsL_in ht
        simp at e
        split at e <;> simp at e <;> omega
theorem bsL_sk {V : Vs} {h n : Nat} (e : ¬ V 10 n = 1 ∨ n = h) : bsL V h (n + 1) = bsL V h n := if_pos e
theorem bsL_n {V : Vs} {h n : Nat} (e : V 10 n = 1) (e2 : ¬ n = h) (hy : bsL V h n = none) : bsL V h (n + 1) = some n := by
  rw [bsL, if_neg (fun z => z.elim (fun z => z e) e2), hy]
theorem bsL_k {V : Vs} {h n y : Nat} (e : V 10 n = 1) (e2 : ¬ n = h) (hy : bsL V h n = some y) (e3 : unN V n h 6 ≤ unN V y h 6) : bsL V h (n + 1) = some y := by
  rw [bsL, if_neg (fun z => z.elim (fun z => z e) e2), hy]
  exact if_pos e3
theorem bsL_u {V : Vs} {h n y : Nat} (e : V 10 n = 1) (e2 : ¬ n = h) (hy : bsL V h n = some y) (e3 : ¬ unN V n h 6 ≤ unN V y h 6) : bsL V h (n + 1) = some n := by
  rw [bsL, if_neg (fun z => z.elim (fun z => z e) e2), hy]
  exact if_neg e3
def leS (j : Nat) : Int32 := if j = 0 then 1 else if j = 2 then 5 else 0
def moS (j : Nat) : Int32 := if j = 2 then 99 else if j = 3 then 100 else 9
def lwN (w : Nat) : Nat := if w < 2 then 1 else if w < 6 then 2 else 3
/-- digest -/
def mxS (h : Int64) (v : Int32) : Int64 := 31 * h + v.toInt64
def dgA (V : Vs) (h : Int64) : Nat → Int64
  | 0 => h
  | n + 1 => mxS (dgA V h n) (nuS V n)
def dgB (V : Vs) (h : Int64) : Nat → Int64
  | 0 => h
  | n + 1 => mxS (dgB V h n) (V 8 n)
def dgS1 (V : Vs) (k : Nat) (h : Int64) : Nat → Int64
  | 0 => h
  | n + 1 => mxS (dgS1 V k h n) (nsS V k n)
def dgS2 (V : Vs) (k : Nat) (h : Int64) : Nat → Int64
  | 0 => h
  | n + 1 => mxS (dgS2 V k h n) (oI (wfS (V k) n))
def dgS (V : Vs) (k : Nat) (h : Int64) : Int64 := if V 10 k = 1 then dgS2 V k (dgS1 V k (mxS h (nI k)) 5) 6 else h
def dgC (V : Vs) (h : Int64) : Nat → Int64
  | 0 => h
  | n + 1 => dgS V n (dgC V h n)
def dgD (V : Vs) (h : Int64) : Nat → Int64
  | 0 => h
  | n + 1 => mxS (dgD V h n) (oI (cmS V n))
def dgP (V : Vs) (k : Nat) (h : Int64) : Nat → Int64
  | 0 => h
  | t + 1 => if V 10 (k + 1 + t) = 1 then mxS (mxS (dgP V k h t) (nI (agN V k (k + 1 + t) 6))) (nI (unN V k (k + 1 + t) 6)) else dgP V k h t
def dgQ (V : Vs) (k : Nat) (h : Int64) : Int64 := if V 10 k = 1 then dgP V k h (7 - k) else h
def dgE (V : Vs) (h : Int64) : Nat → Int64
  | 0 => h
  | n + 1 => dgQ V n (dgE V h n)
def dgV (V : Vs) (V2 : Vs) : Int64 := dgE V2 (dgD V (dgC V (dgB V (dgA V 473 7) 4) 8) 6) 8
/-- the users' row behind the first n of the common words -/
def usC (V : Vs) : Nat → Vs
  | 0 => V
  | n + 1 => usR (usC V n) n 8
theorem usC_r {V : Vs} {r : Nat} (h : r ≠ 13) : ∀ n, usC V n r = V r
  | 0 => rfl
  | n + 1 => (usR_r h).trans (usC_r h n)
theorem cuN_cg {V W : Vs} (h : ∀ r, r ≠ 13 → V r = W r) {m w : Nat} : ∀ n, n ≤ 8 → cuN V m w n = cuN W m w n
  | 0, _ => rfl
  | n + 1, hn => by rw [cuN, cuN, cuN_cg h n (by omega), h 10 (by decide), h n (by omega)]
theorem cmS_cg {V W : Vs} (h : ∀ r, r ≠ 13 → V r = W r) {m : Nat} : cmS V m = cmS W m := by
  unfold cmS
  rw [wfL_cg (fun w _ => congrArg nI (cuN_cg h 8 (Nat.le_refl _)))]
end
section
set_option maxRecDepth 100000 in
set_option maxHeartbeats 1000000 in
theorem c_X4_agreementByMeanings {l : Launch} {E : xEnv} {B N : Nat} {σ : Sg} {b k1 k2 : Nat} {V : Vs} (hk1 : k1 < 8) (hk2 : k2 < 8) : xM l yX4_agreementByMeanings cX4_agreementByMeanings 5 (some .int) 3 67 0 0 E B [.ref (b + 2 + 2 * k1), .ref (b + 2 + 2 * k2)] N (vput E σ b V) N (vput E σ b V) (some (.int (nI (agN V k1 k2 6)))) := by
  refine xM_of [some (.ref _), some (.ref _), none, none, none] (by decide +kernel) (Nat.le_of_ble_eq_true rfl) rfl (fun k0 C Z => ?_)
  have hl : ∀ i, i ≤ 6 → xX k0 N 0 0 (vput E σ b V) 4 [some (.ref (b + 2 + 2 * k1)), some (.ref (b + 2 + 2 * k2)), some (.int (nI (agN V k1 k2 i))), some (.int (nI i)), none] [] := by
    refine x_for 6 ?_ ?_
    · refine x_iload_n C dX4_agreementByMeanings_4 rfl ?_
      refine x_bipush (v := 6) C dX4_agreementByMeanings_5 (by decide) ?_
      refine x_ic_ge C 43 dX4_agreementByMeanings_7 (by decide) (fun _ => ?_) (fun h => absurd (nI_le (a := 6) (Nat.le_refl _) (by omega)) h)
      refine x_iload_n C dX4_agreementByMeanings_43 rfl ?_
      exact x_zret C Z dX4_agreementByMeanings_44 rfl (Nat.le_of_ble_eq_true rfl) (Nat.le_of_ble_eq_true rfl) rfl rfl rfl
    · intro i hi ih
      refine x_iload_n C dX4_agreementByMeanings_4 rfl ?_
      refine x_bipush (v := 6) C dX4_agreementByMeanings_5 (by decide) ?_
      refine x_ic_ge C 43 dX4_agreementByMeanings_7 (by decide) (fun h => absurd h (nI_ge (b := 6) hi (by omega))) (fun _ => ?_)
      refine x_aload_n C dX4_agreementByMeanings_10 rfl ?_
      refine x_iload_n C dX4_agreementByMeanings_11 rfl ?_
      refine x_callV C (c_X2_wordFor hk1 hi) kv_X2_wordFor kl_X4_118 dX4_agreementByMeanings_12 (vput_s hk1) rfl rfl rfl rfl (Nat.le_of_ble_eq_true rfl) (Nat.le_of_ble_eq_true rfl) (Nat.le_of_ble_eq_true rfl) (Nat.le_of_ble_eq_true rfl) (Nat.le_of_ble_eq_true rfl) ?_
      refine x_istore C dX4_agreementByMeanings_15 (by decide) rfl ?_
      refine x_iload C dX4_agreementByMeanings_17 rfl ?_
      refine x_bipush (v := (-6)) C dX4_agreementByMeanings_19 (by decide) ?_
      refine x_ic_eq C 37 dX4_agreementByMeanings_21 (by decide) (fun h21 => ?_) (fun h21 => ?_)
      · refine x_iinc C dX4_agreementByMeanings_37 rfl (nI_inc _) (by decide) rfl ?_
        refine x_goto C 4 dX4_agreementByMeanings_40 (by decide) ?_
        refine xX.cl ih rfl (And.intro rfl (And.intro rfl (And.intro ?_ (And.intro rfl trivial)))) rfl
        rw [agN, if_neg (fun z => z.1 (wfS_6.mp h21))]; rfl
      · refine x_iload C dX4_agreementByMeanings_24 rfl ?_
        refine x_aload_n C dX4_agreementByMeanings_26 rfl ?_
        refine x_iload_n C dX4_agreementByMeanings_27 rfl ?_
        refine x_callV C (c_X2_wordFor hk2 hi) kv_X2_wordFor kl_X4_118 dX4_agreementByMeanings_28 (vput_s hk2) rfl rfl rfl rfl (Nat.le_of_ble_eq_true rfl) (Nat.le_of_ble_eq_true rfl) (Nat.le_of_ble_eq_true rfl) (Nat.le_of_ble_eq_true rfl) (Nat.le_of_ble_eq_true rfl) ?_
        refine x_ic_ne C 37 dX4_agreementByMeanings_31 (by decide) (fun h31 => ?_) (fun h31 => ?_)
        · refine x_iinc C dX4_agreementByMeanings_37 rfl (nI_inc _) (by decide) rfl ?_
          refine x_goto C 4 dX4_agreementByMeanings_40 (by decide) ?_
          refine xX.cl ih rfl (And.intro rfl (And.intro rfl (And.intro ?_ (And.intro rfl trivial)))) rfl
          rw [agN, if_neg (fun z => h31 (wfS_ij.mpr z.2))]; rfl
        · refine x_iinc C dX4_agreementByMeanings_34 rfl (nI_inc _) (by decide) rfl ?_
          refine x_iinc C dX4_agreementByMeanings_37 rfl (nI_inc _) (by decide) rfl ?_
          refine x_goto C 4 dX4_agreementByMeanings_40 (by decide) ?_
          refine xX.cl ih rfl (And.intro rfl (And.intro rfl (And.intro ?_ (And.intro rfl trivial)))) rfl
          rw [agN, if_pos ⟨fun z => h21 (wfS_6.mpr z), wfS_ij.mp h31⟩]; rfl
  refine x_iconst (v := 0) C dX4_agreementByMeanings_0 (by decide) ?_
  refine x_istore_n C dX4_agreementByMeanings_1 (by decide) rfl ?_
  refine x_iconst (v := 0) C dX4_agreementByMeanings_2 (by decide) ?_
  refine x_istore_n C dX4_agreementByMeanings_3 (by decide) rfl ?_
  refine xX.cl (hl 0 (by omega)) rfl (And.intro rfl (And.intro rfl (And.intro rfl (And.intro rfl trivial)))) rfl
set_option maxRecDepth 100000 in
set_option maxHeartbeats 1000000 in
theorem c_X4_agreementByWords {l : Launch} {E : xEnv} {B N : Nat} {σ : Sg} {b k1 k2 : Nat} {V : Vs} (hk1 : k1 < 8) (hk2 : k2 < 8) : xM l yX4_agreementByWords cX4_agreementByWords 5 (some .int) 3 67 0 0 E B [.ref (b + 2 + 2 * k1), .ref (b + 2 + 2 * k2)] N (vput E σ b V) N (vput E σ b V) (some (.int (nI (awN V k1 k2 14)))) := by
  refine xM_of [some (.ref _), some (.ref _), none, none, none] (by decide +kernel) (Nat.le_of_ble_eq_true rfl) rfl (fun k0 C Z => ?_)
  have hl : ∀ w, w ≤ 14 → xX k0 N 0 0 (vput E σ b V) 4 [some (.ref (b + 2 + 2 * k1)), some (.ref (b + 2 + 2 * k2)), some (.int (nI (awN V k1 k2 w))), some (.int (nI w)), none] [] := by
    refine x_for 14 ?_ ?_
    · refine x_iload_n C dX4_agreementByWords_4 rfl ?_
      refine x_bipush (v := 14) C dX4_agreementByWords_5 (by decide) ?_
      refine x_ic_ge C 55 dX4_agreementByWords_7 (by decide) (fun _ => ?_) (fun h => absurd (nI_le (a := 14) (Nat.le_refl _) (by omega)) h)
      refine x_iload_n C dX4_agreementByWords_55 rfl ?_
      exact x_zret C Z dX4_agreementByWords_56 rfl (Nat.le_of_ble_eq_true rfl) (Nat.le_of_ble_eq_true rfl) rfl rfl rfl
    · intro w hi ih
      have hl2 : ∀ i, i ≤ 6 → xX k0 N 0 0 (vput E σ b V) 13 [some (.ref (b + 2 + 2 * k1)), some (.ref (b + 2 + 2 * k2)), some (.int (nI (awN V k1 k2 w + awI V k1 k2 w i))), some (.int (nI w)), some (.int (nI i))] [] := by
        refine x_for 6 ?_ ?_
        · refine x_iload C dX4_agreementByWords_13 rfl ?_
          refine x_bipush (v := 6) C dX4_agreementByWords_15 (by decide) ?_
          refine x_ic_ge C 49 dX4_agreementByWords_17 (by decide) (fun _ => ?_) (fun h => absurd (nI_le (a := 6) (Nat.le_refl _) (by omega)) h)
          refine x_iinc C dX4_agreementByWords_49 rfl (nI_inc _) (by decide) rfl ?_
          refine x_goto C 4 dX4_agreementByWords_52 (by decide) ?_
          refine xX.cl ih rfl (And.intro rfl (And.intro rfl (And.intro rfl (And.intro rfl trivial)))) rfl
        · intro i hi2 ih2
          refine x_iload C dX4_agreementByWords_13 rfl ?_
          refine x_bipush (v := 6) C dX4_agreementByWords_15 (by decide) ?_
          refine x_ic_ge C 49 dX4_agreementByWords_17 (by decide) (fun h => absurd h (nI_ge (b := 6) hi2 (by omega))) (fun _ => ?_)
          refine x_aload_n C dX4_agreementByWords_20 rfl ?_
          refine x_iload C dX4_agreementByWords_21 rfl ?_
          refine x_callV C (c_X2_wordFor hk1 hi2) kv_X2_wordFor kl_X4_118 dX4_agreementByWords_23 (vput_s hk1) rfl rfl rfl rfl (Nat.le_of_ble_eq_true rfl) (Nat.le_of_ble_eq_true rfl) (Nat.le_of_ble_eq_true rfl) (Nat.le_of_ble_eq_true rfl) (Nat.le_of_ble_eq_true rfl) ?_
          refine x_iload_n C dX4_agreementByWords_26 rfl ?_
          refine x_ic_ne C 43 dX4_agreementByWords_27 (by decide) (fun h27 => ?_) (fun h27 => ?_)
          · refine x_iinc C dX4_agreementByWords_43 rfl (nI_inc _) (by decide) rfl ?_
            refine x_goto C 13 dX4_agreementByWords_46 (by decide) ?_
            refine xX.cl ih2 rfl (And.intro rfl (And.intro rfl (And.intro ?_ (And.intro rfl (And.intro rfl trivial))))) rfl
            rw [awI, if_neg (fun z => h27 ((wfS_is (by omega)).mpr z.1))]; rfl
          · refine x_aload_n C dX4_agreementByWords_30 rfl ?_
            refine x_iload C dX4_agreementByWords_31 rfl ?_
            refine x_callV C (c_X2_wordFor hk2 hi2) kv_X2_wordFor kl_X4_118 dX4_agreementByWords_33 (vput_s hk2) rfl rfl rfl rfl (Nat.le_of_ble_eq_true rfl) (Nat.le_of_ble_eq_true rfl) (Nat.le_of_ble_eq_true rfl) (Nat.le_of_ble_eq_true rfl) (Nat.le_of_ble_eq_true rfl) ?_
            refine x_iload_n C dX4_agreementByWords_36 rfl ?_
            refine x_ic_ne C 43 dX4_agreementByWords_37 (by decide) (fun h37 => ?_) (fun h37 => ?_)
            · refine x_iinc C dX4_agreementByWords_43 rfl (nI_inc _) (by decide) rfl ?_
              refine x_goto C 13 dX4_agreementByWords_46 (by decide) ?_
              refine xX.cl ih2 rfl (And.intro rfl (And.intro rfl (And.intro ?_ (And.intro rfl (And.intro rfl trivial))))) rfl
              rw [awI, if_neg (fun z => h37 ((wfS_is (by omega)).mpr z.2))]; rfl
            · refine x_iinc C dX4_agreementByWords_40 rfl (nI_inc _) (by decide) rfl ?_
              refine x_iinc C dX4_agreementByWords_43 rfl (nI_inc _) (by decide) rfl ?_
              refine x_goto C 13 dX4_agreementByWords_46 (by decide) ?_
              refine xX.cl ih2 rfl (And.intro rfl (And.intro rfl (And.intro ?_ (And.intro rfl (And.intro rfl trivial))))) rfl
              rw [awI, if_pos ⟨(wfS_is (by omega)).mp h27, (wfS_is (by omega)).mp h37⟩]; rfl
      refine x_iload_n C dX4_agreementByWords_4 rfl ?_
      refine x_bipush (v := 14) C dX4_agreementByWords_5 (by decide) ?_
      refine x_ic_ge C 55 dX4_agreementByWords_7 (by decide) (fun h => absurd h (nI_ge (b := 14) hi (by omega))) (fun _ => ?_)
      refine x_iconst (v := 0) C dX4_agreementByWords_10 (by decide) ?_
      refine x_istore C dX4_agreementByWords_11 (by decide) rfl ?_
      refine xX.cl (hl2 0 (by omega)) rfl (And.intro rfl (And.intro rfl (And.intro rfl (And.intro rfl (And.intro rfl trivial))))) rfl
  refine x_iconst (v := 0) C dX4_agreementByWords_0 (by decide) ?_
  refine x_istore_n C dX4_agreementByWords_1 (by decide) rfl ?_
  refine x_iconst (v := 0) C dX4_agreementByWords_2 (by decide) ?_
  refine x_istore_n C dX4_agreementByWords_3 (by decide) rfl ?_
  refine xX.cl (hl 0 (by omega)) rfl (And.intro rfl (And.intro rfl (And.intro rfl (And.intro rfl trivial)))) rfl
set_option maxRecDepth 100000 in
set_option maxHeartbeats 1000000 in
theorem c_X4_understandingOf {l : Launch} {E : xEnv} {B N : Nat} {σ : Sg} {b k1 k2 : Nat} {V : Vs} (hk1 : k1 < 8) (hk2 : k2 < 8) : xM l yX4_understandingOf cX4_understandingOf 5 (some .int) 3 67 0 0 E B [.ref (b + 2 + 2 * k1), .ref (b + 2 + 2 * k2)] N (vput E σ b V) N (vput E σ b V) (some (.int (nI (unN V k1 k2 6)))) := by
  refine xM_of [some (.ref _), some (.ref _), none, none, none] (by decide +kernel) (Nat.le_of_ble_eq_true rfl) rfl (fun k0 C Z => ?_)
  have hl : ∀ i, i ≤ 6 → xX k0 N 0 0 (vput E σ b V) 4 [some (.ref (b + 2 + 2 * k1)), some (.ref (b + 2 + 2 * k2)), some (.int (nI (unN V k1 k2 i))), some (.int (nI i)), none] [] := by
    refine x_for 6 ?_ ?_
    · refine x_iload_n C dX4_understandingOf_4 rfl ?_
      refine x_bipush (v := 6) C dX4_understandingOf_5 (by decide) ?_
      refine x_ic_ge C 43 dX4_understandingOf_7 (by decide) (fun _ => ?_) (fun h => absurd (nI_le (a := 6) (Nat.le_refl _) (by omega)) h)
      refine x_iload_n C dX4_understandingOf_43 rfl ?_
      exact x_zret C Z dX4_understandingOf_44 rfl (Nat.le_of_ble_eq_true rfl) (Nat.le_of_ble_eq_true rfl) rfl rfl rfl
    · intro i hi ih
      refine x_iload_n C dX4_understandingOf_4 rfl ?_
      refine x_bipush (v := 6) C dX4_understandingOf_5 (by decide) ?_
      refine x_ic_ge C 43 dX4_understandingOf_7 (by decide) (fun h => absurd h (nI_ge (b := 6) hi (by omega))) (fun _ => ?_)
      refine x_aload_n C dX4_understandingOf_10 rfl ?_
      refine x_iload_n C dX4_understandingOf_11 rfl ?_
      refine x_callV C (c_X2_wordFor hk1 hi) kv_X2_wordFor kl_X4_118 dX4_understandingOf_12 (vput_s hk1) rfl rfl rfl rfl (Nat.le_of_ble_eq_true rfl) (Nat.le_of_ble_eq_true rfl) (Nat.le_of_ble_eq_true rfl) (Nat.le_of_ble_eq_true rfl) (Nat.le_of_ble_eq_true rfl) ?_
      cases hq : wfS (V k1) i with
      | none =>
        refine x_istore C dX4_understandingOf_15 (by decide) rfl ?_
        refine x_iload C dX4_understandingOf_17 rfl ?_
        refine x_bipush (v := (-6)) C dX4_understandingOf_19 (by decide) ?_
        refine x_ic_eq C 37 dX4_understandingOf_21 (by decide) (fun _ => ?_) (fun h => absurd rfl h)
        refine x_iinc C dX4_understandingOf_37 rfl (nI_inc _) (by decide) rfl ?_
        refine x_goto C 4 dX4_understandingOf_40 (by decide) ?_
        refine xX.cl ih rfl (And.intro rfl (And.intro rfl (And.intro ?_ (And.intro rfl trivial)))) rfl
        rw [unN, unT_n hq]; rfl
      | some w =>
        refine x_istore C dX4_understandingOf_15 (by decide) rfl ?_
        refine x_iload C dX4_understandingOf_17 rfl ?_
        refine x_bipush (v := (-6)) C dX4_understandingOf_19 (by decide) ?_
        refine x_ic_eq C 37 dX4_understandingOf_21 (by decide) (fun h => absurd h (nI_ne6 (by have := wfS_in hq; omega))) (fun _ => ?_)
        refine x_aload_n C dX4_understandingOf_24 rfl ?_
        refine x_iload C dX4_understandingOf_25 rfl ?_
        refine x_callV C (c_X2_meaningOf hk2 (wfS_in hq)) kv_X2_meaningOf kl_X4_121 dX4_understandingOf_27 (vput_s hk2) rfl rfl rfl rfl (Nat.le_of_ble_eq_true rfl) (Nat.le_of_ble_eq_true rfl) (Nat.le_of_ble_eq_true rfl) (Nat.le_of_ble_eq_true rfl) (Nat.le_of_ble_eq_true rfl) ?_
        refine x_iload_n C dX4_understandingOf_30 rfl ?_
        refine x_ic_ne C 37 dX4_understandingOf_31 (by decide) (fun h31 => ?_) (fun h31 => ?_)
        · refine x_iinc C dX4_understandingOf_37 rfl (nI_inc _) (by decide) rfl ?_
          refine x_goto C 4 dX4_understandingOf_40 (by decide) ?_
          refine xX.cl ih rfl (And.intro rfl (And.intro rfl (And.intro ?_ (And.intro rfl trivial)))) rfl
          rw [unN, unT_f hq (fun z => h31 ((haS_is (by omega)).mpr z))]; rfl
        · refine x_iinc C dX4_understandingOf_34 rfl (nI_inc _) (by decide) rfl ?_
          refine x_iinc C dX4_understandingOf_37 rfl (nI_inc _) (by decide) rfl ?_
          refine x_goto C 4 dX4_understandingOf_40 (by decide) ?_
          refine xX.cl ih rfl (And.intro rfl (And.intro rfl (And.intro ?_ (And.intro rfl trivial)))) rfl
          rw [unN, unT_t hq ((haS_is (by omega)).mp h31)]; rfl
  refine x_iconst (v := 0) C dX4_understandingOf_0 (by decide) ?_
  refine x_istore_n C dX4_understandingOf_1 (by decide) rfl ?_
  refine x_iconst (v := 0) C dX4_understandingOf_2 (by decide) ?_
  refine x_istore_n C dX4_understandingOf_3 (by decide) rfl ?_
  refine xX.cl (hl 0 (by omega)) rfl (And.intro rfl (And.intro rfl (And.intro rfl (And.intro rfl trivial)))) rfl
set_option maxRecDepth 100000 in
set_option maxHeartbeats 1000000 in
theorem c_X4_codeOfWord {l : Launch} {E : xEnv} {B N : Nat} {σ : Sg} {w : Nat} : xM l yX4_codeOfWord cX4_codeOfWord 1 (some .int) 0 0 0 0 E B [.int (nI w)] N σ N σ (some (.int (nI (w + 2)))) := by
  refine xM_of [some (.int _)] (by decide +kernel) (Nat.le_of_ble_eq_true rfl) rfl (fun k0 C Z => ?_)
  refine x_iload_n C dX4_codeOfWord_0 rfl ?_
  refine x_iconst (v := 2) C dX4_codeOfWord_1 (by decide) ?_
  refine x_iadd C dX4_codeOfWord_2 ?_
  exact x_zret C Z dX4_codeOfWord_3 rfl (Nat.le_of_ble_eq_true rfl) (Nat.le_of_ble_eq_true rfl) rfl rfl (nI_add w 2)
set_option maxRecDepth 100000 in
set_option maxHeartbeats 1000000 in
theorem c_X4_wordOfCode {l : Launch} {E : xEnv} {B N : Nat} {σ : Sg} {c : Nat} (hc : 2 ≤ c) : xM l yX4_wordOfCode cX4_wordOfCode 1 (some .int) 0 0 0 0 E B [.int (nI c)] N σ N σ (some (.int (nI (c - 2)))) := by
  refine xM_of [some (.int _)] (by decide +kernel) (Nat.le_of_ble_eq_true rfl) rfl (fun k0 C Z => ?_)
  refine x_iload_n C dX4_wordOfCode_0 rfl ?_
  refine x_iconst (v := 2) C dX4_wordOfCode_1 (by decide) ?_
  refine x_isub C dX4_wordOfCode_2 ?_
  exact x_zret C Z dX4_wordOfCode_3 rfl (Nat.le_of_ble_eq_true rfl) (Nat.le_of_ble_eq_true rfl) rfl rfl (pk_sub (b := 2) hc)
set_option maxRecDepth 100000 in
set_option maxHeartbeats 1000000 in
theorem c_X4_lengthOfWord {l : Launch} {E : xEnv} {B N : Nat} {σ : Sg} {w : Nat} (hw : w < 14) : xM l yX4_lengthOfWord cX4_lengthOfWord 2 (some .int) 1 20 0 0 E B [.int (nI w)] N σ N σ (some (.int (nI (lwN w)))) := by
  refine xM_of [some (.int _), none] (by decide +kernel) (Nat.le_of_ble_eq_true rfl) rfl (fun k0 C Z => ?_)
  refine x_iload_n C dX4_lengthOfWord_0 rfl ?_
  refine x_callS C c_X4_codeOfWord ks_X4_codeOfWord kl_X4_127 dX4_lengthOfWord_1 rfl rfl rfl rfl (Nat.le_of_ble_eq_true rfl) (Nat.le_of_ble_eq_true rfl) (Nat.le_of_ble_eq_true rfl) (Nat.le_of_ble_eq_true rfl) (Nat.le_of_ble_eq_true rfl) ?_
  refine x_istore_n C dX4_lengthOfWord_4 (by decide) rfl ?_
  refine x_iload_n C dX4_lengthOfWord_5 rfl ?_
  refine x_iconst (v := 4) C dX4_lengthOfWord_6 (by decide) ?_
  refine x_ic_ge C 12 dX4_lengthOfWord_7 (by decide) (fun h7 => ?_) (fun h7 => ?_)
  · refine x_iload_n C dX4_lengthOfWord_12 rfl ?_
    refine x_bipush (v := 8) C dX4_lengthOfWord_13 (by decide) ?_
    refine x_ic_ge C 22 dX4_lengthOfWord_15 (by decide) (fun h15 => ?_) (fun h15 => ?_)
    · refine x_iconst (v := 3) C dX4_lengthOfWord_22 (by decide) ?_
      exact x_zret C Z dX4_lengthOfWord_23 rfl (Nat.le_of_ble_eq_true rfl) (Nat.le_of_ble_eq_true rfl) rfl rfl (congrArg nI ((if_neg (fun z => nI_ge (a := w + 2) (b := 4) (by omega) (by omega) h7)).trans (if_neg (fun z => nI_ge (a := w + 2) (b := 8) (by omega) (by omega) h15)))).symm
    · refine x_iconst (v := 2) C dX4_lengthOfWord_18 (by decide) ?_
      refine x_goto C 23 dX4_lengthOfWord_19 (by decide) ?_
      exact x_zret C Z dX4_lengthOfWord_23 rfl (Nat.le_of_ble_eq_true rfl) (Nat.le_of_ble_eq_true rfl) rfl rfl (congrArg nI ((if_neg (fun z => nI_ge (a := w + 2) (b := 4) (by omega) (by omega) h7)).trans (if_pos (Nat.lt_of_not_le (fun z => h15 (nI_le (a := 8) (b := w + 2) (by omega) (by omega))))))).symm
  · refine x_iconst (v := 1) C dX4_lengthOfWord_10 (by decide) ?_
    exact x_zret C Z dX4_lengthOfWord_11 rfl (Nat.le_of_ble_eq_true rfl) (Nat.le_of_ble_eq_true rfl) rfl rfl (congrArg nI (if_pos (Nat.lt_of_not_le (fun z => h7 (nI_le (a := 4) (b := w + 2) (by omega) (by omega)))))).symm
set_option maxRecDepth 100000 in
set_option maxHeartbeats 1000000 in
theorem c_X4_leastOf {l : Launch} {E : xEnv} {B N : Nat} {σ : Sg} {j : Nat} (hj : j < 4) : xM l yX4_leastOf cX4_leastOf 1 (some .int) 0 0 0 0 E B [.int (nI j)] N σ N σ (some (.int (leS j))) := by
  rcases (show j = 0 ∨ j = 1 ∨ j = 2 ∨ j = 3 by omega) with rfl | rfl | rfl | rfl
  · refine xM_of [some (.int _)] (by decide +kernel) (Nat.le_of_ble_eq_true rfl) rfl (fun k0 C Z => ?_)
    refine x_iload_n C dX4_leastOf_0 rfl ?_
    refine x_lkp (off := 27) C 28 dX4_leastOf_1 (by decide) (by decide) (by decide) ?_
    refine x_iconst (v := 1) C dX4_leastOf_28 (by decide) ?_
    exact x_zret C Z dX4_leastOf_29 rfl (Nat.le_of_ble_eq_true rfl) (Nat.le_of_ble_eq_true rfl) rfl rfl rfl
  · refine xM_of [some (.int _)] (by decide +kernel) (Nat.le_of_ble_eq_true rfl) rfl (fun k0 C Z => ?_)
    refine x_iload_n C dX4_leastOf_0 rfl ?_
    refine x_lkp (off := 31) C 32 dX4_leastOf_1 (by decide) (by decide) (by decide) ?_
    refine x_iconst (v := 0) C dX4_leastOf_32 (by decide) ?_
    exact x_zret C Z dX4_leastOf_33 rfl (Nat.le_of_ble_eq_true rfl) (Nat.le_of_ble_eq_true rfl) rfl rfl rfl
  · refine xM_of [some (.int _)] (by decide +kernel) (Nat.le_of_ble_eq_true rfl) rfl (fun k0 C Z => ?_)
    refine x_iload_n C dX4_leastOf_0 rfl ?_
    refine x_lkp (off := 29) C 30 dX4_leastOf_1 (by decide) (by decide) (by decide) ?_
    refine x_iconst (v := 5) C dX4_leastOf_30 (by decide) ?_
    exact x_zret C Z dX4_leastOf_31 rfl (Nat.le_of_ble_eq_true rfl) (Nat.le_of_ble_eq_true rfl) rfl rfl rfl
  · refine xM_of [some (.int _)] (by decide +kernel) (Nat.le_of_ble_eq_true rfl) rfl (fun k0 C Z => ?_)
    refine x_iload_n C dX4_leastOf_0 rfl ?_
    refine x_lkp (off := 31) C 32 dX4_leastOf_1 (by decide) (by decide) (by decide) ?_
    refine x_iconst (v := 0) C dX4_leastOf_32 (by decide) ?_
    exact x_zret C Z dX4_leastOf_33 rfl (Nat.le_of_ble_eq_true rfl) (Nat.le_of_ble_eq_true rfl) rfl rfl rfl
set_option maxRecDepth 100000 in
set_option maxHeartbeats 1000000 in
theorem c_X4_mostOf {l : Launch} {E : xEnv} {B N : Nat} {σ : Sg} {j : Nat} (hj : j < 4) : xM l yX4_mostOf cX4_mostOf 1 (some .int) 0 0 0 0 E B [.int (nI j)] N σ N σ (some (.int (moS j))) := by
  rcases (show j = 0 ∨ j = 1 ∨ j = 2 ∨ j = 3 by omega) with rfl | rfl | rfl | rfl
  · refine xM_of [some (.int _)] (by decide +kernel) (Nat.le_of_ble_eq_true rfl) rfl (fun k0 C Z => ?_)
    refine x_iload_n C dX4_mostOf_0 rfl ?_
    refine x_lkp (off := 33) C 34 dX4_mostOf_1 (by decide) (by decide) (by decide) ?_
    refine x_bipush (v := 9) C dX4_mostOf_34 (by decide) ?_
    exact x_zret C Z dX4_mostOf_36 rfl (Nat.le_of_ble_eq_true rfl) (Nat.le_of_ble_eq_true rfl) rfl rfl rfl
  · refine xM_of [some (.int _)] (by decide +kernel) (Nat.le_of_ble_eq_true rfl) rfl (fun k0 C Z => ?_)
    refine x_iload_n C dX4_mostOf_0 rfl ?_
    refine x_lkp (off := 33) C 34 dX4_mostOf_1 (by decide) (by decide) (by decide) ?_
    refine x_bipush (v := 9) C dX4_mostOf_34 (by decide) ?_
    exact x_zret C Z dX4_mostOf_36 rfl (Nat.le_of_ble_eq_true rfl) (Nat.le_of_ble_eq_true rfl) rfl rfl rfl
  · refine xM_of [some (.int _)] (by decide +kernel) (Nat.le_of_ble_eq_true rfl) rfl (fun k0 C Z => ?_)
    refine x_iload_n C dX4_mostOf_0 rfl ?_
    refine x_lkp (off := 27) C 28 dX4_mostOf_1 (by decide) (by decide) (by decide) ?_
    refine x_bipush (v := 99) C dX4_mostOf_28 (by decide) ?_
    exact x_zret C Z dX4_mostOf_30 rfl (Nat.le_of_ble_eq_true rfl) (Nat.le_of_ble_eq_true rfl) rfl rfl rfl
  · refine xM_of [some (.int _)] (by decide +kernel) (Nat.le_of_ble_eq_true rfl) rfl (fun k0 C Z => ?_)
    refine x_iload_n C dX4_mostOf_0 rfl ?_
    refine x_lkp (off := 30) C 31 dX4_mostOf_1 (by decide) (by decide) (by decide) ?_
    refine x_bipush (v := 100) C dX4_mostOf_31 (by decide) ?_
    exact x_zret C Z dX4_mostOf_33 rfl (Nat.le_of_ble_eq_true rfl) (Nat.le_of_ble_eq_true rfl) rfl rfl rfl
set_option maxRecDepth 100000 in
set_option maxHeartbeats 1000000 in
theorem c_X4_mixed {l : Launch} {E : xEnv} {B N : Nat} {σ : Sg} (h : Int64) (v : Int32) : xM l yX4_mixed cX4_mixed 3 (some .long) 0 0 0 0 E B [.long h, .int v] N σ N σ (some (.long (mxS h v))) := by
  refine xM_of [some (.long _), none, some (.int _)] (by decide +kernel) (Nat.le_of_ble_eq_true rfl) rfl (fun k0 C Z => ?_)
  refine x_ldc2 C kk_X4_179 dX4_mixed_0 ?_
  refine x_lload_n C dX4_mixed_3 rfl ?_
  refine x_lmul C dX4_mixed_4 ?_
  refine x_iload_n C dX4_mixed_5 rfl ?_
  refine x_i2l C dX4_mixed_6 ?_
  refine x_ladd C dX4_mixed_7 ?_
  exact x_lret C Z dX4_mixed_8 (Nat.le_of_ble_eq_true rfl) (Nat.le_of_ble_eq_true rfl) rfl rfl rfl
end
section
theorem zz_last : True := trivial
theorem zz_last2 : True := trivial
end
