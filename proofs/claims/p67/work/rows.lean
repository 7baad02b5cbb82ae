section
-- ===== PART A: goes FIRST, ahead of the names: the tables' words, and 'selects' of the private methods out of them =====
/-- a private method of a class that the tables say can be made, by its rows of tables_1 -/
def lw_okq (q : MethodName × Nat) : Prop := (q.1.cls ≠ "java/lang/invoke/MethodHandle" ∧ q.1.cls ≠ "java/lang/invoke/VarHandle") ∧ Cond.instantiable q.1.cls q.2 ∈ tables_1 ∧ Cond.privateMethod q.1 ∈ tables_1 ∧ Cond.instanceMethod q.1 ∈ tables_1
theorem lw_p0 : lw_okq (⟨"TicketGate$Parser", "take", "()I"⟩, 8) := ⟨⟨by decide +kernel, by decide +kernel⟩, List.mem_of_getElem? (i := 59) (by decide +kernel), List.mem_of_getElem? (i := 290) (by decide +kernel), List.mem_of_getElem? (i := 291) (by decide +kernel)⟩
theorem lw_p1 : lw_okq (⟨"TicketGate$Parser", "readGate", "()V"⟩, 8) := ⟨⟨by decide +kernel, by decide +kernel⟩, List.mem_of_getElem? (i := 59) (by decide +kernel), List.mem_of_getElem? (i := 319) (by decide +kernel), List.mem_of_getElem? (i := 320) (by decide +kernel)⟩
theorem lw_p2 : lw_okq (⟨"TicketGate$Parser", "isWord", "(Ljava/lang/String;)Z"⟩, 8) := ⟨⟨by decide +kernel, by decide +kernel⟩, List.mem_of_getElem? (i := 59) (by decide +kernel), List.mem_of_getElem? (i := 324) (by decide +kernel), List.mem_of_getElem? (i := 325) (by decide +kernel)⟩
theorem lw_p3 : lw_okq (⟨"TicketGate$Parser", "require", "(ZI)V"⟩, 8) := ⟨⟨by decide +kernel, by decide +kernel⟩, List.mem_of_getElem? (i := 59) (by decide +kernel), List.mem_of_getElem? (i := 332) (by decide +kernel), List.mem_of_getElem? (i := 333) (by decide +kernel)⟩
theorem lw_p4 : lw_okq (⟨"TicketGate$Parser", "number", "(II)I"⟩, 8) := ⟨⟨by decide +kernel, by decide +kernel⟩, List.mem_of_getElem? (i := 59) (by decide +kernel), List.mem_of_getElem? (i := 336) (by decide +kernel), List.mem_of_getElem? (i := 337) (by decide +kernel)⟩
theorem lw_p5 : lw_okq (⟨"TicketGate$Parser", "semicolon", "(Z)Z"⟩, 8) := ⟨⟨by decide +kernel, by decide +kernel⟩, List.mem_of_getElem? (i := 59) (by decide +kernel), List.mem_of_getElem? (i := 340) (by decide +kernel), List.mem_of_getElem? (i := 341) (by decide +kernel)⟩
theorem lw_p6 : lw_okq (⟨"TicketGate$Parser", "readStatement", "()V"⟩, 8) := ⟨⟨by decide +kernel, by decide +kernel⟩, List.mem_of_getElem? (i := 59) (by decide +kernel), List.mem_of_getElem? (i := 366) (by decide +kernel), List.mem_of_getElem? (i := 367) (by decide +kernel)⟩
theorem lw_p7 : lw_okq (⟨"TicketGate$Parser", "readRealm", "()V"⟩, 8) := ⟨⟨by decide +kernel, by decide +kernel⟩, List.mem_of_getElem? (i := 59) (by decide +kernel), List.mem_of_getElem? (i := 371) (by decide +kernel), List.mem_of_getElem? (i := 372) (by decide +kernel)⟩
theorem lw_p8 : lw_okq (⟨"TicketGate$Parser", "newName", "()I"⟩, 8) := ⟨⟨by decide +kernel, by decide +kernel⟩, List.mem_of_getElem? (i := 59) (by decide +kernel), List.mem_of_getElem? (i := 381) (by decide +kernel), List.mem_of_getElem? (i := 382) (by decide +kernel)⟩
theorem lw_p9 : lw_okq (⟨"TicketGate$Parser", "clockWord", "()I"⟩, 8) := ⟨⟨by decide +kernel, by decide +kernel⟩, List.mem_of_getElem? (i := 59) (by decide +kernel), List.mem_of_getElem? (i := 411) (by decide +kernel), List.mem_of_getElem? (i := 412) (by decide +kernel)⟩
theorem lw_p10 : lw_okq (⟨"TicketGate$Parser", "readTrust", "()V"⟩, 8) := ⟨⟨by decide +kernel, by decide +kernel⟩, List.mem_of_getElem? (i := 59) (by decide +kernel), List.mem_of_getElem? (i := 435) (by decide +kernel), List.mem_of_getElem? (i := 436) (by decide +kernel)⟩
theorem lw_p11 : lw_okq (⟨"TicketGate$Parser", "knownName", "(LTicketGate$Table;I)I"⟩, 8) := ⟨⟨by decide +kernel, by decide +kernel⟩, List.mem_of_getElem? (i := 59) (by decide +kernel), List.mem_of_getElem? (i := 439) (by decide +kernel), List.mem_of_getElem? (i := 440) (by decide +kernel)⟩
theorem lw_p12 : lw_okq (⟨"TicketGate$Parser", "readUser", "()V"⟩, 8) := ⟨⟨by decide +kernel, by decide +kernel⟩, List.mem_of_getElem? (i := 59) (by decide +kernel), List.mem_of_getElem? (i := 458) (by decide +kernel), List.mem_of_getElem? (i := 459) (by decide +kernel)⟩
theorem lw_p13 : lw_okq (⟨"TicketGate$Parser", "readService", "()V"⟩, 8) := ⟨⟨by decide +kernel, by decide +kernel⟩, List.mem_of_getElem? (i := 59) (by decide +kernel), List.mem_of_getElem? (i := 476) (by decide +kernel), List.mem_of_getElem? (i := 477) (by decide +kernel)⟩
theorem lw_p14 : lw_okq (⟨"TicketGate$Parser", "readLogin", "()V"⟩, 8) := ⟨⟨by decide +kernel, by decide +kernel⟩, List.mem_of_getElem? (i := 59) (by decide +kernel), List.mem_of_getElem? (i := 494) (by decide +kernel), List.mem_of_getElem? (i := 495) (by decide +kernel)⟩
theorem lw_p15 : lw_okq (⟨"TicketGate$State", "makeTicket", "(III)I"⟩, 10) := ⟨⟨by decide +kernel, by decide +kernel⟩, List.mem_of_getElem? (i := 65) (by decide +kernel), List.mem_of_getElem? (i := 521) (by decide +kernel), List.mem_of_getElem? (i := 522) (by decide +kernel)⟩
def lw_privs_1 : List (MethodName × Nat) := [(⟨"TicketGate$Parser", "take", "()I"⟩, 8), (⟨"TicketGate$Parser", "readGate", "()V"⟩, 8), (⟨"TicketGate$Parser", "isWord", "(Ljava/lang/String;)Z"⟩, 8), (⟨"TicketGate$Parser", "require", "(ZI)V"⟩, 8), (⟨"TicketGate$Parser", "number", "(II)I"⟩, 8), (⟨"TicketGate$Parser", "semicolon", "(Z)Z"⟩, 8), (⟨"TicketGate$Parser", "readStatement", "()V"⟩, 8), (⟨"TicketGate$Parser", "readRealm", "()V"⟩, 8), (⟨"TicketGate$Parser", "newName", "()I"⟩, 8), (⟨"TicketGate$Parser", "clockWord", "()I"⟩, 8), (⟨"TicketGate$Parser", "readTrust", "()V"⟩, 8), (⟨"TicketGate$Parser", "knownName", "(LTicketGate$Table;I)I"⟩, 8), (⟨"TicketGate$Parser", "readUser", "()V"⟩, 8), (⟨"TicketGate$Parser", "readService", "()V"⟩, 8), (⟨"TicketGate$Parser", "readLogin", "()V"⟩, 8), (⟨"TicketGate$State", "makeTicket", "(III)I"⟩, 10)]
theorem lw_r1 : ∀ q ∈ lw_privs_1, lw_okq q := List.forall_mem_cons.mpr ⟨lw_p0, List.forall_mem_cons.mpr ⟨lw_p1, List.forall_mem_cons.mpr ⟨lw_p2, List.forall_mem_cons.mpr ⟨lw_p3, List.forall_mem_cons.mpr ⟨lw_p4, List.forall_mem_cons.mpr ⟨lw_p5, List.forall_mem_cons.mpr ⟨lw_p6, List.forall_mem_cons.mpr ⟨lw_p7, List.forall_mem_cons.mpr ⟨lw_p8, List.forall_mem_cons.mpr ⟨lw_p9, List.forall_mem_cons.mpr ⟨lw_p10, List.forall_mem_cons.mpr ⟨lw_p11, List.forall_mem_cons.mpr ⟨lw_p12, List.forall_mem_cons.mpr ⟨lw_p13, List.forall_mem_cons.mpr ⟨lw_p14, List.forall_mem_cons.mpr ⟨lw_p15, fun _ h => absurd h List.not_mem_nil⟩⟩⟩⟩⟩⟩⟩⟩⟩⟩⟩⟩⟩⟩⟩⟩
theorem lw_p16 : lw_okq (⟨"TicketGate$State", "drawKey", "()I"⟩, 10) := ⟨⟨by decide +kernel, by decide +kernel⟩, List.mem_of_getElem? (i := 65) (by decide +kernel), List.mem_of_getElem? (i := 531) (by decide +kernel), List.mem_of_getElem? (i := 532) (by decide +kernel)⟩
theorem lw_p17 : lw_okq (⟨"TicketGate$State", "setLife", "(IZII)V"⟩, 10) := ⟨⟨by decide +kernel, by decide +kernel⟩, List.mem_of_getElem? (i := 65) (by decide +kernel), List.mem_of_getElem? (i := 536) (by decide +kernel), List.mem_of_getElem? (i := 537) (by decide +kernel)⟩
theorem lw_p18 : lw_okq (⟨"TicketGate$Parser", "readRefer", "()V"⟩, 8) := ⟨⟨by decide +kernel, by decide +kernel⟩, List.mem_of_getElem? (i := 59) (by decide +kernel), List.mem_of_getElem? (i := 546) (by decide +kernel), List.mem_of_getElem? (i := 547) (by decide +kernel)⟩
theorem lw_p19 : lw_okq (⟨"TicketGate$Parser", "knownTicket", "()I"⟩, 8) := ⟨⟨by decide +kernel, by decide +kernel⟩, List.mem_of_getElem? (i := 59) (by decide +kernel), List.mem_of_getElem? (i := 550) (by decide +kernel), List.mem_of_getElem? (i := 551) (by decide +kernel)⟩
theorem lw_p20 : lw_okq (⟨"TicketGate$State", "isSkewed", "(I)Z"⟩, 10) := ⟨⟨by decide +kernel, by decide +kernel⟩, List.mem_of_getElem? (i := 65) (by decide +kernel), List.mem_of_getElem? (i := 567) (by decide +kernel), List.mem_of_getElem? (i := 568) (by decide +kernel)⟩
theorem lw_p21 : lw_okq (⟨"TicketGate$State", "inheritLife", "(II)V"⟩, 10) := ⟨⟨by decide +kernel, by decide +kernel⟩, List.mem_of_getElem? (i := 65) (by decide +kernel), List.mem_of_getElem? (i := 575) (by decide +kernel), List.mem_of_getElem? (i := 576) (by decide +kernel)⟩
theorem lw_p22 : lw_okq (⟨"TicketGate$Parser", "readRequest", "()V"⟩, 8) := ⟨⟨by decide +kernel, by decide +kernel⟩, List.mem_of_getElem? (i := 59) (by decide +kernel), List.mem_of_getElem? (i := 584) (by decide +kernel), List.mem_of_getElem? (i := 585) (by decide +kernel)⟩
theorem lw_p23 : lw_okq (⟨"TicketGate$Parser", "readRenew", "()V"⟩, 8) := ⟨⟨by decide +kernel, by decide +kernel⟩, List.mem_of_getElem? (i := 59) (by decide +kernel), List.mem_of_getElem? (i := 600) (by decide +kernel), List.mem_of_getElem? (i := 601) (by decide +kernel)⟩
theorem lw_p24 : lw_okq (⟨"TicketGate$State", "renewedEnd", "(I)I"⟩, 10) := ⟨⟨by decide +kernel, by decide +kernel⟩, List.mem_of_getElem? (i := 65) (by decide +kernel), List.mem_of_getElem? (i := 608) (by decide +kernel), List.mem_of_getElem? (i := 609) (by decide +kernel)⟩
theorem lw_p25 : lw_okq (⟨"TicketGate$Parser", "readCheese", "()V"⟩, 8) := ⟨⟨by decide +kernel, by decide +kernel⟩, List.mem_of_getElem? (i := 59) (by decide +kernel), List.mem_of_getElem? (i := 617) (by decide +kernel), List.mem_of_getElem? (i := 618) (by decide +kernel)⟩
theorem lw_p26 : lw_okq (⟨"TicketGate$Parser", "readDrop", "()V"⟩, 8) := ⟨⟨by decide +kernel, by decide +kernel⟩, List.mem_of_getElem? (i := 59) (by decide +kernel), List.mem_of_getElem? (i := 664) (by decide +kernel), List.mem_of_getElem? (i := 665) (by decide +kernel)⟩
theorem lw_p27 : lw_okq (⟨"TicketGate$Parser", "readSweep", "()V"⟩, 8) := ⟨⟨by decide +kernel, by decide +kernel⟩, List.mem_of_getElem? (i := 59) (by decide +kernel), List.mem_of_getElem? (i := 672) (by decide +kernel), List.mem_of_getElem? (i := 673) (by decide +kernel)⟩
theorem lw_p28 : lw_okq (⟨"TicketGate$Parser", "readPass", "()V"⟩, 8) := ⟨⟨by decide +kernel, by decide +kernel⟩, List.mem_of_getElem? (i := 59) (by decide +kernel), List.mem_of_getElem? (i := 686) (by decide +kernel), List.mem_of_getElem? (i := 687) (by decide +kernel)⟩
theorem lw_p29 : lw_okq (⟨"TicketGate$Realms", "trustedBySome", "(I)I"⟩, 4) := ⟨⟨by decide +kernel, by decide +kernel⟩, List.mem_of_getElem? (i := 71) (by decide +kernel), List.mem_of_getElem? (i := 844) (by decide +kernel), List.mem_of_getElem? (i := 845) (by decide +kernel)⟩
theorem lw_p30 : lw_okq (⟨"TicketGateLaw$Hand", "skewed", "(II)Z"⟩, 14) := ⟨⟨by decide +kernel, by decide +kernel⟩, List.mem_of_getElem? (i := 848) (by decide +kernel), List.mem_of_getElem? (i := 910) (by decide +kernel), List.mem_of_getElem? (i := 911) (by decide +kernel)⟩
theorem lw_p31 : lw_okq (⟨"TicketGateLaw$Hand", "makes", "(IIIIII)I"⟩, 14) := ⟨⟨by decide +kernel, by decide +kernel⟩, List.mem_of_getElem? (i := 848) (by decide +kernel), List.mem_of_getElem? (i := 915) (by decide +kernel), List.mem_of_getElem? (i := 916) (by decide +kernel)⟩
def lw_privs_2 : List (MethodName × Nat) := [(⟨"TicketGate$State", "drawKey", "()I"⟩, 10), (⟨"TicketGate$State", "setLife", "(IZII)V"⟩, 10), (⟨"TicketGate$Parser", "readRefer", "()V"⟩, 8), (⟨"TicketGate$Parser", "knownTicket", "()I"⟩, 8), (⟨"TicketGate$State", "isSkewed", "(I)Z"⟩, 10), (⟨"TicketGate$State", "inheritLife", "(II)V"⟩, 10), (⟨"TicketGate$Parser", "readRequest", "()V"⟩, 8), (⟨"TicketGate$Parser", "readRenew", "()V"⟩, 8), (⟨"TicketGate$State", "renewedEnd", "(I)I"⟩, 10), (⟨"TicketGate$Parser", "readCheese", "()V"⟩, 8), (⟨"TicketGate$Parser", "readDrop", "()V"⟩, 8), (⟨"TicketGate$Parser", "readSweep", "()V"⟩, 8), (⟨"TicketGate$Parser", "readPass", "()V"⟩, 8), (⟨"TicketGate$Realms", "trustedBySome", "(I)I"⟩, 4), (⟨"TicketGateLaw$Hand", "skewed", "(II)Z"⟩, 14), (⟨"TicketGateLaw$Hand", "makes", "(IIIIII)I"⟩, 14)]
theorem lw_r2 : ∀ q ∈ lw_privs_2, lw_okq q := List.forall_mem_cons.mpr ⟨lw_p16, List.forall_mem_cons.mpr ⟨lw_p17, List.forall_mem_cons.mpr ⟨lw_p18, List.forall_mem_cons.mpr ⟨lw_p19, List.forall_mem_cons.mpr ⟨lw_p20, List.forall_mem_cons.mpr ⟨lw_p21, List.forall_mem_cons.mpr ⟨lw_p22, List.forall_mem_cons.mpr ⟨lw_p23, List.forall_mem_cons.mpr ⟨lw_p24, List.forall_mem_cons.mpr ⟨lw_p25, List.forall_mem_cons.mpr ⟨lw_p26, List.forall_mem_cons.mpr ⟨lw_p27, List.forall_mem_cons.mpr ⟨lw_p28, List.forall_mem_cons.mpr ⟨lw_p29, List.forall_mem_cons.mpr ⟨lw_p30, List.forall_mem_cons.mpr ⟨lw_p31, fun _ h => absurd h List.not_mem_nil⟩⟩⟩⟩⟩⟩⟩⟩⟩⟩⟩⟩⟩⟩⟩⟩
theorem lw_p32 : lw_okq (⟨"TicketGateLaw$Hand", "draws", "()I"⟩, 14) := ⟨⟨by decide +kernel, by decide +kernel⟩, List.mem_of_getElem? (i := 848) (by decide +kernel), List.mem_of_getElem? (i := 920) (by decide +kernel), List.mem_of_getElem? (i := 921) (by decide +kernel)⟩
theorem lw_p33 : lw_okq (⟨"TicketGateLaw$Hand", "derives", "([III)I"⟩, 14) := ⟨⟨by decide +kernel, by decide +kernel⟩, List.mem_of_getElem? (i := 848) (by decide +kernel), List.mem_of_getElem? (i := 931) (by decide +kernel), List.mem_of_getElem? (i := 932) (by decide +kernel)⟩
theorem lw_p34 : lw_okq (⟨"TicketGateLaw$Hand", "gets", "([I)I"⟩, 14) := ⟨⟨by decide +kernel, by decide +kernel⟩, List.mem_of_getElem? (i := 848) (by decide +kernel), List.mem_of_getElem? (i := 936) (by decide +kernel), List.mem_of_getElem? (i := 937) (by decide +kernel)⟩
theorem lw_p35 : lw_okq (⟨"java/lang/Throwable", "fillInStackTrace", "(I)Ljava/lang/Throwable;"⟩, 6) := ⟨⟨by decide +kernel, by decide +kernel⟩, List.mem_of_getElem? (i := 1026) (by decide +kernel), List.mem_of_getElem? (i := 1024) (by decide +kernel), List.mem_of_getElem? (i := 1025) (by decide +kernel)⟩
theorem lw_p36 : lw_okq (⟨"TicketGate", "rowOf", "(I)I"⟩, 8) := ⟨⟨by decide +kernel, by decide +kernel⟩, List.mem_of_getElem? (i := 34) (by decide +kernel), List.mem_of_getElem? (i := 1060) (by decide +kernel), List.mem_of_getElem? (i := 1061) (by decide +kernel)⟩
theorem lw_p37 : lw_okq (⟨"TicketGate", "checkUser", "(I)V"⟩, 8) := ⟨⟨by decide +kernel, by decide +kernel⟩, List.mem_of_getElem? (i := 34) (by decide +kernel), List.mem_of_getElem? (i := 1123) (by decide +kernel), List.mem_of_getElem? (i := 1124) (by decide +kernel)⟩
theorem lw_p38 : lw_okq (⟨"TicketGate", "checkRealm", "(I)V"⟩, 8) := ⟨⟨by decide +kernel, by decide +kernel⟩, List.mem_of_getElem? (i := 34) (by decide +kernel), List.mem_of_getElem? (i := 1136) (by decide +kernel), List.mem_of_getElem? (i := 1137) (by decide +kernel)⟩
theorem lw_p39 : lw_okq (⟨"TicketGate", "checkService", "(I)V"⟩, 8) := ⟨⟨by decide +kernel, by decide +kernel⟩, List.mem_of_getElem? (i := 34) (by decide +kernel), List.mem_of_getElem? (i := 1149) (by decide +kernel), List.mem_of_getElem? (i := 1150) (by decide +kernel)⟩
theorem lw_p40 : lw_okq (⟨"TicketGate", "remember", "()V"⟩, 8) := ⟨⟨by decide +kernel, by decide +kernel⟩, List.mem_of_getElem? (i := 34) (by decide +kernel), List.mem_of_getElem? (i := 1220) (by decide +kernel), List.mem_of_getElem? (i := 1221) (by decide +kernel)⟩
theorem lw_p41 : lw_okq (⟨"TicketGate", "checkPassword", "(I)V"⟩, 8) := ⟨⟨by decide +kernel, by decide +kernel⟩, List.mem_of_getElem? (i := 34) (by decide +kernel), List.mem_of_getElem? (i := 1502) (by decide +kernel), List.mem_of_getElem? (i := 1503) (by decide +kernel)⟩
theorem lw_p42 : lw_okq (⟨"TicketGate", "checkAllowed", "(I)V"⟩, 8) := ⟨⟨by decide +kernel, by decide +kernel⟩, List.mem_of_getElem? (i := 34) (by decide +kernel), List.mem_of_getElem? (i := 1508) (by decide +kernel), List.mem_of_getElem? (i := 1509) (by decide +kernel)⟩
def lw_privs_3 : List (MethodName × Nat) := [(⟨"TicketGateLaw$Hand", "draws", "()I"⟩, 14), (⟨"TicketGateLaw$Hand", "derives", "([III)I"⟩, 14), (⟨"TicketGateLaw$Hand", "gets", "([I)I"⟩, 14), (⟨"java/lang/Throwable", "fillInStackTrace", "(I)Ljava/lang/Throwable;"⟩, 6), (⟨"TicketGate", "rowOf", "(I)I"⟩, 8), (⟨"TicketGate", "checkUser", "(I)V"⟩, 8), (⟨"TicketGate", "checkRealm", "(I)V"⟩, 8), (⟨"TicketGate", "checkService", "(I)V"⟩, 8), (⟨"TicketGate", "remember", "()V"⟩, 8), (⟨"TicketGate", "checkPassword", "(I)V"⟩, 8), (⟨"TicketGate", "checkAllowed", "(I)V"⟩, 8)]
theorem lw_r3 : ∀ q ∈ lw_privs_3, lw_okq q := List.forall_mem_cons.mpr ⟨lw_p32, List.forall_mem_cons.mpr ⟨lw_p33, List.forall_mem_cons.mpr ⟨lw_p34, List.forall_mem_cons.mpr ⟨lw_p35, List.forall_mem_cons.mpr ⟨lw_p36, List.forall_mem_cons.mpr ⟨lw_p37, List.forall_mem_cons.mpr ⟨lw_p38, List.forall_mem_cons.mpr ⟨lw_p39, List.forall_mem_cons.mpr ⟨lw_p40, List.forall_mem_cons.mpr ⟨lw_p41, List.forall_mem_cons.mpr ⟨lw_p42, fun _ h => absurd h List.not_mem_nil⟩⟩⟩⟩⟩⟩⟩⟩⟩⟩⟩
def lw_privs : List (MethodName × Nat) := lw_privs_1 ++ (lw_privs_2 ++ (lw_privs_3))
def lw_tbl : List Cond := k2_sels lw_privs ++ tables_1
theorem lw_privs_ok : ∀ q ∈ lw_privs, lw_okq q := by
  show ∀ q ∈ lw_privs_1 ++ (lw_privs_2 ++ (lw_privs_3)), lw_okq q
  exact List.forall_mem_append.mpr ⟨lw_r1, List.forall_mem_append.mpr ⟨lw_r2, lw_r3⟩⟩
-- ===== end of PART A; then your names; then what follows =====
end
section
/-! ===== BEGIN words of one list among another's, by their places ===== -/
theorem goodIn_r {big : List Cond} (ws : List Cond) (ps : List Nat) (hp : ws = ps.filterMap (fun i => big[i]?)) (h : ws.all goodWord = true) : GoodIn big ws := by
  intro w hw
  have h1 := List.all_eq_true.mp h w hw
  rw [hp] at hw
  obtain ⟨i, -, hi⟩ := List.mem_filterMap.mp hw
  have hm : w ∈ big := by first | exact List.mem_of_getElem? hi | exact List.getElem?_mem hi
  exact ⟨hm, good_of_word h1⟩
theorem goodIn_app {big a b : List Cond} (ha : GoodIn big a) (hb : GoodIn big b) : GoodIn big (a ++ b) := fun w h => (List.mem_append.mp h).elim (ha w) (hb w)
theorem goodIn_ca {big a b : List Cond} {c : Cond} (ha : GoodIn big (c :: a)) (hb : GoodIn big b) : GoodIn big (c :: (a ++ b)) := fun w h => (List.mem_cons.mp h).elim (fun e => ha w (List.mem_cons.mpr (Or.inl e))) (fun h => (List.mem_append.mp h).elim (fun h => ha w (List.mem_cons.mpr (Or.inr h))) (hb w))
theorem goodIn_sub {big ws : List Cond} (hm : ∀ w ∈ ws, w ∈ big) (h : ws.all goodWord = true) : GoodIn big ws := fun w hw => ⟨hm w hw, good_of_word (List.all_eq_true.mp h w hw)⟩
/-! ===== END ===== -/

/-! ===== BEGIN exceptions that leave a method, and their catching by the caller (launches without stack traces) ===== -/
section VXA
/-! The laws vx_back, vx_callV, vx_callS, vx_callSW, vx_throw0, vx_throwS follow proofs of the library, with one case more: JvmDerived/Free/Laws.lean (Back.of_free), Shelf42/LK1.lean (callV, callS), Shelf/KitTraced.lean (throwNew0V, throwNewS). -/
/-- where a method has thrown q: the class by its name, the cell, what was written, the world -/
def vx_T (XC : String → State → State → Prop) (st : State) (q : Addr) (t : State) (mc ms : Nat) (free : Addr → Prop) : Prop :=
  ∃ (E : String) (ce : Cell) (L : List Loc), XC E st t ∧ t.heap[q]? = some ce ∧ ce.vm = .none ∧ st.vm.findClass E = some ce.cls ∧ st.WarmedH t.vm ∧ st.sameButNew ({ t with vm := st.vm } : State) L mc ms ∧ ∀ z ∈ L, free z.base
def vx_Q (Qc : Array Value → State → Outcome → State → Prop) (XC : String → State → State → Prop) (mc ms : Nat) (free : Addr → Prop) : Array Value → State → Outcome → State → Prop := fun a st o t =>
  (Qc a st o t ∧ ∃ L, FrameEnd st o t L mc ms ∧ ∀ q ∈ L, free q.base) ∨ ∃ q, o = .threw q ∧ vx_T XC st q t mc ms free
/-- a callee that returns or throws -/
def vx_Met (l : Launch) (y : MethodName) (ws : List Cond) (rm : Room) (Pc : Array Value → State → Prop) (Qc : Array Value → State → Outcome → State → Prop) (XC : String → State → State → Prop) (mc ms : Nat) (free : Addr → Prop) : Prop :=
  MetFree l y (headSpec ws rm) Pc (fun _ _ _ _ _ => True) (vx_Q Qc XC mc ms free)
def vx_Post (XC : String → State → State → Prop) (mc ms : Nat) (free : Addr → Prop) : Pt → Array Value → Addr → Pt → Prop := fun A a q B =>
  ∃ (g : JFrame) (mk : MethodId) (t : State) (L : List Loc) (E : String) (ce : Cell), B.U.heap = t.heap ∧ B.U.vm = t.vm ∧ XC E (A.U.calling g mk a) t ∧ t.heap[q]? = some ce ∧ ce.vm = .none ∧ A.U.vm.findClass E = some ce.cls ∧ B.locs = A.locs ++ L ∧ (∀ z ∈ L, free z.base) ∧ B.cells = A.cells + mc ∧ B.slots = A.slots + ms
def vx_Back (l : Launch) (R : Room) (p : Program) (e : Env) (below : List Frame) (s : State) (sargs : Array Value) (y : MethodName) (len W9 : Nat)
    (Pre : Pt → Array Value → Prop) (Post : Pt → Array Value → Option Value → Pt → Prop) (PostX : Pt → Array Value → Addr → Pt → Prop) : Prop :=
  ∀ (m : MethodId) (meth : Method) (c : Code) (A : Pt) (g : JFrame) (ig : Instr) (mk : MethodId) (a : Array Value),
    Stand p l e R s m sargs below meth c A.U A.locs A.cells A.slots → g.method = m → g.locals.size = c.maxLocals → decode c.code g.pc = .ok (ig, len) →
    2 * g.monitorRoom + (g.stack.map fun v => v.category).sum ≤ W9 → A.U.methodNamed? y = some mk → Pre A a →
    (∃ (v : Option Value) (B : Pt), Stand p l e R s m sargs below meth c B.U B.locs B.cells B.slots ∧ Post A a v B ∧
      Steps p.tables e below (doInvoke e (A.U.setTop g) [] mk a).1 (B.U.setTop { g with pc := g.pc + len, stack := v.toList ++ g.stack })) ∨
    (∃ (q : Addr) (B : Pt), Stand p l e R s m sargs below meth c B.U B.locs B.cells B.slots ∧ PostX A a q B ∧
      Steps p.tables e below (doInvoke e (A.U.setTop g) [] mk a).1 ((B.U.setTop g).pushFrame (.throwing q)))
section Payer
variable {l : Launch} {R : Room} {p : Program} {e : Env} {below : List Frame} {s : State} {sargs : Array Value} {y : MethodName} {len W9 : Nat}
theorem vx_back {ws : List Cond} {rm : Room} {Pc : Array Value → State → Prop} {Qc : Array Value → State → Outcome → State → Prop} {XC : String → State → State → Prop} {mc ms : Nat} {free : Addr → Prop} {bytes : ByteArray} {maxL : Nat} {ret : Option FieldType}
    (hM : vx_Met l y ws rm Pc Qc XC mc ms free) (hblind : FrameBlind Pc) (hrc : rm.cells = mc) (hrs : rm.slots = ms)
    (hframes : rm.frames + 1 ≤ R.frames) (hlocals : W9 + (maxL + 11) + rm.locals ≤ R.locals)
    (hws : ∀ w ∈ ws, ∀ a' U, s.WarmedH U.vm → w.before a' U = true) (hcode : Cond.code y bytes maxL ret ∈ ws) (hinit : ∀ a' U, s.WarmedH U.vm → (Cond.initialized y.cls).before a' U = true) :
    vx_Back l R p e below s sargs y len W9 (PreOf R mc ms Pc) (PostOf Qc mc ms free) (vx_Post XC mc ms free) := by
  intro m meth c A g ig mk a X hg hsize hdg hW hn hp
  have h1 : (headSpec ws rm).pre.before a A.U = true := atoms_intro fun w hw => hws w hw _ _ X.warmed
  have h2 : (Cond.code y bytes maxL ret).before a A.U = true := hws _ hcode _ _ X.warmed
  have h3 : (Cond.initialized y.cls).before a A.U = true := hinit _ _ X.warmed
  have h4 : A.cells + (headSpec ws rm).room.cells ≤ R.cells := by rw [show (headSpec ws rm).room.cells = mc from hrc]; exact hp.1
  have h5 : A.slots + (headSpec ws rm).room.slots ≤ R.slots := by rw [show (headSpec ws rm).room.slots = ms from hrs]; exact hp.2.1
  have hPc : Pc a (A.U.calling g mk a) := hblind _ _ _ _ hp.2.2
  obtain ⟨U, Ls, c0, s0⟩ := A
  dsimp only [Pt.U, Pt.locs, Pt.cells, Pt.slots] at h1 h2 h3 h4 h5 X hn hPc ⊢
  obtain ⟨methY, cY, hmY, hcY, -, hlY, -, -, -, -⟩ := Cond.code_spec hn h2
  obtain ⟨kY, hkY, -⟩ := className_of_methodNamed hn
  have hinitY : kY.init = .initialized := Cond.initialized_spec (findClass_of_methodNamed hn) hkY h3
  have h : At U g.method c below := by rw [hg]; exact X.here
  have hlocals9 : W9 + (maxL + 11) + (headSpec ws rm).room.locals ≤ R.locals := hlocals
  have happ : (headSpec ws rm).appliesLoose y e.platform (U.calling g mk a) = true :=
    Spec.appliesLoose_calling (g := g) h hdg hn hkY hinitY
      (X.room_calling (g := g) (R' := (headSpec ws rm).room) hsize hmY hcY hframes (by rw [hlY]; omega) h4 h5) h1
  obtain ⟨mid, hmid⟩ := h.above
  have hfr : (U.setTop g).frames = (.java g :: mid) ++ below := by rw [State.frames_setTop' g h.top, hmid]; rfl
  obtain ⟨o, s₂, hsteps, -, hend, hq⟩ := Steps.callFree hM p X.admits X.cas X.clock (acts := []) hfr happ hPc trivial
  have hq' : vx_Q Qc XC mc ms free a (U.calling g mk a) o s₂ := hq
  rw [State.frames_setTop' g h.top] at hend
  obtain ⟨g₀, hg0⟩ := Option.isSome_iff_exists.mp h.top
  obtain ⟨r, hr⟩ := State.topJava?_eq_some.mp hg0
  have hr' : (({ U with heap := s₂.heap, slotsUsed := s₂.slotsUsed } : State).setVm s₂.vm).frames = .java g₀ :: r := hr
  rcases hq' with ⟨hqc, L, hfe, hL⟩ | ⟨q, rfl, E, ce, L, hx, hce, hcv, hcl, hW₂, hsm, hL⟩
  · obtain ⟨⟨v, rfl⟩, hW₂, e2, q2, q3, q4, q5, q6⟩ := id hfe
    have e3 : s₂ = ({ (U.calling g mk a).setFrames s₂.frames with heap := s₂.heap, slotsUsed := s₂.slotsUsed } : State).setVm s₂.vm := by
      have : s₂ = ({ s₂ with vm := (U.calling g mk a).vm } : State).setVm s₂.vm := rfl
      rw [e2] at this
      exact this
    obtain ⟨c₂, i₂, len₂, hc₂, hd₂, hf₂⟩ := hend
    have hW' : U.WarmedH s₂.vm := hW₂
    have hcc : c₂ = c := by
      have h1 : s₂.code? g.method = U.code? g.method := by
        rw [State.code?_eq, State.code?_eq, hW'.alike.method?]
      exact Option.some.inj (hc₂.symm.trans (h1.trans h.code))
    subst hcc
    have hlen : len₂ = len := by rw [hdg] at hd₂; cases hd₂; rfl
    subst hlen
    have hs₂ : s₂ = (({ U with heap := s₂.heap, slotsUsed := s₂.slotsUsed } : State).setVm s₂.vm).setTop { g with pc := g.pc + len₂, stack := v.toList ++ g.stack } := by
      refine e3.trans ?_
      rw [hf₂, State.calling_eq h.top, State.setFrames_setFrames, State.setTop_of_frames _ hr', hr]
      rfl
    have hsame : U.sameButNew ({ U with heap := s₂.heap, slotsUsed := s₂.slotsUsed } : State) L mc ms := by
      refine ⟨?_, q2, q3, q4, q5, q6⟩
      obtain ⟨t, ht, -⟩ := State.frames_cons hr
      show ({ U with heap := s₂.heap, slotsUsed := s₂.slotsUsed } : State) = { U.setFrames U.frames with heap := s₂.heap, slotsUsed := s₂.slotsUsed }
      rw [State.setFrames_self ht]
    subst hg
    refine Or.inl ⟨v, ⟨(({ U with heap := s₂.heap, slotsUsed := s₂.slotsUsed } : State).setVm s₂.vm), Ls ++ L, c0 + mc, s0 + ms⟩,
      ⟨X.admits, X.cas, X.clock, X.frames, X.room, X.hears, X.method, X.code, (X.here.setHeapUsed s₂.heap s₂.slotsUsed).setVm hW'.alike, X.tail, State.WarmedH.trans X.warmed hW', X.limits, X.bytes, X.same.trans (hsame.setVm s.vm)⟩,
      ⟨g, mk, s₂, L, rfl, rfl, hqc, rfl, hL, rfl, rfl⟩, ?_⟩
    show Steps p.tables e below _ ((({ U with heap := s₂.heap, slotsUsed := s₂.slotsUsed } : State).setVm s₂.vm).setTop { g with pc := g.pc + len₂, stack := v.toList ++ g.stack })
    rw [← hs₂]
    exact hsteps
  · obtain ⟨e2, q2, q3, q4, q5, q6⟩ := id hsm
    have e3 : s₂ = ({ (U.calling g mk a).setFrames s₂.frames with heap := s₂.heap, slotsUsed := s₂.slotsUsed } : State).setVm s₂.vm := by
      have : s₂ = ({ s₂ with vm := (U.calling g mk a).vm } : State).setVm s₂.vm := rfl
      rw [e2] at this
      exact this
    have hf₂ : s₂.frames = .throwing q :: .java g :: U.frames.tail := hend
    have hW' : U.WarmedH s₂.vm := hW₂
    have hs₂ : s₂ = ((({ U with heap := s₂.heap, slotsUsed := s₂.slotsUsed } : State).setVm s₂.vm).setTop g).pushFrame (.throwing q) := by
      refine e3.trans ?_
      rw [hf₂, State.calling_eq h.top, State.setFrames_setFrames, State.pushFrame, State.frames_setTop _ hr', State.setTop_of_frames _ hr', State.setFrames_setFrames, hr]
      rfl
    have hsame : U.sameButNew ({ U with heap := s₂.heap, slotsUsed := s₂.slotsUsed } : State) L mc ms := by
      refine ⟨?_, q2, q3, q4, q5, q6⟩
      obtain ⟨t, ht, -⟩ := State.frames_cons hr
      show ({ U with heap := s₂.heap, slotsUsed := s₂.slotsUsed } : State) = { U.setFrames U.frames with heap := s₂.heap, slotsUsed := s₂.slotsUsed }
      rw [State.setFrames_self ht]
    subst hg
    refine Or.inr ⟨q, ⟨(({ U with heap := s₂.heap, slotsUsed := s₂.slotsUsed } : State).setVm s₂.vm), Ls ++ L, c0 + mc, s0 + ms⟩,
      ⟨X.admits, X.cas, X.clock, X.frames, X.room, X.hears, X.method, X.code, (X.here.setHeapUsed s₂.heap s₂.slotsUsed).setVm hW'.alike, X.tail, State.WarmedH.trans X.warmed hW', X.limits, X.bytes, X.same.trans (hsame.setVm s.vm)⟩,
      ⟨g, mk, s₂, L, E, ce, rfl, rfl, hx, hce, hcv, hcl, rfl, hL, rfl, rfl⟩, ?_⟩
    show Steps p.tables e below _ (((({ U with heap := s₂.heap, slotsUsed := s₂.slotsUsed } : State).setVm s₂.vm).setTop g).pushFrame (.throwing q))
    rw [← hs₂]
    exact hsteps
end Payer
section Calls
variable {p : Program} {l : Launch} {e : Env} {R : Room} {s : State} {m : MethodId} {args : Array Value} {below : List Frame} {meth : Method} {c : Code} {T : State} {locs : List Loc} {cells slots : Nat}
theorem vx_callV (X : Stand p l e R s m args below meth c T locs cells slots) (hexec : p.tables.exec = Jvm.exec) {own C : String} {index : Nat} {y : MethodName} {bytes : ByteArray} {maxL : Nat} {ret : Option FieldType}
    (hown : s.vm.findClass own = some m.cls) (hlink : (Cond.methodLink own index y).before args s = true) (hinst : (Cond.instanceMethod y).before args s = true) (hsel : (Cond.selects C y y).before args s = true)
    (hcode : (Cond.code y bytes maxL ret).before args s = true) (hy : y.cls ≠ "java/lang/invoke/MethodHandle" ∧ y.cls ≠ "java/lang/invoke/VarHandle")
    {W9 : Nat} {Pre : Pt → Array Value → Prop} {Post : Pt → Array Value → Option Value → Pt → Prop} {PostX : Pt → Array Value → Addr → Pt → Prop} (hK : vx_Back l R p e below s args y 3 W9 Pre Post PostX)
    {b : Addr} {cellB : Cell} (hcell : T.heap[b]? = some cellB) (hobj : cellB.vm.isStatics = false) (hcls : s.vm.findClass C = some cellB.cls)
    {g : JFrame} (hg : g.method = m) (hsize : g.locals.size = c.maxLocals) {argsL rest : List Value} (hlen : ∀ sig, parseMethodDescriptor y.desc = some sig → argsL.length = sig.parameters.length)
    (hstack : g.stack = argsL.reverse ++ .ref b :: rest) (hW : 2 * g.monitorRoom + (rest.map fun v => v.category).sum ≤ W9) (hdg : decode c.code g.pc = .ok (.invokevirtual index, 3))
    (hpre : ∀ vm₁, s.WarmedH vm₁ → Pre ⟨T.setVm vm₁, locs, cells, slots⟩ (Value.ref b :: argsL).toArray) :
    (∃ (v : Option Value) (vm₁ : Vm) (B : Pt), s.WarmedH vm₁ ∧ Stand p l e R s m args below meth c B.U B.locs B.cells B.slots ∧ Post ⟨T.setVm vm₁, locs, cells, slots⟩ (Value.ref b :: argsL).toArray v B ∧
      ∀ target, Steps p.tables e below (B.U.setTop { g with pc := g.pc + 3, stack := v.toList ++ rest }) target → Steps p.tables e below (T.setTop g) target) ∨
    (∃ (q : Addr) (vm₁ : Vm) (B : Pt), s.WarmedH vm₁ ∧ Stand p l e R s m args below meth c B.U B.locs B.cells B.slots ∧ PostX ⟨T.setVm vm₁, locs, cells, slots⟩ (Value.ref b :: argsL).toArray q B ∧
      Steps p.tables e below (T.setTop g) ((B.U.setTop { g with stack := rest }).pushFrame (.throwing q))) := by
  obtain ⟨mk, methM, hnamed, hmethM, hstM, habM⟩ := Cond.instanceMethod_spec hinst
  obtain ⟨methM', cM, hmethM', -, -, -, -, -, -, hsigM⟩ := Cond.code_spec hnamed hcode
  cases hmethM.symm.trans hmethM'
  obtain ⟨c2, r2, m2, q1, q2, q3, q4, kP, hkP, hkPi⟩ := Cond.selects_spec hsel
  cases hcls.symm.trans q1
  cases (State.methodFound?_of_named hnamed hy).symm.trans q2
  cases hnamed.symm.trans q3
  have hselP : selectMethod e.platform s.vm cellB.cls mk = .method mk := by rw [Launch.admits_selectMethod X.admits]; exact q4
  obtain ⟨vm₁, X₁, hstep₁⟩ := X.invokevirtual hexec hown hlink hnamed hmethM hstM hkP hkPi hy (a := b) (cell := cellB) hcell
    (fun z h => by rw [h] at hobj; cases hobj) hselP hmethM habM hkP hkPi (g := g) hg (argsL := argsL) (rest := rest) (hlen _ hsigM) hstack hdg
  rcases hK m meth c ⟨T.setVm vm₁, locs, cells, slots⟩ { g with stack := rest } (.invokevirtual index) mk (Value.ref b :: argsL).toArray X₁ hg hsize hdg hW (X₁.named hnamed) (hpre vm₁ X₁.warmed) with ⟨v, B, X', hpost, hsteps⟩ | ⟨q, B, X', hpost, hsteps⟩
  · exact Or.inl ⟨v, vm₁, B, X₁.warmed, X', hpost, fun target h => hstep₁ _ fun acts => by rw [doInvoke_state]; exact hsteps.trans h⟩
  · exact Or.inr ⟨q, vm₁, B, X₁.warmed, X', hpost, hstep₁ _ fun acts => by rw [doInvoke_state]; exact hsteps⟩
theorem vx_callS (X : Stand p l e R s m args below meth c T locs cells slots) (hexec : p.tables.exec = Jvm.exec) {own : String} {index : Nat} {y : MethodName} {bytes : ByteArray} {maxL : Nat} {ret : Option FieldType}
    (hown : s.vm.findClass own = some m.cls) (hlink : (Cond.methodLink own index y).before args s = true) (hstat : (Cond.static y).before args s = true) (hinit : (Cond.initialized y.cls).before args s = true)
    (hcode : (Cond.code y bytes maxL ret).before args s = true) (hy : y.cls ≠ "java/lang/invoke/MethodHandle" ∧ y.cls ≠ "java/lang/invoke/VarHandle")
    {W9 : Nat} {Pre : Pt → Array Value → Prop} {Post : Pt → Array Value → Option Value → Pt → Prop} {PostX : Pt → Array Value → Addr → Pt → Prop} (hK : vx_Back l R p e below s args y 3 W9 Pre Post PostX)
    {g : JFrame} (hg : g.method = m) (hsize : g.locals.size = c.maxLocals) {argsL rest : List Value} (hlen : ∀ sig, parseMethodDescriptor y.desc = some sig → argsL.length = sig.parameters.length)
    (hstack : g.stack = argsL.reverse ++ rest) (hW : 2 * g.monitorRoom + (rest.map fun v => v.category).sum ≤ W9) (hdg : decode c.code g.pc = .ok (.invokestatic index, 3))
    (hpre : ∀ vm₁, s.WarmedH vm₁ → Pre ⟨T.setVm vm₁, locs, cells, slots⟩ argsL.toArray) :
    (∃ (v : Option Value) (vm₁ : Vm) (B : Pt), s.WarmedH vm₁ ∧ Stand p l e R s m args below meth c B.U B.locs B.cells B.slots ∧ Post ⟨T.setVm vm₁, locs, cells, slots⟩ argsL.toArray v B ∧
      ∀ target, Steps p.tables e below (B.U.setTop { g with pc := g.pc + 3, stack := v.toList ++ rest }) target → Steps p.tables e below (T.setTop g) target) ∨
    (∃ (q : Addr) (vm₁ : Vm) (B : Pt), s.WarmedH vm₁ ∧ Stand p l e R s m args below meth c B.U B.locs B.cells B.slots ∧ PostX ⟨T.setVm vm₁, locs, cells, slots⟩ argsL.toArray q B ∧
      Steps p.tables e below (T.setTop g) ((B.U.setTop { g with stack := rest }).pushFrame (.throwing q))) := by
  obtain ⟨mk, hnamed⟩ := Cond.code_named hcode
  obtain ⟨methM, cM, hmethM, -, -, -, -, -, -, hsigM⟩ := Cond.code_spec hnamed hcode
  have hstatic : methM.isStatic = true := Cond.static_spec hnamed hmethM hstat
  obtain ⟨kP, hkP, -⟩ := className_of_methodNamed hnamed
  have hinitP : kP.init = .initialized := Cond.initialized_spec (findClass_of_methodNamed hnamed) hkP hinit
  obtain ⟨vm₁, X₁, hstep₁⟩ := X.invokestatic hexec hown hlink hnamed hmethM hstatic hkP hinitP hy (g := g) hg (argsL := argsL) (rest := rest) (hlen _ hsigM) hstack hdg
  rcases hK m meth c ⟨T.setVm vm₁, locs, cells, slots⟩ { g with stack := rest } (.invokestatic index) mk argsL.toArray X₁ hg hsize hdg hW (X₁.named hnamed) (hpre vm₁ X₁.warmed) with ⟨v, B, X', hpost, hsteps⟩ | ⟨q, B, X', hpost, hsteps⟩
  · exact Or.inl ⟨v, vm₁, B, X₁.warmed, X', hpost, fun target h => hstep₁ _ fun acts => by rw [doInvoke_state]; exact hsteps.trans h⟩
  · exact Or.inr ⟨q, vm₁, B, X₁.warmed, X', hpost, hstep₁ _ fun acts => by rw [doInvoke_state]; exact hsteps⟩
end Calls
theorem vx_cls {s : State} {T : State} {vm₁ : Vm} {E : String} {k : ClassId} (hW : s.WarmedH vm₁) (h : (T.setVm vm₁).vm.findClass E = some k) : s.vm.findClass E = some k := by
  have h1 : vm₁.findClass E = some k := h
  rw [hW.alike.findClass] at h1
  exact h1
/-- the method's frame g, with q thrown over it -/
def vx_W (p : Program) (l : Launch) (e : Env) (R : Room) (s : State) (m : MethodId) (args : Array Value) (below : List Frame) (meth : Method) (c : Code) (H : Heap) (locs : List Loc) (cells slots : Nat) (Q : State → Prop) (g : JFrame) (q : Addr) : Prop :=
  ∀ T : State, T.heap = H → Stand p l e R s m args below meth c T locs cells slots → ∃ t, Steps p.tables e below ((T.setTop g).pushFrame (.throwing q)) t ∧ Q t
def vx_Run (p : Program) (l : Launch) (e : Env) (R : Room) (s : State) (m : MethodId) (args : Array Value) (below : List Frame) (meth : Method) (c : Code) (H : Heap) (locs : List Loc) (cells slots mc ms : Nat) (g : JFrame) (rest : List Value) (Qa : State → Outcome → State → Prop) (XC : String → State → State → Prop) (free : Addr → Prop) : Prop :=
  ∀ T : State, T.heap = H → Stand p l e R s m args below meth c T locs cells slots →
    (∃ (v : Option Value) (st₀ t T' : State) (L : List Loc), st₀.heap = H ∧ Stand p l e R s m args below meth c T' (locs ++ L) (cells + mc) (slots + ms) ∧ (∀ q ∈ L, free q.base) ∧ T'.heap = t.heap ∧ T'.vm = t.vm ∧ Qa st₀ (.returned v) t ∧
      Goes p e below T g T' { g with pc := g.pc + 3, stack := v.toList ++ rest }) ∨
    (∃ (q : Addr) (st₀ t T' : State) (L : List Loc) (E : String) (ce : Cell), st₀.heap = H ∧ Stand p l e R s m args below meth c T' (locs ++ L) (cells + mc) (slots + ms) ∧ (∀ z ∈ L, free z.base) ∧ T'.heap = t.heap ∧ T'.vm = t.vm ∧ XC E st₀ t ∧ t.heap[q]? = some ce ∧ ce.vm = .none ∧ s.vm.findClass E = some ce.cls ∧
      Steps p.tables e below (T.setTop g) ((T'.setTop { g with stack := rest }).pushFrame (.throwing q)))
def vx_X {S : Type} (px : S → Prop) (B : String → S → State → Prop) (A : Nat → Prop) : String → State → State → Prop := fun E st t => ∃ u : S, px u ∧ B E u t ∧ va_F A st t
section Runs
variable {p : Program} {l : Launch} {e : Env} {R : Room} {s : State} {m : MethodId} {args : Array Value} {below : List Frame} {meth : Method} {c : Code} {H : Heap} {locs : List Loc} {cells slots : Nat}
variable {y : MethodName} {bytes cc : ByteArray} {maxL nL mc ms n index : Nat} {ret : Option FieldType} {ws : List Cond} {rm : Room} {Pc : Array Value → State → Prop} {Qc : Array Value → State → Outcome → State → Prop} {XC : String → State → State → Prop} {free : Addr → Prop} {Ts : List Cond} {own C : String} {b : Addr} {As rest : List Value} {g : JFrame}
theorem vx_callBack (cb : CallB R s args own index y bytes maxL ret ws rm mc ms n) (hM : vx_Met l y ws rm Pc Qc XC mc ms free) (hbl : FrameBlind Pc) : vx_Back l R p e below s args y 3 8 (PreOf R mc ms Pc) (PostOf Qc mc ms free) (vx_Post XC mc ms free) := by
  obtain ⟨hrc, hrs, hfr, hlo, hws, hcw, -, hini, -⟩ := cb
  exact vx_back (bytes := bytes) (maxL := maxL) (ret := ret) hM hbl hrc hrs hfr hlo hws hcw (fun a' U hW => word_at hW (Or.inl (by first | rfl | simp [Cond.onTables, Cond.keeps, Cond.steady])) hini)
theorem vx_runV (S : CallFix p m c cc nL s args Ts own) (hM : vx_Met l y ws rm Pc Qc XC mc ms free) (cw : CallW R s args own C index y bytes maxL ret ws rm mc ms n) (hp : PreV s H C b Pc As)
    (hg : g.method = m) (hn : As.length = n) (hsize : g.locals.size = nL) (hstack : g.stack = As.reverse ++ .ref b :: rest) (hW : 2 * g.monitorRoom + (rest.map fun v => v.category).sum ≤ 8) (hdg : decode cc g.pc = .ok (.invokevirtual index, 3)) (hf : cells + mc ≤ R.cells ∧ slots + ms ≤ R.slots) :
    vx_Run p l e R s m args below meth c H locs cells slots mc ms g rest (Qc (Value.ref b :: As).toArray) XC free := by
  have hK : vx_Back l R p e below s args y 3 8 (PreOf R mc ms Pc) (PostOf Qc mc ms free) (vx_Post XC mc ms free) := vx_callBack cw.1 hM hp.1
  obtain ⟨⟨-, -, -, -, -, -, hcode, -, hy, hlen, hl⟩, hin, hse⟩ := cw
  obtain ⟨hx, hb, hml, ho, -⟩ := S
  obtain ⟨-, ⟨cellB, hcB, hoB, hclB⟩, hPc⟩ := hp
  intro T hT X
  rcases vx_callV X hx (C := C) (bytes := bytes) (maxL := maxL) (ret := ret) ho hl hin hse hcode hy hK (by rw [hT]; exact hcB) hoB hclB hg (hsize.trans hml.symm) (argsL := As) (rest := rest) (fun sig h => hn.trans (hlen sig h)) hstack hW (by rw [hb]; exact hdg)
    (fun vm₁ hW₁ => ⟨hf.1, hf.2, hPc (T.setVm vm₁) hT hW₁⟩) with ⟨v, vm₁, ⟨U', l2, c2, s2⟩, hW₁, X', ⟨g', mk, t, L, e1, e2, hq, h1, hL, h2, h3⟩, st⟩ | ⟨q, vm₁, ⟨U', l2, c2, s2⟩, hW₁, X', ⟨g', mk, t, L, E, ce, e1, e2, hq, hce, hcv, hcl, h1, hL, h2, h3⟩, st⟩
  · dsimp only [Pt.U, Pt.locs, Pt.cells, Pt.slots] at X' e1 e2 h1 h2 h3 st
    subst h1; subst h2; subst h3
    exact Or.inl ⟨v, (T.setVm vm₁).calling g' mk (Value.ref b :: As).toArray, t, U', L, hT, X', hL, e1, e2, hq, st⟩
  · dsimp only [Pt.U, Pt.locs, Pt.cells, Pt.slots] at X' e1 e2 h1 h2 h3 st hcl
    subst h1; subst h2; subst h3
    exact Or.inr ⟨q, (T.setVm vm₁).calling g' mk (Value.ref b :: As).toArray, t, U', L, E, ce, hT, X', hL, e1, e2, hq, hce, hcv, vx_cls hW₁ hcl, st⟩
theorem vx_runS (S : CallFix p m c cc nL s args Ts own) (hM : vx_Met l y ws rm Pc Qc XC mc ms free) (cw : CallB R s args own index y bytes maxL ret ws rm mc ms n ∧ (Cond.static y).before args s = true) (hp : PreS s H Pc As)
    (hg : g.method = m) (hn : As.length = n) (hsize : g.locals.size = nL) (hstack : g.stack = As.reverse ++ rest) (hW : 2 * g.monitorRoom + (rest.map fun v => v.category).sum ≤ 8) (hdg : decode cc g.pc = .ok (.invokestatic index, 3)) (hf : cells + mc ≤ R.cells ∧ slots + ms ≤ R.slots) :
    vx_Run p l e R s m args below meth c H locs cells slots mc ms g rest (Qc As.toArray) XC free := by
  have hK : vx_Back l R p e below s args y 3 8 (PreOf R mc ms Pc) (PostOf Qc mc ms free) (vx_Post XC mc ms free) := vx_callBack cw.1 hM hp.1
  obtain ⟨⟨-, -, -, -, -, -, hcode, hini, hy, hlen, hl⟩, hstt⟩ := cw
  obtain ⟨hx, hb, hml, ho, -⟩ := S
  intro T hT X
  rcases vx_callS X hx (bytes := bytes) (maxL := maxL) (ret := ret) ho hl hstt hini hcode hy hK hg (hsize.trans hml.symm) (argsL := As) (rest := rest) (fun sig h => hn.trans (hlen sig h)) hstack hW (by rw [hb]; exact hdg)
    (fun vm₁ hW₁ => ⟨hf.1, hf.2, hp.2 (T.setVm vm₁) hT hW₁⟩) with ⟨v, vm₁, ⟨U', l2, c2, s2⟩, hW₁, X', ⟨g', mk, t, L, e1, e2, hq, h1, hL, h2, h3⟩, st⟩ | ⟨q, vm₁, ⟨U', l2, c2, s2⟩, hW₁, X', ⟨g', mk, t, L, E, ce, e1, e2, hq, hce, hcv, hcl, h1, hL, h2, h3⟩, st⟩
  · dsimp only [Pt.U, Pt.locs, Pt.cells, Pt.slots] at X' e1 e2 h1 h2 h3 st
    subst h1; subst h2; subst h3
    exact Or.inl ⟨v, (T.setVm vm₁).calling g' mk As.toArray, t, U', L, hT, X', hL, e1, e2, hq, st⟩
  · dsimp only [Pt.U, Pt.locs, Pt.cells, Pt.slots] at X' e1 e2 h1 h2 h3 st hcl
    subst h1; subst h2; subst h3
    exact Or.inr ⟨q, (T.setVm vm₁).calling g' mk As.toArray, t, U', L, E, ce, hT, X', hL, e1, e2, hq, hce, hcv, vx_cls hW₁ hcl, st⟩
end Runs
section Rows
variable {p : Program} {l : Launch} {e : Env} {R : Room} {s : State} {m : MethodId} {args : Array Value} {below : List Frame} {meth : Method} {c : Code} {H : Heap} {locs : List Loc} {cells slots : Nat} {Q : State → Prop}
variable {mc ms : Nat} {free : Addr → Prop} {A0 A1 : Nat → Prop} {H0 : Heap} {a : Array Value} {pc : Nat} {ls : Array Slot} {st0 rest : List Value}
theorem vx_keep {st₀ t T' : State} {L : List Loc} (h0 : st₀.heap = H) (e1 : T'.heap = t.heap) (hS : va_S A0 H0 H locs) (hA : ∀ q, q < H.size → A1 q → A0 q) (hf : ∀ q, free q → A0 q) (hL : ∀ q ∈ L, free q.base) (hF : va_F A1 st₀ t) :
    H.size ≤ T'.heap.size ∧ (∀ q : Nat, q < H.size → ¬ A1 q → T'.heap[q]? = H[q]?) ∧ va_S A0 H0 T'.heap (locs ++ L) := by
  obtain ⟨hz, hk⟩ := hF
  rw [h0] at hz hk
  exact ⟨by rw [e1]; exact hz, fun q h1 h2 => by rw [e1]; exact hk q h1 h2,
    ⟨Nat.le_trans hS.1 (by rw [e1]; exact hz), fun q h1 h2 => by rw [e1, hk q (Nat.lt_of_lt_of_le h1 hS.1) (fun z => h2 (hA q (Nat.lt_of_lt_of_le h1 hS.1) z))]; exact hS.2.1 q h1 h2, fun q hq => by
      rcases List.mem_append.mp hq with h | h
      · exact hS.2.2 q h
      · exact hf _ (hL q h)⟩⟩
theorem vx_calli {S SX : Type} {post : Int32 → S → Prop} {px : SX → Prop} {B : S → State → Prop} {BX : String → SX → State → Prop} {AX : Nat → Prop} (hr : vx_Run p l e R s m args below meth c H locs cells slots mc ms (F0 m pc ls st0) rest (va_Qi post B A1 a) (vx_X px BX AX) free) (hS : va_S A0 H0 H locs) (hA : ∀ q, q < H.size → A1 q → A0 q) (hf : ∀ q, free q → A0 q) (hAX : ∀ q, q < H.size → AX q → A0 q)
    (kx : ∀ (E : String) (ce : Cell) (q9 : Addr) (u : SX) (t : State) (H1 : Heap) (locs1 : List Loc), t.heap = H1 → s.vm.Alike t.vm → px u → BX E u t → H.size ≤ H1.size → (∀ q : Nat, q < H.size → ¬ AX q → H1[q]? = H[q]?) → va_S A0 H0 H1 locs1 → H1[q9]? = some ce → ce.vm = .none → s.vm.findClass E = some ce.cls → vx_W p l e R s m args below meth c H1 locs1 (cells + mc) (slots + ms) Q (F0 m pc ls rest) q9)
    (kk : ∀ (r : Int32) (u : S) (t : State) (H1 : Heap) (locs1 : List Loc), t.heap = H1 → s.vm.Alike t.vm → post r u → B u t → H.size ≤ H1.size → (∀ q : Nat, q < H.size → ¬ A1 q → H1[q]? = H[q]?) → va_S A0 H0 H1 locs1 → W p l e R s m args below meth c H1 locs1 (cells + mc) (slots + ms) Q (F0 m (pc + 3) ls (.int r :: rest))) : W p l e R s m args below meth c H locs cells slots Q (F0 m pc ls st0) := by
  intro T hT X
  rcases hr T hT X with ⟨v, st₀, t, T', L, h0, X', hL, e1, e2, ⟨⟨r, u, hv, hp, hb⟩, hF⟩, st⟩ | ⟨q, st₀, t, T', L, E, ce, h0, X', hL, e1, e2, ⟨u, hp, hb, hF⟩, hce, hcv, hcl, st⟩
  · cases hv
    obtain ⟨k1, k2, k3⟩ := vx_keep h0 e1 hS hA hf hL hF
    obtain ⟨t2, a1, b1⟩ := kk r u t T'.heap (locs ++ L) e1.symm (by rw [← e2]; exact X'.warmed.alike) hp hb k1 k2 k3 T' rfl X'
    exact ⟨t2, st t2 a1, b1⟩
  · obtain ⟨k1, k2, k3⟩ := vx_keep h0 e1 hS hAX hf hL hF
    obtain ⟨t2, a1, b1⟩ := kx E ce q u t T'.heap (locs ++ L) e1.symm (by rw [← e2]; exact X'.warmed.alike) hp hb k1 k2 k3 (by rw [e1]; exact hce) hcv hcl T' rfl X'
    exact ⟨t2, st.trans a1, b1⟩
theorem vx_calll {S SX : Type} {post : Int64 → S → Prop} {px : SX → Prop} {B : S → State → Prop} {BX : String → SX → State → Prop} {AX : Nat → Prop} (hr : vx_Run p l e R s m args below meth c H locs cells slots mc ms (F0 m pc ls st0) rest (va_Ql post B A1 a) (vx_X px BX AX) free) (hS : va_S A0 H0 H locs) (hA : ∀ q, q < H.size → A1 q → A0 q) (hf : ∀ q, free q → A0 q) (hAX : ∀ q, q < H.size → AX q → A0 q)
    (kx : ∀ (E : String) (ce : Cell) (q9 : Addr) (u : SX) (t : State) (H1 : Heap) (locs1 : List Loc), t.heap = H1 → s.vm.Alike t.vm → px u → BX E u t → H.size ≤ H1.size → (∀ q : Nat, q < H.size → ¬ AX q → H1[q]? = H[q]?) → va_S A0 H0 H1 locs1 → H1[q9]? = some ce → ce.vm = .none → s.vm.findClass E = some ce.cls → vx_W p l e R s m args below meth c H1 locs1 (cells + mc) (slots + ms) Q (F0 m pc ls rest) q9)
    (kk : ∀ (r : Int64) (u : S) (t : State) (H1 : Heap) (locs1 : List Loc), t.heap = H1 → s.vm.Alike t.vm → post r u → B u t → H.size ≤ H1.size → (∀ q : Nat, q < H.size → ¬ A1 q → H1[q]? = H[q]?) → va_S A0 H0 H1 locs1 → W p l e R s m args below meth c H1 locs1 (cells + mc) (slots + ms) Q (F0 m (pc + 3) ls (.long r :: rest))) : W p l e R s m args below meth c H locs cells slots Q (F0 m pc ls st0) := by
  intro T hT X
  rcases hr T hT X with ⟨v, st₀, t, T', L, h0, X', hL, e1, e2, ⟨⟨r, u, hv, hp, hb⟩, hF⟩, st⟩ | ⟨q, st₀, t, T', L, E, ce, h0, X', hL, e1, e2, ⟨u, hp, hb, hF⟩, hce, hcv, hcl, st⟩
  · cases hv
    obtain ⟨k1, k2, k3⟩ := vx_keep h0 e1 hS hA hf hL hF
    obtain ⟨t2, a1, b1⟩ := kk r u t T'.heap (locs ++ L) e1.symm (by rw [← e2]; exact X'.warmed.alike) hp hb k1 k2 k3 T' rfl X'
    exact ⟨t2, st t2 a1, b1⟩
  · obtain ⟨k1, k2, k3⟩ := vx_keep h0 e1 hS hAX hf hL hF
    obtain ⟨t2, a1, b1⟩ := kx E ce q u t T'.heap (locs ++ L) e1.symm (by rw [← e2]; exact X'.warmed.alike) hp hb k1 k2 k3 (by rw [e1]; exact hce) hcv hcl T' rfl X'
    exact ⟨t2, st.trans a1, b1⟩
theorem vx_callf {S SX : Type} {post : UInt32 → S → Prop} {px : SX → Prop} {B : S → State → Prop} {BX : String → SX → State → Prop} {AX : Nat → Prop} (hr : vx_Run p l e R s m args below meth c H locs cells slots mc ms (F0 m pc ls st0) rest (va_Qf post B A1 a) (vx_X px BX AX) free) (hS : va_S A0 H0 H locs) (hA : ∀ q, q < H.size → A1 q → A0 q) (hf : ∀ q, free q → A0 q) (hAX : ∀ q, q < H.size → AX q → A0 q)
    (kx : ∀ (E : String) (ce : Cell) (q9 : Addr) (u : SX) (t : State) (H1 : Heap) (locs1 : List Loc), t.heap = H1 → s.vm.Alike t.vm → px u → BX E u t → H.size ≤ H1.size → (∀ q : Nat, q < H.size → ¬ AX q → H1[q]? = H[q]?) → va_S A0 H0 H1 locs1 → H1[q9]? = some ce → ce.vm = .none → s.vm.findClass E = some ce.cls → vx_W p l e R s m args below meth c H1 locs1 (cells + mc) (slots + ms) Q (F0 m pc ls rest) q9)
    (kk : ∀ (r : UInt32) (u : S) (t : State) (H1 : Heap) (locs1 : List Loc), t.heap = H1 → s.vm.Alike t.vm → post r u → B u t → H.size ≤ H1.size → (∀ q : Nat, q < H.size → ¬ A1 q → H1[q]? = H[q]?) → va_S A0 H0 H1 locs1 → W p l e R s m args below meth c H1 locs1 (cells + mc) (slots + ms) Q (F0 m (pc + 3) ls (.float r :: rest))) : W p l e R s m args below meth c H locs cells slots Q (F0 m pc ls st0) := by
  intro T hT X
  rcases hr T hT X with ⟨v, st₀, t, T', L, h0, X', hL, e1, e2, ⟨⟨r, u, hv, hp, hb⟩, hF⟩, st⟩ | ⟨q, st₀, t, T', L, E, ce, h0, X', hL, e1, e2, ⟨u, hp, hb, hF⟩, hce, hcv, hcl, st⟩
  · cases hv
    obtain ⟨k1, k2, k3⟩ := vx_keep h0 e1 hS hA hf hL hF
    obtain ⟨t2, a1, b1⟩ := kk r u t T'.heap (locs ++ L) e1.symm (by rw [← e2]; exact X'.warmed.alike) hp hb k1 k2 k3 T' rfl X'
    exact ⟨t2, st t2 a1, b1⟩
  · obtain ⟨k1, k2, k3⟩ := vx_keep h0 e1 hS hAX hf hL hF
    obtain ⟨t2, a1, b1⟩ := kx E ce q u t T'.heap (locs ++ L) e1.symm (by rw [← e2]; exact X'.warmed.alike) hp hb k1 k2 k3 (by rw [e1]; exact hce) hcv hcl T' rfl X'
    exact ⟨t2, st.trans a1, b1⟩
theorem vx_calld {S SX : Type} {post : UInt64 → S → Prop} {px : SX → Prop} {B : S → State → Prop} {BX : String → SX → State → Prop} {AX : Nat → Prop} (hr : vx_Run p l e R s m args below meth c H locs cells slots mc ms (F0 m pc ls st0) rest (va_Qd post B A1 a) (vx_X px BX AX) free) (hS : va_S A0 H0 H locs) (hA : ∀ q, q < H.size → A1 q → A0 q) (hf : ∀ q, free q → A0 q) (hAX : ∀ q, q < H.size → AX q → A0 q)
    (kx : ∀ (E : String) (ce : Cell) (q9 : Addr) (u : SX) (t : State) (H1 : Heap) (locs1 : List Loc), t.heap = H1 → s.vm.Alike t.vm → px u → BX E u t → H.size ≤ H1.size → (∀ q : Nat, q < H.size → ¬ AX q → H1[q]? = H[q]?) → va_S A0 H0 H1 locs1 → H1[q9]? = some ce → ce.vm = .none → s.vm.findClass E = some ce.cls → vx_W p l e R s m args below meth c H1 locs1 (cells + mc) (slots + ms) Q (F0 m pc ls rest) q9)
    (kk : ∀ (r : UInt64) (u : S) (t : State) (H1 : Heap) (locs1 : List Loc), t.heap = H1 → s.vm.Alike t.vm → post r u → B u t → H.size ≤ H1.size → (∀ q : Nat, q < H.size → ¬ A1 q → H1[q]? = H[q]?) → va_S A0 H0 H1 locs1 → W p l e R s m args below meth c H1 locs1 (cells + mc) (slots + ms) Q (F0 m (pc + 3) ls (.double r :: rest))) : W p l e R s m args below meth c H locs cells slots Q (F0 m pc ls st0) := by
  intro T hT X
  rcases hr T hT X with ⟨v, st₀, t, T', L, h0, X', hL, e1, e2, ⟨⟨r, u, hv, hp, hb⟩, hF⟩, st⟩ | ⟨q, st₀, t, T', L, E, ce, h0, X', hL, e1, e2, ⟨u, hp, hb, hF⟩, hce, hcv, hcl, st⟩
  · cases hv
    obtain ⟨k1, k2, k3⟩ := vx_keep h0 e1 hS hA hf hL hF
    obtain ⟨t2, a1, b1⟩ := kk r u t T'.heap (locs ++ L) e1.symm (by rw [← e2]; exact X'.warmed.alike) hp hb k1 k2 k3 T' rfl X'
    exact ⟨t2, st t2 a1, b1⟩
  · obtain ⟨k1, k2, k3⟩ := vx_keep h0 e1 hS hAX hf hL hF
    obtain ⟨t2, a1, b1⟩ := kx E ce q u t T'.heap (locs ++ L) e1.symm (by rw [← e2]; exact X'.warmed.alike) hp hb k1 k2 k3 (by rw [e1]; exact hce) hcv hcl T' rfl X'
    exact ⟨t2, st.trans a1, b1⟩
theorem vx_callv {S SX : Type} {post : S → Prop} {px : SX → Prop} {B : S → State → Prop} {BX : String → SX → State → Prop} {AX : Nat → Prop} (hr : vx_Run p l e R s m args below meth c H locs cells slots mc ms (F0 m pc ls st0) rest (va_Qv post B A1 a) (vx_X px BX AX) free) (hS : va_S A0 H0 H locs) (hA : ∀ q, q < H.size → A1 q → A0 q) (hf : ∀ q, free q → A0 q) (hAX : ∀ q, q < H.size → AX q → A0 q)
    (kx : ∀ (E : String) (ce : Cell) (q9 : Addr) (u : SX) (t : State) (H1 : Heap) (locs1 : List Loc), t.heap = H1 → s.vm.Alike t.vm → px u → BX E u t → H.size ≤ H1.size → (∀ q : Nat, q < H.size → ¬ AX q → H1[q]? = H[q]?) → va_S A0 H0 H1 locs1 → H1[q9]? = some ce → ce.vm = .none → s.vm.findClass E = some ce.cls → vx_W p l e R s m args below meth c H1 locs1 (cells + mc) (slots + ms) Q (F0 m pc ls rest) q9)
    (kk : ∀ (u : S) (t : State) (H1 : Heap) (locs1 : List Loc), t.heap = H1 → s.vm.Alike t.vm → post u → B u t → H.size ≤ H1.size → (∀ q : Nat, q < H.size → ¬ A1 q → H1[q]? = H[q]?) → va_S A0 H0 H1 locs1 → W p l e R s m args below meth c H1 locs1 (cells + mc) (slots + ms) Q (F0 m (pc + 3) ls (rest))) : W p l e R s m args below meth c H locs cells slots Q (F0 m pc ls st0) := by
  intro T hT X
  rcases hr T hT X with ⟨v, st₀, t, T', L, h0, X', hL, e1, e2, ⟨⟨u, hv, hp, hb⟩, hF⟩, st⟩ | ⟨q, st₀, t, T', L, E, ce, h0, X', hL, e1, e2, ⟨u, hp, hb, hF⟩, hce, hcv, hcl, st⟩
  · cases hv
    obtain ⟨k1, k2, k3⟩ := vx_keep h0 e1 hS hA hf hL hF
    obtain ⟨t2, a1, b1⟩ := kk u t T'.heap (locs ++ L) e1.symm (by rw [← e2]; exact X'.warmed.alike) hp hb k1 k2 k3 T' rfl X'
    exact ⟨t2, st t2 a1, b1⟩
  · obtain ⟨k1, k2, k3⟩ := vx_keep h0 e1 hS hAX hf hL hF
    obtain ⟨t2, a1, b1⟩ := kx E ce q u t T'.heap (locs ++ L) e1.symm (by rw [← e2]; exact X'.warmed.alike) hp hb k1 k2 k3 (by rw [e1]; exact hce) hcv hcl T' rfl X'
    exact ⟨t2, st.trans a1, b1⟩
/-- caught by the row x of this method's table; the rows ahead don't take it -/
theorem vx_catch {own name : String} {E : String} {ce : Cell} {q : Addr} (hown : s.vm.findClass own = some m.cls) (pre : List ExceptionTableEntry) (x : ExceptionTableEntry) (suf : List ExceptionTableEntry) (hsplit : c.exceptionTable.toList = pre ++ x :: suf)
    (hpass : ∀ z ∈ pre, covers z pc = false ∨ (z.catchType ≠ 0 ∧ ∃ nm : String, (Cond.classLink own z.catchType nm).before args s = true ∧ va_Nc E nm s)) (hx : covers x pc = true) (h0 : x.catchType ≠ 0)
    (hlink : (Cond.classLink own x.catchType name).before args s = true) (hcast : (Cond.castable E name).before args s = true) (hcell : H[q]? = some ce) (hv : ce.vm = .none) (hcl : s.vm.findClass E = some ce.cls)
    (kk : W p l e R s m args below meth c H locs cells slots Q (F0 m x.handlerPc ls [.ref q])) : vx_W p l e R s m args below meth c H locs cells slots Q (F0 m pc ls rest) q := by
  intro T hT X
  have hpl : e.platform.magicAccessors = ({} : Platform).magicAccessors := by rw [X.admits.platform]
  obtain ⟨c3, c4, hc3, hc4, hasg⟩ := Cond.castable_spec hcast
  cases Option.some.inj (hc3.symm.trans hcl)
  obtain ⟨c5, hc5, hcl5⟩ := Cond.classLink_spec hown hlink e.platform hpl
  cases Option.some.inj (hc4.symm.trans hc5)
  obtain ⟨vm', X', st⟩ := X.thenCaughtThrough q (g := F0 m pc ls rest) rfl (Steps.refl _) (by rw [hT]; exact hcell) (by rw [hv]; rfl) (by obtain ⟨k9, h9, -⟩ := Vm.findClass_spec hcl; exact ⟨k9, h9⟩) pre x suf hsplit
    (fun z hz => by
      rcases hpass z hz with h | ⟨hz0, nm, hl1, hn1⟩
      · exact Or.inl h
      · obtain ⟨c6, hc6, hcl6⟩ := Cond.classLink_spec hown hl1 e.platform hpl
        obtain ⟨a8, b8, h1, h2, h3⟩ := hn1
        cases Option.some.inj (h1.symm.trans hcl)
        cases Option.some.inj (h2.symm.trans hc6)
        exact Or.inr ⟨hz0, _, hcl6, h3⟩) hx (Or.inr ⟨h0, c4, hcl5, hasg⟩)
  obtain ⟨t, a1, b1⟩ := kk (T.setVm vm') hT X'
  exact ⟨t, st.trans a1, b1⟩
end Rows
section Ends
variable {p : Program} {l : Launch} {e : Env} {R : Room} {s : State} {m : MethodId} {args : Array Value} {below : List Frame} {meth : Method} {c : Code} {H : Heap} {locs : List Loc} {cells slots : Nat} {Q : State → Prop}
variable {mc ms : Nat} {free : Addr → Prop} {A0 A1 : Nat → Prop} {H0 : Heap} {a : Array Value} {ls : Array Slot} {st0 rest : List Value}
variable {Qc : Array Value → State → Outcome → State → Prop} {XC : String → State → State → Prop}
/-- what a body that may throw owes at its end -/
def vx_MQ (below : List Frame) (Qc : Array Value → State → Outcome → State → Prop) (XC : String → State → State → Prop) (a : Array Value) (s : State) (mc ms : Nat) (free : Addr → Prop) : State → Prop := fun t =>
  ∃ o, t.status = .running ∧ Ended t below o ∧ vx_Q Qc XC mc ms free a s o t
theorem vx_ret {g : JFrame} {mc ms : Nat} (k : W p l e R s m args below meth c H locs cells slots (MQ below Qc args s mc ms free) g) : W p l e R s m args below meth c H locs cells slots (vx_MQ below Qc XC args s mc ms free) g := by
  intro T hT X
  obtain ⟨t, a1, o, b1, b2, b3, b4⟩ := k T hT X
  exact ⟨t, a1, o, b1, b2, Or.inl ⟨b3, b4⟩⟩
/-- not caught here: it goes on to the caller -/
theorem vx_widen {g : JFrame} {q : Addr} {k n : Nat} (h1 : cells ≤ k) (h2 : slots ≤ n) (kk : vx_W p l e R s m args below meth c H locs k n Q g q) : vx_W p l e R s m args below meth c H locs cells slots Q g q := fun T hT X => kk T hT (stand_widen X h1 h2)
theorem vx_out {pc : Nat} {E : String} {ce : Cell} {q : Addr} {mc ms : Nat} (hout : ∀ x ∈ c.exceptionTable.toList, covers x pc = false) (hlocks : meth.locks = false) (hcell : H[q]? = some ce) (hv : ce.vm = .none) (hcl : s.vm.findClass E = some ce.cls)
    (hx : ∀ t : State, t.heap = H → s.vm.Alike t.vm → XC E s t) (hf : ∀ z ∈ locs, free z.base) (hc : cells ≤ mc) (hs : slots ≤ ms) :
    vx_W p l e R s m args below meth c H locs cells slots (vx_MQ below Qc XC args s mc ms free) (F0 m pc ls rest) q := by
  intro T hT X
  obtain ⟨st1, hrun, hend, hW, hsm⟩ := X.leaveThrown q (g := F0 m pc ls rest) rfl rfl rfl hout hlocks
  have hcell9 : (T.setFrames (.throwing q :: below)).heap[q]? = some ce := by
    show T.heap[q]? = some ce
    rw [hT]; exact hcell
  exact ⟨_, st1, .threw q, hrun, hend, Or.inr ⟨q, rfl, E, ce, locs, hx _ hT hW.alike, hcell9, hv, hcl, hW, hsm.mono hc hs, hf⟩⟩
theorem vx_frame {U : State} {k n : Nat} (h : s.sameButNew ({ U with vm := s.vm } : State) locs k n) : s.heap.size ≤ U.heap.size ∧ ∀ q : Nat, q < s.heap.size → (∀ z ∈ locs, z.base ≠ q) → U.heap[q]? = s.heap[q]? := by
  obtain ⟨-, h2, -, -, -, h6⟩ := h
  refine ⟨h2, fun q hq hz => ?_⟩
  obtain ⟨c9, e1, e2, e3, e4⟩ := h6 q _ (Array.getElem?_eq_getElem hq)
  have hs : c9.slots = (s.heap[q]).slots := Array.ext_getElem? fun i => e4 i fun hm => hz _ hm rfl
  have h9 : c9 = s.heap[q] := by
    rw [hs] at e2
    exact e2
  have e5 : U.heap[q]? = some c9 := e1
  rw [e5, h9, Array.getElem?_eq_getElem hq]
/-- the words of a throw but the four that speak of the heap -/
def vx_no (w : Cond) : Bool := decide (w ≠ .isRef (.static Bundle.tN "UNASSIGNED_STACK" Bundle.steD)) && decide (w ≠ .isRef (.static Bundle.tN "SUPPRESSED_SENTINEL" Bundle.listD)) && decide (w ≠ .laysStatic Bundle.tN "UNASSIGNED_STACK" Bundle.steD) && decide (w ≠ .laysStatic Bundle.tN "SUPPRESSED_SENTINEL" Bundle.listD)
def vx_at0 (own : String) (ic : Nat) (X : String) (names : List String) : List Cond := (Bundle.ownAtoms0 own ic X names).filter vx_no
def vx_atS (own : String) (ic : Nat) (X : String) (names : List String) : List Cond := (Bundle.ownAtoms own ic X names).filter vx_no
/-- a word that the tables alone decide, or a good one -/
def vx_ot (w : Cond) : Bool := w.onTables || goodWord w
theorem vx_ot_at {args a' : Array Value} {s U : State} {w : Cond} (hW : s.WarmedH U.vm) (hvm : s.vm = U.vm) (hg : vx_ot w = true) (h : w.before args s = true) : w.before a' U = true := by
  simp only [vx_ot, Bool.or_eq_true] at hg
  rcases hg with hg | hg
  · exact va_tabs hg hvm h
  · exact word_at hW (good_of_word hg) h
/-- a list's words: the good ones out of the method's own list, the others by premises of their own -/
theorem vx_hat {args : Array Value} {s : State} {L B : List Cond} (h1 : ∀ w ∈ L.filter goodWord, w.before args s = true) (h2 : ∀ w ∈ L.filter (fun w => !goodWord w), w ∈ B) (h3 : ∀ w ∈ B, w.before args s = true) : ∀ w ∈ L, w.before args s = true := by
  intro w hw
  by_cases g : goodWord w = true
  · exact h1 w (List.mem_filter.mpr ⟨hw, g⟩)
  · refine h3 w (h2 w (List.mem_filter.mpr ⟨hw, ?_⟩))
    show (!goodWord w) = true
    cases hgw : goodWord w
    · rfl
    · exact absurd hgw g
theorem vx_c {args : Array Value} {s : State} {w : Cond} {B : List Cond} (h : w.before args s = true) (t : ∀ w ∈ B, w.before args s = true) : ∀ w' ∈ w :: B, w'.before args s = true := fun w' h' => (List.mem_cons.mp h').elim (fun e => by rw [e]; exact h) (t w')
theorem vx_n {args : Array Value} {s : State} : ∀ w ∈ ([] : List Cond), w.before args s = true := fun _ h => nomatch h
theorem vx_own {args : Array Value} {s : State} {L : List Cond} (h1 : ∀ w ∈ L.filter vx_no, w.before args s = true)
    (hU : (Cond.isRef (.static Bundle.tN "UNASSIGNED_STACK" Bundle.steD)).before args s = true) (hN : (Cond.isRef (.static Bundle.tN "SUPPRESSED_SENTINEL" Bundle.listD)).before args s = true)
    (lU : (Cond.laysStatic Bundle.tN "UNASSIGNED_STACK" Bundle.steD).before args s = true) (lN : (Cond.laysStatic Bundle.tN "SUPPRESSED_SENTINEL" Bundle.listD).before args s = true) : ∀ w ∈ L, w.before args s = true := by
  intro w hw
  by_cases e1 : w = .isRef (.static Bundle.tN "UNASSIGNED_STACK" Bundle.steD)
  · rw [e1]; exact hU
  · by_cases e2 : w = .isRef (.static Bundle.tN "SUPPRESSED_SENTINEL" Bundle.listD)
    · rw [e2]; exact hN
    · by_cases e3 : w = .laysStatic Bundle.tN "UNASSIGNED_STACK" Bundle.steD
      · rw [e3]; exact lU
      · by_cases e4 : w = .laysStatic Bundle.tN "SUPPRESSED_SENTINEL" Bundle.listD
        · rw [e4]; exact lN
        · exact h1 w (List.mem_filter.mpr ⟨hw, by unfold vx_no; rw [decide_eq_true e1, decide_eq_true e2, decide_eq_true e3, decide_eq_true e4]; rfl⟩)
/-- where a static field lies, its class's statics cell in H -/
def vx_L (C n d : String) (A : Nat → Prop) (U : State) (H : Heap) : Prop := ∃ (c : ClassId) (k : Class) (i : Nat) (f : Field) (a : Nat) (cell : Cell), U.vm.findClass C = some c ∧ U.fieldFound? C n d = some (c, k, i, f) ∧ f.isStatic = true ∧ k.statics = some a ∧ H[a]? = some cell ∧ cell.vm.isStatics = true ∧ cell.cls = c ∧ f.slot < cell.slots.size ∧ k.staticTypes[f.slot]? = some f.type ∧ ¬ A a
theorem vx_L.moved {C n d : String} {A : Nat → Prop} {u U : State} {H : Heap} (hvm : u.vm.Alike U.vm) (h : vx_L C n d A u H) : vx_L C n d A U H := by
  obtain ⟨c, k, i, f, a, cell, h1, h2, h3, h4, h5, h6, h7, h8, h9, h10⟩ := h
  obtain ⟨k', hi', he⟩ := State.fieldFound?_setVm hvm h2
  exact ⟨c, k', i, f, a, cell, by rw [hvm.findClass]; exact h1, hi', h3, by rw [he]; exact h4, h5, h6, h7, h8, by rw [he]; exact h9, h10⟩
theorem vx_L.kept {C n d : String} {A : Nat → Prop} {U : State} {H H1 : Heap} (h : vx_L C n d A U H) (hq : ∀ a : Nat, a < H.size → ¬ A a → H1[a]? = H[a]?) : vx_L C n d A U H1 := by
  obtain ⟨c, k, i, f, a, cell, h1, h2, h3, h4, h5, h6, h7, h8, h9, h10⟩ := h
  exact ⟨c, k, i, f, a, cell, h1, h2, h3, h4, by rw [hq a (Array.getElem?_eq_some_iff.mp h5).1 h10]; exact h5, h6, h7, h8, h9, h10⟩
theorem vx_L.narrow {C n d : String} {A B : Nat → Prop} {U : State} {H : Heap} (h : vx_L C n d A U H) (hAB : ∀ q, B q → A q) : vx_L C n d B U H := by
  obtain ⟨c, k, i, f, a, cell, h1, h2, h3, h4, h5, h6, h7, h8, h9, h10⟩ := h
  exact ⟨c, k, i, f, a, cell, h1, h2, h3, h4, h5, h6, h7, h8, h9, fun z => h10 (hAB _ z)⟩
theorem vx_L.word {C n d : String} {A : Nat → Prop} {s : State} {args : Array Value} (h : vx_L C n d A s s.heap) : (Cond.laysStatic C n d).before args s = true := by
  obtain ⟨c, k, i, f, a, cell, h1, h2, h3, h4, h5, h6, h7, h8, h9, -⟩ := h
  show (Cond.laysStatic C n d).holds args s none s [] = true
  exact Cond.laysStatic_of h1 h2 h3 h4 h5 h6 h7 h8 h9
/-- .. and what it holds: null or some reference -/
def vx_Zq (C n d : String) (A : Nat → Prop) (U : State) (H : Heap) : Prop := va_Zq C n d A U H ∧ vx_L C n d A U H
theorem vx_Zq.moved {C n d : String} {A : Nat → Prop} {u U : State} {H : Heap} (hvm : u.vm.Alike U.vm) (h : vx_Zq C n d A u H) : vx_Zq C n d A U H := ⟨va_Zq.moved hvm h.1, vx_L.moved hvm h.2⟩
theorem vx_Zq.kept {C n d : String} {A : Nat → Prop} {U : State} {H H1 : Heap} (h : vx_Zq C n d A U H) (hq : ∀ a : Nat, a < H.size → ¬ A a → H1[a]? = H[a]?) : vx_Zq C n d A U H1 := ⟨va_Zq.kept h.1 hq, vx_L.kept h.2 hq⟩
theorem vx_Zq.narrow {C n d : String} {A B : Nat → Prop} {U : State} {H : Heap} (h : vx_Zq C n d A U H) (hAB : ∀ q, B q → A q) : vx_Zq C n d B U H := ⟨va_Zq.narrow h.1 hAB, vx_L.narrow h.2 hAB⟩
theorem vx_Zqof {args : Array Value} {s : State} {C n d : String} {A : Nat → Prop} (hl : (Cond.laysStatic C n d).before args s = true) (hini : (Cond.initialized C).before args s = true) (h : (Cond.isRef (.static C n d)).before args s = true) (hA : ∀ a : Nat, a < s.heap.size → ¬ A a) : vx_Zq C n d A s s.heap := by
  refine ⟨va_Zqof hl hini h hA, ?_⟩
  obtain ⟨c, k, i, f, a, cell, h1, h2, h3, h4, h5, h6, h7, h8, h9⟩ := Cond.laysStatic_spec hl
  exact ⟨c, k, i, f, a, cell, h1, h2, h3, h4, h5, h6, h7, h8, h9, hA a (Array.getElem?_eq_some_iff.mp h5).1⟩
theorem vx_isRef {C n d : String} {v : Value} {A : Nat → Prop} {s : State} {args : Array Value} (h : va_Z C n d v A s s.heap) (hv : v.isRef = true) : (Cond.isRef (.static C n d)).before args s = true := by
  obtain ⟨cf, kf, fi, f, a, cell, h1, h2, h3, h4, h5, h6, h7, -⟩ := h
  have he : (Term.static C n d).eval args s none [] s = some v := by
    simp [Term.eval, State.fieldNamed?, h1, h2, h4, h5, h6, h7]
  simp only [Cond.before, Cond.holds, Cond.value, he]
  cases v <;> simp_all [Value.isRef]
theorem vx_isRefq {C n d : String} {A : Nat → Prop} {s : State} {args : Array Value} (h : va_Zq C n d A s s.heap) : (Cond.isRef (.static C n d)).before args s = true := by
  rcases h with h | ⟨t, h⟩
  · exact vx_isRef h rfl
  · exact vx_isRef h rfl
/-- the same frame, seen from here: as if the method were called anew in this heap -/
theorem vx_rebase {T : State} (X : Stand p l e R s m args below meth c T locs cells slots) {R' : Room} (hf : R'.frames ≤ R.frames) (hl : R'.locals ≤ R.locals) (hc : cells + R'.cells ≤ R.cells) (hs : slots + R'.slots ≤ R.slots) :
    Stand p l e R' ((T.setVm s.vm).setFrames (.invoking m args :: below)) m args below meth c T [] 0 0 := by
  have htop : (T.setVm s.vm).topJava?.isSome := X.here.top
  have hF : ((T.setVm s.vm).setFrames (.invoking m args :: below)).frames = .invoking m args :: below := State.frames_setFrames _ (State.cur_lt_of_top htop)
  obtain ⟨g₀, hg0⟩ := Option.isSome_iff_exists.mp htop
  obtain ⟨r, hr⟩ := State.topJava?_eq_some.mp hg0
  have hl9 : e.platform.stackLimits (T.setVm s.vm).me = e.platform.stackLimits s.me := X.limits
  have hb9 : (T.setVm s.vm).me.stackBytes = s.me.stackBytes := X.bytes
  refine ⟨X.admits, X.cas, X.clock, hF, ?_, X.hears, X.method, X.code, X.here, X.tail, X.warmed, ?_, ?_, ?_⟩
  · have h := X.room
    have hU : ((T.setVm s.vm).setFrames (.invoking m args :: below)).localsInUse = s.localsInUse := by
      rw [State.localsInUse_invoking hF (meth := meth) (c := c) X.method X.code, State.localsInUse_invoking X.frames X.method X.code]
    simp only [State.hasRoom, Bool.and_eq_true, decide_eq_true_eq] at h ⊢
    obtain ⟨⟨⟨⟨h1, h2, h3, h4, h5, h6⟩, h7⟩, h8⟩, h9⟩ := h
    rw [X.frames, List.length_cons] at h2 h3
    have q1 := X.heapSize
    have q2 := X.used
    simp only [hF, hU, List.length_cons, State.stackLimits_setFrames, State.stackBytes_setFrames, hl9, hb9]
    refine ⟨⟨⟨⟨by omega, by omega, by omega, by omega, by omega, h6⟩, ?_⟩, ?_⟩, X.book⟩
    · show T.heap.size + R'.cells ≤ e.platform.maxCells
      omega
    · show T.slotsUsed + R'.slots ≤ e.platform.maxSlots
      omega
  · rw [State.stackLimits_setFrames]; rfl
  · rw [State.stackBytes_setFrames]; rfl
  · refine ⟨?_, Nat.le_refl _, Nat.le_refl _, ?_, ?_, fun a c9 h9 => ⟨c9, h9, rfl, rfl, fun _ _ => rfl⟩⟩
    · obtain ⟨t, ht, -⟩ := State.frames_cons hr
      show T.setVm s.vm = { ((T.setVm s.vm).setFrames (.invoking m args :: below)).setFrames (T.setVm s.vm).frames with heap := T.heap, slotsUsed := T.slotsUsed }
      rw [State.setFrames_setFrames, State.setFrames_self ht]
      rfl
    · show T.slotsUsed = T.slotsUsed + ((T.heap.toList.drop T.heap.size).map (·.slots.size)).sum
      rw [List.drop_eq_nil_of_le (Nat.le_of_eq Array.length_toList)]
      rfl
    · show ((T.heap.toList.drop T.heap.size).map (·.slots.size)).sum ≤ 0
      rw [List.drop_eq_nil_of_le (Nat.le_of_eq Array.length_toList)]
      exact Nat.le_refl _
/-- 'throw new E()': new; dup; invokespecial; athrow -/
theorem vx_throw0 {cc : ByteArray} {pc : Nat} (hexec : p.tables.exec = Jvm.exec) (hb : c.code = cc) (hl : l.stackTraces = false) {own cls : String} {names : List String} {ik ic mc ms : Nat} {A : Nat → Prop}
    (hown : s.vm.findClass own = some m.cls) (hcls : Bundle.fit cls = true) (hnames : ∀ n ∈ names, Bundle.fit n = true)
    (hk : (Cond.classLink own ik cls).before args s = true) (hini : (Cond.initialized cls).before args s = true) (hat : ∀ w ∈ vx_at0 own ic cls names, w.before args s = true)
    (hgood : ∀ w ∈ Cond.classLink own ik cls :: Cond.initialized cls :: vx_at0 own ic cls names, vx_ot w = true)
    (hU : vx_Zq Bundle.tN "UNASSIGNED_STACK" Bundle.steD A s s.heap) (hN : vx_Zq Bundle.tN "SUPPRESSED_SENTINEL" Bundle.listD A s s.heap) (hS : va_S A s.heap H locs) (hsize : ls.size = c.maxLocals)
    (d0 : decode cc pc = .ok (.new ik, 3)) (d3 : decode cc (pc + 3) = .ok (.dup, 1)) (d4 : decode cc (pc + 4) = .ok (.invokespecial ic, 3)) (d7 : decode cc (pc + 7) = .ok (.athrow, 1))
    (hout : ∀ x ∈ c.exceptionTable.toList, covers x (pc + 7) = false)
    (hRframes : names.length + 3 < R.frames) (hRlocals : (rest.map fun v => v.category).sum + (13 * (names.length + 1) + 42) ≤ R.locals) (hRcells : cells + 1 ≤ R.cells) (hRslots : slots + 6 ≤ R.slots) (hlocks : meth.locks = false)
    (hx : ∀ t : State, s.vm.Alike t.vm → H.size ≤ t.heap.size → (∀ q : Nat, q < H.size → t.heap[q]? = H[q]?) → XC cls s t)
    (hf : ∀ z ∈ locs, free z.base) (hc : cells + 1 ≤ mc) (hs : slots + 6 ≤ ms) :
    W p l e R s m args below meth c H locs cells slots (vx_MQ below Qc XC args s mc ms free) (F0 m pc ls rest) := by
  intro T hT X
  have htr : e.platform.stackTraces = false := (show e.platform.stackTraces = l.stackTraces by rw [X.admits.platform]).trans hl
  have Y := vx_rebase X (R' := { frames := R.frames, locals := R.locals, cells := 1, slots := 6 }) (Nat.le_refl _) (Nat.le_refl _) hRcells hRslots
  obtain ⟨s', hA⟩ : ∃ z, z = (T.setVm s.vm).setFrames (.invoking m args :: below) := ⟨_, rfl⟩
  rw [← hA] at Y
  have hvm : s'.vm = s.vm := by rw [hA]; rfl
  have hhp : s'.heap = H := by rw [hA]; exact hT
  have hW0 : s.WarmedH s'.vm := by rw [hvm]; exact State.WarmedH.refl s
  have hat' : ∀ w ∈ vx_at0 own ic cls names, w.before args s' = true := fun w hw => vx_ot_at hW0 hvm.symm (hgood w (List.mem_cons_of_mem _ (List.mem_cons_of_mem _ hw))) (hat w hw)
  have hk' : (Cond.classLink own ik cls).before args s' = true := vx_ot_at hW0 hvm.symm (hgood _ List.mem_cons_self) hk
  have hini' : (Cond.initialized cls).before args s' = true := vx_ot_at hW0 hvm.symm (hgood _ (List.mem_cons_of_mem _ List.mem_cons_self)) hini
  have hU' : vx_Zq Bundle.tN "UNASSIGNED_STACK" Bundle.steD A s' s'.heap := by rw [hhp]; exact vx_Zq.moved hW0.alike (hU.kept hS.2.1)
  have hN' : vx_Zq Bundle.tN "SUPPRESSED_SENTINEL" Bundle.listD A s' s'.heap := by rw [hhp]; exact vx_Zq.moved hW0.alike (hN.kept hS.2.1)
  have h : ∀ w ∈ Bundle.ownAtoms0 own ic cls names, w.before args s' = true := vx_own hat' (vx_isRefq hU'.1) (vx_isRefq hN'.1) hU'.2.word hN'.2.word
  have hown' : s'.vm.findClass own = some m.cls := by rw [hvm]; exact hown
  have hins : (Cond.instantiable cls 6).before args s' = true := h _ (by simp [Bundle.ownAtoms0])
  obtain ⟨vm₁, cX, kX, hfX, hkX, -, -, X₁, st1⟩ := Y.newCold hexec (own := own) (C := cls) (index := ik) (n := 6) hown' hk' hins hini'
    (g := F0 m pc ls rest) rfl (by rw [hb]; exact d0) (Nat.le_refl _) (Nat.le_refl _)
  generalize hT1 : (T.setVm vm₁).pushCell { cls := cX, slots := kX.instanceTypes.map defaultValue, vm := .none } = T1 at X₁ st1
  have hcat : (Value.ref T.heap.size).category = 1 := rfl
  have hcellA : T1.heap[T.heap.size]? = some (freshCell cX kX) := by rw [← hT1]; exact State.heap_pushCell_size _ _
  have d3' : decode c.code (pc + 3) = .ok (.dup, 1) := by rw [hb]; exact d3
  obtain ⟨U, hsteps, hrun, hend, hW, hsame, ce, hce, hO⟩ := X₁.ctorThrow0 hexec htr (own := own) (cls := cls) (names := names) (ic := ic) hown' hcls hnames h (fun x hx => nomatch hx) hfX hkX hcellA (by rw [hhp, hT]; exact Nat.le_refl _)
    (g := { method := m, pc := pc + 4, locals := ls, stack := .ref T.heap.size :: .ref T.heap.size :: rest, locked := none }) rfl hsize rfl rfl (rest := rest) rfl
    (by rw [hb]; exact d4) (by rw [hb]; exact d7) hout hRframes (by simp only [List.map_cons, List.sum_cons, hcat]; omega) hlocks
  obtain ⟨f1, f2⟩ := vx_frame hsame
  rw [hhp] at f1 f2
  have hWs : s.WarmedH U.vm := State.WarmedH.trans hW0 hW
  have hcl : s.vm.findClass cls = some ce.cls := by
    have h9 := hO.cls
    rw [hvm] at h9
    exact h9
  have hall : s.sameButNew ({ U with vm := s.vm } : State) locs mc ms := by
    subst hA
    obtain ⟨e1, e2⟩ := hsame
    rw [State.setFrames_setFrames] at e1
    have h2 : (T.setVm s.vm).sameButNew ({ U with vm := s.vm } : State) [] (0 + 1) (0 + 6) := ⟨e1, e2⟩
    have h3 := X.same.trans h2
    rw [List.append_nil] at h3
    exact h3.mono hc hs
  refine ⟨U, ?_, .threw T.heap.size, hrun, hend, Or.inr ⟨T.heap.size, rfl, cls, ce, locs, hx U hWs.alike f1 (fun q hq => f2 q hq (fun z hz => nomatch hz)), hce, hO.vm, hcl, hWs, hall, hf⟩⟩
  refine st1 _ ?_
  show Steps p.tables e below (T1.setTop { method := m, pc := pc + 3, locals := ls, stack := .ref T.heap.size :: rest, locked := none }) _
  jvm_step X₁.here [X₁.here.top, hexec, d3', Value.category]
  exact hsteps
/-- 'throw new E("text")': new; dup; ldc; invokespecial; athrow -/
theorem vx_throwS {cc : ByteArray} {pc : Nat} (hexec : p.tables.exec = Jvm.exec) (hb : c.code = cc) (hl : l.stackTraces = false) {own cls text : String} {names : List String} {ik is ic mc ms sa : Nat} {A : Nat → Prop}
    (hown : s.vm.findClass own = some m.cls) (hcls : Bundle.fit cls = true) (hnames : ∀ n ∈ names, Bundle.fit n = true)
    (hk : (Cond.classLink own ik cls).before args s = true) (hini : (Cond.initialized cls).before args s = true) (hstr : vk_R own is text sa s) (hat : ∀ w ∈ vx_atS own ic cls names, w.before args s = true)
    (hgood : ∀ w ∈ Cond.classLink own ik cls :: Cond.initialized cls :: vx_atS own ic cls names, vx_ot w = true)
    (hU : vx_Zq Bundle.tN "UNASSIGNED_STACK" Bundle.steD A s s.heap) (hN : vx_Zq Bundle.tN "SUPPRESSED_SENTINEL" Bundle.listD A s s.heap) (hS : va_S A s.heap H locs) (hsize : ls.size = c.maxLocals)
    (d0 : decode cc pc = .ok (.new ik, 3)) (d3 : decode cc (pc + 3) = .ok (.dup, 1)) (d4 : decode cc (pc + 4) = .ok (.ldc is, 2)) (d6 : decode cc (pc + 6) = .ok (.invokespecial ic, 3)) (d9 : decode cc (pc + 9) = .ok (.athrow, 1))
    (hout : ∀ x ∈ c.exceptionTable.toList, covers x (pc + 9) = false)
    (hRframes : names.length + 3 < R.frames) (hRlocals : (rest.map fun v => v.category).sum + (13 * (names.length + 1) + 43) ≤ R.locals) (hRcells : cells + 1 ≤ R.cells) (hRslots : slots + 6 ≤ R.slots) (hlocks : meth.locks = false)
    (hx : ∀ t : State, s.vm.Alike t.vm → H.size ≤ t.heap.size → (∀ q : Nat, q < H.size → t.heap[q]? = H[q]?) → XC cls s t)
    (hf : ∀ z ∈ locs, free z.base) (hc : cells + 1 ≤ mc) (hs : slots + 6 ≤ ms) :
    W p l e R s m args below meth c H locs cells slots (vx_MQ below Qc XC args s mc ms free) (F0 m pc ls rest) := by
  intro T hT X
  have htr : e.platform.stackTraces = false := (show e.platform.stackTraces = l.stackTraces by rw [X.admits.platform]).trans hl
  have Y := vx_rebase X (R' := { frames := R.frames, locals := R.locals, cells := 1, slots := 6 }) (Nat.le_refl _) (Nat.le_refl _) hRcells hRslots
  obtain ⟨s', hA⟩ : ∃ z, z = (T.setVm s.vm).setFrames (.invoking m args :: below) := ⟨_, rfl⟩
  rw [← hA] at Y
  have hvm : s'.vm = s.vm := by rw [hA]; rfl
  have hhp : s'.heap = H := by rw [hA]; exact hT
  have hW0 : s.WarmedH s'.vm := by rw [hvm]; exact State.WarmedH.refl s
  have hat' : ∀ w ∈ vx_atS own ic cls names, w.before args s' = true := fun w hw => vx_ot_at hW0 hvm.symm (hgood w (List.mem_cons_of_mem _ (List.mem_cons_of_mem _ hw))) (hat w hw)
  have hk' : (Cond.classLink own ik cls).before args s' = true := vx_ot_at hW0 hvm.symm (hgood _ List.mem_cons_self) hk
  have hini' : (Cond.initialized cls).before args s' = true := vx_ot_at hW0 hvm.symm (hgood _ (List.mem_cons_of_mem _ List.mem_cons_self)) hini
  have hU' : vx_Zq Bundle.tN "UNASSIGNED_STACK" Bundle.steD A s' s'.heap := by rw [hhp]; exact vx_Zq.moved hW0.alike (hU.kept hS.2.1)
  have hN' : vx_Zq Bundle.tN "SUPPRESSED_SENTINEL" Bundle.listD A s' s'.heap := by rw [hhp]; exact vx_Zq.moved hW0.alike (hN.kept hS.2.1)
  have h : ∀ w ∈ Bundle.ownAtoms own ic cls names, w.before args s' = true := vx_own hat' (vx_isRefq hU'.1) (vx_isRefq hN'.1) hU'.2.word hN'.2.word
  have hown' : s'.vm.findClass own = some m.cls := by rw [hvm]; exact hown
  have hins : (Cond.instantiable cls 6).before args s' = true := h _ (by simp [Bundle.ownAtoms])
  obtain ⟨vm₁, cX, kX, hfX, hkX, -, -, X₁, st1⟩ := Y.newCold hexec (own := own) (C := cls) (index := ik) (n := 6) hown' hk' hins hini'
    (g := F0 m pc ls rest) rfl (by rw [hb]; exact d0) (Nat.le_refl _) (Nat.le_refl _)
  generalize hT1 : (T.setVm vm₁).pushCell { cls := cX, slots := kX.instanceTypes.map defaultValue, vm := .none } = T1 at X₁ st1
  have hcat : (Value.ref T.heap.size).category = 1 := rfl
  have hcellA : T1.heap[T.heap.size]? = some (freshCell cX kX) := by rw [← hT1]; exact State.heap_pushCell_size _ _
  have d3' : decode c.code (pc + 3) = .ok (.dup, 1) := by rw [hb]; exact d3
  have d4' : decode c.code (pc + 4) = .ok (.ldc is, 2) := by rw [hb]; exact d4
  have hstr' : vk_R own is text sa s' := vk_R.warm hW0 hstr
  obtain ⟨U, hsteps, hrun, hend, hW, hsame, ce, hce, hO⟩ := X₁.ctorThrowS hexec htr (own := own) (cls := cls) (names := names) (ic := ic) hown' hcls hnames h (fun x hx => nomatch hx) hfX hkX hcellA (by rw [hhp, hT]; exact Nat.le_refl _) (msg := .ref sa) rfl
    (g := { method := m, pc := pc + 6, locals := ls, stack := .ref sa :: .ref T.heap.size :: .ref T.heap.size :: rest, locked := none }) rfl hsize rfl rfl (rest := rest) rfl
    (by rw [hb]; exact d6) (by rw [hb]; exact d9) hout hRframes (by simp only [List.map_cons, List.sum_cons, hcat]; omega) hlocks
  obtain ⟨f1, f2⟩ := vx_frame hsame
  rw [hhp] at f1 f2
  have hWs : s.WarmedH U.vm := State.WarmedH.trans hW0 hW
  have hcl : s.vm.findClass cls = some ce.cls := by
    have h9 := hO.cls
    rw [hvm] at h9
    exact h9
  have hall : s.sameButNew ({ U with vm := s.vm } : State) locs mc ms := by
    subst hA
    obtain ⟨e1, e2⟩ := hsame
    rw [State.setFrames_setFrames] at e1
    have h2 : (T.setVm s.vm).sameButNew ({ U with vm := s.vm } : State) [] (0 + 1) (0 + 6) := ⟨e1, e2⟩
    have h3 := X.same.trans h2
    rw [List.append_nil] at h3
    exact h3.mono hc hs
  refine ⟨U, ?_, .threw T.heap.size, hrun, hend, Or.inr ⟨T.heap.size, rfl, cls, ce, locs, hx U hWs.alike f1 (fun q hq => f2 q hq (fun z hz => nomatch hz)), hce, hO.vm, hcl, hWs, hall, hf⟩⟩
  refine st1 _ ?_
  show Steps p.tables e below (T1.setTop { method := m, pc := pc + 3, locals := ls, stack := .ref T.heap.size :: rest, locked := none }) _
  jvm_step X₁.here [X₁.here.top, hexec, d3', Value.category]
  exact X₁.ldcString hexec (own := own) (text := text) (index := is) (a := sa) hown' hstr'.1 hstr'.2
    (g := { method := m, pc := pc + 4, locals := ls, stack := .ref T.heap.size :: .ref T.heap.size :: rest, locked := none }) rfl d4' _ hsteps
/-- 'throw new E("text")', the text by a wide index -/
theorem vx_throwSW {cc : ByteArray} {pc : Nat} (hexec : p.tables.exec = Jvm.exec) (hb : c.code = cc) (hl : l.stackTraces = false) {own cls text : String} {names : List String} {ik is ic mc ms sa : Nat} {A : Nat → Prop}
    (hown : s.vm.findClass own = some m.cls) (hcls : Bundle.fit cls = true) (hnames : ∀ n ∈ names, Bundle.fit n = true)
    (hk : (Cond.classLink own ik cls).before args s = true) (hini : (Cond.initialized cls).before args s = true) (hstr : vk_R own is text sa s) (hat : ∀ w ∈ vx_atS own ic cls names, w.before args s = true)
    (hgood : ∀ w ∈ Cond.classLink own ik cls :: Cond.initialized cls :: vx_atS own ic cls names, vx_ot w = true)
    (hU : vx_Zq Bundle.tN "UNASSIGNED_STACK" Bundle.steD A s s.heap) (hN : vx_Zq Bundle.tN "SUPPRESSED_SENTINEL" Bundle.listD A s s.heap) (hS : va_S A s.heap H locs) (hsize : ls.size = c.maxLocals)
    (d0 : decode cc pc = .ok (.new ik, 3)) (d3 : decode cc (pc + 3) = .ok (.dup, 1)) (d4 : decode cc (pc + 4) = .ok (.ldc_w is, 3)) (d7 : decode cc (pc + 7) = .ok (.invokespecial ic, 3)) (d10 : decode cc (pc + 10) = .ok (.athrow, 1))
    (hout : ∀ x ∈ c.exceptionTable.toList, covers x (pc + 10) = false)
    (hRframes : names.length + 3 < R.frames) (hRlocals : (rest.map fun v => v.category).sum + (13 * (names.length + 1) + 43) ≤ R.locals) (hRcells : cells + 1 ≤ R.cells) (hRslots : slots + 6 ≤ R.slots) (hlocks : meth.locks = false)
    (hx : ∀ t : State, s.vm.Alike t.vm → H.size ≤ t.heap.size → (∀ q : Nat, q < H.size → t.heap[q]? = H[q]?) → XC cls s t)
    (hf : ∀ z ∈ locs, free z.base) (hc : cells + 1 ≤ mc) (hs : slots + 6 ≤ ms) :
    W p l e R s m args below meth c H locs cells slots (vx_MQ below Qc XC args s mc ms free) (F0 m pc ls rest) := by
  intro T hT X
  have htr : e.platform.stackTraces = false := (show e.platform.stackTraces = l.stackTraces by rw [X.admits.platform]).trans hl
  have Y := vx_rebase X (R' := { frames := R.frames, locals := R.locals, cells := 1, slots := 6 }) (Nat.le_refl _) (Nat.le_refl _) hRcells hRslots
  obtain ⟨s', hA⟩ : ∃ z, z = (T.setVm s.vm).setFrames (.invoking m args :: below) := ⟨_, rfl⟩
  rw [← hA] at Y
  have hvm : s'.vm = s.vm := by rw [hA]; rfl
  have hhp : s'.heap = H := by rw [hA]; exact hT
  have hW0 : s.WarmedH s'.vm := by rw [hvm]; exact State.WarmedH.refl s
  have hat' : ∀ w ∈ vx_atS own ic cls names, w.before args s' = true := fun w hw => vx_ot_at hW0 hvm.symm (hgood w (List.mem_cons_of_mem _ (List.mem_cons_of_mem _ hw))) (hat w hw)
  have hk' : (Cond.classLink own ik cls).before args s' = true := vx_ot_at hW0 hvm.symm (hgood _ List.mem_cons_self) hk
  have hini' : (Cond.initialized cls).before args s' = true := vx_ot_at hW0 hvm.symm (hgood _ (List.mem_cons_of_mem _ List.mem_cons_self)) hini
  have hU' : vx_Zq Bundle.tN "UNASSIGNED_STACK" Bundle.steD A s' s'.heap := by rw [hhp]; exact vx_Zq.moved hW0.alike (hU.kept hS.2.1)
  have hN' : vx_Zq Bundle.tN "SUPPRESSED_SENTINEL" Bundle.listD A s' s'.heap := by rw [hhp]; exact vx_Zq.moved hW0.alike (hN.kept hS.2.1)
  have h : ∀ w ∈ Bundle.ownAtoms own ic cls names, w.before args s' = true := vx_own hat' (vx_isRefq hU'.1) (vx_isRefq hN'.1) hU'.2.word hN'.2.word
  have hown' : s'.vm.findClass own = some m.cls := by rw [hvm]; exact hown
  have hins : (Cond.instantiable cls 6).before args s' = true := h _ (by simp [Bundle.ownAtoms])
  obtain ⟨vm₁, cX, kX, hfX, hkX, -, -, X₁, st1⟩ := Y.newCold hexec (own := own) (C := cls) (index := ik) (n := 6) hown' hk' hins hini'
    (g := F0 m pc ls rest) rfl (by rw [hb]; exact d0) (Nat.le_refl _) (Nat.le_refl _)
  generalize hT1 : (T.setVm vm₁).pushCell { cls := cX, slots := kX.instanceTypes.map defaultValue, vm := .none } = T1 at X₁ st1
  have hcat : (Value.ref T.heap.size).category = 1 := rfl
  have hcellA : T1.heap[T.heap.size]? = some (freshCell cX kX) := by rw [← hT1]; exact State.heap_pushCell_size _ _
  have d3' : decode c.code (pc + 3) = .ok (.dup, 1) := by rw [hb]; exact d3
  have d4' : decode c.code (pc + 4) = .ok (.ldc_w is, 3) := by rw [hb]; exact d4
  have hstr' : vk_R own is text sa s' := vk_R.warm hW0 hstr
  obtain ⟨U, hsteps, hrun, hend, hW, hsame, ce, hce, hO⟩ := X₁.ctorThrowS hexec htr (own := own) (cls := cls) (names := names) (ic := ic) hown' hcls hnames h (fun x hx => nomatch hx) hfX hkX hcellA (by rw [hhp, hT]; exact Nat.le_refl _) (msg := .ref sa) rfl
    (g := { method := m, pc := pc + 7, locals := ls, stack := .ref sa :: .ref T.heap.size :: .ref T.heap.size :: rest, locked := none }) rfl hsize rfl rfl (rest := rest) rfl
    (by rw [hb]; exact d7) (by rw [hb]; exact d10) hout hRframes (by simp only [List.map_cons, List.sum_cons, hcat]; omega) hlocks
  obtain ⟨f1, f2⟩ := vx_frame hsame
  rw [hhp] at f1 f2
  have hWs : s.WarmedH U.vm := State.WarmedH.trans hW0 hW
  have hcl : s.vm.findClass cls = some ce.cls := by
    have h9 := hO.cls
    rw [hvm] at h9
    exact h9
  have hall : s.sameButNew ({ U with vm := s.vm } : State) locs mc ms := by
    subst hA
    obtain ⟨e1, e2⟩ := hsame
    rw [State.setFrames_setFrames] at e1
    have h2 : (T.setVm s.vm).sameButNew ({ U with vm := s.vm } : State) [] (0 + 1) (0 + 6) := ⟨e1, e2⟩
    have h3 := X.same.trans h2
    rw [List.append_nil] at h3
    exact h3.mono hc hs
  refine ⟨U, ?_, .threw T.heap.size, hrun, hend, Or.inr ⟨T.heap.size, rfl, cls, ce, locs, hx U hWs.alike f1 (fun q hq => f2 q hq (fun z hz => nomatch hz)), hce, hO.vm, hcl, hWs, hall, hf⟩⟩
  refine st1 _ ?_
  show Steps p.tables e below (T1.setTop { method := m, pc := pc + 3, locals := ls, stack := .ref T.heap.size :: rest, locked := none }) _
  jvm_step X₁.here [X₁.here.top, hexec, d3', Value.category]
  exact X₁.ldcStringW hexec (own := own) (text := text) (index := is) (a := sa) hown' hstr'.1 hstr'.2
    (g := { method := m, pc := pc + 4, locals := ls, stack := .ref T.heap.size :: .ref T.heap.size :: rest, locked := none }) rfl d4' _ hsteps
end Ends
section Bodies
variable {l : Launch}
theorem vx_ofW {y : MethodName} {ws ws' : List Cond} {rm : Room} {Pc : Array Value → State → Prop} {Qc : Array Value → State → Outcome → State → Prop} {XC : String → State → State → Prop} {mc ms : Nat} {free : Addr → Prop} {cc : ByteArray} {maxL : Nat} {ret : Option FieldType}
    (hy : plainName y.cls = true) (hw : ws = Cond.code y cc maxL ret :: ws')
    (body : ∀ p e s m args below meth c s₁, BodyLoose p l y (headSpec ws rm) cc maxL ret e s m args below meth c s₁ → c.maxLocals = maxL → (∀ x ∈ c.exceptionTable.toList, False) → Pc args s →
      W p l e (headSpec ws rm).room s m args below meth c s.heap [] 0 0 (vx_MQ below Qc XC args s mc ms free) (entryFrame m args maxL)) : vx_Met l y ws rm Pc Qc XC mc ms free := by
  refine MetFree.of_bodyS (code := cc) (maxLocals := maxL) (ret := ret) hy ?_ ?_
  · intro args s m h hn
    obtain ⟨meth, c, h1, h2, h3, h4, h5, h6, -, -⟩ := Cond.code_spec hn (atoms_spec (ws := ws) h _ (by rw [hw]; exact List.mem_cons_self))
    exact ⟨meth, c, h1, h2, h3, h4, h5, h6⟩
  · intro p e s m args below meth c s₁ B hml hP _
    have hh0 : s₁.heap = s.heap := by rw [B.state]; rfl
    have ht : ∀ x ∈ c.exceptionTable.toList, False := by
      obtain ⟨meth9, c9, h1, h2, -, -, -, -, h7, -⟩ := Cond.code_spec B.named (atoms_spec (ws := ws) B.pre _ (by rw [hw]; exact List.mem_cons_self))
      cases Option.some.inj (h1.symm.trans B.method)
      cases Option.some.inj (h2.symm.trans (Stand.of_body B).code)
      intro x hx
      rw [Array.isEmpty_iff.mp h7] at hx
      cases hx
    obtain ⟨t, a1, o, b1, b2, b3⟩ := body p e s m args below meth c s₁ B hml ht hP s₁ hh0 (Stand.of_body B)
    exact ⟨t, o, a1, b1, b2, b3⟩
/-- the table of a body with handlers -/
theorem vx_table {p : Program} {x y : MethodName} {S : Spec} {cc bytes : ByteArray} {maxL maxL' : Nat} {ret ret' : Option FieldType} {e : Env} {s s₁ : State} {m : MethodId} {args : Array Value} {below : List Frame} {meth : Method} {c : Code} {hh : List (Nat × Nat × Nat × Nat)}
    (B : BodyLoose p l y S cc maxL ret e s m args below meth c s₁) (h : (Cond.codeWith y bytes maxL' ret' hh).before args s = true) : c.exceptionTable.toList = tableOf hh := by
  obtain ⟨m9, meth9, c9, hn9, h1, h2, -, -, h6, -⟩ := Cond.codeWith_spec h
  cases Option.some.inj (hn9.symm.trans B.named)
  cases Option.some.inj (h1.symm.trans B.method)
  cases Option.some.inj (h2.symm.trans (Stand.of_body B).code)
  rw [← h6, table_eq]
end Bodies
end VXA
/-! ===== END ===== -/
/-! ===== BEGIN a static call of a method with an exception table ===== -/
section VXS
variable {p : Program} {l : Launch} {e : Env} {R : Room} {s : State} {m : MethodId} {args : Array Value} {below : List Frame} {meth : Method} {c : Code} {T : State} {H : Heap} {locs : List Loc} {cells slots : Nat}
abbrev vx_CSW (R : Room) (s : State) (args : Array Value) (own : String) (index : Nat) (y : MethodName) (bytes : ByteArray) (maxL : Nat) (ret : Option FieldType) (hh : List (Nat × Nat × Nat × Nat)) (ws : List Cond) (rm : Room) (mc ms n : Nat) : Prop :=
  (rm.cells = mc ∧ rm.slots = ms ∧ rm.frames + 1 ≤ R.frames ∧ 8 + (maxL + 11) + rm.locals ≤ R.locals ∧ (∀ w ∈ ws, ∀ (a' : Array Value) (U : State), s.WarmedH U.vm → w.before a' U = true) ∧ Cond.codeWith y bytes maxL ret hh ∈ ws) ∧
  (Cond.codeWith y bytes maxL ret hh).before args s = true ∧ (Cond.initialized y.cls).before args s = true ∧ (y.cls ≠ "java/lang/invoke/MethodHandle" ∧ y.cls ≠ "java/lang/invoke/VarHandle") ∧
  (∀ sig, parseMethodDescriptor y.desc = some sig → n = sig.parameters.length) ∧ (Cond.methodLink own index y).before args s = true ∧ (Cond.static y).before args s = true
theorem vx_cwSW {own : String} {index maxL mc ms : Nat} {y : MethodName} {bytes : ByteArray} {ret : Option FieldType} {hh : List (Nat × Nat × Nat × Nat)} {Ts ws ws' : List Cond} {rm : Room} (n : Nat) (ht : ∀ w ∈ Ts, w.before args s = true) (hT : GoodIn Ts (va_wsS own index y ws)) (hw : ws = Cond.codeWith y bytes maxL ret hh :: ws') (hrc : rm.cells = mc) (hrs : rm.slots = ms)
    (hd : y.cls ≠ "java/lang/invoke/MethodHandle" ∧ y.cls ≠ "java/lang/invoke/VarHandle" ∧ (parseMethodDescriptor y.desc).map (fun d => d.parameters.length) = some n) (hR : rm.frames + 1 ≤ R.frames ∧ 8 + (maxL + 11) + rm.locals ≤ R.locals) :
    vx_CSW R s args own index y bytes maxL ret hh ws rm mc ms n := by
  have ok : ∀ w ∈ va_wsS own index y ws, w.before args s = true := fun w h => ht w (hT w h).1
  have hG : GoodIn Ts ws := fun w h => hT w (by unfold va_wsS; exact List.mem_append_right _ h)
  have hc : Cond.codeWith y bytes maxL ret hh ∈ ws := by rw [hw]; exact List.mem_cons_self
  refine ⟨⟨hrc, hrs, hR.1, hR.2, pay_in ht hG, hc⟩, ht _ (hG _ hc).1, ok _ (by simp [va_wsS]), ⟨hd.1, hd.2.1⟩, fun sig h => ?_, ok _ (by simp [va_wsS]), ok _ (by simp [va_wsS])⟩
  have h2 := hd.2.2
  rw [h] at h2
  exact (Option.some.inj h2).symm
theorem vx_callSW (X : Stand p l e R s m args below meth c T locs cells slots) (hexec : p.tables.exec = Jvm.exec) {own : String} {index : Nat} {y : MethodName} {bytes : ByteArray} {maxL : Nat} {ret : Option FieldType} {hh : List (Nat × Nat × Nat × Nat)}
    (hown : s.vm.findClass own = some m.cls) (hlink : (Cond.methodLink own index y).before args s = true) (hstat : (Cond.static y).before args s = true) (hinit : (Cond.initialized y.cls).before args s = true)
    (hcode : (Cond.codeWith y bytes maxL ret hh).before args s = true) (hy : y.cls ≠ "java/lang/invoke/MethodHandle" ∧ y.cls ≠ "java/lang/invoke/VarHandle")
    {W9 : Nat} {Pre : Pt → Array Value → Prop} {Post : Pt → Array Value → Option Value → Pt → Prop} (hK : Back l R p e below s args y 3 W9 Pre Post)
    {g : JFrame} (hg : g.method = m) (hsize : g.locals.size = c.maxLocals) {argsL rest : List Value} (hlen : ∀ sig, parseMethodDescriptor y.desc = some sig → argsL.length = sig.parameters.length)
    (hstack : g.stack = argsL.reverse ++ rest) (hW : 2 * g.monitorRoom + (rest.map fun v => v.category).sum ≤ W9) (hdg : decode c.code g.pc = .ok (.invokestatic index, 3))
    (hpre : ∀ vm₁, s.WarmedH vm₁ → Pre ⟨T.setVm vm₁, locs, cells, slots⟩ argsL.toArray) :
    ∃ (v : Option Value) (vm₁ : Vm) (B : Pt), s.WarmedH vm₁ ∧ Stand p l e R s m args below meth c B.U B.locs B.cells B.slots ∧ Post ⟨T.setVm vm₁, locs, cells, slots⟩ argsL.toArray v B ∧
      ∀ target, Steps p.tables e below (B.U.setTop { g with pc := g.pc + 3, stack := v.toList ++ rest }) target → Steps p.tables e below (T.setTop g) target := by
  obtain ⟨mk, methM, cM, hnamed, hmethM, -, -, -, -, -, -, hsigM⟩ := Cond.codeWith_spec hcode
  have hstatic : methM.isStatic = true := Cond.static_spec hnamed hmethM hstat
  obtain ⟨kP, hkP, -⟩ := className_of_methodNamed hnamed
  have hinitP : kP.init = .initialized := Cond.initialized_spec (findClass_of_methodNamed hnamed) hkP hinit
  obtain ⟨vm₁, X₁, hstep₁⟩ := X.invokestatic hexec hown hlink hnamed hmethM hstatic hkP hinitP hy (g := g) hg (argsL := argsL) (rest := rest) (hlen _ hsigM) hstack hdg
  obtain ⟨v, B, X', hpost, hsteps⟩ := hK m meth c ⟨T.setVm vm₁, locs, cells, slots⟩ { g with stack := rest } (.invokestatic index) mk argsL.toArray X₁ hg hsize hdg hW (X₁.named hnamed) (hpre vm₁ X₁.warmed)
  exact ⟨v, vm₁, B, X₁.warmed, X', hpost, fun target h => hstep₁ _ fun acts => by rw [doInvoke_state]; exact hsteps.trans h⟩
theorem vx_runSW {y : MethodName} {bytes cc : ByteArray} {maxL nL mc ms n index : Nat} {ret : Option FieldType} {hh : List (Nat × Nat × Nat × Nat)} {ws : List Cond} {rm : Room} {Pc : Array Value → State → Prop} {Qc : Array Value → State → Outcome → State → Prop} {free : Addr → Prop} {Ts : List Cond} {own : String} {As rest : List Value} {g : JFrame}
    (S : CallFix p m c cc nL s args Ts own) (hM : Met l y ws rm Pc Qc mc ms free) (cw : vx_CSW R s args own index y bytes maxL ret hh ws rm mc ms n) (hp : PreS s H Pc As)
    (hg : g.method = m) (hn : As.length = n) (hsize : g.locals.size = nL) (hstack : g.stack = As.reverse ++ rest) (hW : 2 * g.monitorRoom + (rest.map fun v => v.category).sum ≤ 8) (hdg : decode cc g.pc = .ok (.invokestatic index, 3)) (hf : cells + mc ≤ R.cells ∧ slots + ms ≤ R.slots) :
    va_Run p l e R s m args below meth c H locs cells slots mc ms g rest (Qc As.toArray) (free) := by
  obtain ⟨⟨hrc, hrs, hfr, hlo, hws, hcw⟩, hcode, hini, hy, hlen, hl, hstt⟩ := cw
  have hK : Back l R p e below s args y 3 8 (PreOf R mc ms Pc) (PostOf Qc mc ms free) := va_backW (hh := hh) (bytes := bytes) (maxL := maxL) (ret := ret) hM hp.1 hrc hrs hfr hlo hws hcw (fun a' U hW => word_at hW (Or.inl (by first | rfl | simp [Cond.onTables, Cond.keeps, Cond.steady])) hini)
  obtain ⟨hx, hb, hml, ho, -⟩ := S
  intro T hT X
  obtain ⟨v, vm₁, ⟨U', l2, c2, s2⟩, hW₁, X', ⟨g', mk, t, L, e1, e2, hq, h1, hL, h2, h3⟩, st⟩ := vx_callSW X hx (hh := hh) (bytes := bytes) (maxL := maxL) (ret := ret) ho hl hstt hini hcode hy hK hg (hsize.trans hml.symm) (argsL := As) (rest := rest) (fun sig h => hn.trans (hlen sig h)) hstack hW (by rw [hb]; exact hdg)
    (fun vm₁ hW₁ => ⟨hf.1, hf.2, hp.2 (T.setVm vm₁) hT hW₁⟩)
  dsimp only [Pt.U, Pt.locs, Pt.cells, Pt.slots] at X' e1 e2 h1 h2 h3 st
  subst h1; subst h2; subst h3
  exact ⟨v, (T.setVm vm₁).calling g' mk As.toArray, t, U', L, hT, X', hL, e1, e2, hq, st⟩
/-- not caught here, past rows that name other classes: it goes on to the caller -/
theorem vx_outP {p : Program} {l : Launch} {e : Env} {R : Room} {s : State} {m : MethodId} {args : Array Value} {below : List Frame} {meth : Method} {c : Code} {H : Heap} {locs : List Loc} {cells slots : Nat} {free : Addr → Prop} {ls : Array Slot} {rest : List Value} {Qc : Array Value → State → Outcome → State → Prop} {XC : String → State → State → Prop}
    {pc : Nat} {own E : String} {ce : Cell} {q : Addr} {mc ms : Nat} (hown : s.vm.findClass own = some m.cls) (hlocks : meth.locks = false)
    (hpass : ∀ z ∈ c.exceptionTable.toList, covers z pc = false ∨ (z.catchType ≠ 0 ∧ ∃ nm : String, (Cond.classLink own z.catchType nm).before args s = true ∧ va_Nc E nm s)) (hcell : H[q]? = some ce) (hv : ce.vm = .none) (hcl : s.vm.findClass E = some ce.cls)
    (hx : ∀ t : State, t.heap = H → s.vm.Alike t.vm → XC E s t) (hf : ∀ z ∈ locs, free z.base) (hc : cells ≤ mc) (hs : slots ≤ ms) :
    vx_W p l e R s m args below meth c H locs cells slots (vx_MQ below Qc XC args s mc ms free) (F0 m pc ls rest) q := by
  intro T hT X
  have hpl : e.platform.magicAccessors = ({} : Platform).magicAccessors := by rw [X.admits.platform]
  obtain ⟨vm', hW', X', st⟩ := X.outThrough hlocks q (g := F0 m pc ls rest) rfl rfl rfl (cell := ce) (by rw [hT]; exact hcell) (by rw [hv]; rfl)
    (by obtain ⟨k9, h9, -⟩ := Vm.findClass_spec hcl; exact ⟨k9, h9⟩) (fun z hz => by
      rcases hpass z hz with h | ⟨hz0, nm, hl1, hn1⟩
      · exact Or.inl h
      · obtain ⟨c6, hc6, hcl6⟩ := Cond.classLink_spec hown hl1 e.platform hpl
        obtain ⟨a8, b8, h1, h2, h3⟩ := hn1
        cases Option.some.inj (h1.symm.trans hcl)
        cases Option.some.inj (h2.symm.trans hc6)
        exact Or.inr ⟨hz0, _, hcl6, h3⟩)
  obtain ⟨g₀, hfr⟩ := X'.frames_eq
  have hcell9 : ((T.setVm vm').setFrames (.throwing q :: below)).heap[q]? = some ce := by
    show T.heap[q]? = some ce
    rw [hT]; exact hcell
  have hend : Ended ((T.setVm vm').setFrames (.throwing q :: below)) below (.threw q) := State.frames_setFrames _ (State.cur_lt_of_frames hfr)
  refine ⟨(T.setVm vm').setFrames (.throwing q :: below), ?_, .threw q, X'.here.running, hend, Or.inr ⟨q, rfl, E, ce, locs, hx _ hT (X'.ends _).1.alike, hcell9, hv, hcl, (X'.ends _).1, (X'.ends _).2.mono hc hs, hf⟩⟩
  rw [X.pushThrowing_eq]
  exact st
/-- a thing of a world lies in the heap -/
theorem vx_lt {D : va_G} {cl : List vw_C} {ws : va_W} {H1 : Heap} (h : va_P D cl ws H1) {k : Nat} {q : Nat × va_E} (hk : ws[k]? = some q) : q.1 < H1.size := (h k q hk).lt
end VXS
/-! ===== END ===== -/
/-! ===== BEGIN methods with a table of their own: called by a name, returning or throwing ===== -/
section VXH
/-! vx_backW, vx_callVX, vx_callSX, vx_callVW, vx_runVW, vx_runVX, vx_runSX, vx_ofWH follow the same proofs as their sisters above (Free/Laws.lean, Shelf42/LK1.lean); vx_outP calls Shelf42/NT130.lean (outThrough). -/
section
variable {l : Launch} {R : Room} {p : Program} {e : Env} {below : List Frame} {s : State} {sargs : Array Value} {y : MethodName} {len W9 : Nat}
theorem vx_backW {ws : List Cond} {rm : Room} {Pc : Array Value → State → Prop} {Qc : Array Value → State → Outcome → State → Prop} {XC : String → State → State → Prop} {mc ms : Nat} {free : Addr → Prop} {bytes : ByteArray} {maxL : Nat} {ret : Option FieldType} {hh : List (Nat × Nat × Nat × Nat)}
    (hM : vx_Met l y ws rm Pc Qc XC mc ms free) (hblind : FrameBlind Pc) (hrc : rm.cells = mc) (hrs : rm.slots = ms)
    (hframes : rm.frames + 1 ≤ R.frames) (hlocals : W9 + (maxL + 11) + rm.locals ≤ R.locals)
    (hws : ∀ w ∈ ws, ∀ a' U, s.WarmedH U.vm → w.before a' U = true) (hcode : Cond.codeWith y bytes maxL ret hh ∈ ws) (hinit : ∀ a' U, s.WarmedH U.vm → (Cond.initialized y.cls).before a' U = true) :
    vx_Back l R p e below s sargs y len W9 (PreOf R mc ms Pc) (PostOf Qc mc ms free) (vx_Post XC mc ms free) := by
  intro m meth c A g ig mk a X hg hsize hdg hW hn hp
  have h1 : (headSpec ws rm).pre.before a A.U = true := atoms_intro fun w hw => hws w hw _ _ X.warmed
  have h2 : (Cond.codeWith y bytes maxL ret hh).before a A.U = true := hws _ hcode _ _ X.warmed
  have h3 : (Cond.initialized y.cls).before a A.U = true := hinit _ _ X.warmed
  have h4 : A.cells + (headSpec ws rm).room.cells ≤ R.cells := by rw [show (headSpec ws rm).room.cells = mc from hrc]; exact hp.1
  have h5 : A.slots + (headSpec ws rm).room.slots ≤ R.slots := by rw [show (headSpec ws rm).room.slots = ms from hrs]; exact hp.2.1
  have hPc : Pc a (A.U.calling g mk a) := hblind _ _ _ _ hp.2.2
  obtain ⟨U, Ls, c0, s0⟩ := A
  dsimp only [Pt.U, Pt.locs, Pt.cells, Pt.slots] at h1 h2 h3 h4 h5 X hn hPc ⊢
  obtain ⟨m9, methY, cY, hn9, hmY, hcY, -, hlY, -⟩ := Cond.codeWith_spec h2
  cases Option.some.inj (hn9.symm.trans hn)
  obtain ⟨kY, hkY, -⟩ := className_of_methodNamed hn
  have hinitY : kY.init = .initialized := Cond.initialized_spec (findClass_of_methodNamed hn) hkY h3
  have h : At U g.method c below := by rw [hg]; exact X.here
  have hlocals9 : W9 + (maxL + 11) + (headSpec ws rm).room.locals ≤ R.locals := hlocals
  have happ : (headSpec ws rm).appliesLoose y e.platform (U.calling g mk a) = true :=
    Spec.appliesLoose_calling (g := g) h hdg hn hkY hinitY
      (X.room_calling (g := g) (R' := (headSpec ws rm).room) hsize hmY hcY hframes (by rw [hlY]; omega) h4 h5) h1
  obtain ⟨mid, hmid⟩ := h.above
  have hfr : (U.setTop g).frames = (.java g :: mid) ++ below := by rw [State.frames_setTop' g h.top, hmid]; rfl
  obtain ⟨o, s₂, hsteps, -, hend, hq⟩ := Steps.callFree hM p X.admits X.cas X.clock (acts := []) hfr happ hPc trivial
  have hq' : vx_Q Qc XC mc ms free a (U.calling g mk a) o s₂ := hq
  rw [State.frames_setTop' g h.top] at hend
  obtain ⟨g₀, hg0⟩ := Option.isSome_iff_exists.mp h.top
  obtain ⟨r, hr⟩ := State.topJava?_eq_some.mp hg0
  have hr' : (({ U with heap := s₂.heap, slotsUsed := s₂.slotsUsed } : State).setVm s₂.vm).frames = .java g₀ :: r := hr
  rcases hq' with ⟨hqc, L, hfe, hL⟩ | ⟨q, rfl, E, ce, L, hx, hce, hcv, hcl, hW₂, hsm, hL⟩
  · obtain ⟨⟨v, rfl⟩, hW₂, e2, q2, q3, q4, q5, q6⟩ := id hfe
    have e3 : s₂ = ({ (U.calling g mk a).setFrames s₂.frames with heap := s₂.heap, slotsUsed := s₂.slotsUsed } : State).setVm s₂.vm := by
      have : s₂ = ({ s₂ with vm := (U.calling g mk a).vm } : State).setVm s₂.vm := rfl
      rw [e2] at this
      exact this
    obtain ⟨c₂, i₂, len₂, hc₂, hd₂, hf₂⟩ := hend
    have hW' : U.WarmedH s₂.vm := hW₂
    have hcc : c₂ = c := by
      have h1 : s₂.code? g.method = U.code? g.method := by
        rw [State.code?_eq, State.code?_eq, hW'.alike.method?]
      exact Option.some.inj (hc₂.symm.trans (h1.trans h.code))
    subst hcc
    have hlen : len₂ = len := by rw [hdg] at hd₂; cases hd₂; rfl
    subst hlen
    have hs₂ : s₂ = (({ U with heap := s₂.heap, slotsUsed := s₂.slotsUsed } : State).setVm s₂.vm).setTop { g with pc := g.pc + len₂, stack := v.toList ++ g.stack } := by
      refine e3.trans ?_
      rw [hf₂, State.calling_eq h.top, State.setFrames_setFrames, State.setTop_of_frames _ hr', hr]
      rfl
    have hsame : U.sameButNew ({ U with heap := s₂.heap, slotsUsed := s₂.slotsUsed } : State) L mc ms := by
      refine ⟨?_, q2, q3, q4, q5, q6⟩
      obtain ⟨t, ht, -⟩ := State.frames_cons hr
      show ({ U with heap := s₂.heap, slotsUsed := s₂.slotsUsed } : State) = { U.setFrames U.frames with heap := s₂.heap, slotsUsed := s₂.slotsUsed }
      rw [State.setFrames_self ht]
    subst hg
    refine Or.inl ⟨v, ⟨(({ U with heap := s₂.heap, slotsUsed := s₂.slotsUsed } : State).setVm s₂.vm), Ls ++ L, c0 + mc, s0 + ms⟩,
      ⟨X.admits, X.cas, X.clock, X.frames, X.room, X.hears, X.method, X.code, (X.here.setHeapUsed s₂.heap s₂.slotsUsed).setVm hW'.alike, X.tail, State.WarmedH.trans X.warmed hW', X.limits, X.bytes, X.same.trans (hsame.setVm s.vm)⟩,
      ⟨g, mk, s₂, L, rfl, rfl, hqc, rfl, hL, rfl, rfl⟩, ?_⟩
    show Steps p.tables e below _ ((({ U with heap := s₂.heap, slotsUsed := s₂.slotsUsed } : State).setVm s₂.vm).setTop { g with pc := g.pc + len₂, stack := v.toList ++ g.stack })
    rw [← hs₂]
    exact hsteps
  · obtain ⟨e2, q2, q3, q4, q5, q6⟩ := id hsm
    have e3 : s₂ = ({ (U.calling g mk a).setFrames s₂.frames with heap := s₂.heap, slotsUsed := s₂.slotsUsed } : State).setVm s₂.vm := by
      have : s₂ = ({ s₂ with vm := (U.calling g mk a).vm } : State).setVm s₂.vm := rfl
      rw [e2] at this
      exact this
    have hf₂ : s₂.frames = .throwing q :: .java g :: U.frames.tail := hend
    have hW' : U.WarmedH s₂.vm := hW₂
    have hs₂ : s₂ = ((({ U with heap := s₂.heap, slotsUsed := s₂.slotsUsed } : State).setVm s₂.vm).setTop g).pushFrame (.throwing q) := by
      refine e3.trans ?_
      rw [hf₂, State.calling_eq h.top, State.setFrames_setFrames, State.pushFrame, State.frames_setTop _ hr', State.setTop_of_frames _ hr', State.setFrames_setFrames, hr]
      rfl
    have hsame : U.sameButNew ({ U with heap := s₂.heap, slotsUsed := s₂.slotsUsed } : State) L mc ms := by
      refine ⟨?_, q2, q3, q4, q5, q6⟩
      obtain ⟨t, ht, -⟩ := State.frames_cons hr
      show ({ U with heap := s₂.heap, slotsUsed := s₂.slotsUsed } : State) = { U.setFrames U.frames with heap := s₂.heap, slotsUsed := s₂.slotsUsed }
      rw [State.setFrames_self ht]
    subst hg
    refine Or.inr ⟨q, ⟨(({ U with heap := s₂.heap, slotsUsed := s₂.slotsUsed } : State).setVm s₂.vm), Ls ++ L, c0 + mc, s0 + ms⟩,
      ⟨X.admits, X.cas, X.clock, X.frames, X.room, X.hears, X.method, X.code, (X.here.setHeapUsed s₂.heap s₂.slotsUsed).setVm hW'.alike, X.tail, State.WarmedH.trans X.warmed hW', X.limits, X.bytes, X.same.trans (hsame.setVm s.vm)⟩,
      ⟨g, mk, s₂, L, E, ce, rfl, rfl, hx, hce, hcv, hcl, rfl, hL, rfl, rfl⟩, ?_⟩
    show Steps p.tables e below _ (((({ U with heap := s₂.heap, slotsUsed := s₂.slotsUsed } : State).setVm s₂.vm).setTop g).pushFrame (.throwing q))
    rw [← hs₂]
    exact hsteps
end
variable {p : Program} {l : Launch} {e : Env} {R : Room} {s : State} {m : MethodId} {args : Array Value} {below : List Frame} {meth : Method} {c : Code} {T : State} {H : Heap} {locs : List Loc} {cells slots : Nat}
theorem vx_callVX (X : Stand p l e R s m args below meth c T locs cells slots) (hexec : p.tables.exec = Jvm.exec) {own C : String} {index : Nat} {y : MethodName} {bytes : ByteArray} {maxL : Nat} {ret : Option FieldType} {hh : List (Nat × Nat × Nat × Nat)}
    (hown : s.vm.findClass own = some m.cls) (hlink : (Cond.methodLink own index y).before args s = true) (hinst : (Cond.instanceMethod y).before args s = true) (hsel : (Cond.selects C y y).before args s = true)
    (hcode : (Cond.codeWith y bytes maxL ret hh).before args s = true) (hy : y.cls ≠ "java/lang/invoke/MethodHandle" ∧ y.cls ≠ "java/lang/invoke/VarHandle")
    {W9 : Nat} {Pre : Pt → Array Value → Prop} {Post : Pt → Array Value → Option Value → Pt → Prop} {PostX : Pt → Array Value → Addr → Pt → Prop} (hK : vx_Back l R p e below s args y 3 W9 Pre Post PostX)
    {b : Addr} {cellB : Cell} (hcell : T.heap[b]? = some cellB) (hobj : cellB.vm.isStatics = false) (hcls : s.vm.findClass C = some cellB.cls)
    {g : JFrame} (hg : g.method = m) (hsize : g.locals.size = c.maxLocals) {argsL rest : List Value} (hlen : ∀ sig, parseMethodDescriptor y.desc = some sig → argsL.length = sig.parameters.length)
    (hstack : g.stack = argsL.reverse ++ .ref b :: rest) (hW : 2 * g.monitorRoom + (rest.map fun v => v.category).sum ≤ W9) (hdg : decode c.code g.pc = .ok (.invokevirtual index, 3))
    (hpre : ∀ vm₁, s.WarmedH vm₁ → Pre ⟨T.setVm vm₁, locs, cells, slots⟩ (Value.ref b :: argsL).toArray) :
    (∃ (v : Option Value) (vm₁ : Vm) (B : Pt), s.WarmedH vm₁ ∧ Stand p l e R s m args below meth c B.U B.locs B.cells B.slots ∧ Post ⟨T.setVm vm₁, locs, cells, slots⟩ (Value.ref b :: argsL).toArray v B ∧
      ∀ target, Steps p.tables e below (B.U.setTop { g with pc := g.pc + 3, stack := v.toList ++ rest }) target → Steps p.tables e below (T.setTop g) target) ∨
    (∃ (q : Addr) (vm₁ : Vm) (B : Pt), s.WarmedH vm₁ ∧ Stand p l e R s m args below meth c B.U B.locs B.cells B.slots ∧ PostX ⟨T.setVm vm₁, locs, cells, slots⟩ (Value.ref b :: argsL).toArray q B ∧
      Steps p.tables e below (T.setTop g) ((B.U.setTop { g with stack := rest }).pushFrame (.throwing q))) := by
  obtain ⟨mk, methM, hnamed, hmethM, hstM, habM⟩ := Cond.instanceMethod_spec hinst
  obtain ⟨m8, methM', cM, hn8, hmethM', -, -, -, -, -, -, hsigM⟩ := Cond.codeWith_spec hcode
  cases Option.some.inj (hn8.symm.trans hnamed)
  cases hmethM.symm.trans hmethM'
  obtain ⟨c2, r2, m2, q1, q2, q3, q4, kP, hkP, hkPi⟩ := Cond.selects_spec hsel
  cases hcls.symm.trans q1
  cases (State.methodFound?_of_named hnamed hy).symm.trans q2
  cases hnamed.symm.trans q3
  have hselP : selectMethod e.platform s.vm cellB.cls mk = .method mk := by rw [Launch.admits_selectMethod X.admits]; exact q4
  obtain ⟨vm₁, X₁, hstep₁⟩ := X.invokevirtual hexec hown hlink hnamed hmethM hstM hkP hkPi hy (a := b) (cell := cellB) hcell
    (fun z h => by rw [h] at hobj; cases hobj) hselP hmethM habM hkP hkPi (g := g) hg (argsL := argsL) (rest := rest) (hlen _ hsigM) hstack hdg
  rcases hK m meth c ⟨T.setVm vm₁, locs, cells, slots⟩ { g with stack := rest } (.invokevirtual index) mk (Value.ref b :: argsL).toArray X₁ hg hsize hdg hW (X₁.named hnamed) (hpre vm₁ X₁.warmed) with ⟨v, B, X', hpost, hsteps⟩ | ⟨q, B, X', hpost, hsteps⟩
  · exact Or.inl ⟨v, vm₁, B, X₁.warmed, X', hpost, fun target h => hstep₁ _ fun acts => by rw [doInvoke_state]; exact hsteps.trans h⟩
  · exact Or.inr ⟨q, vm₁, B, X₁.warmed, X', hpost, hstep₁ _ fun acts => by rw [doInvoke_state]; exact hsteps⟩
theorem vx_callSX (X : Stand p l e R s m args below meth c T locs cells slots) (hexec : p.tables.exec = Jvm.exec) {own : String} {index : Nat} {y : MethodName} {bytes : ByteArray} {maxL : Nat} {ret : Option FieldType} {hh : List (Nat × Nat × Nat × Nat)}
    (hown : s.vm.findClass own = some m.cls) (hlink : (Cond.methodLink own index y).before args s = true) (hstat : (Cond.static y).before args s = true) (hinit : (Cond.initialized y.cls).before args s = true)
    (hcode : (Cond.codeWith y bytes maxL ret hh).before args s = true) (hy : y.cls ≠ "java/lang/invoke/MethodHandle" ∧ y.cls ≠ "java/lang/invoke/VarHandle")
    {W9 : Nat} {Pre : Pt → Array Value → Prop} {Post : Pt → Array Value → Option Value → Pt → Prop} {PostX : Pt → Array Value → Addr → Pt → Prop} (hK : vx_Back l R p e below s args y 3 W9 Pre Post PostX)
    {g : JFrame} (hg : g.method = m) (hsize : g.locals.size = c.maxLocals) {argsL rest : List Value} (hlen : ∀ sig, parseMethodDescriptor y.desc = some sig → argsL.length = sig.parameters.length)
    (hstack : g.stack = argsL.reverse ++ rest) (hW : 2 * g.monitorRoom + (rest.map fun v => v.category).sum ≤ W9) (hdg : decode c.code g.pc = .ok (.invokestatic index, 3))
    (hpre : ∀ vm₁, s.WarmedH vm₁ → Pre ⟨T.setVm vm₁, locs, cells, slots⟩ argsL.toArray) :
    (∃ (v : Option Value) (vm₁ : Vm) (B : Pt), s.WarmedH vm₁ ∧ Stand p l e R s m args below meth c B.U B.locs B.cells B.slots ∧ Post ⟨T.setVm vm₁, locs, cells, slots⟩ argsL.toArray v B ∧
      ∀ target, Steps p.tables e below (B.U.setTop { g with pc := g.pc + 3, stack := v.toList ++ rest }) target → Steps p.tables e below (T.setTop g) target) ∨
    (∃ (q : Addr) (vm₁ : Vm) (B : Pt), s.WarmedH vm₁ ∧ Stand p l e R s m args below meth c B.U B.locs B.cells B.slots ∧ PostX ⟨T.setVm vm₁, locs, cells, slots⟩ argsL.toArray q B ∧
      Steps p.tables e below (T.setTop g) ((B.U.setTop { g with stack := rest }).pushFrame (.throwing q))) := by
  obtain ⟨mk, methM, cM, hnamed, hmethM, -, -, -, -, -, -, hsigM⟩ := Cond.codeWith_spec hcode
  have hstatic : methM.isStatic = true := Cond.static_spec hnamed hmethM hstat
  obtain ⟨kP, hkP, -⟩ := className_of_methodNamed hnamed
  have hinitP : kP.init = .initialized := Cond.initialized_spec (findClass_of_methodNamed hnamed) hkP hinit
  obtain ⟨vm₁, X₁, hstep₁⟩ := X.invokestatic hexec hown hlink hnamed hmethM hstatic hkP hinitP hy (g := g) hg (argsL := argsL) (rest := rest) (hlen _ hsigM) hstack hdg
  rcases hK m meth c ⟨T.setVm vm₁, locs, cells, slots⟩ { g with stack := rest } (.invokestatic index) mk argsL.toArray X₁ hg hsize hdg hW (X₁.named hnamed) (hpre vm₁ X₁.warmed) with ⟨v, B, X', hpost, hsteps⟩ | ⟨q, B, X', hpost, hsteps⟩
  · exact Or.inl ⟨v, vm₁, B, X₁.warmed, X', hpost, fun target h => hstep₁ _ fun acts => by rw [doInvoke_state]; exact hsteps.trans h⟩
  · exact Or.inr ⟨q, vm₁, B, X₁.warmed, X', hpost, hstep₁ _ fun acts => by rw [doInvoke_state]; exact hsteps⟩
theorem vx_callVW (X : Stand p l e R s m args below meth c T locs cells slots) (hexec : p.tables.exec = Jvm.exec) {own C : String} {index : Nat} {y : MethodName} {bytes : ByteArray} {maxL : Nat} {ret : Option FieldType} {hh : List (Nat × Nat × Nat × Nat)}
    (hown : s.vm.findClass own = some m.cls) (hlink : (Cond.methodLink own index y).before args s = true) (hinst : (Cond.instanceMethod y).before args s = true) (hsel : (Cond.selects C y y).before args s = true)
    (hcode : (Cond.codeWith y bytes maxL ret hh).before args s = true) (hy : y.cls ≠ "java/lang/invoke/MethodHandle" ∧ y.cls ≠ "java/lang/invoke/VarHandle")
    {W9 : Nat} {Pre : Pt → Array Value → Prop} {Post : Pt → Array Value → Option Value → Pt → Prop} (hK : Back l R p e below s args y 3 W9 Pre Post)
    {b : Addr} {cellB : Cell} (hcell : T.heap[b]? = some cellB) (hobj : cellB.vm.isStatics = false) (hcls : s.vm.findClass C = some cellB.cls)
    {g : JFrame} (hg : g.method = m) (hsize : g.locals.size = c.maxLocals) {argsL rest : List Value} (hlen : ∀ sig, parseMethodDescriptor y.desc = some sig → argsL.length = sig.parameters.length)
    (hstack : g.stack = argsL.reverse ++ .ref b :: rest) (hW : 2 * g.monitorRoom + (rest.map fun v => v.category).sum ≤ W9) (hdg : decode c.code g.pc = .ok (.invokevirtual index, 3))
    (hpre : ∀ vm₁, s.WarmedH vm₁ → Pre ⟨T.setVm vm₁, locs, cells, slots⟩ (Value.ref b :: argsL).toArray) :
    ∃ (v : Option Value) (vm₁ : Vm) (B : Pt), s.WarmedH vm₁ ∧ Stand p l e R s m args below meth c B.U B.locs B.cells B.slots ∧ Post ⟨T.setVm vm₁, locs, cells, slots⟩ (Value.ref b :: argsL).toArray v B ∧
      ∀ target, Steps p.tables e below (B.U.setTop { g with pc := g.pc + 3, stack := v.toList ++ rest }) target → Steps p.tables e below (T.setTop g) target := by
  obtain ⟨mk, methM, hnamed, hmethM, hstM, habM⟩ := Cond.instanceMethod_spec hinst
  obtain ⟨m8, methM', cM, hn8, hmethM', -, -, -, -, -, -, hsigM⟩ := Cond.codeWith_spec hcode
  cases Option.some.inj (hn8.symm.trans hnamed)
  cases hmethM.symm.trans hmethM'
  obtain ⟨c2, r2, m2, q1, q2, q3, q4, kP, hkP, hkPi⟩ := Cond.selects_spec hsel
  cases hcls.symm.trans q1
  cases (State.methodFound?_of_named hnamed hy).symm.trans q2
  cases hnamed.symm.trans q3
  have hselP : selectMethod e.platform s.vm cellB.cls mk = .method mk := by rw [Launch.admits_selectMethod X.admits]; exact q4
  obtain ⟨vm₁, X₁, hstep₁⟩ := X.invokevirtual hexec hown hlink hnamed hmethM hstM hkP hkPi hy (a := b) (cell := cellB) hcell
    (fun z h => by rw [h] at hobj; cases hobj) hselP hmethM habM hkP hkPi (g := g) hg (argsL := argsL) (rest := rest) (hlen _ hsigM) hstack hdg
  obtain ⟨v, B, X', hpost, hsteps⟩ := hK m meth c ⟨T.setVm vm₁, locs, cells, slots⟩ { g with stack := rest } (.invokevirtual index) mk (Value.ref b :: argsL).toArray X₁ hg hsize hdg hW (X₁.named hnamed) (hpre vm₁ X₁.warmed)
  exact ⟨v, vm₁, B, X₁.warmed, X', hpost, fun target h => hstep₁ _ fun acts => by rw [doInvoke_state]; exact hsteps.trans h⟩
abbrev vx_CVW (R : Room) (s : State) (args : Array Value) (own C : String) (index : Nat) (y : MethodName) (bytes : ByteArray) (maxL : Nat) (ret : Option FieldType) (hh : List (Nat × Nat × Nat × Nat)) (ws : List Cond) (rm : Room) (mc ms n : Nat) : Prop :=
  (rm.cells = mc ∧ rm.slots = ms ∧ rm.frames + 1 ≤ R.frames ∧ 8 + (maxL + 11) + rm.locals ≤ R.locals ∧ (∀ w ∈ ws, ∀ (a' : Array Value) (U : State), s.WarmedH U.vm → w.before a' U = true) ∧ Cond.codeWith y bytes maxL ret hh ∈ ws) ∧
  (Cond.codeWith y bytes maxL ret hh).before args s = true ∧ (Cond.initialized y.cls).before args s = true ∧ (y.cls ≠ "java/lang/invoke/MethodHandle" ∧ y.cls ≠ "java/lang/invoke/VarHandle") ∧
  (∀ sig, parseMethodDescriptor y.desc = some sig → n = sig.parameters.length) ∧ (Cond.methodLink own index y).before args s = true ∧ (Cond.instanceMethod y).before args s = true ∧ (Cond.selects C y y).before args s = true
theorem vx_cwVW {own C : String} {index maxL mc ms : Nat} {y : MethodName} {bytes : ByteArray} {ret : Option FieldType} {hh : List (Nat × Nat × Nat × Nat)} {Ts ws ws' : List Cond} {rm : Room} (n : Nat) (ht : ∀ w ∈ Ts, w.before args s = true) (hT : GoodIn Ts (wsV own index C y ws)) (hw : ws = Cond.codeWith y bytes maxL ret hh :: ws') (hrc : rm.cells = mc) (hrs : rm.slots = ms)
    (hd : y.cls = C ∧ y.cls ≠ "java/lang/invoke/MethodHandle" ∧ y.cls ≠ "java/lang/invoke/VarHandle" ∧ (parseMethodDescriptor y.desc).map (fun d => d.parameters.length) = some n) (hR : rm.frames + 1 ≤ R.frames ∧ 8 + (maxL + 11) + rm.locals ≤ R.locals) :
    vx_CVW R s args own C index y bytes maxL ret hh ws rm mc ms n := by
  obtain ⟨hC, hd⟩ := hd
  subst hC
  have ok : ∀ w ∈ wsV own index y.cls y ws, w.before args s = true := fun w h => ht w (hT w h).1
  have hG : GoodIn Ts ws := fun w h => hT w (by unfold wsV; exact List.mem_append_right _ h)
  have hc : Cond.codeWith y bytes maxL ret hh ∈ ws := by rw [hw]; exact List.mem_cons_self
  refine ⟨⟨hrc, hrs, hR.1, hR.2, pay_in ht hG, hc⟩, ht _ (hG _ hc).1, ok _ (by simp [wsV]), ⟨hd.1, hd.2.1⟩, fun sig h => ?_, ok _ (by simp [wsV]), ok _ (by simp [wsV]), ok _ (by simp [wsV])⟩
  have h2 := hd.2.2
  rw [h] at h2
  exact (Option.some.inj h2).symm
theorem vx_runVW {y : MethodName} {bytes cc : ByteArray} {maxL nL mc ms n index : Nat} {ret : Option FieldType} {hh : List (Nat × Nat × Nat × Nat)} {ws : List Cond} {rm : Room} {Pc : Array Value → State → Prop} {Qc : Array Value → State → Outcome → State → Prop} {free : Addr → Prop} {Ts : List Cond} {own C : String} {b : Addr} {As rest : List Value} {g : JFrame}
    (S : CallFix p m c cc nL s args Ts own) (hM : Met l y ws rm Pc Qc mc ms free) (cw : vx_CVW R s args own C index y bytes maxL ret hh ws rm mc ms n) (hp : PreV s H C b Pc As)
    (hg : g.method = m) (hn : As.length = n) (hsize : g.locals.size = nL) (hstack : g.stack = As.reverse ++ .ref b :: rest) (hW : 2 * g.monitorRoom + (rest.map fun v => v.category).sum ≤ 8) (hdg : decode cc g.pc = .ok (.invokevirtual index, 3)) (hf : cells + mc ≤ R.cells ∧ slots + ms ≤ R.slots) :
    va_Run p l e R s m args below meth c H locs cells slots mc ms g rest (Qc (Value.ref b :: As).toArray) free := by
  obtain ⟨⟨hrc, hrs, hfr, hlo, hws, hcw⟩, hcode, hini, hy, hlen, hl, hin, hse⟩ := cw
  have hK : Back l R p e below s args y 3 8 (PreOf R mc ms Pc) (PostOf Qc mc ms free) := va_backW (hh := hh) (bytes := bytes) (maxL := maxL) (ret := ret) hM hp.1 hrc hrs hfr hlo hws hcw (fun a' U hW => word_at hW (Or.inl (by first | rfl | simp [Cond.onTables, Cond.keeps, Cond.steady])) hini)
  obtain ⟨hx, hb, hml, ho, -⟩ := S
  obtain ⟨-, ⟨cellB, hcB, hoB, hclB⟩, hPc⟩ := hp
  intro T hT X
  obtain ⟨v, vm₁, ⟨U', l2, c2, s2⟩, hW₁, X', ⟨g', mk, t, L, e1, e2, hq, h1, hL, h2, h3⟩, st⟩ := vx_callVW X hx (C := C) (hh := hh) (bytes := bytes) (maxL := maxL) (ret := ret) ho hl hin hse hcode hy hK (by rw [hT]; exact hcB) hoB hclB hg (hsize.trans hml.symm) (argsL := As) (rest := rest) (fun sig h => hn.trans (hlen sig h)) hstack hW (by rw [hb]; exact hdg)
    (fun vm₁ hW₁ => ⟨hf.1, hf.2, hPc (T.setVm vm₁) hT hW₁⟩)
  dsimp only [Pt.U, Pt.locs, Pt.cells, Pt.slots] at X' e1 e2 h1 h2 h3 st
  subst h1; subst h2; subst h3
  exact ⟨v, (T.setVm vm₁).calling g' mk (Value.ref b :: As).toArray, t, U', L, hT, X', hL, e1, e2, hq, st⟩
section
variable {y : MethodName} {bytes cc : ByteArray} {maxL nL mc ms n index : Nat} {ret : Option FieldType} {ws : List Cond} {rm : Room} {Pc : Array Value → State → Prop} {Qc : Array Value → State → Outcome → State → Prop} {XC : String → State → State → Prop} {free : Addr → Prop} {Ts : List Cond} {own C : String} {b : Addr} {As rest : List Value} {g : JFrame}
theorem vx_runVX {hh : List (Nat × Nat × Nat × Nat)} (S : CallFix p m c cc nL s args Ts own) (hM : vx_Met l y ws rm Pc Qc XC mc ms free) (cw : vx_CVW R s args own C index y bytes maxL ret hh ws rm mc ms n) (hp : PreV s H C b Pc As)
    (hg : g.method = m) (hn : As.length = n) (hsize : g.locals.size = nL) (hstack : g.stack = As.reverse ++ .ref b :: rest) (hW : 2 * g.monitorRoom + (rest.map fun v => v.category).sum ≤ 8) (hdg : decode cc g.pc = .ok (.invokevirtual index, 3)) (hf : cells + mc ≤ R.cells ∧ slots + ms ≤ R.slots) :
    vx_Run p l e R s m args below meth c H locs cells slots mc ms g rest (Qc (Value.ref b :: As).toArray) XC free := by
  obtain ⟨⟨hrc, hrs, hfr, hlo, hws, hcw⟩, hcode, hini, hy, hlen, hl, hin, hse⟩ := cw
  have hK : vx_Back l R p e below s args y 3 8 (PreOf R mc ms Pc) (PostOf Qc mc ms free) (vx_Post XC mc ms free) := vx_backW (hh := hh) (bytes := bytes) (maxL := maxL) (ret := ret) hM hp.1 hrc hrs hfr hlo hws hcw (fun a' U hW => word_at hW (Or.inl (by first | rfl | simp [Cond.onTables, Cond.keeps, Cond.steady])) hini)
  obtain ⟨hx, hb, hml, ho, -⟩ := S
  obtain ⟨-, ⟨cellB, hcB, hoB, hclB⟩, hPc⟩ := hp
  intro T hT X
  rcases vx_callVX X hx (C := C) (hh := hh) (bytes := bytes) (maxL := maxL) (ret := ret) ho hl hin hse hcode hy hK (by rw [hT]; exact hcB) hoB hclB hg (hsize.trans hml.symm) (argsL := As) (rest := rest) (fun sig h => hn.trans (hlen sig h)) hstack hW (by rw [hb]; exact hdg)
    (fun vm₁ hW₁ => ⟨hf.1, hf.2, hPc (T.setVm vm₁) hT hW₁⟩) with ⟨v, vm₁, ⟨U', l2, c2, s2⟩, hW₁, X', ⟨g', mk, t, L, e1, e2, hq, h1, hL, h2, h3⟩, st⟩ | ⟨q, vm₁, ⟨U', l2, c2, s2⟩, hW₁, X', ⟨g', mk, t, L, E, ce, e1, e2, hq, hce, hcv, hcl, h1, hL, h2, h3⟩, st⟩
  · dsimp only [Pt.U, Pt.locs, Pt.cells, Pt.slots] at X' e1 e2 h1 h2 h3 st
    subst h1; subst h2; subst h3
    exact Or.inl ⟨v, (T.setVm vm₁).calling g' mk (Value.ref b :: As).toArray, t, U', L, hT, X', hL, e1, e2, hq, st⟩
  · dsimp only [Pt.U, Pt.locs, Pt.cells, Pt.slots] at X' e1 e2 h1 h2 h3 st hcl
    subst h1; subst h2; subst h3
    exact Or.inr ⟨q, (T.setVm vm₁).calling g' mk (Value.ref b :: As).toArray, t, U', L, E, ce, hT, X', hL, e1, e2, hq, hce, hcv, vx_cls hW₁ hcl, st⟩
theorem vx_runSX {hh : List (Nat × Nat × Nat × Nat)} (S : CallFix p m c cc nL s args Ts own) (hM : vx_Met l y ws rm Pc Qc XC mc ms free) (cw : vx_CSW R s args own index y bytes maxL ret hh ws rm mc ms n) (hp : PreS s H Pc As)
    (hg : g.method = m) (hn : As.length = n) (hsize : g.locals.size = nL) (hstack : g.stack = As.reverse ++ rest) (hW : 2 * g.monitorRoom + (rest.map fun v => v.category).sum ≤ 8) (hdg : decode cc g.pc = .ok (.invokestatic index, 3)) (hf : cells + mc ≤ R.cells ∧ slots + ms ≤ R.slots) :
    vx_Run p l e R s m args below meth c H locs cells slots mc ms g rest (Qc As.toArray) XC free := by
  obtain ⟨⟨hrc, hrs, hfr, hlo, hws, hcw⟩, hcode, hini, hy, hlen, hl, hstt⟩ := cw
  have hK : vx_Back l R p e below s args y 3 8 (PreOf R mc ms Pc) (PostOf Qc mc ms free) (vx_Post XC mc ms free) := vx_backW (hh := hh) (bytes := bytes) (maxL := maxL) (ret := ret) hM hp.1 hrc hrs hfr hlo hws hcw (fun a' U hW => word_at hW (Or.inl (by first | rfl | simp [Cond.onTables, Cond.keeps, Cond.steady])) hini)
  obtain ⟨hx, hb, hml, ho, -⟩ := S
  intro T hT X
  rcases vx_callSX X hx (hh := hh) (bytes := bytes) (maxL := maxL) (ret := ret) ho hl hstt hini hcode hy hK hg (hsize.trans hml.symm) (argsL := As) (rest := rest) (fun sig h => hn.trans (hlen sig h)) hstack hW (by rw [hb]; exact hdg)
    (fun vm₁ hW₁ => ⟨hf.1, hf.2, hp.2 (T.setVm vm₁) hT hW₁⟩) with ⟨v, vm₁, ⟨U', l2, c2, s2⟩, hW₁, X', ⟨g', mk, t, L, e1, e2, hq, h1, hL, h2, h3⟩, st⟩ | ⟨q, vm₁, ⟨U', l2, c2, s2⟩, hW₁, X', ⟨g', mk, t, L, E, ce, e1, e2, hq, hce, hcv, hcl, h1, hL, h2, h3⟩, st⟩
  · dsimp only [Pt.U, Pt.locs, Pt.cells, Pt.slots] at X' e1 e2 h1 h2 h3 st
    subst h1; subst h2; subst h3
    exact Or.inl ⟨v, (T.setVm vm₁).calling g' mk As.toArray, t, U', L, hT, X', hL, e1, e2, hq, st⟩
  · dsimp only [Pt.U, Pt.locs, Pt.cells, Pt.slots] at X' e1 e2 h1 h2 h3 st hcl
    subst h1; subst h2; subst h3
    exact Or.inr ⟨q, (T.setVm vm₁).calling g' mk As.toArray, t, U', L, E, ce, hT, X', hL, e1, e2, hq, hce, hcv, vx_cls hW₁ hcl, st⟩
end
end VXH
theorem vx_ofWH {l : Launch} {y : MethodName} {ws ws' : List Cond} {rm : Room} {Pc : Array Value → State → Prop} {Qc : Array Value → State → Outcome → State → Prop} {XC : String → State → State → Prop} {mc ms : Nat} {free : Addr → Prop} {cc : ByteArray} {maxL : Nat} {ret : Option FieldType} {hh : List (Nat × Nat × Nat × Nat)}
    (hy : plainName y.cls = true) (hw : ws = Cond.codeWith y cc maxL ret hh :: ws')
    (body : ∀ p e s m args below meth c s₁, BodyLoose p l y (headSpec ws rm) cc maxL ret e s m args below meth c s₁ → c.maxLocals = maxL → Pc args s →
      W p l e (headSpec ws rm).room s m args below meth c s.heap [] 0 0 (vx_MQ below Qc XC args s mc ms free) (entryFrame m args maxL)) : vx_Met l y ws rm Pc Qc XC mc ms free := by
  refine MetFree.of_bodyS (code := cc) (maxLocals := maxL) (ret := ret) hy ?_ ?_
  · intro args s m h hn
    obtain ⟨m9, meth, c, hn9, h1, h2, h3, h4, -, h5, h6, -⟩ := Cond.codeWith_spec (atoms_spec (ws := ws) h _ (by rw [hw]; exact List.mem_cons_self))
    cases hn.symm.trans hn9
    exact ⟨meth, c, h1, h2, h3, h4, h5, h6⟩
  · intro p e s m args below meth c s₁ B hml hP _
    have hh0 : s₁.heap = s.heap := by rw [B.state]; rfl
    obtain ⟨t, a1, o, b1, b2, b3⟩ := body p e s m args below meth c s₁ B hml hP s₁ hh0 (Stand.of_body B)
    exact ⟨t, o, a1, b1, b2, b3⟩
/-! ===== END ===== -/
end
section
def RX0 : String := "TicketGate$Bytes"
def TX0 : u_T := fun k => match k with
  | 0 => ("TicketGate$Bytes", "cells", "[I", true)
  | _ => ("TicketGate$Bytes", "count", "I", false)
def tyX0 : Nat → FieldType := fun k => match k with
  | 0 => .array .int
  | _ => .int
theorem nmX0 : ∀ a, a < 2 → ∀ b, b < 2 → a ≠ b → (TX0 a).2.1 ≠ (TX0 b).2.1 := by decide +kernel
theorem tyX0_ok : ∀ k, k < 2 → parseFieldDescriptor (TX0 k).2.2.1 = some (tyX0 k) := by decide +kernel
abbrev cX0_init : ByteArray := prog_2_method_1_code
def yX0_init : MethodName := ⟨RX0, "<init>", "(I)V"⟩
abbrev cX0_size : ByteArray := prog_2_method_2_code
def yX0_size : MethodName := ⟨RX0, "size", "()I"⟩
abbrev cX0_at : ByteArray := prog_2_method_3_code
def yX0_at : MethodName := ⟨RX0, "at", "(I)I"⟩
abbrev cX0_cut : ByteArray := prog_2_method_4_code
def yX0_cut : MethodName := ⟨RX0, "cut", "(I)V"⟩
abbrev cX0_add : ByteArray := prog_2_method_5_code
def yX0_add : MethodName := ⟨RX0, "add", "(I)V"⟩
abbrev cX0_addFour : ByteArray := prog_2_method_6_code
def yX0_addFour : MethodName := ⟨RX0, "addFour", "(I)V"⟩
abbrev cX0_addText : ByteArray := prog_2_method_7_code
def yX0_addText : MethodName := ⟨RX0, "addText", "(Ljava/lang/String;)V"⟩
abbrev cX0_endOfRun : ByteArray := prog_2_method_10_code
def yX0_endOfRun : MethodName := ⟨RX0, "endOfRun", "(III)I"⟩
abbrev cX0_endOfBlanks : ByteArray := prog_2_method_11_code
def yX0_endOfBlanks : MethodName := ⟨RX0, "endOfBlanks", "(I)I"⟩
abbrev cX0_nameBetween : ByteArray := prog_2_method_12_code
def yX0_nameBetween : MethodName := ⟨RX0, "nameBetween", "(II)I"⟩
abbrev cX0_numberBetween : ByteArray := prog_2_method_13_code
def yX0_numberBetween : MethodName := ⟨RX0, "numberBetween", "(II)I"⟩
abbrev cX0_isText : ByteArray := prog_2_method_14_code
def yX0_isText : MethodName := ⟨RX0, "isText", "(IILjava/lang/String;)Z"⟩
def RX1 : String := "TicketGate$Parser"
def TX1 : u_T := fun k => match k with
  | 0 => ("TicketGate$Parser", "text", "LTicketGate$Bytes;", true)
  | 1 => ("TicketGate$Parser", "draft", "LTicketGate$State;", true)
  | 2 => ("TicketGate$Parser", "start", "I", false)
  | 3 => ("TicketGate$Parser", "end", "I", false)
  | 4 => ("TicketGate$Parser", "kind", "I", false)
  | 5 => ("TicketGate$Parser", "value", "I", false)
  | 6 => ("TicketGate$Parser", "error", "I", false)
  | _ => ("TicketGate$Parser", "errorAt", "I", false)
def tyX1 : Nat → FieldType := fun k => match k with
  | 0 => .object "TicketGate$Bytes"
  | 1 => .object "TicketGate$State"
  | 2 => .int
  | 3 => .int
  | 4 => .int
  | 5 => .int
  | 6 => .int
  | _ => .int
theorem nmX1 : ∀ a, a < 8 → ∀ b, b < 8 → a ≠ b → (TX1 a).2.1 ≠ (TX1 b).2.1 := by decide +kernel
theorem tyX1_ok : ∀ k, k < 8 → parseFieldDescriptor (TX1 k).2.2.1 = some (tyX1 k) := by decide +kernel
abbrev cX1_init : ByteArray := prog_3_method_1_code
def yX1_init : MethodName := ⟨RX1, "<init>", "(LTicketGate$Bytes;)V"⟩
abbrev cX1_run : ByteArray := prog_3_method_2_code
def yX1_run : MethodName := ⟨RX1, "run", "()Z"⟩
abbrev cX1_readStatement : ByteArray := prog_3_method_3_code
def yX1_readStatement : MethodName := ⟨RX1, "readStatement", "()V"⟩
abbrev cX1_readGate : ByteArray := prog_3_method_4_code
def yX1_readGate : MethodName := ⟨RX1, "readGate", "()V"⟩
abbrev cX1_readRealm : ByteArray := prog_3_method_5_code
def yX1_readRealm : MethodName := ⟨RX1, "readRealm", "()V"⟩
abbrev cX1_readTrust : ByteArray := prog_3_method_6_code
def yX1_readTrust : MethodName := ⟨RX1, "readTrust", "()V"⟩
abbrev cX1_readUser : ByteArray := prog_3_method_7_code
def yX1_readUser : MethodName := ⟨RX1, "readUser", "()V"⟩
abbrev cX1_readService : ByteArray := prog_3_method_8_code
def yX1_readService : MethodName := ⟨RX1, "readService", "()V"⟩
abbrev cX1_readLogin : ByteArray := prog_3_method_9_code
def yX1_readLogin : MethodName := ⟨RX1, "readLogin", "()V"⟩
abbrev cX1_readRefer : ByteArray := prog_3_method_10_code
def yX1_readRefer : MethodName := ⟨RX1, "readRefer", "()V"⟩
abbrev cX1_readRequest : ByteArray := prog_3_method_11_code
def yX1_readRequest : MethodName := ⟨RX1, "readRequest", "()V"⟩
abbrev cX1_readRenew : ByteArray := prog_3_method_12_code
def yX1_readRenew : MethodName := ⟨RX1, "readRenew", "()V"⟩
abbrev cX1_readCheese : ByteArray := prog_3_method_13_code
def yX1_readCheese : MethodName := ⟨RX1, "readCheese", "()V"⟩
abbrev cX1_readDrop : ByteArray := prog_3_method_14_code
def yX1_readDrop : MethodName := ⟨RX1, "readDrop", "()V"⟩
abbrev cX1_readSweep : ByteArray := prog_3_method_15_code
def yX1_readSweep : MethodName := ⟨RX1, "readSweep", "()V"⟩
abbrev cX1_readPass : ByteArray := prog_3_method_16_code
def yX1_readPass : MethodName := ⟨RX1, "readPass", "()V"⟩
abbrev cX1_number : ByteArray := prog_3_method_17_code
def yX1_number : MethodName := ⟨RX1, "number", "(II)I"⟩
abbrev cX1_newName : ByteArray := prog_3_method_18_code
def yX1_newName : MethodName := ⟨RX1, "newName", "()I"⟩
abbrev cX1_knownName : ByteArray := prog_3_method_19_code
def yX1_knownName : MethodName := ⟨RX1, "knownName", "(LTicketGate$Table;I)I"⟩
abbrev cX1_knownTicket : ByteArray := prog_3_method_20_code
def yX1_knownTicket : MethodName := ⟨RX1, "knownTicket", "()I"⟩
abbrev cX1_clockWord : ByteArray := prog_3_method_21_code
def yX1_clockWord : MethodName := ⟨RX1, "clockWord", "()I"⟩
abbrev cX1_semicolon : ByteArray := prog_3_method_22_code
def yX1_semicolon : MethodName := ⟨RX1, "semicolon", "(Z)Z"⟩
abbrev cX1_isWord : ByteArray := prog_3_method_23_code
def yX1_isWord : MethodName := ⟨RX1, "isWord", "(Ljava/lang/String;)Z"⟩
abbrev cX1_require : ByteArray := prog_3_method_24_code
def yX1_require : MethodName := ⟨RX1, "require", "(ZI)V"⟩
abbrev cX1_take : ByteArray := prog_3_method_25_code
def yX1_take : MethodName := ⟨RX1, "take", "()I"⟩
def RX2 : String := "TicketGate$Realms"
def TX2 : u_T := fun k => match k with
  | 0 => ("TicketGate$Table", "limit", "I", true)
  | 1 => ("TicketGate$Table", "width", "I", true)
  | 2 => ("TicketGate$Table", "cells", "[I", true)
  | _ => ("TicketGate$Table", "rows", "I", false)
def tyX2 : Nat → FieldType := fun k => match k with
  | 0 => .int
  | 1 => .int
  | 2 => .array .int
  | _ => .int
theorem nmX2 : ∀ a, a < 4 → ∀ b, b < 4 → a ≠ b → (TX2 a).2.1 ≠ (TX2 b).2.1 := by decide +kernel
theorem tyX2_ok : ∀ k, k < 4 → parseFieldDescriptor (TX2 k).2.2.1 = some (tyX2 k) := by decide +kernel
abbrev cX2_init : ByteArray := prog_4_method_1_code
def yX2_init : MethodName := ⟨RX2, "<init>", "()V"⟩
abbrev cX2_addRealm : ByteArray := prog_4_method_2_code
def yX2_addRealm : MethodName := ⟨RX2, "addRealm", "(IIII)V"⟩
abbrev cX2_addTrust : ByteArray := prog_4_method_3_code
def yX2_addTrust : MethodName := ⟨RX2, "addTrust", "(II)V"⟩
abbrev cX2_hasTrust : ByteArray := prog_4_method_4_code
def yX2_hasTrust : MethodName := ⟨RX2, "hasTrust", "(II)Z"⟩
abbrev cX2_referrals : ByteArray := prog_4_method_5_code
def yX2_referrals : MethodName := ⟨RX2, "referrals", "(II)I"⟩
abbrev cX2_trustedBySome : ByteArray := prog_4_method_6_code
def yX2_trustedBySome : MethodName := ⟨RX2, "trustedBySome", "(I)I"⟩
abbrev cX2_countDistanceErrors : ByteArray := prog_4_method_8_code
def yX2_countDistanceErrors : MethodName := ⟨RX2, "countDistanceErrors", "()I"⟩
def RX3 : String := "TicketGate$Services"
def TX3 : u_T := fun k => match k with
  | 0 => ("TicketGate$Table", "limit", "I", true)
  | 1 => ("TicketGate$Table", "width", "I", true)
  | 2 => ("TicketGate$Table", "cells", "[I", true)
  | _ => ("TicketGate$Table", "rows", "I", false)
def tyX3 : Nat → FieldType := fun k => match k with
  | 0 => .int
  | 1 => .int
  | 2 => .array .int
  | _ => .int
theorem nmX3 : ∀ a, a < 4 → ∀ b, b < 4 → a ≠ b → (TX3 a).2.1 ≠ (TX3 b).2.1 := by decide +kernel
theorem tyX3_ok : ∀ k, k < 4 → parseFieldDescriptor (TX3 k).2.2.1 = some (tyX3 k) := by decide +kernel
abbrev cX3_init : ByteArray := prog_5_method_1_code
def yX3_init : MethodName := ⟨RX3, "<init>", "()V"⟩
abbrev cX3_addService : ByteArray := prog_5_method_2_code
def yX3_addService : MethodName := ⟨RX3, "addService", "(III)V"⟩
def RX4 : String := "TicketGate$Shelf"
def TX4 : u_T := fun k => match k with
  | _ => ("TicketGate$Shelf", "states", "[LTicketGate$State;", true)
def tyX4 : Nat → FieldType := fun k => match k with
  | _ => .array (.object "TicketGate$State")
theorem nmX4 : ∀ a, a < 1 → ∀ b, b < 1 → a ≠ b → (TX4 a).2.1 ≠ (TX4 b).2.1 := by decide +kernel
theorem tyX4_ok : ∀ k, k < 1 → parseFieldDescriptor (TX4 k).2.2.1 = some (tyX4 k) := by decide +kernel
abbrev cX4_init : ByteArray := prog_6_method_1_code
def yX4_init : MethodName := ⟨RX4, "<init>", "(I)V"⟩
abbrev cX4_put : ByteArray := prog_6_method_3_code
def yX4_put : MethodName := ⟨RX4, "put", "(ILTicketGate$State;)V"⟩
def RX5 : String := "TicketGate$State"
def TX5 : u_T := fun k => match k with
  | 0 => ("TicketGate$State", "realms", "LTicketGate$Realms;", true)
  | 1 => ("TicketGate$State", "users", "LTicketGate$Users;", true)
  | 2 => ("TicketGate$State", "services", "LTicketGate$Services;", true)
  | 3 => ("TicketGate$State", "tickets", "LTicketGate$Tickets;", true)
  | 4 => ("TicketGate$State", "uses", "LTicketGate$Uses;", true)
  | 5 => ("TicketGate$State", "time", "I", false)
  | 6 => ("TicketGate$State", "tolerance", "I", false)
  | 7 => ("TicketGate$State", "seed", "I", false)
  | 8 => ("TicketGate$State", "madeTickets", "I", false)
  | _ => ("TicketGate$State", "cheesesOfText", "I", false)
def tyX5 : Nat → FieldType := fun k => match k with
  | 0 => .object "TicketGate$Realms"
  | 1 => .object "TicketGate$Users"
  | 2 => .object "TicketGate$Services"
  | 3 => .object "TicketGate$Tickets"
  | 4 => .object "TicketGate$Uses"
  | 5 => .int
  | 6 => .int
  | 7 => .int
  | 8 => .int
  | _ => .int
theorem nmX5 : ∀ a, a < 10 → ∀ b, b < 10 → a ≠ b → (TX5 a).2.1 ≠ (TX5 b).2.1 := by decide +kernel
theorem tyX5_ok : ∀ k, k < 10 → parseFieldDescriptor (TX5 k).2.2.1 = some (tyX5 k) := by decide +kernel
abbrev cX5_init : ByteArray := prog_7_method_1_code
def yX5_init : MethodName := ⟨RX5, "<init>", "()V"⟩
abbrev cX5_begin : ByteArray := prog_7_method_2_code
def yX5_begin : MethodName := ⟨RX5, "begin", "(II)V"⟩
abbrev cX5_copyFrom : ByteArray := prog_7_method_3_code
def yX5_copyFrom : MethodName := ⟨RX5, "copyFrom", "(LTicketGate$State;)V"⟩
abbrev cX5_codeOfName : ByteArray := prog_7_method_4_code
def yX5_codeOfName : MethodName := ⟨RX5, "codeOfName", "(I)I"⟩
abbrev cX5_skewOf : ByteArray := prog_7_method_5_code
def yX5_skewOf : MethodName := ⟨RX5, "skewOf", "(II)I"⟩
abbrev cX5_isSkewed : ByteArray := prog_7_method_6_code
def yX5_isSkewed : MethodName := ⟨RX5, "isSkewed", "(I)Z"⟩
abbrev cX5_whyNoLogin : ByteArray := prog_7_method_7_code
def yX5_whyNoLogin : MethodName := ⟨RX5, "whyNoLogin", "(II)I"⟩
abbrev cX5_whyNoReferral : ByteArray := prog_7_method_8_code
def yX5_whyNoReferral : MethodName := ⟨RX5, "whyNoReferral", "(II)I"⟩
abbrev cX5_whyNoRequest : ByteArray := prog_7_method_9_code
def yX5_whyNoRequest : MethodName := ⟨RX5, "whyNoRequest", "(II)I"⟩
abbrev cX5_whyNoRenewal : ByteArray := prog_7_method_10_code
def yX5_whyNoRenewal : MethodName := ⟨RX5, "whyNoRenewal", "(I)I"⟩
abbrev cX5_whyNoCheese : ByteArray := prog_7_method_11_code
def yX5_whyNoCheese : MethodName := ⟨RX5, "whyNoCheese", "(II)I"⟩
abbrev cX5_makeLogin : ByteArray := prog_7_method_12_code
def yX5_makeLogin : MethodName := ⟨RX5, "makeLogin", "(IZ)I"⟩
abbrev cX5_makeReferral : ByteArray := prog_7_method_13_code
def yX5_makeReferral : MethodName := ⟨RX5, "makeReferral", "(II)I"⟩
abbrev cX5_makeRequest : ByteArray := prog_7_method_14_code
def yX5_makeRequest : MethodName := ⟨RX5, "makeRequest", "(II)I"⟩
abbrev cX5_makeRenewal : ByteArray := prog_7_method_15_code
def yX5_makeRenewal : MethodName := ⟨RX5, "makeRenewal", "(I)I"⟩
abbrev cX5_giveCheese : ByteArray := prog_7_method_16_code
def yX5_giveCheese : MethodName := ⟨RX5, "giveCheese", "(I)I"⟩
abbrev cX5_letPass : ByteArray := prog_7_method_17_code
def yX5_letPass : MethodName := ⟨RX5, "letPass", "(I)V"⟩
abbrev cX5_renewedEnd : ByteArray := prog_7_method_18_code
def yX5_renewedEnd : MethodName := ⟨RX5, "renewedEnd", "(I)I"⟩
abbrev cX5_drawKey : ByteArray := prog_7_method_19_code
def yX5_drawKey : MethodName := ⟨RX5, "drawKey", "()I"⟩
abbrev cX5_makeTicket : ByteArray := prog_7_method_20_code
def yX5_makeTicket : MethodName := ⟨RX5, "makeTicket", "(III)I"⟩
abbrev cX5_inheritLife : ByteArray := prog_7_method_21_code
def yX5_inheritLife : MethodName := ⟨RX5, "inheritLife", "(II)V"⟩
abbrev cX5_setLife : ByteArray := prog_7_method_22_code
def yX5_setLife : MethodName := ⟨RX5, "setLife", "(IZII)V"⟩
def RX6 : String := "TicketGate$Table"
def TX6 : u_T := fun k => match k with
  | _ => ("", "", "", false)
def tyX6 : Nat → FieldType := fun k => match k with
  | _ => .int
theorem nmX6 : ∀ a, a < 0 → ∀ b, b < 0 → a ≠ b → (TX6 a).2.1 ≠ (TX6 b).2.1 := by decide +kernel
theorem tyX6_ok : ∀ k, k < 0 → parseFieldDescriptor (TX6 k).2.2.1 = some (tyX6 k) := by decide +kernel
abbrev cX6_init : ByteArray := prog_8_method_1_code
def yX6_init : MethodName := ⟨RX6, "<init>", "(II)V"⟩
abbrev cX6_size : ByteArray := prog_8_method_2_code
def yX6_size : MethodName := ⟨RX6, "size", "()I"⟩
abbrev cX6_isFull : ByteArray := prog_8_method_3_code
def yX6_isFull : MethodName := ⟨RX6, "isFull", "()Z"⟩
abbrev cX6_has : ByteArray := prog_8_method_4_code
def yX6_has : MethodName := ⟨RX6, "has", "(I)Z"⟩
abbrev cX6_get : ByteArray := prog_8_method_5_code
def yX6_get : MethodName := ⟨RX6, "get", "(II)I"⟩
abbrev cX6_set : ByteArray := prog_8_method_6_code
def yX6_set : MethodName := ⟨RX6, "set", "(III)V"⟩
abbrev cX6_addRow : ByteArray := prog_8_method_7_code
def yX6_addRow : MethodName := ⟨RX6, "addRow", "()I"⟩
abbrev cX6_removeRow : ByteArray := prog_8_method_8_code
def yX6_removeRow : MethodName := ⟨RX6, "removeRow", "(I)V"⟩
abbrev cX6_removeAll : ByteArray := prog_8_method_9_code
def yX6_removeAll : MethodName := ⟨RX6, "removeAll", "()V"⟩
abbrev cX6_rowWith : ByteArray := prog_8_method_10_code
def yX6_rowWith : MethodName := ⟨RX6, "rowWith", "(II)I"⟩
abbrev cX6_sumOf : ByteArray := prog_8_method_11_code
def yX6_sumOf : MethodName := ⟨RX6, "sumOf", "(I)I"⟩
abbrev cX6_copyFrom : ByteArray := prog_8_method_12_code
def yX6_copyFrom : MethodName := ⟨RX6, "copyFrom", "(LTicketGate$Table;)V"⟩
def RX7 : String := "TicketGate$Tickets"
def TX7 : u_T := fun k => match k with
  | 0 => ("TicketGate$Table", "limit", "I", true)
  | 1 => ("TicketGate$Table", "width", "I", true)
  | 2 => ("TicketGate$Table", "cells", "[I", true)
  | _ => ("TicketGate$Table", "rows", "I", false)
def tyX7 : Nat → FieldType := fun k => match k with
  | 0 => .int
  | 1 => .int
  | 2 => .array .int
  | _ => .int
theorem nmX7 : ∀ a, a < 4 → ∀ b, b < 4 → a ≠ b → (TX7 a).2.1 ≠ (TX7 b).2.1 := by decide +kernel
theorem tyX7_ok : ∀ k, k < 4 → parseFieldDescriptor (TX7 k).2.2.1 = some (tyX7 k) := by decide +kernel
abbrev cX7_init : ByteArray := prog_9_method_1_code
def yX7_init : MethodName := ⟨RX7, "<init>", "()V"⟩
abbrev cX7_canBeRenewed : ByteArray := prog_9_method_2_code
def yX7_canBeRenewed : MethodName := ⟨RX7, "canBeRenewed", "(I)Z"⟩
abbrev cX7_isAlive : ByteArray := prog_9_method_3_code
def yX7_isAlive : MethodName := ⟨RX7, "isAlive", "(II)Z"⟩
abbrev cX7_countAlive : ByteArray := prog_9_method_4_code
def yX7_countAlive : MethodName := ⟨RX7, "countAlive", "(I)I"⟩
abbrev cX7_countLifeErrors : ByteArray := prog_9_method_6_code
def yX7_countLifeErrors : MethodName := ⟨RX7, "countLifeErrors", "()I"⟩
abbrev cX7_removeDead : ByteArray := prog_9_method_7_code
def yX7_removeDead : MethodName := ⟨RX7, "removeDead", "(I)I"⟩
def RX8 : String := "TicketGate$Users"
def TX8 : u_T := fun k => match k with
  | 0 => ("TicketGate$Table", "limit", "I", true)
  | 1 => ("TicketGate$Table", "width", "I", true)
  | 2 => ("TicketGate$Table", "cells", "[I", true)
  | _ => ("TicketGate$Table", "rows", "I", false)
def tyX8 : Nat → FieldType := fun k => match k with
  | 0 => .int
  | 1 => .int
  | 2 => .array .int
  | _ => .int
theorem nmX8 : ∀ a, a < 4 → ∀ b, b < 4 → a ≠ b → (TX8 a).2.1 ≠ (TX8 b).2.1 := by decide +kernel
theorem tyX8_ok : ∀ k, k < 4 → parseFieldDescriptor (TX8 k).2.2.1 = some (tyX8 k) := by decide +kernel
abbrev cX8_init : ByteArray := prog_10_method_1_code
def yX8_init : MethodName := ⟨RX8, "<init>", "()V"⟩
abbrev cX8_addUser : ByteArray := prog_10_method_2_code
def yX8_addUser : MethodName := ⟨RX8, "addUser", "(IIII)V"⟩
def RX9 : String := "TicketGate$Uses"
def TX9 : u_T := fun k => match k with
  | 0 => ("TicketGate$Table", "limit", "I", true)
  | 1 => ("TicketGate$Table", "width", "I", true)
  | 2 => ("TicketGate$Table", "cells", "[I", true)
  | _ => ("TicketGate$Table", "rows", "I", false)
def tyX9 : Nat → FieldType := fun k => match k with
  | 0 => .int
  | 1 => .int
  | 2 => .array .int
  | _ => .int
theorem nmX9 : ∀ a, a < 4 → ∀ b, b < 4 → a ≠ b → (TX9 a).2.1 ≠ (TX9 b).2.1 := by decide +kernel
theorem tyX9_ok : ∀ k, k < 4 → parseFieldDescriptor (TX9 k).2.2.1 = some (tyX9 k) := by decide +kernel
abbrev cX9_init : ByteArray := prog_11_method_1_code
def yX9_init : MethodName := ⟨RX9, "<init>", "()V"⟩
abbrev cX9_addUse : ByteArray := prog_11_method_2_code
def yX9_addUse : MethodName := ⟨RX9, "addUse", "(IIII)V"⟩
abbrev cX9_knows : ByteArray := prog_11_method_3_code
def yX9_knows : MethodName := ⟨RX9, "knows", "(IIII)Z"⟩
abbrev cX9_forgetBefore : ByteArray := prog_11_method_4_code
def yX9_forgetBefore : MethodName := ⟨RX9, "forgetBefore", "(I)V"⟩
def RX10 : String := "TicketGate$Ways"
def TX10 : u_T := fun k => match k with
  | 0 => ("TicketGate$Table", "limit", "I", true)
  | 1 => ("TicketGate$Table", "width", "I", true)
  | 2 => ("TicketGate$Table", "cells", "[I", true)
  | _ => ("TicketGate$Table", "rows", "I", false)
def tyX10 : Nat → FieldType := fun k => match k with
  | 0 => .int
  | 1 => .int
  | 2 => .array .int
  | _ => .int
theorem nmX10 : ∀ a, a < 4 → ∀ b, b < 4 → a ≠ b → (TX10 a).2.1 ≠ (TX10 b).2.1 := by decide +kernel
theorem tyX10_ok : ∀ k, k < 4 → parseFieldDescriptor (TX10 k).2.2.1 = some (tyX10 k) := by decide +kernel
abbrev cX10_init : ByteArray := prog_12_method_1_code
def yX10_init : MethodName := ⟨RX10, "<init>", "()V"⟩
abbrev cX10_addDirect : ByteArray := prog_12_method_2_code
def yX10_addDirect : MethodName := ⟨RX10, "addDirect", "(LTicketGate$Realms;)V"⟩
abbrev cX10_goThrough : ByteArray := prog_12_method_3_code
def yX10_goThrough : MethodName := ⟨RX10, "goThrough", "(I)V"⟩
abbrev cX10_lengthOf : ByteArray := prog_12_method_4_code
def yX10_lengthOf : MethodName := ⟨RX10, "lengthOf", "(II)I"⟩
def RX11 : String := "TicketGate"
def TX11 : u_T := fun k => match k with
  | 0 => ("TicketGate", "input", "LTicketGate$Bytes;", true)
  | 1 => ("TicketGate", "output", "LTicketGate$Bytes;", true)
  | 2 => ("TicketGate", "parser", "LTicketGate$Parser;", true)
  | 3 => ("TicketGate", "state", "LTicketGate$State;", true)
  | 4 => ("TicketGate", "slots", "LTicketGate$Shelf;", true)
  | 5 => ("TicketGate", "past", "LTicketGate$Shelf;", true)
  | 6 => ("TicketGate", "nextPast", "I", false)
  | _ => ("TicketGate", "pastCount", "I", false)
def tyX11 : Nat → FieldType := fun k => match k with
  | 0 => .object "TicketGate$Bytes"
  | 1 => .object "TicketGate$Bytes"
  | 2 => .object "TicketGate$Parser"
  | 3 => .object "TicketGate$State"
  | 4 => .object "TicketGate$Shelf"
  | 5 => .object "TicketGate$Shelf"
  | 6 => .int
  | _ => .int
theorem nmX11 : ∀ a, a < 8 → ∀ b, b < 8 → a ≠ b → (TX11 a).2.1 ≠ (TX11 b).2.1 := by decide +kernel
theorem tyX11_ok : ∀ k, k < 8 → parseFieldDescriptor (TX11 k).2.2.1 = some (tyX11 k) := by decide +kernel
abbrev cX11_init : ByteArray := prog_1_method_1_code
def yX11_init : MethodName := ⟨RX11, "<init>", "()V"⟩
abbrev cX11_appendInput : ByteArray := prog_1_method_2_code
def yX11_appendInput : MethodName := ⟨RX11, "appendInput", "(IIIII)I"⟩
abbrev cX11_truncateInput : ByteArray := prog_1_method_3_code
def yX11_truncateInput : MethodName := ⟨RX11, "truncateInput", "(I)I"⟩
abbrev cX11_load : ByteArray := prog_1_method_4_code
def yX11_load : MethodName := ⟨RX11, "load", "()I"⟩
abbrev cX11_errorCode : ByteArray := prog_1_method_5_code
def yX11_errorCode : MethodName := ⟨RX11, "errorCode", "()I"⟩
abbrev cX11_time : ByteArray := prog_1_method_7_code
def yX11_time : MethodName := ⟨RX11, "time", "()I"⟩
abbrev cX11_seed : ByteArray := prog_1_method_8_code
def yX11_seed : MethodName := ⟨RX11, "seed", "()I"⟩
abbrev cX11_realmCount : ByteArray := prog_1_method_9_code
def yX11_realmCount : MethodName := ⟨RX11, "realmCount", "()I"⟩
abbrev cX11_serviceCount : ByteArray := prog_1_method_11_code
def yX11_serviceCount : MethodName := ⟨RX11, "serviceCount", "()I"⟩
abbrev cX11_clockOf : ByteArray := prog_1_method_14_code
def yX11_clockOf : MethodName := ⟨RX11, "clockOf", "(I)I"⟩
abbrev cX11_cheesesOf : ByteArray := prog_1_method_19_code
def yX11_cheesesOf : MethodName := ⟨RX11, "cheesesOf", "(I)I"⟩
abbrev cX11_cheesesLeft : ByteArray := prog_1_method_22_code
def yX11_cheesesLeft : MethodName := ⟨RX11, "cheesesLeft", "(I)I"⟩
abbrev cX11_ticketCount : ByteArray := prog_1_method_23_code
def yX11_ticketCount : MethodName := ⟨RX11, "ticketCount", "()I"⟩
abbrev cX11_ticketAt : ByteArray := prog_1_method_24_code
def yX11_ticketAt : MethodName := ⟨RX11, "ticketAt", "(I)I"⟩
abbrev cX11_kindOf : ByteArray := prog_1_method_25_code
def yX11_kindOf : MethodName := ⟨RX11, "kindOf", "(I)I"⟩
abbrev cX11_ownerOf : ByteArray := prog_1_method_26_code
def yX11_ownerOf : MethodName := ⟨RX11, "ownerOf", "(I)I"⟩
abbrev cX11_realmOf : ByteArray := prog_1_method_27_code
def yX11_realmOf : MethodName := ⟨RX11, "realmOf", "(I)I"⟩
abbrev cX11_serviceOf : ByteArray := prog_1_method_28_code
def yX11_serviceOf : MethodName := ⟨RX11, "serviceOf", "(I)I"⟩
abbrev cX11_startOf : ByteArray := prog_1_method_29_code
def yX11_startOf : MethodName := ⟨RX11, "startOf", "(I)I"⟩
abbrev cX11_endOf : ByteArray := prog_1_method_30_code
def yX11_endOf : MethodName := ⟨RX11, "endOf", "(I)I"⟩
abbrev cX11_lastEndOf : ByteArray := prog_1_method_31_code
def yX11_lastEndOf : MethodName := ⟨RX11, "lastEndOf", "(I)I"⟩
abbrev cX11_keyOf : ByteArray := prog_1_method_32_code
def yX11_keyOf : MethodName := ⟨RX11, "keyOf", "(I)I"⟩
abbrev cX11_isRenewable : ByteArray := prog_1_method_33_code
def yX11_isRenewable : MethodName := ⟨RX11, "isRenewable", "(I)Z"⟩
abbrev cX11_isValid : ByteArray := prog_1_method_34_code
def yX11_isValid : MethodName := ⟨RX11, "isValid", "(I)Z"⟩
abbrev cX11_validTickets : ByteArray := prog_1_method_41_code
def yX11_validTickets : MethodName := ⟨RX11, "validTickets", "()I"⟩
abbrev cX11_useCount : ByteArray := prog_1_method_45_code
def yX11_useCount : MethodName := ⟨RX11, "useCount", "()I"⟩
abbrev cX11_cheeseDifference : ByteArray := prog_1_method_46_code
def yX11_cheeseDifference : MethodName := ⟨RX11, "cheeseDifference", "()I"⟩
abbrev cX11_lifeErrors : ByteArray := prog_1_method_47_code
def yX11_lifeErrors : MethodName := ⟨RX11, "lifeErrors", "()I"⟩
abbrev cX11_distanceErrors : ByteArray := prog_1_method_48_code
def yX11_distanceErrors : MethodName := ⟨RX11, "distanceErrors", "()I"⟩
abbrev cX11_login : ByteArray := prog_1_method_51_code
def yX11_login : MethodName := ⟨RX11, "login", "(IIZ)I"⟩
abbrev cX11_refer : ByteArray := prog_1_method_52_code
def yX11_refer : MethodName := ⟨RX11, "refer", "(II)I"⟩
abbrev cX11_request : ByteArray := prog_1_method_53_code
def yX11_request : MethodName := ⟨RX11, "request", "(II)I"⟩
abbrev cX11_renew : ByteArray := prog_1_method_54_code
def yX11_renew : MethodName := ⟨RX11, "renew", "(I)I"⟩
abbrev cX11_cheese : ByteArray := prog_1_method_55_code
def yX11_cheese : MethodName := ⟨RX11, "cheese", "(I)I"⟩
abbrev cX11_drop : ByteArray := prog_1_method_56_code
def yX11_drop : MethodName := ⟨RX11, "drop", "(I)I"⟩
abbrev cX11_sweep : ByteArray := prog_1_method_57_code
def yX11_sweep : MethodName := ⟨RX11, "sweep", "()I"⟩
abbrev cX11_setClock : ByteArray := prog_1_method_59_code
def yX11_setClock : MethodName := ⟨RX11, "setClock", "(II)I"⟩
abbrev cX11_pass : ByteArray := prog_1_method_60_code
def yX11_pass : MethodName := ⟨RX11, "pass", "(I)I"⟩
abbrev cX11_remember : ByteArray := prog_1_method_66_code
def yX11_remember : MethodName := ⟨RX11, "remember", "()V"⟩
abbrev cX11_rowOf : ByteArray := prog_1_method_67_code
def yX11_rowOf : MethodName := ⟨RX11, "rowOf", "(I)I"⟩
abbrev cX11_checkRealm : ByteArray := prog_1_method_68_code
def yX11_checkRealm : MethodName := ⟨RX11, "checkRealm", "(I)V"⟩
abbrev cX11_checkUser : ByteArray := prog_1_method_69_code
def yX11_checkUser : MethodName := ⟨RX11, "checkUser", "(I)V"⟩
abbrev cX11_checkService : ByteArray := prog_1_method_70_code
def yX11_checkService : MethodName := ⟨RX11, "checkService", "(I)V"⟩
abbrev cX11_checkPassword : ByteArray := prog_1_method_72_code
def yX11_checkPassword : MethodName := ⟨RX11, "checkPassword", "(I)V"⟩
abbrev cX11_checkAllowed : ByteArray := prog_1_method_73_code
def yX11_checkAllowed : MethodName := ⟨RX11, "checkAllowed", "(I)V"⟩
def RX12 : String := "TicketGateLaw$Hand"
def TX12 : u_T := fun k => match k with
  | 0 => ("TicketGateLaw$Hand", "tolerance", "I", true)
  | 1 => ("TicketGateLaw$Hand", "life", "[I", true)
  | 2 => ("TicketGateLaw$Hand", "again", "[I", true)
  | 3 => ("TicketGateLaw$Hand", "fast", "[I", true)
  | 4 => ("TicketGateLaw$Hand", "home", "[I", true)
  | 5 => ("TicketGateLaw$Hand", "own", "[I", true)
  | 6 => ("TicketGateLaw$Hand", "had", "[I", true)
  | 7 => ("TicketGateLaw$Hand", "place", "[I", true)
  | 8 => ("TicketGateLaw$Hand", "left", "[I", true)
  | 9 => ("TicketGateLaw$Hand", "ticket", "[[I", false)
  | 10 => ("TicketGateLaw$Hand", "use", "[[I", false)
  | 11 => ("TicketGateLaw$Hand", "seed", "I", false)
  | 12 => ("TicketGateLaw$Hand", "time", "I", false)
  | _ => ("TicketGateLaw$Hand", "next", "I", false)
def tyX12 : Nat → FieldType := fun k => match k with
  | 0 => .int
  | 1 => .array .int
  | 2 => .array .int
  | 3 => .array .int
  | 4 => .array .int
  | 5 => .array .int
  | 6 => .array .int
  | 7 => .array .int
  | 8 => .array .int
  | 9 => .array (.array .int)
  | 10 => .array (.array .int)
  | 11 => .int
  | 12 => .int
  | _ => .int
theorem nmX12 : ∀ a, a < 14 → ∀ b, b < 14 → a ≠ b → (TX12 a).2.1 ≠ (TX12 b).2.1 := by decide +kernel
theorem tyX12_ok : ∀ k, k < 14 → parseFieldDescriptor (TX12 k).2.2.1 = some (tyX12 k) := by decide +kernel
abbrev cX12_init : ByteArray := prog_14_method_1_code
def yX12_init : MethodName := ⟨RX12, "<init>", "([I)V"⟩
abbrev cX12_with : ByteArray := prog_14_method_2_code
def yX12_with : MethodName := ⟨RX12, "with", "([[I[I)[[I"⟩
abbrev cX12_without : ByteArray := prog_14_method_3_code
def yX12_without : MethodName := ⟨RX12, "without", "([[II)[[I"⟩
abbrev cX12_skewed : ByteArray := prog_14_method_4_code
def yX12_skewed : MethodName := ⟨RX12, "skewed", "(II)Z"⟩
abbrev cX12_draws : ByteArray := prog_14_method_5_code
def yX12_draws : MethodName := ⟨RX12, "draws", "()I"⟩
abbrev cX12_makes : ByteArray := prog_14_method_6_code
def yX12_makes : MethodName := ⟨RX12, "makes", "(IIIIII)I"⟩
abbrev cX12_derives : ByteArray := prog_14_method_7_code
def yX12_derives : MethodName := ⟨RX12, "derives", "([III)I"⟩
abbrev cX12_gets : ByteArray := prog_14_method_8_code
def yX12_gets : MethodName := ⟨RX12, "gets", "([I)I"⟩
abbrev cX12_valid : ByteArray := prog_14_method_9_code
def yX12_valid : MethodName := ⟨RX12, "valid", "()I"⟩
abbrev cX12_acts : ByteArray := prog_14_method_10_code
def yX12_acts : MethodName := ⟨RX12, "acts", "([II)I"⟩
abbrev cX12_agrees : ByteArray := prog_14_method_11_code
def yX12_agrees : MethodName := ⟨RX12, "agrees", "(LTicketGate;)Z"⟩
def RX13 : String := "TicketGateModel"
def TX13 : u_T := fun k => match k with
  | _ => ("", "", "", false)
def tyX13 : Nat → FieldType := fun k => match k with
  | _ => .int
theorem nmX13 : ∀ a, a < 0 → ∀ b, b < 0 → a ≠ b → (TX13 a).2.1 ≠ (TX13 b).2.1 := by decide +kernel
theorem tyX13_ok : ∀ k, k < 0 → parseFieldDescriptor (TX13 k).2.2.1 = some (tyX13 k) := by decide +kernel
def RJx145de : String := "java/io/Serializable"
def TJx145de : u_T := fun k => match k with
  | _ => ("", "", "", false)
def tyJx145de : Nat → FieldType := fun k => match k with
  | _ => .int
theorem nmJx145de : ∀ a, a < 0 → ∀ b, b < 0 → a ≠ b → (TJx145de a).2.1 ≠ (TJx145de b).2.1 := by decide +kernel
theorem tyJx145de_ok : ∀ k, k < 0 → parseFieldDescriptor (TJx145de k).2.2.1 = some (tyJx145de k) := by decide +kernel
def RJ5 : String := "java/lang/AbstractStringBuilder"
def TJ5 : u_T := fun k => match k with
  | _ => ("", "", "", false)
def tyJ5 : Nat → FieldType := fun k => match k with
  | _ => .int
theorem nmJ5 : ∀ a, a < 0 → ∀ b, b < 0 → a ≠ b → (TJ5 a).2.1 ≠ (TJ5 b).2.1 := by decide +kernel
theorem tyJ5_ok : ∀ k, k < 0 → parseFieldDescriptor (TJ5 k).2.2.1 = some (tyJ5 k) := by decide +kernel
abbrev cJ5_init_d00df : ByteArray := prog_17_method_2_code
def yJ5_init_d00df : MethodName := ⟨RJ5, "<init>", "(I)V"⟩
abbrev cJ5_init_a7421 : ByteArray := prog_17_method_3_code
def yJ5_init_a7421 : MethodName := ⟨RJ5, "<init>", "(Ljava/lang/String;)V"⟩
abbrev cJ5_length_8abf5 : ByteArray := prog_17_method_6_code
def yJ5_length_8abf5 : MethodName := ⟨RJ5, "length", "()I"⟩
abbrev cJ5_ensureCapacityInternal_d00df : ByteArray := prog_17_method_9_code
def yJ5_ensureCapacityInternal_d00df : MethodName := ⟨RJ5, "ensureCapacityInternal", "(I)V"⟩
abbrev cJ5_newCapacity_0f7a4 : ByteArray := prog_17_method_10_code
def yJ5_newCapacity_0f7a4 : MethodName := ⟨RJ5, "newCapacity", "(I)I"⟩
abbrev cJ5_inflate_da8c8 : ByteArray := prog_17_method_11_code
def yJ5_inflate_da8c8 : MethodName := ⟨RJ5, "inflate", "()V"⟩
abbrev cJ5_append_cf1ce : ByteArray := prog_17_method_22_code
def yJ5_append_cf1ce : MethodName := ⟨RJ5, "append", "(Ljava/lang/String;)Ljava/lang/AbstractStringBuilder;"⟩
abbrev cJ5_appendNull_278bc : ByteArray := prog_17_method_26_code
def yJ5_appendNull_278bc : MethodName := ⟨RJ5, "appendNull", "()Ljava/lang/AbstractStringBuilder;"⟩
abbrev cJ5_append_3fe6f : ByteArray := prog_17_method_31_code
def yJ5_append_3fe6f : MethodName := ⟨RJ5, "append", "(C)Ljava/lang/AbstractStringBuilder;"⟩
abbrev cJ5_append_c97b9 : ByteArray := prog_17_method_32_code
def yJ5_append_c97b9 : MethodName := ⟨RJ5, "append", "(I)Ljava/lang/AbstractStringBuilder;"⟩
abbrev cJ5_getValue_6d5f1 : ByteArray := prog_17_method_64_code
def yJ5_getValue_6d5f1 : MethodName := ⟨RJ5, "getValue", "()[B"⟩
abbrev cJ5_isLatin1_aae02 : ByteArray := prog_17_method_68_code
def yJ5_isLatin1_aae02 : MethodName := ⟨RJ5, "isLatin1", "()Z"⟩
abbrev cJ5_inflateIfNeededFor_a7421 : ByteArray := prog_17_method_71_code
def yJ5_inflateIfNeededFor_a7421 : MethodName := ⟨RJ5, "inflateIfNeededFor", "(Ljava/lang/String;)V"⟩
abbrev cJ5_putStringAt_47b60 : ByteArray := prog_17_method_73_code
def yJ5_putStringAt_47b60 : MethodName := ⟨RJ5, "putStringAt", "(ILjava/lang/String;)V"⟩
def RJx2cfe8 : String := "java/lang/Appendable"
def TJx2cfe8 : u_T := fun k => match k with
  | _ => ("", "", "", false)
def tyJx2cfe8 : Nat → FieldType := fun k => match k with
  | _ => .int
theorem nmJx2cfe8 : ∀ a, a < 0 → ∀ b, b < 0 → a ≠ b → (TJx2cfe8 a).2.1 ≠ (TJx2cfe8 b).2.1 := by decide +kernel
theorem tyJx2cfe8_ok : ∀ k, k < 0 → parseFieldDescriptor (TJx2cfe8 k).2.2.1 = some (tyJx2cfe8 k) := by decide +kernel
def RJx9f9b0 : String := "java/lang/CharSequence"
def TJx9f9b0 : u_T := fun k => match k with
  | _ => ("", "", "", false)
def tyJx9f9b0 : Nat → FieldType := fun k => match k with
  | _ => .int
theorem nmJx9f9b0 : ∀ a, a < 0 → ∀ b, b < 0 → a ≠ b → (TJx9f9b0 a).2.1 ≠ (TJx9f9b0 b).2.1 := by decide +kernel
theorem tyJx9f9b0_ok : ∀ k, k < 0 → parseFieldDescriptor (TJx9f9b0 k).2.2.1 = some (tyJx9f9b0 k) := by decide +kernel
def RJx8e188 : String := "java/lang/Cloneable"
def TJx8e188 : u_T := fun k => match k with
  | _ => ("", "", "", false)
def tyJx8e188 : Nat → FieldType := fun k => match k with
  | _ => .int
theorem nmJx8e188 : ∀ a, a < 0 → ∀ b, b < 0 → a ≠ b → (TJx8e188 a).2.1 ≠ (TJx8e188 b).2.1 := by decide +kernel
theorem tyJx8e188_ok : ∀ k, k < 0 → parseFieldDescriptor (TJx8e188 k).2.2.1 = some (tyJx8e188 k) := by decide +kernel
def RJxb160c : String := "java/lang/Comparable"
def TJxb160c : u_T := fun k => match k with
  | _ => ("", "", "", false)
def tyJxb160c : Nat → FieldType := fun k => match k with
  | _ => .int
theorem nmJxb160c : ∀ a, a < 0 → ∀ b, b < 0 → a ≠ b → (TJxb160c a).2.1 ≠ (TJxb160c b).2.1 := by decide +kernel
theorem tyJxb160c_ok : ∀ k, k < 0 → parseFieldDescriptor (TJxb160c k).2.2.1 = some (tyJxb160c k) := by decide +kernel
def RJ6 : String := "java/lang/Integer"
def TJ6 : u_T := fun k => match k with
  | _ => ("", "", "", false)
def tyJ6 : Nat → FieldType := fun k => match k with
  | _ => .int
theorem nmJ6 : ∀ a, a < 0 → ∀ b, b < 0 → a ≠ b → (TJ6 a).2.1 ≠ (TJ6 b).2.1 := by decide +kernel
theorem tyJ6_ok : ∀ k, k < 0 → parseFieldDescriptor (TJ6 k).2.2.1 = some (tyJ6 k) := by decide +kernel
abbrev cJ6_getChars_ba4f3 : ByteArray := prog_26_method_12_code
def yJ6_getChars_ba4f3 : MethodName := ⟨RJ6, "getChars", "(II[B)I"⟩
abbrev cJ6_stringSize_0f7a4 : ByteArray := prog_26_method_13_code
def yJ6_stringSize_0f7a4 : MethodName := ⟨RJ6, "stringSize", "(I)I"⟩
def RJ9 : String := "java/lang/Math"
def TJ9 : u_T := fun k => match k with
  | _ => ("", "", "", false)
def tyJ9 : Nat → FieldType := fun k => match k with
  | _ => .int
theorem nmJ9 : ∀ a, a < 0 → ∀ b, b < 0 → a ≠ b → (TJ9 a).2.1 ≠ (TJ9 b).2.1 := by decide +kernel
theorem tyJ9_ok : ∀ k, k < 0 → parseFieldDescriptor (TJ9 k).2.2.1 = some (tyJ9 k) := by decide +kernel
abbrev cJ9_abs_0f7a4 : ByteArray := prog_27_method_59_code
def yJ9_abs_0f7a4 : MethodName := ⟨RJ9, "abs", "(I)I"⟩
abbrev cJ9_max_7cf53 : ByteArray := prog_27_method_65_code
def yJ9_max_7cf53 : MethodName := ⟨RJ9, "max", "(II)I"⟩
abbrev cJ9_min_7cf53 : ByteArray := prog_27_method_69_code
def yJ9_min_7cf53 : MethodName := ⟨RJ9, "min", "(II)I"⟩
def RJxd2413 : String := "java/lang/Number"
def TJxd2413 : u_T := fun k => match k with
  | _ => ("", "", "", false)
def tyJxd2413 : Nat → FieldType := fun k => match k with
  | _ => .int
theorem nmJxd2413 : ∀ a, a < 0 → ∀ b, b < 0 → a ≠ b → (TJxd2413 a).2.1 ≠ (TJxd2413 b).2.1 := by decide +kernel
theorem tyJxd2413_ok : ∀ k, k < 0 → parseFieldDescriptor (TJxd2413 k).2.2.1 = some (tyJxd2413 k) := by decide +kernel
def RJ0 : String := "java/lang/String"
def TJ0 : u_T := fun k => match k with
  | 0 => ("java/lang/String", "value", "[B", true)
  | 1 => ("java/lang/String", "coder", "B", true)
  | 2 => ("java/lang/String", "hash", "I", false)
  | _ => ("java/lang/String", "hashIsZero", "Z", false)
def tyJ0 : Nat → FieldType := fun k => match k with
  | 0 => .array .byte
  | 1 => .byte
  | 2 => .int
  | _ => .boolean
theorem nmJ0 : ∀ a, a < 4 → ∀ b, b < 4 → a ≠ b → (TJ0 a).2.1 ≠ (TJ0 b).2.1 := by decide +kernel
theorem tyJ0_ok : ∀ k, k < 4 → parseFieldDescriptor (TJ0 k).2.2.1 = some (tyJ0 k) := by decide +kernel
abbrev cJ0_init_81219 : ByteArray := prog_30_method_53_code
def yJ0_init_81219 : MethodName := ⟨RJ0, "<init>", "(Ljava/lang/StringBuilder;)V"⟩
abbrev cJ0_length_8abf5 : ByteArray := prog_30_method_54_code
def yJ0_length_8abf5 : MethodName := ⟨RJ0, "length", "()I"⟩
abbrev cJ0_charAt_5068e : ByteArray := prog_30_method_56_code
def yJ0_charAt_5068e : MethodName := ⟨RJ0, "charAt", "(I)C"⟩
abbrev cJ0_getBytes_840e7 : ByteArray := prog_30_method_147_code
def yJ0_getBytes_840e7 : MethodName := ⟨RJ0, "getBytes", "([BIB)V"⟩
abbrev cJ0_init_db425 : ByteArray := prog_30_method_150_code
def yJ0_init_db425 : MethodName := ⟨RJ0, "<init>", "(Ljava/lang/AbstractStringBuilder;Ljava/lang/Void;)V"⟩
abbrev cJ0_coder_7d493 : ByteArray := prog_30_method_152_code
def yJ0_coder_7d493 : MethodName := ⟨RJ0, "coder", "()B"⟩
abbrev cJ0_isLatin1_aae02 : ByteArray := prog_30_method_154_code
def yJ0_isLatin1_aae02 : MethodName := ⟨RJ0, "isLatin1", "()Z"⟩
abbrev cJ0_checkIndex_df160 : ByteArray := prog_30_method_155_code
def yJ0_checkIndex_df160 : MethodName := ⟨RJ0, "checkIndex", "(II)V"⟩
abbrev cJ0_checkBoundsOffCount_cabcc : ByteArray := prog_30_method_157_code
def yJ0_checkBoundsOffCount_cabcc : MethodName := ⟨RJ0, "checkBoundsOffCount", "(III)I"⟩
abbrev cJ0_checkBoundsBeginEnd_23922 : ByteArray := prog_30_method_158_code
def yJ0_checkBoundsBeginEnd_23922 : MethodName := ⟨RJ0, "checkBoundsBeginEnd", "(III)V"⟩
def RJ4 : String := "java/lang/StringBuilder"
def TJ4 : u_T := fun k => match k with
  | 0 => ("java/lang/AbstractStringBuilder", "value", "[B", false)
  | 1 => ("java/lang/AbstractStringBuilder", "coder", "B", false)
  | 2 => ("java/lang/AbstractStringBuilder", "maybeLatin1", "Z", false)
  | _ => ("java/lang/AbstractStringBuilder", "count", "I", false)
def tyJ4 : Nat → FieldType := fun k => match k with
  | 0 => .array .byte
  | 1 => .byte
  | 2 => .boolean
  | _ => .int
theorem nmJ4 : ∀ a, a < 4 → ∀ b, b < 4 → a ≠ b → (TJ4 a).2.1 ≠ (TJ4 b).2.1 := by decide +kernel
theorem tyJ4_ok : ∀ k, k < 4 → parseFieldDescriptor (TJ4 k).2.2.1 = some (tyJ4 k) := by decide +kernel
abbrev cJ4_init_da8c8 : ByteArray := prog_31_method_1_code
def yJ4_init_da8c8 : MethodName := ⟨RJ4, "<init>", "()V"⟩
abbrev cJ4_init_a7421 : ByteArray := prog_31_method_3_code
def yJ4_init_a7421 : MethodName := ⟨RJ4, "<init>", "(Ljava/lang/String;)V"⟩
abbrev cJ4_append_15ec4 : ByteArray := prog_31_method_7_code
def yJ4_append_15ec4 : MethodName := ⟨RJ4, "append", "(Ljava/lang/String;)Ljava/lang/StringBuilder;"⟩
abbrev cJ4_append_cf468 : ByteArray := prog_31_method_14_code
def yJ4_append_cf468 : MethodName := ⟨RJ4, "append", "(C)Ljava/lang/StringBuilder;"⟩
abbrev cJ4_append_bf812 : ByteArray := prog_31_method_15_code
def yJ4_append_bf812 : MethodName := ⟨RJ4, "append", "(I)Ljava/lang/StringBuilder;"⟩
abbrev cJ4_toString_0e30d : ByteArray := prog_31_method_42_code
def yJ4_toString_0e30d : MethodName := ⟨RJ4, "toString", "()Ljava/lang/String;"⟩
abbrev cJ4_append_cf1ce : ByteArray := prog_31_method_80_code
def yJ4_append_cf1ce : MethodName := ⟨RJ4, "append", "(Ljava/lang/String;)Ljava/lang/AbstractStringBuilder;"⟩
abbrev cJ4_length_8abf5 : ByteArray := prog_31_method_93_code
def yJ4_length_8abf5 : MethodName := ⟨RJ4, "length", "()I"⟩
def RJ1 : String := "java/lang/StringLatin1"
def TJ1 : u_T := fun k => match k with
  | _ => ("", "", "", false)
def tyJ1 : Nat → FieldType := fun k => match k with
  | _ => .int
theorem nmJ1 : ∀ a, a < 0 → ∀ b, b < 0 → a ≠ b → (TJ1 a).2.1 ≠ (TJ1 b).2.1 := by decide +kernel
theorem tyJ1_ok : ∀ k, k < 0 → parseFieldDescriptor (TJ1 k).2.2.1 = some (tyJ1 k) := by decide +kernel
abbrev cJ1_charAt_3b067 : ByteArray := prog_32_method_2_code
def yJ1_charAt_3b067 : MethodName := ⟨RJ1, "charAt", "([BI)C"⟩
abbrev cJ1_canEncode_fc78d : ByteArray := prog_32_method_3_code
def yJ1_canEncode_fc78d : MethodName := ⟨RJ1, "canEncode", "(C)Z"⟩
abbrev cJ1_inflate_0e8fd : ByteArray := prog_32_method_50_code
def yJ1_inflate_0e8fd : MethodName := ⟨RJ1, "inflate", "([BI[BII)V"⟩
def RJ2 : String := "java/lang/StringUTF16"
def TJ2 : u_T := fun k => match k with
  | _ => ("", "", "", false)
def tyJ2 : Nat → FieldType := fun k => match k with
  | _ => .int
theorem nmJ2 : ∀ a, a < 0 → ∀ b, b < 0 → a ≠ b → (TJ2 a).2.1 ≠ (TJ2 b).2.1 := by decide +kernel
theorem tyJ2_ok : ∀ k, k < 0 → parseFieldDescriptor (TJ2 k).2.2.1 = some (tyJ2 k) := by decide +kernel
abbrev cJ2_newBytesFor_77867 : ByteArray := prog_33_method_2_code
def yJ2_newBytesFor_77867 : MethodName := ⟨RJ2, "newBytesFor", "(I)[B"⟩
abbrev cJ2_newBytesLength_0f7a4 : ByteArray := prog_33_method_3_code
def yJ2_newBytesLength_0f7a4 : MethodName := ⟨RJ2, "newBytesLength", "(I)I"⟩
abbrev cJ2_putChar_b72d1 : ByteArray := prog_33_method_4_code
def yJ2_putChar_b72d1 : MethodName := ⟨RJ2, "putChar", "([BII)V"⟩
abbrev cJ2_getChar_3b067 : ByteArray := prog_33_method_5_code
def yJ2_getChar_3b067 : MethodName := ⟨RJ2, "getChar", "([BI)C"⟩
abbrev cJ2_length_9d52b : ByteArray := prog_33_method_6_code
def yJ2_length_9d52b : MethodName := ⟨RJ2, "length", "([B)I"⟩
abbrev cJ2_coderFromArrayLen_85cad : ByteArray := prog_33_method_15_code
def yJ2_coderFromArrayLen_85cad : MethodName := ⟨RJ2, "coderFromArrayLen", "([BI)B"⟩
abbrev cJ2_compress_39247 : ByteArray := prog_33_method_17_code
def yJ2_compress_39247 : MethodName := ⟨RJ2, "compress", "([BII)[B"⟩
abbrev cJ2_compress_5af95 : ByteArray := prog_33_method_22_code
def yJ2_compress_5af95 : MethodName := ⟨RJ2, "compress", "([BI[BII)I"⟩
abbrev cJ2_putCharSB_b72d1 : ByteArray := prog_33_method_71_code
def yJ2_putCharSB_b72d1 : MethodName := ⟨RJ2, "putCharSB", "([BII)V"⟩
abbrev cJ2_getChars_46870 : ByteArray := prog_33_method_77_code
def yJ2_getChars_46870 : MethodName := ⟨RJ2, "getChars", "(III[B)I"⟩
abbrev cJ2_putCharsAt_cd4e5 : ByteArray := prog_33_method_81_code
def yJ2_putCharsAt_cd4e5 : MethodName := ⟨RJ2, "putCharsAt", "([BICCCC)I"⟩
abbrev cJ2_charAt_3b067 : ByteArray := prog_33_method_83_code
def yJ2_charAt_3b067 : MethodName := ⟨RJ2, "charAt", "([BI)C"⟩
abbrev cJ2_inflate_0e8fd : ByteArray := prog_33_method_86_code
def yJ2_inflate_0e8fd : MethodName := ⟨RJ2, "inflate", "([BI[BII)V"⟩
abbrev cJ2_getChars_ba4f3 : ByteArray := prog_33_method_89_code
def yJ2_getChars_ba4f3 : MethodName := ⟨RJ2, "getChars", "(II[B)I"⟩
abbrev cJ2_checkIndex_2214a : ByteArray := prog_33_method_91_code
def yJ2_checkIndex_2214a : MethodName := ⟨RJ2, "checkIndex", "(I[B)V"⟩
abbrev cJ2_checkBoundsBeginEnd_d044e : ByteArray := prog_33_method_93_code
def yJ2_checkBoundsBeginEnd_d044e : MethodName := ⟨RJ2, "checkBoundsBeginEnd", "(II[B)V"⟩
abbrev cJ2_checkBoundsOffCount_d044e : ByteArray := prog_33_method_94_code
def yJ2_checkBoundsOffCount_d044e : MethodName := ⟨RJ2, "checkBoundsOffCount", "(II[B)V"⟩
def RJ10 : String := "java/lang/System"
def TJ10 : u_T := fun k => match k with
  | _ => ("", "", "", false)
def tyJ10 : Nat → FieldType := fun k => match k with
  | _ => .int
theorem nmJ10 : ∀ a, a < 0 → ∀ b, b < 0 → a ≠ b → (TJ10 a).2.1 ≠ (TJ10 b).2.1 := by decide +kernel
theorem tyJ10_ok : ∀ k, k < 0 → parseFieldDescriptor (TJ10 k).2.2.1 = some (tyJ10 k) := by decide +kernel
def RJxfd54e : String := "java/lang/constant/Constable"
def TJxfd54e : u_T := fun k => match k with
  | _ => ("", "", "", false)
def tyJxfd54e : Nat → FieldType := fun k => match k with
  | _ => .int
theorem nmJxfd54e : ∀ a, a < 0 → ∀ b, b < 0 → a ≠ b → (TJxfd54e a).2.1 ≠ (TJxfd54e b).2.1 := by decide +kernel
theorem tyJxfd54e_ok : ∀ k, k < 0 → parseFieldDescriptor (TJxfd54e k).2.2.1 = some (tyJxfd54e k) := by decide +kernel
def RJx3cf43 : String := "java/lang/constant/ConstantDesc"
def TJx3cf43 : u_T := fun k => match k with
  | _ => ("", "", "", false)
def tyJx3cf43 : Nat → FieldType := fun k => match k with
  | _ => .int
theorem nmJx3cf43 : ∀ a, a < 0 → ∀ b, b < 0 → a ≠ b → (TJx3cf43 a).2.1 ≠ (TJx3cf43 b).2.1 := by decide +kernel
theorem tyJx3cf43_ok : ∀ k, k < 0 → parseFieldDescriptor (TJx3cf43 k).2.2.1 = some (tyJx3cf43 k) := by decide +kernel
def RJ7 : String := "java/util/Arrays"
def TJ7 : u_T := fun k => match k with
  | _ => ("", "", "", false)
def tyJ7 : Nat → FieldType := fun k => match k with
  | _ => .int
theorem nmJ7 : ∀ a, a < 0 → ∀ b, b < 0 → a ≠ b → (TJ7 a).2.1 ≠ (TJ7 b).2.1 := by decide +kernel
theorem tyJ7_ok : ∀ k, k < 0 → parseFieldDescriptor (TJ7 k).2.2.1 = some (tyJ7 k) := by decide +kernel
abbrev cJ7_copyOf_9075b : ByteArray := prog_38_method_121_code
def yJ7_copyOf_9075b : MethodName := ⟨RJ7, "copyOf", "([BI)[B"⟩
abbrev cJ7_checkLength_df160 : ByteArray := prog_38_method_131_code
def yJ7_checkLength_df160 : MethodName := ⟨RJ7, "checkLength", "(II)V"⟩
abbrev cJ7_copyOfRange_39247 : ByteArray := prog_38_method_132_code
def yJ7_copyOfRange_39247 : MethodName := ⟨RJ7, "copyOfRange", "([BII)[B"⟩
abbrev cJ7_copyOfRangeByte_39247 : ByteArray := prog_38_method_133_code
def yJ7_copyOfRangeByte_39247 : MethodName := ⟨RJ7, "copyOfRangeByte", "([BII)[B"⟩
def RJ8 : String := "jdk/internal/util/ArraysSupport"
def TJ8 : u_T := fun k => match k with
  | _ => ("", "", "", false)
def tyJ8 : Nat → FieldType := fun k => match k with
  | _ => .int
theorem nmJ8 : ∀ a, a < 0 → ∀ b, b < 0 → a ≠ b → (TJ8 a).2.1 ≠ (TJ8 b).2.1 := by decide +kernel
theorem tyJ8_ok : ∀ k, k < 0 → parseFieldDescriptor (TJ8 k).2.2.1 = some (tyJ8 k) := by decide +kernel
abbrev cJ8_newLength_cabcc : ByteArray := prog_40_method_27_code
def yJ8_newLength_cabcc : MethodName := ⟨RJ8, "newLength", "(III)I"⟩
abbrev cJ8_hugeLength_7cf53 : ByteArray := prog_40_method_28_code
def yJ8_hugeLength_7cf53 : MethodName := ⟨RJ8, "hugeLength", "(II)I"⟩
def RJ3 : String := "jdk/internal/util/Preconditions"
def TJ3 : u_T := fun k => match k with
  | _ => ("", "", "", false)
def tyJ3 : Nat → FieldType := fun k => match k with
  | _ => .int
theorem nmJ3 : ∀ a, a < 0 → ∀ b, b < 0 → a ≠ b → (TJ3 a).2.1 ≠ (TJ3 b).2.1 := by decide +kernel
theorem tyJ3_ok : ∀ k, k < 0 → parseFieldDescriptor (TJ3 k).2.2.1 = some (tyJ3 k) := by decide +kernel
abbrev cJ3_checkIndex_8e157 : ByteArray := prog_41_method_11_code
def yJ3_checkIndex_8e157 : MethodName := ⟨RJ3, "checkIndex", "(IILjava/util/function/BiFunction;)I"⟩
abbrev cJ3_checkFromToIndex_8c36e : ByteArray := prog_41_method_12_code
def yJ3_checkFromToIndex_8c36e : MethodName := ⟨RJ3, "checkFromToIndex", "(IIILjava/util/function/BiFunction;)I"⟩
abbrev cJ3_checkFromIndexSize_8c36e : ByteArray := prog_41_method_13_code
def yJ3_checkFromIndexSize_8c36e : MethodName := ⟨RJ3, "checkFromIndexSize", "(IIILjava/util/function/BiFunction;)I"⟩
def RL : String := "TicketGateLaw"
abbrev cL_cell : ByteArray := method_2_code
def yL_cell : MethodName := ⟨RL, "cell", "([II)I"⟩
abbrev cL_says : ByteArray := method_3_code
def yL_says : MethodName := ⟨RL, "says", "(LTicketGate;Ljava/lang/String;)V"⟩
abbrev cL_loaded : ByteArray := method_4_code
def yL_loaded : MethodName := ⟨RL, "loaded", "(LTicketGate;)I"⟩
abbrev cL_offset : ByteArray := method_5_code
def yL_offset : MethodName := ⟨RL, "offset", "(I)I"⟩
abbrev cL_clock : ByteArray := method_6_code
def yL_clock : MethodName := ⟨RL, "clock", "(I)Ljava/lang/String;"⟩
abbrev cL_isTrusted : ByteArray := method_7_code
def yL_isTrusted : MethodName := ⟨RL, "isTrusted", "([III)Z"⟩
abbrev cL_password : ByteArray := method_8_code
def yL_password : MethodName := ⟨RL, "password", "([II)I"⟩
abbrev cL_text : ByteArray := method_9_code
def yL_text : MethodName := ⟨RL, "text", "([I)Ljava/lang/String;"⟩
abbrev cL_acts : ByteArray := method_10_code
def yL_acts : MethodName := ⟨RL, "acts", "(LTicketGate;[II)I"⟩
abbrev cL_law : ByteArray := code
def yL_law : MethodName := ⟨RL, "law", "([I)Z"⟩
abbrev vwCl : List vw_C := [(RJ0, TJ0, 4), (RJ4, TJ4, 4), (RX0, TX0, 2), (RX1, TX1, 8), (RX2, TX2, 4), (RX3, TX3, 4), (RX4, TX4, 1), (RX5, TX5, 10), (RX7, TX7, 4), (RX8, TX8, 4), (RX9, TX9, 4), (RX10, TX10, 4), (RX11, TX11, 8), (RX12, TX12, 14)]
end
section
theorem dX0_init_0 : decode cX0_init 0 = .ok (.aload_n 0, 1) := by decide +kernel
theorem dX0_init_1 : decode cX0_init 1 = .ok (.invokespecial 3, 3) := by decide +kernel
theorem dX0_init_4 : decode cX0_init 4 = .ok (.aload_n 0, 1) := by decide +kernel
theorem dX0_init_5 : decode cX0_init 5 = .ok (.iconst 0, 1) := by decide +kernel
theorem dX0_init_6 : decode cX0_init 6 = .ok (.iload_n 1, 1) := by decide +kernel
theorem dX0_init_7 : decode cX0_init 7 = .ok (.invokestatic 9, 3) := by decide +kernel
theorem dX0_init_10 : decode cX0_init 10 = .ok (.newarray .int, 2) := by decide +kernel
theorem dX0_init_12 : decode cX0_init 12 = .ok (.putfield 15, 3) := by decide +kernel
theorem dX0_init_15 : decode cX0_init 15 = .ok (.return_, 1) := by decide +kernel
theorem dX0_size_0 : decode cX0_size 0 = .ok (.aload_n 0, 1) := by decide +kernel
theorem dX0_size_1 : decode cX0_size 1 = .ok (.getfield 21, 3) := by decide +kernel
theorem dX0_size_4 : decode cX0_size 4 = .ok (.ireturn, 1) := by decide +kernel
theorem dX0_at_0 : decode cX0_at 0 = .ok (.iload_n 1, 1) := by decide +kernel
theorem dX0_at_1 : decode cX0_at 1 = .ok (.ifCond .lt 24, 3) := by decide +kernel
theorem dX0_at_4 : decode cX0_at 4 = .ok (.iload_n 1, 1) := by decide +kernel
theorem dX0_at_5 : decode cX0_at 5 = .ok (.aload_n 0, 1) := by decide +kernel
theorem dX0_at_6 : decode cX0_at 6 = .ok (.getfield 21, 3) := by decide +kernel
theorem dX0_at_9 : decode cX0_at 9 = .ok (.if_icmp .ge 16, 3) := by decide +kernel
theorem dX0_at_12 : decode cX0_at 12 = .ok (.iload_n 1, 1) := by decide +kernel
theorem dX0_at_13 : decode cX0_at 13 = .ok (.aload_n 0, 1) := by decide +kernel
theorem dX0_at_14 : decode cX0_at 14 = .ok (.getfield 15, 3) := by decide +kernel
theorem dX0_at_17 : decode cX0_at 17 = .ok (.arraylength, 1) := by decide +kernel
theorem dX0_at_18 : decode cX0_at 18 = .ok (.if_icmp .ge 7, 3) := by decide +kernel
theorem dX0_at_21 : decode cX0_at 21 = .ok (.iconst 1, 1) := by decide +kernel
theorem dX0_at_22 : decode cX0_at 22 = .ok (.goto 4, 3) := by decide +kernel
theorem dX0_at_25 : decode cX0_at 25 = .ok (.iconst 0, 1) := by decide +kernel
theorem dX0_at_26 : decode cX0_at 26 = .ok (.istore_n 2, 1) := by decide +kernel
theorem dX0_at_27 : decode cX0_at 27 = .ok (.iload_n 2, 1) := by decide +kernel
theorem dX0_at_28 : decode cX0_at 28 = .ok (.ifCond .eq 12, 3) := by decide +kernel
theorem dX0_at_31 : decode cX0_at 31 = .ok (.aload_n 0, 1) := by decide +kernel
theorem dX0_at_32 : decode cX0_at 32 = .ok (.getfield 15, 3) := by decide +kernel
theorem dX0_at_35 : decode cX0_at 35 = .ok (.iload_n 1, 1) := by decide +kernel
theorem dX0_at_36 : decode cX0_at 36 = .ok (.iaload, 1) := by decide +kernel
theorem dX0_at_37 : decode cX0_at 37 = .ok (.goto 4, 3) := by decide +kernel
theorem dX0_at_40 : decode cX0_at 40 = .ok (.iconst (-1), 1) := by decide +kernel
theorem dX0_at_41 : decode cX0_at 41 = .ok (.ireturn, 1) := by decide +kernel
theorem dX0_cut_0 : decode cX0_cut 0 = .ok (.aload_n 0, 1) := by decide +kernel
theorem dX0_cut_1 : decode cX0_cut 1 = .ok (.iload_n 1, 1) := by decide +kernel
theorem dX0_cut_2 : decode cX0_cut 2 = .ok (.putfield 21, 3) := by decide +kernel
theorem dX0_cut_5 : decode cX0_cut 5 = .ok (.return_, 1) := by decide +kernel
theorem dX0_add_0 : decode cX0_add 0 = .ok (.aload_n 0, 1) := by decide +kernel
theorem dX0_add_1 : decode cX0_add 1 = .ok (.getfield 21, 3) := by decide +kernel
theorem dX0_add_4 : decode cX0_add 4 = .ok (.ifCond .lt 39, 3) := by decide +kernel
theorem dX0_add_7 : decode cX0_add 7 = .ok (.aload_n 0, 1) := by decide +kernel
theorem dX0_add_8 : decode cX0_add 8 = .ok (.getfield 21, 3) := by decide +kernel
theorem dX0_add_11 : decode cX0_add 11 = .ok (.aload_n 0, 1) := by decide +kernel
theorem dX0_add_12 : decode cX0_add 12 = .ok (.getfield 15, 3) := by decide +kernel
theorem dX0_add_15 : decode cX0_add 15 = .ok (.arraylength, 1) := by decide +kernel
theorem dX0_add_16 : decode cX0_add 16 = .ok (.if_icmp .ge 27, 3) := by decide +kernel
theorem dX0_add_19 : decode cX0_add 19 = .ok (.aload_n 0, 1) := by decide +kernel
theorem dX0_add_20 : decode cX0_add 20 = .ok (.getfield 15, 3) := by decide +kernel
theorem dX0_add_23 : decode cX0_add 23 = .ok (.aload_n 0, 1) := by decide +kernel
theorem dX0_add_24 : decode cX0_add 24 = .ok (.getfield 21, 3) := by decide +kernel
theorem dX0_add_27 : decode cX0_add 27 = .ok (.iload_n 1, 1) := by decide +kernel
theorem dX0_add_28 : decode cX0_add 28 = .ok (.sipush 255, 3) := by decide +kernel
theorem dX0_add_31 : decode cX0_add 31 = .ok (.iand, 1) := by decide +kernel
theorem dX0_add_32 : decode cX0_add 32 = .ok (.iastore, 1) := by decide +kernel
theorem dX0_add_33 : decode cX0_add 33 = .ok (.aload_n 0, 1) := by decide +kernel
theorem dX0_add_34 : decode cX0_add 34 = .ok (.dup, 1) := by decide +kernel
theorem dX0_add_35 : decode cX0_add 35 = .ok (.getfield 21, 3) := by decide +kernel
theorem dX0_add_38 : decode cX0_add 38 = .ok (.iconst 1, 1) := by decide +kernel
theorem dX0_add_39 : decode cX0_add 39 = .ok (.iadd, 1) := by decide +kernel
theorem dX0_add_40 : decode cX0_add 40 = .ok (.putfield 21, 3) := by decide +kernel
theorem dX0_add_43 : decode cX0_add 43 = .ok (.return_, 1) := by decide +kernel
theorem dX0_addFour_0 : decode cX0_addFour 0 = .ok (.aload_n 0, 1) := by decide +kernel
theorem dX0_addFour_1 : decode cX0_addFour 1 = .ok (.iload_n 1, 1) := by decide +kernel
theorem dX0_addFour_2 : decode cX0_addFour 2 = .ok (.bipush 24, 2) := by decide +kernel
theorem dX0_addFour_4 : decode cX0_addFour 4 = .ok (.iushr, 1) := by decide +kernel
theorem dX0_addFour_5 : decode cX0_addFour 5 = .ok (.invokevirtual 25, 3) := by decide +kernel
theorem dX0_addFour_8 : decode cX0_addFour 8 = .ok (.aload_n 0, 1) := by decide +kernel
theorem dX0_addFour_9 : decode cX0_addFour 9 = .ok (.iload_n 1, 1) := by decide +kernel
theorem dX0_addFour_10 : decode cX0_addFour 10 = .ok (.bipush 16, 2) := by decide +kernel
theorem dX0_addFour_12 : decode cX0_addFour 12 = .ok (.iushr, 1) := by decide +kernel
theorem dX0_addFour_13 : decode cX0_addFour 13 = .ok (.invokevirtual 25, 3) := by decide +kernel
theorem dX0_addFour_16 : decode cX0_addFour 16 = .ok (.aload_n 0, 1) := by decide +kernel
theorem dX0_addFour_17 : decode cX0_addFour 17 = .ok (.iload_n 1, 1) := by decide +kernel
theorem dX0_addFour_18 : decode cX0_addFour 18 = .ok (.bipush 8, 2) := by decide +kernel
theorem dX0_addFour_20 : decode cX0_addFour 20 = .ok (.iushr, 1) := by decide +kernel
theorem dX0_addFour_21 : decode cX0_addFour 21 = .ok (.invokevirtual 25, 3) := by decide +kernel
theorem dX0_addFour_24 : decode cX0_addFour 24 = .ok (.aload_n 0, 1) := by decide +kernel
theorem dX0_addFour_25 : decode cX0_addFour 25 = .ok (.iload_n 1, 1) := by decide +kernel
theorem dX0_addFour_26 : decode cX0_addFour 26 = .ok (.invokevirtual 25, 3) := by decide +kernel
theorem dX0_addFour_29 : decode cX0_addFour 29 = .ok (.return_, 1) := by decide +kernel
theorem dX0_addText_0 : decode cX0_addText 0 = .ok (.iconst 0, 1) := by decide +kernel
theorem dX0_addText_1 : decode cX0_addText 1 = .ok (.istore_n 2, 1) := by decide +kernel
theorem dX0_addText_2 : decode cX0_addText 2 = .ok (.iload_n 2, 1) := by decide +kernel
theorem dX0_addText_3 : decode cX0_addText 3 = .ok (.aload_n 1, 1) := by decide +kernel
theorem dX0_addText_4 : decode cX0_addText 4 = .ok (.invokevirtual 29, 3) := by decide +kernel
theorem dX0_addText_7 : decode cX0_addText 7 = .ok (.if_icmp .ge 18, 3) := by decide +kernel
theorem dX0_addText_10 : decode cX0_addText 10 = .ok (.aload_n 0, 1) := by decide +kernel
theorem dX0_addText_11 : decode cX0_addText 11 = .ok (.aload_n 1, 1) := by decide +kernel
theorem dX0_addText_12 : decode cX0_addText 12 = .ok (.iload_n 2, 1) := by decide +kernel
theorem dX0_addText_13 : decode cX0_addText 13 = .ok (.invokevirtual 35, 3) := by decide +kernel
theorem dX0_addText_16 : decode cX0_addText 16 = .ok (.invokevirtual 25, 3) := by decide +kernel
theorem dX0_addText_19 : decode cX0_addText 19 = .ok (.iinc 2 1, 3) := by decide +kernel
theorem dX0_addText_22 : decode cX0_addText 22 = .ok (.goto (-20), 3) := by decide +kernel
theorem dX0_addText_25 : decode cX0_addText 25 = .ok (.return_, 1) := by decide +kernel
theorem dX0_endOfRun_0 : decode cX0_endOfRun 0 = .ok (.iload_n 1, 1) := by decide +kernel
theorem dX0_endOfRun_1 : decode cX0_endOfRun 1 = .ok (.istore 4, 2) := by decide +kernel
theorem dX0_endOfRun_3 : decode cX0_endOfRun 3 = .ok (.iload 4, 2) := by decide +kernel
theorem dX0_endOfRun_5 : decode cX0_endOfRun 5 = .ok (.aload_n 0, 1) := by decide +kernel
theorem dX0_endOfRun_6 : decode cX0_endOfRun 6 = .ok (.getfield 21, 3) := by decide +kernel
theorem dX0_endOfRun_9 : decode cX0_endOfRun 9 = .ok (.if_icmp .ge 29, 3) := by decide +kernel
theorem dX0_endOfRun_12 : decode cX0_endOfRun 12 = .ok (.aload_n 0, 1) := by decide +kernel
theorem dX0_endOfRun_13 : decode cX0_endOfRun 13 = .ok (.iload 4, 2) := by decide +kernel
theorem dX0_endOfRun_15 : decode cX0_endOfRun 15 = .ok (.invokevirtual 40, 3) := by decide +kernel
theorem dX0_endOfRun_18 : decode cX0_endOfRun 18 = .ok (.iload_n 2, 1) := by decide +kernel
theorem dX0_endOfRun_19 : decode cX0_endOfRun 19 = .ok (.if_icmp .lt 19, 3) := by decide +kernel
theorem dX0_endOfRun_22 : decode cX0_endOfRun 22 = .ok (.aload_n 0, 1) := by decide +kernel
theorem dX0_endOfRun_23 : decode cX0_endOfRun 23 = .ok (.iload 4, 2) := by decide +kernel
theorem dX0_endOfRun_25 : decode cX0_endOfRun 25 = .ok (.invokevirtual 40, 3) := by decide +kernel
theorem dX0_endOfRun_28 : decode cX0_endOfRun 28 = .ok (.iload_n 3, 1) := by decide +kernel
theorem dX0_endOfRun_29 : decode cX0_endOfRun 29 = .ok (.if_icmp .gt 9, 3) := by decide +kernel
theorem dX0_endOfRun_32 : decode cX0_endOfRun 32 = .ok (.iinc 4 1, 3) := by decide +kernel
theorem dX0_endOfRun_35 : decode cX0_endOfRun 35 = .ok (.goto (-32), 3) := by decide +kernel
theorem dX0_endOfRun_38 : decode cX0_endOfRun 38 = .ok (.iload 4, 2) := by decide +kernel
theorem dX0_endOfRun_40 : decode cX0_endOfRun 40 = .ok (.ireturn, 1) := by decide +kernel
theorem dX0_endOfBlanks_0 : decode cX0_endOfBlanks 0 = .ok (.iload_n 1, 1) := by decide +kernel
theorem dX0_endOfBlanks_1 : decode cX0_endOfBlanks 1 = .ok (.istore_n 2, 1) := by decide +kernel
theorem dX0_endOfBlanks_2 : decode cX0_endOfBlanks 2 = .ok (.iload_n 2, 1) := by decide +kernel
theorem dX0_endOfBlanks_3 : decode cX0_endOfBlanks 3 = .ok (.aload_n 0, 1) := by decide +kernel
theorem dX0_endOfBlanks_4 : decode cX0_endOfBlanks 4 = .ok (.getfield 21, 3) := by decide +kernel
theorem dX0_endOfBlanks_7 : decode cX0_endOfBlanks 7 = .ok (.if_icmp .ge 29, 3) := by decide +kernel
theorem dX0_endOfBlanks_10 : decode cX0_endOfBlanks 10 = .ok (.aload_n 0, 1) := by decide +kernel
theorem dX0_endOfBlanks_11 : decode cX0_endOfBlanks 11 = .ok (.iload_n 2, 1) := by decide +kernel
theorem dX0_endOfBlanks_12 : decode cX0_endOfBlanks 12 = .ok (.invokevirtual 40, 3) := by decide +kernel
theorem dX0_endOfBlanks_15 : decode cX0_endOfBlanks 15 = .ok (.bipush 32, 2) := by decide +kernel
theorem dX0_endOfBlanks_17 : decode cX0_endOfBlanks 17 = .ok (.if_icmp .eq 13, 3) := by decide +kernel
theorem dX0_endOfBlanks_20 : decode cX0_endOfBlanks 20 = .ok (.aload_n 0, 1) := by decide +kernel
theorem dX0_endOfBlanks_21 : decode cX0_endOfBlanks 21 = .ok (.iload_n 2, 1) := by decide +kernel
theorem dX0_endOfBlanks_22 : decode cX0_endOfBlanks 22 = .ok (.invokevirtual 40, 3) := by decide +kernel
theorem dX0_endOfBlanks_25 : decode cX0_endOfBlanks 25 = .ok (.bipush 10, 2) := by decide +kernel
theorem dX0_endOfBlanks_27 : decode cX0_endOfBlanks 27 = .ok (.if_icmp .ne 9, 3) := by decide +kernel
theorem dX0_endOfBlanks_30 : decode cX0_endOfBlanks 30 = .ok (.iinc 2 1, 3) := by decide +kernel
theorem dX0_endOfBlanks_33 : decode cX0_endOfBlanks 33 = .ok (.goto (-31), 3) := by decide +kernel
theorem dX0_endOfBlanks_36 : decode cX0_endOfBlanks 36 = .ok (.iload_n 2, 1) := by decide +kernel
theorem dX0_endOfBlanks_37 : decode cX0_endOfBlanks 37 = .ok (.ireturn, 1) := by decide +kernel
theorem dX0_nameBetween_0 : decode cX0_nameBetween 0 = .ok (.iload_n 2, 1) := by decide +kernel
theorem dX0_nameBetween_1 : decode cX0_nameBetween 1 = .ok (.iload_n 1, 1) := by decide +kernel
theorem dX0_nameBetween_2 : decode cX0_nameBetween 2 = .ok (.isub, 1) := by decide +kernel
theorem dX0_nameBetween_3 : decode cX0_nameBetween 3 = .ok (.iconst 4, 1) := by decide +kernel
theorem dX0_nameBetween_4 : decode cX0_nameBetween 4 = .ok (.if_icmp .gt 7, 3) := by decide +kernel
theorem dX0_nameBetween_7 : decode cX0_nameBetween 7 = .ok (.iconst 1, 1) := by decide +kernel
theorem dX0_nameBetween_8 : decode cX0_nameBetween 8 = .ok (.goto 4, 3) := by decide +kernel
theorem dX0_nameBetween_11 : decode cX0_nameBetween 11 = .ok (.iconst 0, 1) := by decide +kernel
theorem dX0_nameBetween_12 : decode cX0_nameBetween 12 = .ok (.istore_n 3, 1) := by decide +kernel
theorem dX0_nameBetween_13 : decode cX0_nameBetween 13 = .ok (.iconst 0, 1) := by decide +kernel
theorem dX0_nameBetween_14 : decode cX0_nameBetween 14 = .ok (.istore 4, 2) := by decide +kernel
theorem dX0_nameBetween_16 : decode cX0_nameBetween 16 = .ok (.iload_n 1, 1) := by decide +kernel
theorem dX0_nameBetween_17 : decode cX0_nameBetween 17 = .ok (.istore 5, 2) := by decide +kernel
theorem dX0_nameBetween_19 : decode cX0_nameBetween 19 = .ok (.iload_n 3, 1) := by decide +kernel
theorem dX0_nameBetween_20 : decode cX0_nameBetween 20 = .ok (.ifCond .eq 57, 3) := by decide +kernel
theorem dX0_nameBetween_23 : decode cX0_nameBetween 23 = .ok (.iload 5, 2) := by decide +kernel
theorem dX0_nameBetween_25 : decode cX0_nameBetween 25 = .ok (.iload_n 2, 1) := by decide +kernel
theorem dX0_nameBetween_26 : decode cX0_nameBetween 26 = .ok (.if_icmp .ge 51, 3) := by decide +kernel
theorem dX0_nameBetween_29 : decode cX0_nameBetween 29 = .ok (.aload_n 0, 1) := by decide +kernel
theorem dX0_nameBetween_30 : decode cX0_nameBetween 30 = .ok (.iload 5, 2) := by decide +kernel
theorem dX0_nameBetween_32 : decode cX0_nameBetween 32 = .ok (.invokevirtual 40, 3) := by decide +kernel
theorem dX0_nameBetween_35 : decode cX0_nameBetween 35 = .ok (.bipush 97, 2) := by decide +kernel
theorem dX0_nameBetween_37 : decode cX0_nameBetween 37 = .ok (.if_icmp .lt 18, 3) := by decide +kernel
theorem dX0_nameBetween_40 : decode cX0_nameBetween 40 = .ok (.aload_n 0, 1) := by decide +kernel
theorem dX0_nameBetween_41 : decode cX0_nameBetween 41 = .ok (.iload 5, 2) := by decide +kernel
theorem dX0_nameBetween_43 : decode cX0_nameBetween 43 = .ok (.invokevirtual 40, 3) := by decide +kernel
theorem dX0_nameBetween_46 : decode cX0_nameBetween 46 = .ok (.bipush 122, 2) := by decide +kernel
theorem dX0_nameBetween_48 : decode cX0_nameBetween 48 = .ok (.if_icmp .gt 7, 3) := by decide +kernel
theorem dX0_nameBetween_51 : decode cX0_nameBetween 51 = .ok (.iconst 1, 1) := by decide +kernel
theorem dX0_nameBetween_52 : decode cX0_nameBetween 52 = .ok (.goto 4, 3) := by decide +kernel
theorem dX0_nameBetween_55 : decode cX0_nameBetween 55 = .ok (.iconst 0, 1) := by decide +kernel
theorem dX0_nameBetween_56 : decode cX0_nameBetween 56 = .ok (.istore_n 3, 1) := by decide +kernel
theorem dX0_nameBetween_57 : decode cX0_nameBetween 57 = .ok (.iload 4, 2) := by decide +kernel
theorem dX0_nameBetween_59 : decode cX0_nameBetween 59 = .ok (.bipush 8, 2) := by decide +kernel
theorem dX0_nameBetween_61 : decode cX0_nameBetween 61 = .ok (.ishl, 1) := by decide +kernel
theorem dX0_nameBetween_62 : decode cX0_nameBetween 62 = .ok (.aload_n 0, 1) := by decide +kernel
theorem dX0_nameBetween_63 : decode cX0_nameBetween 63 = .ok (.iload 5, 2) := by decide +kernel
theorem dX0_nameBetween_65 : decode cX0_nameBetween 65 = .ok (.invokevirtual 40, 3) := by decide +kernel
theorem dX0_nameBetween_68 : decode cX0_nameBetween 68 = .ok (.ior, 1) := by decide +kernel
theorem dX0_nameBetween_69 : decode cX0_nameBetween 69 = .ok (.istore 4, 2) := by decide +kernel
theorem dX0_nameBetween_71 : decode cX0_nameBetween 71 = .ok (.iinc 5 1, 3) := by decide +kernel
theorem dX0_nameBetween_74 : decode cX0_nameBetween 74 = .ok (.goto (-55), 3) := by decide +kernel
theorem dX0_nameBetween_77 : decode cX0_nameBetween 77 = .ok (.iload_n 3, 1) := by decide +kernel
theorem dX0_nameBetween_78 : decode cX0_nameBetween 78 = .ok (.ifCond .eq 8, 3) := by decide +kernel
theorem dX0_nameBetween_81 : decode cX0_nameBetween 81 = .ok (.iload 4, 2) := by decide +kernel
theorem dX0_nameBetween_83 : decode cX0_nameBetween 83 = .ok (.goto 4, 3) := by decide +kernel
theorem dX0_nameBetween_86 : decode cX0_nameBetween 86 = .ok (.iconst 0, 1) := by decide +kernel
theorem dX0_nameBetween_87 : decode cX0_nameBetween 87 = .ok (.ireturn, 1) := by decide +kernel
theorem dX0_numberBetween_0 : decode cX0_numberBetween 0 = .ok (.iconst 0, 1) := by decide +kernel
theorem dX0_numberBetween_1 : decode cX0_numberBetween 1 = .ok (.istore_n 3, 1) := by decide +kernel
theorem dX0_numberBetween_2 : decode cX0_numberBetween 2 = .ok (.iload_n 1, 1) := by decide +kernel
theorem dX0_numberBetween_3 : decode cX0_numberBetween 3 = .ok (.istore 4, 2) := by decide +kernel
theorem dX0_numberBetween_5 : decode cX0_numberBetween 5 = .ok (.iload 4, 2) := by decide +kernel
theorem dX0_numberBetween_7 : decode cX0_numberBetween 7 = .ok (.iload_n 2, 1) := by decide +kernel
theorem dX0_numberBetween_8 : decode cX0_numberBetween 8 = .ok (.if_icmp .ge 29, 3) := by decide +kernel
theorem dX0_numberBetween_11 : decode cX0_numberBetween 11 = .ok (.ldc 44, 2) := by decide +kernel
theorem dX0_numberBetween_13 : decode cX0_numberBetween 13 = .ok (.bipush 10, 2) := by decide +kernel
theorem dX0_numberBetween_15 : decode cX0_numberBetween 15 = .ok (.iload_n 3, 1) := by decide +kernel
theorem dX0_numberBetween_16 : decode cX0_numberBetween 16 = .ok (.imul, 1) := by decide +kernel
theorem dX0_numberBetween_17 : decode cX0_numberBetween 17 = .ok (.aload_n 0, 1) := by decide +kernel
theorem dX0_numberBetween_18 : decode cX0_numberBetween 18 = .ok (.iload 4, 2) := by decide +kernel
theorem dX0_numberBetween_20 : decode cX0_numberBetween 20 = .ok (.invokevirtual 40, 3) := by decide +kernel
theorem dX0_numberBetween_23 : decode cX0_numberBetween 23 = .ok (.iadd, 1) := by decide +kernel
theorem dX0_numberBetween_24 : decode cX0_numberBetween 24 = .ok (.bipush 48, 2) := by decide +kernel
theorem dX0_numberBetween_26 : decode cX0_numberBetween 26 = .ok (.isub, 1) := by decide +kernel
theorem dX0_numberBetween_27 : decode cX0_numberBetween 27 = .ok (.invokestatic 45, 3) := by decide +kernel
theorem dX0_numberBetween_30 : decode cX0_numberBetween 30 = .ok (.istore_n 3, 1) := by decide +kernel
theorem dX0_numberBetween_31 : decode cX0_numberBetween 31 = .ok (.iinc 4 1, 3) := by decide +kernel
theorem dX0_numberBetween_34 : decode cX0_numberBetween 34 = .ok (.goto (-29), 3) := by decide +kernel
theorem dX0_numberBetween_37 : decode cX0_numberBetween 37 = .ok (.iload_n 3, 1) := by decide +kernel
theorem dX0_numberBetween_38 : decode cX0_numberBetween 38 = .ok (.ireturn, 1) := by decide +kernel
theorem dX0_isText_0 : decode cX0_isText 0 = .ok (.iload_n 2, 1) := by decide +kernel
theorem dX0_isText_1 : decode cX0_isText 1 = .ok (.iload_n 1, 1) := by decide +kernel
theorem dX0_isText_2 : decode cX0_isText 2 = .ok (.isub, 1) := by decide +kernel
theorem dX0_isText_3 : decode cX0_isText 3 = .ok (.aload_n 3, 1) := by decide +kernel
theorem dX0_isText_4 : decode cX0_isText 4 = .ok (.invokevirtual 29, 3) := by decide +kernel
theorem dX0_isText_7 : decode cX0_isText 7 = .ok (.if_icmp .ne 7, 3) := by decide +kernel
theorem dX0_isText_10 : decode cX0_isText 10 = .ok (.iconst 1, 1) := by decide +kernel
theorem dX0_isText_11 : decode cX0_isText 11 = .ok (.goto 4, 3) := by decide +kernel
theorem dX0_isText_14 : decode cX0_isText 14 = .ok (.iconst 0, 1) := by decide +kernel
theorem dX0_isText_15 : decode cX0_isText 15 = .ok (.istore 4, 2) := by decide +kernel
theorem dX0_isText_17 : decode cX0_isText 17 = .ok (.iconst 0, 1) := by decide +kernel
theorem dX0_isText_18 : decode cX0_isText 18 = .ok (.istore 5, 2) := by decide +kernel
theorem dX0_isText_20 : decode cX0_isText 20 = .ok (.iload 4, 2) := by decide +kernel
theorem dX0_isText_22 : decode cX0_isText 22 = .ok (.ifCond .eq 42, 3) := by decide +kernel
theorem dX0_isText_25 : decode cX0_isText 25 = .ok (.iload 5, 2) := by decide +kernel
theorem dX0_isText_27 : decode cX0_isText 27 = .ok (.aload_n 3, 1) := by decide +kernel
theorem dX0_isText_28 : decode cX0_isText 28 = .ok (.invokevirtual 29, 3) := by decide +kernel
theorem dX0_isText_31 : decode cX0_isText 31 = .ok (.if_icmp .ge 33, 3) := by decide +kernel
theorem dX0_isText_34 : decode cX0_isText 34 = .ok (.aload_n 0, 1) := by decide +kernel
theorem dX0_isText_35 : decode cX0_isText 35 = .ok (.iload_n 1, 1) := by decide +kernel
theorem dX0_isText_36 : decode cX0_isText 36 = .ok (.iload 5, 2) := by decide +kernel
theorem dX0_isText_38 : decode cX0_isText 38 = .ok (.iadd, 1) := by decide +kernel
theorem dX0_isText_39 : decode cX0_isText 39 = .ok (.invokevirtual 40, 3) := by decide +kernel
theorem dX0_isText_42 : decode cX0_isText 42 = .ok (.aload_n 3, 1) := by decide +kernel
theorem dX0_isText_43 : decode cX0_isText 43 = .ok (.iload 5, 2) := by decide +kernel
theorem dX0_isText_45 : decode cX0_isText 45 = .ok (.invokevirtual 35, 3) := by decide +kernel
theorem dX0_isText_48 : decode cX0_isText 48 = .ok (.if_icmp .ne 7, 3) := by decide +kernel
theorem dX0_isText_51 : decode cX0_isText 51 = .ok (.iconst 1, 1) := by decide +kernel
theorem dX0_isText_52 : decode cX0_isText 52 = .ok (.goto 4, 3) := by decide +kernel
theorem dX0_isText_55 : decode cX0_isText 55 = .ok (.iconst 0, 1) := by decide +kernel
theorem dX0_isText_56 : decode cX0_isText 56 = .ok (.istore 4, 2) := by decide +kernel
theorem dX0_isText_58 : decode cX0_isText 58 = .ok (.iinc 5 1, 3) := by decide +kernel
theorem dX0_isText_61 : decode cX0_isText 61 = .ok (.goto (-41), 3) := by decide +kernel
theorem dX0_isText_64 : decode cX0_isText 64 = .ok (.iload 4, 2) := by decide +kernel
theorem dX0_isText_66 : decode cX0_isText 66 = .ok (.ireturn, 1) := by decide +kernel
theorem dX1_init_0 : decode cX1_init 0 = .ok (.aload_n 0, 1) := by decide +kernel
theorem dX1_init_1 : decode cX1_init 1 = .ok (.invokespecial 3, 3) := by decide +kernel
theorem dX1_init_4 : decode cX1_init 4 = .ok (.aload_n 0, 1) := by decide +kernel
theorem dX1_init_5 : decode cX1_init 5 = .ok (.new 9, 3) := by decide +kernel
theorem dX1_init_8 : decode cX1_init 8 = .ok (.dup, 1) := by decide +kernel
theorem dX1_init_9 : decode cX1_init 9 = .ok (.invokespecial 11, 3) := by decide +kernel
theorem dX1_init_12 : decode cX1_init 12 = .ok (.putfield 12, 3) := by decide +kernel
theorem dX1_init_15 : decode cX1_init 15 = .ok (.aload_n 0, 1) := by decide +kernel
theorem dX1_init_16 : decode cX1_init 16 = .ok (.iconst (-1), 1) := by decide +kernel
theorem dX1_init_17 : decode cX1_init 17 = .ok (.putfield 18, 3) := by decide +kernel
theorem dX1_init_20 : decode cX1_init 20 = .ok (.aload_n 0, 1) := by decide +kernel
theorem dX1_init_21 : decode cX1_init 21 = .ok (.aload_n 1, 1) := by decide +kernel
theorem dX1_init_22 : decode cX1_init 22 = .ok (.putfield 22, 3) := by decide +kernel
theorem dX1_init_25 : decode cX1_init 25 = .ok (.return_, 1) := by decide +kernel
theorem dX1_run_0 : decode cX1_run 0 = .ok (.aload_n 0, 1) := by decide +kernel
theorem dX1_run_1 : decode cX1_run 1 = .ok (.iconst 0, 1) := by decide +kernel
theorem dX1_run_2 : decode cX1_run 2 = .ok (.putfield 26, 3) := by decide +kernel
theorem dX1_run_5 : decode cX1_run 5 = .ok (.aload_n 0, 1) := by decide +kernel
theorem dX1_run_6 : decode cX1_run 6 = .ok (.iconst 0, 1) := by decide +kernel
theorem dX1_run_7 : decode cX1_run 7 = .ok (.putfield 29, 3) := by decide +kernel
theorem dX1_run_10 : decode cX1_run 10 = .ok (.aload_n 0, 1) := by decide +kernel
theorem dX1_run_11 : decode cX1_run 11 = .ok (.iconst (-1), 1) := by decide +kernel
theorem dX1_run_12 : decode cX1_run 12 = .ok (.putfield 18, 3) := by decide +kernel
theorem dX1_run_15 : decode cX1_run 15 = .ok (.aload_n 0, 1) := by decide +kernel
theorem dX1_run_16 : decode cX1_run 16 = .ok (.invokevirtual 32, 3) := by decide +kernel
theorem dX1_run_19 : decode cX1_run 19 = .ok (.pop, 1) := by decide +kernel
theorem dX1_run_20 : decode cX1_run 20 = .ok (.aload_n 0, 1) := by decide +kernel
theorem dX1_run_21 : decode cX1_run 21 = .ok (.invokevirtual 36, 3) := by decide +kernel
theorem dX1_run_24 : decode cX1_run 24 = .ok (.iconst 0, 1) := by decide +kernel
theorem dX1_run_25 : decode cX1_run 25 = .ok (.istore_n 1, 1) := by decide +kernel
theorem dX1_run_26 : decode cX1_run 26 = .ok (.iload_n 1, 1) := by decide +kernel
theorem dX1_run_27 : decode cX1_run 27 = .ok (.sipush 600, 3) := by decide +kernel
theorem dX1_run_30 : decode cX1_run 30 = .ok (.if_icmp .ge 27, 3) := by decide +kernel
theorem dX1_run_33 : decode cX1_run 33 = .ok (.aload_n 0, 1) := by decide +kernel
theorem dX1_run_34 : decode cX1_run 34 = .ok (.getfield 29, 3) := by decide +kernel
theorem dX1_run_37 : decode cX1_run 37 = .ok (.ifCond .ne 20, 3) := by decide +kernel
theorem dX1_run_40 : decode cX1_run 40 = .ok (.aload_n 0, 1) := by decide +kernel
theorem dX1_run_41 : decode cX1_run 41 = .ok (.getfield 39, 3) := by decide +kernel
theorem dX1_run_44 : decode cX1_run 44 = .ok (.ifCond .eq 13, 3) := by decide +kernel
theorem dX1_run_47 : decode cX1_run 47 = .ok (.aload_n 0, 1) := by decide +kernel
theorem dX1_run_48 : decode cX1_run 48 = .ok (.invokevirtual 42, 3) := by decide +kernel
theorem dX1_run_51 : decode cX1_run 51 = .ok (.iinc 1 1, 3) := by decide +kernel
theorem dX1_run_54 : decode cX1_run 54 = .ok (.goto (-28), 3) := by decide +kernel
theorem dX1_run_57 : decode cX1_run 57 = .ok (.aload_n 0, 1) := by decide +kernel
theorem dX1_run_58 : decode cX1_run 58 = .ok (.getfield 29, 3) := by decide +kernel
theorem dX1_run_61 : decode cX1_run 61 = .ok (.ifCond .ne 7, 3) := by decide +kernel
theorem dX1_run_64 : decode cX1_run 64 = .ok (.iconst 1, 1) := by decide +kernel
theorem dX1_run_65 : decode cX1_run 65 = .ok (.goto 4, 3) := by decide +kernel
theorem dX1_run_68 : decode cX1_run 68 = .ok (.iconst 0, 1) := by decide +kernel
theorem dX1_run_69 : decode cX1_run 69 = .ok (.ireturn, 1) := by decide +kernel
theorem dX1_readStatement_0 : decode cX1_readStatement 0 = .ok (.aload_n 0, 1) := by decide +kernel
theorem dX1_readStatement_1 : decode cX1_readStatement 1 = .ok (.ldc 45, 2) := by decide +kernel
theorem dX1_readStatement_3 : decode cX1_readStatement 3 = .ok (.invokevirtual 47, 3) := by decide +kernel
theorem dX1_readStatement_6 : decode cX1_readStatement 6 = .ok (.ifCond .eq 10, 3) := by decide +kernel
theorem dX1_readStatement_9 : decode cX1_readStatement 9 = .ok (.aload_n 0, 1) := by decide +kernel
theorem dX1_readStatement_10 : decode cX1_readStatement 10 = .ok (.invokevirtual 51, 3) := by decide +kernel
theorem dX1_readStatement_13 : decode cX1_readStatement 13 = .ok (.goto 185, 3) := by decide +kernel
theorem dX1_readStatement_16 : decode cX1_readStatement 16 = .ok (.aload_n 0, 1) := by decide +kernel
theorem dX1_readStatement_17 : decode cX1_readStatement 17 = .ok (.ldc 54, 2) := by decide +kernel
theorem dX1_readStatement_19 : decode cX1_readStatement 19 = .ok (.invokevirtual 47, 3) := by decide +kernel
theorem dX1_readStatement_22 : decode cX1_readStatement 22 = .ok (.ifCond .eq 10, 3) := by decide +kernel
theorem dX1_readStatement_25 : decode cX1_readStatement 25 = .ok (.aload_n 0, 1) := by decide +kernel
theorem dX1_readStatement_26 : decode cX1_readStatement 26 = .ok (.invokevirtual 56, 3) := by decide +kernel
theorem dX1_readStatement_29 : decode cX1_readStatement 29 = .ok (.goto 169, 3) := by decide +kernel
theorem dX1_readStatement_32 : decode cX1_readStatement 32 = .ok (.aload_n 0, 1) := by decide +kernel
theorem dX1_readStatement_33 : decode cX1_readStatement 33 = .ok (.ldc 59, 2) := by decide +kernel
theorem dX1_readStatement_35 : decode cX1_readStatement 35 = .ok (.invokevirtual 47, 3) := by decide +kernel
theorem dX1_readStatement_38 : decode cX1_readStatement 38 = .ok (.ifCond .eq 10, 3) := by decide +kernel
theorem dX1_readStatement_41 : decode cX1_readStatement 41 = .ok (.aload_n 0, 1) := by decide +kernel
theorem dX1_readStatement_42 : decode cX1_readStatement 42 = .ok (.invokevirtual 61, 3) := by decide +kernel
theorem dX1_readStatement_45 : decode cX1_readStatement 45 = .ok (.goto 153, 3) := by decide +kernel
theorem dX1_readStatement_48 : decode cX1_readStatement 48 = .ok (.aload_n 0, 1) := by decide +kernel
theorem dX1_readStatement_49 : decode cX1_readStatement 49 = .ok (.ldc 64, 2) := by decide +kernel
theorem dX1_readStatement_51 : decode cX1_readStatement 51 = .ok (.invokevirtual 47, 3) := by decide +kernel
theorem dX1_readStatement_54 : decode cX1_readStatement 54 = .ok (.ifCond .eq 10, 3) := by decide +kernel
theorem dX1_readStatement_57 : decode cX1_readStatement 57 = .ok (.aload_n 0, 1) := by decide +kernel
theorem dX1_readStatement_58 : decode cX1_readStatement 58 = .ok (.invokevirtual 66, 3) := by decide +kernel
theorem dX1_readStatement_61 : decode cX1_readStatement 61 = .ok (.goto 137, 3) := by decide +kernel
theorem dX1_readStatement_64 : decode cX1_readStatement 64 = .ok (.aload_n 0, 1) := by decide +kernel
theorem dX1_readStatement_65 : decode cX1_readStatement 65 = .ok (.ldc 69, 2) := by decide +kernel
theorem dX1_readStatement_67 : decode cX1_readStatement 67 = .ok (.invokevirtual 47, 3) := by decide +kernel
theorem dX1_readStatement_70 : decode cX1_readStatement 70 = .ok (.ifCond .eq 10, 3) := by decide +kernel
theorem dX1_readStatement_73 : decode cX1_readStatement 73 = .ok (.aload_n 0, 1) := by decide +kernel
theorem dX1_readStatement_74 : decode cX1_readStatement 74 = .ok (.invokevirtual 71, 3) := by decide +kernel
theorem dX1_readStatement_77 : decode cX1_readStatement 77 = .ok (.goto 121, 3) := by decide +kernel
theorem dX1_readStatement_80 : decode cX1_readStatement 80 = .ok (.aload_n 0, 1) := by decide +kernel
theorem dX1_readStatement_81 : decode cX1_readStatement 81 = .ok (.ldc 74, 2) := by decide +kernel
theorem dX1_readStatement_83 : decode cX1_readStatement 83 = .ok (.invokevirtual 47, 3) := by decide +kernel
theorem dX1_readStatement_86 : decode cX1_readStatement 86 = .ok (.ifCond .eq 10, 3) := by decide +kernel
theorem dX1_readStatement_89 : decode cX1_readStatement 89 = .ok (.aload_n 0, 1) := by decide +kernel
theorem dX1_readStatement_90 : decode cX1_readStatement 90 = .ok (.invokevirtual 76, 3) := by decide +kernel
theorem dX1_readStatement_93 : decode cX1_readStatement 93 = .ok (.goto 105, 3) := by decide +kernel
theorem dX1_readStatement_96 : decode cX1_readStatement 96 = .ok (.aload_n 0, 1) := by decide +kernel
theorem dX1_readStatement_97 : decode cX1_readStatement 97 = .ok (.ldc 79, 2) := by decide +kernel
theorem dX1_readStatement_99 : decode cX1_readStatement 99 = .ok (.invokevirtual 47, 3) := by decide +kernel
theorem dX1_readStatement_102 : decode cX1_readStatement 102 = .ok (.ifCond .eq 10, 3) := by decide +kernel
theorem dX1_readStatement_105 : decode cX1_readStatement 105 = .ok (.aload_n 0, 1) := by decide +kernel
theorem dX1_readStatement_106 : decode cX1_readStatement 106 = .ok (.invokevirtual 81, 3) := by decide +kernel
theorem dX1_readStatement_109 : decode cX1_readStatement 109 = .ok (.goto 89, 3) := by decide +kernel
theorem dX1_readStatement_112 : decode cX1_readStatement 112 = .ok (.aload_n 0, 1) := by decide +kernel
theorem dX1_readStatement_113 : decode cX1_readStatement 113 = .ok (.ldc 84, 2) := by decide +kernel
theorem dX1_readStatement_115 : decode cX1_readStatement 115 = .ok (.invokevirtual 47, 3) := by decide +kernel
theorem dX1_readStatement_118 : decode cX1_readStatement 118 = .ok (.ifCond .eq 10, 3) := by decide +kernel
theorem dX1_readStatement_121 : decode cX1_readStatement 121 = .ok (.aload_n 0, 1) := by decide +kernel
theorem dX1_readStatement_122 : decode cX1_readStatement 122 = .ok (.invokevirtual 86, 3) := by decide +kernel
theorem dX1_readStatement_125 : decode cX1_readStatement 125 = .ok (.goto 73, 3) := by decide +kernel
theorem dX1_readStatement_128 : decode cX1_readStatement 128 = .ok (.aload_n 0, 1) := by decide +kernel
theorem dX1_readStatement_129 : decode cX1_readStatement 129 = .ok (.ldc 89, 2) := by decide +kernel
theorem dX1_readStatement_131 : decode cX1_readStatement 131 = .ok (.invokevirtual 47, 3) := by decide +kernel
theorem dX1_readStatement_134 : decode cX1_readStatement 134 = .ok (.ifCond .eq 10, 3) := by decide +kernel
theorem dX1_readStatement_137 : decode cX1_readStatement 137 = .ok (.aload_n 0, 1) := by decide +kernel
theorem dX1_readStatement_138 : decode cX1_readStatement 138 = .ok (.invokevirtual 91, 3) := by decide +kernel
theorem dX1_readStatement_141 : decode cX1_readStatement 141 = .ok (.goto 57, 3) := by decide +kernel
theorem dX1_readStatement_144 : decode cX1_readStatement 144 = .ok (.aload_n 0, 1) := by decide +kernel
theorem dX1_readStatement_145 : decode cX1_readStatement 145 = .ok (.ldc 94, 2) := by decide +kernel
theorem dX1_readStatement_147 : decode cX1_readStatement 147 = .ok (.invokevirtual 47, 3) := by decide +kernel
theorem dX1_readStatement_150 : decode cX1_readStatement 150 = .ok (.ifCond .eq 10, 3) := by decide +kernel
theorem dX1_readStatement_153 : decode cX1_readStatement 153 = .ok (.aload_n 0, 1) := by decide +kernel
theorem dX1_readStatement_154 : decode cX1_readStatement 154 = .ok (.invokevirtual 96, 3) := by decide +kernel
theorem dX1_readStatement_157 : decode cX1_readStatement 157 = .ok (.goto 41, 3) := by decide +kernel
theorem dX1_readStatement_160 : decode cX1_readStatement 160 = .ok (.aload_n 0, 1) := by decide +kernel
theorem dX1_readStatement_161 : decode cX1_readStatement 161 = .ok (.ldc 99, 2) := by decide +kernel
theorem dX1_readStatement_163 : decode cX1_readStatement 163 = .ok (.invokevirtual 47, 3) := by decide +kernel
theorem dX1_readStatement_166 : decode cX1_readStatement 166 = .ok (.ifCond .eq 10, 3) := by decide +kernel
theorem dX1_readStatement_169 : decode cX1_readStatement 169 = .ok (.aload_n 0, 1) := by decide +kernel
theorem dX1_readStatement_170 : decode cX1_readStatement 170 = .ok (.invokevirtual 101, 3) := by decide +kernel
theorem dX1_readStatement_173 : decode cX1_readStatement 173 = .ok (.goto 25, 3) := by decide +kernel
theorem dX1_readStatement_176 : decode cX1_readStatement 176 = .ok (.aload_n 0, 1) := by decide +kernel
theorem dX1_readStatement_177 : decode cX1_readStatement 177 = .ok (.ldc 104, 2) := by decide +kernel
theorem dX1_readStatement_179 : decode cX1_readStatement 179 = .ok (.invokevirtual 47, 3) := by decide +kernel
theorem dX1_readStatement_182 : decode cX1_readStatement 182 = .ok (.ifCond .eq 10, 3) := by decide +kernel
theorem dX1_readStatement_185 : decode cX1_readStatement 185 = .ok (.aload_n 0, 1) := by decide +kernel
theorem dX1_readStatement_186 : decode cX1_readStatement 186 = .ok (.invokevirtual 106, 3) := by decide +kernel
theorem dX1_readStatement_189 : decode cX1_readStatement 189 = .ok (.goto 9, 3) := by decide +kernel
theorem dX1_readStatement_192 : decode cX1_readStatement 192 = .ok (.aload_n 0, 1) := by decide +kernel
theorem dX1_readStatement_193 : decode cX1_readStatement 193 = .ok (.iconst 0, 1) := by decide +kernel
theorem dX1_readStatement_194 : decode cX1_readStatement 194 = .ok (.iconst 1, 1) := by decide +kernel
theorem dX1_readStatement_195 : decode cX1_readStatement 195 = .ok (.invokevirtual 109, 3) := by decide +kernel
theorem dX1_readStatement_198 : decode cX1_readStatement 198 = .ok (.return_, 1) := by decide +kernel
theorem dX1_readGate_0 : decode cX1_readGate 0 = .ok (.aload_n 0, 1) := by decide +kernel
theorem dX1_readGate_1 : decode cX1_readGate 1 = .ok (.aload_n 0, 1) := by decide +kernel
theorem dX1_readGate_2 : decode cX1_readGate 2 = .ok (.ldc 113, 2) := by decide +kernel
theorem dX1_readGate_4 : decode cX1_readGate 4 = .ok (.invokevirtual 47, 3) := by decide +kernel
theorem dX1_readGate_7 : decode cX1_readGate 7 = .ok (.iconst 1, 1) := by decide +kernel
theorem dX1_readGate_8 : decode cX1_readGate 8 = .ok (.invokevirtual 109, 3) := by decide +kernel
theorem dX1_readGate_11 : decode cX1_readGate 11 = .ok (.aload_n 0, 1) := by decide +kernel
theorem dX1_readGate_12 : decode cX1_readGate 12 = .ok (.invokevirtual 32, 3) := by decide +kernel
theorem dX1_readGate_15 : decode cX1_readGate 15 = .ok (.pop, 1) := by decide +kernel
theorem dX1_readGate_16 : decode cX1_readGate 16 = .ok (.aload_n 0, 1) := by decide +kernel
theorem dX1_readGate_17 : decode cX1_readGate 17 = .ok (.iconst 0, 1) := by decide +kernel
theorem dX1_readGate_18 : decode cX1_readGate 18 = .ok (.bipush 9, 2) := by decide +kernel
theorem dX1_readGate_20 : decode cX1_readGate 20 = .ok (.invokevirtual 115, 3) := by decide +kernel
theorem dX1_readGate_23 : decode cX1_readGate 23 = .ok (.istore_n 1, 1) := by decide +kernel
theorem dX1_readGate_24 : decode cX1_readGate 24 = .ok (.aload_n 0, 1) := by decide +kernel
theorem dX1_readGate_25 : decode cX1_readGate 25 = .ok (.iconst 0, 1) := by decide +kernel
theorem dX1_readGate_26 : decode cX1_readGate 26 = .ok (.sipush 1023, 3) := by decide +kernel
theorem dX1_readGate_29 : decode cX1_readGate 29 = .ok (.invokevirtual 115, 3) := by decide +kernel
theorem dX1_readGate_32 : decode cX1_readGate 32 = .ok (.istore_n 2, 1) := by decide +kernel
theorem dX1_readGate_33 : decode cX1_readGate 33 = .ok (.aload_n 0, 1) := by decide +kernel
theorem dX1_readGate_34 : decode cX1_readGate 34 = .ok (.iconst 1, 1) := by decide +kernel
theorem dX1_readGate_35 : decode cX1_readGate 35 = .ok (.invokevirtual 119, 3) := by decide +kernel
theorem dX1_readGate_38 : decode cX1_readGate 38 = .ok (.ifCond .eq 12, 3) := by decide +kernel
theorem dX1_readGate_41 : decode cX1_readGate 41 = .ok (.aload_n 0, 1) := by decide +kernel
theorem dX1_readGate_42 : decode cX1_readGate 42 = .ok (.getfield 12, 3) := by decide +kernel
theorem dX1_readGate_45 : decode cX1_readGate 45 = .ok (.iload_n 1, 1) := by decide +kernel
theorem dX1_readGate_46 : decode cX1_readGate 46 = .ok (.iload_n 2, 1) := by decide +kernel
theorem dX1_readGate_47 : decode cX1_readGate 47 = .ok (.invokevirtual 123, 3) := by decide +kernel
theorem dX1_readGate_50 : decode cX1_readGate 50 = .ok (.return_, 1) := by decide +kernel
theorem dX1_readRealm_0 : decode cX1_readRealm 0 = .ok (.aload_n 0, 1) := by decide +kernel
theorem dX1_readRealm_1 : decode cX1_readRealm 1 = .ok (.aload_n 0, 1) := by decide +kernel
theorem dX1_readRealm_2 : decode cX1_readRealm 2 = .ok (.getfield 12, 3) := by decide +kernel
theorem dX1_readRealm_5 : decode cX1_readRealm 5 = .ok (.getfield 127, 3) := by decide +kernel
theorem dX1_readRealm_8 : decode cX1_readRealm 8 = .ok (.invokevirtual 131, 3) := by decide +kernel
theorem dX1_readRealm_11 : decode cX1_readRealm 11 = .ok (.ifCond .ne 7, 3) := by decide +kernel
theorem dX1_readRealm_14 : decode cX1_readRealm 14 = .ok (.iconst 1, 1) := by decide +kernel
theorem dX1_readRealm_15 : decode cX1_readRealm 15 = .ok (.goto 4, 3) := by decide +kernel
theorem dX1_readRealm_18 : decode cX1_readRealm 18 = .ok (.iconst 0, 1) := by decide +kernel
theorem dX1_readRealm_19 : decode cX1_readRealm 19 = .ok (.iconst 5, 1) := by decide +kernel
theorem dX1_readRealm_20 : decode cX1_readRealm 20 = .ok (.invokevirtual 109, 3) := by decide +kernel
theorem dX1_readRealm_23 : decode cX1_readRealm 23 = .ok (.aload_n 0, 1) := by decide +kernel
theorem dX1_readRealm_24 : decode cX1_readRealm 24 = .ok (.invokevirtual 32, 3) := by decide +kernel
theorem dX1_readRealm_27 : decode cX1_readRealm 27 = .ok (.pop, 1) := by decide +kernel
theorem dX1_readRealm_28 : decode cX1_readRealm 28 = .ok (.aload_n 0, 1) := by decide +kernel
theorem dX1_readRealm_29 : decode cX1_readRealm 29 = .ok (.invokevirtual 137, 3) := by decide +kernel
theorem dX1_readRealm_32 : decode cX1_readRealm 32 = .ok (.istore_n 1, 1) := by decide +kernel
theorem dX1_readRealm_33 : decode cX1_readRealm 33 = .ok (.aload_n 0, 1) := by decide +kernel
theorem dX1_readRealm_34 : decode cX1_readRealm 34 = .ok (.iconst 1, 1) := by decide +kernel
theorem dX1_readRealm_35 : decode cX1_readRealm 35 = .ok (.sipush 999, 3) := by decide +kernel
theorem dX1_readRealm_38 : decode cX1_readRealm 38 = .ok (.invokevirtual 115, 3) := by decide +kernel
theorem dX1_readRealm_41 : decode cX1_readRealm 41 = .ok (.istore_n 2, 1) := by decide +kernel
theorem dX1_readRealm_42 : decode cX1_readRealm 42 = .ok (.aload_n 0, 1) := by decide +kernel
theorem dX1_readRealm_43 : decode cX1_readRealm 43 = .ok (.iconst 0, 1) := by decide +kernel
theorem dX1_readRealm_44 : decode cX1_readRealm 44 = .ok (.sipush 9999, 3) := by decide +kernel
theorem dX1_readRealm_47 : decode cX1_readRealm 47 = .ok (.invokevirtual 115, 3) := by decide +kernel
theorem dX1_readRealm_50 : decode cX1_readRealm 50 = .ok (.istore_n 3, 1) := by decide +kernel
theorem dX1_readRealm_51 : decode cX1_readRealm 51 = .ok (.aload_n 0, 1) := by decide +kernel
theorem dX1_readRealm_52 : decode cX1_readRealm 52 = .ok (.invokevirtual 140, 3) := by decide +kernel
theorem dX1_readRealm_55 : decode cX1_readRealm 55 = .ok (.istore 4, 2) := by decide +kernel
theorem dX1_readRealm_57 : decode cX1_readRealm 57 = .ok (.iload 4, 2) := by decide +kernel
theorem dX1_readRealm_59 : decode cX1_readRealm 59 = .ok (.ifCond .ne 7, 3) := by decide +kernel
theorem dX1_readRealm_62 : decode cX1_readRealm 62 = .ok (.iconst 0, 1) := by decide +kernel
theorem dX1_readRealm_63 : decode cX1_readRealm 63 = .ok (.goto 13, 3) := by decide +kernel
theorem dX1_readRealm_66 : decode cX1_readRealm 66 = .ok (.iload 4, 2) := by decide +kernel
theorem dX1_readRealm_68 : decode cX1_readRealm 68 = .ok (.aload_n 0, 1) := by decide +kernel
theorem dX1_readRealm_69 : decode cX1_readRealm 69 = .ok (.iconst 1, 1) := by decide +kernel
theorem dX1_readRealm_70 : decode cX1_readRealm 70 = .ok (.bipush 9, 2) := by decide +kernel
theorem dX1_readRealm_72 : decode cX1_readRealm 72 = .ok (.invokevirtual 115, 3) := by decide +kernel
theorem dX1_readRealm_75 : decode cX1_readRealm 75 = .ok (.imul, 1) := by decide +kernel
theorem dX1_readRealm_76 : decode cX1_readRealm 76 = .ok (.istore 5, 2) := by decide +kernel
theorem dX1_readRealm_78 : decode cX1_readRealm 78 = .ok (.aload_n 0, 1) := by decide +kernel
theorem dX1_readRealm_79 : decode cX1_readRealm 79 = .ok (.iconst 1, 1) := by decide +kernel
theorem dX1_readRealm_80 : decode cX1_readRealm 80 = .ok (.invokevirtual 119, 3) := by decide +kernel
theorem dX1_readRealm_83 : decode cX1_readRealm 83 = .ok (.ifCond .eq 18, 3) := by decide +kernel
theorem dX1_readRealm_86 : decode cX1_readRealm 86 = .ok (.aload_n 0, 1) := by decide +kernel
theorem dX1_readRealm_87 : decode cX1_readRealm 87 = .ok (.getfield 12, 3) := by decide +kernel
theorem dX1_readRealm_90 : decode cX1_readRealm 90 = .ok (.getfield 127, 3) := by decide +kernel
theorem dX1_readRealm_93 : decode cX1_readRealm 93 = .ok (.iload_n 1, 1) := by decide +kernel
theorem dX1_readRealm_94 : decode cX1_readRealm 94 = .ok (.iload_n 2, 1) := by decide +kernel
theorem dX1_readRealm_95 : decode cX1_readRealm 95 = .ok (.iload_n 3, 1) := by decide +kernel
theorem dX1_readRealm_96 : decode cX1_readRealm 96 = .ok (.iload 5, 2) := by decide +kernel
theorem dX1_readRealm_98 : decode cX1_readRealm 98 = .ok (.invokevirtual 143, 3) := by decide +kernel
theorem dX1_readRealm_101 : decode cX1_readRealm 101 = .ok (.return_, 1) := by decide +kernel
theorem dX1_readTrust_0 : decode cX1_readTrust 0 = .ok (.aload_n 0, 1) := by decide +kernel
theorem dX1_readTrust_1 : decode cX1_readTrust 1 = .ok (.invokevirtual 32, 3) := by decide +kernel
theorem dX1_readTrust_4 : decode cX1_readTrust 4 = .ok (.pop, 1) := by decide +kernel
theorem dX1_readTrust_5 : decode cX1_readTrust 5 = .ok (.aload_n 0, 1) := by decide +kernel
theorem dX1_readTrust_6 : decode cX1_readTrust 6 = .ok (.aload_n 0, 1) := by decide +kernel
theorem dX1_readTrust_7 : decode cX1_readTrust 7 = .ok (.getfield 12, 3) := by decide +kernel
theorem dX1_readTrust_10 : decode cX1_readTrust 10 = .ok (.getfield 127, 3) := by decide +kernel
theorem dX1_readTrust_13 : decode cX1_readTrust 13 = .ok (.iconst 0, 1) := by decide +kernel
theorem dX1_readTrust_14 : decode cX1_readTrust 14 = .ok (.invokevirtual 147, 3) := by decide +kernel
theorem dX1_readTrust_17 : decode cX1_readTrust 17 = .ok (.istore_n 1, 1) := by decide +kernel
theorem dX1_readTrust_18 : decode cX1_readTrust 18 = .ok (.aload_n 0, 1) := by decide +kernel
theorem dX1_readTrust_19 : decode cX1_readTrust 19 = .ok (.getfield 12, 3) := by decide +kernel
theorem dX1_readTrust_22 : decode cX1_readTrust 22 = .ok (.getfield 127, 3) := by decide +kernel
theorem dX1_readTrust_25 : decode cX1_readTrust 25 = .ok (.iconst 0, 1) := by decide +kernel
theorem dX1_readTrust_26 : decode cX1_readTrust 26 = .ok (.aload_n 0, 1) := by decide +kernel
theorem dX1_readTrust_27 : decode cX1_readTrust 27 = .ok (.getfield 151, 3) := by decide +kernel
theorem dX1_readTrust_30 : decode cX1_readTrust 30 = .ok (.invokevirtual 154, 3) := by decide +kernel
theorem dX1_readTrust_33 : decode cX1_readTrust 33 = .ok (.istore_n 2, 1) := by decide +kernel
theorem dX1_readTrust_34 : decode cX1_readTrust 34 = .ok (.aload_n 0, 1) := by decide +kernel
theorem dX1_readTrust_35 : decode cX1_readTrust 35 = .ok (.aload_n 0, 1) := by decide +kernel
theorem dX1_readTrust_36 : decode cX1_readTrust 36 = .ok (.getfield 39, 3) := by decide +kernel
theorem dX1_readTrust_39 : decode cX1_readTrust 39 = .ok (.iconst 1, 1) := by decide +kernel
theorem dX1_readTrust_40 : decode cX1_readTrust 40 = .ok (.if_icmp .ne 7, 3) := by decide +kernel
theorem dX1_readTrust_43 : decode cX1_readTrust 43 = .ok (.iconst 1, 1) := by decide +kernel
theorem dX1_readTrust_44 : decode cX1_readTrust 44 = .ok (.goto 4, 3) := by decide +kernel
theorem dX1_readTrust_47 : decode cX1_readTrust 47 = .ok (.iconst 0, 1) := by decide +kernel
theorem dX1_readTrust_48 : decode cX1_readTrust 48 = .ok (.iconst 1, 1) := by decide +kernel
theorem dX1_readTrust_49 : decode cX1_readTrust 49 = .ok (.invokevirtual 109, 3) := by decide +kernel
theorem dX1_readTrust_52 : decode cX1_readTrust 52 = .ok (.aload_n 0, 1) := by decide +kernel
theorem dX1_readTrust_53 : decode cX1_readTrust 53 = .ok (.iload_n 2, 1) := by decide +kernel
theorem dX1_readTrust_54 : decode cX1_readTrust 54 = .ok (.iload_n 1, 1) := by decide +kernel
theorem dX1_readTrust_55 : decode cX1_readTrust 55 = .ok (.if_icmp .eq 7, 3) := by decide +kernel
theorem dX1_readTrust_58 : decode cX1_readTrust 58 = .ok (.iconst 1, 1) := by decide +kernel
theorem dX1_readTrust_59 : decode cX1_readTrust 59 = .ok (.goto 4, 3) := by decide +kernel
theorem dX1_readTrust_62 : decode cX1_readTrust 62 = .ok (.iconst 0, 1) := by decide +kernel
theorem dX1_readTrust_63 : decode cX1_readTrust 63 = .ok (.iconst 3, 1) := by decide +kernel
theorem dX1_readTrust_64 : decode cX1_readTrust 64 = .ok (.invokevirtual 109, 3) := by decide +kernel
theorem dX1_readTrust_67 : decode cX1_readTrust 67 = .ok (.aload_n 0, 1) := by decide +kernel
theorem dX1_readTrust_68 : decode cX1_readTrust 68 = .ok (.iload_n 2, 1) := by decide +kernel
theorem dX1_readTrust_69 : decode cX1_readTrust 69 = .ok (.iconst (-1), 1) := by decide +kernel
theorem dX1_readTrust_70 : decode cX1_readTrust 70 = .ok (.if_icmp .eq 7, 3) := by decide +kernel
theorem dX1_readTrust_73 : decode cX1_readTrust 73 = .ok (.iconst 1, 1) := by decide +kernel
theorem dX1_readTrust_74 : decode cX1_readTrust 74 = .ok (.goto 4, 3) := by decide +kernel
theorem dX1_readTrust_77 : decode cX1_readTrust 77 = .ok (.iconst 0, 1) := by decide +kernel
theorem dX1_readTrust_78 : decode cX1_readTrust 78 = .ok (.iconst 4, 1) := by decide +kernel
theorem dX1_readTrust_79 : decode cX1_readTrust 79 = .ok (.invokevirtual 109, 3) := by decide +kernel
theorem dX1_readTrust_82 : decode cX1_readTrust 82 = .ok (.aload_n 0, 1) := by decide +kernel
theorem dX1_readTrust_83 : decode cX1_readTrust 83 = .ok (.invokevirtual 32, 3) := by decide +kernel
theorem dX1_readTrust_86 : decode cX1_readTrust 86 = .ok (.pop, 1) := by decide +kernel
theorem dX1_readTrust_87 : decode cX1_readTrust 87 = .ok (.aload_n 0, 1) := by decide +kernel
theorem dX1_readTrust_88 : decode cX1_readTrust 88 = .ok (.aload_n 0, 1) := by decide +kernel
theorem dX1_readTrust_89 : decode cX1_readTrust 89 = .ok (.getfield 12, 3) := by decide +kernel
theorem dX1_readTrust_92 : decode cX1_readTrust 92 = .ok (.getfield 127, 3) := by decide +kernel
theorem dX1_readTrust_95 : decode cX1_readTrust 95 = .ok (.iload_n 1, 1) := by decide +kernel
theorem dX1_readTrust_96 : decode cX1_readTrust 96 = .ok (.iload_n 2, 1) := by decide +kernel
theorem dX1_readTrust_97 : decode cX1_readTrust 97 = .ok (.invokevirtual 157, 3) := by decide +kernel
theorem dX1_readTrust_100 : decode cX1_readTrust 100 = .ok (.ifCond .ne 7, 3) := by decide +kernel
theorem dX1_readTrust_103 : decode cX1_readTrust 103 = .ok (.iconst 1, 1) := by decide +kernel
theorem dX1_readTrust_104 : decode cX1_readTrust 104 = .ok (.goto 4, 3) := by decide +kernel
theorem dX1_readTrust_107 : decode cX1_readTrust 107 = .ok (.iconst 0, 1) := by decide +kernel
theorem dX1_readTrust_108 : decode cX1_readTrust 108 = .ok (.invokevirtual 119, 3) := by decide +kernel
theorem dX1_readTrust_111 : decode cX1_readTrust 111 = .ok (.ifCond .eq 15, 3) := by decide +kernel
theorem dX1_readTrust_114 : decode cX1_readTrust 114 = .ok (.aload_n 0, 1) := by decide +kernel
theorem dX1_readTrust_115 : decode cX1_readTrust 115 = .ok (.getfield 12, 3) := by decide +kernel
theorem dX1_readTrust_118 : decode cX1_readTrust 118 = .ok (.getfield 127, 3) := by decide +kernel
theorem dX1_readTrust_121 : decode cX1_readTrust 121 = .ok (.iload_n 1, 1) := by decide +kernel
theorem dX1_readTrust_122 : decode cX1_readTrust 122 = .ok (.iload_n 2, 1) := by decide +kernel
theorem dX1_readTrust_123 : decode cX1_readTrust 123 = .ok (.invokevirtual 161, 3) := by decide +kernel
theorem dX1_readTrust_126 : decode cX1_readTrust 126 = .ok (.return_, 1) := by decide +kernel
theorem dX1_readUser_0 : decode cX1_readUser 0 = .ok (.aload_n 0, 1) := by decide +kernel
theorem dX1_readUser_1 : decode cX1_readUser 1 = .ok (.aload_n 0, 1) := by decide +kernel
theorem dX1_readUser_2 : decode cX1_readUser 2 = .ok (.getfield 12, 3) := by decide +kernel
theorem dX1_readUser_5 : decode cX1_readUser 5 = .ok (.getfield 164, 3) := by decide +kernel
theorem dX1_readUser_8 : decode cX1_readUser 8 = .ok (.invokevirtual 168, 3) := by decide +kernel
theorem dX1_readUser_11 : decode cX1_readUser 11 = .ok (.ifCond .ne 7, 3) := by decide +kernel
theorem dX1_readUser_14 : decode cX1_readUser 14 = .ok (.iconst 1, 1) := by decide +kernel
theorem dX1_readUser_15 : decode cX1_readUser 15 = .ok (.goto 4, 3) := by decide +kernel
theorem dX1_readUser_18 : decode cX1_readUser 18 = .ok (.iconst 0, 1) := by decide +kernel
theorem dX1_readUser_19 : decode cX1_readUser 19 = .ok (.iconst 5, 1) := by decide +kernel
theorem dX1_readUser_20 : decode cX1_readUser 20 = .ok (.invokevirtual 109, 3) := by decide +kernel
theorem dX1_readUser_23 : decode cX1_readUser 23 = .ok (.aload_n 0, 1) := by decide +kernel
theorem dX1_readUser_24 : decode cX1_readUser 24 = .ok (.invokevirtual 32, 3) := by decide +kernel
theorem dX1_readUser_27 : decode cX1_readUser 27 = .ok (.pop, 1) := by decide +kernel
theorem dX1_readUser_28 : decode cX1_readUser 28 = .ok (.aload_n 0, 1) := by decide +kernel
theorem dX1_readUser_29 : decode cX1_readUser 29 = .ok (.invokevirtual 137, 3) := by decide +kernel
theorem dX1_readUser_32 : decode cX1_readUser 32 = .ok (.istore_n 1, 1) := by decide +kernel
theorem dX1_readUser_33 : decode cX1_readUser 33 = .ok (.aload_n 0, 1) := by decide +kernel
theorem dX1_readUser_34 : decode cX1_readUser 34 = .ok (.aload_n 0, 1) := by decide +kernel
theorem dX1_readUser_35 : decode cX1_readUser 35 = .ok (.getfield 12, 3) := by decide +kernel
theorem dX1_readUser_38 : decode cX1_readUser 38 = .ok (.getfield 127, 3) := by decide +kernel
theorem dX1_readUser_41 : decode cX1_readUser 41 = .ok (.iconst 0, 1) := by decide +kernel
theorem dX1_readUser_42 : decode cX1_readUser 42 = .ok (.invokevirtual 147, 3) := by decide +kernel
theorem dX1_readUser_45 : decode cX1_readUser 45 = .ok (.istore_n 2, 1) := by decide +kernel
theorem dX1_readUser_46 : decode cX1_readUser 46 = .ok (.aload_n 0, 1) := by decide +kernel
theorem dX1_readUser_47 : decode cX1_readUser 47 = .ok (.iconst 0, 1) := by decide +kernel
theorem dX1_readUser_48 : decode cX1_readUser 48 = .ok (.sipush 9999, 3) := by decide +kernel
theorem dX1_readUser_51 : decode cX1_readUser 51 = .ok (.invokevirtual 115, 3) := by decide +kernel
theorem dX1_readUser_54 : decode cX1_readUser 54 = .ok (.istore_n 3, 1) := by decide +kernel
theorem dX1_readUser_55 : decode cX1_readUser 55 = .ok (.aload_n 0, 1) := by decide +kernel
theorem dX1_readUser_56 : decode cX1_readUser 56 = .ok (.invokevirtual 140, 3) := by decide +kernel
theorem dX1_readUser_59 : decode cX1_readUser 59 = .ok (.istore 4, 2) := by decide +kernel
theorem dX1_readUser_61 : decode cX1_readUser 61 = .ok (.iload 4, 2) := by decide +kernel
theorem dX1_readUser_63 : decode cX1_readUser 63 = .ok (.ifCond .ne 7, 3) := by decide +kernel
theorem dX1_readUser_66 : decode cX1_readUser 66 = .ok (.iconst 0, 1) := by decide +kernel
theorem dX1_readUser_67 : decode cX1_readUser 67 = .ok (.goto 13, 3) := by decide +kernel
theorem dX1_readUser_70 : decode cX1_readUser 70 = .ok (.iload 4, 2) := by decide +kernel
theorem dX1_readUser_72 : decode cX1_readUser 72 = .ok (.aload_n 0, 1) := by decide +kernel
theorem dX1_readUser_73 : decode cX1_readUser 73 = .ok (.iconst 1, 1) := by decide +kernel
theorem dX1_readUser_74 : decode cX1_readUser 74 = .ok (.bipush 9, 2) := by decide +kernel
theorem dX1_readUser_76 : decode cX1_readUser 76 = .ok (.invokevirtual 115, 3) := by decide +kernel
theorem dX1_readUser_79 : decode cX1_readUser 79 = .ok (.imul, 1) := by decide +kernel
theorem dX1_readUser_80 : decode cX1_readUser 80 = .ok (.istore 5, 2) := by decide +kernel
theorem dX1_readUser_82 : decode cX1_readUser 82 = .ok (.aload_n 0, 1) := by decide +kernel
theorem dX1_readUser_83 : decode cX1_readUser 83 = .ok (.iconst 1, 1) := by decide +kernel
theorem dX1_readUser_84 : decode cX1_readUser 84 = .ok (.invokevirtual 119, 3) := by decide +kernel
theorem dX1_readUser_87 : decode cX1_readUser 87 = .ok (.ifCond .eq 18, 3) := by decide +kernel
theorem dX1_readUser_90 : decode cX1_readUser 90 = .ok (.aload_n 0, 1) := by decide +kernel
theorem dX1_readUser_91 : decode cX1_readUser 91 = .ok (.getfield 12, 3) := by decide +kernel
theorem dX1_readUser_94 : decode cX1_readUser 94 = .ok (.getfield 164, 3) := by decide +kernel
theorem dX1_readUser_97 : decode cX1_readUser 97 = .ok (.iload_n 1, 1) := by decide +kernel
theorem dX1_readUser_98 : decode cX1_readUser 98 = .ok (.iload_n 2, 1) := by decide +kernel
theorem dX1_readUser_99 : decode cX1_readUser 99 = .ok (.iload_n 3, 1) := by decide +kernel
theorem dX1_readUser_100 : decode cX1_readUser 100 = .ok (.iload 5, 2) := by decide +kernel
theorem dX1_readUser_102 : decode cX1_readUser 102 = .ok (.invokevirtual 171, 3) := by decide +kernel
theorem dX1_readUser_105 : decode cX1_readUser 105 = .ok (.return_, 1) := by decide +kernel
theorem dX1_readService_0 : decode cX1_readService 0 = .ok (.aload_n 0, 1) := by decide +kernel
theorem dX1_readService_1 : decode cX1_readService 1 = .ok (.aload_n 0, 1) := by decide +kernel
theorem dX1_readService_2 : decode cX1_readService 2 = .ok (.getfield 12, 3) := by decide +kernel
theorem dX1_readService_5 : decode cX1_readService 5 = .ok (.getfield 174, 3) := by decide +kernel
theorem dX1_readService_8 : decode cX1_readService 8 = .ok (.invokevirtual 178, 3) := by decide +kernel
theorem dX1_readService_11 : decode cX1_readService 11 = .ok (.ifCond .ne 7, 3) := by decide +kernel
theorem dX1_readService_14 : decode cX1_readService 14 = .ok (.iconst 1, 1) := by decide +kernel
theorem dX1_readService_15 : decode cX1_readService 15 = .ok (.goto 4, 3) := by decide +kernel
theorem dX1_readService_18 : decode cX1_readService 18 = .ok (.iconst 0, 1) := by decide +kernel
theorem dX1_readService_19 : decode cX1_readService 19 = .ok (.iconst 5, 1) := by decide +kernel
theorem dX1_readService_20 : decode cX1_readService 20 = .ok (.invokevirtual 109, 3) := by decide +kernel
theorem dX1_readService_23 : decode cX1_readService 23 = .ok (.aload_n 0, 1) := by decide +kernel
theorem dX1_readService_24 : decode cX1_readService 24 = .ok (.invokevirtual 32, 3) := by decide +kernel
theorem dX1_readService_27 : decode cX1_readService 27 = .ok (.pop, 1) := by decide +kernel
theorem dX1_readService_28 : decode cX1_readService 28 = .ok (.aload_n 0, 1) := by decide +kernel
theorem dX1_readService_29 : decode cX1_readService 29 = .ok (.invokevirtual 137, 3) := by decide +kernel
theorem dX1_readService_32 : decode cX1_readService 32 = .ok (.istore_n 1, 1) := by decide +kernel
theorem dX1_readService_33 : decode cX1_readService 33 = .ok (.aload_n 0, 1) := by decide +kernel
theorem dX1_readService_34 : decode cX1_readService 34 = .ok (.aload_n 0, 1) := by decide +kernel
theorem dX1_readService_35 : decode cX1_readService 35 = .ok (.getfield 12, 3) := by decide +kernel
theorem dX1_readService_38 : decode cX1_readService 38 = .ok (.getfield 127, 3) := by decide +kernel
theorem dX1_readService_41 : decode cX1_readService 41 = .ok (.iconst 0, 1) := by decide +kernel
theorem dX1_readService_42 : decode cX1_readService 42 = .ok (.invokevirtual 147, 3) := by decide +kernel
theorem dX1_readService_45 : decode cX1_readService 45 = .ok (.istore_n 2, 1) := by decide +kernel
theorem dX1_readService_46 : decode cX1_readService 46 = .ok (.aload_n 0, 1) := by decide +kernel
theorem dX1_readService_47 : decode cX1_readService 47 = .ok (.iconst 0, 1) := by decide +kernel
theorem dX1_readService_48 : decode cX1_readService 48 = .ok (.bipush 99, 2) := by decide +kernel
theorem dX1_readService_50 : decode cX1_readService 50 = .ok (.invokevirtual 115, 3) := by decide +kernel
theorem dX1_readService_53 : decode cX1_readService 53 = .ok (.istore_n 3, 1) := by decide +kernel
theorem dX1_readService_54 : decode cX1_readService 54 = .ok (.aload_n 0, 1) := by decide +kernel
theorem dX1_readService_55 : decode cX1_readService 55 = .ok (.iconst 1, 1) := by decide +kernel
theorem dX1_readService_56 : decode cX1_readService 56 = .ok (.invokevirtual 119, 3) := by decide +kernel
theorem dX1_readService_59 : decode cX1_readService 59 = .ok (.ifCond .eq 29, 3) := by decide +kernel
theorem dX1_readService_62 : decode cX1_readService 62 = .ok (.aload_n 0, 1) := by decide +kernel
theorem dX1_readService_63 : decode cX1_readService 63 = .ok (.getfield 12, 3) := by decide +kernel
theorem dX1_readService_66 : decode cX1_readService 66 = .ok (.getfield 174, 3) := by decide +kernel
theorem dX1_readService_69 : decode cX1_readService 69 = .ok (.iload_n 1, 1) := by decide +kernel
theorem dX1_readService_70 : decode cX1_readService 70 = .ok (.iload_n 2, 1) := by decide +kernel
theorem dX1_readService_71 : decode cX1_readService 71 = .ok (.iload_n 3, 1) := by decide +kernel
theorem dX1_readService_72 : decode cX1_readService 72 = .ok (.invokevirtual 181, 3) := by decide +kernel
theorem dX1_readService_75 : decode cX1_readService 75 = .ok (.aload_n 0, 1) := by decide +kernel
theorem dX1_readService_76 : decode cX1_readService 76 = .ok (.getfield 12, 3) := by decide +kernel
theorem dX1_readService_79 : decode cX1_readService 79 = .ok (.dup, 1) := by decide +kernel
theorem dX1_readService_80 : decode cX1_readService 80 = .ok (.getfield 185, 3) := by decide +kernel
theorem dX1_readService_83 : decode cX1_readService 83 = .ok (.iload_n 3, 1) := by decide +kernel
theorem dX1_readService_84 : decode cX1_readService 84 = .ok (.iadd, 1) := by decide +kernel
theorem dX1_readService_85 : decode cX1_readService 85 = .ok (.putfield 185, 3) := by decide +kernel
theorem dX1_readService_88 : decode cX1_readService 88 = .ok (.return_, 1) := by decide +kernel
theorem dX1_readLogin_0 : decode cX1_readLogin 0 = .ok (.aload_n 0, 1) := by decide +kernel
theorem dX1_readLogin_1 : decode cX1_readLogin 1 = .ok (.invokevirtual 32, 3) := by decide +kernel
theorem dX1_readLogin_4 : decode cX1_readLogin 4 = .ok (.pop, 1) := by decide +kernel
theorem dX1_readLogin_5 : decode cX1_readLogin 5 = .ok (.aload_n 0, 1) := by decide +kernel
theorem dX1_readLogin_6 : decode cX1_readLogin 6 = .ok (.aload_n 0, 1) := by decide +kernel
theorem dX1_readLogin_7 : decode cX1_readLogin 7 = .ok (.getfield 12, 3) := by decide +kernel
theorem dX1_readLogin_10 : decode cX1_readLogin 10 = .ok (.getfield 164, 3) := by decide +kernel
theorem dX1_readLogin_13 : decode cX1_readLogin 13 = .ok (.iconst 0, 1) := by decide +kernel
theorem dX1_readLogin_14 : decode cX1_readLogin 14 = .ok (.invokevirtual 147, 3) := by decide +kernel
theorem dX1_readLogin_17 : decode cX1_readLogin 17 = .ok (.istore_n 1, 1) := by decide +kernel
theorem dX1_readLogin_18 : decode cX1_readLogin 18 = .ok (.aload_n 0, 1) := by decide +kernel
theorem dX1_readLogin_19 : decode cX1_readLogin 19 = .ok (.iconst 0, 1) := by decide +kernel
theorem dX1_readLogin_20 : decode cX1_readLogin 20 = .ok (.sipush 9999, 3) := by decide +kernel
theorem dX1_readLogin_23 : decode cX1_readLogin 23 = .ok (.invokevirtual 115, 3) := by decide +kernel
theorem dX1_readLogin_26 : decode cX1_readLogin 26 = .ok (.istore_n 2, 1) := by decide +kernel
theorem dX1_readLogin_27 : decode cX1_readLogin 27 = .ok (.aload_n 0, 1) := by decide +kernel
theorem dX1_readLogin_28 : decode cX1_readLogin 28 = .ok (.ldc 188, 2) := by decide +kernel
theorem dX1_readLogin_30 : decode cX1_readLogin 30 = .ok (.invokevirtual 47, 3) := by decide +kernel
theorem dX1_readLogin_33 : decode cX1_readLogin 33 = .ok (.istore_n 3, 1) := by decide +kernel
theorem dX1_readLogin_34 : decode cX1_readLogin 34 = .ok (.iload_n 3, 1) := by decide +kernel
theorem dX1_readLogin_35 : decode cX1_readLogin 35 = .ok (.ifCond .eq 8, 3) := by decide +kernel
theorem dX1_readLogin_38 : decode cX1_readLogin 38 = .ok (.aload_n 0, 1) := by decide +kernel
theorem dX1_readLogin_39 : decode cX1_readLogin 39 = .ok (.invokevirtual 32, 3) := by decide +kernel
theorem dX1_readLogin_42 : decode cX1_readLogin 42 = .ok (.pop, 1) := by decide +kernel
theorem dX1_readLogin_43 : decode cX1_readLogin 43 = .ok (.aload_n 0, 1) := by decide +kernel
theorem dX1_readLogin_44 : decode cX1_readLogin 44 = .ok (.aload_n 0, 1) := by decide +kernel
theorem dX1_readLogin_45 : decode cX1_readLogin 45 = .ok (.getfield 12, 3) := by decide +kernel
theorem dX1_readLogin_48 : decode cX1_readLogin 48 = .ok (.iload_n 1, 1) := by decide +kernel
theorem dX1_readLogin_49 : decode cX1_readLogin 49 = .ok (.iload_n 2, 1) := by decide +kernel
theorem dX1_readLogin_50 : decode cX1_readLogin 50 = .ok (.invokevirtual 190, 3) := by decide +kernel
theorem dX1_readLogin_53 : decode cX1_readLogin 53 = .ok (.ifCond .ne 7, 3) := by decide +kernel
theorem dX1_readLogin_56 : decode cX1_readLogin 56 = .ok (.iconst 1, 1) := by decide +kernel
theorem dX1_readLogin_57 : decode cX1_readLogin 57 = .ok (.goto 4, 3) := by decide +kernel
theorem dX1_readLogin_60 : decode cX1_readLogin 60 = .ok (.iconst 0, 1) := by decide +kernel
theorem dX1_readLogin_61 : decode cX1_readLogin 61 = .ok (.invokevirtual 119, 3) := by decide +kernel
theorem dX1_readLogin_64 : decode cX1_readLogin 64 = .ok (.ifCond .eq 13, 3) := by decide +kernel
theorem dX1_readLogin_67 : decode cX1_readLogin 67 = .ok (.aload_n 0, 1) := by decide +kernel
theorem dX1_readLogin_68 : decode cX1_readLogin 68 = .ok (.getfield 12, 3) := by decide +kernel
theorem dX1_readLogin_71 : decode cX1_readLogin 71 = .ok (.iload_n 1, 1) := by decide +kernel
theorem dX1_readLogin_72 : decode cX1_readLogin 72 = .ok (.iload_n 3, 1) := by decide +kernel
theorem dX1_readLogin_73 : decode cX1_readLogin 73 = .ok (.invokevirtual 193, 3) := by decide +kernel
theorem dX1_readLogin_76 : decode cX1_readLogin 76 = .ok (.pop, 1) := by decide +kernel
theorem dX1_readLogin_77 : decode cX1_readLogin 77 = .ok (.return_, 1) := by decide +kernel
theorem dX1_readRefer_0 : decode cX1_readRefer 0 = .ok (.aload_n 0, 1) := by decide +kernel
theorem dX1_readRefer_1 : decode cX1_readRefer 1 = .ok (.invokevirtual 32, 3) := by decide +kernel
theorem dX1_readRefer_4 : decode cX1_readRefer 4 = .ok (.pop, 1) := by decide +kernel
theorem dX1_readRefer_5 : decode cX1_readRefer 5 = .ok (.aload_n 0, 1) := by decide +kernel
theorem dX1_readRefer_6 : decode cX1_readRefer 6 = .ok (.invokevirtual 197, 3) := by decide +kernel
theorem dX1_readRefer_9 : decode cX1_readRefer 9 = .ok (.istore_n 1, 1) := by decide +kernel
theorem dX1_readRefer_10 : decode cX1_readRefer 10 = .ok (.aload_n 0, 1) := by decide +kernel
theorem dX1_readRefer_11 : decode cX1_readRefer 11 = .ok (.aload_n 0, 1) := by decide +kernel
theorem dX1_readRefer_12 : decode cX1_readRefer 12 = .ok (.getfield 12, 3) := by decide +kernel
theorem dX1_readRefer_15 : decode cX1_readRefer 15 = .ok (.getfield 127, 3) := by decide +kernel
theorem dX1_readRefer_18 : decode cX1_readRefer 18 = .ok (.iconst 0, 1) := by decide +kernel
theorem dX1_readRefer_19 : decode cX1_readRefer 19 = .ok (.invokevirtual 147, 3) := by decide +kernel
theorem dX1_readRefer_22 : decode cX1_readRefer 22 = .ok (.istore_n 2, 1) := by decide +kernel
theorem dX1_readRefer_23 : decode cX1_readRefer 23 = .ok (.aload_n 0, 1) := by decide +kernel
theorem dX1_readRefer_24 : decode cX1_readRefer 24 = .ok (.aload_n 0, 1) := by decide +kernel
theorem dX1_readRefer_25 : decode cX1_readRefer 25 = .ok (.getfield 12, 3) := by decide +kernel
theorem dX1_readRefer_28 : decode cX1_readRefer 28 = .ok (.iload_n 1, 1) := by decide +kernel
theorem dX1_readRefer_29 : decode cX1_readRefer 29 = .ok (.iload_n 2, 1) := by decide +kernel
theorem dX1_readRefer_30 : decode cX1_readRefer 30 = .ok (.invokevirtual 200, 3) := by decide +kernel
theorem dX1_readRefer_33 : decode cX1_readRefer 33 = .ok (.ifCond .ne 7, 3) := by decide +kernel
theorem dX1_readRefer_36 : decode cX1_readRefer 36 = .ok (.iconst 1, 1) := by decide +kernel
theorem dX1_readRefer_37 : decode cX1_readRefer 37 = .ok (.goto 4, 3) := by decide +kernel
theorem dX1_readRefer_40 : decode cX1_readRefer 40 = .ok (.iconst 0, 1) := by decide +kernel
theorem dX1_readRefer_41 : decode cX1_readRefer 41 = .ok (.invokevirtual 119, 3) := by decide +kernel
theorem dX1_readRefer_44 : decode cX1_readRefer 44 = .ok (.ifCond .eq 13, 3) := by decide +kernel
theorem dX1_readRefer_47 : decode cX1_readRefer 47 = .ok (.aload_n 0, 1) := by decide +kernel
theorem dX1_readRefer_48 : decode cX1_readRefer 48 = .ok (.getfield 12, 3) := by decide +kernel
theorem dX1_readRefer_51 : decode cX1_readRefer 51 = .ok (.iload_n 1, 1) := by decide +kernel
theorem dX1_readRefer_52 : decode cX1_readRefer 52 = .ok (.iload_n 2, 1) := by decide +kernel
theorem dX1_readRefer_53 : decode cX1_readRefer 53 = .ok (.invokevirtual 203, 3) := by decide +kernel
theorem dX1_readRefer_56 : decode cX1_readRefer 56 = .ok (.pop, 1) := by decide +kernel
theorem dX1_readRefer_57 : decode cX1_readRefer 57 = .ok (.return_, 1) := by decide +kernel
theorem dX1_readRequest_0 : decode cX1_readRequest 0 = .ok (.aload_n 0, 1) := by decide +kernel
theorem dX1_readRequest_1 : decode cX1_readRequest 1 = .ok (.invokevirtual 32, 3) := by decide +kernel
theorem dX1_readRequest_4 : decode cX1_readRequest 4 = .ok (.pop, 1) := by decide +kernel
theorem dX1_readRequest_5 : decode cX1_readRequest 5 = .ok (.aload_n 0, 1) := by decide +kernel
theorem dX1_readRequest_6 : decode cX1_readRequest 6 = .ok (.invokevirtual 197, 3) := by decide +kernel
theorem dX1_readRequest_9 : decode cX1_readRequest 9 = .ok (.istore_n 1, 1) := by decide +kernel
theorem dX1_readRequest_10 : decode cX1_readRequest 10 = .ok (.aload_n 0, 1) := by decide +kernel
theorem dX1_readRequest_11 : decode cX1_readRequest 11 = .ok (.aload_n 0, 1) := by decide +kernel
theorem dX1_readRequest_12 : decode cX1_readRequest 12 = .ok (.getfield 12, 3) := by decide +kernel
theorem dX1_readRequest_15 : decode cX1_readRequest 15 = .ok (.getfield 174, 3) := by decide +kernel
theorem dX1_readRequest_18 : decode cX1_readRequest 18 = .ok (.iconst 0, 1) := by decide +kernel
theorem dX1_readRequest_19 : decode cX1_readRequest 19 = .ok (.invokevirtual 147, 3) := by decide +kernel
theorem dX1_readRequest_22 : decode cX1_readRequest 22 = .ok (.istore_n 2, 1) := by decide +kernel
theorem dX1_readRequest_23 : decode cX1_readRequest 23 = .ok (.aload_n 0, 1) := by decide +kernel
theorem dX1_readRequest_24 : decode cX1_readRequest 24 = .ok (.aload_n 0, 1) := by decide +kernel
theorem dX1_readRequest_25 : decode cX1_readRequest 25 = .ok (.getfield 12, 3) := by decide +kernel
theorem dX1_readRequest_28 : decode cX1_readRequest 28 = .ok (.iload_n 1, 1) := by decide +kernel
theorem dX1_readRequest_29 : decode cX1_readRequest 29 = .ok (.iload_n 2, 1) := by decide +kernel
theorem dX1_readRequest_30 : decode cX1_readRequest 30 = .ok (.invokevirtual 206, 3) := by decide +kernel
theorem dX1_readRequest_33 : decode cX1_readRequest 33 = .ok (.ifCond .ne 7, 3) := by decide +kernel
theorem dX1_readRequest_36 : decode cX1_readRequest 36 = .ok (.iconst 1, 1) := by decide +kernel
theorem dX1_readRequest_37 : decode cX1_readRequest 37 = .ok (.goto 4, 3) := by decide +kernel
theorem dX1_readRequest_40 : decode cX1_readRequest 40 = .ok (.iconst 0, 1) := by decide +kernel
theorem dX1_readRequest_41 : decode cX1_readRequest 41 = .ok (.invokevirtual 119, 3) := by decide +kernel
theorem dX1_readRequest_44 : decode cX1_readRequest 44 = .ok (.ifCond .eq 13, 3) := by decide +kernel
theorem dX1_readRequest_47 : decode cX1_readRequest 47 = .ok (.aload_n 0, 1) := by decide +kernel
theorem dX1_readRequest_48 : decode cX1_readRequest 48 = .ok (.getfield 12, 3) := by decide +kernel
theorem dX1_readRequest_51 : decode cX1_readRequest 51 = .ok (.iload_n 1, 1) := by decide +kernel
theorem dX1_readRequest_52 : decode cX1_readRequest 52 = .ok (.iload_n 2, 1) := by decide +kernel
theorem dX1_readRequest_53 : decode cX1_readRequest 53 = .ok (.invokevirtual 209, 3) := by decide +kernel
theorem dX1_readRequest_56 : decode cX1_readRequest 56 = .ok (.pop, 1) := by decide +kernel
theorem dX1_readRequest_57 : decode cX1_readRequest 57 = .ok (.return_, 1) := by decide +kernel
theorem dX1_readRenew_0 : decode cX1_readRenew 0 = .ok (.aload_n 0, 1) := by decide +kernel
theorem dX1_readRenew_1 : decode cX1_readRenew 1 = .ok (.invokevirtual 32, 3) := by decide +kernel
theorem dX1_readRenew_4 : decode cX1_readRenew 4 = .ok (.pop, 1) := by decide +kernel
theorem dX1_readRenew_5 : decode cX1_readRenew 5 = .ok (.aload_n 0, 1) := by decide +kernel
theorem dX1_readRenew_6 : decode cX1_readRenew 6 = .ok (.invokevirtual 197, 3) := by decide +kernel
theorem dX1_readRenew_9 : decode cX1_readRenew 9 = .ok (.istore_n 1, 1) := by decide +kernel
theorem dX1_readRenew_10 : decode cX1_readRenew 10 = .ok (.aload_n 0, 1) := by decide +kernel
theorem dX1_readRenew_11 : decode cX1_readRenew 11 = .ok (.aload_n 0, 1) := by decide +kernel
theorem dX1_readRenew_12 : decode cX1_readRenew 12 = .ok (.getfield 12, 3) := by decide +kernel
theorem dX1_readRenew_15 : decode cX1_readRenew 15 = .ok (.iload_n 1, 1) := by decide +kernel
theorem dX1_readRenew_16 : decode cX1_readRenew 16 = .ok (.invokevirtual 212, 3) := by decide +kernel
theorem dX1_readRenew_19 : decode cX1_readRenew 19 = .ok (.ifCond .ne 7, 3) := by decide +kernel
theorem dX1_readRenew_22 : decode cX1_readRenew 22 = .ok (.iconst 1, 1) := by decide +kernel
theorem dX1_readRenew_23 : decode cX1_readRenew 23 = .ok (.goto 4, 3) := by decide +kernel
theorem dX1_readRenew_26 : decode cX1_readRenew 26 = .ok (.iconst 0, 1) := by decide +kernel
theorem dX1_readRenew_27 : decode cX1_readRenew 27 = .ok (.invokevirtual 119, 3) := by decide +kernel
theorem dX1_readRenew_30 : decode cX1_readRenew 30 = .ok (.ifCond .eq 12, 3) := by decide +kernel
theorem dX1_readRenew_33 : decode cX1_readRenew 33 = .ok (.aload_n 0, 1) := by decide +kernel
theorem dX1_readRenew_34 : decode cX1_readRenew 34 = .ok (.getfield 12, 3) := by decide +kernel
theorem dX1_readRenew_37 : decode cX1_readRenew 37 = .ok (.iload_n 1, 1) := by decide +kernel
theorem dX1_readRenew_38 : decode cX1_readRenew 38 = .ok (.invokevirtual 216, 3) := by decide +kernel
theorem dX1_readRenew_41 : decode cX1_readRenew 41 = .ok (.pop, 1) := by decide +kernel
theorem dX1_readRenew_42 : decode cX1_readRenew 42 = .ok (.return_, 1) := by decide +kernel
theorem dX1_readCheese_0 : decode cX1_readCheese 0 = .ok (.aload_n 0, 1) := by decide +kernel
theorem dX1_readCheese_1 : decode cX1_readCheese 1 = .ok (.invokevirtual 32, 3) := by decide +kernel
theorem dX1_readCheese_4 : decode cX1_readCheese 4 = .ok (.pop, 1) := by decide +kernel
theorem dX1_readCheese_5 : decode cX1_readCheese 5 = .ok (.aload_n 0, 1) := by decide +kernel
theorem dX1_readCheese_6 : decode cX1_readCheese 6 = .ok (.invokevirtual 197, 3) := by decide +kernel
theorem dX1_readCheese_9 : decode cX1_readCheese 9 = .ok (.istore_n 1, 1) := by decide +kernel
theorem dX1_readCheese_10 : decode cX1_readCheese 10 = .ok (.aload_n 0, 1) := by decide +kernel
theorem dX1_readCheese_11 : decode cX1_readCheese 11 = .ok (.aload_n 0, 1) := by decide +kernel
theorem dX1_readCheese_12 : decode cX1_readCheese 12 = .ok (.getfield 12, 3) := by decide +kernel
theorem dX1_readCheese_15 : decode cX1_readCheese 15 = .ok (.iload_n 1, 1) := by decide +kernel
theorem dX1_readCheese_16 : decode cX1_readCheese 16 = .ok (.iconst 0, 1) := by decide +kernel
theorem dX1_readCheese_17 : decode cX1_readCheese 17 = .ok (.invokevirtual 219, 3) := by decide +kernel
theorem dX1_readCheese_20 : decode cX1_readCheese 20 = .ok (.ifCond .ne 7, 3) := by decide +kernel
theorem dX1_readCheese_23 : decode cX1_readCheese 23 = .ok (.iconst 1, 1) := by decide +kernel
theorem dX1_readCheese_24 : decode cX1_readCheese 24 = .ok (.goto 4, 3) := by decide +kernel
theorem dX1_readCheese_27 : decode cX1_readCheese 27 = .ok (.iconst 0, 1) := by decide +kernel
theorem dX1_readCheese_28 : decode cX1_readCheese 28 = .ok (.invokevirtual 119, 3) := by decide +kernel
theorem dX1_readCheese_31 : decode cX1_readCheese 31 = .ok (.ifCond .eq 12, 3) := by decide +kernel
theorem dX1_readCheese_34 : decode cX1_readCheese 34 = .ok (.aload_n 0, 1) := by decide +kernel
theorem dX1_readCheese_35 : decode cX1_readCheese 35 = .ok (.getfield 12, 3) := by decide +kernel
theorem dX1_readCheese_38 : decode cX1_readCheese 38 = .ok (.iload_n 1, 1) := by decide +kernel
theorem dX1_readCheese_39 : decode cX1_readCheese 39 = .ok (.invokevirtual 222, 3) := by decide +kernel
theorem dX1_readCheese_42 : decode cX1_readCheese 42 = .ok (.pop, 1) := by decide +kernel
theorem dX1_readCheese_43 : decode cX1_readCheese 43 = .ok (.return_, 1) := by decide +kernel
theorem dX1_readDrop_0 : decode cX1_readDrop 0 = .ok (.aload_n 0, 1) := by decide +kernel
theorem dX1_readDrop_1 : decode cX1_readDrop 1 = .ok (.invokevirtual 32, 3) := by decide +kernel
theorem dX1_readDrop_4 : decode cX1_readDrop 4 = .ok (.pop, 1) := by decide +kernel
theorem dX1_readDrop_5 : decode cX1_readDrop 5 = .ok (.aload_n 0, 1) := by decide +kernel
theorem dX1_readDrop_6 : decode cX1_readDrop 6 = .ok (.invokevirtual 197, 3) := by decide +kernel
theorem dX1_readDrop_9 : decode cX1_readDrop 9 = .ok (.istore_n 1, 1) := by decide +kernel
theorem dX1_readDrop_10 : decode cX1_readDrop 10 = .ok (.aload_n 0, 1) := by decide +kernel
theorem dX1_readDrop_11 : decode cX1_readDrop 11 = .ok (.iconst 1, 1) := by decide +kernel
theorem dX1_readDrop_12 : decode cX1_readDrop 12 = .ok (.invokevirtual 119, 3) := by decide +kernel
theorem dX1_readDrop_15 : decode cX1_readDrop 15 = .ok (.ifCond .eq 14, 3) := by decide +kernel
theorem dX1_readDrop_18 : decode cX1_readDrop 18 = .ok (.aload_n 0, 1) := by decide +kernel
theorem dX1_readDrop_19 : decode cX1_readDrop 19 = .ok (.getfield 12, 3) := by decide +kernel
theorem dX1_readDrop_22 : decode cX1_readDrop 22 = .ok (.getfield 225, 3) := by decide +kernel
theorem dX1_readDrop_25 : decode cX1_readDrop 25 = .ok (.iload_n 1, 1) := by decide +kernel
theorem dX1_readDrop_26 : decode cX1_readDrop 26 = .ok (.invokevirtual 229, 3) := by decide +kernel
theorem dX1_readDrop_29 : decode cX1_readDrop 29 = .ok (.return_, 1) := by decide +kernel
theorem dX1_readSweep_0 : decode cX1_readSweep 0 = .ok (.aload_n 0, 1) := by decide +kernel
theorem dX1_readSweep_1 : decode cX1_readSweep 1 = .ok (.invokevirtual 32, 3) := by decide +kernel
theorem dX1_readSweep_4 : decode cX1_readSweep 4 = .ok (.pop, 1) := by decide +kernel
theorem dX1_readSweep_5 : decode cX1_readSweep 5 = .ok (.aload_n 0, 1) := by decide +kernel
theorem dX1_readSweep_6 : decode cX1_readSweep 6 = .ok (.iconst 1, 1) := by decide +kernel
theorem dX1_readSweep_7 : decode cX1_readSweep 7 = .ok (.invokevirtual 119, 3) := by decide +kernel
theorem dX1_readSweep_10 : decode cX1_readSweep 10 = .ok (.ifCond .eq 21, 3) := by decide +kernel
theorem dX1_readSweep_13 : decode cX1_readSweep 13 = .ok (.aload_n 0, 1) := by decide +kernel
theorem dX1_readSweep_14 : decode cX1_readSweep 14 = .ok (.getfield 12, 3) := by decide +kernel
theorem dX1_readSweep_17 : decode cX1_readSweep 17 = .ok (.getfield 225, 3) := by decide +kernel
theorem dX1_readSweep_20 : decode cX1_readSweep 20 = .ok (.aload_n 0, 1) := by decide +kernel
theorem dX1_readSweep_21 : decode cX1_readSweep 21 = .ok (.getfield 12, 3) := by decide +kernel
theorem dX1_readSweep_24 : decode cX1_readSweep 24 = .ok (.getfield 235, 3) := by decide +kernel
theorem dX1_readSweep_27 : decode cX1_readSweep 27 = .ok (.invokevirtual 238, 3) := by decide +kernel
theorem dX1_readSweep_30 : decode cX1_readSweep 30 = .ok (.pop, 1) := by decide +kernel
theorem dX1_readSweep_31 : decode cX1_readSweep 31 = .ok (.return_, 1) := by decide +kernel
theorem dX1_readPass_0 : decode cX1_readPass 0 = .ok (.aload_n 0, 1) := by decide +kernel
theorem dX1_readPass_1 : decode cX1_readPass 1 = .ok (.invokevirtual 32, 3) := by decide +kernel
theorem dX1_readPass_4 : decode cX1_readPass 4 = .ok (.pop, 1) := by decide +kernel
theorem dX1_readPass_5 : decode cX1_readPass 5 = .ok (.aload_n 0, 1) := by decide +kernel
theorem dX1_readPass_6 : decode cX1_readPass 6 = .ok (.iconst 0, 1) := by decide +kernel
theorem dX1_readPass_7 : decode cX1_readPass 7 = .ok (.sipush 999, 3) := by decide +kernel
theorem dX1_readPass_10 : decode cX1_readPass 10 = .ok (.invokevirtual 115, 3) := by decide +kernel
theorem dX1_readPass_13 : decode cX1_readPass 13 = .ok (.istore_n 1, 1) := by decide +kernel
theorem dX1_readPass_14 : decode cX1_readPass 14 = .ok (.aload_n 0, 1) := by decide +kernel
theorem dX1_readPass_15 : decode cX1_readPass 15 = .ok (.iconst 1, 1) := by decide +kernel
theorem dX1_readPass_16 : decode cX1_readPass 16 = .ok (.invokevirtual 119, 3) := by decide +kernel
theorem dX1_readPass_19 : decode cX1_readPass 19 = .ok (.ifCond .eq 11, 3) := by decide +kernel
theorem dX1_readPass_22 : decode cX1_readPass 22 = .ok (.aload_n 0, 1) := by decide +kernel
theorem dX1_readPass_23 : decode cX1_readPass 23 = .ok (.getfield 12, 3) := by decide +kernel
theorem dX1_readPass_26 : decode cX1_readPass 26 = .ok (.iload_n 1, 1) := by decide +kernel
theorem dX1_readPass_27 : decode cX1_readPass 27 = .ok (.invokevirtual 241, 3) := by decide +kernel
theorem dX1_readPass_30 : decode cX1_readPass 30 = .ok (.return_, 1) := by decide +kernel
theorem dX1_number_0 : decode cX1_number 0 = .ok (.aload_n 0, 1) := by decide +kernel
theorem dX1_number_1 : decode cX1_number 1 = .ok (.aload_n 0, 1) := by decide +kernel
theorem dX1_number_2 : decode cX1_number 2 = .ok (.getfield 39, 3) := by decide +kernel
theorem dX1_number_5 : decode cX1_number 5 = .ok (.iconst 2, 1) := by decide +kernel
theorem dX1_number_6 : decode cX1_number 6 = .ok (.if_icmp .ne 7, 3) := by decide +kernel
theorem dX1_number_9 : decode cX1_number 9 = .ok (.iconst 1, 1) := by decide +kernel
theorem dX1_number_10 : decode cX1_number 10 = .ok (.goto 4, 3) := by decide +kernel
theorem dX1_number_13 : decode cX1_number 13 = .ok (.iconst 0, 1) := by decide +kernel
theorem dX1_number_14 : decode cX1_number 14 = .ok (.iconst 1, 1) := by decide +kernel
theorem dX1_number_15 : decode cX1_number 15 = .ok (.invokevirtual 109, 3) := by decide +kernel
theorem dX1_number_18 : decode cX1_number 18 = .ok (.aload_n 0, 1) := by decide +kernel
theorem dX1_number_19 : decode cX1_number 19 = .ok (.aload_n 0, 1) := by decide +kernel
theorem dX1_number_20 : decode cX1_number 20 = .ok (.getfield 151, 3) := by decide +kernel
theorem dX1_number_23 : decode cX1_number 23 = .ok (.iload_n 1, 1) := by decide +kernel
theorem dX1_number_24 : decode cX1_number 24 = .ok (.if_icmp .lt 15, 3) := by decide +kernel
theorem dX1_number_27 : decode cX1_number 27 = .ok (.aload_n 0, 1) := by decide +kernel
theorem dX1_number_28 : decode cX1_number 28 = .ok (.getfield 151, 3) := by decide +kernel
theorem dX1_number_31 : decode cX1_number 31 = .ok (.iload_n 2, 1) := by decide +kernel
theorem dX1_number_32 : decode cX1_number 32 = .ok (.if_icmp .gt 7, 3) := by decide +kernel
theorem dX1_number_35 : decode cX1_number 35 = .ok (.iconst 1, 1) := by decide +kernel
theorem dX1_number_36 : decode cX1_number 36 = .ok (.goto 4, 3) := by decide +kernel
theorem dX1_number_39 : decode cX1_number 39 = .ok (.iconst 0, 1) := by decide +kernel
theorem dX1_number_40 : decode cX1_number 40 = .ok (.iconst 2, 1) := by decide +kernel
theorem dX1_number_41 : decode cX1_number 41 = .ok (.invokevirtual 109, 3) := by decide +kernel
theorem dX1_number_44 : decode cX1_number 44 = .ok (.aload_n 0, 1) := by decide +kernel
theorem dX1_number_45 : decode cX1_number 45 = .ok (.invokevirtual 32, 3) := by decide +kernel
theorem dX1_number_48 : decode cX1_number 48 = .ok (.ireturn, 1) := by decide +kernel
theorem dX1_newName_0 : decode cX1_newName 0 = .ok (.aload_n 0, 1) := by decide +kernel
theorem dX1_newName_1 : decode cX1_newName 1 = .ok (.aload_n 0, 1) := by decide +kernel
theorem dX1_newName_2 : decode cX1_newName 2 = .ok (.getfield 39, 3) := by decide +kernel
theorem dX1_newName_5 : decode cX1_newName 5 = .ok (.iconst 1, 1) := by decide +kernel
theorem dX1_newName_6 : decode cX1_newName 6 = .ok (.if_icmp .ne 7, 3) := by decide +kernel
theorem dX1_newName_9 : decode cX1_newName 9 = .ok (.iconst 1, 1) := by decide +kernel
theorem dX1_newName_10 : decode cX1_newName 10 = .ok (.goto 4, 3) := by decide +kernel
theorem dX1_newName_13 : decode cX1_newName 13 = .ok (.iconst 0, 1) := by decide +kernel
theorem dX1_newName_14 : decode cX1_newName 14 = .ok (.iconst 1, 1) := by decide +kernel
theorem dX1_newName_15 : decode cX1_newName 15 = .ok (.invokevirtual 109, 3) := by decide +kernel
theorem dX1_newName_18 : decode cX1_newName 18 = .ok (.aload_n 0, 1) := by decide +kernel
theorem dX1_newName_19 : decode cX1_newName 19 = .ok (.aload_n 0, 1) := by decide +kernel
theorem dX1_newName_20 : decode cX1_newName 20 = .ok (.getfield 151, 3) := by decide +kernel
theorem dX1_newName_23 : decode cX1_newName 23 = .ok (.ifCond .eq 7, 3) := by decide +kernel
theorem dX1_newName_26 : decode cX1_newName 26 = .ok (.iconst 1, 1) := by decide +kernel
theorem dX1_newName_27 : decode cX1_newName 27 = .ok (.goto 4, 3) := by decide +kernel
theorem dX1_newName_30 : decode cX1_newName 30 = .ok (.iconst 0, 1) := by decide +kernel
theorem dX1_newName_31 : decode cX1_newName 31 = .ok (.iconst 2, 1) := by decide +kernel
theorem dX1_newName_32 : decode cX1_newName 32 = .ok (.invokevirtual 109, 3) := by decide +kernel
theorem dX1_newName_35 : decode cX1_newName 35 = .ok (.aload_n 0, 1) := by decide +kernel
theorem dX1_newName_36 : decode cX1_newName 36 = .ok (.aload_n 0, 1) := by decide +kernel
theorem dX1_newName_37 : decode cX1_newName 37 = .ok (.getfield 12, 3) := by decide +kernel
theorem dX1_newName_40 : decode cX1_newName 40 = .ok (.aload_n 0, 1) := by decide +kernel
theorem dX1_newName_41 : decode cX1_newName 41 = .ok (.getfield 151, 3) := by decide +kernel
theorem dX1_newName_44 : decode cX1_newName 44 = .ok (.invokevirtual 244, 3) := by decide +kernel
theorem dX1_newName_47 : decode cX1_newName 47 = .ok (.iconst (-1), 1) := by decide +kernel
theorem dX1_newName_48 : decode cX1_newName 48 = .ok (.if_icmp .ne 7, 3) := by decide +kernel
theorem dX1_newName_51 : decode cX1_newName 51 = .ok (.iconst 1, 1) := by decide +kernel
theorem dX1_newName_52 : decode cX1_newName 52 = .ok (.goto 4, 3) := by decide +kernel
theorem dX1_newName_55 : decode cX1_newName 55 = .ok (.iconst 0, 1) := by decide +kernel
theorem dX1_newName_56 : decode cX1_newName 56 = .ok (.iconst 3, 1) := by decide +kernel
theorem dX1_newName_57 : decode cX1_newName 57 = .ok (.invokevirtual 109, 3) := by decide +kernel
theorem dX1_newName_60 : decode cX1_newName 60 = .ok (.aload_n 0, 1) := by decide +kernel
theorem dX1_newName_61 : decode cX1_newName 61 = .ok (.invokevirtual 32, 3) := by decide +kernel
theorem dX1_newName_64 : decode cX1_newName 64 = .ok (.ireturn, 1) := by decide +kernel
theorem dX1_knownName_0 : decode cX1_knownName 0 = .ok (.aload_n 1, 1) := by decide +kernel
theorem dX1_knownName_1 : decode cX1_knownName 1 = .ok (.iload_n 2, 1) := by decide +kernel
theorem dX1_knownName_2 : decode cX1_knownName 2 = .ok (.aload_n 0, 1) := by decide +kernel
theorem dX1_knownName_3 : decode cX1_knownName 3 = .ok (.getfield 151, 3) := by decide +kernel
theorem dX1_knownName_6 : decode cX1_knownName 6 = .ok (.invokevirtual 247, 3) := by decide +kernel
theorem dX1_knownName_9 : decode cX1_knownName 9 = .ok (.istore_n 3, 1) := by decide +kernel
theorem dX1_knownName_10 : decode cX1_knownName 10 = .ok (.aload_n 0, 1) := by decide +kernel
theorem dX1_knownName_11 : decode cX1_knownName 11 = .ok (.aload_n 0, 1) := by decide +kernel
theorem dX1_knownName_12 : decode cX1_knownName 12 = .ok (.getfield 39, 3) := by decide +kernel
theorem dX1_knownName_15 : decode cX1_knownName 15 = .ok (.iconst 1, 1) := by decide +kernel
theorem dX1_knownName_16 : decode cX1_knownName 16 = .ok (.if_icmp .ne 7, 3) := by decide +kernel
theorem dX1_knownName_19 : decode cX1_knownName 19 = .ok (.iconst 1, 1) := by decide +kernel
theorem dX1_knownName_20 : decode cX1_knownName 20 = .ok (.goto 4, 3) := by decide +kernel
theorem dX1_knownName_23 : decode cX1_knownName 23 = .ok (.iconst 0, 1) := by decide +kernel
theorem dX1_knownName_24 : decode cX1_knownName 24 = .ok (.iconst 1, 1) := by decide +kernel
theorem dX1_knownName_25 : decode cX1_knownName 25 = .ok (.invokevirtual 109, 3) := by decide +kernel
theorem dX1_knownName_28 : decode cX1_knownName 28 = .ok (.aload_n 0, 1) := by decide +kernel
theorem dX1_knownName_29 : decode cX1_knownName 29 = .ok (.iload_n 3, 1) := by decide +kernel
theorem dX1_knownName_30 : decode cX1_knownName 30 = .ok (.iconst (-1), 1) := by decide +kernel
theorem dX1_knownName_31 : decode cX1_knownName 31 = .ok (.if_icmp .eq 7, 3) := by decide +kernel
theorem dX1_knownName_34 : decode cX1_knownName 34 = .ok (.iconst 1, 1) := by decide +kernel
theorem dX1_knownName_35 : decode cX1_knownName 35 = .ok (.goto 4, 3) := by decide +kernel
theorem dX1_knownName_38 : decode cX1_knownName 38 = .ok (.iconst 0, 1) := by decide +kernel
theorem dX1_knownName_39 : decode cX1_knownName 39 = .ok (.iconst 4, 1) := by decide +kernel
theorem dX1_knownName_40 : decode cX1_knownName 40 = .ok (.invokevirtual 109, 3) := by decide +kernel
theorem dX1_knownName_43 : decode cX1_knownName 43 = .ok (.aload_n 0, 1) := by decide +kernel
theorem dX1_knownName_44 : decode cX1_knownName 44 = .ok (.invokevirtual 32, 3) := by decide +kernel
theorem dX1_knownName_47 : decode cX1_knownName 47 = .ok (.pop, 1) := by decide +kernel
theorem dX1_knownName_48 : decode cX1_knownName 48 = .ok (.iload_n 3, 1) := by decide +kernel
theorem dX1_knownName_49 : decode cX1_knownName 49 = .ok (.ireturn, 1) := by decide +kernel
theorem dX1_knownTicket_0 : decode cX1_knownTicket 0 = .ok (.aload_n 0, 1) := by decide +kernel
theorem dX1_knownTicket_1 : decode cX1_knownTicket 1 = .ok (.getfield 12, 3) := by decide +kernel
theorem dX1_knownTicket_4 : decode cX1_knownTicket 4 = .ok (.getfield 225, 3) := by decide +kernel
theorem dX1_knownTicket_7 : decode cX1_knownTicket 7 = .ok (.iconst 0, 1) := by decide +kernel
theorem dX1_knownTicket_8 : decode cX1_knownTicket 8 = .ok (.aload_n 0, 1) := by decide +kernel
theorem dX1_knownTicket_9 : decode cX1_knownTicket 9 = .ok (.getfield 151, 3) := by decide +kernel
theorem dX1_knownTicket_12 : decode cX1_knownTicket 12 = .ok (.invokevirtual 250, 3) := by decide +kernel
theorem dX1_knownTicket_15 : decode cX1_knownTicket 15 = .ok (.istore_n 1, 1) := by decide +kernel
theorem dX1_knownTicket_16 : decode cX1_knownTicket 16 = .ok (.aload_n 0, 1) := by decide +kernel
theorem dX1_knownTicket_17 : decode cX1_knownTicket 17 = .ok (.aload_n 0, 1) := by decide +kernel
theorem dX1_knownTicket_18 : decode cX1_knownTicket 18 = .ok (.getfield 39, 3) := by decide +kernel
theorem dX1_knownTicket_21 : decode cX1_knownTicket 21 = .ok (.iconst 2, 1) := by decide +kernel
theorem dX1_knownTicket_22 : decode cX1_knownTicket 22 = .ok (.if_icmp .ne 7, 3) := by decide +kernel
theorem dX1_knownTicket_25 : decode cX1_knownTicket 25 = .ok (.iconst 1, 1) := by decide +kernel
theorem dX1_knownTicket_26 : decode cX1_knownTicket 26 = .ok (.goto 4, 3) := by decide +kernel
theorem dX1_knownTicket_29 : decode cX1_knownTicket 29 = .ok (.iconst 0, 1) := by decide +kernel
theorem dX1_knownTicket_30 : decode cX1_knownTicket 30 = .ok (.iconst 1, 1) := by decide +kernel
theorem dX1_knownTicket_31 : decode cX1_knownTicket 31 = .ok (.invokevirtual 109, 3) := by decide +kernel
theorem dX1_knownTicket_34 : decode cX1_knownTicket 34 = .ok (.aload_n 0, 1) := by decide +kernel
theorem dX1_knownTicket_35 : decode cX1_knownTicket 35 = .ok (.iload_n 1, 1) := by decide +kernel
theorem dX1_knownTicket_36 : decode cX1_knownTicket 36 = .ok (.iconst (-1), 1) := by decide +kernel
theorem dX1_knownTicket_37 : decode cX1_knownTicket 37 = .ok (.if_icmp .eq 7, 3) := by decide +kernel
theorem dX1_knownTicket_40 : decode cX1_knownTicket 40 = .ok (.iconst 1, 1) := by decide +kernel
theorem dX1_knownTicket_41 : decode cX1_knownTicket 41 = .ok (.goto 4, 3) := by decide +kernel
theorem dX1_knownTicket_44 : decode cX1_knownTicket 44 = .ok (.iconst 0, 1) := by decide +kernel
theorem dX1_knownTicket_45 : decode cX1_knownTicket 45 = .ok (.iconst 4, 1) := by decide +kernel
theorem dX1_knownTicket_46 : decode cX1_knownTicket 46 = .ok (.invokevirtual 109, 3) := by decide +kernel
theorem dX1_knownTicket_49 : decode cX1_knownTicket 49 = .ok (.aload_n 0, 1) := by decide +kernel
theorem dX1_knownTicket_50 : decode cX1_knownTicket 50 = .ok (.invokevirtual 32, 3) := by decide +kernel
theorem dX1_knownTicket_53 : decode cX1_knownTicket 53 = .ok (.pop, 1) := by decide +kernel
theorem dX1_knownTicket_54 : decode cX1_knownTicket 54 = .ok (.iload_n 1, 1) := by decide +kernel
theorem dX1_knownTicket_55 : decode cX1_knownTicket 55 = .ok (.ireturn, 1) := by decide +kernel
theorem dX1_clockWord_0 : decode cX1_clockWord 0 = .ok (.aload_n 0, 1) := by decide +kernel
theorem dX1_clockWord_1 : decode cX1_clockWord 1 = .ok (.ldc 251, 2) := by decide +kernel
theorem dX1_clockWord_3 : decode cX1_clockWord 3 = .ok (.invokevirtual 47, 3) := by decide +kernel
theorem dX1_clockWord_6 : decode cX1_clockWord 6 = .ok (.istore_n 1, 1) := by decide +kernel
theorem dX1_clockWord_7 : decode cX1_clockWord 7 = .ok (.aload_n 0, 1) := by decide +kernel
theorem dX1_clockWord_8 : decode cX1_clockWord 8 = .ok (.ldc 253, 2) := by decide +kernel
theorem dX1_clockWord_10 : decode cX1_clockWord 10 = .ok (.invokevirtual 47, 3) := by decide +kernel
theorem dX1_clockWord_13 : decode cX1_clockWord 13 = .ok (.istore_n 2, 1) := by decide +kernel
theorem dX1_clockWord_14 : decode cX1_clockWord 14 = .ok (.aload_n 0, 1) := by decide +kernel
theorem dX1_clockWord_15 : decode cX1_clockWord 15 = .ok (.iload_n 1, 1) := by decide +kernel
theorem dX1_clockWord_16 : decode cX1_clockWord 16 = .ok (.ifCond .ne 16, 3) := by decide +kernel
theorem dX1_clockWord_19 : decode cX1_clockWord 19 = .ok (.iload_n 2, 1) := by decide +kernel
theorem dX1_clockWord_20 : decode cX1_clockWord 20 = .ok (.ifCond .ne 12, 3) := by decide +kernel
theorem dX1_clockWord_23 : decode cX1_clockWord 23 = .ok (.aload_n 0, 1) := by decide +kernel
theorem dX1_clockWord_24 : decode cX1_clockWord 24 = .ok (.ldc 255, 2) := by decide +kernel
theorem dX1_clockWord_26 : decode cX1_clockWord 26 = .ok (.invokevirtual 47, 3) := by decide +kernel
theorem dX1_clockWord_29 : decode cX1_clockWord 29 = .ok (.ifCond .eq 7, 3) := by decide +kernel
theorem dX1_clockWord_32 : decode cX1_clockWord 32 = .ok (.iconst 1, 1) := by decide +kernel
theorem dX1_clockWord_33 : decode cX1_clockWord 33 = .ok (.goto 4, 3) := by decide +kernel
theorem dX1_clockWord_36 : decode cX1_clockWord 36 = .ok (.iconst 0, 1) := by decide +kernel
theorem dX1_clockWord_37 : decode cX1_clockWord 37 = .ok (.iconst 1, 1) := by decide +kernel
theorem dX1_clockWord_38 : decode cX1_clockWord 38 = .ok (.invokevirtual 109, 3) := by decide +kernel
theorem dX1_clockWord_41 : decode cX1_clockWord 41 = .ok (.aload_n 0, 1) := by decide +kernel
theorem dX1_clockWord_42 : decode cX1_clockWord 42 = .ok (.invokevirtual 32, 3) := by decide +kernel
theorem dX1_clockWord_45 : decode cX1_clockWord 45 = .ok (.pop, 1) := by decide +kernel
theorem dX1_clockWord_46 : decode cX1_clockWord 46 = .ok (.iload_n 2, 1) := by decide +kernel
theorem dX1_clockWord_47 : decode cX1_clockWord 47 = .ok (.ifCond .eq 5, 3) := by decide +kernel
theorem dX1_clockWord_50 : decode cX1_clockWord 50 = .ok (.iconst 0, 1) := by decide +kernel
theorem dX1_clockWord_51 : decode cX1_clockWord 51 = .ok (.ireturn, 1) := by decide +kernel
theorem dX1_clockWord_52 : decode cX1_clockWord 52 = .ok (.iload_n 1, 1) := by decide +kernel
theorem dX1_clockWord_53 : decode cX1_clockWord 53 = .ok (.ifCond .eq 7, 3) := by decide +kernel
theorem dX1_clockWord_56 : decode cX1_clockWord 56 = .ok (.iconst 1, 1) := by decide +kernel
theorem dX1_clockWord_57 : decode cX1_clockWord 57 = .ok (.goto 4, 3) := by decide +kernel
theorem dX1_clockWord_60 : decode cX1_clockWord 60 = .ok (.iconst (-1), 1) := by decide +kernel
theorem dX1_clockWord_61 : decode cX1_clockWord 61 = .ok (.ireturn, 1) := by decide +kernel
theorem dX1_semicolon_0 : decode cX1_semicolon 0 = .ok (.aload_n 0, 1) := by decide +kernel
theorem dX1_semicolon_1 : decode cX1_semicolon 1 = .ok (.aload_n 0, 1) := by decide +kernel
theorem dX1_semicolon_2 : decode cX1_semicolon 2 = .ok (.getfield 39, 3) := by decide +kernel
theorem dX1_semicolon_5 : decode cX1_semicolon 5 = .ok (.iconst 3, 1) := by decide +kernel
theorem dX1_semicolon_6 : decode cX1_semicolon 6 = .ok (.if_icmp .ne 16, 3) := by decide +kernel
theorem dX1_semicolon_9 : decode cX1_semicolon 9 = .ok (.aload_n 0, 1) := by decide +kernel
theorem dX1_semicolon_10 : decode cX1_semicolon 10 = .ok (.getfield 151, 3) := by decide +kernel
theorem dX1_semicolon_13 : decode cX1_semicolon 13 = .ok (.bipush 59, 2) := by decide +kernel
theorem dX1_semicolon_15 : decode cX1_semicolon 15 = .ok (.if_icmp .ne 7, 3) := by decide +kernel
theorem dX1_semicolon_18 : decode cX1_semicolon 18 = .ok (.iconst 1, 1) := by decide +kernel
theorem dX1_semicolon_19 : decode cX1_semicolon 19 = .ok (.goto 4, 3) := by decide +kernel
theorem dX1_semicolon_22 : decode cX1_semicolon 22 = .ok (.iconst 0, 1) := by decide +kernel
theorem dX1_semicolon_23 : decode cX1_semicolon 23 = .ok (.iconst 1, 1) := by decide +kernel
theorem dX1_semicolon_24 : decode cX1_semicolon 24 = .ok (.invokevirtual 109, 3) := by decide +kernel
theorem dX1_semicolon_27 : decode cX1_semicolon 27 = .ok (.aload_n 0, 1) := by decide +kernel
theorem dX1_semicolon_28 : decode cX1_semicolon 28 = .ok (.iload_n 1, 1) := by decide +kernel
theorem dX1_semicolon_29 : decode cX1_semicolon 29 = .ok (.bipush 6, 2) := by decide +kernel
theorem dX1_semicolon_31 : decode cX1_semicolon 31 = .ok (.invokevirtual 109, 3) := by decide +kernel
theorem dX1_semicolon_34 : decode cX1_semicolon 34 = .ok (.aload_n 0, 1) := by decide +kernel
theorem dX1_semicolon_35 : decode cX1_semicolon 35 = .ok (.invokevirtual 32, 3) := by decide +kernel
theorem dX1_semicolon_38 : decode cX1_semicolon 38 = .ok (.pop, 1) := by decide +kernel
theorem dX1_semicolon_39 : decode cX1_semicolon 39 = .ok (.aload_n 0, 1) := by decide +kernel
theorem dX1_semicolon_40 : decode cX1_semicolon 40 = .ok (.getfield 29, 3) := by decide +kernel
theorem dX1_semicolon_43 : decode cX1_semicolon 43 = .ok (.ifCond .ne 7, 3) := by decide +kernel
theorem dX1_semicolon_46 : decode cX1_semicolon 46 = .ok (.iconst 1, 1) := by decide +kernel
theorem dX1_semicolon_47 : decode cX1_semicolon 47 = .ok (.goto 4, 3) := by decide +kernel
theorem dX1_semicolon_50 : decode cX1_semicolon 50 = .ok (.iconst 0, 1) := by decide +kernel
theorem dX1_semicolon_51 : decode cX1_semicolon 51 = .ok (.ireturn, 1) := by decide +kernel
theorem dX1_isWord_0 : decode cX1_isWord 0 = .ok (.aload_n 0, 1) := by decide +kernel
theorem dX1_isWord_1 : decode cX1_isWord 1 = .ok (.getfield 39, 3) := by decide +kernel
theorem dX1_isWord_4 : decode cX1_isWord 4 = .ok (.iconst 1, 1) := by decide +kernel
theorem dX1_isWord_5 : decode cX1_isWord 5 = .ok (.if_icmp .ne 26, 3) := by decide +kernel
theorem dX1_isWord_8 : decode cX1_isWord 8 = .ok (.aload_n 0, 1) := by decide +kernel
theorem dX1_isWord_9 : decode cX1_isWord 9 = .ok (.getfield 22, 3) := by decide +kernel
theorem dX1_isWord_12 : decode cX1_isWord 12 = .ok (.aload_n 0, 1) := by decide +kernel
theorem dX1_isWord_13 : decode cX1_isWord 13 = .ok (.getfield 257, 3) := by decide +kernel
theorem dX1_isWord_16 : decode cX1_isWord 16 = .ok (.aload_n 0, 1) := by decide +kernel
theorem dX1_isWord_17 : decode cX1_isWord 17 = .ok (.getfield 26, 3) := by decide +kernel
theorem dX1_isWord_20 : decode cX1_isWord 20 = .ok (.aload_n 1, 1) := by decide +kernel
theorem dX1_isWord_21 : decode cX1_isWord 21 = .ok (.invokevirtual 260, 3) := by decide +kernel
theorem dX1_isWord_24 : decode cX1_isWord 24 = .ok (.ifCond .eq 7, 3) := by decide +kernel
theorem dX1_isWord_27 : decode cX1_isWord 27 = .ok (.iconst 1, 1) := by decide +kernel
theorem dX1_isWord_28 : decode cX1_isWord 28 = .ok (.goto 4, 3) := by decide +kernel
theorem dX1_isWord_31 : decode cX1_isWord 31 = .ok (.iconst 0, 1) := by decide +kernel
theorem dX1_isWord_32 : decode cX1_isWord 32 = .ok (.ireturn, 1) := by decide +kernel
theorem dX1_require_0 : decode cX1_require 0 = .ok (.aload_n 0, 1) := by decide +kernel
theorem dX1_require_1 : decode cX1_require 1 = .ok (.getfield 29, 3) := by decide +kernel
theorem dX1_require_4 : decode cX1_require 4 = .ok (.ifCond .ne 20, 3) := by decide +kernel
theorem dX1_require_7 : decode cX1_require 7 = .ok (.iload_n 1, 1) := by decide +kernel
theorem dX1_require_8 : decode cX1_require 8 = .ok (.ifCond .ne 16, 3) := by decide +kernel
theorem dX1_require_11 : decode cX1_require 11 = .ok (.aload_n 0, 1) := by decide +kernel
theorem dX1_require_12 : decode cX1_require 12 = .ok (.iload_n 2, 1) := by decide +kernel
theorem dX1_require_13 : decode cX1_require 13 = .ok (.putfield 29, 3) := by decide +kernel
theorem dX1_require_16 : decode cX1_require 16 = .ok (.aload_n 0, 1) := by decide +kernel
theorem dX1_require_17 : decode cX1_require 17 = .ok (.aload_n 0, 1) := by decide +kernel
theorem dX1_require_18 : decode cX1_require 18 = .ok (.getfield 257, 3) := by decide +kernel
theorem dX1_require_21 : decode cX1_require 21 = .ok (.putfield 18, 3) := by decide +kernel
theorem dX1_require_24 : decode cX1_require 24 = .ok (.return_, 1) := by decide +kernel
theorem dX1_take_0 : decode cX1_take 0 = .ok (.aload_n 0, 1) := by decide +kernel
theorem dX1_take_1 : decode cX1_take 1 = .ok (.getfield 151, 3) := by decide +kernel
theorem dX1_take_4 : decode cX1_take 4 = .ok (.istore_n 1, 1) := by decide +kernel
theorem dX1_take_5 : decode cX1_take 5 = .ok (.aload_n 0, 1) := by decide +kernel
theorem dX1_take_6 : decode cX1_take 6 = .ok (.getfield 29, 3) := by decide +kernel
theorem dX1_take_9 : decode cX1_take 9 = .ok (.ifCond .eq 5, 3) := by decide +kernel
theorem dX1_take_12 : decode cX1_take 12 = .ok (.iload_n 1, 1) := by decide +kernel
theorem dX1_take_13 : decode cX1_take 13 = .ok (.ireturn, 1) := by decide +kernel
theorem dX1_take_14 : decode cX1_take 14 = .ok (.aload_n 0, 1) := by decide +kernel
theorem dX1_take_15 : decode cX1_take 15 = .ok (.aload_n 0, 1) := by decide +kernel
theorem dX1_take_16 : decode cX1_take 16 = .ok (.getfield 22, 3) := by decide +kernel
theorem dX1_take_19 : decode cX1_take 19 = .ok (.aload_n 0, 1) := by decide +kernel
theorem dX1_take_20 : decode cX1_take 20 = .ok (.getfield 26, 3) := by decide +kernel
theorem dX1_take_23 : decode cX1_take 23 = .ok (.invokevirtual 266, 3) := by decide +kernel
theorem dX1_take_26 : decode cX1_take 26 = .ok (.putfield 257, 3) := by decide +kernel
theorem dX1_take_29 : decode cX1_take 29 = .ok (.aload_n 0, 1) := by decide +kernel
theorem dX1_take_30 : decode cX1_take 30 = .ok (.getfield 22, 3) := by decide +kernel
theorem dX1_take_33 : decode cX1_take 33 = .ok (.aload_n 0, 1) := by decide +kernel
theorem dX1_take_34 : decode cX1_take 34 = .ok (.getfield 257, 3) := by decide +kernel
theorem dX1_take_37 : decode cX1_take 37 = .ok (.invokevirtual 269, 3) := by decide +kernel
theorem dX1_take_40 : decode cX1_take 40 = .ok (.istore_n 2, 1) := by decide +kernel
theorem dX1_take_41 : decode cX1_take 41 = .ok (.iload_n 2, 1) := by decide +kernel
theorem dX1_take_42 : decode cX1_take 42 = .ok (.iconst (-1), 1) := by decide +kernel
theorem dX1_take_43 : decode cX1_take 43 = .ok (.if_icmp .ne 24, 3) := by decide +kernel
theorem dX1_take_46 : decode cX1_take 46 = .ok (.aload_n 0, 1) := by decide +kernel
theorem dX1_take_47 : decode cX1_take 47 = .ok (.iconst 0, 1) := by decide +kernel
theorem dX1_take_48 : decode cX1_take 48 = .ok (.putfield 39, 3) := by decide +kernel
theorem dX1_take_51 : decode cX1_take 51 = .ok (.aload_n 0, 1) := by decide +kernel
theorem dX1_take_52 : decode cX1_take 52 = .ok (.aload_n 0, 1) := by decide +kernel
theorem dX1_take_53 : decode cX1_take 53 = .ok (.getfield 257, 3) := by decide +kernel
theorem dX1_take_56 : decode cX1_take 56 = .ok (.putfield 26, 3) := by decide +kernel
theorem dX1_take_59 : decode cX1_take 59 = .ok (.aload_n 0, 1) := by decide +kernel
theorem dX1_take_60 : decode cX1_take 60 = .ok (.iconst 0, 1) := by decide +kernel
theorem dX1_take_61 : decode cX1_take 61 = .ok (.putfield 151, 3) := by decide +kernel
theorem dX1_take_64 : decode cX1_take 64 = .ok (.goto 139, 3) := by decide +kernel
theorem dX1_take_67 : decode cX1_take 67 = .ok (.iload_n 2, 1) := by decide +kernel
theorem dX1_take_68 : decode cX1_take 68 = .ok (.bipush 97, 2) := by decide +kernel
theorem dX1_take_70 : decode cX1_take 70 = .ok (.if_icmp .lt 55, 3) := by decide +kernel
theorem dX1_take_73 : decode cX1_take 73 = .ok (.iload_n 2, 1) := by decide +kernel
theorem dX1_take_74 : decode cX1_take 74 = .ok (.bipush 122, 2) := by decide +kernel
theorem dX1_take_76 : decode cX1_take 76 = .ok (.if_icmp .gt 49, 3) := by decide +kernel
theorem dX1_take_79 : decode cX1_take 79 = .ok (.aload_n 0, 1) := by decide +kernel
theorem dX1_take_80 : decode cX1_take 80 = .ok (.iconst 1, 1) := by decide +kernel
theorem dX1_take_81 : decode cX1_take 81 = .ok (.putfield 39, 3) := by decide +kernel
theorem dX1_take_84 : decode cX1_take 84 = .ok (.aload_n 0, 1) := by decide +kernel
theorem dX1_take_85 : decode cX1_take 85 = .ok (.aload_n 0, 1) := by decide +kernel
theorem dX1_take_86 : decode cX1_take 86 = .ok (.getfield 22, 3) := by decide +kernel
theorem dX1_take_89 : decode cX1_take 89 = .ok (.aload_n 0, 1) := by decide +kernel
theorem dX1_take_90 : decode cX1_take 90 = .ok (.getfield 257, 3) := by decide +kernel
theorem dX1_take_93 : decode cX1_take 93 = .ok (.bipush 97, 2) := by decide +kernel
theorem dX1_take_95 : decode cX1_take 95 = .ok (.bipush 122, 2) := by decide +kernel
theorem dX1_take_97 : decode cX1_take 97 = .ok (.invokevirtual 272, 3) := by decide +kernel
theorem dX1_take_100 : decode cX1_take 100 = .ok (.putfield 26, 3) := by decide +kernel
theorem dX1_take_103 : decode cX1_take 103 = .ok (.aload_n 0, 1) := by decide +kernel
theorem dX1_take_104 : decode cX1_take 104 = .ok (.aload_n 0, 1) := by decide +kernel
theorem dX1_take_105 : decode cX1_take 105 = .ok (.getfield 22, 3) := by decide +kernel
theorem dX1_take_108 : decode cX1_take 108 = .ok (.aload_n 0, 1) := by decide +kernel
theorem dX1_take_109 : decode cX1_take 109 = .ok (.getfield 257, 3) := by decide +kernel
theorem dX1_take_112 : decode cX1_take 112 = .ok (.aload_n 0, 1) := by decide +kernel
theorem dX1_take_113 : decode cX1_take 113 = .ok (.getfield 26, 3) := by decide +kernel
theorem dX1_take_116 : decode cX1_take 116 = .ok (.invokevirtual 276, 3) := by decide +kernel
theorem dX1_take_119 : decode cX1_take 119 = .ok (.putfield 151, 3) := by decide +kernel
theorem dX1_take_122 : decode cX1_take 122 = .ok (.goto 81, 3) := by decide +kernel
theorem dX1_take_125 : decode cX1_take 125 = .ok (.iload_n 2, 1) := by decide +kernel
theorem dX1_take_126 : decode cX1_take 126 = .ok (.bipush 48, 2) := by decide +kernel
theorem dX1_take_128 : decode cX1_take 128 = .ok (.if_icmp .lt 55, 3) := by decide +kernel
theorem dX1_take_131 : decode cX1_take 131 = .ok (.iload_n 2, 1) := by decide +kernel
theorem dX1_take_132 : decode cX1_take 132 = .ok (.bipush 57, 2) := by decide +kernel
theorem dX1_take_134 : decode cX1_take 134 = .ok (.if_icmp .gt 49, 3) := by decide +kernel
theorem dX1_take_137 : decode cX1_take 137 = .ok (.aload_n 0, 1) := by decide +kernel
theorem dX1_take_138 : decode cX1_take 138 = .ok (.iconst 2, 1) := by decide +kernel
theorem dX1_take_139 : decode cX1_take 139 = .ok (.putfield 39, 3) := by decide +kernel
theorem dX1_take_142 : decode cX1_take 142 = .ok (.aload_n 0, 1) := by decide +kernel
theorem dX1_take_143 : decode cX1_take 143 = .ok (.aload_n 0, 1) := by decide +kernel
theorem dX1_take_144 : decode cX1_take 144 = .ok (.getfield 22, 3) := by decide +kernel
theorem dX1_take_147 : decode cX1_take 147 = .ok (.aload_n 0, 1) := by decide +kernel
theorem dX1_take_148 : decode cX1_take 148 = .ok (.getfield 257, 3) := by decide +kernel
theorem dX1_take_151 : decode cX1_take 151 = .ok (.bipush 48, 2) := by decide +kernel
theorem dX1_take_153 : decode cX1_take 153 = .ok (.bipush 57, 2) := by decide +kernel
theorem dX1_take_155 : decode cX1_take 155 = .ok (.invokevirtual 272, 3) := by decide +kernel
theorem dX1_take_158 : decode cX1_take 158 = .ok (.putfield 26, 3) := by decide +kernel
theorem dX1_take_161 : decode cX1_take 161 = .ok (.aload_n 0, 1) := by decide +kernel
theorem dX1_take_162 : decode cX1_take 162 = .ok (.aload_n 0, 1) := by decide +kernel
theorem dX1_take_163 : decode cX1_take 163 = .ok (.getfield 22, 3) := by decide +kernel
theorem dX1_take_166 : decode cX1_take 166 = .ok (.aload_n 0, 1) := by decide +kernel
theorem dX1_take_167 : decode cX1_take 167 = .ok (.getfield 257, 3) := by decide +kernel
theorem dX1_take_170 : decode cX1_take 170 = .ok (.aload_n 0, 1) := by decide +kernel
theorem dX1_take_171 : decode cX1_take 171 = .ok (.getfield 26, 3) := by decide +kernel
theorem dX1_take_174 : decode cX1_take 174 = .ok (.invokevirtual 279, 3) := by decide +kernel
theorem dX1_take_177 : decode cX1_take 177 = .ok (.putfield 151, 3) := by decide +kernel
theorem dX1_take_180 : decode cX1_take 180 = .ok (.goto 23, 3) := by decide +kernel
theorem dX1_take_183 : decode cX1_take 183 = .ok (.aload_n 0, 1) := by decide +kernel
theorem dX1_take_184 : decode cX1_take 184 = .ok (.iconst 3, 1) := by decide +kernel
theorem dX1_take_185 : decode cX1_take 185 = .ok (.putfield 39, 3) := by decide +kernel
theorem dX1_take_188 : decode cX1_take 188 = .ok (.aload_n 0, 1) := by decide +kernel
theorem dX1_take_189 : decode cX1_take 189 = .ok (.aload_n 0, 1) := by decide +kernel
theorem dX1_take_190 : decode cX1_take 190 = .ok (.getfield 257, 3) := by decide +kernel
theorem dX1_take_193 : decode cX1_take 193 = .ok (.iconst 1, 1) := by decide +kernel
theorem dX1_take_194 : decode cX1_take 194 = .ok (.iadd, 1) := by decide +kernel
theorem dX1_take_195 : decode cX1_take 195 = .ok (.putfield 26, 3) := by decide +kernel
theorem dX1_take_198 : decode cX1_take 198 = .ok (.aload_n 0, 1) := by decide +kernel
theorem dX1_take_199 : decode cX1_take 199 = .ok (.iload_n 2, 1) := by decide +kernel
theorem dX1_take_200 : decode cX1_take 200 = .ok (.putfield 151, 3) := by decide +kernel
theorem dX1_take_203 : decode cX1_take 203 = .ok (.iload_n 1, 1) := by decide +kernel
theorem dX1_take_204 : decode cX1_take 204 = .ok (.ireturn, 1) := by decide +kernel
theorem dX2_init_0 : decode cX2_init 0 = .ok (.aload_n 0, 1) := by decide +kernel
theorem dX2_init_1 : decode cX2_init 1 = .ok (.iconst 5, 1) := by decide +kernel
theorem dX2_init_2 : decode cX2_init 2 = .ok (.iconst 5, 1) := by decide +kernel
theorem dX2_init_3 : decode cX2_init 3 = .ok (.invokespecial 5, 3) := by decide +kernel
theorem dX2_init_6 : decode cX2_init 6 = .ok (.return_, 1) := by decide +kernel
theorem dX2_addRealm_0 : decode cX2_addRealm 0 = .ok (.aload_n 0, 1) := by decide +kernel
theorem dX2_addRealm_1 : decode cX2_addRealm 1 = .ok (.invokevirtual 11, 3) := by decide +kernel
theorem dX2_addRealm_4 : decode cX2_addRealm 4 = .ok (.istore 5, 2) := by decide +kernel
theorem dX2_addRealm_6 : decode cX2_addRealm 6 = .ok (.aload_n 0, 1) := by decide +kernel
theorem dX2_addRealm_7 : decode cX2_addRealm 7 = .ok (.iload 5, 2) := by decide +kernel
theorem dX2_addRealm_9 : decode cX2_addRealm 9 = .ok (.iconst 0, 1) := by decide +kernel
theorem dX2_addRealm_10 : decode cX2_addRealm 10 = .ok (.iload_n 1, 1) := by decide +kernel
theorem dX2_addRealm_11 : decode cX2_addRealm 11 = .ok (.invokevirtual 15, 3) := by decide +kernel
theorem dX2_addRealm_14 : decode cX2_addRealm 14 = .ok (.aload_n 0, 1) := by decide +kernel
theorem dX2_addRealm_15 : decode cX2_addRealm 15 = .ok (.iload 5, 2) := by decide +kernel
theorem dX2_addRealm_17 : decode cX2_addRealm 17 = .ok (.iconst 1, 1) := by decide +kernel
theorem dX2_addRealm_18 : decode cX2_addRealm 18 = .ok (.iload_n 2, 1) := by decide +kernel
theorem dX2_addRealm_19 : decode cX2_addRealm 19 = .ok (.invokevirtual 15, 3) := by decide +kernel
theorem dX2_addRealm_22 : decode cX2_addRealm 22 = .ok (.aload_n 0, 1) := by decide +kernel
theorem dX2_addRealm_23 : decode cX2_addRealm 23 = .ok (.iload 5, 2) := by decide +kernel
theorem dX2_addRealm_25 : decode cX2_addRealm 25 = .ok (.iconst 2, 1) := by decide +kernel
theorem dX2_addRealm_26 : decode cX2_addRealm 26 = .ok (.iload_n 3, 1) := by decide +kernel
theorem dX2_addRealm_27 : decode cX2_addRealm 27 = .ok (.invokevirtual 15, 3) := by decide +kernel
theorem dX2_addRealm_30 : decode cX2_addRealm 30 = .ok (.aload_n 0, 1) := by decide +kernel
theorem dX2_addRealm_31 : decode cX2_addRealm 31 = .ok (.iload 5, 2) := by decide +kernel
theorem dX2_addRealm_33 : decode cX2_addRealm 33 = .ok (.iconst 3, 1) := by decide +kernel
theorem dX2_addRealm_34 : decode cX2_addRealm 34 = .ok (.iload 4, 2) := by decide +kernel
theorem dX2_addRealm_36 : decode cX2_addRealm 36 = .ok (.invokevirtual 15, 3) := by decide +kernel
theorem dX2_addRealm_39 : decode cX2_addRealm 39 = .ok (.aload_n 0, 1) := by decide +kernel
theorem dX2_addRealm_40 : decode cX2_addRealm 40 = .ok (.iload 5, 2) := by decide +kernel
theorem dX2_addRealm_42 : decode cX2_addRealm 42 = .ok (.iconst 4, 1) := by decide +kernel
theorem dX2_addRealm_43 : decode cX2_addRealm 43 = .ok (.iconst 0, 1) := by decide +kernel
theorem dX2_addRealm_44 : decode cX2_addRealm 44 = .ok (.invokevirtual 15, 3) := by decide +kernel
theorem dX2_addRealm_47 : decode cX2_addRealm 47 = .ok (.return_, 1) := by decide +kernel
theorem dX2_addTrust_0 : decode cX2_addTrust 0 = .ok (.aload_n 0, 1) := by decide +kernel
theorem dX2_addTrust_1 : decode cX2_addTrust 1 = .ok (.iload_n 1, 1) := by decide +kernel
theorem dX2_addTrust_2 : decode cX2_addTrust 2 = .ok (.iconst 4, 1) := by decide +kernel
theorem dX2_addTrust_3 : decode cX2_addTrust 3 = .ok (.aload_n 0, 1) := by decide +kernel
theorem dX2_addTrust_4 : decode cX2_addTrust 4 = .ok (.iload_n 1, 1) := by decide +kernel
theorem dX2_addTrust_5 : decode cX2_addTrust 5 = .ok (.iconst 4, 1) := by decide +kernel
theorem dX2_addTrust_6 : decode cX2_addTrust 6 = .ok (.invokevirtual 19, 3) := by decide +kernel
theorem dX2_addTrust_9 : decode cX2_addTrust 9 = .ok (.iconst 1, 1) := by decide +kernel
theorem dX2_addTrust_10 : decode cX2_addTrust 10 = .ok (.iload_n 2, 1) := by decide +kernel
theorem dX2_addTrust_11 : decode cX2_addTrust 11 = .ok (.ishl, 1) := by decide +kernel
theorem dX2_addTrust_12 : decode cX2_addTrust 12 = .ok (.ior, 1) := by decide +kernel
theorem dX2_addTrust_13 : decode cX2_addTrust 13 = .ok (.invokevirtual 15, 3) := by decide +kernel
theorem dX2_addTrust_16 : decode cX2_addTrust 16 = .ok (.return_, 1) := by decide +kernel
theorem dX2_hasTrust_0 : decode cX2_hasTrust 0 = .ok (.aload_n 0, 1) := by decide +kernel
theorem dX2_hasTrust_1 : decode cX2_hasTrust 1 = .ok (.iload_n 1, 1) := by decide +kernel
theorem dX2_hasTrust_2 : decode cX2_hasTrust 2 = .ok (.iconst 4, 1) := by decide +kernel
theorem dX2_hasTrust_3 : decode cX2_hasTrust 3 = .ok (.invokevirtual 19, 3) := by decide +kernel
theorem dX2_hasTrust_6 : decode cX2_hasTrust 6 = .ok (.iload_n 2, 1) := by decide +kernel
theorem dX2_hasTrust_7 : decode cX2_hasTrust 7 = .ok (.ishr, 1) := by decide +kernel
theorem dX2_hasTrust_8 : decode cX2_hasTrust 8 = .ok (.iconst 1, 1) := by decide +kernel
theorem dX2_hasTrust_9 : decode cX2_hasTrust 9 = .ok (.iand, 1) := by decide +kernel
theorem dX2_hasTrust_10 : decode cX2_hasTrust 10 = .ok (.iconst 1, 1) := by decide +kernel
theorem dX2_hasTrust_11 : decode cX2_hasTrust 11 = .ok (.if_icmp .ne 7, 3) := by decide +kernel
theorem dX2_hasTrust_14 : decode cX2_hasTrust 14 = .ok (.iconst 1, 1) := by decide +kernel
theorem dX2_hasTrust_15 : decode cX2_hasTrust 15 = .ok (.goto 4, 3) := by decide +kernel
theorem dX2_hasTrust_18 : decode cX2_hasTrust 18 = .ok (.iconst 0, 1) := by decide +kernel
theorem dX2_hasTrust_19 : decode cX2_hasTrust 19 = .ok (.ireturn, 1) := by decide +kernel
theorem dX2_referrals_0 : decode cX2_referrals 0 = .ok (.iconst 1, 1) := by decide +kernel
theorem dX2_referrals_1 : decode cX2_referrals 1 = .ok (.iload_n 1, 1) := by decide +kernel
theorem dX2_referrals_2 : decode cX2_referrals 2 = .ok (.ishl, 1) := by decide +kernel
theorem dX2_referrals_3 : decode cX2_referrals 3 = .ok (.istore_n 3, 1) := by decide +kernel
theorem dX2_referrals_4 : decode cX2_referrals 4 = .ok (.iconst 0, 1) := by decide +kernel
theorem dX2_referrals_5 : decode cX2_referrals 5 = .ok (.istore 4, 2) := by decide +kernel
theorem dX2_referrals_7 : decode cX2_referrals 7 = .ok (.iload 4, 2) := by decide +kernel
theorem dX2_referrals_9 : decode cX2_referrals 9 = .ok (.iconst 5, 1) := by decide +kernel
theorem dX2_referrals_10 : decode cX2_referrals 10 = .ok (.if_icmp .ge 29, 3) := by decide +kernel
theorem dX2_referrals_13 : decode cX2_referrals 13 = .ok (.iload_n 3, 1) := by decide +kernel
theorem dX2_referrals_14 : decode cX2_referrals 14 = .ok (.iload_n 2, 1) := by decide +kernel
theorem dX2_referrals_15 : decode cX2_referrals 15 = .ok (.ishr, 1) := by decide +kernel
theorem dX2_referrals_16 : decode cX2_referrals 16 = .ok (.iconst 1, 1) := by decide +kernel
theorem dX2_referrals_17 : decode cX2_referrals 17 = .ok (.iand, 1) := by decide +kernel
theorem dX2_referrals_18 : decode cX2_referrals 18 = .ok (.iconst 1, 1) := by decide +kernel
theorem dX2_referrals_19 : decode cX2_referrals 19 = .ok (.if_icmp .ne 6, 3) := by decide +kernel
theorem dX2_referrals_22 : decode cX2_referrals 22 = .ok (.iload 4, 2) := by decide +kernel
theorem dX2_referrals_24 : decode cX2_referrals 24 = .ok (.ireturn, 1) := by decide +kernel
theorem dX2_referrals_25 : decode cX2_referrals 25 = .ok (.iload_n 3, 1) := by decide +kernel
theorem dX2_referrals_26 : decode cX2_referrals 26 = .ok (.aload_n 0, 1) := by decide +kernel
theorem dX2_referrals_27 : decode cX2_referrals 27 = .ok (.iload_n 3, 1) := by decide +kernel
theorem dX2_referrals_28 : decode cX2_referrals 28 = .ok (.invokevirtual 23, 3) := by decide +kernel
theorem dX2_referrals_31 : decode cX2_referrals 31 = .ok (.ior, 1) := by decide +kernel
theorem dX2_referrals_32 : decode cX2_referrals 32 = .ok (.istore_n 3, 1) := by decide +kernel
theorem dX2_referrals_33 : decode cX2_referrals 33 = .ok (.iinc 4 1, 3) := by decide +kernel
theorem dX2_referrals_36 : decode cX2_referrals 36 = .ok (.goto (-29), 3) := by decide +kernel
theorem dX2_referrals_39 : decode cX2_referrals 39 = .ok (.iconst (-1), 1) := by decide +kernel
theorem dX2_referrals_40 : decode cX2_referrals 40 = .ok (.ireturn, 1) := by decide +kernel
theorem dX2_trustedBySome_0 : decode cX2_trustedBySome 0 = .ok (.iconst 0, 1) := by decide +kernel
theorem dX2_trustedBySome_1 : decode cX2_trustedBySome 1 = .ok (.istore_n 2, 1) := by decide +kernel
theorem dX2_trustedBySome_2 : decode cX2_trustedBySome 2 = .ok (.iconst 0, 1) := by decide +kernel
theorem dX2_trustedBySome_3 : decode cX2_trustedBySome 3 = .ok (.istore_n 3, 1) := by decide +kernel
theorem dX2_trustedBySome_4 : decode cX2_trustedBySome 4 = .ok (.iload_n 3, 1) := by decide +kernel
theorem dX2_trustedBySome_5 : decode cX2_trustedBySome 5 = .ok (.aload_n 0, 1) := by decide +kernel
theorem dX2_trustedBySome_6 : decode cX2_trustedBySome 6 = .ok (.invokevirtual 27, 3) := by decide +kernel
theorem dX2_trustedBySome_9 : decode cX2_trustedBySome 9 = .ok (.if_icmp .ge 27, 3) := by decide +kernel
theorem dX2_trustedBySome_12 : decode cX2_trustedBySome 12 = .ok (.iload_n 1, 1) := by decide +kernel
theorem dX2_trustedBySome_13 : decode cX2_trustedBySome 13 = .ok (.iload_n 3, 1) := by decide +kernel
theorem dX2_trustedBySome_14 : decode cX2_trustedBySome 14 = .ok (.ishr, 1) := by decide +kernel
theorem dX2_trustedBySome_15 : decode cX2_trustedBySome 15 = .ok (.iconst 1, 1) := by decide +kernel
theorem dX2_trustedBySome_16 : decode cX2_trustedBySome 16 = .ok (.iand, 1) := by decide +kernel
theorem dX2_trustedBySome_17 : decode cX2_trustedBySome 17 = .ok (.iconst 1, 1) := by decide +kernel
theorem dX2_trustedBySome_18 : decode cX2_trustedBySome 18 = .ok (.if_icmp .ne 12, 3) := by decide +kernel
theorem dX2_trustedBySome_21 : decode cX2_trustedBySome 21 = .ok (.iload_n 2, 1) := by decide +kernel
theorem dX2_trustedBySome_22 : decode cX2_trustedBySome 22 = .ok (.aload_n 0, 1) := by decide +kernel
theorem dX2_trustedBySome_23 : decode cX2_trustedBySome 23 = .ok (.iload_n 3, 1) := by decide +kernel
theorem dX2_trustedBySome_24 : decode cX2_trustedBySome 24 = .ok (.iconst 4, 1) := by decide +kernel
theorem dX2_trustedBySome_25 : decode cX2_trustedBySome 25 = .ok (.invokevirtual 19, 3) := by decide +kernel
theorem dX2_trustedBySome_28 : decode cX2_trustedBySome 28 = .ok (.ior, 1) := by decide +kernel
theorem dX2_trustedBySome_29 : decode cX2_trustedBySome 29 = .ok (.istore_n 2, 1) := by decide +kernel
theorem dX2_trustedBySome_30 : decode cX2_trustedBySome 30 = .ok (.iinc 3 1, 3) := by decide +kernel
theorem dX2_trustedBySome_33 : decode cX2_trustedBySome 33 = .ok (.goto (-29), 3) := by decide +kernel
theorem dX2_trustedBySome_36 : decode cX2_trustedBySome 36 = .ok (.iload_n 2, 1) := by decide +kernel
theorem dX2_trustedBySome_37 : decode cX2_trustedBySome 37 = .ok (.ireturn, 1) := by decide +kernel
theorem dX2_countDistanceErrors_0 : decode cX2_countDistanceErrors 0 = .ok (.new 37, 3) := by decide +kernel
theorem dX2_countDistanceErrors_3 : decode cX2_countDistanceErrors 3 = .ok (.dup, 1) := by decide +kernel
theorem dX2_countDistanceErrors_4 : decode cX2_countDistanceErrors 4 = .ok (.invokespecial 39, 3) := by decide +kernel
theorem dX2_countDistanceErrors_7 : decode cX2_countDistanceErrors 7 = .ok (.astore_n 1, 1) := by decide +kernel
theorem dX2_countDistanceErrors_8 : decode cX2_countDistanceErrors 8 = .ok (.aload_n 1, 1) := by decide +kernel
theorem dX2_countDistanceErrors_9 : decode cX2_countDistanceErrors 9 = .ok (.aload_n 0, 1) := by decide +kernel
theorem dX2_countDistanceErrors_10 : decode cX2_countDistanceErrors 10 = .ok (.invokevirtual 42, 3) := by decide +kernel
theorem dX2_countDistanceErrors_13 : decode cX2_countDistanceErrors 13 = .ok (.iconst 0, 1) := by decide +kernel
theorem dX2_countDistanceErrors_14 : decode cX2_countDistanceErrors 14 = .ok (.istore_n 2, 1) := by decide +kernel
theorem dX2_countDistanceErrors_15 : decode cX2_countDistanceErrors 15 = .ok (.iload_n 2, 1) := by decide +kernel
theorem dX2_countDistanceErrors_16 : decode cX2_countDistanceErrors 16 = .ok (.aload_n 0, 1) := by decide +kernel
theorem dX2_countDistanceErrors_17 : decode cX2_countDistanceErrors 17 = .ok (.invokevirtual 27, 3) := by decide +kernel
theorem dX2_countDistanceErrors_20 : decode cX2_countDistanceErrors 20 = .ok (.if_icmp .ge 14, 3) := by decide +kernel
theorem dX2_countDistanceErrors_23 : decode cX2_countDistanceErrors 23 = .ok (.aload_n 1, 1) := by decide +kernel
theorem dX2_countDistanceErrors_24 : decode cX2_countDistanceErrors 24 = .ok (.iload_n 2, 1) := by decide +kernel
theorem dX2_countDistanceErrors_25 : decode cX2_countDistanceErrors 25 = .ok (.invokevirtual 46, 3) := by decide +kernel
theorem dX2_countDistanceErrors_28 : decode cX2_countDistanceErrors 28 = .ok (.iinc 2 1, 3) := by decide +kernel
theorem dX2_countDistanceErrors_31 : decode cX2_countDistanceErrors 31 = .ok (.goto (-16), 3) := by decide +kernel
theorem dX2_countDistanceErrors_34 : decode cX2_countDistanceErrors 34 = .ok (.iconst 0, 1) := by decide +kernel
theorem dX2_countDistanceErrors_35 : decode cX2_countDistanceErrors 35 = .ok (.istore_n 2, 1) := by decide +kernel
theorem dX2_countDistanceErrors_36 : decode cX2_countDistanceErrors 36 = .ok (.iconst 0, 1) := by decide +kernel
theorem dX2_countDistanceErrors_37 : decode cX2_countDistanceErrors 37 = .ok (.istore_n 3, 1) := by decide +kernel
theorem dX2_countDistanceErrors_38 : decode cX2_countDistanceErrors 38 = .ok (.iload_n 3, 1) := by decide +kernel
theorem dX2_countDistanceErrors_39 : decode cX2_countDistanceErrors 39 = .ok (.aload_n 0, 1) := by decide +kernel
theorem dX2_countDistanceErrors_40 : decode cX2_countDistanceErrors 40 = .ok (.invokevirtual 27, 3) := by decide +kernel
theorem dX2_countDistanceErrors_43 : decode cX2_countDistanceErrors 43 = .ok (.if_icmp .ge 52, 3) := by decide +kernel
theorem dX2_countDistanceErrors_46 : decode cX2_countDistanceErrors 46 = .ok (.iconst 0, 1) := by decide +kernel
theorem dX2_countDistanceErrors_47 : decode cX2_countDistanceErrors 47 = .ok (.istore 4, 2) := by decide +kernel
theorem dX2_countDistanceErrors_49 : decode cX2_countDistanceErrors 49 = .ok (.iload 4, 2) := by decide +kernel
theorem dX2_countDistanceErrors_51 : decode cX2_countDistanceErrors 51 = .ok (.aload_n 0, 1) := by decide +kernel
theorem dX2_countDistanceErrors_52 : decode cX2_countDistanceErrors 52 = .ok (.invokevirtual 27, 3) := by decide +kernel
theorem dX2_countDistanceErrors_55 : decode cX2_countDistanceErrors 55 = .ok (.if_icmp .ge 34, 3) := by decide +kernel
theorem dX2_countDistanceErrors_58 : decode cX2_countDistanceErrors 58 = .ok (.iload_n 2, 1) := by decide +kernel
theorem dX2_countDistanceErrors_59 : decode cX2_countDistanceErrors 59 = .ok (.aload_n 1, 1) := by decide +kernel
theorem dX2_countDistanceErrors_60 : decode cX2_countDistanceErrors 60 = .ok (.iload_n 3, 1) := by decide +kernel
theorem dX2_countDistanceErrors_61 : decode cX2_countDistanceErrors 61 = .ok (.iload 4, 2) := by decide +kernel
theorem dX2_countDistanceErrors_63 : decode cX2_countDistanceErrors 63 = .ok (.invokevirtual 50, 3) := by decide +kernel
theorem dX2_countDistanceErrors_66 : decode cX2_countDistanceErrors 66 = .ok (.aload_n 0, 1) := by decide +kernel
theorem dX2_countDistanceErrors_67 : decode cX2_countDistanceErrors 67 = .ok (.iload_n 3, 1) := by decide +kernel
theorem dX2_countDistanceErrors_68 : decode cX2_countDistanceErrors 68 = .ok (.iload 4, 2) := by decide +kernel
theorem dX2_countDistanceErrors_70 : decode cX2_countDistanceErrors 70 = .ok (.invokevirtual 30, 3) := by decide +kernel
theorem dX2_countDistanceErrors_73 : decode cX2_countDistanceErrors 73 = .ok (.if_icmp .ne 7, 3) := by decide +kernel
theorem dX2_countDistanceErrors_76 : decode cX2_countDistanceErrors 76 = .ok (.iconst 0, 1) := by decide +kernel
theorem dX2_countDistanceErrors_77 : decode cX2_countDistanceErrors 77 = .ok (.goto 4, 3) := by decide +kernel
theorem dX2_countDistanceErrors_80 : decode cX2_countDistanceErrors 80 = .ok (.iconst 1, 1) := by decide +kernel
theorem dX2_countDistanceErrors_81 : decode cX2_countDistanceErrors 81 = .ok (.iadd, 1) := by decide +kernel
theorem dX2_countDistanceErrors_82 : decode cX2_countDistanceErrors 82 = .ok (.istore_n 2, 1) := by decide +kernel
theorem dX2_countDistanceErrors_83 : decode cX2_countDistanceErrors 83 = .ok (.iinc 4 1, 3) := by decide +kernel
theorem dX2_countDistanceErrors_86 : decode cX2_countDistanceErrors 86 = .ok (.goto (-37), 3) := by decide +kernel
theorem dX2_countDistanceErrors_89 : decode cX2_countDistanceErrors 89 = .ok (.iinc 3 1, 3) := by decide +kernel
theorem dX2_countDistanceErrors_92 : decode cX2_countDistanceErrors 92 = .ok (.goto (-54), 3) := by decide +kernel
theorem dX2_countDistanceErrors_95 : decode cX2_countDistanceErrors 95 = .ok (.iload_n 2, 1) := by decide +kernel
theorem dX2_countDistanceErrors_96 : decode cX2_countDistanceErrors 96 = .ok (.ireturn, 1) := by decide +kernel
theorem dX3_init_0 : decode cX3_init 0 = .ok (.aload_n 0, 1) := by decide +kernel
theorem dX3_init_1 : decode cX3_init 1 = .ok (.bipush 6, 2) := by decide +kernel
theorem dX3_init_3 : decode cX3_init 3 = .ok (.iconst 3, 1) := by decide +kernel
theorem dX3_init_4 : decode cX3_init 4 = .ok (.invokespecial 5, 3) := by decide +kernel
theorem dX3_init_7 : decode cX3_init 7 = .ok (.return_, 1) := by decide +kernel
theorem dX3_addService_0 : decode cX3_addService 0 = .ok (.aload_n 0, 1) := by decide +kernel
theorem dX3_addService_1 : decode cX3_addService 1 = .ok (.invokevirtual 11, 3) := by decide +kernel
theorem dX3_addService_4 : decode cX3_addService 4 = .ok (.istore 4, 2) := by decide +kernel
theorem dX3_addService_6 : decode cX3_addService 6 = .ok (.aload_n 0, 1) := by decide +kernel
theorem dX3_addService_7 : decode cX3_addService 7 = .ok (.iload 4, 2) := by decide +kernel
theorem dX3_addService_9 : decode cX3_addService 9 = .ok (.iconst 0, 1) := by decide +kernel
theorem dX3_addService_10 : decode cX3_addService 10 = .ok (.iload_n 1, 1) := by decide +kernel
theorem dX3_addService_11 : decode cX3_addService 11 = .ok (.invokevirtual 15, 3) := by decide +kernel
theorem dX3_addService_14 : decode cX3_addService 14 = .ok (.aload_n 0, 1) := by decide +kernel
theorem dX3_addService_15 : decode cX3_addService 15 = .ok (.iload 4, 2) := by decide +kernel
theorem dX3_addService_17 : decode cX3_addService 17 = .ok (.iconst 1, 1) := by decide +kernel
theorem dX3_addService_18 : decode cX3_addService 18 = .ok (.iload_n 2, 1) := by decide +kernel
theorem dX3_addService_19 : decode cX3_addService 19 = .ok (.invokevirtual 15, 3) := by decide +kernel
theorem dX3_addService_22 : decode cX3_addService 22 = .ok (.aload_n 0, 1) := by decide +kernel
theorem dX3_addService_23 : decode cX3_addService 23 = .ok (.iload 4, 2) := by decide +kernel
theorem dX3_addService_25 : decode cX3_addService 25 = .ok (.iconst 2, 1) := by decide +kernel
theorem dX3_addService_26 : decode cX3_addService 26 = .ok (.iload_n 3, 1) := by decide +kernel
theorem dX3_addService_27 : decode cX3_addService 27 = .ok (.invokevirtual 15, 3) := by decide +kernel
theorem dX3_addService_30 : decode cX3_addService 30 = .ok (.return_, 1) := by decide +kernel
theorem dX4_init_0 : decode cX4_init 0 = .ok (.aload_n 0, 1) := by decide +kernel
theorem dX4_init_1 : decode cX4_init 1 = .ok (.invokespecial 1, 3) := by decide +kernel
theorem dX4_init_4 : decode cX4_init 4 = .ok (.aload_n 0, 1) := by decide +kernel
theorem dX4_init_5 : decode cX4_init 5 = .ok (.iconst 0, 1) := by decide +kernel
theorem dX4_init_6 : decode cX4_init 6 = .ok (.iload_n 1, 1) := by decide +kernel
theorem dX4_init_7 : decode cX4_init 7 = .ok (.invokestatic 7, 3) := by decide +kernel
theorem dX4_init_10 : decode cX4_init 10 = .ok (.anewarray 13, 3) := by decide +kernel
theorem dX4_init_13 : decode cX4_init 13 = .ok (.putfield 15, 3) := by decide +kernel
theorem dX4_init_16 : decode cX4_init 16 = .ok (.return_, 1) := by decide +kernel
theorem dX4_put_0 : decode cX4_put 0 = .ok (.iload_n 1, 1) := by decide +kernel
theorem dX4_put_1 : decode cX4_put 1 = .ok (.ifCond .lt 12, 3) := by decide +kernel
theorem dX4_put_4 : decode cX4_put 4 = .ok (.iload_n 1, 1) := by decide +kernel
theorem dX4_put_5 : decode cX4_put 5 = .ok (.aload_n 0, 1) := by decide +kernel
theorem dX4_put_6 : decode cX4_put 6 = .ok (.getfield 15, 3) := by decide +kernel
theorem dX4_put_9 : decode cX4_put 9 = .ok (.arraylength, 1) := by decide +kernel
theorem dX4_put_10 : decode cX4_put 10 = .ok (.if_icmp .lt 4, 3) := by decide +kernel
theorem dX4_put_13 : decode cX4_put 13 = .ok (.return_, 1) := by decide +kernel
theorem dX4_put_14 : decode cX4_put 14 = .ok (.aload_n 0, 1) := by decide +kernel
theorem dX4_put_15 : decode cX4_put 15 = .ok (.getfield 15, 3) := by decide +kernel
theorem dX4_put_18 : decode cX4_put 18 = .ok (.iload_n 1, 1) := by decide +kernel
theorem dX4_put_19 : decode cX4_put 19 = .ok (.aaload, 1) := by decide +kernel
theorem dX4_put_20 : decode cX4_put 20 = .ok (.astore_n 3, 1) := by decide +kernel
theorem dX4_put_21 : decode cX4_put 21 = .ok (.aload_n 3, 1) := by decide +kernel
theorem dX4_put_22 : decode cX4_put 22 = .ok (.ifnonnull 18, 3) := by decide +kernel
theorem dX4_put_25 : decode cX4_put 25 = .ok (.new 13, 3) := by decide +kernel
theorem dX4_put_28 : decode cX4_put 28 = .ok (.dup, 1) := by decide +kernel
theorem dX4_put_29 : decode cX4_put 29 = .ok (.invokespecial 21, 3) := by decide +kernel
theorem dX4_put_32 : decode cX4_put 32 = .ok (.astore_n 3, 1) := by decide +kernel
theorem dX4_put_33 : decode cX4_put 33 = .ok (.aload_n 0, 1) := by decide +kernel
theorem dX4_put_34 : decode cX4_put 34 = .ok (.getfield 15, 3) := by decide +kernel
theorem dX4_put_37 : decode cX4_put 37 = .ok (.iload_n 1, 1) := by decide +kernel
theorem dX4_put_38 : decode cX4_put 38 = .ok (.aload_n 3, 1) := by decide +kernel
theorem dX4_put_39 : decode cX4_put 39 = .ok (.aastore, 1) := by decide +kernel
theorem dX4_put_40 : decode cX4_put 40 = .ok (.aload_n 3, 1) := by decide +kernel
theorem dX4_put_41 : decode cX4_put 41 = .ok (.aload_n 2, 1) := by decide +kernel
theorem dX4_put_42 : decode cX4_put 42 = .ok (.invokevirtual 22, 3) := by decide +kernel
theorem dX4_put_45 : decode cX4_put 45 = .ok (.return_, 1) := by decide +kernel
theorem dX5_init_0 : decode cX5_init 0 = .ok (.aload_n 0, 1) := by decide +kernel
theorem dX5_init_1 : decode cX5_init 1 = .ok (.invokespecial 3, 3) := by decide +kernel
theorem dX5_init_4 : decode cX5_init 4 = .ok (.aload_n 0, 1) := by decide +kernel
theorem dX5_init_5 : decode cX5_init 5 = .ok (.new 9, 3) := by decide +kernel
theorem dX5_init_8 : decode cX5_init 8 = .ok (.dup, 1) := by decide +kernel
theorem dX5_init_9 : decode cX5_init 9 = .ok (.invokespecial 11, 3) := by decide +kernel
theorem dX5_init_12 : decode cX5_init 12 = .ok (.putfield 12, 3) := by decide +kernel
theorem dX5_init_15 : decode cX5_init 15 = .ok (.aload_n 0, 1) := by decide +kernel
theorem dX5_init_16 : decode cX5_init 16 = .ok (.new 18, 3) := by decide +kernel
theorem dX5_init_19 : decode cX5_init 19 = .ok (.dup, 1) := by decide +kernel
theorem dX5_init_20 : decode cX5_init 20 = .ok (.invokespecial 20, 3) := by decide +kernel
theorem dX5_init_23 : decode cX5_init 23 = .ok (.putfield 21, 3) := by decide +kernel
theorem dX5_init_26 : decode cX5_init 26 = .ok (.aload_n 0, 1) := by decide +kernel
theorem dX5_init_27 : decode cX5_init 27 = .ok (.new 25, 3) := by decide +kernel
theorem dX5_init_30 : decode cX5_init 30 = .ok (.dup, 1) := by decide +kernel
theorem dX5_init_31 : decode cX5_init 31 = .ok (.invokespecial 27, 3) := by decide +kernel
theorem dX5_init_34 : decode cX5_init 34 = .ok (.putfield 28, 3) := by decide +kernel
theorem dX5_init_37 : decode cX5_init 37 = .ok (.aload_n 0, 1) := by decide +kernel
theorem dX5_init_38 : decode cX5_init 38 = .ok (.new 32, 3) := by decide +kernel
theorem dX5_init_41 : decode cX5_init 41 = .ok (.dup, 1) := by decide +kernel
theorem dX5_init_42 : decode cX5_init 42 = .ok (.invokespecial 34, 3) := by decide +kernel
theorem dX5_init_45 : decode cX5_init 45 = .ok (.putfield 35, 3) := by decide +kernel
theorem dX5_init_48 : decode cX5_init 48 = .ok (.aload_n 0, 1) := by decide +kernel
theorem dX5_init_49 : decode cX5_init 49 = .ok (.new 39, 3) := by decide +kernel
theorem dX5_init_52 : decode cX5_init 52 = .ok (.dup, 1) := by decide +kernel
theorem dX5_init_53 : decode cX5_init 53 = .ok (.invokespecial 41, 3) := by decide +kernel
theorem dX5_init_56 : decode cX5_init 56 = .ok (.putfield 42, 3) := by decide +kernel
theorem dX5_init_59 : decode cX5_init 59 = .ok (.return_, 1) := by decide +kernel
theorem dX5_begin_0 : decode cX5_begin 0 = .ok (.aload_n 0, 1) := by decide +kernel
theorem dX5_begin_1 : decode cX5_begin 1 = .ok (.getfield 12, 3) := by decide +kernel
theorem dX5_begin_4 : decode cX5_begin 4 = .ok (.invokevirtual 46, 3) := by decide +kernel
theorem dX5_begin_7 : decode cX5_begin 7 = .ok (.aload_n 0, 1) := by decide +kernel
theorem dX5_begin_8 : decode cX5_begin 8 = .ok (.getfield 21, 3) := by decide +kernel
theorem dX5_begin_11 : decode cX5_begin 11 = .ok (.invokevirtual 49, 3) := by decide +kernel
theorem dX5_begin_14 : decode cX5_begin 14 = .ok (.aload_n 0, 1) := by decide +kernel
theorem dX5_begin_15 : decode cX5_begin 15 = .ok (.getfield 28, 3) := by decide +kernel
theorem dX5_begin_18 : decode cX5_begin 18 = .ok (.invokevirtual 50, 3) := by decide +kernel
theorem dX5_begin_21 : decode cX5_begin 21 = .ok (.aload_n 0, 1) := by decide +kernel
theorem dX5_begin_22 : decode cX5_begin 22 = .ok (.getfield 35, 3) := by decide +kernel
theorem dX5_begin_25 : decode cX5_begin 25 = .ok (.invokevirtual 51, 3) := by decide +kernel
theorem dX5_begin_28 : decode cX5_begin 28 = .ok (.aload_n 0, 1) := by decide +kernel
theorem dX5_begin_29 : decode cX5_begin 29 = .ok (.getfield 42, 3) := by decide +kernel
theorem dX5_begin_32 : decode cX5_begin 32 = .ok (.invokevirtual 52, 3) := by decide +kernel
theorem dX5_begin_35 : decode cX5_begin 35 = .ok (.aload_n 0, 1) := by decide +kernel
theorem dX5_begin_36 : decode cX5_begin 36 = .ok (.iconst 0, 1) := by decide +kernel
theorem dX5_begin_37 : decode cX5_begin 37 = .ok (.putfield 53, 3) := by decide +kernel
theorem dX5_begin_40 : decode cX5_begin 40 = .ok (.aload_n 0, 1) := by decide +kernel
theorem dX5_begin_41 : decode cX5_begin 41 = .ok (.iload_n 1, 1) := by decide +kernel
theorem dX5_begin_42 : decode cX5_begin 42 = .ok (.putfield 57, 3) := by decide +kernel
theorem dX5_begin_45 : decode cX5_begin 45 = .ok (.aload_n 0, 1) := by decide +kernel
theorem dX5_begin_46 : decode cX5_begin 46 = .ok (.iload_n 2, 1) := by decide +kernel
theorem dX5_begin_47 : decode cX5_begin 47 = .ok (.putfield 60, 3) := by decide +kernel
theorem dX5_begin_50 : decode cX5_begin 50 = .ok (.aload_n 0, 1) := by decide +kernel
theorem dX5_begin_51 : decode cX5_begin 51 = .ok (.iconst 0, 1) := by decide +kernel
theorem dX5_begin_52 : decode cX5_begin 52 = .ok (.putfield 63, 3) := by decide +kernel
theorem dX5_begin_55 : decode cX5_begin 55 = .ok (.aload_n 0, 1) := by decide +kernel
theorem dX5_begin_56 : decode cX5_begin 56 = .ok (.iconst 0, 1) := by decide +kernel
theorem dX5_begin_57 : decode cX5_begin 57 = .ok (.putfield 66, 3) := by decide +kernel
theorem dX5_begin_60 : decode cX5_begin 60 = .ok (.return_, 1) := by decide +kernel
theorem dX5_copyFrom_0 : decode cX5_copyFrom 0 = .ok (.aload_n 0, 1) := by decide +kernel
theorem dX5_copyFrom_1 : decode cX5_copyFrom 1 = .ok (.getfield 12, 3) := by decide +kernel
theorem dX5_copyFrom_4 : decode cX5_copyFrom 4 = .ok (.aload_n 1, 1) := by decide +kernel
theorem dX5_copyFrom_5 : decode cX5_copyFrom 5 = .ok (.getfield 12, 3) := by decide +kernel
theorem dX5_copyFrom_8 : decode cX5_copyFrom 8 = .ok (.invokevirtual 69, 3) := by decide +kernel
theorem dX5_copyFrom_11 : decode cX5_copyFrom 11 = .ok (.aload_n 0, 1) := by decide +kernel
theorem dX5_copyFrom_12 : decode cX5_copyFrom 12 = .ok (.getfield 21, 3) := by decide +kernel
theorem dX5_copyFrom_15 : decode cX5_copyFrom 15 = .ok (.aload_n 1, 1) := by decide +kernel
theorem dX5_copyFrom_16 : decode cX5_copyFrom 16 = .ok (.getfield 21, 3) := by decide +kernel
theorem dX5_copyFrom_19 : decode cX5_copyFrom 19 = .ok (.invokevirtual 73, 3) := by decide +kernel
theorem dX5_copyFrom_22 : decode cX5_copyFrom 22 = .ok (.aload_n 0, 1) := by decide +kernel
theorem dX5_copyFrom_23 : decode cX5_copyFrom 23 = .ok (.getfield 28, 3) := by decide +kernel
theorem dX5_copyFrom_26 : decode cX5_copyFrom 26 = .ok (.aload_n 1, 1) := by decide +kernel
theorem dX5_copyFrom_27 : decode cX5_copyFrom 27 = .ok (.getfield 28, 3) := by decide +kernel
theorem dX5_copyFrom_30 : decode cX5_copyFrom 30 = .ok (.invokevirtual 74, 3) := by decide +kernel
theorem dX5_copyFrom_33 : decode cX5_copyFrom 33 = .ok (.aload_n 0, 1) := by decide +kernel
theorem dX5_copyFrom_34 : decode cX5_copyFrom 34 = .ok (.getfield 35, 3) := by decide +kernel
theorem dX5_copyFrom_37 : decode cX5_copyFrom 37 = .ok (.aload_n 1, 1) := by decide +kernel
theorem dX5_copyFrom_38 : decode cX5_copyFrom 38 = .ok (.getfield 35, 3) := by decide +kernel
theorem dX5_copyFrom_41 : decode cX5_copyFrom 41 = .ok (.invokevirtual 75, 3) := by decide +kernel
theorem dX5_copyFrom_44 : decode cX5_copyFrom 44 = .ok (.aload_n 0, 1) := by decide +kernel
theorem dX5_copyFrom_45 : decode cX5_copyFrom 45 = .ok (.getfield 42, 3) := by decide +kernel
theorem dX5_copyFrom_48 : decode cX5_copyFrom 48 = .ok (.aload_n 1, 1) := by decide +kernel
theorem dX5_copyFrom_49 : decode cX5_copyFrom 49 = .ok (.getfield 42, 3) := by decide +kernel
theorem dX5_copyFrom_52 : decode cX5_copyFrom 52 = .ok (.invokevirtual 76, 3) := by decide +kernel
theorem dX5_copyFrom_55 : decode cX5_copyFrom 55 = .ok (.aload_n 0, 1) := by decide +kernel
theorem dX5_copyFrom_56 : decode cX5_copyFrom 56 = .ok (.aload_n 1, 1) := by decide +kernel
theorem dX5_copyFrom_57 : decode cX5_copyFrom 57 = .ok (.getfield 53, 3) := by decide +kernel
theorem dX5_copyFrom_60 : decode cX5_copyFrom 60 = .ok (.putfield 53, 3) := by decide +kernel
theorem dX5_copyFrom_63 : decode cX5_copyFrom 63 = .ok (.aload_n 0, 1) := by decide +kernel
theorem dX5_copyFrom_64 : decode cX5_copyFrom 64 = .ok (.aload_n 1, 1) := by decide +kernel
theorem dX5_copyFrom_65 : decode cX5_copyFrom 65 = .ok (.getfield 57, 3) := by decide +kernel
theorem dX5_copyFrom_68 : decode cX5_copyFrom 68 = .ok (.putfield 57, 3) := by decide +kernel
theorem dX5_copyFrom_71 : decode cX5_copyFrom 71 = .ok (.aload_n 0, 1) := by decide +kernel
theorem dX5_copyFrom_72 : decode cX5_copyFrom 72 = .ok (.aload_n 1, 1) := by decide +kernel
theorem dX5_copyFrom_73 : decode cX5_copyFrom 73 = .ok (.getfield 60, 3) := by decide +kernel
theorem dX5_copyFrom_76 : decode cX5_copyFrom 76 = .ok (.putfield 60, 3) := by decide +kernel
theorem dX5_copyFrom_79 : decode cX5_copyFrom 79 = .ok (.aload_n 0, 1) := by decide +kernel
theorem dX5_copyFrom_80 : decode cX5_copyFrom 80 = .ok (.aload_n 1, 1) := by decide +kernel
theorem dX5_copyFrom_81 : decode cX5_copyFrom 81 = .ok (.getfield 63, 3) := by decide +kernel
theorem dX5_copyFrom_84 : decode cX5_copyFrom 84 = .ok (.putfield 63, 3) := by decide +kernel
theorem dX5_copyFrom_87 : decode cX5_copyFrom 87 = .ok (.aload_n 0, 1) := by decide +kernel
theorem dX5_copyFrom_88 : decode cX5_copyFrom 88 = .ok (.aload_n 1, 1) := by decide +kernel
theorem dX5_copyFrom_89 : decode cX5_copyFrom 89 = .ok (.getfield 66, 3) := by decide +kernel
theorem dX5_copyFrom_92 : decode cX5_copyFrom 92 = .ok (.putfield 66, 3) := by decide +kernel
theorem dX5_copyFrom_95 : decode cX5_copyFrom 95 = .ok (.return_, 1) := by decide +kernel
theorem dX5_codeOfName_0 : decode cX5_codeOfName 0 = .ok (.aload_n 0, 1) := by decide +kernel
theorem dX5_codeOfName_1 : decode cX5_codeOfName 1 = .ok (.getfield 12, 3) := by decide +kernel
theorem dX5_codeOfName_4 : decode cX5_codeOfName 4 = .ok (.iconst 0, 1) := by decide +kernel
theorem dX5_codeOfName_5 : decode cX5_codeOfName 5 = .ok (.iload_n 1, 1) := by decide +kernel
theorem dX5_codeOfName_6 : decode cX5_codeOfName 6 = .ok (.invokevirtual 77, 3) := by decide +kernel
theorem dX5_codeOfName_9 : decode cX5_codeOfName 9 = .ok (.istore_n 2, 1) := by decide +kernel
theorem dX5_codeOfName_10 : decode cX5_codeOfName 10 = .ok (.aload_n 0, 1) := by decide +kernel
theorem dX5_codeOfName_11 : decode cX5_codeOfName 11 = .ok (.getfield 21, 3) := by decide +kernel
theorem dX5_codeOfName_14 : decode cX5_codeOfName 14 = .ok (.iconst 0, 1) := by decide +kernel
theorem dX5_codeOfName_15 : decode cX5_codeOfName 15 = .ok (.iload_n 1, 1) := by decide +kernel
theorem dX5_codeOfName_16 : decode cX5_codeOfName 16 = .ok (.invokevirtual 81, 3) := by decide +kernel
theorem dX5_codeOfName_19 : decode cX5_codeOfName 19 = .ok (.istore_n 3, 1) := by decide +kernel
theorem dX5_codeOfName_20 : decode cX5_codeOfName 20 = .ok (.aload_n 0, 1) := by decide +kernel
theorem dX5_codeOfName_21 : decode cX5_codeOfName 21 = .ok (.getfield 28, 3) := by decide +kernel
theorem dX5_codeOfName_24 : decode cX5_codeOfName 24 = .ok (.iconst 0, 1) := by decide +kernel
theorem dX5_codeOfName_25 : decode cX5_codeOfName 25 = .ok (.iload_n 1, 1) := by decide +kernel
theorem dX5_codeOfName_26 : decode cX5_codeOfName 26 = .ok (.invokevirtual 82, 3) := by decide +kernel
theorem dX5_codeOfName_29 : decode cX5_codeOfName 29 = .ok (.istore 4, 2) := by decide +kernel
theorem dX5_codeOfName_31 : decode cX5_codeOfName 31 = .ok (.iload_n 2, 1) := by decide +kernel
theorem dX5_codeOfName_32 : decode cX5_codeOfName 32 = .ok (.iconst (-1), 1) := by decide +kernel
theorem dX5_codeOfName_33 : decode cX5_codeOfName 33 = .ok (.if_icmp .eq 5, 3) := by decide +kernel
theorem dX5_codeOfName_36 : decode cX5_codeOfName 36 = .ok (.iload_n 2, 1) := by decide +kernel
theorem dX5_codeOfName_37 : decode cX5_codeOfName 37 = .ok (.ireturn, 1) := by decide +kernel
theorem dX5_codeOfName_38 : decode cX5_codeOfName 38 = .ok (.iload_n 3, 1) := by decide +kernel
theorem dX5_codeOfName_39 : decode cX5_codeOfName 39 = .ok (.iconst (-1), 1) := by decide +kernel
theorem dX5_codeOfName_40 : decode cX5_codeOfName 40 = .ok (.if_icmp .eq 8, 3) := by decide +kernel
theorem dX5_codeOfName_43 : decode cX5_codeOfName 43 = .ok (.bipush 100, 2) := by decide +kernel
theorem dX5_codeOfName_45 : decode cX5_codeOfName 45 = .ok (.iload_n 3, 1) := by decide +kernel
theorem dX5_codeOfName_46 : decode cX5_codeOfName 46 = .ok (.iadd, 1) := by decide +kernel
theorem dX5_codeOfName_47 : decode cX5_codeOfName 47 = .ok (.ireturn, 1) := by decide +kernel
theorem dX5_codeOfName_48 : decode cX5_codeOfName 48 = .ok (.iload 4, 2) := by decide +kernel
theorem dX5_codeOfName_50 : decode cX5_codeOfName 50 = .ok (.iconst (-1), 1) := by decide +kernel
theorem dX5_codeOfName_51 : decode cX5_codeOfName 51 = .ok (.if_icmp .ne 7, 3) := by decide +kernel
theorem dX5_codeOfName_54 : decode cX5_codeOfName 54 = .ok (.iconst (-1), 1) := by decide +kernel
theorem dX5_codeOfName_55 : decode cX5_codeOfName 55 = .ok (.goto 9, 3) := by decide +kernel
theorem dX5_codeOfName_58 : decode cX5_codeOfName 58 = .ok (.sipush 200, 3) := by decide +kernel
theorem dX5_codeOfName_61 : decode cX5_codeOfName 61 = .ok (.iload 4, 2) := by decide +kernel
theorem dX5_codeOfName_63 : decode cX5_codeOfName 63 = .ok (.iadd, 1) := by decide +kernel
theorem dX5_codeOfName_64 : decode cX5_codeOfName 64 = .ok (.ireturn, 1) := by decide +kernel
theorem dX5_skewOf_0 : decode cX5_skewOf 0 = .ok (.aload_n 0, 1) := by decide +kernel
theorem dX5_skewOf_1 : decode cX5_skewOf 1 = .ok (.getfield 21, 3) := by decide +kernel
theorem dX5_skewOf_4 : decode cX5_skewOf 4 = .ok (.iload_n 1, 1) := by decide +kernel
theorem dX5_skewOf_5 : decode cX5_skewOf 5 = .ok (.iconst 3, 1) := by decide +kernel
theorem dX5_skewOf_6 : decode cX5_skewOf 6 = .ok (.invokevirtual 83, 3) := by decide +kernel
theorem dX5_skewOf_9 : decode cX5_skewOf 9 = .ok (.aload_n 0, 1) := by decide +kernel
theorem dX5_skewOf_10 : decode cX5_skewOf 10 = .ok (.getfield 12, 3) := by decide +kernel
theorem dX5_skewOf_13 : decode cX5_skewOf 13 = .ok (.iload_n 2, 1) := by decide +kernel
theorem dX5_skewOf_14 : decode cX5_skewOf 14 = .ok (.iconst 3, 1) := by decide +kernel
theorem dX5_skewOf_15 : decode cX5_skewOf 15 = .ok (.invokevirtual 86, 3) := by decide +kernel
theorem dX5_skewOf_18 : decode cX5_skewOf 18 = .ok (.isub, 1) := by decide +kernel
theorem dX5_skewOf_19 : decode cX5_skewOf 19 = .ok (.invokestatic 87, 3) := by decide +kernel
theorem dX5_skewOf_22 : decode cX5_skewOf 22 = .ok (.ireturn, 1) := by decide +kernel
theorem dX5_isSkewed_0 : decode cX5_isSkewed 0 = .ok (.aload_n 0, 1) := by decide +kernel
theorem dX5_isSkewed_1 : decode cX5_isSkewed 1 = .ok (.getfield 35, 3) := by decide +kernel
theorem dX5_isSkewed_4 : decode cX5_isSkewed 4 = .ok (.iload_n 1, 1) := by decide +kernel
theorem dX5_isSkewed_5 : decode cX5_isSkewed 5 = .ok (.iconst 2, 1) := by decide +kernel
theorem dX5_isSkewed_6 : decode cX5_isSkewed 6 = .ok (.invokevirtual 93, 3) := by decide +kernel
theorem dX5_isSkewed_9 : decode cX5_isSkewed 9 = .ok (.istore_n 2, 1) := by decide +kernel
theorem dX5_isSkewed_10 : decode cX5_isSkewed 10 = .ok (.aload_n 0, 1) := by decide +kernel
theorem dX5_isSkewed_11 : decode cX5_isSkewed 11 = .ok (.iload_n 2, 1) := by decide +kernel
theorem dX5_isSkewed_12 : decode cX5_isSkewed 12 = .ok (.aload_n 0, 1) := by decide +kernel
theorem dX5_isSkewed_13 : decode cX5_isSkewed 13 = .ok (.getfield 35, 3) := by decide +kernel
theorem dX5_isSkewed_16 : decode cX5_isSkewed 16 = .ok (.iload_n 1, 1) := by decide +kernel
theorem dX5_isSkewed_17 : decode cX5_isSkewed 17 = .ok (.iconst 3, 1) := by decide +kernel
theorem dX5_isSkewed_18 : decode cX5_isSkewed 18 = .ok (.invokevirtual 93, 3) := by decide +kernel
theorem dX5_isSkewed_21 : decode cX5_isSkewed 21 = .ok (.invokevirtual 94, 3) := by decide +kernel
theorem dX5_isSkewed_24 : decode cX5_isSkewed 24 = .ok (.aload_n 0, 1) := by decide +kernel
theorem dX5_isSkewed_25 : decode cX5_isSkewed 25 = .ok (.getfield 57, 3) := by decide +kernel
theorem dX5_isSkewed_28 : decode cX5_isSkewed 28 = .ok (.if_icmp .le 7, 3) := by decide +kernel
theorem dX5_isSkewed_31 : decode cX5_isSkewed 31 = .ok (.iconst 1, 1) := by decide +kernel
theorem dX5_isSkewed_32 : decode cX5_isSkewed 32 = .ok (.goto 4, 3) := by decide +kernel
theorem dX5_isSkewed_35 : decode cX5_isSkewed 35 = .ok (.iconst 0, 1) := by decide +kernel
theorem dX5_isSkewed_36 : decode cX5_isSkewed 36 = .ok (.ireturn, 1) := by decide +kernel
theorem dX5_whyNoLogin_0 : decode cX5_whyNoLogin 0 = .ok (.aload_n 0, 1) := by decide +kernel
theorem dX5_whyNoLogin_1 : decode cX5_whyNoLogin 1 = .ok (.getfield 21, 3) := by decide +kernel
theorem dX5_whyNoLogin_4 : decode cX5_whyNoLogin 4 = .ok (.iload_n 1, 1) := by decide +kernel
theorem dX5_whyNoLogin_5 : decode cX5_whyNoLogin 5 = .ok (.iconst 2, 1) := by decide +kernel
theorem dX5_whyNoLogin_6 : decode cX5_whyNoLogin 6 = .ok (.invokevirtual 83, 3) := by decide +kernel
theorem dX5_whyNoLogin_9 : decode cX5_whyNoLogin 9 = .ok (.iload_n 2, 1) := by decide +kernel
theorem dX5_whyNoLogin_10 : decode cX5_whyNoLogin 10 = .ok (.if_icmp .eq 5, 3) := by decide +kernel
theorem dX5_whyNoLogin_13 : decode cX5_whyNoLogin 13 = .ok (.iconst 1, 1) := by decide +kernel
theorem dX5_whyNoLogin_14 : decode cX5_whyNoLogin 14 = .ok (.ireturn, 1) := by decide +kernel
theorem dX5_whyNoLogin_15 : decode cX5_whyNoLogin 15 = .ok (.aload_n 0, 1) := by decide +kernel
theorem dX5_whyNoLogin_16 : decode cX5_whyNoLogin 16 = .ok (.iload_n 1, 1) := by decide +kernel
theorem dX5_whyNoLogin_17 : decode cX5_whyNoLogin 17 = .ok (.aload_n 0, 1) := by decide +kernel
theorem dX5_whyNoLogin_18 : decode cX5_whyNoLogin 18 = .ok (.getfield 21, 3) := by decide +kernel
theorem dX5_whyNoLogin_21 : decode cX5_whyNoLogin 21 = .ok (.iload_n 1, 1) := by decide +kernel
theorem dX5_whyNoLogin_22 : decode cX5_whyNoLogin 22 = .ok (.iconst 1, 1) := by decide +kernel
theorem dX5_whyNoLogin_23 : decode cX5_whyNoLogin 23 = .ok (.invokevirtual 83, 3) := by decide +kernel
theorem dX5_whyNoLogin_26 : decode cX5_whyNoLogin 26 = .ok (.invokevirtual 94, 3) := by decide +kernel
theorem dX5_whyNoLogin_29 : decode cX5_whyNoLogin 29 = .ok (.aload_n 0, 1) := by decide +kernel
theorem dX5_whyNoLogin_30 : decode cX5_whyNoLogin 30 = .ok (.getfield 57, 3) := by decide +kernel
theorem dX5_whyNoLogin_33 : decode cX5_whyNoLogin 33 = .ok (.if_icmp .le 5, 3) := by decide +kernel
theorem dX5_whyNoLogin_36 : decode cX5_whyNoLogin 36 = .ok (.iconst 2, 1) := by decide +kernel
theorem dX5_whyNoLogin_37 : decode cX5_whyNoLogin 37 = .ok (.ireturn, 1) := by decide +kernel
theorem dX5_whyNoLogin_38 : decode cX5_whyNoLogin 38 = .ok (.aload_n 0, 1) := by decide +kernel
theorem dX5_whyNoLogin_39 : decode cX5_whyNoLogin 39 = .ok (.getfield 35, 3) := by decide +kernel
theorem dX5_whyNoLogin_42 : decode cX5_whyNoLogin 42 = .ok (.invokevirtual 97, 3) := by decide +kernel
theorem dX5_whyNoLogin_45 : decode cX5_whyNoLogin 45 = .ok (.ifCond .eq 7, 3) := by decide +kernel
theorem dX5_whyNoLogin_48 : decode cX5_whyNoLogin 48 = .ok (.iconst 3, 1) := by decide +kernel
theorem dX5_whyNoLogin_49 : decode cX5_whyNoLogin 49 = .ok (.goto 4, 3) := by decide +kernel
theorem dX5_whyNoLogin_52 : decode cX5_whyNoLogin 52 = .ok (.iconst 0, 1) := by decide +kernel
theorem dX5_whyNoLogin_53 : decode cX5_whyNoLogin 53 = .ok (.ireturn, 1) := by decide +kernel
theorem dX5_whyNoReferral_0 : decode cX5_whyNoReferral 0 = .ok (.aload_n 0, 1) := by decide +kernel
theorem dX5_whyNoReferral_1 : decode cX5_whyNoReferral 1 = .ok (.getfield 35, 3) := by decide +kernel
theorem dX5_whyNoReferral_4 : decode cX5_whyNoReferral 4 = .ok (.iload_n 1, 1) := by decide +kernel
theorem dX5_whyNoReferral_5 : decode cX5_whyNoReferral 5 = .ok (.iconst 1, 1) := by decide +kernel
theorem dX5_whyNoReferral_6 : decode cX5_whyNoReferral 6 = .ok (.invokevirtual 93, 3) := by decide +kernel
theorem dX5_whyNoReferral_9 : decode cX5_whyNoReferral 9 = .ok (.ifCond .eq 5, 3) := by decide +kernel
theorem dX5_whyNoReferral_12 : decode cX5_whyNoReferral 12 = .ok (.iconst 1, 1) := by decide +kernel
theorem dX5_whyNoReferral_13 : decode cX5_whyNoReferral 13 = .ok (.ireturn, 1) := by decide +kernel
theorem dX5_whyNoReferral_14 : decode cX5_whyNoReferral 14 = .ok (.aload_n 0, 1) := by decide +kernel
theorem dX5_whyNoReferral_15 : decode cX5_whyNoReferral 15 = .ok (.getfield 35, 3) := by decide +kernel
theorem dX5_whyNoReferral_18 : decode cX5_whyNoReferral 18 = .ok (.iload_n 1, 1) := by decide +kernel
theorem dX5_whyNoReferral_19 : decode cX5_whyNoReferral 19 = .ok (.aload_n 0, 1) := by decide +kernel
theorem dX5_whyNoReferral_20 : decode cX5_whyNoReferral 20 = .ok (.getfield 53, 3) := by decide +kernel
theorem dX5_whyNoReferral_23 : decode cX5_whyNoReferral 23 = .ok (.invokevirtual 101, 3) := by decide +kernel
theorem dX5_whyNoReferral_26 : decode cX5_whyNoReferral 26 = .ok (.ifCond .ne 5, 3) := by decide +kernel
theorem dX5_whyNoReferral_29 : decode cX5_whyNoReferral 29 = .ok (.iconst 2, 1) := by decide +kernel
theorem dX5_whyNoReferral_30 : decode cX5_whyNoReferral 30 = .ok (.ireturn, 1) := by decide +kernel
theorem dX5_whyNoReferral_31 : decode cX5_whyNoReferral 31 = .ok (.aload_n 0, 1) := by decide +kernel
theorem dX5_whyNoReferral_32 : decode cX5_whyNoReferral 32 = .ok (.getfield 12, 3) := by decide +kernel
theorem dX5_whyNoReferral_35 : decode cX5_whyNoReferral 35 = .ok (.aload_n 0, 1) := by decide +kernel
theorem dX5_whyNoReferral_36 : decode cX5_whyNoReferral 36 = .ok (.getfield 35, 3) := by decide +kernel
theorem dX5_whyNoReferral_39 : decode cX5_whyNoReferral 39 = .ok (.iload_n 1, 1) := by decide +kernel
theorem dX5_whyNoReferral_40 : decode cX5_whyNoReferral 40 = .ok (.iconst 3, 1) := by decide +kernel
theorem dX5_whyNoReferral_41 : decode cX5_whyNoReferral 41 = .ok (.invokevirtual 93, 3) := by decide +kernel
theorem dX5_whyNoReferral_44 : decode cX5_whyNoReferral 44 = .ok (.iload_n 2, 1) := by decide +kernel
theorem dX5_whyNoReferral_45 : decode cX5_whyNoReferral 45 = .ok (.invokevirtual 105, 3) := by decide +kernel
theorem dX5_whyNoReferral_48 : decode cX5_whyNoReferral 48 = .ok (.ifCond .ne 5, 3) := by decide +kernel
theorem dX5_whyNoReferral_51 : decode cX5_whyNoReferral 51 = .ok (.iconst 3, 1) := by decide +kernel
theorem dX5_whyNoReferral_52 : decode cX5_whyNoReferral 52 = .ok (.ireturn, 1) := by decide +kernel
theorem dX5_whyNoReferral_53 : decode cX5_whyNoReferral 53 = .ok (.aload_n 0, 1) := by decide +kernel
theorem dX5_whyNoReferral_54 : decode cX5_whyNoReferral 54 = .ok (.iload_n 1, 1) := by decide +kernel
theorem dX5_whyNoReferral_55 : decode cX5_whyNoReferral 55 = .ok (.invokevirtual 108, 3) := by decide +kernel
theorem dX5_whyNoReferral_58 : decode cX5_whyNoReferral 58 = .ok (.ifCond .eq 5, 3) := by decide +kernel
theorem dX5_whyNoReferral_61 : decode cX5_whyNoReferral 61 = .ok (.iconst 4, 1) := by decide +kernel
theorem dX5_whyNoReferral_62 : decode cX5_whyNoReferral 62 = .ok (.ireturn, 1) := by decide +kernel
theorem dX5_whyNoReferral_63 : decode cX5_whyNoReferral 63 = .ok (.aload_n 0, 1) := by decide +kernel
theorem dX5_whyNoReferral_64 : decode cX5_whyNoReferral 64 = .ok (.getfield 35, 3) := by decide +kernel
theorem dX5_whyNoReferral_67 : decode cX5_whyNoReferral 67 = .ok (.invokevirtual 97, 3) := by decide +kernel
theorem dX5_whyNoReferral_70 : decode cX5_whyNoReferral 70 = .ok (.ifCond .eq 7, 3) := by decide +kernel
theorem dX5_whyNoReferral_73 : decode cX5_whyNoReferral 73 = .ok (.iconst 5, 1) := by decide +kernel
theorem dX5_whyNoReferral_74 : decode cX5_whyNoReferral 74 = .ok (.goto 4, 3) := by decide +kernel
theorem dX5_whyNoReferral_77 : decode cX5_whyNoReferral 77 = .ok (.iconst 0, 1) := by decide +kernel
theorem dX5_whyNoReferral_78 : decode cX5_whyNoReferral 78 = .ok (.ireturn, 1) := by decide +kernel
theorem dX5_whyNoRequest_0 : decode cX5_whyNoRequest 0 = .ok (.aload_n 0, 1) := by decide +kernel
theorem dX5_whyNoRequest_1 : decode cX5_whyNoRequest 1 = .ok (.getfield 35, 3) := by decide +kernel
theorem dX5_whyNoRequest_4 : decode cX5_whyNoRequest 4 = .ok (.iload_n 1, 1) := by decide +kernel
theorem dX5_whyNoRequest_5 : decode cX5_whyNoRequest 5 = .ok (.iconst 1, 1) := by decide +kernel
theorem dX5_whyNoRequest_6 : decode cX5_whyNoRequest 6 = .ok (.invokevirtual 93, 3) := by decide +kernel
theorem dX5_whyNoRequest_9 : decode cX5_whyNoRequest 9 = .ok (.ifCond .eq 5, 3) := by decide +kernel
theorem dX5_whyNoRequest_12 : decode cX5_whyNoRequest 12 = .ok (.iconst 1, 1) := by decide +kernel
theorem dX5_whyNoRequest_13 : decode cX5_whyNoRequest 13 = .ok (.ireturn, 1) := by decide +kernel
theorem dX5_whyNoRequest_14 : decode cX5_whyNoRequest 14 = .ok (.aload_n 0, 1) := by decide +kernel
theorem dX5_whyNoRequest_15 : decode cX5_whyNoRequest 15 = .ok (.getfield 35, 3) := by decide +kernel
theorem dX5_whyNoRequest_18 : decode cX5_whyNoRequest 18 = .ok (.iload_n 1, 1) := by decide +kernel
theorem dX5_whyNoRequest_19 : decode cX5_whyNoRequest 19 = .ok (.aload_n 0, 1) := by decide +kernel
theorem dX5_whyNoRequest_20 : decode cX5_whyNoRequest 20 = .ok (.getfield 53, 3) := by decide +kernel
theorem dX5_whyNoRequest_23 : decode cX5_whyNoRequest 23 = .ok (.invokevirtual 101, 3) := by decide +kernel
theorem dX5_whyNoRequest_26 : decode cX5_whyNoRequest 26 = .ok (.ifCond .ne 5, 3) := by decide +kernel
theorem dX5_whyNoRequest_29 : decode cX5_whyNoRequest 29 = .ok (.iconst 2, 1) := by decide +kernel
theorem dX5_whyNoRequest_30 : decode cX5_whyNoRequest 30 = .ok (.ireturn, 1) := by decide +kernel
theorem dX5_whyNoRequest_31 : decode cX5_whyNoRequest 31 = .ok (.aload_n 0, 1) := by decide +kernel
theorem dX5_whyNoRequest_32 : decode cX5_whyNoRequest 32 = .ok (.getfield 35, 3) := by decide +kernel
theorem dX5_whyNoRequest_35 : decode cX5_whyNoRequest 35 = .ok (.iload_n 1, 1) := by decide +kernel
theorem dX5_whyNoRequest_36 : decode cX5_whyNoRequest 36 = .ok (.iconst 3, 1) := by decide +kernel
theorem dX5_whyNoRequest_37 : decode cX5_whyNoRequest 37 = .ok (.invokevirtual 93, 3) := by decide +kernel
theorem dX5_whyNoRequest_40 : decode cX5_whyNoRequest 40 = .ok (.aload_n 0, 1) := by decide +kernel
theorem dX5_whyNoRequest_41 : decode cX5_whyNoRequest 41 = .ok (.getfield 28, 3) := by decide +kernel
theorem dX5_whyNoRequest_44 : decode cX5_whyNoRequest 44 = .ok (.iload_n 2, 1) := by decide +kernel
theorem dX5_whyNoRequest_45 : decode cX5_whyNoRequest 45 = .ok (.iconst 1, 1) := by decide +kernel
theorem dX5_whyNoRequest_46 : decode cX5_whyNoRequest 46 = .ok (.invokevirtual 112, 3) := by decide +kernel
theorem dX5_whyNoRequest_49 : decode cX5_whyNoRequest 49 = .ok (.if_icmp .eq 5, 3) := by decide +kernel
theorem dX5_whyNoRequest_52 : decode cX5_whyNoRequest 52 = .ok (.iconst 3, 1) := by decide +kernel
theorem dX5_whyNoRequest_53 : decode cX5_whyNoRequest 53 = .ok (.ireturn, 1) := by decide +kernel
theorem dX5_whyNoRequest_54 : decode cX5_whyNoRequest 54 = .ok (.aload_n 0, 1) := by decide +kernel
theorem dX5_whyNoRequest_55 : decode cX5_whyNoRequest 55 = .ok (.iload_n 1, 1) := by decide +kernel
theorem dX5_whyNoRequest_56 : decode cX5_whyNoRequest 56 = .ok (.invokevirtual 108, 3) := by decide +kernel
theorem dX5_whyNoRequest_59 : decode cX5_whyNoRequest 59 = .ok (.ifCond .eq 5, 3) := by decide +kernel
theorem dX5_whyNoRequest_62 : decode cX5_whyNoRequest 62 = .ok (.iconst 4, 1) := by decide +kernel
theorem dX5_whyNoRequest_63 : decode cX5_whyNoRequest 63 = .ok (.ireturn, 1) := by decide +kernel
theorem dX5_whyNoRequest_64 : decode cX5_whyNoRequest 64 = .ok (.aload_n 0, 1) := by decide +kernel
theorem dX5_whyNoRequest_65 : decode cX5_whyNoRequest 65 = .ok (.getfield 35, 3) := by decide +kernel
theorem dX5_whyNoRequest_68 : decode cX5_whyNoRequest 68 = .ok (.invokevirtual 97, 3) := by decide +kernel
theorem dX5_whyNoRequest_71 : decode cX5_whyNoRequest 71 = .ok (.ifCond .eq 7, 3) := by decide +kernel
theorem dX5_whyNoRequest_74 : decode cX5_whyNoRequest 74 = .ok (.iconst 5, 1) := by decide +kernel
theorem dX5_whyNoRequest_75 : decode cX5_whyNoRequest 75 = .ok (.goto 4, 3) := by decide +kernel
theorem dX5_whyNoRequest_78 : decode cX5_whyNoRequest 78 = .ok (.iconst 0, 1) := by decide +kernel
theorem dX5_whyNoRequest_79 : decode cX5_whyNoRequest 79 = .ok (.ireturn, 1) := by decide +kernel
theorem dX5_whyNoRenewal_0 : decode cX5_whyNoRenewal 0 = .ok (.aload_n 0, 1) := by decide +kernel
theorem dX5_whyNoRenewal_1 : decode cX5_whyNoRenewal 1 = .ok (.getfield 35, 3) := by decide +kernel
theorem dX5_whyNoRenewal_4 : decode cX5_whyNoRenewal 4 = .ok (.iload_n 1, 1) := by decide +kernel
theorem dX5_whyNoRenewal_5 : decode cX5_whyNoRenewal 5 = .ok (.invokevirtual 113, 3) := by decide +kernel
theorem dX5_whyNoRenewal_8 : decode cX5_whyNoRenewal 8 = .ok (.ifCond .ne 5, 3) := by decide +kernel
theorem dX5_whyNoRenewal_11 : decode cX5_whyNoRenewal 11 = .ok (.iconst 1, 1) := by decide +kernel
theorem dX5_whyNoRenewal_12 : decode cX5_whyNoRenewal 12 = .ok (.ireturn, 1) := by decide +kernel
theorem dX5_whyNoRenewal_13 : decode cX5_whyNoRenewal 13 = .ok (.aload_n 0, 1) := by decide +kernel
theorem dX5_whyNoRenewal_14 : decode cX5_whyNoRenewal 14 = .ok (.getfield 35, 3) := by decide +kernel
theorem dX5_whyNoRenewal_17 : decode cX5_whyNoRenewal 17 = .ok (.iload_n 1, 1) := by decide +kernel
theorem dX5_whyNoRenewal_18 : decode cX5_whyNoRenewal 18 = .ok (.aload_n 0, 1) := by decide +kernel
theorem dX5_whyNoRenewal_19 : decode cX5_whyNoRenewal 19 = .ok (.getfield 53, 3) := by decide +kernel
theorem dX5_whyNoRenewal_22 : decode cX5_whyNoRenewal 22 = .ok (.invokevirtual 101, 3) := by decide +kernel
theorem dX5_whyNoRenewal_25 : decode cX5_whyNoRenewal 25 = .ok (.ifCond .ne 5, 3) := by decide +kernel
theorem dX5_whyNoRenewal_28 : decode cX5_whyNoRenewal 28 = .ok (.iconst 2, 1) := by decide +kernel
theorem dX5_whyNoRenewal_29 : decode cX5_whyNoRenewal 29 = .ok (.ireturn, 1) := by decide +kernel
theorem dX5_whyNoRenewal_30 : decode cX5_whyNoRenewal 30 = .ok (.aload_n 0, 1) := by decide +kernel
theorem dX5_whyNoRenewal_31 : decode cX5_whyNoRenewal 31 = .ok (.iload_n 1, 1) := by decide +kernel
theorem dX5_whyNoRenewal_32 : decode cX5_whyNoRenewal 32 = .ok (.invokevirtual 116, 3) := by decide +kernel
theorem dX5_whyNoRenewal_35 : decode cX5_whyNoRenewal 35 = .ok (.aload_n 0, 1) := by decide +kernel
theorem dX5_whyNoRenewal_36 : decode cX5_whyNoRenewal 36 = .ok (.getfield 35, 3) := by decide +kernel
theorem dX5_whyNoRenewal_39 : decode cX5_whyNoRenewal 39 = .ok (.iload_n 1, 1) := by decide +kernel
theorem dX5_whyNoRenewal_40 : decode cX5_whyNoRenewal 40 = .ok (.bipush 6, 2) := by decide +kernel
theorem dX5_whyNoRenewal_42 : decode cX5_whyNoRenewal 42 = .ok (.invokevirtual 93, 3) := by decide +kernel
theorem dX5_whyNoRenewal_45 : decode cX5_whyNoRenewal 45 = .ok (.if_icmp .le 7, 3) := by decide +kernel
theorem dX5_whyNoRenewal_48 : decode cX5_whyNoRenewal 48 = .ok (.iconst 0, 1) := by decide +kernel
theorem dX5_whyNoRenewal_49 : decode cX5_whyNoRenewal 49 = .ok (.goto 4, 3) := by decide +kernel
theorem dX5_whyNoRenewal_52 : decode cX5_whyNoRenewal 52 = .ok (.iconst 3, 1) := by decide +kernel
theorem dX5_whyNoRenewal_53 : decode cX5_whyNoRenewal 53 = .ok (.ireturn, 1) := by decide +kernel
theorem dX5_whyNoCheese_0 : decode cX5_whyNoCheese 0 = .ok (.aload_n 0, 1) := by decide +kernel
theorem dX5_whyNoCheese_1 : decode cX5_whyNoCheese 1 = .ok (.getfield 53, 3) := by decide +kernel
theorem dX5_whyNoCheese_4 : decode cX5_whyNoCheese 4 = .ok (.iload_n 2, 1) := by decide +kernel
theorem dX5_whyNoCheese_5 : decode cX5_whyNoCheese 5 = .ok (.iadd, 1) := by decide +kernel
theorem dX5_whyNoCheese_6 : decode cX5_whyNoCheese 6 = .ok (.istore_n 3, 1) := by decide +kernel
theorem dX5_whyNoCheese_7 : decode cX5_whyNoCheese 7 = .ok (.aload_n 0, 1) := by decide +kernel
theorem dX5_whyNoCheese_8 : decode cX5_whyNoCheese 8 = .ok (.getfield 35, 3) := by decide +kernel
theorem dX5_whyNoCheese_11 : decode cX5_whyNoCheese 11 = .ok (.iload_n 1, 1) := by decide +kernel
theorem dX5_whyNoCheese_12 : decode cX5_whyNoCheese 12 = .ok (.iconst 2, 1) := by decide +kernel
theorem dX5_whyNoCheese_13 : decode cX5_whyNoCheese 13 = .ok (.invokevirtual 93, 3) := by decide +kernel
theorem dX5_whyNoCheese_16 : decode cX5_whyNoCheese 16 = .ok (.istore 4, 2) := by decide +kernel
theorem dX5_whyNoCheese_18 : decode cX5_whyNoCheese 18 = .ok (.aload_n 0, 1) := by decide +kernel
theorem dX5_whyNoCheese_19 : decode cX5_whyNoCheese 19 = .ok (.getfield 35, 3) := by decide +kernel
theorem dX5_whyNoCheese_22 : decode cX5_whyNoCheese 22 = .ok (.iload_n 1, 1) := by decide +kernel
theorem dX5_whyNoCheese_23 : decode cX5_whyNoCheese 23 = .ok (.iconst 4, 1) := by decide +kernel
theorem dX5_whyNoCheese_24 : decode cX5_whyNoCheese 24 = .ok (.invokevirtual 93, 3) := by decide +kernel
theorem dX5_whyNoCheese_27 : decode cX5_whyNoCheese 27 = .ok (.istore 5, 2) := by decide +kernel
theorem dX5_whyNoCheese_29 : decode cX5_whyNoCheese 29 = .ok (.aload_n 0, 1) := by decide +kernel
theorem dX5_whyNoCheese_30 : decode cX5_whyNoCheese 30 = .ok (.getfield 35, 3) := by decide +kernel
theorem dX5_whyNoCheese_33 : decode cX5_whyNoCheese 33 = .ok (.iload_n 1, 1) := by decide +kernel
theorem dX5_whyNoCheese_34 : decode cX5_whyNoCheese 34 = .ok (.iconst 1, 1) := by decide +kernel
theorem dX5_whyNoCheese_35 : decode cX5_whyNoCheese 35 = .ok (.invokevirtual 93, 3) := by decide +kernel
theorem dX5_whyNoCheese_38 : decode cX5_whyNoCheese 38 = .ok (.iconst 1, 1) := by decide +kernel
theorem dX5_whyNoCheese_39 : decode cX5_whyNoCheese 39 = .ok (.if_icmp .eq 5, 3) := by decide +kernel
theorem dX5_whyNoCheese_42 : decode cX5_whyNoCheese 42 = .ok (.iconst 1, 1) := by decide +kernel
theorem dX5_whyNoCheese_43 : decode cX5_whyNoCheese 43 = .ok (.ireturn, 1) := by decide +kernel
theorem dX5_whyNoCheese_44 : decode cX5_whyNoCheese 44 = .ok (.aload_n 0, 1) := by decide +kernel
theorem dX5_whyNoCheese_45 : decode cX5_whyNoCheese 45 = .ok (.getfield 35, 3) := by decide +kernel
theorem dX5_whyNoCheese_48 : decode cX5_whyNoCheese 48 = .ok (.iload_n 1, 1) := by decide +kernel
theorem dX5_whyNoCheese_49 : decode cX5_whyNoCheese 49 = .ok (.iload_n 3, 1) := by decide +kernel
theorem dX5_whyNoCheese_50 : decode cX5_whyNoCheese 50 = .ok (.invokevirtual 101, 3) := by decide +kernel
theorem dX5_whyNoCheese_53 : decode cX5_whyNoCheese 53 = .ok (.ifCond .ne 5, 3) := by decide +kernel
theorem dX5_whyNoCheese_56 : decode cX5_whyNoCheese 56 = .ok (.iconst 2, 1) := by decide +kernel
theorem dX5_whyNoCheese_57 : decode cX5_whyNoCheese 57 = .ok (.ireturn, 1) := by decide +kernel
theorem dX5_whyNoCheese_58 : decode cX5_whyNoCheese 58 = .ok (.aload_n 0, 1) := by decide +kernel
theorem dX5_whyNoCheese_59 : decode cX5_whyNoCheese 59 = .ok (.iload_n 1, 1) := by decide +kernel
theorem dX5_whyNoCheese_60 : decode cX5_whyNoCheese 60 = .ok (.invokevirtual 108, 3) := by decide +kernel
theorem dX5_whyNoCheese_63 : decode cX5_whyNoCheese 63 = .ok (.ifCond .eq 5, 3) := by decide +kernel
theorem dX5_whyNoCheese_66 : decode cX5_whyNoCheese 66 = .ok (.iconst 3, 1) := by decide +kernel
theorem dX5_whyNoCheese_67 : decode cX5_whyNoCheese 67 = .ok (.ireturn, 1) := by decide +kernel
theorem dX5_whyNoCheese_68 : decode cX5_whyNoCheese 68 = .ok (.aload_n 0, 1) := by decide +kernel
theorem dX5_whyNoCheese_69 : decode cX5_whyNoCheese 69 = .ok (.getfield 42, 3) := by decide +kernel
theorem dX5_whyNoCheese_72 : decode cX5_whyNoCheese 72 = .ok (.iload 4, 2) := by decide +kernel
theorem dX5_whyNoCheese_74 : decode cX5_whyNoCheese 74 = .ok (.iload 5, 2) := by decide +kernel
theorem dX5_whyNoCheese_76 : decode cX5_whyNoCheese 76 = .ok (.iload_n 3, 1) := by decide +kernel
theorem dX5_whyNoCheese_77 : decode cX5_whyNoCheese 77 = .ok (.aload_n 0, 1) := by decide +kernel
theorem dX5_whyNoCheese_78 : decode cX5_whyNoCheese 78 = .ok (.getfield 21, 3) := by decide +kernel
theorem dX5_whyNoCheese_81 : decode cX5_whyNoCheese 81 = .ok (.iload 4, 2) := by decide +kernel
theorem dX5_whyNoCheese_83 : decode cX5_whyNoCheese 83 = .ok (.iconst 3, 1) := by decide +kernel
theorem dX5_whyNoCheese_84 : decode cX5_whyNoCheese 84 = .ok (.invokevirtual 83, 3) := by decide +kernel
theorem dX5_whyNoCheese_87 : decode cX5_whyNoCheese 87 = .ok (.iadd, 1) := by decide +kernel
theorem dX5_whyNoCheese_88 : decode cX5_whyNoCheese 88 = .ok (.iload_n 3, 1) := by decide +kernel
theorem dX5_whyNoCheese_89 : decode cX5_whyNoCheese 89 = .ok (.aload_n 0, 1) := by decide +kernel
theorem dX5_whyNoCheese_90 : decode cX5_whyNoCheese 90 = .ok (.getfield 57, 3) := by decide +kernel
theorem dX5_whyNoCheese_93 : decode cX5_whyNoCheese 93 = .ok (.isub, 1) := by decide +kernel
theorem dX5_whyNoCheese_94 : decode cX5_whyNoCheese 94 = .ok (.invokevirtual 119, 3) := by decide +kernel
theorem dX5_whyNoCheese_97 : decode cX5_whyNoCheese 97 = .ok (.ifCond .eq 5, 3) := by decide +kernel
theorem dX5_whyNoCheese_100 : decode cX5_whyNoCheese 100 = .ok (.iconst 4, 1) := by decide +kernel
theorem dX5_whyNoCheese_101 : decode cX5_whyNoCheese 101 = .ok (.ireturn, 1) := by decide +kernel
theorem dX5_whyNoCheese_102 : decode cX5_whyNoCheese 102 = .ok (.aload_n 0, 1) := by decide +kernel
theorem dX5_whyNoCheese_103 : decode cX5_whyNoCheese 103 = .ok (.getfield 28, 3) := by decide +kernel
theorem dX5_whyNoCheese_106 : decode cX5_whyNoCheese 106 = .ok (.iload 5, 2) := by decide +kernel
theorem dX5_whyNoCheese_108 : decode cX5_whyNoCheese 108 = .ok (.iconst 2, 1) := by decide +kernel
theorem dX5_whyNoCheese_109 : decode cX5_whyNoCheese 109 = .ok (.invokevirtual 112, 3) := by decide +kernel
theorem dX5_whyNoCheese_112 : decode cX5_whyNoCheese 112 = .ok (.ifCond .ne 7, 3) := by decide +kernel
theorem dX5_whyNoCheese_115 : decode cX5_whyNoCheese 115 = .ok (.iconst 5, 1) := by decide +kernel
theorem dX5_whyNoCheese_116 : decode cX5_whyNoCheese 116 = .ok (.goto 4, 3) := by decide +kernel
theorem dX5_whyNoCheese_119 : decode cX5_whyNoCheese 119 = .ok (.iconst 0, 1) := by decide +kernel
theorem dX5_whyNoCheese_120 : decode cX5_whyNoCheese 120 = .ok (.ireturn, 1) := by decide +kernel
theorem dX5_makeLogin_0 : decode cX5_makeLogin 0 = .ok (.aload_n 0, 1) := by decide +kernel
theorem dX5_makeLogin_1 : decode cX5_makeLogin 1 = .ok (.iload_n 1, 1) := by decide +kernel
theorem dX5_makeLogin_2 : decode cX5_makeLogin 2 = .ok (.aload_n 0, 1) := by decide +kernel
theorem dX5_makeLogin_3 : decode cX5_makeLogin 3 = .ok (.getfield 21, 3) := by decide +kernel
theorem dX5_makeLogin_6 : decode cX5_makeLogin 6 = .ok (.iload_n 1, 1) := by decide +kernel
theorem dX5_makeLogin_7 : decode cX5_makeLogin 7 = .ok (.iconst 1, 1) := by decide +kernel
theorem dX5_makeLogin_8 : decode cX5_makeLogin 8 = .ok (.invokevirtual 83, 3) := by decide +kernel
theorem dX5_makeLogin_11 : decode cX5_makeLogin 11 = .ok (.iconst (-1), 1) := by decide +kernel
theorem dX5_makeLogin_12 : decode cX5_makeLogin 12 = .ok (.invokevirtual 123, 3) := by decide +kernel
theorem dX5_makeLogin_15 : decode cX5_makeLogin 15 = .ok (.istore_n 3, 1) := by decide +kernel
theorem dX5_makeLogin_16 : decode cX5_makeLogin 16 = .ok (.aload_n 0, 1) := by decide +kernel
theorem dX5_makeLogin_17 : decode cX5_makeLogin 17 = .ok (.iload_n 3, 1) := by decide +kernel
theorem dX5_makeLogin_18 : decode cX5_makeLogin 18 = .ok (.iload_n 2, 1) := by decide +kernel
theorem dX5_makeLogin_19 : decode cX5_makeLogin 19 = .ok (.ldc 127, 2) := by decide +kernel
theorem dX5_makeLogin_21 : decode cX5_makeLogin 21 = .ok (.ldc 127, 2) := by decide +kernel
theorem dX5_makeLogin_23 : decode cX5_makeLogin 23 = .ok (.invokevirtual 128, 3) := by decide +kernel
theorem dX5_makeLogin_26 : decode cX5_makeLogin 26 = .ok (.aload_n 0, 1) := by decide +kernel
theorem dX5_makeLogin_27 : decode cX5_makeLogin 27 = .ok (.getfield 35, 3) := by decide +kernel
theorem dX5_makeLogin_30 : decode cX5_makeLogin 30 = .ok (.iload_n 3, 1) := by decide +kernel
theorem dX5_makeLogin_31 : decode cX5_makeLogin 31 = .ok (.iconst 0, 1) := by decide +kernel
theorem dX5_makeLogin_32 : decode cX5_makeLogin 32 = .ok (.invokevirtual 93, 3) := by decide +kernel
theorem dX5_makeLogin_35 : decode cX5_makeLogin 35 = .ok (.ireturn, 1) := by decide +kernel
theorem dX5_makeReferral_0 : decode cX5_makeReferral 0 = .ok (.aload_n 0, 1) := by decide +kernel
theorem dX5_makeReferral_1 : decode cX5_makeReferral 1 = .ok (.aload_n 0, 1) := by decide +kernel
theorem dX5_makeReferral_2 : decode cX5_makeReferral 2 = .ok (.getfield 35, 3) := by decide +kernel
theorem dX5_makeReferral_5 : decode cX5_makeReferral 5 = .ok (.iload_n 1, 1) := by decide +kernel
theorem dX5_makeReferral_6 : decode cX5_makeReferral 6 = .ok (.iconst 2, 1) := by decide +kernel
theorem dX5_makeReferral_7 : decode cX5_makeReferral 7 = .ok (.invokevirtual 93, 3) := by decide +kernel
theorem dX5_makeReferral_10 : decode cX5_makeReferral 10 = .ok (.iload_n 2, 1) := by decide +kernel
theorem dX5_makeReferral_11 : decode cX5_makeReferral 11 = .ok (.iconst (-1), 1) := by decide +kernel
theorem dX5_makeReferral_12 : decode cX5_makeReferral 12 = .ok (.invokevirtual 123, 3) := by decide +kernel
theorem dX5_makeReferral_15 : decode cX5_makeReferral 15 = .ok (.istore_n 3, 1) := by decide +kernel
theorem dX5_makeReferral_16 : decode cX5_makeReferral 16 = .ok (.aload_n 0, 1) := by decide +kernel
theorem dX5_makeReferral_17 : decode cX5_makeReferral 17 = .ok (.iload_n 3, 1) := by decide +kernel
theorem dX5_makeReferral_18 : decode cX5_makeReferral 18 = .ok (.iload_n 1, 1) := by decide +kernel
theorem dX5_makeReferral_19 : decode cX5_makeReferral 19 = .ok (.invokevirtual 132, 3) := by decide +kernel
theorem dX5_makeReferral_22 : decode cX5_makeReferral 22 = .ok (.aload_n 0, 1) := by decide +kernel
theorem dX5_makeReferral_23 : decode cX5_makeReferral 23 = .ok (.getfield 35, 3) := by decide +kernel
theorem dX5_makeReferral_26 : decode cX5_makeReferral 26 = .ok (.iload_n 3, 1) := by decide +kernel
theorem dX5_makeReferral_27 : decode cX5_makeReferral 27 = .ok (.iconst 0, 1) := by decide +kernel
theorem dX5_makeReferral_28 : decode cX5_makeReferral 28 = .ok (.invokevirtual 93, 3) := by decide +kernel
theorem dX5_makeReferral_31 : decode cX5_makeReferral 31 = .ok (.ireturn, 1) := by decide +kernel
theorem dX5_makeRequest_0 : decode cX5_makeRequest 0 = .ok (.aload_n 0, 1) := by decide +kernel
theorem dX5_makeRequest_1 : decode cX5_makeRequest 1 = .ok (.getfield 35, 3) := by decide +kernel
theorem dX5_makeRequest_4 : decode cX5_makeRequest 4 = .ok (.iload_n 1, 1) := by decide +kernel
theorem dX5_makeRequest_5 : decode cX5_makeRequest 5 = .ok (.iconst 3, 1) := by decide +kernel
theorem dX5_makeRequest_6 : decode cX5_makeRequest 6 = .ok (.invokevirtual 93, 3) := by decide +kernel
theorem dX5_makeRequest_9 : decode cX5_makeRequest 9 = .ok (.istore_n 3, 1) := by decide +kernel
theorem dX5_makeRequest_10 : decode cX5_makeRequest 10 = .ok (.aload_n 0, 1) := by decide +kernel
theorem dX5_makeRequest_11 : decode cX5_makeRequest 11 = .ok (.aload_n 0, 1) := by decide +kernel
theorem dX5_makeRequest_12 : decode cX5_makeRequest 12 = .ok (.getfield 35, 3) := by decide +kernel
theorem dX5_makeRequest_15 : decode cX5_makeRequest 15 = .ok (.iload_n 1, 1) := by decide +kernel
theorem dX5_makeRequest_16 : decode cX5_makeRequest 16 = .ok (.iconst 2, 1) := by decide +kernel
theorem dX5_makeRequest_17 : decode cX5_makeRequest 17 = .ok (.invokevirtual 93, 3) := by decide +kernel
theorem dX5_makeRequest_20 : decode cX5_makeRequest 20 = .ok (.iload_n 3, 1) := by decide +kernel
theorem dX5_makeRequest_21 : decode cX5_makeRequest 21 = .ok (.iload_n 2, 1) := by decide +kernel
theorem dX5_makeRequest_22 : decode cX5_makeRequest 22 = .ok (.invokevirtual 123, 3) := by decide +kernel
theorem dX5_makeRequest_25 : decode cX5_makeRequest 25 = .ok (.istore 4, 2) := by decide +kernel
theorem dX5_makeRequest_27 : decode cX5_makeRequest 27 = .ok (.aload_n 0, 1) := by decide +kernel
theorem dX5_makeRequest_28 : decode cX5_makeRequest 28 = .ok (.iload 4, 2) := by decide +kernel
theorem dX5_makeRequest_30 : decode cX5_makeRequest 30 = .ok (.iload_n 1, 1) := by decide +kernel
theorem dX5_makeRequest_31 : decode cX5_makeRequest 31 = .ok (.invokevirtual 132, 3) := by decide +kernel
theorem dX5_makeRequest_34 : decode cX5_makeRequest 34 = .ok (.aload_n 0, 1) := by decide +kernel
theorem dX5_makeRequest_35 : decode cX5_makeRequest 35 = .ok (.getfield 35, 3) := by decide +kernel
theorem dX5_makeRequest_38 : decode cX5_makeRequest 38 = .ok (.iload 4, 2) := by decide +kernel
theorem dX5_makeRequest_40 : decode cX5_makeRequest 40 = .ok (.iconst 0, 1) := by decide +kernel
theorem dX5_makeRequest_41 : decode cX5_makeRequest 41 = .ok (.invokevirtual 93, 3) := by decide +kernel
theorem dX5_makeRequest_44 : decode cX5_makeRequest 44 = .ok (.ireturn, 1) := by decide +kernel
theorem dX5_makeRenewal_0 : decode cX5_makeRenewal 0 = .ok (.aload_n 0, 1) := by decide +kernel
theorem dX5_makeRenewal_1 : decode cX5_makeRenewal 1 = .ok (.iload_n 1, 1) := by decide +kernel
theorem dX5_makeRenewal_2 : decode cX5_makeRenewal 2 = .ok (.invokevirtual 116, 3) := by decide +kernel
theorem dX5_makeRenewal_5 : decode cX5_makeRenewal 5 = .ok (.istore_n 2, 1) := by decide +kernel
theorem dX5_makeRenewal_6 : decode cX5_makeRenewal 6 = .ok (.aload_n 0, 1) := by decide +kernel
theorem dX5_makeRenewal_7 : decode cX5_makeRenewal 7 = .ok (.getfield 35, 3) := by decide +kernel
theorem dX5_makeRenewal_10 : decode cX5_makeRenewal 10 = .ok (.iload_n 1, 1) := by decide +kernel
theorem dX5_makeRenewal_11 : decode cX5_makeRenewal 11 = .ok (.bipush 6, 2) := by decide +kernel
theorem dX5_makeRenewal_13 : decode cX5_makeRenewal 13 = .ok (.iload_n 2, 1) := by decide +kernel
theorem dX5_makeRenewal_14 : decode cX5_makeRenewal 14 = .ok (.invokevirtual 136, 3) := by decide +kernel
theorem dX5_makeRenewal_17 : decode cX5_makeRenewal 17 = .ok (.aload_n 0, 1) := by decide +kernel
theorem dX5_makeRenewal_18 : decode cX5_makeRenewal 18 = .ok (.getfield 35, 3) := by decide +kernel
theorem dX5_makeRenewal_21 : decode cX5_makeRenewal 21 = .ok (.iload_n 1, 1) := by decide +kernel
theorem dX5_makeRenewal_22 : decode cX5_makeRenewal 22 = .ok (.bipush 8, 2) := by decide +kernel
theorem dX5_makeRenewal_24 : decode cX5_makeRenewal 24 = .ok (.aload_n 0, 1) := by decide +kernel
theorem dX5_makeRenewal_25 : decode cX5_makeRenewal 25 = .ok (.invokevirtual 140, 3) := by decide +kernel
theorem dX5_makeRenewal_28 : decode cX5_makeRenewal 28 = .ok (.invokevirtual 136, 3) := by decide +kernel
theorem dX5_makeRenewal_31 : decode cX5_makeRenewal 31 = .ok (.iload_n 2, 1) := by decide +kernel
theorem dX5_makeRenewal_32 : decode cX5_makeRenewal 32 = .ok (.ireturn, 1) := by decide +kernel
theorem dX5_giveCheese_0 : decode cX5_giveCheese 0 = .ok (.aload_n 0, 1) := by decide +kernel
theorem dX5_giveCheese_1 : decode cX5_giveCheese 1 = .ok (.getfield 35, 3) := by decide +kernel
theorem dX5_giveCheese_4 : decode cX5_giveCheese 4 = .ok (.iload_n 1, 1) := by decide +kernel
theorem dX5_giveCheese_5 : decode cX5_giveCheese 5 = .ok (.iconst 2, 1) := by decide +kernel
theorem dX5_giveCheese_6 : decode cX5_giveCheese 6 = .ok (.invokevirtual 93, 3) := by decide +kernel
theorem dX5_giveCheese_9 : decode cX5_giveCheese 9 = .ok (.istore_n 2, 1) := by decide +kernel
theorem dX5_giveCheese_10 : decode cX5_giveCheese 10 = .ok (.aload_n 0, 1) := by decide +kernel
theorem dX5_giveCheese_11 : decode cX5_giveCheese 11 = .ok (.getfield 35, 3) := by decide +kernel
theorem dX5_giveCheese_14 : decode cX5_giveCheese 14 = .ok (.iload_n 1, 1) := by decide +kernel
theorem dX5_giveCheese_15 : decode cX5_giveCheese 15 = .ok (.iconst 4, 1) := by decide +kernel
theorem dX5_giveCheese_16 : decode cX5_giveCheese 16 = .ok (.invokevirtual 93, 3) := by decide +kernel
theorem dX5_giveCheese_19 : decode cX5_giveCheese 19 = .ok (.istore_n 3, 1) := by decide +kernel
theorem dX5_giveCheese_20 : decode cX5_giveCheese 20 = .ok (.aload_n 0, 1) := by decide +kernel
theorem dX5_giveCheese_21 : decode cX5_giveCheese 21 = .ok (.getfield 21, 3) := by decide +kernel
theorem dX5_giveCheese_24 : decode cX5_giveCheese 24 = .ok (.iload_n 2, 1) := by decide +kernel
theorem dX5_giveCheese_25 : decode cX5_giveCheese 25 = .ok (.iconst 4, 1) := by decide +kernel
theorem dX5_giveCheese_26 : decode cX5_giveCheese 26 = .ok (.invokevirtual 83, 3) := by decide +kernel
theorem dX5_giveCheese_29 : decode cX5_giveCheese 29 = .ok (.iconst 1, 1) := by decide +kernel
theorem dX5_giveCheese_30 : decode cX5_giveCheese 30 = .ok (.iadd, 1) := by decide +kernel
theorem dX5_giveCheese_31 : decode cX5_giveCheese 31 = .ok (.istore 4, 2) := by decide +kernel
theorem dX5_giveCheese_33 : decode cX5_giveCheese 33 = .ok (.aload_n 0, 1) := by decide +kernel
theorem dX5_giveCheese_34 : decode cX5_giveCheese 34 = .ok (.getfield 42, 3) := by decide +kernel
theorem dX5_giveCheese_37 : decode cX5_giveCheese 37 = .ok (.iload_n 2, 1) := by decide +kernel
theorem dX5_giveCheese_38 : decode cX5_giveCheese 38 = .ok (.iload_n 3, 1) := by decide +kernel
theorem dX5_giveCheese_39 : decode cX5_giveCheese 39 = .ok (.aload_n 0, 1) := by decide +kernel
theorem dX5_giveCheese_40 : decode cX5_giveCheese 40 = .ok (.getfield 53, 3) := by decide +kernel
theorem dX5_giveCheese_43 : decode cX5_giveCheese 43 = .ok (.aload_n 0, 1) := by decide +kernel
theorem dX5_giveCheese_44 : decode cX5_giveCheese 44 = .ok (.getfield 21, 3) := by decide +kernel
theorem dX5_giveCheese_47 : decode cX5_giveCheese 47 = .ok (.iload_n 2, 1) := by decide +kernel
theorem dX5_giveCheese_48 : decode cX5_giveCheese 48 = .ok (.iconst 3, 1) := by decide +kernel
theorem dX5_giveCheese_49 : decode cX5_giveCheese 49 = .ok (.invokevirtual 83, 3) := by decide +kernel
theorem dX5_giveCheese_52 : decode cX5_giveCheese 52 = .ok (.iadd, 1) := by decide +kernel
theorem dX5_giveCheese_53 : decode cX5_giveCheese 53 = .ok (.aload_n 0, 1) := by decide +kernel
theorem dX5_giveCheese_54 : decode cX5_giveCheese 54 = .ok (.getfield 53, 3) := by decide +kernel
theorem dX5_giveCheese_57 : decode cX5_giveCheese 57 = .ok (.invokevirtual 144, 3) := by decide +kernel
theorem dX5_giveCheese_60 : decode cX5_giveCheese 60 = .ok (.aload_n 0, 1) := by decide +kernel
theorem dX5_giveCheese_61 : decode cX5_giveCheese 61 = .ok (.getfield 28, 3) := by decide +kernel
theorem dX5_giveCheese_64 : decode cX5_giveCheese 64 = .ok (.iload_n 3, 1) := by decide +kernel
theorem dX5_giveCheese_65 : decode cX5_giveCheese 65 = .ok (.iconst 2, 1) := by decide +kernel
theorem dX5_giveCheese_66 : decode cX5_giveCheese 66 = .ok (.aload_n 0, 1) := by decide +kernel
theorem dX5_giveCheese_67 : decode cX5_giveCheese 67 = .ok (.getfield 28, 3) := by decide +kernel
theorem dX5_giveCheese_70 : decode cX5_giveCheese 70 = .ok (.iload_n 3, 1) := by decide +kernel
theorem dX5_giveCheese_71 : decode cX5_giveCheese 71 = .ok (.iconst 2, 1) := by decide +kernel
theorem dX5_giveCheese_72 : decode cX5_giveCheese 72 = .ok (.invokevirtual 112, 3) := by decide +kernel
theorem dX5_giveCheese_75 : decode cX5_giveCheese 75 = .ok (.iconst 1, 1) := by decide +kernel
theorem dX5_giveCheese_76 : decode cX5_giveCheese 76 = .ok (.isub, 1) := by decide +kernel
theorem dX5_giveCheese_77 : decode cX5_giveCheese 77 = .ok (.invokevirtual 148, 3) := by decide +kernel
theorem dX5_giveCheese_80 : decode cX5_giveCheese 80 = .ok (.aload_n 0, 1) := by decide +kernel
theorem dX5_giveCheese_81 : decode cX5_giveCheese 81 = .ok (.getfield 21, 3) := by decide +kernel
theorem dX5_giveCheese_84 : decode cX5_giveCheese 84 = .ok (.iload_n 2, 1) := by decide +kernel
theorem dX5_giveCheese_85 : decode cX5_giveCheese 85 = .ok (.iconst 4, 1) := by decide +kernel
theorem dX5_giveCheese_86 : decode cX5_giveCheese 86 = .ok (.iload 4, 2) := by decide +kernel
theorem dX5_giveCheese_88 : decode cX5_giveCheese 88 = .ok (.invokevirtual 149, 3) := by decide +kernel
theorem dX5_giveCheese_91 : decode cX5_giveCheese 91 = .ok (.iload 4, 2) := by decide +kernel
theorem dX5_giveCheese_93 : decode cX5_giveCheese 93 = .ok (.ireturn, 1) := by decide +kernel
theorem dX5_letPass_0 : decode cX5_letPass 0 = .ok (.aload_n 0, 1) := by decide +kernel
theorem dX5_letPass_1 : decode cX5_letPass 1 = .ok (.dup, 1) := by decide +kernel
theorem dX5_letPass_2 : decode cX5_letPass 2 = .ok (.getfield 53, 3) := by decide +kernel
theorem dX5_letPass_5 : decode cX5_letPass 5 = .ok (.iload_n 1, 1) := by decide +kernel
theorem dX5_letPass_6 : decode cX5_letPass 6 = .ok (.iadd, 1) := by decide +kernel
theorem dX5_letPass_7 : decode cX5_letPass 7 = .ok (.putfield 53, 3) := by decide +kernel
theorem dX5_letPass_10 : decode cX5_letPass 10 = .ok (.aload_n 0, 1) := by decide +kernel
theorem dX5_letPass_11 : decode cX5_letPass 11 = .ok (.getfield 42, 3) := by decide +kernel
theorem dX5_letPass_14 : decode cX5_letPass 14 = .ok (.aload_n 0, 1) := by decide +kernel
theorem dX5_letPass_15 : decode cX5_letPass 15 = .ok (.getfield 53, 3) := by decide +kernel
theorem dX5_letPass_18 : decode cX5_letPass 18 = .ok (.aload_n 0, 1) := by decide +kernel
theorem dX5_letPass_19 : decode cX5_letPass 19 = .ok (.getfield 57, 3) := by decide +kernel
theorem dX5_letPass_22 : decode cX5_letPass 22 = .ok (.isub, 1) := by decide +kernel
theorem dX5_letPass_23 : decode cX5_letPass 23 = .ok (.invokevirtual 150, 3) := by decide +kernel
theorem dX5_letPass_26 : decode cX5_letPass 26 = .ok (.return_, 1) := by decide +kernel
theorem dX5_renewedEnd_0 : decode cX5_renewedEnd 0 = .ok (.aload_n 0, 1) := by decide +kernel
theorem dX5_renewedEnd_1 : decode cX5_renewedEnd 1 = .ok (.getfield 35, 3) := by decide +kernel
theorem dX5_renewedEnd_4 : decode cX5_renewedEnd 4 = .ok (.iload_n 1, 1) := by decide +kernel
theorem dX5_renewedEnd_5 : decode cX5_renewedEnd 5 = .ok (.iconst 3, 1) := by decide +kernel
theorem dX5_renewedEnd_6 : decode cX5_renewedEnd 6 = .ok (.invokevirtual 93, 3) := by decide +kernel
theorem dX5_renewedEnd_9 : decode cX5_renewedEnd 9 = .ok (.istore_n 2, 1) := by decide +kernel
theorem dX5_renewedEnd_10 : decode cX5_renewedEnd 10 = .ok (.aload_n 0, 1) := by decide +kernel
theorem dX5_renewedEnd_11 : decode cX5_renewedEnd 11 = .ok (.getfield 53, 3) := by decide +kernel
theorem dX5_renewedEnd_14 : decode cX5_renewedEnd 14 = .ok (.aload_n 0, 1) := by decide +kernel
theorem dX5_renewedEnd_15 : decode cX5_renewedEnd 15 = .ok (.getfield 12, 3) := by decide +kernel
theorem dX5_renewedEnd_18 : decode cX5_renewedEnd 18 = .ok (.iload_n 2, 1) := by decide +kernel
theorem dX5_renewedEnd_19 : decode cX5_renewedEnd 19 = .ok (.iconst 1, 1) := by decide +kernel
theorem dX5_renewedEnd_20 : decode cX5_renewedEnd 20 = .ok (.invokevirtual 86, 3) := by decide +kernel
theorem dX5_renewedEnd_23 : decode cX5_renewedEnd 23 = .ok (.iadd, 1) := by decide +kernel
theorem dX5_renewedEnd_24 : decode cX5_renewedEnd 24 = .ok (.istore_n 3, 1) := by decide +kernel
theorem dX5_renewedEnd_25 : decode cX5_renewedEnd 25 = .ok (.iload_n 3, 1) := by decide +kernel
theorem dX5_renewedEnd_26 : decode cX5_renewedEnd 26 = .ok (.aload_n 0, 1) := by decide +kernel
theorem dX5_renewedEnd_27 : decode cX5_renewedEnd 27 = .ok (.getfield 35, 3) := by decide +kernel
theorem dX5_renewedEnd_30 : decode cX5_renewedEnd 30 = .ok (.iload_n 1, 1) := by decide +kernel
theorem dX5_renewedEnd_31 : decode cX5_renewedEnd 31 = .ok (.bipush 7, 2) := by decide +kernel
theorem dX5_renewedEnd_33 : decode cX5_renewedEnd 33 = .ok (.invokevirtual 93, 3) := by decide +kernel
theorem dX5_renewedEnd_36 : decode cX5_renewedEnd 36 = .ok (.invokestatic 154, 3) := by decide +kernel
theorem dX5_renewedEnd_39 : decode cX5_renewedEnd 39 = .ok (.ireturn, 1) := by decide +kernel
theorem dX5_drawKey_0 : decode cX5_drawKey 0 = .ok (.aload_n 0, 1) := by decide +kernel
theorem dX5_drawKey_1 : decode cX5_drawKey 1 = .ok (.bipush 21, 2) := by decide +kernel
theorem dX5_drawKey_3 : decode cX5_drawKey 3 = .ok (.aload_n 0, 1) := by decide +kernel
theorem dX5_drawKey_4 : decode cX5_drawKey 4 = .ok (.getfield 60, 3) := by decide +kernel
theorem dX5_drawKey_7 : decode cX5_drawKey 7 = .ok (.imul, 1) := by decide +kernel
theorem dX5_drawKey_8 : decode cX5_drawKey 8 = .ok (.bipush 7, 2) := by decide +kernel
theorem dX5_drawKey_10 : decode cX5_drawKey 10 = .ok (.iadd, 1) := by decide +kernel
theorem dX5_drawKey_11 : decode cX5_drawKey 11 = .ok (.sipush 1024, 3) := by decide +kernel
theorem dX5_drawKey_14 : decode cX5_drawKey 14 = .ok (.irem, 1) := by decide +kernel
theorem dX5_drawKey_15 : decode cX5_drawKey 15 = .ok (.putfield 60, 3) := by decide +kernel
theorem dX5_drawKey_18 : decode cX5_drawKey 18 = .ok (.aload_n 0, 1) := by decide +kernel
theorem dX5_drawKey_19 : decode cX5_drawKey 19 = .ok (.getfield 60, 3) := by decide +kernel
theorem dX5_drawKey_22 : decode cX5_drawKey 22 = .ok (.ireturn, 1) := by decide +kernel
theorem dX5_makeTicket_0 : decode cX5_makeTicket 0 = .ok (.aload_n 0, 1) := by decide +kernel
theorem dX5_makeTicket_1 : decode cX5_makeTicket 1 = .ok (.getfield 35, 3) := by decide +kernel
theorem dX5_makeTicket_4 : decode cX5_makeTicket 4 = .ok (.invokevirtual 157, 3) := by decide +kernel
theorem dX5_makeTicket_7 : decode cX5_makeTicket 7 = .ok (.istore 4, 2) := by decide +kernel
theorem dX5_makeTicket_9 : decode cX5_makeTicket 9 = .ok (.aload_n 0, 1) := by decide +kernel
theorem dX5_makeTicket_10 : decode cX5_makeTicket 10 = .ok (.getfield 35, 3) := by decide +kernel
theorem dX5_makeTicket_13 : decode cX5_makeTicket 13 = .ok (.iload 4, 2) := by decide +kernel
theorem dX5_makeTicket_15 : decode cX5_makeTicket 15 = .ok (.iconst 0, 1) := by decide +kernel
theorem dX5_makeTicket_16 : decode cX5_makeTicket 16 = .ok (.aload_n 0, 1) := by decide +kernel
theorem dX5_makeTicket_17 : decode cX5_makeTicket 17 = .ok (.getfield 63, 3) := by decide +kernel
theorem dX5_makeTicket_20 : decode cX5_makeTicket 20 = .ok (.invokevirtual 136, 3) := by decide +kernel
theorem dX5_makeTicket_23 : decode cX5_makeTicket 23 = .ok (.aload_n 0, 1) := by decide +kernel
theorem dX5_makeTicket_24 : decode cX5_makeTicket 24 = .ok (.getfield 35, 3) := by decide +kernel
theorem dX5_makeTicket_27 : decode cX5_makeTicket 27 = .ok (.iload 4, 2) := by decide +kernel
theorem dX5_makeTicket_29 : decode cX5_makeTicket 29 = .ok (.iconst 1, 1) := by decide +kernel
theorem dX5_makeTicket_30 : decode cX5_makeTicket 30 = .ok (.iload_n 3, 1) := by decide +kernel
theorem dX5_makeTicket_31 : decode cX5_makeTicket 31 = .ok (.iconst (-1), 1) := by decide +kernel
theorem dX5_makeTicket_32 : decode cX5_makeTicket 32 = .ok (.if_icmp .ne 7, 3) := by decide +kernel
theorem dX5_makeTicket_35 : decode cX5_makeTicket 35 = .ok (.iconst 0, 1) := by decide +kernel
theorem dX5_makeTicket_36 : decode cX5_makeTicket 36 = .ok (.goto 4, 3) := by decide +kernel
theorem dX5_makeTicket_39 : decode cX5_makeTicket 39 = .ok (.iconst 1, 1) := by decide +kernel
theorem dX5_makeTicket_40 : decode cX5_makeTicket 40 = .ok (.invokevirtual 136, 3) := by decide +kernel
theorem dX5_makeTicket_43 : decode cX5_makeTicket 43 = .ok (.aload_n 0, 1) := by decide +kernel
theorem dX5_makeTicket_44 : decode cX5_makeTicket 44 = .ok (.getfield 35, 3) := by decide +kernel
theorem dX5_makeTicket_47 : decode cX5_makeTicket 47 = .ok (.iload 4, 2) := by decide +kernel
theorem dX5_makeTicket_49 : decode cX5_makeTicket 49 = .ok (.iconst 2, 1) := by decide +kernel
theorem dX5_makeTicket_50 : decode cX5_makeTicket 50 = .ok (.iload_n 1, 1) := by decide +kernel
theorem dX5_makeTicket_51 : decode cX5_makeTicket 51 = .ok (.invokevirtual 136, 3) := by decide +kernel
theorem dX5_makeTicket_54 : decode cX5_makeTicket 54 = .ok (.aload_n 0, 1) := by decide +kernel
theorem dX5_makeTicket_55 : decode cX5_makeTicket 55 = .ok (.getfield 35, 3) := by decide +kernel
theorem dX5_makeTicket_58 : decode cX5_makeTicket 58 = .ok (.iload 4, 2) := by decide +kernel
theorem dX5_makeTicket_60 : decode cX5_makeTicket 60 = .ok (.iconst 3, 1) := by decide +kernel
theorem dX5_makeTicket_61 : decode cX5_makeTicket 61 = .ok (.iload_n 2, 1) := by decide +kernel
theorem dX5_makeTicket_62 : decode cX5_makeTicket 62 = .ok (.invokevirtual 136, 3) := by decide +kernel
theorem dX5_makeTicket_65 : decode cX5_makeTicket 65 = .ok (.aload_n 0, 1) := by decide +kernel
theorem dX5_makeTicket_66 : decode cX5_makeTicket 66 = .ok (.getfield 35, 3) := by decide +kernel
theorem dX5_makeTicket_69 : decode cX5_makeTicket 69 = .ok (.iload 4, 2) := by decide +kernel
theorem dX5_makeTicket_71 : decode cX5_makeTicket 71 = .ok (.iconst 4, 1) := by decide +kernel
theorem dX5_makeTicket_72 : decode cX5_makeTicket 72 = .ok (.iload_n 3, 1) := by decide +kernel
theorem dX5_makeTicket_73 : decode cX5_makeTicket 73 = .ok (.invokevirtual 136, 3) := by decide +kernel
theorem dX5_makeTicket_76 : decode cX5_makeTicket 76 = .ok (.aload_n 0, 1) := by decide +kernel
theorem dX5_makeTicket_77 : decode cX5_makeTicket 77 = .ok (.getfield 35, 3) := by decide +kernel
theorem dX5_makeTicket_80 : decode cX5_makeTicket 80 = .ok (.iload 4, 2) := by decide +kernel
theorem dX5_makeTicket_82 : decode cX5_makeTicket 82 = .ok (.iconst 5, 1) := by decide +kernel
theorem dX5_makeTicket_83 : decode cX5_makeTicket 83 = .ok (.aload_n 0, 1) := by decide +kernel
theorem dX5_makeTicket_84 : decode cX5_makeTicket 84 = .ok (.getfield 53, 3) := by decide +kernel
theorem dX5_makeTicket_87 : decode cX5_makeTicket 87 = .ok (.invokevirtual 136, 3) := by decide +kernel
theorem dX5_makeTicket_90 : decode cX5_makeTicket 90 = .ok (.aload_n 0, 1) := by decide +kernel
theorem dX5_makeTicket_91 : decode cX5_makeTicket 91 = .ok (.getfield 35, 3) := by decide +kernel
theorem dX5_makeTicket_94 : decode cX5_makeTicket 94 = .ok (.iload 4, 2) := by decide +kernel
theorem dX5_makeTicket_96 : decode cX5_makeTicket 96 = .ok (.bipush 8, 2) := by decide +kernel
theorem dX5_makeTicket_98 : decode cX5_makeTicket 98 = .ok (.aload_n 0, 1) := by decide +kernel
theorem dX5_makeTicket_99 : decode cX5_makeTicket 99 = .ok (.invokevirtual 140, 3) := by decide +kernel
theorem dX5_makeTicket_102 : decode cX5_makeTicket 102 = .ok (.invokevirtual 136, 3) := by decide +kernel
theorem dX5_makeTicket_105 : decode cX5_makeTicket 105 = .ok (.aload_n 0, 1) := by decide +kernel
theorem dX5_makeTicket_106 : decode cX5_makeTicket 106 = .ok (.dup, 1) := by decide +kernel
theorem dX5_makeTicket_107 : decode cX5_makeTicket 107 = .ok (.getfield 63, 3) := by decide +kernel
theorem dX5_makeTicket_110 : decode cX5_makeTicket 110 = .ok (.iconst 1, 1) := by decide +kernel
theorem dX5_makeTicket_111 : decode cX5_makeTicket 111 = .ok (.iadd, 1) := by decide +kernel
theorem dX5_makeTicket_112 : decode cX5_makeTicket 112 = .ok (.putfield 63, 3) := by decide +kernel
theorem dX5_makeTicket_115 : decode cX5_makeTicket 115 = .ok (.iload 4, 2) := by decide +kernel
theorem dX5_makeTicket_117 : decode cX5_makeTicket 117 = .ok (.ireturn, 1) := by decide +kernel
theorem dX5_inheritLife_0 : decode cX5_inheritLife 0 = .ok (.aload_n 0, 1) := by decide +kernel
theorem dX5_inheritLife_1 : decode cX5_inheritLife 1 = .ok (.getfield 35, 3) := by decide +kernel
theorem dX5_inheritLife_4 : decode cX5_inheritLife 4 = .ok (.iload_n 2, 1) := by decide +kernel
theorem dX5_inheritLife_5 : decode cX5_inheritLife 5 = .ok (.bipush 6, 2) := by decide +kernel
theorem dX5_inheritLife_7 : decode cX5_inheritLife 7 = .ok (.invokevirtual 93, 3) := by decide +kernel
theorem dX5_inheritLife_10 : decode cX5_inheritLife 10 = .ok (.istore_n 3, 1) := by decide +kernel
theorem dX5_inheritLife_11 : decode cX5_inheritLife 11 = .ok (.aload_n 0, 1) := by decide +kernel
theorem dX5_inheritLife_12 : decode cX5_inheritLife 12 = .ok (.iload_n 1, 1) := by decide +kernel
theorem dX5_inheritLife_13 : decode cX5_inheritLife 13 = .ok (.aload_n 0, 1) := by decide +kernel
theorem dX5_inheritLife_14 : decode cX5_inheritLife 14 = .ok (.getfield 35, 3) := by decide +kernel
theorem dX5_inheritLife_17 : decode cX5_inheritLife 17 = .ok (.iload_n 2, 1) := by decide +kernel
theorem dX5_inheritLife_18 : decode cX5_inheritLife 18 = .ok (.invokevirtual 113, 3) := by decide +kernel
theorem dX5_inheritLife_21 : decode cX5_inheritLife 21 = .ok (.iload_n 3, 1) := by decide +kernel
theorem dX5_inheritLife_22 : decode cX5_inheritLife 22 = .ok (.aload_n 0, 1) := by decide +kernel
theorem dX5_inheritLife_23 : decode cX5_inheritLife 23 = .ok (.getfield 35, 3) := by decide +kernel
theorem dX5_inheritLife_26 : decode cX5_inheritLife 26 = .ok (.iload_n 2, 1) := by decide +kernel
theorem dX5_inheritLife_27 : decode cX5_inheritLife 27 = .ok (.bipush 7, 2) := by decide +kernel
theorem dX5_inheritLife_29 : decode cX5_inheritLife 29 = .ok (.invokevirtual 93, 3) := by decide +kernel
theorem dX5_inheritLife_32 : decode cX5_inheritLife 32 = .ok (.invokevirtual 128, 3) := by decide +kernel
theorem dX5_inheritLife_35 : decode cX5_inheritLife 35 = .ok (.return_, 1) := by decide +kernel
theorem dX5_setLife_0 : decode cX5_setLife 0 = .ok (.aload_n 0, 1) := by decide +kernel
theorem dX5_setLife_1 : decode cX5_setLife 1 = .ok (.getfield 35, 3) := by decide +kernel
theorem dX5_setLife_4 : decode cX5_setLife 4 = .ok (.iload_n 1, 1) := by decide +kernel
theorem dX5_setLife_5 : decode cX5_setLife 5 = .ok (.iconst 3, 1) := by decide +kernel
theorem dX5_setLife_6 : decode cX5_setLife 6 = .ok (.invokevirtual 93, 3) := by decide +kernel
theorem dX5_setLife_9 : decode cX5_setLife 9 = .ok (.istore 5, 2) := by decide +kernel
theorem dX5_setLife_11 : decode cX5_setLife 11 = .ok (.aload_n 0, 1) := by decide +kernel
theorem dX5_setLife_12 : decode cX5_setLife 12 = .ok (.getfield 53, 3) := by decide +kernel
theorem dX5_setLife_15 : decode cX5_setLife 15 = .ok (.aload_n 0, 1) := by decide +kernel
theorem dX5_setLife_16 : decode cX5_setLife 16 = .ok (.getfield 12, 3) := by decide +kernel
theorem dX5_setLife_19 : decode cX5_setLife 19 = .ok (.iload 5, 2) := by decide +kernel
theorem dX5_setLife_21 : decode cX5_setLife 21 = .ok (.iconst 1, 1) := by decide +kernel
theorem dX5_setLife_22 : decode cX5_setLife 22 = .ok (.invokevirtual 86, 3) := by decide +kernel
theorem dX5_setLife_25 : decode cX5_setLife 25 = .ok (.iadd, 1) := by decide +kernel
theorem dX5_setLife_26 : decode cX5_setLife 26 = .ok (.iload_n 3, 1) := by decide +kernel
theorem dX5_setLife_27 : decode cX5_setLife 27 = .ok (.invokestatic 154, 3) := by decide +kernel
theorem dX5_setLife_30 : decode cX5_setLife 30 = .ok (.istore 6, 2) := by decide +kernel
theorem dX5_setLife_32 : decode cX5_setLife 32 = .ok (.aload_n 0, 1) := by decide +kernel
theorem dX5_setLife_33 : decode cX5_setLife 33 = .ok (.getfield 53, 3) := by decide +kernel
theorem dX5_setLife_36 : decode cX5_setLife 36 = .ok (.aload_n 0, 1) := by decide +kernel
theorem dX5_setLife_37 : decode cX5_setLife 37 = .ok (.getfield 12, 3) := by decide +kernel
theorem dX5_setLife_40 : decode cX5_setLife 40 = .ok (.iload 5, 2) := by decide +kernel
theorem dX5_setLife_42 : decode cX5_setLife 42 = .ok (.iconst 2, 1) := by decide +kernel
theorem dX5_setLife_43 : decode cX5_setLife 43 = .ok (.invokevirtual 86, 3) := by decide +kernel
theorem dX5_setLife_46 : decode cX5_setLife 46 = .ok (.iadd, 1) := by decide +kernel
theorem dX5_setLife_47 : decode cX5_setLife 47 = .ok (.iload 4, 2) := by decide +kernel
theorem dX5_setLife_49 : decode cX5_setLife 49 = .ok (.invokestatic 154, 3) := by decide +kernel
theorem dX5_setLife_52 : decode cX5_setLife 52 = .ok (.istore 7, 2) := by decide +kernel
theorem dX5_setLife_54 : decode cX5_setLife 54 = .ok (.aload_n 0, 1) := by decide +kernel
theorem dX5_setLife_55 : decode cX5_setLife 55 = .ok (.getfield 35, 3) := by decide +kernel
theorem dX5_setLife_58 : decode cX5_setLife 58 = .ok (.iload_n 1, 1) := by decide +kernel
theorem dX5_setLife_59 : decode cX5_setLife 59 = .ok (.bipush 6, 2) := by decide +kernel
theorem dX5_setLife_61 : decode cX5_setLife 61 = .ok (.iload 6, 2) := by decide +kernel
theorem dX5_setLife_63 : decode cX5_setLife 63 = .ok (.invokevirtual 136, 3) := by decide +kernel
theorem dX5_setLife_66 : decode cX5_setLife 66 = .ok (.aload_n 0, 1) := by decide +kernel
theorem dX5_setLife_67 : decode cX5_setLife 67 = .ok (.getfield 35, 3) := by decide +kernel
theorem dX5_setLife_70 : decode cX5_setLife 70 = .ok (.iload_n 1, 1) := by decide +kernel
theorem dX5_setLife_71 : decode cX5_setLife 71 = .ok (.bipush 7, 2) := by decide +kernel
theorem dX5_setLife_73 : decode cX5_setLife 73 = .ok (.iload_n 2, 1) := by decide +kernel
theorem dX5_setLife_74 : decode cX5_setLife 74 = .ok (.ifCond .eq 13, 3) := by decide +kernel
theorem dX5_setLife_77 : decode cX5_setLife 77 = .ok (.iload 6, 2) := by decide +kernel
theorem dX5_setLife_79 : decode cX5_setLife 79 = .ok (.iload 7, 2) := by decide +kernel
theorem dX5_setLife_81 : decode cX5_setLife 81 = .ok (.invokestatic 160, 3) := by decide +kernel
theorem dX5_setLife_84 : decode cX5_setLife 84 = .ok (.goto 5, 3) := by decide +kernel
theorem dX5_setLife_87 : decode cX5_setLife 87 = .ok (.iload 6, 2) := by decide +kernel
theorem dX5_setLife_89 : decode cX5_setLife 89 = .ok (.invokevirtual 136, 3) := by decide +kernel
theorem dX5_setLife_92 : decode cX5_setLife 92 = .ok (.aload_n 0, 1) := by decide +kernel
theorem dX5_setLife_93 : decode cX5_setLife 93 = .ok (.getfield 35, 3) := by decide +kernel
theorem dX5_setLife_96 : decode cX5_setLife 96 = .ok (.iload_n 1, 1) := by decide +kernel
theorem dX5_setLife_97 : decode cX5_setLife 97 = .ok (.bipush 9, 2) := by decide +kernel
theorem dX5_setLife_99 : decode cX5_setLife 99 = .ok (.iload_n 2, 1) := by decide +kernel
theorem dX5_setLife_100 : decode cX5_setLife 100 = .ok (.ifCond .eq 7, 3) := by decide +kernel
theorem dX5_setLife_103 : decode cX5_setLife 103 = .ok (.iconst 1, 1) := by decide +kernel
theorem dX5_setLife_104 : decode cX5_setLife 104 = .ok (.goto 4, 3) := by decide +kernel
theorem dX5_setLife_107 : decode cX5_setLife 107 = .ok (.iconst 0, 1) := by decide +kernel
theorem dX5_setLife_108 : decode cX5_setLife 108 = .ok (.invokevirtual 136, 3) := by decide +kernel
theorem dX5_setLife_111 : decode cX5_setLife 111 = .ok (.return_, 1) := by decide +kernel
theorem dX6_init_0 : decode cX6_init 0 = .ok (.aload_n 0, 1) := by decide +kernel
theorem dX6_init_1 : decode cX6_init 1 = .ok (.invokespecial 3, 3) := by decide +kernel
theorem dX6_init_4 : decode cX6_init 4 = .ok (.aload_n 0, 1) := by decide +kernel
theorem dX6_init_5 : decode cX6_init 5 = .ok (.iload_n 1, 1) := by decide +kernel
theorem dX6_init_6 : decode cX6_init 6 = .ok (.putfield 9, 3) := by decide +kernel
theorem dX6_init_9 : decode cX6_init 9 = .ok (.aload_n 0, 1) := by decide +kernel
theorem dX6_init_10 : decode cX6_init 10 = .ok (.iload_n 2, 1) := by decide +kernel
theorem dX6_init_11 : decode cX6_init 11 = .ok (.putfield 15, 3) := by decide +kernel
theorem dX6_init_14 : decode cX6_init 14 = .ok (.aload_n 0, 1) := by decide +kernel
theorem dX6_init_15 : decode cX6_init 15 = .ok (.iconst 0, 1) := by decide +kernel
theorem dX6_init_16 : decode cX6_init 16 = .ok (.iload_n 1, 1) := by decide +kernel
theorem dX6_init_17 : decode cX6_init 17 = .ok (.iload_n 2, 1) := by decide +kernel
theorem dX6_init_18 : decode cX6_init 18 = .ok (.imul, 1) := by decide +kernel
theorem dX6_init_19 : decode cX6_init 19 = .ok (.invokestatic 18, 3) := by decide +kernel
theorem dX6_init_22 : decode cX6_init 22 = .ok (.newarray .int, 2) := by decide +kernel
theorem dX6_init_24 : decode cX6_init 24 = .ok (.putfield 24, 3) := by decide +kernel
theorem dX6_init_27 : decode cX6_init 27 = .ok (.return_, 1) := by decide +kernel
theorem dX6_size_0 : decode cX6_size 0 = .ok (.aload_n 0, 1) := by decide +kernel
theorem dX6_size_1 : decode cX6_size 1 = .ok (.getfield 28, 3) := by decide +kernel
theorem dX6_size_4 : decode cX6_size 4 = .ok (.ireturn, 1) := by decide +kernel
theorem dX6_isFull_0 : decode cX6_isFull 0 = .ok (.aload_n 0, 1) := by decide +kernel
theorem dX6_isFull_1 : decode cX6_isFull 1 = .ok (.getfield 28, 3) := by decide +kernel
theorem dX6_isFull_4 : decode cX6_isFull 4 = .ok (.aload_n 0, 1) := by decide +kernel
theorem dX6_isFull_5 : decode cX6_isFull 5 = .ok (.getfield 9, 3) := by decide +kernel
theorem dX6_isFull_8 : decode cX6_isFull 8 = .ok (.if_icmp .lt 7, 3) := by decide +kernel
theorem dX6_isFull_11 : decode cX6_isFull 11 = .ok (.iconst 1, 1) := by decide +kernel
theorem dX6_isFull_12 : decode cX6_isFull 12 = .ok (.goto 4, 3) := by decide +kernel
theorem dX6_isFull_15 : decode cX6_isFull 15 = .ok (.iconst 0, 1) := by decide +kernel
theorem dX6_isFull_16 : decode cX6_isFull 16 = .ok (.ireturn, 1) := by decide +kernel
theorem dX6_has_0 : decode cX6_has 0 = .ok (.iload_n 1, 1) := by decide +kernel
theorem dX6_has_1 : decode cX6_has 1 = .ok (.ifCond .lt 15, 3) := by decide +kernel
theorem dX6_has_4 : decode cX6_has 4 = .ok (.iload_n 1, 1) := by decide +kernel
theorem dX6_has_5 : decode cX6_has 5 = .ok (.aload_n 0, 1) := by decide +kernel
theorem dX6_has_6 : decode cX6_has 6 = .ok (.getfield 28, 3) := by decide +kernel
theorem dX6_has_9 : decode cX6_has 9 = .ok (.if_icmp .ge 7, 3) := by decide +kernel
theorem dX6_has_12 : decode cX6_has 12 = .ok (.iconst 1, 1) := by decide +kernel
theorem dX6_has_13 : decode cX6_has 13 = .ok (.goto 4, 3) := by decide +kernel
theorem dX6_has_16 : decode cX6_has 16 = .ok (.iconst 0, 1) := by decide +kernel
theorem dX6_has_17 : decode cX6_has 17 = .ok (.ireturn, 1) := by decide +kernel
theorem dX6_get_0 : decode cX6_get 0 = .ok (.iload_n 1, 1) := by decide +kernel
theorem dX6_get_1 : decode cX6_get 1 = .ok (.aload_n 0, 1) := by decide +kernel
theorem dX6_get_2 : decode cX6_get 2 = .ok (.getfield 15, 3) := by decide +kernel
theorem dX6_get_5 : decode cX6_get 5 = .ok (.imul, 1) := by decide +kernel
theorem dX6_get_6 : decode cX6_get 6 = .ok (.iload_n 2, 1) := by decide +kernel
theorem dX6_get_7 : decode cX6_get 7 = .ok (.iadd, 1) := by decide +kernel
theorem dX6_get_8 : decode cX6_get 8 = .ok (.istore_n 3, 1) := by decide +kernel
theorem dX6_get_9 : decode cX6_get 9 = .ok (.iload_n 1, 1) := by decide +kernel
theorem dX6_get_10 : decode cX6_get 10 = .ok (.ifCond .lt 28, 3) := by decide +kernel
theorem dX6_get_13 : decode cX6_get 13 = .ok (.iload_n 1, 1) := by decide +kernel
theorem dX6_get_14 : decode cX6_get 14 = .ok (.aload_n 0, 1) := by decide +kernel
theorem dX6_get_15 : decode cX6_get 15 = .ok (.getfield 28, 3) := by decide +kernel
theorem dX6_get_18 : decode cX6_get 18 = .ok (.if_icmp .ge 20, 3) := by decide +kernel
theorem dX6_get_21 : decode cX6_get 21 = .ok (.iload_n 3, 1) := by decide +kernel
theorem dX6_get_22 : decode cX6_get 22 = .ok (.ifCond .lt 16, 3) := by decide +kernel
theorem dX6_get_25 : decode cX6_get 25 = .ok (.iload_n 3, 1) := by decide +kernel
theorem dX6_get_26 : decode cX6_get 26 = .ok (.aload_n 0, 1) := by decide +kernel
theorem dX6_get_27 : decode cX6_get 27 = .ok (.getfield 24, 3) := by decide +kernel
theorem dX6_get_30 : decode cX6_get 30 = .ok (.arraylength, 1) := by decide +kernel
theorem dX6_get_31 : decode cX6_get 31 = .ok (.if_icmp .ge 7, 3) := by decide +kernel
theorem dX6_get_34 : decode cX6_get 34 = .ok (.iconst 1, 1) := by decide +kernel
theorem dX6_get_35 : decode cX6_get 35 = .ok (.goto 4, 3) := by decide +kernel
theorem dX6_get_38 : decode cX6_get 38 = .ok (.iconst 0, 1) := by decide +kernel
theorem dX6_get_39 : decode cX6_get 39 = .ok (.istore 4, 2) := by decide +kernel
theorem dX6_get_41 : decode cX6_get 41 = .ok (.iload 4, 2) := by decide +kernel
theorem dX6_get_43 : decode cX6_get 43 = .ok (.ifCond .eq 12, 3) := by decide +kernel
theorem dX6_get_46 : decode cX6_get 46 = .ok (.aload_n 0, 1) := by decide +kernel
theorem dX6_get_47 : decode cX6_get 47 = .ok (.getfield 24, 3) := by decide +kernel
theorem dX6_get_50 : decode cX6_get 50 = .ok (.iload_n 3, 1) := by decide +kernel
theorem dX6_get_51 : decode cX6_get 51 = .ok (.iaload, 1) := by decide +kernel
theorem dX6_get_52 : decode cX6_get 52 = .ok (.goto 4, 3) := by decide +kernel
theorem dX6_get_55 : decode cX6_get 55 = .ok (.iconst 0, 1) := by decide +kernel
theorem dX6_get_56 : decode cX6_get 56 = .ok (.ireturn, 1) := by decide +kernel
theorem dX6_set_0 : decode cX6_set 0 = .ok (.iload_n 1, 1) := by decide +kernel
theorem dX6_set_1 : decode cX6_set 1 = .ok (.aload_n 0, 1) := by decide +kernel
theorem dX6_set_2 : decode cX6_set 2 = .ok (.getfield 15, 3) := by decide +kernel
theorem dX6_set_5 : decode cX6_set 5 = .ok (.imul, 1) := by decide +kernel
theorem dX6_set_6 : decode cX6_set 6 = .ok (.iload_n 2, 1) := by decide +kernel
theorem dX6_set_7 : decode cX6_set 7 = .ok (.iadd, 1) := by decide +kernel
theorem dX6_set_8 : decode cX6_set 8 = .ok (.istore 4, 2) := by decide +kernel
theorem dX6_set_10 : decode cX6_set 10 = .ok (.iload_n 1, 1) := by decide +kernel
theorem dX6_set_11 : decode cX6_set 11 = .ok (.ifCond .lt 34, 3) := by decide +kernel
theorem dX6_set_14 : decode cX6_set 14 = .ok (.iload_n 1, 1) := by decide +kernel
theorem dX6_set_15 : decode cX6_set 15 = .ok (.aload_n 0, 1) := by decide +kernel
theorem dX6_set_16 : decode cX6_set 16 = .ok (.getfield 28, 3) := by decide +kernel
theorem dX6_set_19 : decode cX6_set 19 = .ok (.if_icmp .ge 26, 3) := by decide +kernel
theorem dX6_set_22 : decode cX6_set 22 = .ok (.iload 4, 2) := by decide +kernel
theorem dX6_set_24 : decode cX6_set 24 = .ok (.ifCond .lt 21, 3) := by decide +kernel
theorem dX6_set_27 : decode cX6_set 27 = .ok (.iload 4, 2) := by decide +kernel
theorem dX6_set_29 : decode cX6_set 29 = .ok (.aload_n 0, 1) := by decide +kernel
theorem dX6_set_30 : decode cX6_set 30 = .ok (.getfield 24, 3) := by decide +kernel
theorem dX6_set_33 : decode cX6_set 33 = .ok (.arraylength, 1) := by decide +kernel
theorem dX6_set_34 : decode cX6_set 34 = .ok (.if_icmp .ge 11, 3) := by decide +kernel
theorem dX6_set_37 : decode cX6_set 37 = .ok (.aload_n 0, 1) := by decide +kernel
theorem dX6_set_38 : decode cX6_set 38 = .ok (.getfield 24, 3) := by decide +kernel
theorem dX6_set_41 : decode cX6_set 41 = .ok (.iload 4, 2) := by decide +kernel
theorem dX6_set_43 : decode cX6_set 43 = .ok (.iload_n 3, 1) := by decide +kernel
theorem dX6_set_44 : decode cX6_set 44 = .ok (.iastore, 1) := by decide +kernel
theorem dX6_set_45 : decode cX6_set 45 = .ok (.return_, 1) := by decide +kernel
theorem dX6_addRow_0 : decode cX6_addRow 0 = .ok (.aload_n 0, 1) := by decide +kernel
theorem dX6_addRow_1 : decode cX6_addRow 1 = .ok (.getfield 28, 3) := by decide +kernel
theorem dX6_addRow_4 : decode cX6_addRow 4 = .ok (.aload_n 0, 1) := by decide +kernel
theorem dX6_addRow_5 : decode cX6_addRow 5 = .ok (.getfield 9, 3) := by decide +kernel
theorem dX6_addRow_8 : decode cX6_addRow 8 = .ok (.if_icmp .lt 5, 3) := by decide +kernel
theorem dX6_addRow_11 : decode cX6_addRow 11 = .ok (.iconst (-1), 1) := by decide +kernel
theorem dX6_addRow_12 : decode cX6_addRow 12 = .ok (.ireturn, 1) := by decide +kernel
theorem dX6_addRow_13 : decode cX6_addRow 13 = .ok (.aload_n 0, 1) := by decide +kernel
theorem dX6_addRow_14 : decode cX6_addRow 14 = .ok (.dup, 1) := by decide +kernel
theorem dX6_addRow_15 : decode cX6_addRow 15 = .ok (.getfield 28, 3) := by decide +kernel
theorem dX6_addRow_18 : decode cX6_addRow 18 = .ok (.iconst 1, 1) := by decide +kernel
theorem dX6_addRow_19 : decode cX6_addRow 19 = .ok (.iadd, 1) := by decide +kernel
theorem dX6_addRow_20 : decode cX6_addRow 20 = .ok (.putfield 28, 3) := by decide +kernel
theorem dX6_addRow_23 : decode cX6_addRow 23 = .ok (.aload_n 0, 1) := by decide +kernel
theorem dX6_addRow_24 : decode cX6_addRow 24 = .ok (.getfield 28, 3) := by decide +kernel
theorem dX6_addRow_27 : decode cX6_addRow 27 = .ok (.iconst 1, 1) := by decide +kernel
theorem dX6_addRow_28 : decode cX6_addRow 28 = .ok (.isub, 1) := by decide +kernel
theorem dX6_addRow_29 : decode cX6_addRow 29 = .ok (.ireturn, 1) := by decide +kernel
theorem dX6_removeRow_0 : decode cX6_removeRow 0 = .ok (.iload_n 1, 1) := by decide +kernel
theorem dX6_removeRow_1 : decode cX6_removeRow 1 = .ok (.ifCond .lt 11, 3) := by decide +kernel
theorem dX6_removeRow_4 : decode cX6_removeRow 4 = .ok (.iload_n 1, 1) := by decide +kernel
theorem dX6_removeRow_5 : decode cX6_removeRow 5 = .ok (.aload_n 0, 1) := by decide +kernel
theorem dX6_removeRow_6 : decode cX6_removeRow 6 = .ok (.getfield 28, 3) := by decide +kernel
theorem dX6_removeRow_9 : decode cX6_removeRow 9 = .ok (.if_icmp .lt 4, 3) := by decide +kernel
theorem dX6_removeRow_12 : decode cX6_removeRow 12 = .ok (.return_, 1) := by decide +kernel
theorem dX6_removeRow_13 : decode cX6_removeRow 13 = .ok (.iload_n 1, 1) := by decide +kernel
theorem dX6_removeRow_14 : decode cX6_removeRow 14 = .ok (.aload_n 0, 1) := by decide +kernel
theorem dX6_removeRow_15 : decode cX6_removeRow 15 = .ok (.getfield 15, 3) := by decide +kernel
theorem dX6_removeRow_18 : decode cX6_removeRow 18 = .ok (.imul, 1) := by decide +kernel
theorem dX6_removeRow_19 : decode cX6_removeRow 19 = .ok (.istore_n 2, 1) := by decide +kernel
theorem dX6_removeRow_20 : decode cX6_removeRow 20 = .ok (.iload_n 2, 1) := by decide +kernel
theorem dX6_removeRow_21 : decode cX6_removeRow 21 = .ok (.aload_n 0, 1) := by decide +kernel
theorem dX6_removeRow_22 : decode cX6_removeRow 22 = .ok (.getfield 28, 3) := by decide +kernel
theorem dX6_removeRow_25 : decode cX6_removeRow 25 = .ok (.iconst 1, 1) := by decide +kernel
theorem dX6_removeRow_26 : decode cX6_removeRow 26 = .ok (.isub, 1) := by decide +kernel
theorem dX6_removeRow_27 : decode cX6_removeRow 27 = .ok (.aload_n 0, 1) := by decide +kernel
theorem dX6_removeRow_28 : decode cX6_removeRow 28 = .ok (.getfield 15, 3) := by decide +kernel
theorem dX6_removeRow_31 : decode cX6_removeRow 31 = .ok (.imul, 1) := by decide +kernel
theorem dX6_removeRow_32 : decode cX6_removeRow 32 = .ok (.if_icmp .ge 54, 3) := by decide +kernel
theorem dX6_removeRow_35 : decode cX6_removeRow 35 = .ok (.iload_n 2, 1) := by decide +kernel
theorem dX6_removeRow_36 : decode cX6_removeRow 36 = .ok (.aload_n 0, 1) := by decide +kernel
theorem dX6_removeRow_37 : decode cX6_removeRow 37 = .ok (.getfield 15, 3) := by decide +kernel
theorem dX6_removeRow_40 : decode cX6_removeRow 40 = .ok (.iadd, 1) := by decide +kernel
theorem dX6_removeRow_41 : decode cX6_removeRow 41 = .ok (.istore_n 3, 1) := by decide +kernel
theorem dX6_removeRow_42 : decode cX6_removeRow 42 = .ok (.iload_n 2, 1) := by decide +kernel
theorem dX6_removeRow_43 : decode cX6_removeRow 43 = .ok (.ifCond .lt 37, 3) := by decide +kernel
theorem dX6_removeRow_46 : decode cX6_removeRow 46 = .ok (.iload_n 2, 1) := by decide +kernel
theorem dX6_removeRow_47 : decode cX6_removeRow 47 = .ok (.aload_n 0, 1) := by decide +kernel
theorem dX6_removeRow_48 : decode cX6_removeRow 48 = .ok (.getfield 24, 3) := by decide +kernel
theorem dX6_removeRow_51 : decode cX6_removeRow 51 = .ok (.arraylength, 1) := by decide +kernel
theorem dX6_removeRow_52 : decode cX6_removeRow 52 = .ok (.if_icmp .ge 28, 3) := by decide +kernel
theorem dX6_removeRow_55 : decode cX6_removeRow 55 = .ok (.iload_n 3, 1) := by decide +kernel
theorem dX6_removeRow_56 : decode cX6_removeRow 56 = .ok (.ifCond .lt 24, 3) := by decide +kernel
theorem dX6_removeRow_59 : decode cX6_removeRow 59 = .ok (.iload_n 3, 1) := by decide +kernel
theorem dX6_removeRow_60 : decode cX6_removeRow 60 = .ok (.aload_n 0, 1) := by decide +kernel
theorem dX6_removeRow_61 : decode cX6_removeRow 61 = .ok (.getfield 24, 3) := by decide +kernel
theorem dX6_removeRow_64 : decode cX6_removeRow 64 = .ok (.arraylength, 1) := by decide +kernel
theorem dX6_removeRow_65 : decode cX6_removeRow 65 = .ok (.if_icmp .ge 15, 3) := by decide +kernel
theorem dX6_removeRow_68 : decode cX6_removeRow 68 = .ok (.aload_n 0, 1) := by decide +kernel
theorem dX6_removeRow_69 : decode cX6_removeRow 69 = .ok (.getfield 24, 3) := by decide +kernel
theorem dX6_removeRow_72 : decode cX6_removeRow 72 = .ok (.iload_n 2, 1) := by decide +kernel
theorem dX6_removeRow_73 : decode cX6_removeRow 73 = .ok (.aload_n 0, 1) := by decide +kernel
theorem dX6_removeRow_74 : decode cX6_removeRow 74 = .ok (.getfield 24, 3) := by decide +kernel
theorem dX6_removeRow_77 : decode cX6_removeRow 77 = .ok (.iload_n 3, 1) := by decide +kernel
theorem dX6_removeRow_78 : decode cX6_removeRow 78 = .ok (.iaload, 1) := by decide +kernel
theorem dX6_removeRow_79 : decode cX6_removeRow 79 = .ok (.iastore, 1) := by decide +kernel
theorem dX6_removeRow_80 : decode cX6_removeRow 80 = .ok (.iinc 2 1, 3) := by decide +kernel
theorem dX6_removeRow_83 : decode cX6_removeRow 83 = .ok (.goto (-63), 3) := by decide +kernel
theorem dX6_removeRow_86 : decode cX6_removeRow 86 = .ok (.aload_n 0, 1) := by decide +kernel
theorem dX6_removeRow_87 : decode cX6_removeRow 87 = .ok (.dup, 1) := by decide +kernel
theorem dX6_removeRow_88 : decode cX6_removeRow 88 = .ok (.getfield 28, 3) := by decide +kernel
theorem dX6_removeRow_91 : decode cX6_removeRow 91 = .ok (.iconst 1, 1) := by decide +kernel
theorem dX6_removeRow_92 : decode cX6_removeRow 92 = .ok (.isub, 1) := by decide +kernel
theorem dX6_removeRow_93 : decode cX6_removeRow 93 = .ok (.putfield 28, 3) := by decide +kernel
theorem dX6_removeRow_96 : decode cX6_removeRow 96 = .ok (.return_, 1) := by decide +kernel
theorem dX6_removeAll_0 : decode cX6_removeAll 0 = .ok (.aload_n 0, 1) := by decide +kernel
theorem dX6_removeAll_1 : decode cX6_removeAll 1 = .ok (.iconst 0, 1) := by decide +kernel
theorem dX6_removeAll_2 : decode cX6_removeAll 2 = .ok (.putfield 28, 3) := by decide +kernel
theorem dX6_removeAll_5 : decode cX6_removeAll 5 = .ok (.return_, 1) := by decide +kernel
theorem dX6_rowWith_0 : decode cX6_rowWith 0 = .ok (.iconst 0, 1) := by decide +kernel
theorem dX6_rowWith_1 : decode cX6_rowWith 1 = .ok (.istore_n 3, 1) := by decide +kernel
theorem dX6_rowWith_2 : decode cX6_rowWith 2 = .ok (.iload_n 3, 1) := by decide +kernel
theorem dX6_rowWith_3 : decode cX6_rowWith 3 = .ok (.aload_n 0, 1) := by decide +kernel
theorem dX6_rowWith_4 : decode cX6_rowWith 4 = .ok (.getfield 28, 3) := by decide +kernel
theorem dX6_rowWith_7 : decode cX6_rowWith 7 = .ok (.if_icmp .ge 21, 3) := by decide +kernel
theorem dX6_rowWith_10 : decode cX6_rowWith 10 = .ok (.aload_n 0, 1) := by decide +kernel
theorem dX6_rowWith_11 : decode cX6_rowWith 11 = .ok (.iload_n 3, 1) := by decide +kernel
theorem dX6_rowWith_12 : decode cX6_rowWith 12 = .ok (.iload_n 1, 1) := by decide +kernel
theorem dX6_rowWith_13 : decode cX6_rowWith 13 = .ok (.invokevirtual 31, 3) := by decide +kernel
theorem dX6_rowWith_16 : decode cX6_rowWith 16 = .ok (.iload_n 2, 1) := by decide +kernel
theorem dX6_rowWith_17 : decode cX6_rowWith 17 = .ok (.if_icmp .ne 5, 3) := by decide +kernel
theorem dX6_rowWith_20 : decode cX6_rowWith 20 = .ok (.iload_n 3, 1) := by decide +kernel
theorem dX6_rowWith_21 : decode cX6_rowWith 21 = .ok (.ireturn, 1) := by decide +kernel
theorem dX6_rowWith_22 : decode cX6_rowWith 22 = .ok (.iinc 3 1, 3) := by decide +kernel
theorem dX6_rowWith_25 : decode cX6_rowWith 25 = .ok (.goto (-23), 3) := by decide +kernel
theorem dX6_rowWith_28 : decode cX6_rowWith 28 = .ok (.iconst (-1), 1) := by decide +kernel
theorem dX6_rowWith_29 : decode cX6_rowWith 29 = .ok (.ireturn, 1) := by decide +kernel
theorem dX6_sumOf_0 : decode cX6_sumOf 0 = .ok (.iconst 0, 1) := by decide +kernel
theorem dX6_sumOf_1 : decode cX6_sumOf 1 = .ok (.istore_n 2, 1) := by decide +kernel
theorem dX6_sumOf_2 : decode cX6_sumOf 2 = .ok (.iconst 0, 1) := by decide +kernel
theorem dX6_sumOf_3 : decode cX6_sumOf 3 = .ok (.istore_n 3, 1) := by decide +kernel
theorem dX6_sumOf_4 : decode cX6_sumOf 4 = .ok (.iload_n 3, 1) := by decide +kernel
theorem dX6_sumOf_5 : decode cX6_sumOf 5 = .ok (.aload_n 0, 1) := by decide +kernel
theorem dX6_sumOf_6 : decode cX6_sumOf 6 = .ok (.getfield 28, 3) := by decide +kernel
theorem dX6_sumOf_9 : decode cX6_sumOf 9 = .ok (.if_icmp .ge 18, 3) := by decide +kernel
theorem dX6_sumOf_12 : decode cX6_sumOf 12 = .ok (.iload_n 2, 1) := by decide +kernel
theorem dX6_sumOf_13 : decode cX6_sumOf 13 = .ok (.aload_n 0, 1) := by decide +kernel
theorem dX6_sumOf_14 : decode cX6_sumOf 14 = .ok (.iload_n 3, 1) := by decide +kernel
theorem dX6_sumOf_15 : decode cX6_sumOf 15 = .ok (.iload_n 1, 1) := by decide +kernel
theorem dX6_sumOf_16 : decode cX6_sumOf 16 = .ok (.invokevirtual 31, 3) := by decide +kernel
theorem dX6_sumOf_19 : decode cX6_sumOf 19 = .ok (.iadd, 1) := by decide +kernel
theorem dX6_sumOf_20 : decode cX6_sumOf 20 = .ok (.istore_n 2, 1) := by decide +kernel
theorem dX6_sumOf_21 : decode cX6_sumOf 21 = .ok (.iinc 3 1, 3) := by decide +kernel
theorem dX6_sumOf_24 : decode cX6_sumOf 24 = .ok (.goto (-20), 3) := by decide +kernel
theorem dX6_sumOf_27 : decode cX6_sumOf 27 = .ok (.iload_n 2, 1) := by decide +kernel
theorem dX6_sumOf_28 : decode cX6_sumOf 28 = .ok (.ireturn, 1) := by decide +kernel
theorem dX6_copyFrom_0 : decode cX6_copyFrom 0 = .ok (.aload_n 0, 1) := by decide +kernel
theorem dX6_copyFrom_1 : decode cX6_copyFrom 1 = .ok (.getfield 24, 3) := by decide +kernel
theorem dX6_copyFrom_4 : decode cX6_copyFrom 4 = .ok (.arraylength, 1) := by decide +kernel
theorem dX6_copyFrom_5 : decode cX6_copyFrom 5 = .ok (.aload_n 1, 1) := by decide +kernel
theorem dX6_copyFrom_6 : decode cX6_copyFrom 6 = .ok (.getfield 24, 3) := by decide +kernel
theorem dX6_copyFrom_9 : decode cX6_copyFrom 9 = .ok (.arraylength, 1) := by decide +kernel
theorem dX6_copyFrom_10 : decode cX6_copyFrom 10 = .ok (.invokestatic 34, 3) := by decide +kernel
theorem dX6_copyFrom_13 : decode cX6_copyFrom 13 = .ok (.istore_n 2, 1) := by decide +kernel
theorem dX6_copyFrom_14 : decode cX6_copyFrom 14 = .ok (.aload_n 1, 1) := by decide +kernel
theorem dX6_copyFrom_15 : decode cX6_copyFrom 15 = .ok (.getfield 24, 3) := by decide +kernel
theorem dX6_copyFrom_18 : decode cX6_copyFrom 18 = .ok (.iconst 0, 1) := by decide +kernel
theorem dX6_copyFrom_19 : decode cX6_copyFrom 19 = .ok (.aload_n 0, 1) := by decide +kernel
theorem dX6_copyFrom_20 : decode cX6_copyFrom 20 = .ok (.getfield 24, 3) := by decide +kernel
theorem dX6_copyFrom_23 : decode cX6_copyFrom 23 = .ok (.iconst 0, 1) := by decide +kernel
theorem dX6_copyFrom_24 : decode cX6_copyFrom 24 = .ok (.iload_n 2, 1) := by decide +kernel
theorem dX6_copyFrom_25 : decode cX6_copyFrom 25 = .ok (.invokestatic 37, 3) := by decide +kernel
theorem dX6_copyFrom_28 : decode cX6_copyFrom 28 = .ok (.aload_n 0, 1) := by decide +kernel
theorem dX6_copyFrom_29 : decode cX6_copyFrom 29 = .ok (.aload_n 1, 1) := by decide +kernel
theorem dX6_copyFrom_30 : decode cX6_copyFrom 30 = .ok (.getfield 28, 3) := by decide +kernel
theorem dX6_copyFrom_33 : decode cX6_copyFrom 33 = .ok (.putfield 28, 3) := by decide +kernel
theorem dX6_copyFrom_36 : decode cX6_copyFrom 36 = .ok (.return_, 1) := by decide +kernel
theorem dX7_init_0 : decode cX7_init 0 = .ok (.aload_n 0, 1) := by decide +kernel
theorem dX7_init_1 : decode cX7_init 1 = .ok (.bipush 24, 2) := by decide +kernel
theorem dX7_init_3 : decode cX7_init 3 = .ok (.bipush 10, 2) := by decide +kernel
theorem dX7_init_5 : decode cX7_init 5 = .ok (.invokespecial 5, 3) := by decide +kernel
theorem dX7_init_8 : decode cX7_init 8 = .ok (.return_, 1) := by decide +kernel
theorem dX7_canBeRenewed_0 : decode cX7_canBeRenewed 0 = .ok (.aload_n 0, 1) := by decide +kernel
theorem dX7_canBeRenewed_1 : decode cX7_canBeRenewed 1 = .ok (.iload_n 1, 1) := by decide +kernel
theorem dX7_canBeRenewed_2 : decode cX7_canBeRenewed 2 = .ok (.bipush 9, 2) := by decide +kernel
theorem dX7_canBeRenewed_4 : decode cX7_canBeRenewed 4 = .ok (.invokevirtual 11, 3) := by decide +kernel
theorem dX7_canBeRenewed_7 : decode cX7_canBeRenewed 7 = .ok (.iconst 1, 1) := by decide +kernel
theorem dX7_canBeRenewed_8 : decode cX7_canBeRenewed 8 = .ok (.if_icmp .ne 7, 3) := by decide +kernel
theorem dX7_canBeRenewed_11 : decode cX7_canBeRenewed 11 = .ok (.iconst 1, 1) := by decide +kernel
theorem dX7_canBeRenewed_12 : decode cX7_canBeRenewed 12 = .ok (.goto 4, 3) := by decide +kernel
theorem dX7_canBeRenewed_15 : decode cX7_canBeRenewed 15 = .ok (.iconst 0, 1) := by decide +kernel
theorem dX7_canBeRenewed_16 : decode cX7_canBeRenewed 16 = .ok (.ireturn, 1) := by decide +kernel
theorem dX7_isAlive_0 : decode cX7_isAlive 0 = .ok (.iload_n 2, 1) := by decide +kernel
theorem dX7_isAlive_1 : decode cX7_isAlive 1 = .ok (.aload_n 0, 1) := by decide +kernel
theorem dX7_isAlive_2 : decode cX7_isAlive 2 = .ok (.iload_n 1, 1) := by decide +kernel
theorem dX7_isAlive_3 : decode cX7_isAlive 3 = .ok (.bipush 6, 2) := by decide +kernel
theorem dX7_isAlive_5 : decode cX7_isAlive 5 = .ok (.invokevirtual 11, 3) := by decide +kernel
theorem dX7_isAlive_8 : decode cX7_isAlive 8 = .ok (.if_icmp .ge 7, 3) := by decide +kernel
theorem dX7_isAlive_11 : decode cX7_isAlive 11 = .ok (.iconst 1, 1) := by decide +kernel
theorem dX7_isAlive_12 : decode cX7_isAlive 12 = .ok (.goto 4, 3) := by decide +kernel
theorem dX7_isAlive_15 : decode cX7_isAlive 15 = .ok (.iconst 0, 1) := by decide +kernel
theorem dX7_isAlive_16 : decode cX7_isAlive 16 = .ok (.ireturn, 1) := by decide +kernel
theorem dX7_countAlive_0 : decode cX7_countAlive 0 = .ok (.iconst 0, 1) := by decide +kernel
theorem dX7_countAlive_1 : decode cX7_countAlive 1 = .ok (.istore_n 2, 1) := by decide +kernel
theorem dX7_countAlive_2 : decode cX7_countAlive 2 = .ok (.iconst 0, 1) := by decide +kernel
theorem dX7_countAlive_3 : decode cX7_countAlive 3 = .ok (.istore_n 3, 1) := by decide +kernel
theorem dX7_countAlive_4 : decode cX7_countAlive 4 = .ok (.iload_n 3, 1) := by decide +kernel
theorem dX7_countAlive_5 : decode cX7_countAlive 5 = .ok (.aload_n 0, 1) := by decide +kernel
theorem dX7_countAlive_6 : decode cX7_countAlive 6 = .ok (.invokevirtual 15, 3) := by decide +kernel
theorem dX7_countAlive_9 : decode cX7_countAlive 9 = .ok (.if_icmp .ge 26, 3) := by decide +kernel
theorem dX7_countAlive_12 : decode cX7_countAlive 12 = .ok (.iload_n 2, 1) := by decide +kernel
theorem dX7_countAlive_13 : decode cX7_countAlive 13 = .ok (.aload_n 0, 1) := by decide +kernel
theorem dX7_countAlive_14 : decode cX7_countAlive 14 = .ok (.iload_n 3, 1) := by decide +kernel
theorem dX7_countAlive_15 : decode cX7_countAlive 15 = .ok (.iload_n 1, 1) := by decide +kernel
theorem dX7_countAlive_16 : decode cX7_countAlive 16 = .ok (.invokevirtual 19, 3) := by decide +kernel
theorem dX7_countAlive_19 : decode cX7_countAlive 19 = .ok (.ifCond .eq 7, 3) := by decide +kernel
theorem dX7_countAlive_22 : decode cX7_countAlive 22 = .ok (.iconst 1, 1) := by decide +kernel
theorem dX7_countAlive_23 : decode cX7_countAlive 23 = .ok (.goto 4, 3) := by decide +kernel
theorem dX7_countAlive_26 : decode cX7_countAlive 26 = .ok (.iconst 0, 1) := by decide +kernel
theorem dX7_countAlive_27 : decode cX7_countAlive 27 = .ok (.iadd, 1) := by decide +kernel
theorem dX7_countAlive_28 : decode cX7_countAlive 28 = .ok (.istore_n 2, 1) := by decide +kernel
theorem dX7_countAlive_29 : decode cX7_countAlive 29 = .ok (.iinc 3 1, 3) := by decide +kernel
theorem dX7_countAlive_32 : decode cX7_countAlive 32 = .ok (.goto (-28), 3) := by decide +kernel
theorem dX7_countAlive_35 : decode cX7_countAlive 35 = .ok (.iload_n 2, 1) := by decide +kernel
theorem dX7_countAlive_36 : decode cX7_countAlive 36 = .ok (.ireturn, 1) := by decide +kernel
theorem dX7_countLifeErrors_0 : decode cX7_countLifeErrors 0 = .ok (.iconst 0, 1) := by decide +kernel
theorem dX7_countLifeErrors_1 : decode cX7_countLifeErrors 1 = .ok (.istore_n 1, 1) := by decide +kernel
theorem dX7_countLifeErrors_2 : decode cX7_countLifeErrors 2 = .ok (.iconst 0, 1) := by decide +kernel
theorem dX7_countLifeErrors_3 : decode cX7_countLifeErrors 3 = .ok (.istore_n 2, 1) := by decide +kernel
theorem dX7_countLifeErrors_4 : decode cX7_countLifeErrors 4 = .ok (.iload_n 2, 1) := by decide +kernel
theorem dX7_countLifeErrors_5 : decode cX7_countLifeErrors 5 = .ok (.aload_n 0, 1) := by decide +kernel
theorem dX7_countLifeErrors_6 : decode cX7_countLifeErrors 6 = .ok (.invokevirtual 15, 3) := by decide +kernel
theorem dX7_countLifeErrors_9 : decode cX7_countLifeErrors 9 = .ok (.if_icmp .ge 46, 3) := by decide +kernel
theorem dX7_countLifeErrors_12 : decode cX7_countLifeErrors 12 = .ok (.aload_n 0, 1) := by decide +kernel
theorem dX7_countLifeErrors_13 : decode cX7_countLifeErrors 13 = .ok (.iload_n 2, 1) := by decide +kernel
theorem dX7_countLifeErrors_14 : decode cX7_countLifeErrors 14 = .ok (.bipush 6, 2) := by decide +kernel
theorem dX7_countLifeErrors_16 : decode cX7_countLifeErrors 16 = .ok (.invokevirtual 11, 3) := by decide +kernel
theorem dX7_countLifeErrors_19 : decode cX7_countLifeErrors 19 = .ok (.istore_n 3, 1) := by decide +kernel
theorem dX7_countLifeErrors_20 : decode cX7_countLifeErrors 20 = .ok (.iload_n 1, 1) := by decide +kernel
theorem dX7_countLifeErrors_21 : decode cX7_countLifeErrors 21 = .ok (.aload_n 0, 1) := by decide +kernel
theorem dX7_countLifeErrors_22 : decode cX7_countLifeErrors 22 = .ok (.iload_n 2, 1) := by decide +kernel
theorem dX7_countLifeErrors_23 : decode cX7_countLifeErrors 23 = .ok (.iconst 5, 1) := by decide +kernel
theorem dX7_countLifeErrors_24 : decode cX7_countLifeErrors 24 = .ok (.invokevirtual 11, 3) := by decide +kernel
theorem dX7_countLifeErrors_27 : decode cX7_countLifeErrors 27 = .ok (.iload_n 3, 1) := by decide +kernel
theorem dX7_countLifeErrors_28 : decode cX7_countLifeErrors 28 = .ok (.if_icmp .ge 14, 3) := by decide +kernel
theorem dX7_countLifeErrors_31 : decode cX7_countLifeErrors 31 = .ok (.iload_n 3, 1) := by decide +kernel
theorem dX7_countLifeErrors_32 : decode cX7_countLifeErrors 32 = .ok (.aload_n 0, 1) := by decide +kernel
theorem dX7_countLifeErrors_33 : decode cX7_countLifeErrors 33 = .ok (.iload_n 2, 1) := by decide +kernel
theorem dX7_countLifeErrors_34 : decode cX7_countLifeErrors 34 = .ok (.bipush 7, 2) := by decide +kernel
theorem dX7_countLifeErrors_36 : decode cX7_countLifeErrors 36 = .ok (.invokevirtual 11, 3) := by decide +kernel
theorem dX7_countLifeErrors_39 : decode cX7_countLifeErrors 39 = .ok (.if_icmp .le 7, 3) := by decide +kernel
theorem dX7_countLifeErrors_42 : decode cX7_countLifeErrors 42 = .ok (.iconst 1, 1) := by decide +kernel
theorem dX7_countLifeErrors_43 : decode cX7_countLifeErrors 43 = .ok (.goto 4, 3) := by decide +kernel
theorem dX7_countLifeErrors_46 : decode cX7_countLifeErrors 46 = .ok (.iconst 0, 1) := by decide +kernel
theorem dX7_countLifeErrors_47 : decode cX7_countLifeErrors 47 = .ok (.iadd, 1) := by decide +kernel
theorem dX7_countLifeErrors_48 : decode cX7_countLifeErrors 48 = .ok (.istore_n 1, 1) := by decide +kernel
theorem dX7_countLifeErrors_49 : decode cX7_countLifeErrors 49 = .ok (.iinc 2 1, 3) := by decide +kernel
theorem dX7_countLifeErrors_52 : decode cX7_countLifeErrors 52 = .ok (.goto (-48), 3) := by decide +kernel
theorem dX7_countLifeErrors_55 : decode cX7_countLifeErrors 55 = .ok (.iload_n 1, 1) := by decide +kernel
theorem dX7_countLifeErrors_56 : decode cX7_countLifeErrors 56 = .ok (.ireturn, 1) := by decide +kernel
theorem dX7_removeDead_0 : decode cX7_removeDead 0 = .ok (.aload_n 0, 1) := by decide +kernel
theorem dX7_removeDead_1 : decode cX7_removeDead 1 = .ok (.invokevirtual 15, 3) := by decide +kernel
theorem dX7_removeDead_4 : decode cX7_removeDead 4 = .ok (.istore_n 2, 1) := by decide +kernel
theorem dX7_removeDead_5 : decode cX7_removeDead 5 = .ok (.iload_n 2, 1) := by decide +kernel
theorem dX7_removeDead_6 : decode cX7_removeDead 6 = .ok (.iconst 1, 1) := by decide +kernel
theorem dX7_removeDead_7 : decode cX7_removeDead 7 = .ok (.isub, 1) := by decide +kernel
theorem dX7_removeDead_8 : decode cX7_removeDead 8 = .ok (.istore_n 3, 1) := by decide +kernel
theorem dX7_removeDead_9 : decode cX7_removeDead 9 = .ok (.iload_n 3, 1) := by decide +kernel
theorem dX7_removeDead_10 : decode cX7_removeDead 10 = .ok (.ifCond .lt 23, 3) := by decide +kernel
theorem dX7_removeDead_13 : decode cX7_removeDead 13 = .ok (.aload_n 0, 1) := by decide +kernel
theorem dX7_removeDead_14 : decode cX7_removeDead 14 = .ok (.iload_n 3, 1) := by decide +kernel
theorem dX7_removeDead_15 : decode cX7_removeDead 15 = .ok (.iload_n 1, 1) := by decide +kernel
theorem dX7_removeDead_16 : decode cX7_removeDead 16 = .ok (.invokevirtual 19, 3) := by decide +kernel
theorem dX7_removeDead_19 : decode cX7_removeDead 19 = .ok (.ifCond .ne 8, 3) := by decide +kernel
theorem dX7_removeDead_22 : decode cX7_removeDead 22 = .ok (.aload_n 0, 1) := by decide +kernel
theorem dX7_removeDead_23 : decode cX7_removeDead 23 = .ok (.iload_n 3, 1) := by decide +kernel
theorem dX7_removeDead_24 : decode cX7_removeDead 24 = .ok (.invokevirtual 23, 3) := by decide +kernel
theorem dX7_removeDead_27 : decode cX7_removeDead 27 = .ok (.iinc 3 (-1), 3) := by decide +kernel
theorem dX7_removeDead_30 : decode cX7_removeDead 30 = .ok (.goto (-21), 3) := by decide +kernel
theorem dX7_removeDead_33 : decode cX7_removeDead 33 = .ok (.iload_n 2, 1) := by decide +kernel
theorem dX7_removeDead_34 : decode cX7_removeDead 34 = .ok (.aload_n 0, 1) := by decide +kernel
theorem dX7_removeDead_35 : decode cX7_removeDead 35 = .ok (.invokevirtual 15, 3) := by decide +kernel
theorem dX7_removeDead_38 : decode cX7_removeDead 38 = .ok (.isub, 1) := by decide +kernel
theorem dX7_removeDead_39 : decode cX7_removeDead 39 = .ok (.ireturn, 1) := by decide +kernel
theorem dX8_init_0 : decode cX8_init 0 = .ok (.aload_n 0, 1) := by decide +kernel
theorem dX8_init_1 : decode cX8_init 1 = .ok (.bipush 6, 2) := by decide +kernel
theorem dX8_init_3 : decode cX8_init 3 = .ok (.iconst 5, 1) := by decide +kernel
theorem dX8_init_4 : decode cX8_init 4 = .ok (.invokespecial 5, 3) := by decide +kernel
theorem dX8_init_7 : decode cX8_init 7 = .ok (.return_, 1) := by decide +kernel
theorem dX8_addUser_0 : decode cX8_addUser 0 = .ok (.aload_n 0, 1) := by decide +kernel
theorem dX8_addUser_1 : decode cX8_addUser 1 = .ok (.invokevirtual 11, 3) := by decide +kernel
theorem dX8_addUser_4 : decode cX8_addUser 4 = .ok (.istore 5, 2) := by decide +kernel
theorem dX8_addUser_6 : decode cX8_addUser 6 = .ok (.aload_n 0, 1) := by decide +kernel
theorem dX8_addUser_7 : decode cX8_addUser 7 = .ok (.iload 5, 2) := by decide +kernel
theorem dX8_addUser_9 : decode cX8_addUser 9 = .ok (.iconst 0, 1) := by decide +kernel
theorem dX8_addUser_10 : decode cX8_addUser 10 = .ok (.iload_n 1, 1) := by decide +kernel
theorem dX8_addUser_11 : decode cX8_addUser 11 = .ok (.invokevirtual 15, 3) := by decide +kernel
theorem dX8_addUser_14 : decode cX8_addUser 14 = .ok (.aload_n 0, 1) := by decide +kernel
theorem dX8_addUser_15 : decode cX8_addUser 15 = .ok (.iload 5, 2) := by decide +kernel
theorem dX8_addUser_17 : decode cX8_addUser 17 = .ok (.iconst 1, 1) := by decide +kernel
theorem dX8_addUser_18 : decode cX8_addUser 18 = .ok (.iload_n 2, 1) := by decide +kernel
theorem dX8_addUser_19 : decode cX8_addUser 19 = .ok (.invokevirtual 15, 3) := by decide +kernel
theorem dX8_addUser_22 : decode cX8_addUser 22 = .ok (.aload_n 0, 1) := by decide +kernel
theorem dX8_addUser_23 : decode cX8_addUser 23 = .ok (.iload 5, 2) := by decide +kernel
theorem dX8_addUser_25 : decode cX8_addUser 25 = .ok (.iconst 2, 1) := by decide +kernel
theorem dX8_addUser_26 : decode cX8_addUser 26 = .ok (.iload_n 3, 1) := by decide +kernel
theorem dX8_addUser_27 : decode cX8_addUser 27 = .ok (.invokevirtual 15, 3) := by decide +kernel
theorem dX8_addUser_30 : decode cX8_addUser 30 = .ok (.aload_n 0, 1) := by decide +kernel
theorem dX8_addUser_31 : decode cX8_addUser 31 = .ok (.iload 5, 2) := by decide +kernel
theorem dX8_addUser_33 : decode cX8_addUser 33 = .ok (.iconst 3, 1) := by decide +kernel
theorem dX8_addUser_34 : decode cX8_addUser 34 = .ok (.iload 4, 2) := by decide +kernel
theorem dX8_addUser_36 : decode cX8_addUser 36 = .ok (.invokevirtual 15, 3) := by decide +kernel
theorem dX8_addUser_39 : decode cX8_addUser 39 = .ok (.aload_n 0, 1) := by decide +kernel
theorem dX8_addUser_40 : decode cX8_addUser 40 = .ok (.iload 5, 2) := by decide +kernel
theorem dX8_addUser_42 : decode cX8_addUser 42 = .ok (.iconst 4, 1) := by decide +kernel
theorem dX8_addUser_43 : decode cX8_addUser 43 = .ok (.iconst 0, 1) := by decide +kernel
theorem dX8_addUser_44 : decode cX8_addUser 44 = .ok (.invokevirtual 15, 3) := by decide +kernel
theorem dX8_addUser_47 : decode cX8_addUser 47 = .ok (.return_, 1) := by decide +kernel
theorem dX9_init_0 : decode cX9_init 0 = .ok (.aload_n 0, 1) := by decide +kernel
theorem dX9_init_1 : decode cX9_init 1 = .ok (.bipush 30, 2) := by decide +kernel
theorem dX9_init_3 : decode cX9_init 3 = .ok (.iconst 4, 1) := by decide +kernel
theorem dX9_init_4 : decode cX9_init 4 = .ok (.invokespecial 5, 3) := by decide +kernel
theorem dX9_init_7 : decode cX9_init 7 = .ok (.return_, 1) := by decide +kernel
theorem dX9_addUse_0 : decode cX9_addUse 0 = .ok (.aload_n 0, 1) := by decide +kernel
theorem dX9_addUse_1 : decode cX9_addUse 1 = .ok (.invokevirtual 11, 3) := by decide +kernel
theorem dX9_addUse_4 : decode cX9_addUse 4 = .ok (.ifCond .eq 8, 3) := by decide +kernel
theorem dX9_addUse_7 : decode cX9_addUse 7 = .ok (.aload_n 0, 1) := by decide +kernel
theorem dX9_addUse_8 : decode cX9_addUse 8 = .ok (.iconst 0, 1) := by decide +kernel
theorem dX9_addUse_9 : decode cX9_addUse 9 = .ok (.invokevirtual 15, 3) := by decide +kernel
theorem dX9_addUse_12 : decode cX9_addUse 12 = .ok (.aload_n 0, 1) := by decide +kernel
theorem dX9_addUse_13 : decode cX9_addUse 13 = .ok (.invokevirtual 19, 3) := by decide +kernel
theorem dX9_addUse_16 : decode cX9_addUse 16 = .ok (.istore 5, 2) := by decide +kernel
theorem dX9_addUse_18 : decode cX9_addUse 18 = .ok (.aload_n 0, 1) := by decide +kernel
theorem dX9_addUse_19 : decode cX9_addUse 19 = .ok (.iload 5, 2) := by decide +kernel
theorem dX9_addUse_21 : decode cX9_addUse 21 = .ok (.iconst 0, 1) := by decide +kernel
theorem dX9_addUse_22 : decode cX9_addUse 22 = .ok (.iload_n 1, 1) := by decide +kernel
theorem dX9_addUse_23 : decode cX9_addUse 23 = .ok (.invokevirtual 23, 3) := by decide +kernel
theorem dX9_addUse_26 : decode cX9_addUse 26 = .ok (.aload_n 0, 1) := by decide +kernel
theorem dX9_addUse_27 : decode cX9_addUse 27 = .ok (.iload 5, 2) := by decide +kernel
theorem dX9_addUse_29 : decode cX9_addUse 29 = .ok (.iconst 1, 1) := by decide +kernel
theorem dX9_addUse_30 : decode cX9_addUse 30 = .ok (.iload_n 2, 1) := by decide +kernel
theorem dX9_addUse_31 : decode cX9_addUse 31 = .ok (.invokevirtual 23, 3) := by decide +kernel
theorem dX9_addUse_34 : decode cX9_addUse 34 = .ok (.aload_n 0, 1) := by decide +kernel
theorem dX9_addUse_35 : decode cX9_addUse 35 = .ok (.iload 5, 2) := by decide +kernel
theorem dX9_addUse_37 : decode cX9_addUse 37 = .ok (.iconst 2, 1) := by decide +kernel
theorem dX9_addUse_38 : decode cX9_addUse 38 = .ok (.iload_n 3, 1) := by decide +kernel
theorem dX9_addUse_39 : decode cX9_addUse 39 = .ok (.invokevirtual 23, 3) := by decide +kernel
theorem dX9_addUse_42 : decode cX9_addUse 42 = .ok (.aload_n 0, 1) := by decide +kernel
theorem dX9_addUse_43 : decode cX9_addUse 43 = .ok (.iload 5, 2) := by decide +kernel
theorem dX9_addUse_45 : decode cX9_addUse 45 = .ok (.iconst 3, 1) := by decide +kernel
theorem dX9_addUse_46 : decode cX9_addUse 46 = .ok (.iload 4, 2) := by decide +kernel
theorem dX9_addUse_48 : decode cX9_addUse 48 = .ok (.invokevirtual 23, 3) := by decide +kernel
theorem dX9_addUse_51 : decode cX9_addUse 51 = .ok (.return_, 1) := by decide +kernel
theorem dX9_knows_0 : decode cX9_knows 0 = .ok (.iconst 0, 1) := by decide +kernel
theorem dX9_knows_1 : decode cX9_knows 1 = .ok (.istore 5, 2) := by decide +kernel
theorem dX9_knows_3 : decode cX9_knows 3 = .ok (.iconst 0, 1) := by decide +kernel
theorem dX9_knows_4 : decode cX9_knows 4 = .ok (.istore 6, 2) := by decide +kernel
theorem dX9_knows_6 : decode cX9_knows 6 = .ok (.iload 6, 2) := by decide +kernel
theorem dX9_knows_8 : decode cX9_knows 8 = .ok (.aload_n 0, 1) := by decide +kernel
theorem dX9_knows_9 : decode cX9_knows 9 = .ok (.invokevirtual 27, 3) := by decide +kernel
theorem dX9_knows_12 : decode cX9_knows 12 = .ok (.if_icmp .ge 66, 3) := by decide +kernel
theorem dX9_knows_15 : decode cX9_knows 15 = .ok (.iload 5, 2) := by decide +kernel
theorem dX9_knows_17 : decode cX9_knows 17 = .ok (.ifCond .ne 61, 3) := by decide +kernel
theorem dX9_knows_20 : decode cX9_knows 20 = .ok (.aload_n 0, 1) := by decide +kernel
theorem dX9_knows_21 : decode cX9_knows 21 = .ok (.iload 6, 2) := by decide +kernel
theorem dX9_knows_23 : decode cX9_knows 23 = .ok (.iconst 0, 1) := by decide +kernel
theorem dX9_knows_24 : decode cX9_knows 24 = .ok (.invokevirtual 30, 3) := by decide +kernel
theorem dX9_knows_27 : decode cX9_knows 27 = .ok (.iload_n 1, 1) := by decide +kernel
theorem dX9_knows_28 : decode cX9_knows 28 = .ok (.if_icmp .ne 41, 3) := by decide +kernel
theorem dX9_knows_31 : decode cX9_knows 31 = .ok (.aload_n 0, 1) := by decide +kernel
theorem dX9_knows_32 : decode cX9_knows 32 = .ok (.iload 6, 2) := by decide +kernel
theorem dX9_knows_34 : decode cX9_knows 34 = .ok (.iconst 1, 1) := by decide +kernel
theorem dX9_knows_35 : decode cX9_knows 35 = .ok (.invokevirtual 30, 3) := by decide +kernel
theorem dX9_knows_38 : decode cX9_knows 38 = .ok (.iload_n 2, 1) := by decide +kernel
theorem dX9_knows_39 : decode cX9_knows 39 = .ok (.if_icmp .ne 30, 3) := by decide +kernel
theorem dX9_knows_42 : decode cX9_knows 42 = .ok (.aload_n 0, 1) := by decide +kernel
theorem dX9_knows_43 : decode cX9_knows 43 = .ok (.iload 6, 2) := by decide +kernel
theorem dX9_knows_45 : decode cX9_knows 45 = .ok (.iconst 2, 1) := by decide +kernel
theorem dX9_knows_46 : decode cX9_knows 46 = .ok (.invokevirtual 30, 3) := by decide +kernel
theorem dX9_knows_49 : decode cX9_knows 49 = .ok (.iload_n 3, 1) := by decide +kernel
theorem dX9_knows_50 : decode cX9_knows 50 = .ok (.if_icmp .ne 19, 3) := by decide +kernel
theorem dX9_knows_53 : decode cX9_knows 53 = .ok (.aload_n 0, 1) := by decide +kernel
theorem dX9_knows_54 : decode cX9_knows 54 = .ok (.iload 6, 2) := by decide +kernel
theorem dX9_knows_56 : decode cX9_knows 56 = .ok (.iconst 3, 1) := by decide +kernel
theorem dX9_knows_57 : decode cX9_knows 57 = .ok (.invokevirtual 30, 3) := by decide +kernel
theorem dX9_knows_60 : decode cX9_knows 60 = .ok (.iload 4, 2) := by decide +kernel
theorem dX9_knows_62 : decode cX9_knows 62 = .ok (.if_icmp .lt 7, 3) := by decide +kernel
theorem dX9_knows_65 : decode cX9_knows 65 = .ok (.iconst 1, 1) := by decide +kernel
theorem dX9_knows_66 : decode cX9_knows 66 = .ok (.goto 4, 3) := by decide +kernel
theorem dX9_knows_69 : decode cX9_knows 69 = .ok (.iconst 0, 1) := by decide +kernel
theorem dX9_knows_70 : decode cX9_knows 70 = .ok (.istore 5, 2) := by decide +kernel
theorem dX9_knows_72 : decode cX9_knows 72 = .ok (.iinc 6 1, 3) := by decide +kernel
theorem dX9_knows_75 : decode cX9_knows 75 = .ok (.goto (-69), 3) := by decide +kernel
theorem dX9_knows_78 : decode cX9_knows 78 = .ok (.iload 5, 2) := by decide +kernel
theorem dX9_knows_80 : decode cX9_knows 80 = .ok (.ireturn, 1) := by decide +kernel
theorem dX9_forgetBefore_0 : decode cX9_forgetBefore 0 = .ok (.aload_n 0, 1) := by decide +kernel
theorem dX9_forgetBefore_1 : decode cX9_forgetBefore 1 = .ok (.invokevirtual 27, 3) := by decide +kernel
theorem dX9_forgetBefore_4 : decode cX9_forgetBefore 4 = .ok (.iconst 1, 1) := by decide +kernel
theorem dX9_forgetBefore_5 : decode cX9_forgetBefore 5 = .ok (.isub, 1) := by decide +kernel
theorem dX9_forgetBefore_6 : decode cX9_forgetBefore 6 = .ok (.istore_n 2, 1) := by decide +kernel
theorem dX9_forgetBefore_7 : decode cX9_forgetBefore 7 = .ok (.iload_n 2, 1) := by decide +kernel
theorem dX9_forgetBefore_8 : decode cX9_forgetBefore 8 = .ok (.ifCond .lt 24, 3) := by decide +kernel
theorem dX9_forgetBefore_11 : decode cX9_forgetBefore 11 = .ok (.aload_n 0, 1) := by decide +kernel
theorem dX9_forgetBefore_12 : decode cX9_forgetBefore 12 = .ok (.iload_n 2, 1) := by decide +kernel
theorem dX9_forgetBefore_13 : decode cX9_forgetBefore 13 = .ok (.iconst 3, 1) := by decide +kernel
theorem dX9_forgetBefore_14 : decode cX9_forgetBefore 14 = .ok (.invokevirtual 30, 3) := by decide +kernel
theorem dX9_forgetBefore_17 : decode cX9_forgetBefore 17 = .ok (.iload_n 1, 1) := by decide +kernel
theorem dX9_forgetBefore_18 : decode cX9_forgetBefore 18 = .ok (.if_icmp .ge 8, 3) := by decide +kernel
theorem dX9_forgetBefore_21 : decode cX9_forgetBefore 21 = .ok (.aload_n 0, 1) := by decide +kernel
theorem dX9_forgetBefore_22 : decode cX9_forgetBefore 22 = .ok (.iload_n 2, 1) := by decide +kernel
theorem dX9_forgetBefore_23 : decode cX9_forgetBefore 23 = .ok (.invokevirtual 15, 3) := by decide +kernel
theorem dX9_forgetBefore_26 : decode cX9_forgetBefore 26 = .ok (.iinc 2 (-1), 3) := by decide +kernel
theorem dX9_forgetBefore_29 : decode cX9_forgetBefore 29 = .ok (.goto (-22), 3) := by decide +kernel
theorem dX9_forgetBefore_32 : decode cX9_forgetBefore 32 = .ok (.return_, 1) := by decide +kernel
theorem dX10_init_0 : decode cX10_init 0 = .ok (.aload_n 0, 1) := by decide +kernel
theorem dX10_init_1 : decode cX10_init 1 = .ok (.iconst 5, 1) := by decide +kernel
theorem dX10_init_2 : decode cX10_init 2 = .ok (.iconst 5, 1) := by decide +kernel
theorem dX10_init_3 : decode cX10_init 3 = .ok (.invokespecial 3, 3) := by decide +kernel
theorem dX10_init_6 : decode cX10_init 6 = .ok (.return_, 1) := by decide +kernel
theorem dX10_addDirect_0 : decode cX10_addDirect 0 = .ok (.iconst 0, 1) := by decide +kernel
theorem dX10_addDirect_1 : decode cX10_addDirect 1 = .ok (.istore_n 2, 1) := by decide +kernel
theorem dX10_addDirect_2 : decode cX10_addDirect 2 = .ok (.iload_n 2, 1) := by decide +kernel
theorem dX10_addDirect_3 : decode cX10_addDirect 3 = .ok (.aload_n 1, 1) := by decide +kernel
theorem dX10_addDirect_4 : decode cX10_addDirect 4 = .ok (.invokevirtual 9, 3) := by decide +kernel
theorem dX10_addDirect_7 : decode cX10_addDirect 7 = .ok (.if_icmp .ge 65, 3) := by decide +kernel
theorem dX10_addDirect_10 : decode cX10_addDirect 10 = .ok (.aload_n 0, 1) := by decide +kernel
theorem dX10_addDirect_11 : decode cX10_addDirect 11 = .ok (.invokevirtual 15, 3) := by decide +kernel
theorem dX10_addDirect_14 : decode cX10_addDirect 14 = .ok (.pop, 1) := by decide +kernel
theorem dX10_addDirect_15 : decode cX10_addDirect 15 = .ok (.iconst 0, 1) := by decide +kernel
theorem dX10_addDirect_16 : decode cX10_addDirect 16 = .ok (.istore_n 3, 1) := by decide +kernel
theorem dX10_addDirect_17 : decode cX10_addDirect 17 = .ok (.iload_n 3, 1) := by decide +kernel
theorem dX10_addDirect_18 : decode cX10_addDirect 18 = .ok (.aload_n 1, 1) := by decide +kernel
theorem dX10_addDirect_19 : decode cX10_addDirect 19 = .ok (.invokevirtual 9, 3) := by decide +kernel
theorem dX10_addDirect_22 : decode cX10_addDirect 22 = .ok (.if_icmp .ge 44, 3) := by decide +kernel
theorem dX10_addDirect_25 : decode cX10_addDirect 25 = .ok (.aload_n 1, 1) := by decide +kernel
theorem dX10_addDirect_26 : decode cX10_addDirect 26 = .ok (.iload_n 2, 1) := by decide +kernel
theorem dX10_addDirect_27 : decode cX10_addDirect 27 = .ok (.iload_n 3, 1) := by decide +kernel
theorem dX10_addDirect_28 : decode cX10_addDirect 28 = .ok (.invokevirtual 20, 3) := by decide +kernel
theorem dX10_addDirect_31 : decode cX10_addDirect 31 = .ok (.ifCond .eq 7, 3) := by decide +kernel
theorem dX10_addDirect_34 : decode cX10_addDirect 34 = .ok (.iconst 1, 1) := by decide +kernel
theorem dX10_addDirect_35 : decode cX10_addDirect 35 = .ok (.goto 6, 3) := by decide +kernel
theorem dX10_addDirect_38 : decode cX10_addDirect 38 = .ok (.sipush 1000, 3) := by decide +kernel
theorem dX10_addDirect_41 : decode cX10_addDirect 41 = .ok (.istore 4, 2) := by decide +kernel
theorem dX10_addDirect_43 : decode cX10_addDirect 43 = .ok (.aload_n 0, 1) := by decide +kernel
theorem dX10_addDirect_44 : decode cX10_addDirect 44 = .ok (.iload_n 2, 1) := by decide +kernel
theorem dX10_addDirect_45 : decode cX10_addDirect 45 = .ok (.iload_n 3, 1) := by decide +kernel
theorem dX10_addDirect_46 : decode cX10_addDirect 46 = .ok (.iload_n 2, 1) := by decide +kernel
theorem dX10_addDirect_47 : decode cX10_addDirect 47 = .ok (.iload_n 3, 1) := by decide +kernel
theorem dX10_addDirect_48 : decode cX10_addDirect 48 = .ok (.if_icmp .ne 7, 3) := by decide +kernel
theorem dX10_addDirect_51 : decode cX10_addDirect 51 = .ok (.iconst 0, 1) := by decide +kernel
theorem dX10_addDirect_52 : decode cX10_addDirect 52 = .ok (.goto 5, 3) := by decide +kernel
theorem dX10_addDirect_55 : decode cX10_addDirect 55 = .ok (.iload 4, 2) := by decide +kernel
theorem dX10_addDirect_57 : decode cX10_addDirect 57 = .ok (.invokevirtual 24, 3) := by decide +kernel
theorem dX10_addDirect_60 : decode cX10_addDirect 60 = .ok (.iinc 3 1, 3) := by decide +kernel
theorem dX10_addDirect_63 : decode cX10_addDirect 63 = .ok (.goto (-46), 3) := by decide +kernel
theorem dX10_addDirect_66 : decode cX10_addDirect 66 = .ok (.iinc 2 1, 3) := by decide +kernel
theorem dX10_addDirect_69 : decode cX10_addDirect 69 = .ok (.goto (-67), 3) := by decide +kernel
theorem dX10_addDirect_72 : decode cX10_addDirect 72 = .ok (.return_, 1) := by decide +kernel
theorem dX10_goThrough_0 : decode cX10_goThrough 0 = .ok (.iconst 0, 1) := by decide +kernel
theorem dX10_goThrough_1 : decode cX10_goThrough 1 = .ok (.istore_n 2, 1) := by decide +kernel
theorem dX10_goThrough_2 : decode cX10_goThrough 2 = .ok (.iload_n 2, 1) := by decide +kernel
theorem dX10_goThrough_3 : decode cX10_goThrough 3 = .ok (.aload_n 0, 1) := by decide +kernel
theorem dX10_goThrough_4 : decode cX10_goThrough 4 = .ok (.invokevirtual 28, 3) := by decide +kernel
theorem dX10_goThrough_7 : decode cX10_goThrough 7 = .ok (.if_icmp .ge 57, 3) := by decide +kernel
theorem dX10_goThrough_10 : decode cX10_goThrough 10 = .ok (.iconst 0, 1) := by decide +kernel
theorem dX10_goThrough_11 : decode cX10_goThrough 11 = .ok (.istore_n 3, 1) := by decide +kernel
theorem dX10_goThrough_12 : decode cX10_goThrough 12 = .ok (.iload_n 3, 1) := by decide +kernel
theorem dX10_goThrough_13 : decode cX10_goThrough 13 = .ok (.aload_n 0, 1) := by decide +kernel
theorem dX10_goThrough_14 : decode cX10_goThrough 14 = .ok (.invokevirtual 28, 3) := by decide +kernel
theorem dX10_goThrough_17 : decode cX10_goThrough 17 = .ok (.if_icmp .ge 41, 3) := by decide +kernel
theorem dX10_goThrough_20 : decode cX10_goThrough 20 = .ok (.aload_n 0, 1) := by decide +kernel
theorem dX10_goThrough_21 : decode cX10_goThrough 21 = .ok (.iload_n 2, 1) := by decide +kernel
theorem dX10_goThrough_22 : decode cX10_goThrough 22 = .ok (.iload_n 1, 1) := by decide +kernel
theorem dX10_goThrough_23 : decode cX10_goThrough 23 = .ok (.invokevirtual 29, 3) := by decide +kernel
theorem dX10_goThrough_26 : decode cX10_goThrough 26 = .ok (.aload_n 0, 1) := by decide +kernel
theorem dX10_goThrough_27 : decode cX10_goThrough 27 = .ok (.iload_n 1, 1) := by decide +kernel
theorem dX10_goThrough_28 : decode cX10_goThrough 28 = .ok (.iload_n 3, 1) := by decide +kernel
theorem dX10_goThrough_29 : decode cX10_goThrough 29 = .ok (.invokevirtual 29, 3) := by decide +kernel
theorem dX10_goThrough_32 : decode cX10_goThrough 32 = .ok (.iadd, 1) := by decide +kernel
theorem dX10_goThrough_33 : decode cX10_goThrough 33 = .ok (.istore 4, 2) := by decide +kernel
theorem dX10_goThrough_35 : decode cX10_goThrough 35 = .ok (.aload_n 0, 1) := by decide +kernel
theorem dX10_goThrough_36 : decode cX10_goThrough 36 = .ok (.iload_n 2, 1) := by decide +kernel
theorem dX10_goThrough_37 : decode cX10_goThrough 37 = .ok (.iload_n 3, 1) := by decide +kernel
theorem dX10_goThrough_38 : decode cX10_goThrough 38 = .ok (.iload 4, 2) := by decide +kernel
theorem dX10_goThrough_40 : decode cX10_goThrough 40 = .ok (.aload_n 0, 1) := by decide +kernel
theorem dX10_goThrough_41 : decode cX10_goThrough 41 = .ok (.iload_n 2, 1) := by decide +kernel
theorem dX10_goThrough_42 : decode cX10_goThrough 42 = .ok (.iload_n 3, 1) := by decide +kernel
theorem dX10_goThrough_43 : decode cX10_goThrough 43 = .ok (.invokevirtual 29, 3) := by decide +kernel
theorem dX10_goThrough_46 : decode cX10_goThrough 46 = .ok (.invokestatic 33, 3) := by decide +kernel
theorem dX10_goThrough_49 : decode cX10_goThrough 49 = .ok (.invokevirtual 24, 3) := by decide +kernel
theorem dX10_goThrough_52 : decode cX10_goThrough 52 = .ok (.iinc 3 1, 3) := by decide +kernel
theorem dX10_goThrough_55 : decode cX10_goThrough 55 = .ok (.goto (-43), 3) := by decide +kernel
theorem dX10_goThrough_58 : decode cX10_goThrough 58 = .ok (.iinc 2 1, 3) := by decide +kernel
theorem dX10_goThrough_61 : decode cX10_goThrough 61 = .ok (.goto (-59), 3) := by decide +kernel
theorem dX10_goThrough_64 : decode cX10_goThrough 64 = .ok (.return_, 1) := by decide +kernel
theorem dX10_lengthOf_0 : decode cX10_lengthOf 0 = .ok (.aload_n 0, 1) := by decide +kernel
theorem dX10_lengthOf_1 : decode cX10_lengthOf 1 = .ok (.iload_n 1, 1) := by decide +kernel
theorem dX10_lengthOf_2 : decode cX10_lengthOf 2 = .ok (.iload_n 2, 1) := by decide +kernel
theorem dX10_lengthOf_3 : decode cX10_lengthOf 3 = .ok (.invokevirtual 29, 3) := by decide +kernel
theorem dX10_lengthOf_6 : decode cX10_lengthOf 6 = .ok (.istore_n 3, 1) := by decide +kernel
theorem dX10_lengthOf_7 : decode cX10_lengthOf 7 = .ok (.iload_n 3, 1) := by decide +kernel
theorem dX10_lengthOf_8 : decode cX10_lengthOf 8 = .ok (.sipush 1000, 3) := by decide +kernel
theorem dX10_lengthOf_11 : decode cX10_lengthOf 11 = .ok (.if_icmp .lt 7, 3) := by decide +kernel
theorem dX10_lengthOf_14 : decode cX10_lengthOf 14 = .ok (.iconst (-1), 1) := by decide +kernel
theorem dX10_lengthOf_15 : decode cX10_lengthOf 15 = .ok (.goto 4, 3) := by decide +kernel
theorem dX10_lengthOf_18 : decode cX10_lengthOf 18 = .ok (.iload_n 3, 1) := by decide +kernel
theorem dX10_lengthOf_19 : decode cX10_lengthOf 19 = .ok (.ireturn, 1) := by decide +kernel
theorem dJ5_init_d00df_0 : decode cJ5_init_d00df 0 = .ok (.aload_n 0, 1) := by decide +kernel
theorem dJ5_init_d00df_1 : decode cJ5_init_d00df 1 = .ok (.invokespecial 3, 3) := by decide +kernel
theorem dJ5_init_d00df_4 : decode cJ5_init_d00df 4 = .ok (.getstatic 18, 3) := by decide +kernel
theorem dJ5_init_d00df_7 : decode cJ5_init_d00df 7 = .ok (.ifCond .eq 18, 3) := by decide +kernel
theorem dJ5_init_d00df_10 : decode cJ5_init_d00df 10 = .ok (.aload_n 0, 1) := by decide +kernel
theorem dJ5_init_d00df_11 : decode cJ5_init_d00df 11 = .ok (.iload_n 1, 1) := by decide +kernel
theorem dJ5_init_d00df_12 : decode cJ5_init_d00df 12 = .ok (.newarray .byte, 2) := by decide +kernel
theorem dJ5_init_d00df_14 : decode cJ5_init_d00df 14 = .ok (.putfield 15, 3) := by decide +kernel
theorem dJ5_init_d00df_17 : decode cJ5_init_d00df 17 = .ok (.aload_n 0, 1) := by decide +kernel
theorem dJ5_init_d00df_18 : decode cJ5_init_d00df 18 = .ok (.iconst 0, 1) := by decide +kernel
theorem dJ5_init_d00df_19 : decode cJ5_init_d00df 19 = .ok (.putfield 22, 3) := by decide +kernel
theorem dJ5_init_d00df_22 : decode cJ5_init_d00df 22 = .ok (.goto 16, 3) := by decide +kernel
theorem dJ5_init_d00df_25 : decode cJ5_init_d00df 25 = .ok (.aload_n 0, 1) := by decide +kernel
theorem dJ5_init_d00df_26 : decode cJ5_init_d00df 26 = .ok (.iload_n 1, 1) := by decide +kernel
theorem dJ5_init_d00df_27 : decode cJ5_init_d00df 27 = .ok (.invokestatic 26, 3) := by decide +kernel
theorem dJ5_init_d00df_30 : decode cJ5_init_d00df 30 = .ok (.putfield 15, 3) := by decide +kernel
theorem dJ5_init_d00df_33 : decode cJ5_init_d00df 33 = .ok (.aload_n 0, 1) := by decide +kernel
theorem dJ5_init_d00df_34 : decode cJ5_init_d00df 34 = .ok (.iconst 1, 1) := by decide +kernel
theorem dJ5_init_d00df_35 : decode cJ5_init_d00df 35 = .ok (.putfield 22, 3) := by decide +kernel
theorem dJ5_init_d00df_38 : decode cJ5_init_d00df 38 = .ok (.return_, 1) := by decide +kernel
theorem dJ5_init_a7421_0 : decode cJ5_init_a7421 0 = .ok (.aload_n 0, 1) := by decide +kernel
theorem dJ5_init_a7421_1 : decode cJ5_init_a7421 1 = .ok (.invokespecial 3, 3) := by decide +kernel
theorem dJ5_init_a7421_4 : decode cJ5_init_a7421 4 = .ok (.aload_n 1, 1) := by decide +kernel
theorem dJ5_init_a7421_5 : decode cJ5_init_a7421 5 = .ok (.invokevirtual 32, 3) := by decide +kernel
theorem dJ5_init_a7421_8 : decode cJ5_init_a7421 8 = .ok (.istore_n 2, 1) := by decide +kernel
theorem dJ5_init_a7421_9 : decode cJ5_init_a7421 9 = .ok (.iload_n 2, 1) := by decide +kernel
theorem dJ5_init_a7421_10 : decode cJ5_init_a7421 10 = .ok (.ldc 38, 2) := by decide +kernel
theorem dJ5_init_a7421_12 : decode cJ5_init_a7421 12 = .ok (.if_icmp .ge 10, 3) := by decide +kernel
theorem dJ5_init_a7421_15 : decode cJ5_init_a7421 15 = .ok (.iload_n 2, 1) := by decide +kernel
theorem dJ5_init_a7421_16 : decode cJ5_init_a7421 16 = .ok (.bipush 16, 2) := by decide +kernel
theorem dJ5_init_a7421_18 : decode cJ5_init_a7421 18 = .ok (.iadd, 1) := by decide +kernel
theorem dJ5_init_a7421_19 : decode cJ5_init_a7421 19 = .ok (.goto 5, 3) := by decide +kernel
theorem dJ5_init_a7421_22 : decode cJ5_init_a7421 22 = .ok (.ldc 39, 2) := by decide +kernel
theorem dJ5_init_a7421_24 : decode cJ5_init_a7421 24 = .ok (.istore_n 3, 1) := by decide +kernel
theorem dJ5_init_a7421_25 : decode cJ5_init_a7421 25 = .ok (.aload_n 1, 1) := by decide +kernel
theorem dJ5_init_a7421_26 : decode cJ5_init_a7421 26 = .ok (.invokevirtual 40, 3) := by decide +kernel
theorem dJ5_init_a7421_29 : decode cJ5_init_a7421 29 = .ok (.istore 4, 2) := by decide +kernel
theorem dJ5_init_a7421_31 : decode cJ5_init_a7421 31 = .ok (.aload_n 0, 1) := by decide +kernel
theorem dJ5_init_a7421_32 : decode cJ5_init_a7421 32 = .ok (.iload 4, 2) := by decide +kernel
theorem dJ5_init_a7421_34 : decode cJ5_init_a7421 34 = .ok (.putfield 22, 3) := by decide +kernel
theorem dJ5_init_a7421_37 : decode cJ5_init_a7421 37 = .ok (.aload_n 0, 1) := by decide +kernel
theorem dJ5_init_a7421_38 : decode cJ5_init_a7421 38 = .ok (.iload 4, 2) := by decide +kernel
theorem dJ5_init_a7421_40 : decode cJ5_init_a7421 40 = .ok (.ifCond .ne 9, 3) := by decide +kernel
theorem dJ5_init_a7421_43 : decode cJ5_init_a7421 43 = .ok (.iload_n 3, 1) := by decide +kernel
theorem dJ5_init_a7421_44 : decode cJ5_init_a7421 44 = .ok (.newarray .byte, 2) := by decide +kernel
theorem dJ5_init_a7421_46 : decode cJ5_init_a7421 46 = .ok (.goto 7, 3) := by decide +kernel
theorem dJ5_init_a7421_49 : decode cJ5_init_a7421 49 = .ok (.iload_n 3, 1) := by decide +kernel
theorem dJ5_init_a7421_50 : decode cJ5_init_a7421 50 = .ok (.invokestatic 26, 3) := by decide +kernel
theorem dJ5_init_a7421_53 : decode cJ5_init_a7421 53 = .ok (.putfield 15, 3) := by decide +kernel
theorem dJ5_init_a7421_56 : decode cJ5_init_a7421 56 = .ok (.aload_n 0, 1) := by decide +kernel
theorem dJ5_init_a7421_57 : decode cJ5_init_a7421 57 = .ok (.aload_n 1, 1) := by decide +kernel
theorem dJ5_init_a7421_58 : decode cJ5_init_a7421 58 = .ok (.invokevirtual 43, 3) := by decide +kernel
theorem dJ5_init_a7421_61 : decode cJ5_init_a7421 61 = .ok (.pop, 1) := by decide +kernel
theorem dJ5_init_a7421_62 : decode cJ5_init_a7421 62 = .ok (.return_, 1) := by decide +kernel
theorem dJ5_length_8abf5_0 : decode cJ5_length_8abf5 0 = .ok (.aload_n 0, 1) := by decide +kernel
theorem dJ5_length_8abf5_1 : decode cJ5_length_8abf5 1 = .ok (.getfield 79, 3) := by decide +kernel
theorem dJ5_length_8abf5_4 : decode cJ5_length_8abf5 4 = .ok (.ireturn, 1) := by decide +kernel
theorem dJ5_ensureCapacityInternal_d00df_0 : decode cJ5_ensureCapacityInternal_d00df 0 = .ok (.aload_n 0, 1) := by decide +kernel
theorem dJ5_ensureCapacityInternal_d00df_1 : decode cJ5_ensureCapacityInternal_d00df 1 = .ok (.getfield 15, 3) := by decide +kernel
theorem dJ5_ensureCapacityInternal_d00df_4 : decode cJ5_ensureCapacityInternal_d00df 4 = .ok (.arraylength, 1) := by decide +kernel
theorem dJ5_ensureCapacityInternal_d00df_5 : decode cJ5_ensureCapacityInternal_d00df 5 = .ok (.aload_n 0, 1) := by decide +kernel
theorem dJ5_ensureCapacityInternal_d00df_6 : decode cJ5_ensureCapacityInternal_d00df 6 = .ok (.getfield 22, 3) := by decide +kernel
theorem dJ5_ensureCapacityInternal_d00df_9 : decode cJ5_ensureCapacityInternal_d00df 9 = .ok (.ishr, 1) := by decide +kernel
theorem dJ5_ensureCapacityInternal_d00df_10 : decode cJ5_ensureCapacityInternal_d00df 10 = .ok (.istore_n 2, 1) := by decide +kernel
theorem dJ5_ensureCapacityInternal_d00df_11 : decode cJ5_ensureCapacityInternal_d00df 11 = .ok (.iload_n 1, 1) := by decide +kernel
theorem dJ5_ensureCapacityInternal_d00df_12 : decode cJ5_ensureCapacityInternal_d00df 12 = .ok (.iload_n 2, 1) := by decide +kernel
theorem dJ5_ensureCapacityInternal_d00df_13 : decode cJ5_ensureCapacityInternal_d00df 13 = .ok (.isub, 1) := by decide +kernel
theorem dJ5_ensureCapacityInternal_d00df_14 : decode cJ5_ensureCapacityInternal_d00df 14 = .ok (.ifCond .le 24, 3) := by decide +kernel
theorem dJ5_ensureCapacityInternal_d00df_17 : decode cJ5_ensureCapacityInternal_d00df 17 = .ok (.aload_n 0, 1) := by decide +kernel
theorem dJ5_ensureCapacityInternal_d00df_18 : decode cJ5_ensureCapacityInternal_d00df 18 = .ok (.aload_n 0, 1) := by decide +kernel
theorem dJ5_ensureCapacityInternal_d00df_19 : decode cJ5_ensureCapacityInternal_d00df 19 = .ok (.getfield 15, 3) := by decide +kernel
theorem dJ5_ensureCapacityInternal_d00df_22 : decode cJ5_ensureCapacityInternal_d00df 22 = .ok (.aload_n 0, 1) := by decide +kernel
theorem dJ5_ensureCapacityInternal_d00df_23 : decode cJ5_ensureCapacityInternal_d00df 23 = .ok (.iload_n 1, 1) := by decide +kernel
theorem dJ5_ensureCapacityInternal_d00df_24 : decode cJ5_ensureCapacityInternal_d00df 24 = .ok (.invokevirtual 104, 3) := by decide +kernel
theorem dJ5_ensureCapacityInternal_d00df_27 : decode cJ5_ensureCapacityInternal_d00df 27 = .ok (.aload_n 0, 1) := by decide +kernel
theorem dJ5_ensureCapacityInternal_d00df_28 : decode cJ5_ensureCapacityInternal_d00df 28 = .ok (.getfield 22, 3) := by decide +kernel
theorem dJ5_ensureCapacityInternal_d00df_31 : decode cJ5_ensureCapacityInternal_d00df 31 = .ok (.ishl, 1) := by decide +kernel
theorem dJ5_ensureCapacityInternal_d00df_32 : decode cJ5_ensureCapacityInternal_d00df 32 = .ok (.invokestatic 108, 3) := by decide +kernel
theorem dJ5_ensureCapacityInternal_d00df_35 : decode cJ5_ensureCapacityInternal_d00df 35 = .ok (.putfield 15, 3) := by decide +kernel
theorem dJ5_ensureCapacityInternal_d00df_38 : decode cJ5_ensureCapacityInternal_d00df 38 = .ok (.return_, 1) := by decide +kernel
theorem dJ5_newCapacity_0f7a4_0 : decode cJ5_newCapacity_0f7a4 0 = .ok (.aload_n 0, 1) := by decide +kernel
theorem dJ5_newCapacity_0f7a4_1 : decode cJ5_newCapacity_0f7a4 1 = .ok (.getfield 15, 3) := by decide +kernel
theorem dJ5_newCapacity_0f7a4_4 : decode cJ5_newCapacity_0f7a4 4 = .ok (.arraylength, 1) := by decide +kernel
theorem dJ5_newCapacity_0f7a4_5 : decode cJ5_newCapacity_0f7a4 5 = .ok (.istore_n 2, 1) := by decide +kernel
theorem dJ5_newCapacity_0f7a4_6 : decode cJ5_newCapacity_0f7a4 6 = .ok (.iload_n 1, 1) := by decide +kernel
theorem dJ5_newCapacity_0f7a4_7 : decode cJ5_newCapacity_0f7a4 7 = .ok (.aload_n 0, 1) := by decide +kernel
theorem dJ5_newCapacity_0f7a4_8 : decode cJ5_newCapacity_0f7a4 8 = .ok (.getfield 22, 3) := by decide +kernel
theorem dJ5_newCapacity_0f7a4_11 : decode cJ5_newCapacity_0f7a4 11 = .ok (.ishl, 1) := by decide +kernel
theorem dJ5_newCapacity_0f7a4_12 : decode cJ5_newCapacity_0f7a4 12 = .ok (.istore_n 3, 1) := by decide +kernel
theorem dJ5_newCapacity_0f7a4_13 : decode cJ5_newCapacity_0f7a4 13 = .ok (.iload_n 3, 1) := by decide +kernel
theorem dJ5_newCapacity_0f7a4_14 : decode cJ5_newCapacity_0f7a4 14 = .ok (.iload_n 2, 1) := by decide +kernel
theorem dJ5_newCapacity_0f7a4_15 : decode cJ5_newCapacity_0f7a4 15 = .ok (.isub, 1) := by decide +kernel
theorem dJ5_newCapacity_0f7a4_16 : decode cJ5_newCapacity_0f7a4 16 = .ok (.istore 4, 2) := by decide +kernel
theorem dJ5_newCapacity_0f7a4_18 : decode cJ5_newCapacity_0f7a4 18 = .ok (.iload_n 2, 1) := by decide +kernel
theorem dJ5_newCapacity_0f7a4_19 : decode cJ5_newCapacity_0f7a4 19 = .ok (.iload 4, 2) := by decide +kernel
theorem dJ5_newCapacity_0f7a4_21 : decode cJ5_newCapacity_0f7a4 21 = .ok (.iload_n 2, 1) := by decide +kernel
theorem dJ5_newCapacity_0f7a4_22 : decode cJ5_newCapacity_0f7a4 22 = .ok (.iconst 2, 1) := by decide +kernel
theorem dJ5_newCapacity_0f7a4_23 : decode cJ5_newCapacity_0f7a4 23 = .ok (.aload_n 0, 1) := by decide +kernel
theorem dJ5_newCapacity_0f7a4_24 : decode cJ5_newCapacity_0f7a4 24 = .ok (.getfield 22, 3) := by decide +kernel
theorem dJ5_newCapacity_0f7a4_27 : decode cJ5_newCapacity_0f7a4 27 = .ok (.ishl, 1) := by decide +kernel
theorem dJ5_newCapacity_0f7a4_28 : decode cJ5_newCapacity_0f7a4 28 = .ok (.iadd, 1) := by decide +kernel
theorem dJ5_newCapacity_0f7a4_29 : decode cJ5_newCapacity_0f7a4 29 = .ok (.invokestatic 114, 3) := by decide +kernel
theorem dJ5_newCapacity_0f7a4_32 : decode cJ5_newCapacity_0f7a4 32 = .ok (.istore 5, 2) := by decide +kernel
theorem dJ5_newCapacity_0f7a4_34 : decode cJ5_newCapacity_0f7a4 34 = .ok (.iload 5, 2) := by decide +kernel
theorem dJ5_newCapacity_0f7a4_36 : decode cJ5_newCapacity_0f7a4 36 = .ok (.ldc 39, 2) := by decide +kernel
theorem dJ5_newCapacity_0f7a4_38 : decode cJ5_newCapacity_0f7a4 38 = .ok (.if_icmp .ne 13, 3) := by decide +kernel
theorem dJ5_newCapacity_0f7a4_41 : decode cJ5_newCapacity_0f7a4 41 = .ok (.new 120, 3) := by decide +kernel
theorem dJ5_newCapacity_0f7a4_44 : decode cJ5_newCapacity_0f7a4 44 = .ok (.dup, 1) := by decide +kernel
theorem dJ5_newCapacity_0f7a4_45 : decode cJ5_newCapacity_0f7a4 45 = .ok (.ldc 122, 2) := by decide +kernel
theorem dJ5_newCapacity_0f7a4_47 : decode cJ5_newCapacity_0f7a4 47 = .ok (.invokespecial 124, 3) := by decide +kernel
theorem dJ5_newCapacity_0f7a4_50 : decode cJ5_newCapacity_0f7a4 50 = .ok (.athrow, 1) := by decide +kernel
theorem dJ5_newCapacity_0f7a4_51 : decode cJ5_newCapacity_0f7a4 51 = .ok (.iload 5, 2) := by decide +kernel
theorem dJ5_newCapacity_0f7a4_53 : decode cJ5_newCapacity_0f7a4 53 = .ok (.aload_n 0, 1) := by decide +kernel
theorem dJ5_newCapacity_0f7a4_54 : decode cJ5_newCapacity_0f7a4 54 = .ok (.getfield 22, 3) := by decide +kernel
theorem dJ5_newCapacity_0f7a4_57 : decode cJ5_newCapacity_0f7a4 57 = .ok (.ishr, 1) := by decide +kernel
theorem dJ5_newCapacity_0f7a4_58 : decode cJ5_newCapacity_0f7a4 58 = .ok (.ireturn, 1) := by decide +kernel
theorem dJ5_inflate_da8c8_0 : decode cJ5_inflate_da8c8 0 = .ok (.aload_n 0, 1) := by decide +kernel
theorem dJ5_inflate_da8c8_1 : decode cJ5_inflate_da8c8 1 = .ok (.invokevirtual 83, 3) := by decide +kernel
theorem dJ5_inflate_da8c8_4 : decode cJ5_inflate_da8c8 4 = .ok (.ifCond .ne 4, 3) := by decide +kernel
theorem dJ5_inflate_da8c8_7 : decode cJ5_inflate_da8c8 7 = .ok (.return_, 1) := by decide +kernel
theorem dJ5_inflate_da8c8_8 : decode cJ5_inflate_da8c8 8 = .ok (.aload_n 0, 1) := by decide +kernel
theorem dJ5_inflate_da8c8_9 : decode cJ5_inflate_da8c8 9 = .ok (.getfield 15, 3) := by decide +kernel
theorem dJ5_inflate_da8c8_12 : decode cJ5_inflate_da8c8 12 = .ok (.arraylength, 1) := by decide +kernel
theorem dJ5_inflate_da8c8_13 : decode cJ5_inflate_da8c8 13 = .ok (.invokestatic 26, 3) := by decide +kernel
theorem dJ5_inflate_da8c8_16 : decode cJ5_inflate_da8c8 16 = .ok (.astore_n 1, 1) := by decide +kernel
theorem dJ5_inflate_da8c8_17 : decode cJ5_inflate_da8c8 17 = .ok (.aload_n 0, 1) := by decide +kernel
theorem dJ5_inflate_da8c8_18 : decode cJ5_inflate_da8c8 18 = .ok (.getfield 15, 3) := by decide +kernel
theorem dJ5_inflate_da8c8_21 : decode cJ5_inflate_da8c8 21 = .ok (.iconst 0, 1) := by decide +kernel
theorem dJ5_inflate_da8c8_22 : decode cJ5_inflate_da8c8 22 = .ok (.aload_n 1, 1) := by decide +kernel
theorem dJ5_inflate_da8c8_23 : decode cJ5_inflate_da8c8 23 = .ok (.iconst 0, 1) := by decide +kernel
theorem dJ5_inflate_da8c8_24 : decode cJ5_inflate_da8c8 24 = .ok (.aload_n 0, 1) := by decide +kernel
theorem dJ5_inflate_da8c8_25 : decode cJ5_inflate_da8c8 25 = .ok (.getfield 79, 3) := by decide +kernel
theorem dJ5_inflate_da8c8_28 : decode cJ5_inflate_da8c8 28 = .ok (.invokestatic 125, 3) := by decide +kernel
theorem dJ5_inflate_da8c8_31 : decode cJ5_inflate_da8c8 31 = .ok (.aload_n 0, 1) := by decide +kernel
theorem dJ5_inflate_da8c8_32 : decode cJ5_inflate_da8c8 32 = .ok (.aload_n 1, 1) := by decide +kernel
theorem dJ5_inflate_da8c8_33 : decode cJ5_inflate_da8c8 33 = .ok (.putfield 15, 3) := by decide +kernel
theorem dJ5_inflate_da8c8_36 : decode cJ5_inflate_da8c8 36 = .ok (.aload_n 0, 1) := by decide +kernel
theorem dJ5_inflate_da8c8_37 : decode cJ5_inflate_da8c8 37 = .ok (.iconst 1, 1) := by decide +kernel
theorem dJ5_inflate_da8c8_38 : decode cJ5_inflate_da8c8 38 = .ok (.putfield 22, 3) := by decide +kernel
theorem dJ5_inflate_da8c8_41 : decode cJ5_inflate_da8c8 41 = .ok (.return_, 1) := by decide +kernel
theorem dJ5_append_cf1ce_0 : decode cJ5_append_cf1ce 0 = .ok (.aload_n 1, 1) := by decide +kernel
theorem dJ5_append_cf1ce_1 : decode cJ5_append_cf1ce 1 = .ok (.ifnonnull 8, 3) := by decide +kernel
theorem dJ5_append_cf1ce_4 : decode cJ5_append_cf1ce 4 = .ok (.aload_n 0, 1) := by decide +kernel
theorem dJ5_append_cf1ce_5 : decode cJ5_append_cf1ce 5 = .ok (.invokevirtual 204, 3) := by decide +kernel
theorem dJ5_append_cf1ce_8 : decode cJ5_append_cf1ce 8 = .ok (.areturn, 1) := by decide +kernel
theorem dJ5_append_cf1ce_9 : decode cJ5_append_cf1ce 9 = .ok (.aload_n 1, 1) := by decide +kernel
theorem dJ5_append_cf1ce_10 : decode cJ5_append_cf1ce 10 = .ok (.invokevirtual 32, 3) := by decide +kernel
theorem dJ5_append_cf1ce_13 : decode cJ5_append_cf1ce 13 = .ok (.istore_n 2, 1) := by decide +kernel
theorem dJ5_append_cf1ce_14 : decode cJ5_append_cf1ce 14 = .ok (.aload_n 0, 1) := by decide +kernel
theorem dJ5_append_cf1ce_15 : decode cJ5_append_cf1ce 15 = .ok (.aload_n 0, 1) := by decide +kernel
theorem dJ5_append_cf1ce_16 : decode cJ5_append_cf1ce 16 = .ok (.getfield 79, 3) := by decide +kernel
theorem dJ5_append_cf1ce_19 : decode cJ5_append_cf1ce 19 = .ok (.iload_n 2, 1) := by decide +kernel
theorem dJ5_append_cf1ce_20 : decode cJ5_append_cf1ce 20 = .ok (.iadd, 1) := by decide +kernel
theorem dJ5_append_cf1ce_21 : decode cJ5_append_cf1ce 21 = .ok (.invokevirtual 100, 3) := by decide +kernel
theorem dJ5_append_cf1ce_24 : decode cJ5_append_cf1ce 24 = .ok (.aload_n 0, 1) := by decide +kernel
theorem dJ5_append_cf1ce_25 : decode cJ5_append_cf1ce 25 = .ok (.aload_n 0, 1) := by decide +kernel
theorem dJ5_append_cf1ce_26 : decode cJ5_append_cf1ce 26 = .ok (.getfield 79, 3) := by decide +kernel
theorem dJ5_append_cf1ce_29 : decode cJ5_append_cf1ce 29 = .ok (.aload_n 1, 1) := by decide +kernel
theorem dJ5_append_cf1ce_30 : decode cJ5_append_cf1ce 30 = .ok (.invokevirtual 208, 3) := by decide +kernel
theorem dJ5_append_cf1ce_33 : decode cJ5_append_cf1ce 33 = .ok (.aload_n 0, 1) := by decide +kernel
theorem dJ5_append_cf1ce_34 : decode cJ5_append_cf1ce 34 = .ok (.dup, 1) := by decide +kernel
theorem dJ5_append_cf1ce_35 : decode cJ5_append_cf1ce 35 = .ok (.getfield 79, 3) := by decide +kernel
theorem dJ5_append_cf1ce_38 : decode cJ5_append_cf1ce 38 = .ok (.iload_n 2, 1) := by decide +kernel
theorem dJ5_append_cf1ce_39 : decode cJ5_append_cf1ce 39 = .ok (.iadd, 1) := by decide +kernel
theorem dJ5_append_cf1ce_40 : decode cJ5_append_cf1ce 40 = .ok (.putfield 79, 3) := by decide +kernel
theorem dJ5_append_cf1ce_43 : decode cJ5_append_cf1ce 43 = .ok (.aload_n 0, 1) := by decide +kernel
theorem dJ5_append_cf1ce_44 : decode cJ5_append_cf1ce 44 = .ok (.areturn, 1) := by decide +kernel
theorem dJ5_appendNull_278bc_0 : decode cJ5_appendNull_278bc 0 = .ok (.aload_n 0, 1) := by decide +kernel
theorem dJ5_appendNull_278bc_1 : decode cJ5_appendNull_278bc 1 = .ok (.aload_n 0, 1) := by decide +kernel
theorem dJ5_appendNull_278bc_2 : decode cJ5_appendNull_278bc 2 = .ok (.getfield 79, 3) := by decide +kernel
theorem dJ5_appendNull_278bc_5 : decode cJ5_appendNull_278bc 5 = .ok (.iconst 4, 1) := by decide +kernel
theorem dJ5_appendNull_278bc_6 : decode cJ5_appendNull_278bc 6 = .ok (.iadd, 1) := by decide +kernel
theorem dJ5_appendNull_278bc_7 : decode cJ5_appendNull_278bc 7 = .ok (.invokevirtual 100, 3) := by decide +kernel
theorem dJ5_appendNull_278bc_10 : decode cJ5_appendNull_278bc 10 = .ok (.aload_n 0, 1) := by decide +kernel
theorem dJ5_appendNull_278bc_11 : decode cJ5_appendNull_278bc 11 = .ok (.getfield 79, 3) := by decide +kernel
theorem dJ5_appendNull_278bc_14 : decode cJ5_appendNull_278bc 14 = .ok (.istore_n 1, 1) := by decide +kernel
theorem dJ5_appendNull_278bc_15 : decode cJ5_appendNull_278bc 15 = .ok (.aload_n 0, 1) := by decide +kernel
theorem dJ5_appendNull_278bc_16 : decode cJ5_appendNull_278bc 16 = .ok (.getfield 15, 3) := by decide +kernel
theorem dJ5_appendNull_278bc_19 : decode cJ5_appendNull_278bc 19 = .ok (.astore_n 2, 1) := by decide +kernel
theorem dJ5_appendNull_278bc_20 : decode cJ5_appendNull_278bc 20 = .ok (.aload_n 0, 1) := by decide +kernel
theorem dJ5_appendNull_278bc_21 : decode cJ5_appendNull_278bc 21 = .ok (.invokevirtual 83, 3) := by decide +kernel
theorem dJ5_appendNull_278bc_24 : decode cJ5_appendNull_278bc 24 = .ok (.ifCond .eq 38, 3) := by decide +kernel
theorem dJ5_appendNull_278bc_27 : decode cJ5_appendNull_278bc 27 = .ok (.aload_n 2, 1) := by decide +kernel
theorem dJ5_appendNull_278bc_28 : decode cJ5_appendNull_278bc 28 = .ok (.iload_n 1, 1) := by decide +kernel
theorem dJ5_appendNull_278bc_29 : decode cJ5_appendNull_278bc 29 = .ok (.iinc 1 1, 3) := by decide +kernel
theorem dJ5_appendNull_278bc_32 : decode cJ5_appendNull_278bc 32 = .ok (.bipush 110, 2) := by decide +kernel
theorem dJ5_appendNull_278bc_34 : decode cJ5_appendNull_278bc 34 = .ok (.bastore, 1) := by decide +kernel
theorem dJ5_appendNull_278bc_35 : decode cJ5_appendNull_278bc 35 = .ok (.aload_n 2, 1) := by decide +kernel
theorem dJ5_appendNull_278bc_36 : decode cJ5_appendNull_278bc 36 = .ok (.iload_n 1, 1) := by decide +kernel
theorem dJ5_appendNull_278bc_37 : decode cJ5_appendNull_278bc 37 = .ok (.iinc 1 1, 3) := by decide +kernel
theorem dJ5_appendNull_278bc_40 : decode cJ5_appendNull_278bc 40 = .ok (.bipush 117, 2) := by decide +kernel
theorem dJ5_appendNull_278bc_42 : decode cJ5_appendNull_278bc 42 = .ok (.bastore, 1) := by decide +kernel
theorem dJ5_appendNull_278bc_43 : decode cJ5_appendNull_278bc 43 = .ok (.aload_n 2, 1) := by decide +kernel
theorem dJ5_appendNull_278bc_44 : decode cJ5_appendNull_278bc 44 = .ok (.iload_n 1, 1) := by decide +kernel
theorem dJ5_appendNull_278bc_45 : decode cJ5_appendNull_278bc 45 = .ok (.iinc 1 1, 3) := by decide +kernel
theorem dJ5_appendNull_278bc_48 : decode cJ5_appendNull_278bc 48 = .ok (.bipush 108, 2) := by decide +kernel
theorem dJ5_appendNull_278bc_50 : decode cJ5_appendNull_278bc 50 = .ok (.bastore, 1) := by decide +kernel
theorem dJ5_appendNull_278bc_51 : decode cJ5_appendNull_278bc 51 = .ok (.aload_n 2, 1) := by decide +kernel
theorem dJ5_appendNull_278bc_52 : decode cJ5_appendNull_278bc 52 = .ok (.iload_n 1, 1) := by decide +kernel
theorem dJ5_appendNull_278bc_53 : decode cJ5_appendNull_278bc 53 = .ok (.iinc 1 1, 3) := by decide +kernel
theorem dJ5_appendNull_278bc_56 : decode cJ5_appendNull_278bc 56 = .ok (.bipush 108, 2) := by decide +kernel
theorem dJ5_appendNull_278bc_58 : decode cJ5_appendNull_278bc 58 = .ok (.bastore, 1) := by decide +kernel
theorem dJ5_appendNull_278bc_59 : decode cJ5_appendNull_278bc 59 = .ok (.goto 17, 3) := by decide +kernel
theorem dJ5_appendNull_278bc_62 : decode cJ5_appendNull_278bc 62 = .ok (.aload_n 2, 1) := by decide +kernel
theorem dJ5_appendNull_278bc_63 : decode cJ5_appendNull_278bc 63 = .ok (.iload_n 1, 1) := by decide +kernel
theorem dJ5_appendNull_278bc_64 : decode cJ5_appendNull_278bc 64 = .ok (.bipush 110, 2) := by decide +kernel
theorem dJ5_appendNull_278bc_66 : decode cJ5_appendNull_278bc 66 = .ok (.bipush 117, 2) := by decide +kernel
theorem dJ5_appendNull_278bc_68 : decode cJ5_appendNull_278bc 68 = .ok (.bipush 108, 2) := by decide +kernel
theorem dJ5_appendNull_278bc_70 : decode cJ5_appendNull_278bc 70 = .ok (.bipush 108, 2) := by decide +kernel
theorem dJ5_appendNull_278bc_72 : decode cJ5_appendNull_278bc 72 = .ok (.invokestatic 226, 3) := by decide +kernel
theorem dJ5_appendNull_278bc_75 : decode cJ5_appendNull_278bc 75 = .ok (.istore_n 1, 1) := by decide +kernel
theorem dJ5_appendNull_278bc_76 : decode cJ5_appendNull_278bc 76 = .ok (.aload_n 0, 1) := by decide +kernel
theorem dJ5_appendNull_278bc_77 : decode cJ5_appendNull_278bc 77 = .ok (.iload_n 1, 1) := by decide +kernel
theorem dJ5_appendNull_278bc_78 : decode cJ5_appendNull_278bc 78 = .ok (.putfield 79, 3) := by decide +kernel
theorem dJ5_appendNull_278bc_81 : decode cJ5_appendNull_278bc 81 = .ok (.aload_n 0, 1) := by decide +kernel
theorem dJ5_appendNull_278bc_82 : decode cJ5_appendNull_278bc 82 = .ok (.areturn, 1) := by decide +kernel
theorem dJ5_append_3fe6f_0 : decode cJ5_append_3fe6f 0 = .ok (.aload_n 0, 1) := by decide +kernel
theorem dJ5_append_3fe6f_1 : decode cJ5_append_3fe6f 1 = .ok (.aload_n 0, 1) := by decide +kernel
theorem dJ5_append_3fe6f_2 : decode cJ5_append_3fe6f 2 = .ok (.getfield 79, 3) := by decide +kernel
theorem dJ5_append_3fe6f_5 : decode cJ5_append_3fe6f 5 = .ok (.iconst 1, 1) := by decide +kernel
theorem dJ5_append_3fe6f_6 : decode cJ5_append_3fe6f 6 = .ok (.iadd, 1) := by decide +kernel
theorem dJ5_append_3fe6f_7 : decode cJ5_append_3fe6f 7 = .ok (.invokevirtual 100, 3) := by decide +kernel
theorem dJ5_append_3fe6f_10 : decode cJ5_append_3fe6f 10 = .ok (.aload_n 0, 1) := by decide +kernel
theorem dJ5_append_3fe6f_11 : decode cJ5_append_3fe6f 11 = .ok (.invokevirtual 83, 3) := by decide +kernel
theorem dJ5_append_3fe6f_14 : decode cJ5_append_3fe6f 14 = .ok (.ifCond .eq 31, 3) := by decide +kernel
theorem dJ5_append_3fe6f_17 : decode cJ5_append_3fe6f 17 = .ok (.iload_n 1, 1) := by decide +kernel
theorem dJ5_append_3fe6f_18 : decode cJ5_append_3fe6f 18 = .ok (.invokestatic 191, 3) := by decide +kernel
theorem dJ5_append_3fe6f_21 : decode cJ5_append_3fe6f 21 = .ok (.ifCond .eq 24, 3) := by decide +kernel
theorem dJ5_append_3fe6f_24 : decode cJ5_append_3fe6f 24 = .ok (.aload_n 0, 1) := by decide +kernel
theorem dJ5_append_3fe6f_25 : decode cJ5_append_3fe6f 25 = .ok (.getfield 15, 3) := by decide +kernel
theorem dJ5_append_3fe6f_28 : decode cJ5_append_3fe6f 28 = .ok (.aload_n 0, 1) := by decide +kernel
theorem dJ5_append_3fe6f_29 : decode cJ5_append_3fe6f 29 = .ok (.dup, 1) := by decide +kernel
theorem dJ5_append_3fe6f_30 : decode cJ5_append_3fe6f 30 = .ok (.getfield 79, 3) := by decide +kernel
theorem dJ5_append_3fe6f_33 : decode cJ5_append_3fe6f 33 = .ok (.dup_x1, 1) := by decide +kernel
theorem dJ5_append_3fe6f_34 : decode cJ5_append_3fe6f 34 = .ok (.iconst 1, 1) := by decide +kernel
theorem dJ5_append_3fe6f_35 : decode cJ5_append_3fe6f 35 = .ok (.iadd, 1) := by decide +kernel
theorem dJ5_append_3fe6f_36 : decode cJ5_append_3fe6f 36 = .ok (.putfield 79, 3) := by decide +kernel
theorem dJ5_append_3fe6f_39 : decode cJ5_append_3fe6f 39 = .ok (.iload_n 1, 1) := by decide +kernel
theorem dJ5_append_3fe6f_40 : decode cJ5_append_3fe6f 40 = .ok (.i2b, 1) := by decide +kernel
theorem dJ5_append_3fe6f_41 : decode cJ5_append_3fe6f 41 = .ok (.bastore, 1) := by decide +kernel
theorem dJ5_append_3fe6f_42 : decode cJ5_append_3fe6f 42 = .ok (.goto 33, 3) := by decide +kernel
theorem dJ5_append_3fe6f_45 : decode cJ5_append_3fe6f 45 = .ok (.aload_n 0, 1) := by decide +kernel
theorem dJ5_append_3fe6f_46 : decode cJ5_append_3fe6f 46 = .ok (.invokevirtual 83, 3) := by decide +kernel
theorem dJ5_append_3fe6f_49 : decode cJ5_append_3fe6f 49 = .ok (.ifCond .eq 7, 3) := by decide +kernel
theorem dJ5_append_3fe6f_52 : decode cJ5_append_3fe6f 52 = .ok (.aload_n 0, 1) := by decide +kernel
theorem dJ5_append_3fe6f_53 : decode cJ5_append_3fe6f 53 = .ok (.invokevirtual 195, 3) := by decide +kernel
theorem dJ5_append_3fe6f_56 : decode cJ5_append_3fe6f 56 = .ok (.aload_n 0, 1) := by decide +kernel
theorem dJ5_append_3fe6f_57 : decode cJ5_append_3fe6f 57 = .ok (.getfield 15, 3) := by decide +kernel
theorem dJ5_append_3fe6f_60 : decode cJ5_append_3fe6f 60 = .ok (.aload_n 0, 1) := by decide +kernel
theorem dJ5_append_3fe6f_61 : decode cJ5_append_3fe6f 61 = .ok (.dup, 1) := by decide +kernel
theorem dJ5_append_3fe6f_62 : decode cJ5_append_3fe6f 62 = .ok (.getfield 79, 3) := by decide +kernel
theorem dJ5_append_3fe6f_65 : decode cJ5_append_3fe6f 65 = .ok (.dup_x1, 1) := by decide +kernel
theorem dJ5_append_3fe6f_66 : decode cJ5_append_3fe6f 66 = .ok (.iconst 1, 1) := by decide +kernel
theorem dJ5_append_3fe6f_67 : decode cJ5_append_3fe6f 67 = .ok (.iadd, 1) := by decide +kernel
theorem dJ5_append_3fe6f_68 : decode cJ5_append_3fe6f 68 = .ok (.putfield 79, 3) := by decide +kernel
theorem dJ5_append_3fe6f_71 : decode cJ5_append_3fe6f 71 = .ok (.iload_n 1, 1) := by decide +kernel
theorem dJ5_append_3fe6f_72 : decode cJ5_append_3fe6f 72 = .ok (.invokestatic 197, 3) := by decide +kernel
theorem dJ5_append_3fe6f_75 : decode cJ5_append_3fe6f 75 = .ok (.aload_n 0, 1) := by decide +kernel
theorem dJ5_append_3fe6f_76 : decode cJ5_append_3fe6f 76 = .ok (.areturn, 1) := by decide +kernel
theorem dJ5_append_c97b9_0 : decode cJ5_append_c97b9 0 = .ok (.aload_n 0, 1) := by decide +kernel
theorem dJ5_append_c97b9_1 : decode cJ5_append_c97b9 1 = .ok (.getfield 79, 3) := by decide +kernel
theorem dJ5_append_c97b9_4 : decode cJ5_append_c97b9 4 = .ok (.istore_n 2, 1) := by decide +kernel
theorem dJ5_append_c97b9_5 : decode cJ5_append_c97b9 5 = .ok (.iload_n 2, 1) := by decide +kernel
theorem dJ5_append_c97b9_6 : decode cJ5_append_c97b9 6 = .ok (.iload_n 1, 1) := by decide +kernel
theorem dJ5_append_c97b9_7 : decode cJ5_append_c97b9 7 = .ok (.invokestatic 245, 3) := by decide +kernel
theorem dJ5_append_c97b9_10 : decode cJ5_append_c97b9 10 = .ok (.iadd, 1) := by decide +kernel
theorem dJ5_append_c97b9_11 : decode cJ5_append_c97b9 11 = .ok (.istore_n 3, 1) := by decide +kernel
theorem dJ5_append_c97b9_12 : decode cJ5_append_c97b9 12 = .ok (.aload_n 0, 1) := by decide +kernel
theorem dJ5_append_c97b9_13 : decode cJ5_append_c97b9 13 = .ok (.iload_n 3, 1) := by decide +kernel
theorem dJ5_append_c97b9_14 : decode cJ5_append_c97b9 14 = .ok (.invokevirtual 100, 3) := by decide +kernel
theorem dJ5_append_c97b9_17 : decode cJ5_append_c97b9 17 = .ok (.aload_n 0, 1) := by decide +kernel
theorem dJ5_append_c97b9_18 : decode cJ5_append_c97b9 18 = .ok (.invokevirtual 83, 3) := by decide +kernel
theorem dJ5_append_c97b9_21 : decode cJ5_append_c97b9 21 = .ok (.ifCond .eq 16, 3) := by decide +kernel
theorem dJ5_append_c97b9_24 : decode cJ5_append_c97b9 24 = .ok (.iload_n 1, 1) := by decide +kernel
theorem dJ5_append_c97b9_25 : decode cJ5_append_c97b9 25 = .ok (.iload_n 3, 1) := by decide +kernel
theorem dJ5_append_c97b9_26 : decode cJ5_append_c97b9 26 = .ok (.aload_n 0, 1) := by decide +kernel
theorem dJ5_append_c97b9_27 : decode cJ5_append_c97b9 27 = .ok (.getfield 15, 3) := by decide +kernel
theorem dJ5_append_c97b9_30 : decode cJ5_append_c97b9 30 = .ok (.invokestatic 248, 3) := by decide +kernel
theorem dJ5_append_c97b9_33 : decode cJ5_append_c97b9 33 = .ok (.pop, 1) := by decide +kernel
theorem dJ5_append_c97b9_34 : decode cJ5_append_c97b9 34 = .ok (.goto 14, 3) := by decide +kernel
theorem dJ5_append_c97b9_37 : decode cJ5_append_c97b9 37 = .ok (.iload_n 1, 1) := by decide +kernel
theorem dJ5_append_c97b9_38 : decode cJ5_append_c97b9 38 = .ok (.iload_n 2, 1) := by decide +kernel
theorem dJ5_append_c97b9_39 : decode cJ5_append_c97b9 39 = .ok (.iload_n 3, 1) := by decide +kernel
theorem dJ5_append_c97b9_40 : decode cJ5_append_c97b9 40 = .ok (.aload_n 0, 1) := by decide +kernel
theorem dJ5_append_c97b9_41 : decode cJ5_append_c97b9 41 = .ok (.getfield 15, 3) := by decide +kernel
theorem dJ5_append_c97b9_44 : decode cJ5_append_c97b9 44 = .ok (.invokestatic 251, 3) := by decide +kernel
theorem dJ5_append_c97b9_47 : decode cJ5_append_c97b9 47 = .ok (.pop, 1) := by decide +kernel
theorem dJ5_append_c97b9_48 : decode cJ5_append_c97b9 48 = .ok (.aload_n 0, 1) := by decide +kernel
theorem dJ5_append_c97b9_49 : decode cJ5_append_c97b9 49 = .ok (.iload_n 3, 1) := by decide +kernel
theorem dJ5_append_c97b9_50 : decode cJ5_append_c97b9 50 = .ok (.putfield 79, 3) := by decide +kernel
theorem dJ5_append_c97b9_53 : decode cJ5_append_c97b9 53 = .ok (.aload_n 0, 1) := by decide +kernel
theorem dJ5_append_c97b9_54 : decode cJ5_append_c97b9 54 = .ok (.areturn, 1) := by decide +kernel
theorem dJ5_getValue_6d5f1_0 : decode cJ5_getValue_6d5f1 0 = .ok (.aload_n 0, 1) := by decide +kernel
theorem dJ5_getValue_6d5f1_1 : decode cJ5_getValue_6d5f1 1 = .ok (.getfield 15, 3) := by decide +kernel
theorem dJ5_getValue_6d5f1_4 : decode cJ5_getValue_6d5f1 4 = .ok (.areturn, 1) := by decide +kernel
theorem dJ5_isLatin1_aae02_0 : decode cJ5_isLatin1_aae02 0 = .ok (.getstatic 18, 3) := by decide +kernel
theorem dJ5_isLatin1_aae02_3 : decode cJ5_isLatin1_aae02 3 = .ok (.ifCond .eq 14, 3) := by decide +kernel
theorem dJ5_isLatin1_aae02_6 : decode cJ5_isLatin1_aae02 6 = .ok (.aload_n 0, 1) := by decide +kernel
theorem dJ5_isLatin1_aae02_7 : decode cJ5_isLatin1_aae02 7 = .ok (.getfield 22, 3) := by decide +kernel
theorem dJ5_isLatin1_aae02_10 : decode cJ5_isLatin1_aae02 10 = .ok (.ifCond .ne 7, 3) := by decide +kernel
theorem dJ5_isLatin1_aae02_13 : decode cJ5_isLatin1_aae02 13 = .ok (.iconst 1, 1) := by decide +kernel
theorem dJ5_isLatin1_aae02_14 : decode cJ5_isLatin1_aae02 14 = .ok (.goto 4, 3) := by decide +kernel
theorem dJ5_isLatin1_aae02_17 : decode cJ5_isLatin1_aae02 17 = .ok (.iconst 0, 1) := by decide +kernel
theorem dJ5_isLatin1_aae02_18 : decode cJ5_isLatin1_aae02 18 = .ok (.ireturn, 1) := by decide +kernel
theorem dJ5_inflateIfNeededFor_a7421_0 : decode cJ5_inflateIfNeededFor_a7421 0 = .ok (.getstatic 18, 3) := by decide +kernel
theorem dJ5_inflateIfNeededFor_a7421_3 : decode cJ5_inflateIfNeededFor_a7421 3 = .ok (.ifCond .eq 18, 3) := by decide +kernel
theorem dJ5_inflateIfNeededFor_a7421_6 : decode cJ5_inflateIfNeededFor_a7421 6 = .ok (.aload_n 0, 1) := by decide +kernel
theorem dJ5_inflateIfNeededFor_a7421_7 : decode cJ5_inflateIfNeededFor_a7421 7 = .ok (.getfield 22, 3) := by decide +kernel
theorem dJ5_inflateIfNeededFor_a7421_10 : decode cJ5_inflateIfNeededFor_a7421 10 = .ok (.aload_n 1, 1) := by decide +kernel
theorem dJ5_inflateIfNeededFor_a7421_11 : decode cJ5_inflateIfNeededFor_a7421 11 = .ok (.invokevirtual 40, 3) := by decide +kernel
theorem dJ5_inflateIfNeededFor_a7421_14 : decode cJ5_inflateIfNeededFor_a7421 14 = .ok (.if_icmp .eq 7, 3) := by decide +kernel
theorem dJ5_inflateIfNeededFor_a7421_17 : decode cJ5_inflateIfNeededFor_a7421 17 = .ok (.aload_n 0, 1) := by decide +kernel
theorem dJ5_inflateIfNeededFor_a7421_18 : decode cJ5_inflateIfNeededFor_a7421 18 = .ok (.invokevirtual 195, 3) := by decide +kernel
theorem dJ5_inflateIfNeededFor_a7421_21 : decode cJ5_inflateIfNeededFor_a7421 21 = .ok (.return_, 1) := by decide +kernel
theorem dJ5_putStringAt_47b60_0 : decode cJ5_putStringAt_47b60 0 = .ok (.aload_n 0, 1) := by decide +kernel
theorem dJ5_putStringAt_47b60_1 : decode cJ5_putStringAt_47b60 1 = .ok (.aload_n 2, 1) := by decide +kernel
theorem dJ5_putStringAt_47b60_2 : decode cJ5_putStringAt_47b60 2 = .ok (.invokevirtual 397, 3) := by decide +kernel
theorem dJ5_putStringAt_47b60_5 : decode cJ5_putStringAt_47b60 5 = .ok (.aload_n 2, 1) := by decide +kernel
theorem dJ5_putStringAt_47b60_6 : decode cJ5_putStringAt_47b60 6 = .ok (.aload_n 0, 1) := by decide +kernel
theorem dJ5_putStringAt_47b60_7 : decode cJ5_putStringAt_47b60 7 = .ok (.getfield 15, 3) := by decide +kernel
theorem dJ5_putStringAt_47b60_10 : decode cJ5_putStringAt_47b60 10 = .ok (.iload_n 1, 1) := by decide +kernel
theorem dJ5_putStringAt_47b60_11 : decode cJ5_putStringAt_47b60 11 = .ok (.aload_n 0, 1) := by decide +kernel
theorem dJ5_putStringAt_47b60_12 : decode cJ5_putStringAt_47b60 12 = .ok (.getfield 22, 3) := by decide +kernel
theorem dJ5_putStringAt_47b60_15 : decode cJ5_putStringAt_47b60 15 = .ok (.invokevirtual 399, 3) := by decide +kernel
theorem dJ5_putStringAt_47b60_18 : decode cJ5_putStringAt_47b60 18 = .ok (.return_, 1) := by decide +kernel
theorem dJ6_getChars_ba4f3_0 : decode cJ6_getChars_ba4f3 0 = .ok (.iload_n 1, 1) := by decide +kernel
theorem dJ6_getChars_ba4f3_1 : decode cJ6_getChars_ba4f3 1 = .ok (.istore 5, 2) := by decide +kernel
theorem dJ6_getChars_ba4f3_3 : decode cJ6_getChars_ba4f3 3 = .ok (.iload_n 0, 1) := by decide +kernel
theorem dJ6_getChars_ba4f3_4 : decode cJ6_getChars_ba4f3 4 = .ok (.ifCond .ge 7, 3) := by decide +kernel
theorem dJ6_getChars_ba4f3_7 : decode cJ6_getChars_ba4f3 7 = .ok (.iconst 1, 1) := by decide +kernel
theorem dJ6_getChars_ba4f3_8 : decode cJ6_getChars_ba4f3 8 = .ok (.goto 4, 3) := by decide +kernel
theorem dJ6_getChars_ba4f3_11 : decode cJ6_getChars_ba4f3 11 = .ok (.iconst 0, 1) := by decide +kernel
theorem dJ6_getChars_ba4f3_12 : decode cJ6_getChars_ba4f3 12 = .ok (.istore 6, 2) := by decide +kernel
theorem dJ6_getChars_ba4f3_14 : decode cJ6_getChars_ba4f3 14 = .ok (.iload 6, 2) := by decide +kernel
theorem dJ6_getChars_ba4f3_16 : decode cJ6_getChars_ba4f3 16 = .ok (.ifCond .ne 6, 3) := by decide +kernel
theorem dJ6_getChars_ba4f3_19 : decode cJ6_getChars_ba4f3 19 = .ok (.iload_n 0, 1) := by decide +kernel
theorem dJ6_getChars_ba4f3_20 : decode cJ6_getChars_ba4f3 20 = .ok (.ineg, 1) := by decide +kernel
theorem dJ6_getChars_ba4f3_21 : decode cJ6_getChars_ba4f3 21 = .ok (.istore_n 0, 1) := by decide +kernel
theorem dJ6_getChars_ba4f3_22 : decode cJ6_getChars_ba4f3 22 = .ok (.iload_n 0, 1) := by decide +kernel
theorem dJ6_getChars_ba4f3_23 : decode cJ6_getChars_ba4f3 23 = .ok (.bipush (-100), 2) := by decide +kernel
theorem dJ6_getChars_ba4f3_25 : decode cJ6_getChars_ba4f3 25 = .ok (.if_icmp .gt 47, 3) := by decide +kernel
theorem dJ6_getChars_ba4f3_28 : decode cJ6_getChars_ba4f3 28 = .ok (.iload_n 0, 1) := by decide +kernel
theorem dJ6_getChars_ba4f3_29 : decode cJ6_getChars_ba4f3 29 = .ok (.bipush 100, 2) := by decide +kernel
theorem dJ6_getChars_ba4f3_31 : decode cJ6_getChars_ba4f3 31 = .ok (.idiv, 1) := by decide +kernel
theorem dJ6_getChars_ba4f3_32 : decode cJ6_getChars_ba4f3 32 = .ok (.istore_n 3, 1) := by decide +kernel
theorem dJ6_getChars_ba4f3_33 : decode cJ6_getChars_ba4f3 33 = .ok (.iload_n 3, 1) := by decide +kernel
theorem dJ6_getChars_ba4f3_34 : decode cJ6_getChars_ba4f3 34 = .ok (.bipush 100, 2) := by decide +kernel
theorem dJ6_getChars_ba4f3_36 : decode cJ6_getChars_ba4f3 36 = .ok (.imul, 1) := by decide +kernel
theorem dJ6_getChars_ba4f3_37 : decode cJ6_getChars_ba4f3 37 = .ok (.iload_n 0, 1) := by decide +kernel
theorem dJ6_getChars_ba4f3_38 : decode cJ6_getChars_ba4f3 38 = .ok (.isub, 1) := by decide +kernel
theorem dJ6_getChars_ba4f3_39 : decode cJ6_getChars_ba4f3 39 = .ok (.istore 4, 2) := by decide +kernel
theorem dJ6_getChars_ba4f3_41 : decode cJ6_getChars_ba4f3 41 = .ok (.iload_n 3, 1) := by decide +kernel
theorem dJ6_getChars_ba4f3_42 : decode cJ6_getChars_ba4f3 42 = .ok (.istore_n 0, 1) := by decide +kernel
theorem dJ6_getChars_ba4f3_43 : decode cJ6_getChars_ba4f3 43 = .ok (.aload_n 2, 1) := by decide +kernel
theorem dJ6_getChars_ba4f3_44 : decode cJ6_getChars_ba4f3 44 = .ok (.iinc 5 (-1), 3) := by decide +kernel
theorem dJ6_getChars_ba4f3_47 : decode cJ6_getChars_ba4f3 47 = .ok (.iload 5, 2) := by decide +kernel
theorem dJ6_getChars_ba4f3_49 : decode cJ6_getChars_ba4f3 49 = .ok (.getstatic 83, 3) := by decide +kernel
theorem dJ6_getChars_ba4f3_52 : decode cJ6_getChars_ba4f3 52 = .ok (.iload 4, 2) := by decide +kernel
theorem dJ6_getChars_ba4f3_54 : decode cJ6_getChars_ba4f3 54 = .ok (.baload, 1) := by decide +kernel
theorem dJ6_getChars_ba4f3_55 : decode cJ6_getChars_ba4f3 55 = .ok (.bastore, 1) := by decide +kernel
theorem dJ6_getChars_ba4f3_56 : decode cJ6_getChars_ba4f3 56 = .ok (.aload_n 2, 1) := by decide +kernel
theorem dJ6_getChars_ba4f3_57 : decode cJ6_getChars_ba4f3 57 = .ok (.iinc 5 (-1), 3) := by decide +kernel
theorem dJ6_getChars_ba4f3_60 : decode cJ6_getChars_ba4f3 60 = .ok (.iload 5, 2) := by decide +kernel
theorem dJ6_getChars_ba4f3_62 : decode cJ6_getChars_ba4f3 62 = .ok (.getstatic 87, 3) := by decide +kernel
theorem dJ6_getChars_ba4f3_65 : decode cJ6_getChars_ba4f3 65 = .ok (.iload 4, 2) := by decide +kernel
theorem dJ6_getChars_ba4f3_67 : decode cJ6_getChars_ba4f3 67 = .ok (.baload, 1) := by decide +kernel
theorem dJ6_getChars_ba4f3_68 : decode cJ6_getChars_ba4f3 68 = .ok (.bastore, 1) := by decide +kernel
theorem dJ6_getChars_ba4f3_69 : decode cJ6_getChars_ba4f3 69 = .ok (.goto (-47), 3) := by decide +kernel
theorem dJ6_getChars_ba4f3_72 : decode cJ6_getChars_ba4f3 72 = .ok (.aload_n 2, 1) := by decide +kernel
theorem dJ6_getChars_ba4f3_73 : decode cJ6_getChars_ba4f3 73 = .ok (.iinc 5 (-1), 3) := by decide +kernel
theorem dJ6_getChars_ba4f3_76 : decode cJ6_getChars_ba4f3 76 = .ok (.iload 5, 2) := by decide +kernel
theorem dJ6_getChars_ba4f3_78 : decode cJ6_getChars_ba4f3 78 = .ok (.getstatic 83, 3) := by decide +kernel
theorem dJ6_getChars_ba4f3_81 : decode cJ6_getChars_ba4f3 81 = .ok (.iload_n 0, 1) := by decide +kernel
theorem dJ6_getChars_ba4f3_82 : decode cJ6_getChars_ba4f3 82 = .ok (.ineg, 1) := by decide +kernel
theorem dJ6_getChars_ba4f3_83 : decode cJ6_getChars_ba4f3 83 = .ok (.baload, 1) := by decide +kernel
theorem dJ6_getChars_ba4f3_84 : decode cJ6_getChars_ba4f3 84 = .ok (.bastore, 1) := by decide +kernel
theorem dJ6_getChars_ba4f3_85 : decode cJ6_getChars_ba4f3 85 = .ok (.iload_n 0, 1) := by decide +kernel
theorem dJ6_getChars_ba4f3_86 : decode cJ6_getChars_ba4f3 86 = .ok (.bipush (-9), 2) := by decide +kernel
theorem dJ6_getChars_ba4f3_88 : decode cJ6_getChars_ba4f3 88 = .ok (.if_icmp .ge 16, 3) := by decide +kernel
theorem dJ6_getChars_ba4f3_91 : decode cJ6_getChars_ba4f3 91 = .ok (.aload_n 2, 1) := by decide +kernel
theorem dJ6_getChars_ba4f3_92 : decode cJ6_getChars_ba4f3 92 = .ok (.iinc 5 (-1), 3) := by decide +kernel
theorem dJ6_getChars_ba4f3_95 : decode cJ6_getChars_ba4f3 95 = .ok (.iload 5, 2) := by decide +kernel
theorem dJ6_getChars_ba4f3_97 : decode cJ6_getChars_ba4f3 97 = .ok (.getstatic 87, 3) := by decide +kernel
theorem dJ6_getChars_ba4f3_100 : decode cJ6_getChars_ba4f3 100 = .ok (.iload_n 0, 1) := by decide +kernel
theorem dJ6_getChars_ba4f3_101 : decode cJ6_getChars_ba4f3 101 = .ok (.ineg, 1) := by decide +kernel
theorem dJ6_getChars_ba4f3_102 : decode cJ6_getChars_ba4f3 102 = .ok (.baload, 1) := by decide +kernel
theorem dJ6_getChars_ba4f3_103 : decode cJ6_getChars_ba4f3 103 = .ok (.bastore, 1) := by decide +kernel
theorem dJ6_getChars_ba4f3_104 : decode cJ6_getChars_ba4f3 104 = .ok (.iload 6, 2) := by decide +kernel
theorem dJ6_getChars_ba4f3_106 : decode cJ6_getChars_ba4f3 106 = .ok (.ifCond .eq 12, 3) := by decide +kernel
theorem dJ6_getChars_ba4f3_109 : decode cJ6_getChars_ba4f3 109 = .ok (.aload_n 2, 1) := by decide +kernel
theorem dJ6_getChars_ba4f3_110 : decode cJ6_getChars_ba4f3 110 = .ok (.iinc 5 (-1), 3) := by decide +kernel
theorem dJ6_getChars_ba4f3_113 : decode cJ6_getChars_ba4f3 113 = .ok (.iload 5, 2) := by decide +kernel
theorem dJ6_getChars_ba4f3_115 : decode cJ6_getChars_ba4f3 115 = .ok (.bipush 45, 2) := by decide +kernel
theorem dJ6_getChars_ba4f3_117 : decode cJ6_getChars_ba4f3 117 = .ok (.bastore, 1) := by decide +kernel
theorem dJ6_getChars_ba4f3_118 : decode cJ6_getChars_ba4f3 118 = .ok (.iload 5, 2) := by decide +kernel
theorem dJ6_getChars_ba4f3_120 : decode cJ6_getChars_ba4f3 120 = .ok (.ireturn, 1) := by decide +kernel
theorem dJ6_stringSize_0f7a4_0 : decode cJ6_stringSize_0f7a4 0 = .ok (.iconst 1, 1) := by decide +kernel
theorem dJ6_stringSize_0f7a4_1 : decode cJ6_stringSize_0f7a4 1 = .ok (.istore_n 1, 1) := by decide +kernel
theorem dJ6_stringSize_0f7a4_2 : decode cJ6_stringSize_0f7a4 2 = .ok (.iload_n 0, 1) := by decide +kernel
theorem dJ6_stringSize_0f7a4_3 : decode cJ6_stringSize_0f7a4 3 = .ok (.ifCond .lt 8, 3) := by decide +kernel
theorem dJ6_stringSize_0f7a4_6 : decode cJ6_stringSize_0f7a4 6 = .ok (.iconst 0, 1) := by decide +kernel
theorem dJ6_stringSize_0f7a4_7 : decode cJ6_stringSize_0f7a4 7 = .ok (.istore_n 1, 1) := by decide +kernel
theorem dJ6_stringSize_0f7a4_8 : decode cJ6_stringSize_0f7a4 8 = .ok (.iload_n 0, 1) := by decide +kernel
theorem dJ6_stringSize_0f7a4_9 : decode cJ6_stringSize_0f7a4 9 = .ok (.ineg, 1) := by decide +kernel
theorem dJ6_stringSize_0f7a4_10 : decode cJ6_stringSize_0f7a4 10 = .ok (.istore_n 0, 1) := by decide +kernel
theorem dJ6_stringSize_0f7a4_11 : decode cJ6_stringSize_0f7a4 11 = .ok (.bipush (-10), 2) := by decide +kernel
theorem dJ6_stringSize_0f7a4_13 : decode cJ6_stringSize_0f7a4 13 = .ok (.istore_n 2, 1) := by decide +kernel
theorem dJ6_stringSize_0f7a4_14 : decode cJ6_stringSize_0f7a4 14 = .ok (.iconst 1, 1) := by decide +kernel
theorem dJ6_stringSize_0f7a4_15 : decode cJ6_stringSize_0f7a4 15 = .ok (.istore_n 3, 1) := by decide +kernel
theorem dJ6_stringSize_0f7a4_16 : decode cJ6_stringSize_0f7a4 16 = .ok (.iload_n 3, 1) := by decide +kernel
theorem dJ6_stringSize_0f7a4_17 : decode cJ6_stringSize_0f7a4 17 = .ok (.bipush 10, 2) := by decide +kernel
theorem dJ6_stringSize_0f7a4_19 : decode cJ6_stringSize_0f7a4 19 = .ok (.if_icmp .ge 23, 3) := by decide +kernel
theorem dJ6_stringSize_0f7a4_22 : decode cJ6_stringSize_0f7a4 22 = .ok (.iload_n 0, 1) := by decide +kernel
theorem dJ6_stringSize_0f7a4_23 : decode cJ6_stringSize_0f7a4 23 = .ok (.iload_n 2, 1) := by decide +kernel
theorem dJ6_stringSize_0f7a4_24 : decode cJ6_stringSize_0f7a4 24 = .ok (.if_icmp .le 7, 3) := by decide +kernel
theorem dJ6_stringSize_0f7a4_27 : decode cJ6_stringSize_0f7a4 27 = .ok (.iload_n 3, 1) := by decide +kernel
theorem dJ6_stringSize_0f7a4_28 : decode cJ6_stringSize_0f7a4 28 = .ok (.iload_n 1, 1) := by decide +kernel
theorem dJ6_stringSize_0f7a4_29 : decode cJ6_stringSize_0f7a4 29 = .ok (.iadd, 1) := by decide +kernel
theorem dJ6_stringSize_0f7a4_30 : decode cJ6_stringSize_0f7a4 30 = .ok (.ireturn, 1) := by decide +kernel
theorem dJ6_stringSize_0f7a4_31 : decode cJ6_stringSize_0f7a4 31 = .ok (.bipush 10, 2) := by decide +kernel
theorem dJ6_stringSize_0f7a4_33 : decode cJ6_stringSize_0f7a4 33 = .ok (.iload_n 2, 1) := by decide +kernel
theorem dJ6_stringSize_0f7a4_34 : decode cJ6_stringSize_0f7a4 34 = .ok (.imul, 1) := by decide +kernel
theorem dJ6_stringSize_0f7a4_35 : decode cJ6_stringSize_0f7a4 35 = .ok (.istore_n 2, 1) := by decide +kernel
theorem dJ6_stringSize_0f7a4_36 : decode cJ6_stringSize_0f7a4 36 = .ok (.iinc 3 1, 3) := by decide +kernel
theorem dJ6_stringSize_0f7a4_39 : decode cJ6_stringSize_0f7a4 39 = .ok (.goto (-23), 3) := by decide +kernel
theorem dJ6_stringSize_0f7a4_42 : decode cJ6_stringSize_0f7a4 42 = .ok (.bipush 10, 2) := by decide +kernel
theorem dJ6_stringSize_0f7a4_44 : decode cJ6_stringSize_0f7a4 44 = .ok (.iload_n 1, 1) := by decide +kernel
theorem dJ6_stringSize_0f7a4_45 : decode cJ6_stringSize_0f7a4 45 = .ok (.iadd, 1) := by decide +kernel
theorem dJ6_stringSize_0f7a4_46 : decode cJ6_stringSize_0f7a4 46 = .ok (.ireturn, 1) := by decide +kernel
theorem dJ9_abs_0f7a4_0 : decode cJ9_abs_0f7a4 0 = .ok (.iload_n 0, 1) := by decide +kernel
theorem dJ9_abs_0f7a4_1 : decode cJ9_abs_0f7a4 1 = .ok (.ifCond .ge 8, 3) := by decide +kernel
theorem dJ9_abs_0f7a4_4 : decode cJ9_abs_0f7a4 4 = .ok (.iload_n 0, 1) := by decide +kernel
theorem dJ9_abs_0f7a4_5 : decode cJ9_abs_0f7a4 5 = .ok (.ineg, 1) := by decide +kernel
theorem dJ9_abs_0f7a4_6 : decode cJ9_abs_0f7a4 6 = .ok (.goto 4, 3) := by decide +kernel
theorem dJ9_abs_0f7a4_9 : decode cJ9_abs_0f7a4 9 = .ok (.iload_n 0, 1) := by decide +kernel
theorem dJ9_abs_0f7a4_10 : decode cJ9_abs_0f7a4 10 = .ok (.ireturn, 1) := by decide +kernel
theorem dJ9_max_7cf53_0 : decode cJ9_max_7cf53 0 = .ok (.iload_n 0, 1) := by decide +kernel
theorem dJ9_max_7cf53_1 : decode cJ9_max_7cf53 1 = .ok (.iload_n 1, 1) := by decide +kernel
theorem dJ9_max_7cf53_2 : decode cJ9_max_7cf53 2 = .ok (.if_icmp .lt 7, 3) := by decide +kernel
theorem dJ9_max_7cf53_5 : decode cJ9_max_7cf53 5 = .ok (.iload_n 0, 1) := by decide +kernel
theorem dJ9_max_7cf53_6 : decode cJ9_max_7cf53 6 = .ok (.goto 4, 3) := by decide +kernel
theorem dJ9_max_7cf53_9 : decode cJ9_max_7cf53 9 = .ok (.iload_n 1, 1) := by decide +kernel
theorem dJ9_max_7cf53_10 : decode cJ9_max_7cf53 10 = .ok (.ireturn, 1) := by decide +kernel
theorem dJ9_min_7cf53_0 : decode cJ9_min_7cf53 0 = .ok (.iload_n 0, 1) := by decide +kernel
theorem dJ9_min_7cf53_1 : decode cJ9_min_7cf53 1 = .ok (.iload_n 1, 1) := by decide +kernel
theorem dJ9_min_7cf53_2 : decode cJ9_min_7cf53 2 = .ok (.if_icmp .gt 7, 3) := by decide +kernel
theorem dJ9_min_7cf53_5 : decode cJ9_min_7cf53 5 = .ok (.iload_n 0, 1) := by decide +kernel
theorem dJ9_min_7cf53_6 : decode cJ9_min_7cf53 6 = .ok (.goto 4, 3) := by decide +kernel
theorem dJ9_min_7cf53_9 : decode cJ9_min_7cf53 9 = .ok (.iload_n 1, 1) := by decide +kernel
theorem dJ9_min_7cf53_10 : decode cJ9_min_7cf53 10 = .ok (.ireturn, 1) := by decide +kernel
theorem dJ0_init_81219_0 : decode cJ0_init_81219 0 = .ok (.aload_n 0, 1) := by decide +kernel
theorem dJ0_init_81219_1 : decode cJ0_init_81219 1 = .ok (.aload_n 1, 1) := by decide +kernel
theorem dJ0_init_81219_2 : decode cJ0_init_81219 2 = .ok (.aconst_null, 1) := by decide +kernel
theorem dJ0_init_81219_3 : decode cJ0_init_81219 3 = .ok (.invokespecial 489, 3) := by decide +kernel
theorem dJ0_init_81219_6 : decode cJ0_init_81219 6 = .ok (.return_, 1) := by decide +kernel
theorem dJ0_length_8abf5_0 : decode cJ0_length_8abf5 0 = .ok (.aload_n 0, 1) := by decide +kernel
theorem dJ0_length_8abf5_1 : decode cJ0_length_8abf5 1 = .ok (.getfield 9, 3) := by decide +kernel
theorem dJ0_length_8abf5_4 : decode cJ0_length_8abf5 4 = .ok (.arraylength, 1) := by decide +kernel
theorem dJ0_length_8abf5_5 : decode cJ0_length_8abf5 5 = .ok (.aload_n 0, 1) := by decide +kernel
theorem dJ0_length_8abf5_6 : decode cJ0_length_8abf5 6 = .ok (.invokevirtual 335, 3) := by decide +kernel
theorem dJ0_length_8abf5_9 : decode cJ0_length_8abf5 9 = .ok (.ishr, 1) := by decide +kernel
theorem dJ0_length_8abf5_10 : decode cJ0_length_8abf5 10 = .ok (.ireturn, 1) := by decide +kernel
theorem dJ0_charAt_5068e_0 : decode cJ0_charAt_5068e 0 = .ok (.aload_n 0, 1) := by decide +kernel
theorem dJ0_charAt_5068e_1 : decode cJ0_charAt_5068e 1 = .ok (.invokevirtual 492, 3) := by decide +kernel
theorem dJ0_charAt_5068e_4 : decode cJ0_charAt_5068e 4 = .ok (.ifCond .eq 12, 3) := by decide +kernel
theorem dJ0_charAt_5068e_7 : decode cJ0_charAt_5068e 7 = .ok (.aload_n 0, 1) := by decide +kernel
theorem dJ0_charAt_5068e_8 : decode cJ0_charAt_5068e 8 = .ok (.getfield 9, 3) := by decide +kernel
theorem dJ0_charAt_5068e_11 : decode cJ0_charAt_5068e 11 = .ok (.iload_n 1, 1) := by decide +kernel
theorem dJ0_charAt_5068e_12 : decode cJ0_charAt_5068e 12 = .ok (.invokestatic 495, 3) := by decide +kernel
theorem dJ0_charAt_5068e_15 : decode cJ0_charAt_5068e 15 = .ok (.ireturn, 1) := by decide +kernel
theorem dJ0_charAt_5068e_16 : decode cJ0_charAt_5068e 16 = .ok (.aload_n 0, 1) := by decide +kernel
theorem dJ0_charAt_5068e_17 : decode cJ0_charAt_5068e 17 = .ok (.getfield 9, 3) := by decide +kernel
theorem dJ0_charAt_5068e_20 : decode cJ0_charAt_5068e 20 = .ok (.iload_n 1, 1) := by decide +kernel
theorem dJ0_charAt_5068e_21 : decode cJ0_charAt_5068e 21 = .ok (.invokestatic 498, 3) := by decide +kernel
theorem dJ0_charAt_5068e_24 : decode cJ0_charAt_5068e 24 = .ok (.ireturn, 1) := by decide +kernel
theorem dJ0_getBytes_840e7_0 : decode cJ0_getBytes_840e7 0 = .ok (.aload_n 0, 1) := by decide +kernel
theorem dJ0_getBytes_840e7_1 : decode cJ0_getBytes_840e7 1 = .ok (.invokevirtual 335, 3) := by decide +kernel
theorem dJ0_getBytes_840e7_4 : decode cJ0_getBytes_840e7 4 = .ok (.iload_n 3, 1) := by decide +kernel
theorem dJ0_getBytes_840e7_5 : decode cJ0_getBytes_840e7 5 = .ok (.if_icmp .ne 23, 3) := by decide +kernel
theorem dJ0_getBytes_840e7_8 : decode cJ0_getBytes_840e7 8 = .ok (.aload_n 0, 1) := by decide +kernel
theorem dJ0_getBytes_840e7_9 : decode cJ0_getBytes_840e7 9 = .ok (.getfield 9, 3) := by decide +kernel
theorem dJ0_getBytes_840e7_12 : decode cJ0_getBytes_840e7 12 = .ok (.iconst 0, 1) := by decide +kernel
theorem dJ0_getBytes_840e7_13 : decode cJ0_getBytes_840e7 13 = .ok (.aload_n 1, 1) := by decide +kernel
theorem dJ0_getBytes_840e7_14 : decode cJ0_getBytes_840e7 14 = .ok (.iload_n 2, 1) := by decide +kernel
theorem dJ0_getBytes_840e7_15 : decode cJ0_getBytes_840e7 15 = .ok (.iload_n 3, 1) := by decide +kernel
theorem dJ0_getBytes_840e7_16 : decode cJ0_getBytes_840e7 16 = .ok (.ishl, 1) := by decide +kernel
theorem dJ0_getBytes_840e7_17 : decode cJ0_getBytes_840e7 17 = .ok (.aload_n 0, 1) := by decide +kernel
theorem dJ0_getBytes_840e7_18 : decode cJ0_getBytes_840e7 18 = .ok (.getfield 9, 3) := by decide +kernel
theorem dJ0_getBytes_840e7_21 : decode cJ0_getBytes_840e7 21 = .ok (.arraylength, 1) := by decide +kernel
theorem dJ0_getBytes_840e7_22 : decode cJ0_getBytes_840e7 22 = .ok (.invokestatic 212, 3) := by decide +kernel
theorem dJ0_getBytes_840e7_25 : decode cJ0_getBytes_840e7 25 = .ok (.goto 18, 3) := by decide +kernel
theorem dJ0_getBytes_840e7_28 : decode cJ0_getBytes_840e7 28 = .ok (.aload_n 0, 1) := by decide +kernel
theorem dJ0_getBytes_840e7_29 : decode cJ0_getBytes_840e7 29 = .ok (.getfield 9, 3) := by decide +kernel
theorem dJ0_getBytes_840e7_32 : decode cJ0_getBytes_840e7 32 = .ok (.iconst 0, 1) := by decide +kernel
theorem dJ0_getBytes_840e7_33 : decode cJ0_getBytes_840e7 33 = .ok (.aload_n 1, 1) := by decide +kernel
theorem dJ0_getBytes_840e7_34 : decode cJ0_getBytes_840e7 34 = .ok (.iload_n 2, 1) := by decide +kernel
theorem dJ0_getBytes_840e7_35 : decode cJ0_getBytes_840e7 35 = .ok (.aload_n 0, 1) := by decide +kernel
theorem dJ0_getBytes_840e7_36 : decode cJ0_getBytes_840e7 36 = .ok (.getfield 9, 3) := by decide +kernel
theorem dJ0_getBytes_840e7_39 : decode cJ0_getBytes_840e7 39 = .ok (.arraylength, 1) := by decide +kernel
theorem dJ0_getBytes_840e7_40 : decode cJ0_getBytes_840e7 40 = .ok (.invokestatic 106, 3) := by decide +kernel
theorem dJ0_getBytes_840e7_43 : decode cJ0_getBytes_840e7 43 = .ok (.return_, 1) := by decide +kernel
theorem dJ0_init_db425_0 : decode cJ0_init_db425 0 = .ok (.aload_n 0, 1) := by decide +kernel
theorem dJ0_init_db425_1 : decode cJ0_init_db425 1 = .ok (.invokespecial 1, 3) := by decide +kernel
theorem dJ0_init_db425_4 : decode cJ0_init_db425 4 = .ok (.aload_n 1, 1) := by decide +kernel
theorem dJ0_init_db425_5 : decode cJ0_init_db425 5 = .ok (.invokevirtual 552, 3) := by decide +kernel
theorem dJ0_init_db425_8 : decode cJ0_init_db425 8 = .ok (.astore_n 3, 1) := by decide +kernel
theorem dJ0_init_db425_9 : decode cJ0_init_db425 9 = .ok (.aload_n 1, 1) := by decide +kernel
theorem dJ0_init_db425_10 : decode cJ0_init_db425 10 = .ok (.invokevirtual 549, 3) := by decide +kernel
theorem dJ0_init_db425_13 : decode cJ0_init_db425 13 = .ok (.istore 4, 2) := by decide +kernel
theorem dJ0_init_db425_15 : decode cJ0_init_db425 15 = .ok (.aload_n 1, 1) := by decide +kernel
theorem dJ0_init_db425_16 : decode cJ0_init_db425 16 = .ok (.invokevirtual 1047, 3) := by decide +kernel
theorem dJ0_init_db425_19 : decode cJ0_init_db425 19 = .ok (.ifCond .eq 22, 3) := by decide +kernel
theorem dJ0_init_db425_22 : decode cJ0_init_db425 22 = .ok (.aload_n 0, 1) := by decide +kernel
theorem dJ0_init_db425_23 : decode cJ0_init_db425 23 = .ok (.iconst 0, 1) := by decide +kernel
theorem dJ0_init_db425_24 : decode cJ0_init_db425 24 = .ok (.putfield 15, 3) := by decide +kernel
theorem dJ0_init_db425_27 : decode cJ0_init_db425 27 = .ok (.aload_n 0, 1) := by decide +kernel
theorem dJ0_init_db425_28 : decode cJ0_init_db425 28 = .ok (.aload_n 3, 1) := by decide +kernel
theorem dJ0_init_db425_29 : decode cJ0_init_db425 29 = .ok (.iconst 0, 1) := by decide +kernel
theorem dJ0_init_db425_30 : decode cJ0_init_db425 30 = .ok (.iload 4, 2) := by decide +kernel
theorem dJ0_init_db425_32 : decode cJ0_init_db425 32 = .ok (.invokestatic 54, 3) := by decide +kernel
theorem dJ0_init_db425_35 : decode cJ0_init_db425 35 = .ok (.putfield 9, 3) := by decide +kernel
theorem dJ0_init_db425_38 : decode cJ0_init_db425 38 = .ok (.goto 59, 3) := by decide +kernel
theorem dJ0_init_db425_41 : decode cJ0_init_db425 41 = .ok (.getstatic 38, 3) := by decide +kernel
theorem dJ0_init_db425_44 : decode cJ0_init_db425 44 = .ok (.ifCond .eq 35, 3) := by decide +kernel
theorem dJ0_init_db425_47 : decode cJ0_init_db425 47 = .ok (.aload_n 1, 1) := by decide +kernel
theorem dJ0_init_db425_48 : decode cJ0_init_db425 48 = .ok (.getfield 1048, 3) := by decide +kernel
theorem dJ0_init_db425_51 : decode cJ0_init_db425 51 = .ok (.ifCond .eq 28, 3) := by decide +kernel
theorem dJ0_init_db425_54 : decode cJ0_init_db425 54 = .ok (.aload_n 0, 1) := by decide +kernel
theorem dJ0_init_db425_55 : decode cJ0_init_db425 55 = .ok (.aload_n 3, 1) := by decide +kernel
theorem dJ0_init_db425_56 : decode cJ0_init_db425 56 = .ok (.iconst 0, 1) := by decide +kernel
theorem dJ0_init_db425_57 : decode cJ0_init_db425 57 = .ok (.iload 4, 2) := by decide +kernel
theorem dJ0_init_db425_59 : decode cJ0_init_db425 59 = .ok (.invokestatic 1051, 3) := by decide +kernel
theorem dJ0_init_db425_62 : decode cJ0_init_db425 62 = .ok (.putfield 9, 3) := by decide +kernel
theorem dJ0_init_db425_65 : decode cJ0_init_db425 65 = .ok (.aload_n 0, 1) := by decide +kernel
theorem dJ0_init_db425_66 : decode cJ0_init_db425 66 = .ok (.aload_n 0, 1) := by decide +kernel
theorem dJ0_init_db425_67 : decode cJ0_init_db425 67 = .ok (.getfield 9, 3) := by decide +kernel
theorem dJ0_init_db425_70 : decode cJ0_init_db425 70 = .ok (.iload 4, 2) := by decide +kernel
theorem dJ0_init_db425_72 : decode cJ0_init_db425 72 = .ok (.invokestatic 47, 3) := by decide +kernel
theorem dJ0_init_db425_75 : decode cJ0_init_db425 75 = .ok (.putfield 15, 3) := by decide +kernel
theorem dJ0_init_db425_78 : decode cJ0_init_db425 78 = .ok (.return_, 1) := by decide +kernel
theorem dJ0_init_db425_79 : decode cJ0_init_db425 79 = .ok (.aload_n 0, 1) := by decide +kernel
theorem dJ0_init_db425_80 : decode cJ0_init_db425 80 = .ok (.iconst 1, 1) := by decide +kernel
theorem dJ0_init_db425_81 : decode cJ0_init_db425 81 = .ok (.putfield 15, 3) := by decide +kernel
theorem dJ0_init_db425_84 : decode cJ0_init_db425 84 = .ok (.aload_n 0, 1) := by decide +kernel
theorem dJ0_init_db425_85 : decode cJ0_init_db425 85 = .ok (.aload_n 3, 1) := by decide +kernel
theorem dJ0_init_db425_86 : decode cJ0_init_db425 86 = .ok (.iconst 0, 1) := by decide +kernel
theorem dJ0_init_db425_87 : decode cJ0_init_db425 87 = .ok (.iload 4, 2) := by decide +kernel
theorem dJ0_init_db425_89 : decode cJ0_init_db425 89 = .ok (.iconst 1, 1) := by decide +kernel
theorem dJ0_init_db425_90 : decode cJ0_init_db425 90 = .ok (.ishl, 1) := by decide +kernel
theorem dJ0_init_db425_91 : decode cJ0_init_db425 91 = .ok (.invokestatic 54, 3) := by decide +kernel
theorem dJ0_init_db425_94 : decode cJ0_init_db425 94 = .ok (.putfield 9, 3) := by decide +kernel
theorem dJ0_init_db425_97 : decode cJ0_init_db425 97 = .ok (.return_, 1) := by decide +kernel
theorem dJ0_coder_7d493_0 : decode cJ0_coder_7d493 0 = .ok (.getstatic 38, 3) := by decide +kernel
theorem dJ0_coder_7d493_3 : decode cJ0_coder_7d493 3 = .ok (.ifCond .eq 10, 3) := by decide +kernel
theorem dJ0_coder_7d493_6 : decode cJ0_coder_7d493 6 = .ok (.aload_n 0, 1) := by decide +kernel
theorem dJ0_coder_7d493_7 : decode cJ0_coder_7d493 7 = .ok (.getfield 15, 3) := by decide +kernel
theorem dJ0_coder_7d493_10 : decode cJ0_coder_7d493 10 = .ok (.goto 4, 3) := by decide +kernel
theorem dJ0_coder_7d493_13 : decode cJ0_coder_7d493 13 = .ok (.iconst 1, 1) := by decide +kernel
theorem dJ0_coder_7d493_14 : decode cJ0_coder_7d493 14 = .ok (.ireturn, 1) := by decide +kernel
theorem dJ0_isLatin1_aae02_0 : decode cJ0_isLatin1_aae02 0 = .ok (.getstatic 38, 3) := by decide +kernel
theorem dJ0_isLatin1_aae02_3 : decode cJ0_isLatin1_aae02 3 = .ok (.ifCond .eq 14, 3) := by decide +kernel
theorem dJ0_isLatin1_aae02_6 : decode cJ0_isLatin1_aae02 6 = .ok (.aload_n 0, 1) := by decide +kernel
theorem dJ0_isLatin1_aae02_7 : decode cJ0_isLatin1_aae02 7 = .ok (.getfield 15, 3) := by decide +kernel
theorem dJ0_isLatin1_aae02_10 : decode cJ0_isLatin1_aae02 10 = .ok (.ifCond .ne 7, 3) := by decide +kernel
theorem dJ0_isLatin1_aae02_13 : decode cJ0_isLatin1_aae02 13 = .ok (.iconst 1, 1) := by decide +kernel
theorem dJ0_isLatin1_aae02_14 : decode cJ0_isLatin1_aae02 14 = .ok (.goto 4, 3) := by decide +kernel
theorem dJ0_isLatin1_aae02_17 : decode cJ0_isLatin1_aae02 17 = .ok (.iconst 0, 1) := by decide +kernel
theorem dJ0_isLatin1_aae02_18 : decode cJ0_isLatin1_aae02 18 = .ok (.ireturn, 1) := by decide +kernel
theorem dJ0_checkIndex_df160_0 : decode cJ0_checkIndex_df160 0 = .ok (.iload_n 0, 1) := by decide +kernel
theorem dJ0_checkIndex_df160_1 : decode cJ0_checkIndex_df160 1 = .ok (.iload_n 1, 1) := by decide +kernel
theorem dJ0_checkIndex_df160_2 : decode cJ0_checkIndex_df160 2 = .ok (.getstatic 1053, 3) := by decide +kernel
theorem dJ0_checkIndex_df160_5 : decode cJ0_checkIndex_df160 5 = .ok (.invokestatic 1059, 3) := by decide +kernel
theorem dJ0_checkIndex_df160_8 : decode cJ0_checkIndex_df160 8 = .ok (.pop, 1) := by decide +kernel
theorem dJ0_checkIndex_df160_9 : decode cJ0_checkIndex_df160 9 = .ok (.return_, 1) := by decide +kernel
theorem dJ0_checkBoundsOffCount_cabcc_0 : decode cJ0_checkBoundsOffCount_cabcc 0 = .ok (.iload_n 0, 1) := by decide +kernel
theorem dJ0_checkBoundsOffCount_cabcc_1 : decode cJ0_checkBoundsOffCount_cabcc 1 = .ok (.iload_n 1, 1) := by decide +kernel
theorem dJ0_checkBoundsOffCount_cabcc_2 : decode cJ0_checkBoundsOffCount_cabcc 2 = .ok (.iload_n 2, 1) := by decide +kernel
theorem dJ0_checkBoundsOffCount_cabcc_3 : decode cJ0_checkBoundsOffCount_cabcc 3 = .ok (.getstatic 1053, 3) := by decide +kernel
theorem dJ0_checkBoundsOffCount_cabcc_6 : decode cJ0_checkBoundsOffCount_cabcc 6 = .ok (.invokestatic 1065, 3) := by decide +kernel
theorem dJ0_checkBoundsOffCount_cabcc_9 : decode cJ0_checkBoundsOffCount_cabcc 9 = .ok (.ireturn, 1) := by decide +kernel
theorem dJ0_checkBoundsBeginEnd_23922_0 : decode cJ0_checkBoundsBeginEnd_23922 0 = .ok (.iload_n 0, 1) := by decide +kernel
theorem dJ0_checkBoundsBeginEnd_23922_1 : decode cJ0_checkBoundsBeginEnd_23922 1 = .ok (.iload_n 1, 1) := by decide +kernel
theorem dJ0_checkBoundsBeginEnd_23922_2 : decode cJ0_checkBoundsBeginEnd_23922 2 = .ok (.iload_n 2, 1) := by decide +kernel
theorem dJ0_checkBoundsBeginEnd_23922_3 : decode cJ0_checkBoundsBeginEnd_23922 3 = .ok (.getstatic 1053, 3) := by decide +kernel
theorem dJ0_checkBoundsBeginEnd_23922_6 : decode cJ0_checkBoundsBeginEnd_23922 6 = .ok (.invokestatic 1062, 3) := by decide +kernel
theorem dJ0_checkBoundsBeginEnd_23922_9 : decode cJ0_checkBoundsBeginEnd_23922 9 = .ok (.pop, 1) := by decide +kernel
theorem dJ0_checkBoundsBeginEnd_23922_10 : decode cJ0_checkBoundsBeginEnd_23922 10 = .ok (.return_, 1) := by decide +kernel
theorem dJ4_init_da8c8_0 : decode cJ4_init_da8c8 0 = .ok (.aload_n 0, 1) := by decide +kernel
theorem dJ4_init_da8c8_1 : decode cJ4_init_da8c8 1 = .ok (.bipush 16, 2) := by decide +kernel
theorem dJ4_init_da8c8_3 : decode cJ4_init_da8c8 3 = .ok (.invokespecial 1, 3) := by decide +kernel
theorem dJ4_init_da8c8_6 : decode cJ4_init_da8c8 6 = .ok (.return_, 1) := by decide +kernel
theorem dJ4_init_a7421_0 : decode cJ4_init_a7421 0 = .ok (.aload_n 0, 1) := by decide +kernel
theorem dJ4_init_a7421_1 : decode cJ4_init_a7421 1 = .ok (.aload_n 1, 1) := by decide +kernel
theorem dJ4_init_a7421_2 : decode cJ4_init_a7421 2 = .ok (.invokespecial 7, 3) := by decide +kernel
theorem dJ4_init_a7421_5 : decode cJ4_init_a7421 5 = .ok (.return_, 1) := by decide +kernel
theorem dJ4_append_15ec4_0 : decode cJ4_append_15ec4 0 = .ok (.aload_n 0, 1) := by decide +kernel
theorem dJ4_append_15ec4_1 : decode cJ4_append_15ec4 1 = .ok (.aload_n 1, 1) := by decide +kernel
theorem dJ4_append_15ec4_2 : decode cJ4_append_15ec4 2 = .ok (.invokespecial 29, 3) := by decide +kernel
theorem dJ4_append_15ec4_5 : decode cJ4_append_15ec4 5 = .ok (.pop, 1) := by decide +kernel
theorem dJ4_append_15ec4_6 : decode cJ4_append_15ec4 6 = .ok (.aload_n 0, 1) := by decide +kernel
theorem dJ4_append_15ec4_7 : decode cJ4_append_15ec4 7 = .ok (.areturn, 1) := by decide +kernel
theorem dJ4_append_cf468_0 : decode cJ4_append_cf468 0 = .ok (.aload_n 0, 1) := by decide +kernel
theorem dJ4_append_cf468_1 : decode cJ4_append_cf468 1 = .ok (.iload_n 1, 1) := by decide +kernel
theorem dJ4_append_cf468_2 : decode cJ4_append_cf468 2 = .ok (.invokespecial 50, 3) := by decide +kernel
theorem dJ4_append_cf468_5 : decode cJ4_append_cf468 5 = .ok (.pop, 1) := by decide +kernel
theorem dJ4_append_cf468_6 : decode cJ4_append_cf468 6 = .ok (.aload_n 0, 1) := by decide +kernel
theorem dJ4_append_cf468_7 : decode cJ4_append_cf468 7 = .ok (.areturn, 1) := by decide +kernel
theorem dJ4_append_bf812_0 : decode cJ4_append_bf812 0 = .ok (.aload_n 0, 1) := by decide +kernel
theorem dJ4_append_bf812_1 : decode cJ4_append_bf812 1 = .ok (.iload_n 1, 1) := by decide +kernel
theorem dJ4_append_bf812_2 : decode cJ4_append_bf812 2 = .ok (.invokespecial 53, 3) := by decide +kernel
theorem dJ4_append_bf812_5 : decode cJ4_append_bf812 5 = .ok (.pop, 1) := by decide +kernel
theorem dJ4_append_bf812_6 : decode cJ4_append_bf812 6 = .ok (.aload_n 0, 1) := by decide +kernel
theorem dJ4_append_bf812_7 : decode cJ4_append_bf812 7 = .ok (.areturn, 1) := by decide +kernel
theorem dJ4_toString_0e30d_0 : decode cJ4_toString_0e30d 0 = .ok (.new 18, 3) := by decide +kernel
theorem dJ4_toString_0e30d_3 : decode cJ4_toString_0e30d 3 = .ok (.dup, 1) := by decide +kernel
theorem dJ4_toString_0e30d_4 : decode cJ4_toString_0e30d 4 = .ok (.aload_n 0, 1) := by decide +kernel
theorem dJ4_toString_0e30d_5 : decode cJ4_toString_0e30d 5 = .ok (.invokespecial 137, 3) := by decide +kernel
theorem dJ4_toString_0e30d_8 : decode cJ4_toString_0e30d 8 = .ok (.areturn, 1) := by decide +kernel
theorem dJ4_append_cf1ce_0 : decode cJ4_append_cf1ce 0 = .ok (.aload_n 0, 1) := by decide +kernel
theorem dJ4_append_cf1ce_1 : decode cJ4_append_cf1ce 1 = .ok (.aload_n 1, 1) := by decide +kernel
theorem dJ4_append_cf1ce_2 : decode cJ4_append_cf1ce 2 = .ok (.invokevirtual 23, 3) := by decide +kernel
theorem dJ4_append_cf1ce_5 : decode cJ4_append_cf1ce 5 = .ok (.areturn, 1) := by decide +kernel
theorem dJ4_length_8abf5_0 : decode cJ4_length_8abf5 0 = .ok (.aload_n 0, 1) := by decide +kernel
theorem dJ4_length_8abf5_1 : decode cJ4_length_8abf5 1 = .ok (.invokespecial 343, 3) := by decide +kernel
theorem dJ4_length_8abf5_4 : decode cJ4_length_8abf5 4 = .ok (.ireturn, 1) := by decide +kernel
theorem dJ1_charAt_3b067_0 : decode cJ1_charAt_3b067 0 = .ok (.iload_n 1, 1) := by decide +kernel
theorem dJ1_charAt_3b067_1 : decode cJ1_charAt_3b067 1 = .ok (.aload_n 0, 1) := by decide +kernel
theorem dJ1_charAt_3b067_2 : decode cJ1_charAt_3b067 2 = .ok (.arraylength, 1) := by decide +kernel
theorem dJ1_charAt_3b067_3 : decode cJ1_charAt_3b067 3 = .ok (.invokestatic 9, 3) := by decide +kernel
theorem dJ1_charAt_3b067_6 : decode cJ1_charAt_3b067 6 = .ok (.aload_n 0, 1) := by decide +kernel
theorem dJ1_charAt_3b067_7 : decode cJ1_charAt_3b067 7 = .ok (.iload_n 1, 1) := by decide +kernel
theorem dJ1_charAt_3b067_8 : decode cJ1_charAt_3b067 8 = .ok (.baload, 1) := by decide +kernel
theorem dJ1_charAt_3b067_9 : decode cJ1_charAt_3b067 9 = .ok (.sipush 255, 3) := by decide +kernel
theorem dJ1_charAt_3b067_12 : decode cJ1_charAt_3b067 12 = .ok (.iand, 1) := by decide +kernel
theorem dJ1_charAt_3b067_13 : decode cJ1_charAt_3b067 13 = .ok (.i2c, 1) := by decide +kernel
theorem dJ1_charAt_3b067_14 : decode cJ1_charAt_3b067 14 = .ok (.ireturn, 1) := by decide +kernel
theorem dJ1_canEncode_fc78d_0 : decode cJ1_canEncode_fc78d 0 = .ok (.iload_n 0, 1) := by decide +kernel
theorem dJ1_canEncode_fc78d_1 : decode cJ1_canEncode_fc78d 1 = .ok (.sipush 255, 3) := by decide +kernel
theorem dJ1_canEncode_fc78d_4 : decode cJ1_canEncode_fc78d 4 = .ok (.if_icmp .gt 7, 3) := by decide +kernel
theorem dJ1_canEncode_fc78d_7 : decode cJ1_canEncode_fc78d 7 = .ok (.iconst 1, 1) := by decide +kernel
theorem dJ1_canEncode_fc78d_8 : decode cJ1_canEncode_fc78d 8 = .ok (.goto 4, 3) := by decide +kernel
theorem dJ1_canEncode_fc78d_11 : decode cJ1_canEncode_fc78d 11 = .ok (.iconst 0, 1) := by decide +kernel
theorem dJ1_canEncode_fc78d_12 : decode cJ1_canEncode_fc78d 12 = .ok (.ireturn, 1) := by decide +kernel
theorem dJ1_inflate_0e8fd_0 : decode cJ1_inflate_0e8fd 0 = .ok (.aload_n 0, 1) := by decide +kernel
theorem dJ1_inflate_0e8fd_1 : decode cJ1_inflate_0e8fd 1 = .ok (.iload_n 1, 1) := by decide +kernel
theorem dJ1_inflate_0e8fd_2 : decode cJ1_inflate_0e8fd 2 = .ok (.aload_n 2, 1) := by decide +kernel
theorem dJ1_inflate_0e8fd_3 : decode cJ1_inflate_0e8fd 3 = .ok (.iload_n 3, 1) := by decide +kernel
theorem dJ1_inflate_0e8fd_4 : decode cJ1_inflate_0e8fd 4 = .ok (.iload 4, 2) := by decide +kernel
theorem dJ1_inflate_0e8fd_6 : decode cJ1_inflate_0e8fd 6 = .ok (.invokestatic 240, 3) := by decide +kernel
theorem dJ1_inflate_0e8fd_9 : decode cJ1_inflate_0e8fd 9 = .ok (.return_, 1) := by decide +kernel
theorem dJ2_newBytesFor_77867_0 : decode cJ2_newBytesFor_77867 0 = .ok (.iload_n 0, 1) := by decide +kernel
theorem dJ2_newBytesFor_77867_1 : decode cJ2_newBytesFor_77867 1 = .ok (.invokestatic 11, 3) := by decide +kernel
theorem dJ2_newBytesFor_77867_4 : decode cJ2_newBytesFor_77867 4 = .ok (.newarray .byte, 2) := by decide +kernel
theorem dJ2_newBytesFor_77867_6 : decode cJ2_newBytesFor_77867 6 = .ok (.areturn, 1) := by decide +kernel
theorem dJ2_newBytesLength_0f7a4_0 : decode cJ2_newBytesLength_0f7a4 0 = .ok (.iload_n 0, 1) := by decide +kernel
theorem dJ2_newBytesLength_0f7a4_1 : decode cJ2_newBytesLength_0f7a4 1 = .ok (.ifCond .ge 11, 3) := by decide +kernel
theorem dJ2_newBytesLength_0f7a4_4 : decode cJ2_newBytesLength_0f7a4 4 = .ok (.new 17, 3) := by decide +kernel
theorem dJ2_newBytesLength_0f7a4_7 : decode cJ2_newBytesLength_0f7a4 7 = .ok (.dup, 1) := by decide +kernel
theorem dJ2_newBytesLength_0f7a4_8 : decode cJ2_newBytesLength_0f7a4 8 = .ok (.invokespecial 19, 3) := by decide +kernel
theorem dJ2_newBytesLength_0f7a4_11 : decode cJ2_newBytesLength_0f7a4 11 = .ok (.athrow, 1) := by decide +kernel
theorem dJ2_newBytesLength_0f7a4_12 : decode cJ2_newBytesLength_0f7a4 12 = .ok (.iload_n 0, 1) := by decide +kernel
theorem dJ2_newBytesLength_0f7a4_13 : decode cJ2_newBytesLength_0f7a4 13 = .ok (.ldc 20, 2) := by decide +kernel
theorem dJ2_newBytesLength_0f7a4_15 : decode cJ2_newBytesLength_0f7a4 15 = .ok (.if_icmp .lt 40, 3) := by decide +kernel
theorem dJ2_newBytesLength_0f7a4_18 : decode cJ2_newBytesLength_0f7a4 18 = .ok (.new 21, 3) := by decide +kernel
theorem dJ2_newBytesLength_0f7a4_21 : decode cJ2_newBytesLength_0f7a4 21 = .ok (.dup, 1) := by decide +kernel
theorem dJ2_newBytesLength_0f7a4_22 : decode cJ2_newBytesLength_0f7a4 22 = .ok (.new 23, 3) := by decide +kernel
theorem dJ2_newBytesLength_0f7a4_25 : decode cJ2_newBytesLength_0f7a4 25 = .ok (.dup, 1) := by decide +kernel
theorem dJ2_newBytesLength_0f7a4_26 : decode cJ2_newBytesLength_0f7a4 26 = .ok (.invokespecial 25, 3) := by decide +kernel
theorem dJ2_newBytesLength_0f7a4_29 : decode cJ2_newBytesLength_0f7a4 29 = .ok (.ldc 26, 2) := by decide +kernel
theorem dJ2_newBytesLength_0f7a4_31 : decode cJ2_newBytesLength_0f7a4 31 = .ok (.invokevirtual 28, 3) := by decide +kernel
theorem dJ2_newBytesLength_0f7a4_34 : decode cJ2_newBytesLength_0f7a4 34 = .ok (.iload_n 0, 1) := by decide +kernel
theorem dJ2_newBytesLength_0f7a4_35 : decode cJ2_newBytesLength_0f7a4 35 = .ok (.invokevirtual 32, 3) := by decide +kernel
theorem dJ2_newBytesLength_0f7a4_38 : decode cJ2_newBytesLength_0f7a4 38 = .ok (.ldc 35, 2) := by decide +kernel
theorem dJ2_newBytesLength_0f7a4_40 : decode cJ2_newBytesLength_0f7a4 40 = .ok (.invokevirtual 28, 3) := by decide +kernel
theorem dJ2_newBytesLength_0f7a4_43 : decode cJ2_newBytesLength_0f7a4 43 = .ok (.ldc 20, 2) := by decide +kernel
theorem dJ2_newBytesLength_0f7a4_45 : decode cJ2_newBytesLength_0f7a4 45 = .ok (.invokevirtual 32, 3) := by decide +kernel
theorem dJ2_newBytesLength_0f7a4_48 : decode cJ2_newBytesLength_0f7a4 48 = .ok (.invokevirtual 37, 3) := by decide +kernel
theorem dJ2_newBytesLength_0f7a4_51 : decode cJ2_newBytesLength_0f7a4 51 = .ok (.invokespecial 41, 3) := by decide +kernel
theorem dJ2_newBytesLength_0f7a4_54 : decode cJ2_newBytesLength_0f7a4 54 = .ok (.athrow, 1) := by decide +kernel
theorem dJ2_newBytesLength_0f7a4_55 : decode cJ2_newBytesLength_0f7a4 55 = .ok (.iload_n 0, 1) := by decide +kernel
theorem dJ2_newBytesLength_0f7a4_56 : decode cJ2_newBytesLength_0f7a4 56 = .ok (.iconst 1, 1) := by decide +kernel
theorem dJ2_newBytesLength_0f7a4_57 : decode cJ2_newBytesLength_0f7a4 57 = .ok (.ishl, 1) := by decide +kernel
theorem dJ2_newBytesLength_0f7a4_58 : decode cJ2_newBytesLength_0f7a4 58 = .ok (.ireturn, 1) := by decide +kernel
theorem dJ2_putChar_b72d1_0 : decode cJ2_putChar_b72d1 0 = .ok (.getstatic 44, 3) := by decide +kernel
theorem dJ2_putChar_b72d1_3 : decode cJ2_putChar_b72d1 3 = .ok (.ifCond .ne 25, 3) := by decide +kernel
theorem dJ2_putChar_b72d1_6 : decode cJ2_putChar_b72d1 6 = .ok (.iload_n 1, 1) := by decide +kernel
theorem dJ2_putChar_b72d1_7 : decode cJ2_putChar_b72d1 7 = .ok (.ifCond .lt 11, 3) := by decide +kernel
theorem dJ2_putChar_b72d1_10 : decode cJ2_putChar_b72d1 10 = .ok (.iload_n 1, 1) := by decide +kernel
theorem dJ2_putChar_b72d1_11 : decode cJ2_putChar_b72d1 11 = .ok (.aload_n 0, 1) := by decide +kernel
theorem dJ2_putChar_b72d1_12 : decode cJ2_putChar_b72d1 12 = .ok (.invokestatic 48, 3) := by decide +kernel
theorem dJ2_putChar_b72d1_15 : decode cJ2_putChar_b72d1 15 = .ok (.if_icmp .lt 13, 3) := by decide +kernel
theorem dJ2_putChar_b72d1_18 : decode cJ2_putChar_b72d1 18 = .ok (.new 52, 3) := by decide +kernel
theorem dJ2_putChar_b72d1_21 : decode cJ2_putChar_b72d1 21 = .ok (.dup, 1) := by decide +kernel
theorem dJ2_putChar_b72d1_22 : decode cJ2_putChar_b72d1 22 = .ok (.ldc 54, 2) := by decide +kernel
theorem dJ2_putChar_b72d1_24 : decode cJ2_putChar_b72d1 24 = .ok (.invokespecial 56, 3) := by decide +kernel
theorem dJ2_putChar_b72d1_27 : decode cJ2_putChar_b72d1 27 = .ok (.athrow, 1) := by decide +kernel
theorem dJ2_putChar_b72d1_28 : decode cJ2_putChar_b72d1 28 = .ok (.iload_n 1, 1) := by decide +kernel
theorem dJ2_putChar_b72d1_29 : decode cJ2_putChar_b72d1 29 = .ok (.iconst 1, 1) := by decide +kernel
theorem dJ2_putChar_b72d1_30 : decode cJ2_putChar_b72d1 30 = .ok (.ishl, 1) := by decide +kernel
theorem dJ2_putChar_b72d1_31 : decode cJ2_putChar_b72d1 31 = .ok (.istore_n 1, 1) := by decide +kernel
theorem dJ2_putChar_b72d1_32 : decode cJ2_putChar_b72d1 32 = .ok (.aload_n 0, 1) := by decide +kernel
theorem dJ2_putChar_b72d1_33 : decode cJ2_putChar_b72d1 33 = .ok (.iload_n 1, 1) := by decide +kernel
theorem dJ2_putChar_b72d1_34 : decode cJ2_putChar_b72d1 34 = .ok (.iinc 1 1, 3) := by decide +kernel
theorem dJ2_putChar_b72d1_37 : decode cJ2_putChar_b72d1 37 = .ok (.iload_n 2, 1) := by decide +kernel
theorem dJ2_putChar_b72d1_38 : decode cJ2_putChar_b72d1 38 = .ok (.getstatic 59, 3) := by decide +kernel
theorem dJ2_putChar_b72d1_41 : decode cJ2_putChar_b72d1 41 = .ok (.ishr, 1) := by decide +kernel
theorem dJ2_putChar_b72d1_42 : decode cJ2_putChar_b72d1 42 = .ok (.i2b, 1) := by decide +kernel
theorem dJ2_putChar_b72d1_43 : decode cJ2_putChar_b72d1 43 = .ok (.bastore, 1) := by decide +kernel
theorem dJ2_putChar_b72d1_44 : decode cJ2_putChar_b72d1 44 = .ok (.aload_n 0, 1) := by decide +kernel
theorem dJ2_putChar_b72d1_45 : decode cJ2_putChar_b72d1 45 = .ok (.iload_n 1, 1) := by decide +kernel
theorem dJ2_putChar_b72d1_46 : decode cJ2_putChar_b72d1 46 = .ok (.iload_n 2, 1) := by decide +kernel
theorem dJ2_putChar_b72d1_47 : decode cJ2_putChar_b72d1 47 = .ok (.getstatic 63, 3) := by decide +kernel
theorem dJ2_putChar_b72d1_50 : decode cJ2_putChar_b72d1 50 = .ok (.ishr, 1) := by decide +kernel
theorem dJ2_putChar_b72d1_51 : decode cJ2_putChar_b72d1 51 = .ok (.i2b, 1) := by decide +kernel
theorem dJ2_putChar_b72d1_52 : decode cJ2_putChar_b72d1 52 = .ok (.bastore, 1) := by decide +kernel
theorem dJ2_putChar_b72d1_53 : decode cJ2_putChar_b72d1 53 = .ok (.return_, 1) := by decide +kernel
theorem dJ2_getChar_3b067_0 : decode cJ2_getChar_3b067 0 = .ok (.getstatic 44, 3) := by decide +kernel
theorem dJ2_getChar_3b067_3 : decode cJ2_getChar_3b067 3 = .ok (.ifCond .ne 25, 3) := by decide +kernel
theorem dJ2_getChar_3b067_6 : decode cJ2_getChar_3b067 6 = .ok (.iload_n 1, 1) := by decide +kernel
theorem dJ2_getChar_3b067_7 : decode cJ2_getChar_3b067 7 = .ok (.ifCond .lt 11, 3) := by decide +kernel
theorem dJ2_getChar_3b067_10 : decode cJ2_getChar_3b067 10 = .ok (.iload_n 1, 1) := by decide +kernel
theorem dJ2_getChar_3b067_11 : decode cJ2_getChar_3b067 11 = .ok (.aload_n 0, 1) := by decide +kernel
theorem dJ2_getChar_3b067_12 : decode cJ2_getChar_3b067 12 = .ok (.invokestatic 48, 3) := by decide +kernel
theorem dJ2_getChar_3b067_15 : decode cJ2_getChar_3b067 15 = .ok (.if_icmp .lt 13, 3) := by decide +kernel
theorem dJ2_getChar_3b067_18 : decode cJ2_getChar_3b067 18 = .ok (.new 52, 3) := by decide +kernel
theorem dJ2_getChar_3b067_21 : decode cJ2_getChar_3b067 21 = .ok (.dup, 1) := by decide +kernel
theorem dJ2_getChar_3b067_22 : decode cJ2_getChar_3b067 22 = .ok (.ldc 54, 2) := by decide +kernel
theorem dJ2_getChar_3b067_24 : decode cJ2_getChar_3b067 24 = .ok (.invokespecial 56, 3) := by decide +kernel
theorem dJ2_getChar_3b067_27 : decode cJ2_getChar_3b067 27 = .ok (.athrow, 1) := by decide +kernel
theorem dJ2_getChar_3b067_28 : decode cJ2_getChar_3b067 28 = .ok (.iload_n 1, 1) := by decide +kernel
theorem dJ2_getChar_3b067_29 : decode cJ2_getChar_3b067 29 = .ok (.iconst 1, 1) := by decide +kernel
theorem dJ2_getChar_3b067_30 : decode cJ2_getChar_3b067 30 = .ok (.ishl, 1) := by decide +kernel
theorem dJ2_getChar_3b067_31 : decode cJ2_getChar_3b067 31 = .ok (.istore_n 1, 1) := by decide +kernel
theorem dJ2_getChar_3b067_32 : decode cJ2_getChar_3b067 32 = .ok (.aload_n 0, 1) := by decide +kernel
theorem dJ2_getChar_3b067_33 : decode cJ2_getChar_3b067 33 = .ok (.iload_n 1, 1) := by decide +kernel
theorem dJ2_getChar_3b067_34 : decode cJ2_getChar_3b067 34 = .ok (.iinc 1 1, 3) := by decide +kernel
theorem dJ2_getChar_3b067_37 : decode cJ2_getChar_3b067 37 = .ok (.baload, 1) := by decide +kernel
theorem dJ2_getChar_3b067_38 : decode cJ2_getChar_3b067 38 = .ok (.sipush 255, 3) := by decide +kernel
theorem dJ2_getChar_3b067_41 : decode cJ2_getChar_3b067 41 = .ok (.iand, 1) := by decide +kernel
theorem dJ2_getChar_3b067_42 : decode cJ2_getChar_3b067 42 = .ok (.getstatic 59, 3) := by decide +kernel
theorem dJ2_getChar_3b067_45 : decode cJ2_getChar_3b067 45 = .ok (.ishl, 1) := by decide +kernel
theorem dJ2_getChar_3b067_46 : decode cJ2_getChar_3b067 46 = .ok (.aload_n 0, 1) := by decide +kernel
theorem dJ2_getChar_3b067_47 : decode cJ2_getChar_3b067 47 = .ok (.iload_n 1, 1) := by decide +kernel
theorem dJ2_getChar_3b067_48 : decode cJ2_getChar_3b067 48 = .ok (.baload, 1) := by decide +kernel
theorem dJ2_getChar_3b067_49 : decode cJ2_getChar_3b067 49 = .ok (.sipush 255, 3) := by decide +kernel
theorem dJ2_getChar_3b067_52 : decode cJ2_getChar_3b067 52 = .ok (.iand, 1) := by decide +kernel
theorem dJ2_getChar_3b067_53 : decode cJ2_getChar_3b067 53 = .ok (.getstatic 63, 3) := by decide +kernel
theorem dJ2_getChar_3b067_56 : decode cJ2_getChar_3b067 56 = .ok (.ishl, 1) := by decide +kernel
theorem dJ2_getChar_3b067_57 : decode cJ2_getChar_3b067 57 = .ok (.ior, 1) := by decide +kernel
theorem dJ2_getChar_3b067_58 : decode cJ2_getChar_3b067 58 = .ok (.i2c, 1) := by decide +kernel
theorem dJ2_getChar_3b067_59 : decode cJ2_getChar_3b067 59 = .ok (.ireturn, 1) := by decide +kernel
theorem dJ2_length_9d52b_0 : decode cJ2_length_9d52b 0 = .ok (.aload_n 0, 1) := by decide +kernel
theorem dJ2_length_9d52b_1 : decode cJ2_length_9d52b 1 = .ok (.arraylength, 1) := by decide +kernel
theorem dJ2_length_9d52b_2 : decode cJ2_length_9d52b 2 = .ok (.iconst 1, 1) := by decide +kernel
theorem dJ2_length_9d52b_3 : decode cJ2_length_9d52b 3 = .ok (.ishr, 1) := by decide +kernel
theorem dJ2_length_9d52b_4 : decode cJ2_length_9d52b 4 = .ok (.ireturn, 1) := by decide +kernel
theorem dJ2_coderFromArrayLen_85cad_0 : decode cJ2_coderFromArrayLen_85cad 0 = .ok (.iload_n 1, 1) := by decide +kernel
theorem dJ2_coderFromArrayLen_85cad_1 : decode cJ2_coderFromArrayLen_85cad 1 = .ok (.aload_n 0, 1) := by decide +kernel
theorem dJ2_coderFromArrayLen_85cad_2 : decode cJ2_coderFromArrayLen_85cad 2 = .ok (.arraylength, 1) := by decide +kernel
theorem dJ2_coderFromArrayLen_85cad_3 : decode cJ2_coderFromArrayLen_85cad 3 = .ok (.isub, 1) := by decide +kernel
theorem dJ2_coderFromArrayLen_85cad_4 : decode cJ2_coderFromArrayLen_85cad 4 = .ok (.bipush 31, 2) := by decide +kernel
theorem dJ2_coderFromArrayLen_85cad_6 : decode cJ2_coderFromArrayLen_85cad 6 = .ok (.iushr, 1) := by decide +kernel
theorem dJ2_coderFromArrayLen_85cad_7 : decode cJ2_coderFromArrayLen_85cad 7 = .ok (.i2b, 1) := by decide +kernel
theorem dJ2_coderFromArrayLen_85cad_8 : decode cJ2_coderFromArrayLen_85cad 8 = .ok (.ireturn, 1) := by decide +kernel
theorem dJ2_compress_39247_0 : decode cJ2_compress_39247 0 = .ok (.iload_n 2, 1) := by decide +kernel
theorem dJ2_compress_39247_1 : decode cJ2_compress_39247 1 = .ok (.newarray .byte, 2) := by decide +kernel
theorem dJ2_compress_39247_3 : decode cJ2_compress_39247 3 = .ok (.astore_n 3, 1) := by decide +kernel
theorem dJ2_compress_39247_4 : decode cJ2_compress_39247 4 = .ok (.aload_n 0, 1) := by decide +kernel
theorem dJ2_compress_39247_5 : decode cJ2_compress_39247 5 = .ok (.iload_n 1, 1) := by decide +kernel
theorem dJ2_compress_39247_6 : decode cJ2_compress_39247 6 = .ok (.aload_n 3, 1) := by decide +kernel
theorem dJ2_compress_39247_7 : decode cJ2_compress_39247 7 = .ok (.iconst 0, 1) := by decide +kernel
theorem dJ2_compress_39247_8 : decode cJ2_compress_39247 8 = .ok (.iload_n 2, 1) := by decide +kernel
theorem dJ2_compress_39247_9 : decode cJ2_compress_39247 9 = .ok (.invokestatic 123, 3) := by decide +kernel
theorem dJ2_compress_39247_12 : decode cJ2_compress_39247 12 = .ok (.istore 4, 2) := by decide +kernel
theorem dJ2_compress_39247_14 : decode cJ2_compress_39247 14 = .ok (.iload 4, 2) := by decide +kernel
theorem dJ2_compress_39247_16 : decode cJ2_compress_39247 16 = .ok (.iload_n 2, 1) := by decide +kernel
theorem dJ2_compress_39247_17 : decode cJ2_compress_39247 17 = .ok (.if_icmp .eq 47, 3) := by decide +kernel
theorem dJ2_compress_39247_20 : decode cJ2_compress_39247 20 = .ok (.aload_n 0, 1) := by decide +kernel
theorem dJ2_compress_39247_21 : decode cJ2_compress_39247 21 = .ok (.iload_n 1, 1) := by decide +kernel
theorem dJ2_compress_39247_22 : decode cJ2_compress_39247 22 = .ok (.iconst 1, 1) := by decide +kernel
theorem dJ2_compress_39247_23 : decode cJ2_compress_39247 23 = .ok (.ishl, 1) := by decide +kernel
theorem dJ2_compress_39247_24 : decode cJ2_compress_39247 24 = .ok (.iload_n 1, 1) := by decide +kernel
theorem dJ2_compress_39247_25 : decode cJ2_compress_39247 25 = .ok (.iload_n 2, 1) := by decide +kernel
theorem dJ2_compress_39247_26 : decode cJ2_compress_39247 26 = .ok (.iadd, 1) := by decide +kernel
theorem dJ2_compress_39247_27 : decode cJ2_compress_39247 27 = .ok (.invokestatic 11, 3) := by decide +kernel
theorem dJ2_compress_39247_30 : decode cJ2_compress_39247 30 = .ok (.invokestatic 126, 3) := by decide +kernel
theorem dJ2_compress_39247_33 : decode cJ2_compress_39247 33 = .ok (.astore 5, 2) := by decide +kernel
theorem dJ2_compress_39247_35 : decode cJ2_compress_39247 35 = .ok (.aload 5, 2) := by decide +kernel
theorem dJ2_compress_39247_37 : decode cJ2_compress_39247 37 = .ok (.iload 4, 2) := by decide +kernel
theorem dJ2_compress_39247_39 : decode cJ2_compress_39247 39 = .ok (.invokestatic 71, 3) := by decide +kernel
theorem dJ2_compress_39247_42 : decode cJ2_compress_39247 42 = .ok (.sipush 255, 3) := by decide +kernel
theorem dJ2_compress_39247_45 : decode cJ2_compress_39247 45 = .ok (.if_icmp .gt 16, 3) := by decide +kernel
theorem dJ2_compress_39247_48 : decode cJ2_compress_39247 48 = .ok (.aload 5, 2) := by decide +kernel
theorem dJ2_compress_39247_50 : decode cJ2_compress_39247 50 = .ok (.iconst 0, 1) := by decide +kernel
theorem dJ2_compress_39247_51 : decode cJ2_compress_39247 51 = .ok (.aload_n 3, 1) := by decide +kernel
theorem dJ2_compress_39247_52 : decode cJ2_compress_39247 52 = .ok (.iconst 0, 1) := by decide +kernel
theorem dJ2_compress_39247_53 : decode cJ2_compress_39247 53 = .ok (.iload_n 2, 1) := by decide +kernel
theorem dJ2_compress_39247_54 : decode cJ2_compress_39247 54 = .ok (.invokestatic 123, 3) := by decide +kernel
theorem dJ2_compress_39247_57 : decode cJ2_compress_39247 57 = .ok (.iload_n 2, 1) := by decide +kernel
theorem dJ2_compress_39247_58 : decode cJ2_compress_39247 58 = .ok (.if_icmp .eq 6, 3) := by decide +kernel
theorem dJ2_compress_39247_61 : decode cJ2_compress_39247 61 = .ok (.aload 5, 2) := by decide +kernel
theorem dJ2_compress_39247_63 : decode cJ2_compress_39247 63 = .ok (.areturn, 1) := by decide +kernel
theorem dJ2_compress_39247_64 : decode cJ2_compress_39247 64 = .ok (.aload_n 3, 1) := by decide +kernel
theorem dJ2_compress_39247_65 : decode cJ2_compress_39247 65 = .ok (.areturn, 1) := by decide +kernel
theorem dJ2_compress_5af95_0 : decode cJ2_compress_5af95 0 = .ok (.iload_n 1, 1) := by decide +kernel
theorem dJ2_compress_5af95_1 : decode cJ2_compress_5af95 1 = .ok (.iload 4, 2) := by decide +kernel
theorem dJ2_compress_5af95_3 : decode cJ2_compress_5af95 3 = .ok (.aload_n 0, 1) := by decide +kernel
theorem dJ2_compress_5af95_4 : decode cJ2_compress_5af95 4 = .ok (.invokestatic 173, 3) := by decide +kernel
theorem dJ2_compress_5af95_7 : decode cJ2_compress_5af95 7 = .ok (.iconst 0, 1) := by decide +kernel
theorem dJ2_compress_5af95_8 : decode cJ2_compress_5af95 8 = .ok (.istore 5, 2) := by decide +kernel
theorem dJ2_compress_5af95_10 : decode cJ2_compress_5af95 10 = .ok (.iload 5, 2) := by decide +kernel
theorem dJ2_compress_5af95_12 : decode cJ2_compress_5af95 12 = .ok (.iload 4, 2) := by decide +kernel
theorem dJ2_compress_5af95_14 : decode cJ2_compress_5af95 14 = .ok (.if_icmp .ge 39, 3) := by decide +kernel
theorem dJ2_compress_5af95_17 : decode cJ2_compress_5af95 17 = .ok (.aload_n 0, 1) := by decide +kernel
theorem dJ2_compress_5af95_18 : decode cJ2_compress_5af95 18 = .ok (.iload_n 1, 1) := by decide +kernel
theorem dJ2_compress_5af95_19 : decode cJ2_compress_5af95 19 = .ok (.invokestatic 71, 3) := by decide +kernel
theorem dJ2_compress_5af95_22 : decode cJ2_compress_5af95 22 = .ok (.istore 6, 2) := by decide +kernel
theorem dJ2_compress_5af95_24 : decode cJ2_compress_5af95 24 = .ok (.iload 6, 2) := by decide +kernel
theorem dJ2_compress_5af95_26 : decode cJ2_compress_5af95 26 = .ok (.sipush 255, 3) := by decide +kernel
theorem dJ2_compress_5af95_29 : decode cJ2_compress_5af95 29 = .ok (.if_icmp .le 6, 3) := by decide +kernel
theorem dJ2_compress_5af95_32 : decode cJ2_compress_5af95 32 = .ok (.iload 5, 2) := by decide +kernel
theorem dJ2_compress_5af95_34 : decode cJ2_compress_5af95 34 = .ok (.ireturn, 1) := by decide +kernel
theorem dJ2_compress_5af95_35 : decode cJ2_compress_5af95 35 = .ok (.aload_n 2, 1) := by decide +kernel
theorem dJ2_compress_5af95_36 : decode cJ2_compress_5af95 36 = .ok (.iload_n 3, 1) := by decide +kernel
theorem dJ2_compress_5af95_37 : decode cJ2_compress_5af95 37 = .ok (.iload 6, 2) := by decide +kernel
theorem dJ2_compress_5af95_39 : decode cJ2_compress_5af95 39 = .ok (.i2b, 1) := by decide +kernel
theorem dJ2_compress_5af95_40 : decode cJ2_compress_5af95 40 = .ok (.bastore, 1) := by decide +kernel
theorem dJ2_compress_5af95_41 : decode cJ2_compress_5af95 41 = .ok (.iinc 1 1, 3) := by decide +kernel
theorem dJ2_compress_5af95_44 : decode cJ2_compress_5af95 44 = .ok (.iinc 3 1, 3) := by decide +kernel
theorem dJ2_compress_5af95_47 : decode cJ2_compress_5af95 47 = .ok (.iinc 5 1, 3) := by decide +kernel
theorem dJ2_compress_5af95_50 : decode cJ2_compress_5af95 50 = .ok (.goto (-40), 3) := by decide +kernel
theorem dJ2_compress_5af95_53 : decode cJ2_compress_5af95 53 = .ok (.iload 4, 2) := by decide +kernel
theorem dJ2_compress_5af95_55 : decode cJ2_compress_5af95 55 = .ok (.ireturn, 1) := by decide +kernel
theorem dJ2_putCharSB_b72d1_0 : decode cJ2_putCharSB_b72d1 0 = .ok (.iload_n 1, 1) := by decide +kernel
theorem dJ2_putCharSB_b72d1_1 : decode cJ2_putCharSB_b72d1 1 = .ok (.aload_n 0, 1) := by decide +kernel
theorem dJ2_putCharSB_b72d1_2 : decode cJ2_putCharSB_b72d1 2 = .ok (.invokestatic 67, 3) := by decide +kernel
theorem dJ2_putCharSB_b72d1_5 : decode cJ2_putCharSB_b72d1 5 = .ok (.aload_n 0, 1) := by decide +kernel
theorem dJ2_putCharSB_b72d1_6 : decode cJ2_putCharSB_b72d1 6 = .ok (.iload_n 1, 1) := by decide +kernel
theorem dJ2_putCharSB_b72d1_7 : decode cJ2_putCharSB_b72d1 7 = .ok (.iload_n 2, 1) := by decide +kernel
theorem dJ2_putCharSB_b72d1_8 : decode cJ2_putCharSB_b72d1 8 = .ok (.invokestatic 111, 3) := by decide +kernel
theorem dJ2_putCharSB_b72d1_11 : decode cJ2_putCharSB_b72d1 11 = .ok (.return_, 1) := by decide +kernel
theorem dJ2_getChars_46870_0 : decode cJ2_getChars_46870 0 = .ok (.iload_n 1, 1) := by decide +kernel
theorem dJ2_getChars_46870_1 : decode cJ2_getChars_46870 1 = .ok (.iload_n 2, 1) := by decide +kernel
theorem dJ2_getChars_46870_2 : decode cJ2_getChars_46870 2 = .ok (.aload_n 3, 1) := by decide +kernel
theorem dJ2_getChars_46870_3 : decode cJ2_getChars_46870 3 = .ok (.invokestatic 96, 3) := by decide +kernel
theorem dJ2_getChars_46870_6 : decode cJ2_getChars_46870 6 = .ok (.iload_n 0, 1) := by decide +kernel
theorem dJ2_getChars_46870_7 : decode cJ2_getChars_46870 7 = .ok (.iload_n 2, 1) := by decide +kernel
theorem dJ2_getChars_46870_8 : decode cJ2_getChars_46870 8 = .ok (.aload_n 3, 1) := by decide +kernel
theorem dJ2_getChars_46870_9 : decode cJ2_getChars_46870 9 = .ok (.invokestatic 393, 3) := by decide +kernel
theorem dJ2_getChars_46870_12 : decode cJ2_getChars_46870 12 = .ok (.istore 4, 2) := by decide +kernel
theorem dJ2_getChars_46870_14 : decode cJ2_getChars_46870 14 = .ok (.getstatic 44, 3) := by decide +kernel
theorem dJ2_getChars_46870_17 : decode cJ2_getChars_46870 17 = .ok (.ifCond .ne 17, 3) := by decide +kernel
theorem dJ2_getChars_46870_20 : decode cJ2_getChars_46870 20 = .ok (.iload_n 1, 1) := by decide +kernel
theorem dJ2_getChars_46870_21 : decode cJ2_getChars_46870 21 = .ok (.iload 4, 2) := by decide +kernel
theorem dJ2_getChars_46870_23 : decode cJ2_getChars_46870 23 = .ok (.if_icmp .eq 11, 3) := by decide +kernel
theorem dJ2_getChars_46870_26 : decode cJ2_getChars_46870 26 = .ok (.new 52, 3) := by decide +kernel
theorem dJ2_getChars_46870_29 : decode cJ2_getChars_46870 29 = .ok (.dup, 1) := by decide +kernel
theorem dJ2_getChars_46870_30 : decode cJ2_getChars_46870 30 = .ok (.invokespecial 66, 3) := by decide +kernel
theorem dJ2_getChars_46870_33 : decode cJ2_getChars_46870 33 = .ok (.athrow, 1) := by decide +kernel
theorem dJ2_getChars_46870_34 : decode cJ2_getChars_46870 34 = .ok (.iload 4, 2) := by decide +kernel
theorem dJ2_getChars_46870_36 : decode cJ2_getChars_46870 36 = .ok (.ireturn, 1) := by decide +kernel
theorem dJ2_putCharsAt_cd4e5_0 : decode cJ2_putCharsAt_cd4e5 0 = .ok (.iload_n 1, 1) := by decide +kernel
theorem dJ2_putCharsAt_cd4e5_1 : decode cJ2_putCharsAt_cd4e5 1 = .ok (.iconst 4, 1) := by decide +kernel
theorem dJ2_putCharsAt_cd4e5_2 : decode cJ2_putCharsAt_cd4e5 2 = .ok (.iadd, 1) := by decide +kernel
theorem dJ2_putCharsAt_cd4e5_3 : decode cJ2_putCharsAt_cd4e5 3 = .ok (.istore 6, 2) := by decide +kernel
theorem dJ2_putCharsAt_cd4e5_5 : decode cJ2_putCharsAt_cd4e5 5 = .ok (.iload_n 1, 1) := by decide +kernel
theorem dJ2_putCharsAt_cd4e5_6 : decode cJ2_putCharsAt_cd4e5 6 = .ok (.iload 6, 2) := by decide +kernel
theorem dJ2_putCharsAt_cd4e5_8 : decode cJ2_putCharsAt_cd4e5 8 = .ok (.aload_n 0, 1) := by decide +kernel
theorem dJ2_putCharsAt_cd4e5_9 : decode cJ2_putCharsAt_cd4e5 9 = .ok (.invokestatic 96, 3) := by decide +kernel
theorem dJ2_putCharsAt_cd4e5_12 : decode cJ2_putCharsAt_cd4e5 12 = .ok (.aload_n 0, 1) := by decide +kernel
theorem dJ2_putCharsAt_cd4e5_13 : decode cJ2_putCharsAt_cd4e5 13 = .ok (.iload_n 1, 1) := by decide +kernel
theorem dJ2_putCharsAt_cd4e5_14 : decode cJ2_putCharsAt_cd4e5 14 = .ok (.iinc 1 1, 3) := by decide +kernel
theorem dJ2_putCharsAt_cd4e5_17 : decode cJ2_putCharsAt_cd4e5 17 = .ok (.iload_n 2, 1) := by decide +kernel
theorem dJ2_putCharsAt_cd4e5_18 : decode cJ2_putCharsAt_cd4e5 18 = .ok (.invokestatic 111, 3) := by decide +kernel
theorem dJ2_putCharsAt_cd4e5_21 : decode cJ2_putCharsAt_cd4e5 21 = .ok (.aload_n 0, 1) := by decide +kernel
theorem dJ2_putCharsAt_cd4e5_22 : decode cJ2_putCharsAt_cd4e5 22 = .ok (.iload_n 1, 1) := by decide +kernel
theorem dJ2_putCharsAt_cd4e5_23 : decode cJ2_putCharsAt_cd4e5 23 = .ok (.iinc 1 1, 3) := by decide +kernel
theorem dJ2_putCharsAt_cd4e5_26 : decode cJ2_putCharsAt_cd4e5 26 = .ok (.iload_n 3, 1) := by decide +kernel
theorem dJ2_putCharsAt_cd4e5_27 : decode cJ2_putCharsAt_cd4e5 27 = .ok (.invokestatic 111, 3) := by decide +kernel
theorem dJ2_putCharsAt_cd4e5_30 : decode cJ2_putCharsAt_cd4e5 30 = .ok (.aload_n 0, 1) := by decide +kernel
theorem dJ2_putCharsAt_cd4e5_31 : decode cJ2_putCharsAt_cd4e5 31 = .ok (.iload_n 1, 1) := by decide +kernel
theorem dJ2_putCharsAt_cd4e5_32 : decode cJ2_putCharsAt_cd4e5 32 = .ok (.iinc 1 1, 3) := by decide +kernel
theorem dJ2_putCharsAt_cd4e5_35 : decode cJ2_putCharsAt_cd4e5 35 = .ok (.iload 4, 2) := by decide +kernel
theorem dJ2_putCharsAt_cd4e5_37 : decode cJ2_putCharsAt_cd4e5 37 = .ok (.invokestatic 111, 3) := by decide +kernel
theorem dJ2_putCharsAt_cd4e5_40 : decode cJ2_putCharsAt_cd4e5 40 = .ok (.aload_n 0, 1) := by decide +kernel
theorem dJ2_putCharsAt_cd4e5_41 : decode cJ2_putCharsAt_cd4e5 41 = .ok (.iload_n 1, 1) := by decide +kernel
theorem dJ2_putCharsAt_cd4e5_42 : decode cJ2_putCharsAt_cd4e5 42 = .ok (.iinc 1 1, 3) := by decide +kernel
theorem dJ2_putCharsAt_cd4e5_45 : decode cJ2_putCharsAt_cd4e5 45 = .ok (.iload 5, 2) := by decide +kernel
theorem dJ2_putCharsAt_cd4e5_47 : decode cJ2_putCharsAt_cd4e5 47 = .ok (.invokestatic 111, 3) := by decide +kernel
theorem dJ2_putCharsAt_cd4e5_50 : decode cJ2_putCharsAt_cd4e5 50 = .ok (.getstatic 44, 3) := by decide +kernel
theorem dJ2_putCharsAt_cd4e5_53 : decode cJ2_putCharsAt_cd4e5 53 = .ok (.ifCond .ne 17, 3) := by decide +kernel
theorem dJ2_putCharsAt_cd4e5_56 : decode cJ2_putCharsAt_cd4e5 56 = .ok (.iload_n 1, 1) := by decide +kernel
theorem dJ2_putCharsAt_cd4e5_57 : decode cJ2_putCharsAt_cd4e5 57 = .ok (.iload 6, 2) := by decide +kernel
theorem dJ2_putCharsAt_cd4e5_59 : decode cJ2_putCharsAt_cd4e5 59 = .ok (.if_icmp .eq 11, 3) := by decide +kernel
theorem dJ2_putCharsAt_cd4e5_62 : decode cJ2_putCharsAt_cd4e5 62 = .ok (.new 52, 3) := by decide +kernel
theorem dJ2_putCharsAt_cd4e5_65 : decode cJ2_putCharsAt_cd4e5 65 = .ok (.dup, 1) := by decide +kernel
theorem dJ2_putCharsAt_cd4e5_66 : decode cJ2_putCharsAt_cd4e5 66 = .ok (.invokespecial 66, 3) := by decide +kernel
theorem dJ2_putCharsAt_cd4e5_69 : decode cJ2_putCharsAt_cd4e5 69 = .ok (.athrow, 1) := by decide +kernel
theorem dJ2_putCharsAt_cd4e5_70 : decode cJ2_putCharsAt_cd4e5 70 = .ok (.iload 6, 2) := by decide +kernel
theorem dJ2_putCharsAt_cd4e5_72 : decode cJ2_putCharsAt_cd4e5 72 = .ok (.ireturn, 1) := by decide +kernel
theorem dJ2_charAt_3b067_0 : decode cJ2_charAt_3b067 0 = .ok (.iload_n 1, 1) := by decide +kernel
theorem dJ2_charAt_3b067_1 : decode cJ2_charAt_3b067 1 = .ok (.aload_n 0, 1) := by decide +kernel
theorem dJ2_charAt_3b067_2 : decode cJ2_charAt_3b067 2 = .ok (.invokestatic 67, 3) := by decide +kernel
theorem dJ2_charAt_3b067_5 : decode cJ2_charAt_3b067 5 = .ok (.aload_n 0, 1) := by decide +kernel
theorem dJ2_charAt_3b067_6 : decode cJ2_charAt_3b067 6 = .ok (.iload_n 1, 1) := by decide +kernel
theorem dJ2_charAt_3b067_7 : decode cJ2_charAt_3b067 7 = .ok (.invokestatic 71, 3) := by decide +kernel
theorem dJ2_charAt_3b067_10 : decode cJ2_charAt_3b067 10 = .ok (.ireturn, 1) := by decide +kernel
theorem dJ2_inflate_0e8fd_0 : decode cJ2_inflate_0e8fd 0 = .ok (.iload_n 3, 1) := by decide +kernel
theorem dJ2_inflate_0e8fd_1 : decode cJ2_inflate_0e8fd 1 = .ok (.iload 4, 2) := by decide +kernel
theorem dJ2_inflate_0e8fd_3 : decode cJ2_inflate_0e8fd 3 = .ok (.aload_n 2, 1) := by decide +kernel
theorem dJ2_inflate_0e8fd_4 : decode cJ2_inflate_0e8fd 4 = .ok (.invokestatic 173, 3) := by decide +kernel
theorem dJ2_inflate_0e8fd_7 : decode cJ2_inflate_0e8fd 7 = .ok (.iconst 0, 1) := by decide +kernel
theorem dJ2_inflate_0e8fd_8 : decode cJ2_inflate_0e8fd 8 = .ok (.istore 5, 2) := by decide +kernel
theorem dJ2_inflate_0e8fd_10 : decode cJ2_inflate_0e8fd 10 = .ok (.iload 5, 2) := by decide +kernel
theorem dJ2_inflate_0e8fd_12 : decode cJ2_inflate_0e8fd 12 = .ok (.iload 4, 2) := by decide +kernel
theorem dJ2_inflate_0e8fd_14 : decode cJ2_inflate_0e8fd 14 = .ok (.if_icmp .ge 27, 3) := by decide +kernel
theorem dJ2_inflate_0e8fd_17 : decode cJ2_inflate_0e8fd 17 = .ok (.aload_n 2, 1) := by decide +kernel
theorem dJ2_inflate_0e8fd_18 : decode cJ2_inflate_0e8fd 18 = .ok (.iload_n 3, 1) := by decide +kernel
theorem dJ2_inflate_0e8fd_19 : decode cJ2_inflate_0e8fd 19 = .ok (.iinc 3 1, 3) := by decide +kernel
theorem dJ2_inflate_0e8fd_22 : decode cJ2_inflate_0e8fd 22 = .ok (.aload_n 0, 1) := by decide +kernel
theorem dJ2_inflate_0e8fd_23 : decode cJ2_inflate_0e8fd 23 = .ok (.iload_n 1, 1) := by decide +kernel
theorem dJ2_inflate_0e8fd_24 : decode cJ2_inflate_0e8fd 24 = .ok (.iinc 1 1, 3) := by decide +kernel
theorem dJ2_inflate_0e8fd_27 : decode cJ2_inflate_0e8fd 27 = .ok (.baload, 1) := by decide +kernel
theorem dJ2_inflate_0e8fd_28 : decode cJ2_inflate_0e8fd 28 = .ok (.sipush 255, 3) := by decide +kernel
theorem dJ2_inflate_0e8fd_31 : decode cJ2_inflate_0e8fd 31 = .ok (.iand, 1) := by decide +kernel
theorem dJ2_inflate_0e8fd_32 : decode cJ2_inflate_0e8fd 32 = .ok (.invokestatic 111, 3) := by decide +kernel
theorem dJ2_inflate_0e8fd_35 : decode cJ2_inflate_0e8fd 35 = .ok (.iinc 5 1, 3) := by decide +kernel
theorem dJ2_inflate_0e8fd_38 : decode cJ2_inflate_0e8fd 38 = .ok (.goto (-28), 3) := by decide +kernel
theorem dJ2_inflate_0e8fd_41 : decode cJ2_inflate_0e8fd 41 = .ok (.return_, 1) := by decide +kernel
theorem dJ2_getChars_ba4f3_0 : decode cJ2_getChars_ba4f3 0 = .ok (.iload_n 1, 1) := by decide +kernel
theorem dJ2_getChars_ba4f3_1 : decode cJ2_getChars_ba4f3 1 = .ok (.istore 5, 2) := by decide +kernel
theorem dJ2_getChars_ba4f3_3 : decode cJ2_getChars_ba4f3 3 = .ok (.iload_n 0, 1) := by decide +kernel
theorem dJ2_getChars_ba4f3_4 : decode cJ2_getChars_ba4f3 4 = .ok (.ifCond .ge 7, 3) := by decide +kernel
theorem dJ2_getChars_ba4f3_7 : decode cJ2_getChars_ba4f3 7 = .ok (.iconst 1, 1) := by decide +kernel
theorem dJ2_getChars_ba4f3_8 : decode cJ2_getChars_ba4f3 8 = .ok (.goto 4, 3) := by decide +kernel
theorem dJ2_getChars_ba4f3_11 : decode cJ2_getChars_ba4f3 11 = .ok (.iconst 0, 1) := by decide +kernel
theorem dJ2_getChars_ba4f3_12 : decode cJ2_getChars_ba4f3 12 = .ok (.istore 6, 2) := by decide +kernel
theorem dJ2_getChars_ba4f3_14 : decode cJ2_getChars_ba4f3 14 = .ok (.iload 6, 2) := by decide +kernel
theorem dJ2_getChars_ba4f3_16 : decode cJ2_getChars_ba4f3 16 = .ok (.ifCond .ne 6, 3) := by decide +kernel
theorem dJ2_getChars_ba4f3_19 : decode cJ2_getChars_ba4f3 19 = .ok (.iload_n 0, 1) := by decide +kernel
theorem dJ2_getChars_ba4f3_20 : decode cJ2_getChars_ba4f3 20 = .ok (.ineg, 1) := by decide +kernel
theorem dJ2_getChars_ba4f3_21 : decode cJ2_getChars_ba4f3 21 = .ok (.istore_n 0, 1) := by decide +kernel
theorem dJ2_getChars_ba4f3_22 : decode cJ2_getChars_ba4f3 22 = .ok (.iload_n 0, 1) := by decide +kernel
theorem dJ2_getChars_ba4f3_23 : decode cJ2_getChars_ba4f3 23 = .ok (.bipush (-100), 2) := by decide +kernel
theorem dJ2_getChars_ba4f3_25 : decode cJ2_getChars_ba4f3 25 = .ok (.if_icmp .gt 51, 3) := by decide +kernel
theorem dJ2_getChars_ba4f3_28 : decode cJ2_getChars_ba4f3 28 = .ok (.iload_n 0, 1) := by decide +kernel
theorem dJ2_getChars_ba4f3_29 : decode cJ2_getChars_ba4f3 29 = .ok (.bipush 100, 2) := by decide +kernel
theorem dJ2_getChars_ba4f3_31 : decode cJ2_getChars_ba4f3 31 = .ok (.idiv, 1) := by decide +kernel
theorem dJ2_getChars_ba4f3_32 : decode cJ2_getChars_ba4f3 32 = .ok (.istore_n 3, 1) := by decide +kernel
theorem dJ2_getChars_ba4f3_33 : decode cJ2_getChars_ba4f3 33 = .ok (.iload_n 3, 1) := by decide +kernel
theorem dJ2_getChars_ba4f3_34 : decode cJ2_getChars_ba4f3 34 = .ok (.bipush 100, 2) := by decide +kernel
theorem dJ2_getChars_ba4f3_36 : decode cJ2_getChars_ba4f3 36 = .ok (.imul, 1) := by decide +kernel
theorem dJ2_getChars_ba4f3_37 : decode cJ2_getChars_ba4f3 37 = .ok (.iload_n 0, 1) := by decide +kernel
theorem dJ2_getChars_ba4f3_38 : decode cJ2_getChars_ba4f3 38 = .ok (.isub, 1) := by decide +kernel
theorem dJ2_getChars_ba4f3_39 : decode cJ2_getChars_ba4f3 39 = .ok (.istore 4, 2) := by decide +kernel
theorem dJ2_getChars_ba4f3_41 : decode cJ2_getChars_ba4f3 41 = .ok (.iload_n 3, 1) := by decide +kernel
theorem dJ2_getChars_ba4f3_42 : decode cJ2_getChars_ba4f3 42 = .ok (.istore_n 0, 1) := by decide +kernel
theorem dJ2_getChars_ba4f3_43 : decode cJ2_getChars_ba4f3 43 = .ok (.aload_n 2, 1) := by decide +kernel
theorem dJ2_getChars_ba4f3_44 : decode cJ2_getChars_ba4f3 44 = .ok (.iinc 5 (-1), 3) := by decide +kernel
theorem dJ2_getChars_ba4f3_47 : decode cJ2_getChars_ba4f3 47 = .ok (.iload 5, 2) := by decide +kernel
theorem dJ2_getChars_ba4f3_49 : decode cJ2_getChars_ba4f3 49 = .ok (.getstatic 403, 3) := by decide +kernel
theorem dJ2_getChars_ba4f3_52 : decode cJ2_getChars_ba4f3 52 = .ok (.iload 4, 2) := by decide +kernel
theorem dJ2_getChars_ba4f3_54 : decode cJ2_getChars_ba4f3 54 = .ok (.baload, 1) := by decide +kernel
theorem dJ2_getChars_ba4f3_55 : decode cJ2_getChars_ba4f3 55 = .ok (.invokestatic 111, 3) := by decide +kernel
theorem dJ2_getChars_ba4f3_58 : decode cJ2_getChars_ba4f3 58 = .ok (.aload_n 2, 1) := by decide +kernel
theorem dJ2_getChars_ba4f3_59 : decode cJ2_getChars_ba4f3 59 = .ok (.iinc 5 (-1), 3) := by decide +kernel
theorem dJ2_getChars_ba4f3_62 : decode cJ2_getChars_ba4f3 62 = .ok (.iload 5, 2) := by decide +kernel
theorem dJ2_getChars_ba4f3_64 : decode cJ2_getChars_ba4f3 64 = .ok (.getstatic 407, 3) := by decide +kernel
theorem dJ2_getChars_ba4f3_67 : decode cJ2_getChars_ba4f3 67 = .ok (.iload 4, 2) := by decide +kernel
theorem dJ2_getChars_ba4f3_69 : decode cJ2_getChars_ba4f3 69 = .ok (.baload, 1) := by decide +kernel
theorem dJ2_getChars_ba4f3_70 : decode cJ2_getChars_ba4f3 70 = .ok (.invokestatic 111, 3) := by decide +kernel
theorem dJ2_getChars_ba4f3_73 : decode cJ2_getChars_ba4f3 73 = .ok (.goto (-51), 3) := by decide +kernel
theorem dJ2_getChars_ba4f3_76 : decode cJ2_getChars_ba4f3 76 = .ok (.aload_n 2, 1) := by decide +kernel
theorem dJ2_getChars_ba4f3_77 : decode cJ2_getChars_ba4f3 77 = .ok (.iinc 5 (-1), 3) := by decide +kernel
theorem dJ2_getChars_ba4f3_80 : decode cJ2_getChars_ba4f3 80 = .ok (.iload 5, 2) := by decide +kernel
theorem dJ2_getChars_ba4f3_82 : decode cJ2_getChars_ba4f3 82 = .ok (.getstatic 403, 3) := by decide +kernel
theorem dJ2_getChars_ba4f3_85 : decode cJ2_getChars_ba4f3 85 = .ok (.iload_n 0, 1) := by decide +kernel
theorem dJ2_getChars_ba4f3_86 : decode cJ2_getChars_ba4f3 86 = .ok (.ineg, 1) := by decide +kernel
theorem dJ2_getChars_ba4f3_87 : decode cJ2_getChars_ba4f3 87 = .ok (.baload, 1) := by decide +kernel
theorem dJ2_getChars_ba4f3_88 : decode cJ2_getChars_ba4f3 88 = .ok (.invokestatic 111, 3) := by decide +kernel
theorem dJ2_getChars_ba4f3_91 : decode cJ2_getChars_ba4f3 91 = .ok (.iload_n 0, 1) := by decide +kernel
theorem dJ2_getChars_ba4f3_92 : decode cJ2_getChars_ba4f3 92 = .ok (.bipush (-9), 2) := by decide +kernel
theorem dJ2_getChars_ba4f3_94 : decode cJ2_getChars_ba4f3 94 = .ok (.if_icmp .ge 18, 3) := by decide +kernel
theorem dJ2_getChars_ba4f3_97 : decode cJ2_getChars_ba4f3 97 = .ok (.aload_n 2, 1) := by decide +kernel
theorem dJ2_getChars_ba4f3_98 : decode cJ2_getChars_ba4f3 98 = .ok (.iinc 5 (-1), 3) := by decide +kernel
theorem dJ2_getChars_ba4f3_101 : decode cJ2_getChars_ba4f3 101 = .ok (.iload 5, 2) := by decide +kernel
theorem dJ2_getChars_ba4f3_103 : decode cJ2_getChars_ba4f3 103 = .ok (.getstatic 407, 3) := by decide +kernel
theorem dJ2_getChars_ba4f3_106 : decode cJ2_getChars_ba4f3 106 = .ok (.iload_n 0, 1) := by decide +kernel
theorem dJ2_getChars_ba4f3_107 : decode cJ2_getChars_ba4f3 107 = .ok (.ineg, 1) := by decide +kernel
theorem dJ2_getChars_ba4f3_108 : decode cJ2_getChars_ba4f3 108 = .ok (.baload, 1) := by decide +kernel
theorem dJ2_getChars_ba4f3_109 : decode cJ2_getChars_ba4f3 109 = .ok (.invokestatic 111, 3) := by decide +kernel
theorem dJ2_getChars_ba4f3_112 : decode cJ2_getChars_ba4f3 112 = .ok (.iload 6, 2) := by decide +kernel
theorem dJ2_getChars_ba4f3_114 : decode cJ2_getChars_ba4f3 114 = .ok (.ifCond .eq 14, 3) := by decide +kernel
theorem dJ2_getChars_ba4f3_117 : decode cJ2_getChars_ba4f3 117 = .ok (.aload_n 2, 1) := by decide +kernel
theorem dJ2_getChars_ba4f3_118 : decode cJ2_getChars_ba4f3 118 = .ok (.iinc 5 (-1), 3) := by decide +kernel
theorem dJ2_getChars_ba4f3_121 : decode cJ2_getChars_ba4f3 121 = .ok (.iload 5, 2) := by decide +kernel
theorem dJ2_getChars_ba4f3_123 : decode cJ2_getChars_ba4f3 123 = .ok (.bipush 45, 2) := by decide +kernel
theorem dJ2_getChars_ba4f3_125 : decode cJ2_getChars_ba4f3 125 = .ok (.invokestatic 111, 3) := by decide +kernel
theorem dJ2_getChars_ba4f3_128 : decode cJ2_getChars_ba4f3 128 = .ok (.iload 5, 2) := by decide +kernel
theorem dJ2_getChars_ba4f3_130 : decode cJ2_getChars_ba4f3 130 = .ok (.ireturn, 1) := by decide +kernel
theorem dJ2_checkIndex_2214a_0 : decode cJ2_checkIndex_2214a 0 = .ok (.iload_n 0, 1) := by decide +kernel
theorem dJ2_checkIndex_2214a_1 : decode cJ2_checkIndex_2214a 1 = .ok (.aload_n 1, 1) := by decide +kernel
theorem dJ2_checkIndex_2214a_2 : decode cJ2_checkIndex_2214a 2 = .ok (.invokestatic 48, 3) := by decide +kernel
theorem dJ2_checkIndex_2214a_5 : decode cJ2_checkIndex_2214a 5 = .ok (.invokestatic 414, 3) := by decide +kernel
theorem dJ2_checkIndex_2214a_8 : decode cJ2_checkIndex_2214a 8 = .ok (.return_, 1) := by decide +kernel
theorem dJ2_checkBoundsBeginEnd_d044e_0 : decode cJ2_checkBoundsBeginEnd_d044e 0 = .ok (.iload_n 0, 1) := by decide +kernel
theorem dJ2_checkBoundsBeginEnd_d044e_1 : decode cJ2_checkBoundsBeginEnd_d044e 1 = .ok (.iload_n 1, 1) := by decide +kernel
theorem dJ2_checkBoundsBeginEnd_d044e_2 : decode cJ2_checkBoundsBeginEnd_d044e 2 = .ok (.aload_n 2, 1) := by decide +kernel
theorem dJ2_checkBoundsBeginEnd_d044e_3 : decode cJ2_checkBoundsBeginEnd_d044e 3 = .ok (.invokestatic 48, 3) := by decide +kernel
theorem dJ2_checkBoundsBeginEnd_d044e_6 : decode cJ2_checkBoundsBeginEnd_d044e 6 = .ok (.invokestatic 241, 3) := by decide +kernel
theorem dJ2_checkBoundsBeginEnd_d044e_9 : decode cJ2_checkBoundsBeginEnd_d044e 9 = .ok (.return_, 1) := by decide +kernel
theorem dJ2_checkBoundsOffCount_d044e_0 : decode cJ2_checkBoundsOffCount_d044e 0 = .ok (.iload_n 0, 1) := by decide +kernel
theorem dJ2_checkBoundsOffCount_d044e_1 : decode cJ2_checkBoundsOffCount_d044e 1 = .ok (.iload_n 1, 1) := by decide +kernel
theorem dJ2_checkBoundsOffCount_d044e_2 : decode cJ2_checkBoundsOffCount_d044e 2 = .ok (.aload_n 2, 1) := by decide +kernel
theorem dJ2_checkBoundsOffCount_d044e_3 : decode cJ2_checkBoundsOffCount_d044e 3 = .ok (.invokestatic 48, 3) := by decide +kernel
theorem dJ2_checkBoundsOffCount_d044e_6 : decode cJ2_checkBoundsOffCount_d044e 6 = .ok (.invokestatic 419, 3) := by decide +kernel
theorem dJ2_checkBoundsOffCount_d044e_9 : decode cJ2_checkBoundsOffCount_d044e 9 = .ok (.pop, 1) := by decide +kernel
theorem dJ2_checkBoundsOffCount_d044e_10 : decode cJ2_checkBoundsOffCount_d044e 10 = .ok (.return_, 1) := by decide +kernel
theorem dJ7_copyOf_9075b_0 : decode cJ7_copyOf_9075b 0 = .ok (.iload_n 1, 1) := by decide +kernel
theorem dJ7_copyOf_9075b_1 : decode cJ7_copyOf_9075b 1 = .ok (.aload_n 0, 1) := by decide +kernel
theorem dJ7_copyOf_9075b_2 : decode cJ7_copyOf_9075b 2 = .ok (.arraylength, 1) := by decide +kernel
theorem dJ7_copyOf_9075b_3 : decode cJ7_copyOf_9075b 3 = .ok (.if_icmp .ne 11, 3) := by decide +kernel
theorem dJ7_copyOf_9075b_6 : decode cJ7_copyOf_9075b 6 = .ok (.aload_n 0, 1) := by decide +kernel
theorem dJ7_copyOf_9075b_7 : decode cJ7_copyOf_9075b 7 = .ok (.invokevirtual 310, 3) := by decide +kernel
theorem dJ7_copyOf_9075b_10 : decode cJ7_copyOf_9075b 10 = .ok (.checkcast 311, 3) := by decide +kernel
theorem dJ7_copyOf_9075b_13 : decode cJ7_copyOf_9075b 13 = .ok (.areturn, 1) := by decide +kernel
theorem dJ7_copyOf_9075b_14 : decode cJ7_copyOf_9075b 14 = .ok (.iload_n 1, 1) := by decide +kernel
theorem dJ7_copyOf_9075b_15 : decode cJ7_copyOf_9075b 15 = .ok (.newarray .byte, 2) := by decide +kernel
theorem dJ7_copyOf_9075b_17 : decode cJ7_copyOf_9075b 17 = .ok (.astore_n 2, 1) := by decide +kernel
theorem dJ7_copyOf_9075b_18 : decode cJ7_copyOf_9075b 18 = .ok (.aload_n 0, 1) := by decide +kernel
theorem dJ7_copyOf_9075b_19 : decode cJ7_copyOf_9075b 19 = .ok (.iconst 0, 1) := by decide +kernel
theorem dJ7_copyOf_9075b_20 : decode cJ7_copyOf_9075b 20 = .ok (.aload_n 2, 1) := by decide +kernel
theorem dJ7_copyOf_9075b_21 : decode cJ7_copyOf_9075b 21 = .ok (.iconst 0, 1) := by decide +kernel
theorem dJ7_copyOf_9075b_22 : decode cJ7_copyOf_9075b 22 = .ok (.aload_n 0, 1) := by decide +kernel
theorem dJ7_copyOf_9075b_23 : decode cJ7_copyOf_9075b 23 = .ok (.arraylength, 1) := by decide +kernel
theorem dJ7_copyOf_9075b_24 : decode cJ7_copyOf_9075b 24 = .ok (.iload_n 1, 1) := by decide +kernel
theorem dJ7_copyOf_9075b_25 : decode cJ7_copyOf_9075b 25 = .ok (.invokestatic 304, 3) := by decide +kernel
theorem dJ7_copyOf_9075b_28 : decode cJ7_copyOf_9075b 28 = .ok (.invokestatic 150, 3) := by decide +kernel
theorem dJ7_copyOf_9075b_31 : decode cJ7_copyOf_9075b 31 = .ok (.aload_n 2, 1) := by decide +kernel
theorem dJ7_copyOf_9075b_32 : decode cJ7_copyOf_9075b 32 = .ok (.areturn, 1) := by decide +kernel
theorem dJ7_checkLength_df160_0 : decode cJ7_checkLength_df160 0 = .ok (.iload_n 1, 1) := by decide +kernel
theorem dJ7_checkLength_df160_1 : decode cJ7_checkLength_df160 1 = .ok (.iload_n 0, 1) := by decide +kernel
theorem dJ7_checkLength_df160_2 : decode cJ7_checkLength_df160 2 = .ok (.if_icmp .ge 35, 3) := by decide +kernel
theorem dJ7_checkLength_df160_5 : decode cJ7_checkLength_df160 5 = .ok (.new 43, 3) := by decide +kernel
theorem dJ7_checkLength_df160_8 : decode cJ7_checkLength_df160 8 = .ok (.dup, 1) := by decide +kernel
theorem dJ7_checkLength_df160_9 : decode cJ7_checkLength_df160 9 = .ok (.new 45, 3) := by decide +kernel
theorem dJ7_checkLength_df160_12 : decode cJ7_checkLength_df160 12 = .ok (.dup, 1) := by decide +kernel
theorem dJ7_checkLength_df160_13 : decode cJ7_checkLength_df160 13 = .ok (.invokespecial 47, 3) := by decide +kernel
theorem dJ7_checkLength_df160_16 : decode cJ7_checkLength_df160 16 = .ok (.iload_n 0, 1) := by decide +kernel
theorem dJ7_checkLength_df160_17 : decode cJ7_checkLength_df160 17 = .ok (.invokevirtual 54, 3) := by decide +kernel
theorem dJ7_checkLength_df160_20 : decode cJ7_checkLength_df160 20 = .ok (.ldc_w 337, 3) := by decide +kernel
theorem dJ7_checkLength_df160_23 : decode cJ7_checkLength_df160 23 = .ok (.invokevirtual 50, 3) := by decide +kernel
theorem dJ7_checkLength_df160_26 : decode cJ7_checkLength_df160 26 = .ok (.iload_n 1, 1) := by decide +kernel
theorem dJ7_checkLength_df160_27 : decode cJ7_checkLength_df160 27 = .ok (.invokevirtual 54, 3) := by decide +kernel
theorem dJ7_checkLength_df160_30 : decode cJ7_checkLength_df160 30 = .ok (.invokevirtual 61, 3) := by decide +kernel
theorem dJ7_checkLength_df160_33 : decode cJ7_checkLength_df160 33 = .ok (.invokespecial 65, 3) := by decide +kernel
theorem dJ7_checkLength_df160_36 : decode cJ7_checkLength_df160 36 = .ok (.athrow, 1) := by decide +kernel
theorem dJ7_checkLength_df160_37 : decode cJ7_checkLength_df160 37 = .ok (.return_, 1) := by decide +kernel
theorem dJ7_copyOfRange_39247_0 : decode cJ7_copyOfRange_39247 0 = .ok (.iload_n 1, 1) := by decide +kernel
theorem dJ7_copyOfRange_39247_1 : decode cJ7_copyOfRange_39247 1 = .ok (.ifCond .ne 9, 3) := by decide +kernel
theorem dJ7_copyOfRange_39247_4 : decode cJ7_copyOfRange_39247 4 = .ok (.iload_n 2, 1) := by decide +kernel
theorem dJ7_copyOfRange_39247_5 : decode cJ7_copyOfRange_39247 5 = .ok (.aload_n 0, 1) := by decide +kernel
theorem dJ7_copyOfRange_39247_6 : decode cJ7_copyOfRange_39247 6 = .ok (.arraylength, 1) := by decide +kernel
theorem dJ7_copyOfRange_39247_7 : decode cJ7_copyOfRange_39247 7 = .ok (.if_icmp .eq 10, 3) := by decide +kernel
theorem dJ7_copyOfRange_39247_10 : decode cJ7_copyOfRange_39247 10 = .ok (.aload_n 0, 1) := by decide +kernel
theorem dJ7_copyOfRange_39247_11 : decode cJ7_copyOfRange_39247 11 = .ok (.iload_n 1, 1) := by decide +kernel
theorem dJ7_copyOfRange_39247_12 : decode cJ7_copyOfRange_39247 12 = .ok (.iload_n 2, 1) := by decide +kernel
theorem dJ7_copyOfRange_39247_13 : decode cJ7_copyOfRange_39247 13 = .ok (.invokestatic 339, 3) := by decide +kernel
theorem dJ7_copyOfRange_39247_16 : decode cJ7_copyOfRange_39247 16 = .ok (.areturn, 1) := by decide +kernel
theorem dJ7_copyOfRange_39247_17 : decode cJ7_copyOfRange_39247 17 = .ok (.aload_n 0, 1) := by decide +kernel
theorem dJ7_copyOfRange_39247_18 : decode cJ7_copyOfRange_39247 18 = .ok (.invokevirtual 310, 3) := by decide +kernel
theorem dJ7_copyOfRange_39247_21 : decode cJ7_copyOfRange_39247 21 = .ok (.checkcast 311, 3) := by decide +kernel
theorem dJ7_copyOfRange_39247_24 : decode cJ7_copyOfRange_39247 24 = .ok (.areturn, 1) := by decide +kernel
theorem dJ7_copyOfRangeByte_39247_0 : decode cJ7_copyOfRangeByte_39247 0 = .ok (.iload_n 1, 1) := by decide +kernel
theorem dJ7_copyOfRangeByte_39247_1 : decode cJ7_copyOfRangeByte_39247 1 = .ok (.iload_n 2, 1) := by decide +kernel
theorem dJ7_copyOfRangeByte_39247_2 : decode cJ7_copyOfRangeByte_39247 2 = .ok (.invokestatic 343, 3) := by decide +kernel
theorem dJ7_copyOfRangeByte_39247_5 : decode cJ7_copyOfRangeByte_39247 5 = .ok (.iload_n 2, 1) := by decide +kernel
theorem dJ7_copyOfRangeByte_39247_6 : decode cJ7_copyOfRangeByte_39247 6 = .ok (.iload_n 1, 1) := by decide +kernel
theorem dJ7_copyOfRangeByte_39247_7 : decode cJ7_copyOfRangeByte_39247 7 = .ok (.isub, 1) := by decide +kernel
theorem dJ7_copyOfRangeByte_39247_8 : decode cJ7_copyOfRangeByte_39247 8 = .ok (.istore_n 3, 1) := by decide +kernel
theorem dJ7_copyOfRangeByte_39247_9 : decode cJ7_copyOfRangeByte_39247 9 = .ok (.iload_n 3, 1) := by decide +kernel
theorem dJ7_copyOfRangeByte_39247_10 : decode cJ7_copyOfRangeByte_39247 10 = .ok (.newarray .byte, 2) := by decide +kernel
theorem dJ7_copyOfRangeByte_39247_12 : decode cJ7_copyOfRangeByte_39247 12 = .ok (.astore 4, 2) := by decide +kernel
theorem dJ7_copyOfRangeByte_39247_14 : decode cJ7_copyOfRangeByte_39247 14 = .ok (.aload_n 0, 1) := by decide +kernel
theorem dJ7_copyOfRangeByte_39247_15 : decode cJ7_copyOfRangeByte_39247 15 = .ok (.iload_n 1, 1) := by decide +kernel
theorem dJ7_copyOfRangeByte_39247_16 : decode cJ7_copyOfRangeByte_39247 16 = .ok (.aload 4, 2) := by decide +kernel
theorem dJ7_copyOfRangeByte_39247_18 : decode cJ7_copyOfRangeByte_39247 18 = .ok (.iconst 0, 1) := by decide +kernel
theorem dJ7_copyOfRangeByte_39247_19 : decode cJ7_copyOfRangeByte_39247 19 = .ok (.aload_n 0, 1) := by decide +kernel
theorem dJ7_copyOfRangeByte_39247_20 : decode cJ7_copyOfRangeByte_39247 20 = .ok (.arraylength, 1) := by decide +kernel
theorem dJ7_copyOfRangeByte_39247_21 : decode cJ7_copyOfRangeByte_39247 21 = .ok (.iload_n 1, 1) := by decide +kernel
theorem dJ7_copyOfRangeByte_39247_22 : decode cJ7_copyOfRangeByte_39247 22 = .ok (.isub, 1) := by decide +kernel
theorem dJ7_copyOfRangeByte_39247_23 : decode cJ7_copyOfRangeByte_39247 23 = .ok (.iload_n 3, 1) := by decide +kernel
theorem dJ7_copyOfRangeByte_39247_24 : decode cJ7_copyOfRangeByte_39247 24 = .ok (.invokestatic 304, 3) := by decide +kernel
theorem dJ7_copyOfRangeByte_39247_27 : decode cJ7_copyOfRangeByte_39247 27 = .ok (.invokestatic 150, 3) := by decide +kernel
theorem dJ7_copyOfRangeByte_39247_30 : decode cJ7_copyOfRangeByte_39247 30 = .ok (.aload 4, 2) := by decide +kernel
theorem dJ7_copyOfRangeByte_39247_32 : decode cJ7_copyOfRangeByte_39247 32 = .ok (.areturn, 1) := by decide +kernel
theorem dJ8_newLength_cabcc_0 : decode cJ8_newLength_cabcc 0 = .ok (.iload_n 0, 1) := by decide +kernel
theorem dJ8_newLength_cabcc_1 : decode cJ8_newLength_cabcc 1 = .ok (.iload_n 1, 1) := by decide +kernel
theorem dJ8_newLength_cabcc_2 : decode cJ8_newLength_cabcc 2 = .ok (.iload_n 2, 1) := by decide +kernel
theorem dJ8_newLength_cabcc_3 : decode cJ8_newLength_cabcc 3 = .ok (.invokestatic 194, 3) := by decide +kernel
theorem dJ8_newLength_cabcc_6 : decode cJ8_newLength_cabcc 6 = .ok (.iadd, 1) := by decide +kernel
theorem dJ8_newLength_cabcc_7 : decode cJ8_newLength_cabcc 7 = .ok (.istore_n 3, 1) := by decide +kernel
theorem dJ8_newLength_cabcc_8 : decode cJ8_newLength_cabcc 8 = .ok (.iconst 0, 1) := by decide +kernel
theorem dJ8_newLength_cabcc_9 : decode cJ8_newLength_cabcc 9 = .ok (.iload_n 3, 1) := by decide +kernel
theorem dJ8_newLength_cabcc_10 : decode cJ8_newLength_cabcc 10 = .ok (.if_icmp .ge 11, 3) := by decide +kernel
theorem dJ8_newLength_cabcc_13 : decode cJ8_newLength_cabcc 13 = .ok (.iload_n 3, 1) := by decide +kernel
theorem dJ8_newLength_cabcc_14 : decode cJ8_newLength_cabcc 14 = .ok (.ldc 200, 2) := by decide +kernel
theorem dJ8_newLength_cabcc_16 : decode cJ8_newLength_cabcc 16 = .ok (.if_icmp .gt 5, 3) := by decide +kernel
theorem dJ8_newLength_cabcc_19 : decode cJ8_newLength_cabcc 19 = .ok (.iload_n 3, 1) := by decide +kernel
theorem dJ8_newLength_cabcc_20 : decode cJ8_newLength_cabcc 20 = .ok (.ireturn, 1) := by decide +kernel
theorem dJ8_newLength_cabcc_21 : decode cJ8_newLength_cabcc 21 = .ok (.iload_n 0, 1) := by decide +kernel
theorem dJ8_newLength_cabcc_22 : decode cJ8_newLength_cabcc 22 = .ok (.iload_n 1, 1) := by decide +kernel
theorem dJ8_newLength_cabcc_23 : decode cJ8_newLength_cabcc 23 = .ok (.invokestatic 201, 3) := by decide +kernel
theorem dJ8_newLength_cabcc_26 : decode cJ8_newLength_cabcc 26 = .ok (.ireturn, 1) := by decide +kernel
theorem dJ8_hugeLength_7cf53_0 : decode cJ8_hugeLength_7cf53 0 = .ok (.iload_n 0, 1) := by decide +kernel
theorem dJ8_hugeLength_7cf53_1 : decode cJ8_hugeLength_7cf53 1 = .ok (.iload_n 1, 1) := by decide +kernel
theorem dJ8_hugeLength_7cf53_2 : decode cJ8_hugeLength_7cf53 2 = .ok (.iadd, 1) := by decide +kernel
theorem dJ8_hugeLength_7cf53_3 : decode cJ8_hugeLength_7cf53 3 = .ok (.istore_n 2, 1) := by decide +kernel
theorem dJ8_hugeLength_7cf53_4 : decode cJ8_hugeLength_7cf53 4 = .ok (.iload_n 2, 1) := by decide +kernel
theorem dJ8_hugeLength_7cf53_5 : decode cJ8_hugeLength_7cf53 5 = .ok (.ifCond .ge 44, 3) := by decide +kernel
theorem dJ8_hugeLength_7cf53_8 : decode cJ8_hugeLength_7cf53 8 = .ok (.new 204, 3) := by decide +kernel
theorem dJ8_hugeLength_7cf53_11 : decode cJ8_hugeLength_7cf53 11 = .ok (.dup, 1) := by decide +kernel
theorem dJ8_hugeLength_7cf53_12 : decode cJ8_hugeLength_7cf53 12 = .ok (.new 89, 3) := by decide +kernel
theorem dJ8_hugeLength_7cf53_15 : decode cJ8_hugeLength_7cf53 15 = .ok (.dup, 1) := by decide +kernel
theorem dJ8_hugeLength_7cf53_16 : decode cJ8_hugeLength_7cf53 16 = .ok (.invokespecial 91, 3) := by decide +kernel
theorem dJ8_hugeLength_7cf53_19 : decode cJ8_hugeLength_7cf53 19 = .ok (.ldc 206, 2) := by decide +kernel
theorem dJ8_hugeLength_7cf53_21 : decode cJ8_hugeLength_7cf53 21 = .ok (.invokevirtual 94, 3) := by decide +kernel
theorem dJ8_hugeLength_7cf53_24 : decode cJ8_hugeLength_7cf53 24 = .ok (.iload_n 0, 1) := by decide +kernel
theorem dJ8_hugeLength_7cf53_25 : decode cJ8_hugeLength_7cf53 25 = .ok (.invokevirtual 98, 3) := by decide +kernel
theorem dJ8_hugeLength_7cf53_28 : decode cJ8_hugeLength_7cf53 28 = .ok (.ldc 208, 2) := by decide +kernel
theorem dJ8_hugeLength_7cf53_30 : decode cJ8_hugeLength_7cf53 30 = .ok (.invokevirtual 94, 3) := by decide +kernel
theorem dJ8_hugeLength_7cf53_33 : decode cJ8_hugeLength_7cf53 33 = .ok (.iload_n 1, 1) := by decide +kernel
theorem dJ8_hugeLength_7cf53_34 : decode cJ8_hugeLength_7cf53 34 = .ok (.invokevirtual 98, 3) := by decide +kernel
theorem dJ8_hugeLength_7cf53_37 : decode cJ8_hugeLength_7cf53 37 = .ok (.ldc 210, 2) := by decide +kernel
theorem dJ8_hugeLength_7cf53_39 : decode cJ8_hugeLength_7cf53 39 = .ok (.invokevirtual 94, 3) := by decide +kernel
theorem dJ8_hugeLength_7cf53_42 : decode cJ8_hugeLength_7cf53 42 = .ok (.invokevirtual 101, 3) := by decide +kernel
theorem dJ8_hugeLength_7cf53_45 : decode cJ8_hugeLength_7cf53 45 = .ok (.invokespecial 212, 3) := by decide +kernel
theorem dJ8_hugeLength_7cf53_48 : decode cJ8_hugeLength_7cf53 48 = .ok (.athrow, 1) := by decide +kernel
theorem dJ8_hugeLength_7cf53_49 : decode cJ8_hugeLength_7cf53 49 = .ok (.iload_n 2, 1) := by decide +kernel
theorem dJ8_hugeLength_7cf53_50 : decode cJ8_hugeLength_7cf53 50 = .ok (.ldc 200, 2) := by decide +kernel
theorem dJ8_hugeLength_7cf53_52 : decode cJ8_hugeLength_7cf53 52 = .ok (.if_icmp .gt 6, 3) := by decide +kernel
theorem dJ8_hugeLength_7cf53_55 : decode cJ8_hugeLength_7cf53 55 = .ok (.ldc 200, 2) := by decide +kernel
theorem dJ8_hugeLength_7cf53_57 : decode cJ8_hugeLength_7cf53 57 = .ok (.ireturn, 1) := by decide +kernel
theorem dJ8_hugeLength_7cf53_58 : decode cJ8_hugeLength_7cf53 58 = .ok (.iload_n 2, 1) := by decide +kernel
theorem dJ8_hugeLength_7cf53_59 : decode cJ8_hugeLength_7cf53 59 = .ok (.ireturn, 1) := by decide +kernel
theorem dJ3_checkIndex_8e157_0 : decode cJ3_checkIndex_8e157 0 = .ok (.iload_n 0, 1) := by decide +kernel
theorem dJ3_checkIndex_8e157_1 : decode cJ3_checkIndex_8e157 1 = .ok (.ifCond .lt 8, 3) := by decide +kernel
theorem dJ3_checkIndex_8e157_4 : decode cJ3_checkIndex_8e157 4 = .ok (.iload_n 0, 1) := by decide +kernel
theorem dJ3_checkIndex_8e157_5 : decode cJ3_checkIndex_8e157 5 = .ok (.iload_n 1, 1) := by decide +kernel
theorem dJ3_checkIndex_8e157_6 : decode cJ3_checkIndex_8e157 6 = .ok (.if_icmp .lt 10, 3) := by decide +kernel
theorem dJ3_checkIndex_8e157_9 : decode cJ3_checkIndex_8e157 9 = .ok (.aload_n 2, 1) := by decide +kernel
theorem dJ3_checkIndex_8e157_10 : decode cJ3_checkIndex_8e157 10 = .ok (.iload_n 0, 1) := by decide +kernel
theorem dJ3_checkIndex_8e157_11 : decode cJ3_checkIndex_8e157 11 = .ok (.iload_n 1, 1) := by decide +kernel
theorem dJ3_checkIndex_8e157_12 : decode cJ3_checkIndex_8e157 12 = .ok (.invokestatic 95, 3) := by decide +kernel
theorem dJ3_checkIndex_8e157_15 : decode cJ3_checkIndex_8e157 15 = .ok (.athrow, 1) := by decide +kernel
theorem dJ3_checkIndex_8e157_16 : decode cJ3_checkIndex_8e157 16 = .ok (.iload_n 0, 1) := by decide +kernel
theorem dJ3_checkIndex_8e157_17 : decode cJ3_checkIndex_8e157 17 = .ok (.ireturn, 1) := by decide +kernel
theorem dJ3_checkFromToIndex_8c36e_0 : decode cJ3_checkFromToIndex_8c36e 0 = .ok (.iload_n 0, 1) := by decide +kernel
theorem dJ3_checkFromToIndex_8c36e_1 : decode cJ3_checkFromToIndex_8c36e 1 = .ok (.ifCond .lt 13, 3) := by decide +kernel
theorem dJ3_checkFromToIndex_8c36e_4 : decode cJ3_checkFromToIndex_8c36e 4 = .ok (.iload_n 0, 1) := by decide +kernel
theorem dJ3_checkFromToIndex_8c36e_5 : decode cJ3_checkFromToIndex_8c36e 5 = .ok (.iload_n 1, 1) := by decide +kernel
theorem dJ3_checkFromToIndex_8c36e_6 : decode cJ3_checkFromToIndex_8c36e 6 = .ok (.if_icmp .gt 8, 3) := by decide +kernel
theorem dJ3_checkFromToIndex_8c36e_9 : decode cJ3_checkFromToIndex_8c36e 9 = .ok (.iload_n 1, 1) := by decide +kernel
theorem dJ3_checkFromToIndex_8c36e_10 : decode cJ3_checkFromToIndex_8c36e 10 = .ok (.iload_n 2, 1) := by decide +kernel
theorem dJ3_checkFromToIndex_8c36e_11 : decode cJ3_checkFromToIndex_8c36e 11 = .ok (.if_icmp .le 11, 3) := by decide +kernel
theorem dJ3_checkFromToIndex_8c36e_14 : decode cJ3_checkFromToIndex_8c36e 14 = .ok (.aload_n 3, 1) := by decide +kernel
theorem dJ3_checkFromToIndex_8c36e_15 : decode cJ3_checkFromToIndex_8c36e 15 = .ok (.iload_n 0, 1) := by decide +kernel
theorem dJ3_checkFromToIndex_8c36e_16 : decode cJ3_checkFromToIndex_8c36e 16 = .ok (.iload_n 1, 1) := by decide +kernel
theorem dJ3_checkFromToIndex_8c36e_17 : decode cJ3_checkFromToIndex_8c36e 17 = .ok (.iload_n 2, 1) := by decide +kernel
theorem dJ3_checkFromToIndex_8c36e_18 : decode cJ3_checkFromToIndex_8c36e 18 = .ok (.invokestatic 99, 3) := by decide +kernel
theorem dJ3_checkFromToIndex_8c36e_21 : decode cJ3_checkFromToIndex_8c36e 21 = .ok (.athrow, 1) := by decide +kernel
theorem dJ3_checkFromToIndex_8c36e_22 : decode cJ3_checkFromToIndex_8c36e 22 = .ok (.iload_n 0, 1) := by decide +kernel
theorem dJ3_checkFromToIndex_8c36e_23 : decode cJ3_checkFromToIndex_8c36e 23 = .ok (.ireturn, 1) := by decide +kernel
theorem dJ3_checkFromIndexSize_8c36e_0 : decode cJ3_checkFromIndexSize_8c36e 0 = .ok (.iload_n 2, 1) := by decide +kernel
theorem dJ3_checkFromIndexSize_8c36e_1 : decode cJ3_checkFromIndexSize_8c36e 1 = .ok (.iload_n 0, 1) := by decide +kernel
theorem dJ3_checkFromIndexSize_8c36e_2 : decode cJ3_checkFromIndexSize_8c36e 2 = .ok (.ior, 1) := by decide +kernel
theorem dJ3_checkFromIndexSize_8c36e_3 : decode cJ3_checkFromIndexSize_8c36e 3 = .ok (.iload_n 1, 1) := by decide +kernel
theorem dJ3_checkFromIndexSize_8c36e_4 : decode cJ3_checkFromIndexSize_8c36e 4 = .ok (.ior, 1) := by decide +kernel
theorem dJ3_checkFromIndexSize_8c36e_5 : decode cJ3_checkFromIndexSize_8c36e 5 = .ok (.ifCond .lt 10, 3) := by decide +kernel
theorem dJ3_checkFromIndexSize_8c36e_8 : decode cJ3_checkFromIndexSize_8c36e 8 = .ok (.iload_n 1, 1) := by decide +kernel
theorem dJ3_checkFromIndexSize_8c36e_9 : decode cJ3_checkFromIndexSize_8c36e 9 = .ok (.iload_n 2, 1) := by decide +kernel
theorem dJ3_checkFromIndexSize_8c36e_10 : decode cJ3_checkFromIndexSize_8c36e 10 = .ok (.iload_n 0, 1) := by decide +kernel
theorem dJ3_checkFromIndexSize_8c36e_11 : decode cJ3_checkFromIndexSize_8c36e 11 = .ok (.isub, 1) := by decide +kernel
theorem dJ3_checkFromIndexSize_8c36e_12 : decode cJ3_checkFromIndexSize_8c36e 12 = .ok (.if_icmp .le 11, 3) := by decide +kernel
theorem dJ3_checkFromIndexSize_8c36e_15 : decode cJ3_checkFromIndexSize_8c36e 15 = .ok (.aload_n 3, 1) := by decide +kernel
theorem dJ3_checkFromIndexSize_8c36e_16 : decode cJ3_checkFromIndexSize_8c36e 16 = .ok (.iload_n 0, 1) := by decide +kernel
theorem dJ3_checkFromIndexSize_8c36e_17 : decode cJ3_checkFromIndexSize_8c36e 17 = .ok (.iload_n 1, 1) := by decide +kernel
theorem dJ3_checkFromIndexSize_8c36e_18 : decode cJ3_checkFromIndexSize_8c36e 18 = .ok (.iload_n 2, 1) := by decide +kernel
theorem dJ3_checkFromIndexSize_8c36e_19 : decode cJ3_checkFromIndexSize_8c36e 19 = .ok (.invokestatic 103, 3) := by decide +kernel
theorem dJ3_checkFromIndexSize_8c36e_22 : decode cJ3_checkFromIndexSize_8c36e 22 = .ok (.athrow, 1) := by decide +kernel
theorem dJ3_checkFromIndexSize_8c36e_23 : decode cJ3_checkFromIndexSize_8c36e 23 = .ok (.iload_n 0, 1) := by decide +kernel
theorem dJ3_checkFromIndexSize_8c36e_24 : decode cJ3_checkFromIndexSize_8c36e 24 = .ok (.ireturn, 1) := by decide +kernel
end
section
theorem dX11_init_0 : decode cX11_init 0 = .ok (.aload_n 0, 1) := by decide +kernel
theorem dX11_init_1 : decode cX11_init 1 = .ok (.invokespecial 1, 3) := by decide +kernel
theorem dX11_init_4 : decode cX11_init 4 = .ok (.aload_n 0, 1) := by decide +kernel
theorem dX11_init_5 : decode cX11_init 5 = .ok (.new 7, 3) := by decide +kernel
theorem dX11_init_8 : decode cX11_init 8 = .ok (.dup, 1) := by decide +kernel
theorem dX11_init_9 : decode cX11_init 9 = .ok (.sipush 600, 3) := by decide +kernel
theorem dX11_init_12 : decode cX11_init 12 = .ok (.invokespecial 11, 3) := by decide +kernel
theorem dX11_init_15 : decode cX11_init 15 = .ok (.putfield 14, 3) := by decide +kernel
theorem dX11_init_18 : decode cX11_init 18 = .ok (.aload_n 0, 1) := by decide +kernel
theorem dX11_init_19 : decode cX11_init 19 = .ok (.new 7, 3) := by decide +kernel
theorem dX11_init_22 : decode cX11_init 22 = .ok (.dup, 1) := by decide +kernel
theorem dX11_init_23 : decode cX11_init 23 = .ok (.bipush 64, 2) := by decide +kernel
theorem dX11_init_25 : decode cX11_init 25 = .ok (.invokespecial 11, 3) := by decide +kernel
theorem dX11_init_28 : decode cX11_init 28 = .ok (.putfield 18, 3) := by decide +kernel
theorem dX11_init_31 : decode cX11_init 31 = .ok (.aload_n 0, 1) := by decide +kernel
theorem dX11_init_32 : decode cX11_init 32 = .ok (.new 21, 3) := by decide +kernel
theorem dX11_init_35 : decode cX11_init 35 = .ok (.dup, 1) := by decide +kernel
theorem dX11_init_36 : decode cX11_init 36 = .ok (.aload_n 0, 1) := by decide +kernel
theorem dX11_init_37 : decode cX11_init 37 = .ok (.getfield 14, 3) := by decide +kernel
theorem dX11_init_40 : decode cX11_init 40 = .ok (.invokespecial 23, 3) := by decide +kernel
theorem dX11_init_43 : decode cX11_init 43 = .ok (.putfield 26, 3) := by decide +kernel
theorem dX11_init_46 : decode cX11_init 46 = .ok (.aload_n 0, 1) := by decide +kernel
theorem dX11_init_47 : decode cX11_init 47 = .ok (.new 30, 3) := by decide +kernel
theorem dX11_init_50 : decode cX11_init 50 = .ok (.dup, 1) := by decide +kernel
theorem dX11_init_51 : decode cX11_init 51 = .ok (.invokespecial 32, 3) := by decide +kernel
theorem dX11_init_54 : decode cX11_init 54 = .ok (.putfield 33, 3) := by decide +kernel
theorem dX11_init_57 : decode cX11_init 57 = .ok (.aload_n 0, 1) := by decide +kernel
theorem dX11_init_58 : decode cX11_init 58 = .ok (.new 37, 3) := by decide +kernel
theorem dX11_init_61 : decode cX11_init 61 = .ok (.dup, 1) := by decide +kernel
theorem dX11_init_62 : decode cX11_init 62 = .ok (.iconst 2, 1) := by decide +kernel
theorem dX11_init_63 : decode cX11_init 63 = .ok (.invokespecial 39, 3) := by decide +kernel
theorem dX11_init_66 : decode cX11_init 66 = .ok (.putfield 40, 3) := by decide +kernel
theorem dX11_init_69 : decode cX11_init 69 = .ok (.aload_n 0, 1) := by decide +kernel
theorem dX11_init_70 : decode cX11_init 70 = .ok (.new 37, 3) := by decide +kernel
theorem dX11_init_73 : decode cX11_init 73 = .ok (.dup, 1) := by decide +kernel
theorem dX11_init_74 : decode cX11_init 74 = .ok (.bipush 8, 2) := by decide +kernel
theorem dX11_init_76 : decode cX11_init 76 = .ok (.invokespecial 39, 3) := by decide +kernel
theorem dX11_init_79 : decode cX11_init 79 = .ok (.putfield 44, 3) := by decide +kernel
theorem dX11_init_82 : decode cX11_init 82 = .ok (.aload_n 0, 1) := by decide +kernel
theorem dX11_init_83 : decode cX11_init 83 = .ok (.getfield 14, 3) := by decide +kernel
theorem dX11_init_86 : decode cX11_init 86 = .ok (.ldc 47, 2) := by decide +kernel
theorem dX11_init_88 : decode cX11_init 88 = .ok (.invokevirtual 49, 3) := by decide +kernel
theorem dX11_init_91 : decode cX11_init 91 = .ok (.aload_n 0, 1) := by decide +kernel
theorem dX11_init_92 : decode cX11_init 92 = .ok (.getfield 14, 3) := by decide +kernel
theorem dX11_init_95 : decode cX11_init 95 = .ok (.ldc 53, 2) := by decide +kernel
theorem dX11_init_97 : decode cX11_init 97 = .ok (.invokevirtual 49, 3) := by decide +kernel
theorem dX11_init_100 : decode cX11_init 100 = .ok (.aload_n 0, 1) := by decide +kernel
theorem dX11_init_101 : decode cX11_init 101 = .ok (.getfield 14, 3) := by decide +kernel
theorem dX11_init_104 : decode cX11_init 104 = .ok (.ldc 55, 2) := by decide +kernel
theorem dX11_init_106 : decode cX11_init 106 = .ok (.invokevirtual 49, 3) := by decide +kernel
theorem dX11_init_109 : decode cX11_init 109 = .ok (.aload_n 0, 1) := by decide +kernel
theorem dX11_init_110 : decode cX11_init 110 = .ok (.getfield 14, 3) := by decide +kernel
theorem dX11_init_113 : decode cX11_init 113 = .ok (.ldc 57, 2) := by decide +kernel
theorem dX11_init_115 : decode cX11_init 115 = .ok (.invokevirtual 49, 3) := by decide +kernel
theorem dX11_init_118 : decode cX11_init 118 = .ok (.aload_n 0, 1) := by decide +kernel
theorem dX11_init_119 : decode cX11_init 119 = .ok (.getfield 14, 3) := by decide +kernel
theorem dX11_init_122 : decode cX11_init 122 = .ok (.ldc 59, 2) := by decide +kernel
theorem dX11_init_124 : decode cX11_init 124 = .ok (.invokevirtual 49, 3) := by decide +kernel
theorem dX11_init_127 : decode cX11_init 127 = .ok (.aload_n 0, 1) := by decide +kernel
theorem dX11_init_128 : decode cX11_init 128 = .ok (.getfield 26, 3) := by decide +kernel
theorem dX11_init_131 : decode cX11_init 131 = .ok (.invokevirtual 61, 3) := by decide +kernel
theorem dX11_init_134 : decode cX11_init 134 = .ok (.pop, 1) := by decide +kernel
theorem dX11_init_135 : decode cX11_init 135 = .ok (.aload_n 0, 1) := by decide +kernel
theorem dX11_init_136 : decode cX11_init 136 = .ok (.getfield 33, 3) := by decide +kernel
theorem dX11_init_139 : decode cX11_init 139 = .ok (.aload_n 0, 1) := by decide +kernel
theorem dX11_init_140 : decode cX11_init 140 = .ok (.getfield 26, 3) := by decide +kernel
theorem dX11_init_143 : decode cX11_init 143 = .ok (.getfield 65, 3) := by decide +kernel
theorem dX11_init_146 : decode cX11_init 146 = .ok (.invokevirtual 68, 3) := by decide +kernel
theorem dX11_init_149 : decode cX11_init 149 = .ok (.aload_n 0, 1) := by decide +kernel
theorem dX11_init_150 : decode cX11_init 150 = .ok (.getfield 14, 3) := by decide +kernel
theorem dX11_init_153 : decode cX11_init 153 = .ok (.iconst 0, 1) := by decide +kernel
theorem dX11_init_154 : decode cX11_init 154 = .ok (.invokevirtual 72, 3) := by decide +kernel
theorem dX11_init_157 : decode cX11_init 157 = .ok (.return_, 1) := by decide +kernel
theorem dX11_appendInput_0 : decode cX11_appendInput 0 = .ok (.aload_n 0, 1) := by decide +kernel
theorem dX11_appendInput_1 : decode cX11_appendInput 1 = .ok (.getfield 14, 3) := by decide +kernel
theorem dX11_appendInput_4 : decode cX11_appendInput 4 = .ok (.invokevirtual 75, 3) := by decide +kernel
theorem dX11_appendInput_7 : decode cX11_appendInput 7 = .ok (.bipush 20, 2) := by decide +kernel
theorem dX11_appendInput_9 : decode cX11_appendInput 9 = .ok (.iadd, 1) := by decide +kernel
theorem dX11_appendInput_10 : decode cX11_appendInput 10 = .ok (.sipush 600, 3) := by decide +kernel
theorem dX11_appendInput_13 : decode cX11_appendInput 13 = .ok (.if_icmp .le 13, 3) := by decide +kernel
theorem dX11_appendInput_16 : decode cX11_appendInput 16 = .ok (.new 79, 3) := by decide +kernel
theorem dX11_appendInput_19 : decode cX11_appendInput 19 = .ok (.dup, 1) := by decide +kernel
theorem dX11_appendInput_20 : decode cX11_appendInput 20 = .ok (.ldc 81, 2) := by decide +kernel
theorem dX11_appendInput_22 : decode cX11_appendInput 22 = .ok (.invokespecial 83, 3) := by decide +kernel
theorem dX11_appendInput_25 : decode cX11_appendInput 25 = .ok (.athrow, 1) := by decide +kernel
theorem dX11_appendInput_26 : decode cX11_appendInput 26 = .ok (.aload_n 0, 1) := by decide +kernel
theorem dX11_appendInput_27 : decode cX11_appendInput 27 = .ok (.getfield 14, 3) := by decide +kernel
theorem dX11_appendInput_30 : decode cX11_appendInput 30 = .ok (.iload_n 1, 1) := by decide +kernel
theorem dX11_appendInput_31 : decode cX11_appendInput 31 = .ok (.invokevirtual 85, 3) := by decide +kernel
theorem dX11_appendInput_34 : decode cX11_appendInput 34 = .ok (.aload_n 0, 1) := by decide +kernel
theorem dX11_appendInput_35 : decode cX11_appendInput 35 = .ok (.getfield 14, 3) := by decide +kernel
theorem dX11_appendInput_38 : decode cX11_appendInput 38 = .ok (.iload_n 2, 1) := by decide +kernel
theorem dX11_appendInput_39 : decode cX11_appendInput 39 = .ok (.invokevirtual 85, 3) := by decide +kernel
theorem dX11_appendInput_42 : decode cX11_appendInput 42 = .ok (.aload_n 0, 1) := by decide +kernel
theorem dX11_appendInput_43 : decode cX11_appendInput 43 = .ok (.getfield 14, 3) := by decide +kernel
theorem dX11_appendInput_46 : decode cX11_appendInput 46 = .ok (.iload_n 3, 1) := by decide +kernel
theorem dX11_appendInput_47 : decode cX11_appendInput 47 = .ok (.invokevirtual 85, 3) := by decide +kernel
theorem dX11_appendInput_50 : decode cX11_appendInput 50 = .ok (.aload_n 0, 1) := by decide +kernel
theorem dX11_appendInput_51 : decode cX11_appendInput 51 = .ok (.getfield 14, 3) := by decide +kernel
theorem dX11_appendInput_54 : decode cX11_appendInput 54 = .ok (.iload 4, 2) := by decide +kernel
theorem dX11_appendInput_56 : decode cX11_appendInput 56 = .ok (.invokevirtual 85, 3) := by decide +kernel
theorem dX11_appendInput_59 : decode cX11_appendInput 59 = .ok (.aload_n 0, 1) := by decide +kernel
theorem dX11_appendInput_60 : decode cX11_appendInput 60 = .ok (.getfield 14, 3) := by decide +kernel
theorem dX11_appendInput_63 : decode cX11_appendInput 63 = .ok (.iload 5, 2) := by decide +kernel
theorem dX11_appendInput_65 : decode cX11_appendInput 65 = .ok (.invokevirtual 85, 3) := by decide +kernel
theorem dX11_appendInput_68 : decode cX11_appendInput 68 = .ok (.aload_n 0, 1) := by decide +kernel
theorem dX11_appendInput_69 : decode cX11_appendInput 69 = .ok (.getfield 14, 3) := by decide +kernel
theorem dX11_appendInput_72 : decode cX11_appendInput 72 = .ok (.invokevirtual 75, 3) := by decide +kernel
theorem dX11_appendInput_75 : decode cX11_appendInput 75 = .ok (.ireturn, 1) := by decide +kernel
theorem dX11_truncateInput_0 : decode cX11_truncateInput 0 = .ok (.iload_n 1, 1) := by decide +kernel
theorem dX11_truncateInput_1 : decode cX11_truncateInput 1 = .ok (.ifCond .lt 14, 3) := by decide +kernel
theorem dX11_truncateInput_4 : decode cX11_truncateInput 4 = .ok (.iload_n 1, 1) := by decide +kernel
theorem dX11_truncateInput_5 : decode cX11_truncateInput 5 = .ok (.aload_n 0, 1) := by decide +kernel
theorem dX11_truncateInput_6 : decode cX11_truncateInput 6 = .ok (.getfield 14, 3) := by decide +kernel
theorem dX11_truncateInput_9 : decode cX11_truncateInput 9 = .ok (.invokevirtual 75, 3) := by decide +kernel
theorem dX11_truncateInput_12 : decode cX11_truncateInput 12 = .ok (.if_icmp .le 13, 3) := by decide +kernel
theorem dX11_truncateInput_15 : decode cX11_truncateInput 15 = .ok (.new 88, 3) := by decide +kernel
theorem dX11_truncateInput_18 : decode cX11_truncateInput 18 = .ok (.dup, 1) := by decide +kernel
theorem dX11_truncateInput_19 : decode cX11_truncateInput 19 = .ok (.ldc 90, 2) := by decide +kernel
theorem dX11_truncateInput_21 : decode cX11_truncateInput 21 = .ok (.invokespecial 92, 3) := by decide +kernel
theorem dX11_truncateInput_24 : decode cX11_truncateInput 24 = .ok (.athrow, 1) := by decide +kernel
theorem dX11_truncateInput_25 : decode cX11_truncateInput 25 = .ok (.aload_n 0, 1) := by decide +kernel
theorem dX11_truncateInput_26 : decode cX11_truncateInput 26 = .ok (.getfield 14, 3) := by decide +kernel
theorem dX11_truncateInput_29 : decode cX11_truncateInput 29 = .ok (.iload_n 1, 1) := by decide +kernel
theorem dX11_truncateInput_30 : decode cX11_truncateInput 30 = .ok (.invokevirtual 72, 3) := by decide +kernel
theorem dX11_truncateInput_33 : decode cX11_truncateInput 33 = .ok (.iload_n 1, 1) := by decide +kernel
theorem dX11_truncateInput_34 : decode cX11_truncateInput 34 = .ok (.ireturn, 1) := by decide +kernel
theorem dX11_load_0 : decode cX11_load 0 = .ok (.aload_n 0, 1) := by decide +kernel
theorem dX11_load_1 : decode cX11_load 1 = .ok (.getfield 26, 3) := by decide +kernel
theorem dX11_load_4 : decode cX11_load 4 = .ok (.invokevirtual 61, 3) := by decide +kernel
theorem dX11_load_7 : decode cX11_load 7 = .ok (.istore_n 1, 1) := by decide +kernel
theorem dX11_load_8 : decode cX11_load 8 = .ok (.aload_n 0, 1) := by decide +kernel
theorem dX11_load_9 : decode cX11_load 9 = .ok (.getfield 14, 3) := by decide +kernel
theorem dX11_load_12 : decode cX11_load 12 = .ok (.iconst 0, 1) := by decide +kernel
theorem dX11_load_13 : decode cX11_load 13 = .ok (.invokevirtual 72, 3) := by decide +kernel
theorem dX11_load_16 : decode cX11_load 16 = .ok (.iload_n 1, 1) := by decide +kernel
theorem dX11_load_17 : decode cX11_load 17 = .ok (.ifCond .ne 13, 3) := by decide +kernel
theorem dX11_load_20 : decode cX11_load 20 = .ok (.new 88, 3) := by decide +kernel
theorem dX11_load_23 : decode cX11_load 23 = .ok (.dup, 1) := by decide +kernel
theorem dX11_load_24 : decode cX11_load 24 = .ok (.ldc 93, 2) := by decide +kernel
theorem dX11_load_26 : decode cX11_load 26 = .ok (.invokespecial 92, 3) := by decide +kernel
theorem dX11_load_29 : decode cX11_load 29 = .ok (.athrow, 1) := by decide +kernel
theorem dX11_load_30 : decode cX11_load 30 = .ok (.aload_n 0, 1) := by decide +kernel
theorem dX11_load_31 : decode cX11_load 31 = .ok (.invokevirtual 95, 3) := by decide +kernel
theorem dX11_load_34 : decode cX11_load 34 = .ok (.aload_n 0, 1) := by decide +kernel
theorem dX11_load_35 : decode cX11_load 35 = .ok (.getfield 33, 3) := by decide +kernel
theorem dX11_load_38 : decode cX11_load 38 = .ok (.aload_n 0, 1) := by decide +kernel
theorem dX11_load_39 : decode cX11_load 39 = .ok (.getfield 26, 3) := by decide +kernel
theorem dX11_load_42 : decode cX11_load 42 = .ok (.getfield 65, 3) := by decide +kernel
theorem dX11_load_45 : decode cX11_load 45 = .ok (.invokevirtual 68, 3) := by decide +kernel
theorem dX11_load_48 : decode cX11_load 48 = .ok (.aload_n 0, 1) := by decide +kernel
theorem dX11_load_49 : decode cX11_load 49 = .ok (.getfield 33, 3) := by decide +kernel
theorem dX11_load_52 : decode cX11_load 52 = .ok (.getfield 98, 3) := by decide +kernel
theorem dX11_load_55 : decode cX11_load 55 = .ok (.invokevirtual 102, 3) := by decide +kernel
theorem dX11_load_58 : decode cX11_load 58 = .ok (.ireturn, 1) := by decide +kernel
theorem dX11_errorCode_0 : decode cX11_errorCode 0 = .ok (.aload_n 0, 1) := by decide +kernel
theorem dX11_errorCode_1 : decode cX11_errorCode 1 = .ok (.getfield 26, 3) := by decide +kernel
theorem dX11_errorCode_4 : decode cX11_errorCode 4 = .ok (.getfield 105, 3) := by decide +kernel
theorem dX11_errorCode_7 : decode cX11_errorCode 7 = .ok (.ireturn, 1) := by decide +kernel
theorem dX11_time_0 : decode cX11_time 0 = .ok (.aload_n 0, 1) := by decide +kernel
theorem dX11_time_1 : decode cX11_time 1 = .ok (.getfield 33, 3) := by decide +kernel
theorem dX11_time_4 : decode cX11_time 4 = .ok (.getfield 112, 3) := by decide +kernel
theorem dX11_time_7 : decode cX11_time 7 = .ok (.ireturn, 1) := by decide +kernel
theorem dX11_seed_0 : decode cX11_seed 0 = .ok (.aload_n 0, 1) := by decide +kernel
theorem dX11_seed_1 : decode cX11_seed 1 = .ok (.getfield 33, 3) := by decide +kernel
theorem dX11_seed_4 : decode cX11_seed 4 = .ok (.getfield 115, 3) := by decide +kernel
theorem dX11_seed_7 : decode cX11_seed 7 = .ok (.ireturn, 1) := by decide +kernel
theorem dX11_realmCount_0 : decode cX11_realmCount 0 = .ok (.aload_n 0, 1) := by decide +kernel
theorem dX11_realmCount_1 : decode cX11_realmCount 1 = .ok (.getfield 33, 3) := by decide +kernel
theorem dX11_realmCount_4 : decode cX11_realmCount 4 = .ok (.getfield 118, 3) := by decide +kernel
theorem dX11_realmCount_7 : decode cX11_realmCount 7 = .ok (.invokevirtual 122, 3) := by decide +kernel
theorem dX11_realmCount_10 : decode cX11_realmCount 10 = .ok (.ireturn, 1) := by decide +kernel
theorem dX11_serviceCount_0 : decode cX11_serviceCount 0 = .ok (.aload_n 0, 1) := by decide +kernel
theorem dX11_serviceCount_1 : decode cX11_serviceCount 1 = .ok (.getfield 33, 3) := by decide +kernel
theorem dX11_serviceCount_4 : decode cX11_serviceCount 4 = .ok (.getfield 132, 3) := by decide +kernel
theorem dX11_serviceCount_7 : decode cX11_serviceCount 7 = .ok (.invokevirtual 136, 3) := by decide +kernel
theorem dX11_serviceCount_10 : decode cX11_serviceCount 10 = .ok (.ireturn, 1) := by decide +kernel
theorem dX11_clockOf_0 : decode cX11_clockOf 0 = .ok (.aload_n 0, 1) := by decide +kernel
theorem dX11_clockOf_1 : decode cX11_clockOf 1 = .ok (.iload_n 1, 1) := by decide +kernel
theorem dX11_clockOf_2 : decode cX11_clockOf 2 = .ok (.invokevirtual 147, 3) := by decide +kernel
theorem dX11_clockOf_5 : decode cX11_clockOf 5 = .ok (.aload_n 0, 1) := by decide +kernel
theorem dX11_clockOf_6 : decode cX11_clockOf 6 = .ok (.getfield 33, 3) := by decide +kernel
theorem dX11_clockOf_9 : decode cX11_clockOf 9 = .ok (.getfield 112, 3) := by decide +kernel
theorem dX11_clockOf_12 : decode cX11_clockOf 12 = .ok (.aload_n 0, 1) := by decide +kernel
theorem dX11_clockOf_13 : decode cX11_clockOf 13 = .ok (.getfield 33, 3) := by decide +kernel
theorem dX11_clockOf_16 : decode cX11_clockOf 16 = .ok (.getfield 118, 3) := by decide +kernel
theorem dX11_clockOf_19 : decode cX11_clockOf 19 = .ok (.iload_n 1, 1) := by decide +kernel
theorem dX11_clockOf_20 : decode cX11_clockOf 20 = .ok (.iconst 3, 1) := by decide +kernel
theorem dX11_clockOf_21 : decode cX11_clockOf 21 = .ok (.invokevirtual 150, 3) := by decide +kernel
theorem dX11_clockOf_24 : decode cX11_clockOf 24 = .ok (.iadd, 1) := by decide +kernel
theorem dX11_clockOf_25 : decode cX11_clockOf 25 = .ok (.ireturn, 1) := by decide +kernel
theorem dX11_cheesesOf_0 : decode cX11_cheesesOf 0 = .ok (.aload_n 0, 1) := by decide +kernel
theorem dX11_cheesesOf_1 : decode cX11_cheesesOf 1 = .ok (.iload_n 1, 1) := by decide +kernel
theorem dX11_cheesesOf_2 : decode cX11_cheesesOf 2 = .ok (.invokevirtual 163, 3) := by decide +kernel
theorem dX11_cheesesOf_5 : decode cX11_cheesesOf 5 = .ok (.aload_n 0, 1) := by decide +kernel
theorem dX11_cheesesOf_6 : decode cX11_cheesesOf 6 = .ok (.getfield 33, 3) := by decide +kernel
theorem dX11_cheesesOf_9 : decode cX11_cheesesOf 9 = .ok (.getfield 125, 3) := by decide +kernel
theorem dX11_cheesesOf_12 : decode cX11_cheesesOf 12 = .ok (.iload_n 1, 1) := by decide +kernel
theorem dX11_cheesesOf_13 : decode cX11_cheesesOf 13 = .ok (.iconst 4, 1) := by decide +kernel
theorem dX11_cheesesOf_14 : decode cX11_cheesesOf 14 = .ok (.invokevirtual 166, 3) := by decide +kernel
theorem dX11_cheesesOf_17 : decode cX11_cheesesOf 17 = .ok (.ireturn, 1) := by decide +kernel
theorem dX11_cheesesLeft_0 : decode cX11_cheesesLeft 0 = .ok (.aload_n 0, 1) := by decide +kernel
theorem dX11_cheesesLeft_1 : decode cX11_cheesesLeft 1 = .ok (.iload_n 1, 1) := by decide +kernel
theorem dX11_cheesesLeft_2 : decode cX11_cheesesLeft 2 = .ok (.invokevirtual 170, 3) := by decide +kernel
theorem dX11_cheesesLeft_5 : decode cX11_cheesesLeft 5 = .ok (.aload_n 0, 1) := by decide +kernel
theorem dX11_cheesesLeft_6 : decode cX11_cheesesLeft 6 = .ok (.getfield 33, 3) := by decide +kernel
theorem dX11_cheesesLeft_9 : decode cX11_cheesesLeft 9 = .ok (.getfield 132, 3) := by decide +kernel
theorem dX11_cheesesLeft_12 : decode cX11_cheesesLeft 12 = .ok (.iload_n 1, 1) := by decide +kernel
theorem dX11_cheesesLeft_13 : decode cX11_cheesesLeft 13 = .ok (.iconst 2, 1) := by decide +kernel
theorem dX11_cheesesLeft_14 : decode cX11_cheesesLeft 14 = .ok (.invokevirtual 173, 3) := by decide +kernel
theorem dX11_cheesesLeft_17 : decode cX11_cheesesLeft 17 = .ok (.ireturn, 1) := by decide +kernel
theorem dX11_ticketCount_0 : decode cX11_ticketCount 0 = .ok (.aload_n 0, 1) := by decide +kernel
theorem dX11_ticketCount_1 : decode cX11_ticketCount 1 = .ok (.getfield 33, 3) := by decide +kernel
theorem dX11_ticketCount_4 : decode cX11_ticketCount 4 = .ok (.getfield 98, 3) := by decide +kernel
theorem dX11_ticketCount_7 : decode cX11_ticketCount 7 = .ok (.invokevirtual 102, 3) := by decide +kernel
theorem dX11_ticketCount_10 : decode cX11_ticketCount 10 = .ok (.ireturn, 1) := by decide +kernel
theorem dX11_ticketAt_0 : decode cX11_ticketAt 0 = .ok (.aload_n 0, 1) := by decide +kernel
theorem dX11_ticketAt_1 : decode cX11_ticketAt 1 = .ok (.getfield 33, 3) := by decide +kernel
theorem dX11_ticketAt_4 : decode cX11_ticketAt 4 = .ok (.getfield 98, 3) := by decide +kernel
theorem dX11_ticketAt_7 : decode cX11_ticketAt 7 = .ok (.iload_n 1, 1) := by decide +kernel
theorem dX11_ticketAt_8 : decode cX11_ticketAt 8 = .ok (.invokevirtual 174, 3) := by decide +kernel
theorem dX11_ticketAt_11 : decode cX11_ticketAt 11 = .ok (.ifCond .ne 13, 3) := by decide +kernel
theorem dX11_ticketAt_14 : decode cX11_ticketAt 14 = .ok (.new 178, 3) := by decide +kernel
theorem dX11_ticketAt_17 : decode cX11_ticketAt 17 = .ok (.dup, 1) := by decide +kernel
theorem dX11_ticketAt_18 : decode cX11_ticketAt 18 = .ok (.ldc 180, 2) := by decide +kernel
theorem dX11_ticketAt_20 : decode cX11_ticketAt 20 = .ok (.invokespecial 182, 3) := by decide +kernel
theorem dX11_ticketAt_23 : decode cX11_ticketAt 23 = .ok (.athrow, 1) := by decide +kernel
theorem dX11_ticketAt_24 : decode cX11_ticketAt 24 = .ok (.aload_n 0, 1) := by decide +kernel
theorem dX11_ticketAt_25 : decode cX11_ticketAt 25 = .ok (.getfield 33, 3) := by decide +kernel
theorem dX11_ticketAt_28 : decode cX11_ticketAt 28 = .ok (.getfield 98, 3) := by decide +kernel
theorem dX11_ticketAt_31 : decode cX11_ticketAt 31 = .ok (.iload_n 1, 1) := by decide +kernel
theorem dX11_ticketAt_32 : decode cX11_ticketAt 32 = .ok (.iconst 0, 1) := by decide +kernel
theorem dX11_ticketAt_33 : decode cX11_ticketAt 33 = .ok (.invokevirtual 183, 3) := by decide +kernel
theorem dX11_ticketAt_36 : decode cX11_ticketAt 36 = .ok (.ireturn, 1) := by decide +kernel
theorem dX11_kindOf_0 : decode cX11_kindOf 0 = .ok (.aload_n 0, 1) := by decide +kernel
theorem dX11_kindOf_1 : decode cX11_kindOf 1 = .ok (.getfield 33, 3) := by decide +kernel
theorem dX11_kindOf_4 : decode cX11_kindOf 4 = .ok (.getfield 98, 3) := by decide +kernel
theorem dX11_kindOf_7 : decode cX11_kindOf 7 = .ok (.aload_n 0, 1) := by decide +kernel
theorem dX11_kindOf_8 : decode cX11_kindOf 8 = .ok (.iload_n 1, 1) := by decide +kernel
theorem dX11_kindOf_9 : decode cX11_kindOf 9 = .ok (.invokevirtual 184, 3) := by decide +kernel
theorem dX11_kindOf_12 : decode cX11_kindOf 12 = .ok (.iconst 1, 1) := by decide +kernel
theorem dX11_kindOf_13 : decode cX11_kindOf 13 = .ok (.invokevirtual 183, 3) := by decide +kernel
theorem dX11_kindOf_16 : decode cX11_kindOf 16 = .ok (.ireturn, 1) := by decide +kernel
theorem dX11_ownerOf_0 : decode cX11_ownerOf 0 = .ok (.aload_n 0, 1) := by decide +kernel
theorem dX11_ownerOf_1 : decode cX11_ownerOf 1 = .ok (.getfield 33, 3) := by decide +kernel
theorem dX11_ownerOf_4 : decode cX11_ownerOf 4 = .ok (.getfield 98, 3) := by decide +kernel
theorem dX11_ownerOf_7 : decode cX11_ownerOf 7 = .ok (.aload_n 0, 1) := by decide +kernel
theorem dX11_ownerOf_8 : decode cX11_ownerOf 8 = .ok (.iload_n 1, 1) := by decide +kernel
theorem dX11_ownerOf_9 : decode cX11_ownerOf 9 = .ok (.invokevirtual 184, 3) := by decide +kernel
theorem dX11_ownerOf_12 : decode cX11_ownerOf 12 = .ok (.iconst 2, 1) := by decide +kernel
theorem dX11_ownerOf_13 : decode cX11_ownerOf 13 = .ok (.invokevirtual 183, 3) := by decide +kernel
theorem dX11_ownerOf_16 : decode cX11_ownerOf 16 = .ok (.ireturn, 1) := by decide +kernel
theorem dX11_realmOf_0 : decode cX11_realmOf 0 = .ok (.aload_n 0, 1) := by decide +kernel
theorem dX11_realmOf_1 : decode cX11_realmOf 1 = .ok (.getfield 33, 3) := by decide +kernel
theorem dX11_realmOf_4 : decode cX11_realmOf 4 = .ok (.getfield 98, 3) := by decide +kernel
theorem dX11_realmOf_7 : decode cX11_realmOf 7 = .ok (.aload_n 0, 1) := by decide +kernel
theorem dX11_realmOf_8 : decode cX11_realmOf 8 = .ok (.iload_n 1, 1) := by decide +kernel
theorem dX11_realmOf_9 : decode cX11_realmOf 9 = .ok (.invokevirtual 184, 3) := by decide +kernel
theorem dX11_realmOf_12 : decode cX11_realmOf 12 = .ok (.iconst 3, 1) := by decide +kernel
theorem dX11_realmOf_13 : decode cX11_realmOf 13 = .ok (.invokevirtual 183, 3) := by decide +kernel
theorem dX11_realmOf_16 : decode cX11_realmOf 16 = .ok (.ireturn, 1) := by decide +kernel
theorem dX11_serviceOf_0 : decode cX11_serviceOf 0 = .ok (.aload_n 0, 1) := by decide +kernel
theorem dX11_serviceOf_1 : decode cX11_serviceOf 1 = .ok (.getfield 33, 3) := by decide +kernel
theorem dX11_serviceOf_4 : decode cX11_serviceOf 4 = .ok (.getfield 98, 3) := by decide +kernel
theorem dX11_serviceOf_7 : decode cX11_serviceOf 7 = .ok (.aload_n 0, 1) := by decide +kernel
theorem dX11_serviceOf_8 : decode cX11_serviceOf 8 = .ok (.iload_n 1, 1) := by decide +kernel
theorem dX11_serviceOf_9 : decode cX11_serviceOf 9 = .ok (.invokevirtual 184, 3) := by decide +kernel
theorem dX11_serviceOf_12 : decode cX11_serviceOf 12 = .ok (.iconst 4, 1) := by decide +kernel
theorem dX11_serviceOf_13 : decode cX11_serviceOf 13 = .ok (.invokevirtual 183, 3) := by decide +kernel
theorem dX11_serviceOf_16 : decode cX11_serviceOf 16 = .ok (.ireturn, 1) := by decide +kernel
theorem dX11_startOf_0 : decode cX11_startOf 0 = .ok (.aload_n 0, 1) := by decide +kernel
theorem dX11_startOf_1 : decode cX11_startOf 1 = .ok (.getfield 33, 3) := by decide +kernel
theorem dX11_startOf_4 : decode cX11_startOf 4 = .ok (.getfield 98, 3) := by decide +kernel
theorem dX11_startOf_7 : decode cX11_startOf 7 = .ok (.aload_n 0, 1) := by decide +kernel
theorem dX11_startOf_8 : decode cX11_startOf 8 = .ok (.iload_n 1, 1) := by decide +kernel
theorem dX11_startOf_9 : decode cX11_startOf 9 = .ok (.invokevirtual 184, 3) := by decide +kernel
theorem dX11_startOf_12 : decode cX11_startOf 12 = .ok (.iconst 5, 1) := by decide +kernel
theorem dX11_startOf_13 : decode cX11_startOf 13 = .ok (.invokevirtual 183, 3) := by decide +kernel
theorem dX11_startOf_16 : decode cX11_startOf 16 = .ok (.ireturn, 1) := by decide +kernel
theorem dX11_endOf_0 : decode cX11_endOf 0 = .ok (.aload_n 0, 1) := by decide +kernel
theorem dX11_endOf_1 : decode cX11_endOf 1 = .ok (.getfield 33, 3) := by decide +kernel
theorem dX11_endOf_4 : decode cX11_endOf 4 = .ok (.getfield 98, 3) := by decide +kernel
theorem dX11_endOf_7 : decode cX11_endOf 7 = .ok (.aload_n 0, 1) := by decide +kernel
theorem dX11_endOf_8 : decode cX11_endOf 8 = .ok (.iload_n 1, 1) := by decide +kernel
theorem dX11_endOf_9 : decode cX11_endOf 9 = .ok (.invokevirtual 184, 3) := by decide +kernel
theorem dX11_endOf_12 : decode cX11_endOf 12 = .ok (.bipush 6, 2) := by decide +kernel
theorem dX11_endOf_14 : decode cX11_endOf 14 = .ok (.invokevirtual 183, 3) := by decide +kernel
theorem dX11_endOf_17 : decode cX11_endOf 17 = .ok (.ireturn, 1) := by decide +kernel
theorem dX11_lastEndOf_0 : decode cX11_lastEndOf 0 = .ok (.aload_n 0, 1) := by decide +kernel
theorem dX11_lastEndOf_1 : decode cX11_lastEndOf 1 = .ok (.getfield 33, 3) := by decide +kernel
theorem dX11_lastEndOf_4 : decode cX11_lastEndOf 4 = .ok (.getfield 98, 3) := by decide +kernel
theorem dX11_lastEndOf_7 : decode cX11_lastEndOf 7 = .ok (.aload_n 0, 1) := by decide +kernel
theorem dX11_lastEndOf_8 : decode cX11_lastEndOf 8 = .ok (.iload_n 1, 1) := by decide +kernel
theorem dX11_lastEndOf_9 : decode cX11_lastEndOf 9 = .ok (.invokevirtual 184, 3) := by decide +kernel
theorem dX11_lastEndOf_12 : decode cX11_lastEndOf 12 = .ok (.bipush 7, 2) := by decide +kernel
theorem dX11_lastEndOf_14 : decode cX11_lastEndOf 14 = .ok (.invokevirtual 183, 3) := by decide +kernel
theorem dX11_lastEndOf_17 : decode cX11_lastEndOf 17 = .ok (.ireturn, 1) := by decide +kernel
theorem dX11_keyOf_0 : decode cX11_keyOf 0 = .ok (.aload_n 0, 1) := by decide +kernel
theorem dX11_keyOf_1 : decode cX11_keyOf 1 = .ok (.getfield 33, 3) := by decide +kernel
theorem dX11_keyOf_4 : decode cX11_keyOf 4 = .ok (.getfield 98, 3) := by decide +kernel
theorem dX11_keyOf_7 : decode cX11_keyOf 7 = .ok (.aload_n 0, 1) := by decide +kernel
theorem dX11_keyOf_8 : decode cX11_keyOf 8 = .ok (.iload_n 1, 1) := by decide +kernel
theorem dX11_keyOf_9 : decode cX11_keyOf 9 = .ok (.invokevirtual 184, 3) := by decide +kernel
theorem dX11_keyOf_12 : decode cX11_keyOf 12 = .ok (.bipush 8, 2) := by decide +kernel
theorem dX11_keyOf_14 : decode cX11_keyOf 14 = .ok (.invokevirtual 183, 3) := by decide +kernel
theorem dX11_keyOf_17 : decode cX11_keyOf 17 = .ok (.ireturn, 1) := by decide +kernel
theorem dX11_isRenewable_0 : decode cX11_isRenewable 0 = .ok (.aload_n 0, 1) := by decide +kernel
theorem dX11_isRenewable_1 : decode cX11_isRenewable 1 = .ok (.getfield 33, 3) := by decide +kernel
theorem dX11_isRenewable_4 : decode cX11_isRenewable 4 = .ok (.getfield 98, 3) := by decide +kernel
theorem dX11_isRenewable_7 : decode cX11_isRenewable 7 = .ok (.aload_n 0, 1) := by decide +kernel
theorem dX11_isRenewable_8 : decode cX11_isRenewable 8 = .ok (.iload_n 1, 1) := by decide +kernel
theorem dX11_isRenewable_9 : decode cX11_isRenewable 9 = .ok (.invokevirtual 184, 3) := by decide +kernel
theorem dX11_isRenewable_12 : decode cX11_isRenewable 12 = .ok (.invokevirtual 187, 3) := by decide +kernel
theorem dX11_isRenewable_15 : decode cX11_isRenewable 15 = .ok (.ireturn, 1) := by decide +kernel
theorem dX11_isValid_0 : decode cX11_isValid 0 = .ok (.aload_n 0, 1) := by decide +kernel
theorem dX11_isValid_1 : decode cX11_isValid 1 = .ok (.getfield 33, 3) := by decide +kernel
theorem dX11_isValid_4 : decode cX11_isValid 4 = .ok (.getfield 98, 3) := by decide +kernel
theorem dX11_isValid_7 : decode cX11_isValid 7 = .ok (.aload_n 0, 1) := by decide +kernel
theorem dX11_isValid_8 : decode cX11_isValid 8 = .ok (.iload_n 1, 1) := by decide +kernel
theorem dX11_isValid_9 : decode cX11_isValid 9 = .ok (.invokevirtual 184, 3) := by decide +kernel
theorem dX11_isValid_12 : decode cX11_isValid 12 = .ok (.aload_n 0, 1) := by decide +kernel
theorem dX11_isValid_13 : decode cX11_isValid 13 = .ok (.getfield 33, 3) := by decide +kernel
theorem dX11_isValid_16 : decode cX11_isValid 16 = .ok (.getfield 112, 3) := by decide +kernel
theorem dX11_isValid_19 : decode cX11_isValid 19 = .ok (.invokevirtual 190, 3) := by decide +kernel
theorem dX11_isValid_22 : decode cX11_isValid 22 = .ok (.ireturn, 1) := by decide +kernel
theorem dX11_validTickets_0 : decode cX11_validTickets 0 = .ok (.aload_n 0, 1) := by decide +kernel
theorem dX11_validTickets_1 : decode cX11_validTickets 1 = .ok (.getfield 33, 3) := by decide +kernel
theorem dX11_validTickets_4 : decode cX11_validTickets 4 = .ok (.getfield 98, 3) := by decide +kernel
theorem dX11_validTickets_7 : decode cX11_validTickets 7 = .ok (.aload_n 0, 1) := by decide +kernel
theorem dX11_validTickets_8 : decode cX11_validTickets 8 = .ok (.getfield 33, 3) := by decide +kernel
theorem dX11_validTickets_11 : decode cX11_validTickets 11 = .ok (.getfield 112, 3) := by decide +kernel
theorem dX11_validTickets_14 : decode cX11_validTickets 14 = .ok (.invokevirtual 216, 3) := by decide +kernel
theorem dX11_validTickets_17 : decode cX11_validTickets 17 = .ok (.ireturn, 1) := by decide +kernel
theorem dX11_useCount_0 : decode cX11_useCount 0 = .ok (.aload_n 0, 1) := by decide +kernel
theorem dX11_useCount_1 : decode cX11_useCount 1 = .ok (.getfield 33, 3) := by decide +kernel
theorem dX11_useCount_4 : decode cX11_useCount 4 = .ok (.getfield 225, 3) := by decide +kernel
theorem dX11_useCount_7 : decode cX11_useCount 7 = .ok (.invokevirtual 229, 3) := by decide +kernel
theorem dX11_useCount_10 : decode cX11_useCount 10 = .ok (.ireturn, 1) := by decide +kernel
theorem dX11_cheeseDifference_0 : decode cX11_cheeseDifference 0 = .ok (.aload_n 0, 1) := by decide +kernel
theorem dX11_cheeseDifference_1 : decode cX11_cheeseDifference 1 = .ok (.getfield 33, 3) := by decide +kernel
theorem dX11_cheeseDifference_4 : decode cX11_cheeseDifference 4 = .ok (.getfield 232, 3) := by decide +kernel
theorem dX11_cheeseDifference_7 : decode cX11_cheeseDifference 7 = .ok (.aload_n 0, 1) := by decide +kernel
theorem dX11_cheeseDifference_8 : decode cX11_cheeseDifference 8 = .ok (.getfield 33, 3) := by decide +kernel
theorem dX11_cheeseDifference_11 : decode cX11_cheeseDifference 11 = .ok (.getfield 132, 3) := by decide +kernel
theorem dX11_cheeseDifference_14 : decode cX11_cheeseDifference 14 = .ok (.iconst 2, 1) := by decide +kernel
theorem dX11_cheeseDifference_15 : decode cX11_cheeseDifference 15 = .ok (.invokevirtual 235, 3) := by decide +kernel
theorem dX11_cheeseDifference_18 : decode cX11_cheeseDifference 18 = .ok (.isub, 1) := by decide +kernel
theorem dX11_cheeseDifference_19 : decode cX11_cheeseDifference 19 = .ok (.aload_n 0, 1) := by decide +kernel
theorem dX11_cheeseDifference_20 : decode cX11_cheeseDifference 20 = .ok (.getfield 33, 3) := by decide +kernel
theorem dX11_cheeseDifference_23 : decode cX11_cheeseDifference 23 = .ok (.getfield 125, 3) := by decide +kernel
theorem dX11_cheeseDifference_26 : decode cX11_cheeseDifference 26 = .ok (.iconst 4, 1) := by decide +kernel
theorem dX11_cheeseDifference_27 : decode cX11_cheeseDifference 27 = .ok (.invokevirtual 238, 3) := by decide +kernel
theorem dX11_cheeseDifference_30 : decode cX11_cheeseDifference 30 = .ok (.isub, 1) := by decide +kernel
theorem dX11_cheeseDifference_31 : decode cX11_cheeseDifference 31 = .ok (.ireturn, 1) := by decide +kernel
theorem dX11_lifeErrors_0 : decode cX11_lifeErrors 0 = .ok (.aload_n 0, 1) := by decide +kernel
theorem dX11_lifeErrors_1 : decode cX11_lifeErrors 1 = .ok (.getfield 33, 3) := by decide +kernel
theorem dX11_lifeErrors_4 : decode cX11_lifeErrors 4 = .ok (.getfield 98, 3) := by decide +kernel
theorem dX11_lifeErrors_7 : decode cX11_lifeErrors 7 = .ok (.invokevirtual 239, 3) := by decide +kernel
theorem dX11_lifeErrors_10 : decode cX11_lifeErrors 10 = .ok (.ireturn, 1) := by decide +kernel
theorem dX11_distanceErrors_0 : decode cX11_distanceErrors 0 = .ok (.aload_n 0, 1) := by decide +kernel
theorem dX11_distanceErrors_1 : decode cX11_distanceErrors 1 = .ok (.getfield 33, 3) := by decide +kernel
theorem dX11_distanceErrors_4 : decode cX11_distanceErrors 4 = .ok (.getfield 118, 3) := by decide +kernel
theorem dX11_distanceErrors_7 : decode cX11_distanceErrors 7 = .ok (.invokevirtual 242, 3) := by decide +kernel
theorem dX11_distanceErrors_10 : decode cX11_distanceErrors 10 = .ok (.ireturn, 1) := by decide +kernel
theorem dX11_login_0 : decode cX11_login 0 = .ok (.aload_n 0, 1) := by decide +kernel
theorem dX11_login_1 : decode cX11_login 1 = .ok (.iload_n 1, 1) := by decide +kernel
theorem dX11_login_2 : decode cX11_login 2 = .ok (.invokevirtual 163, 3) := by decide +kernel
theorem dX11_login_5 : decode cX11_login 5 = .ok (.aload_n 0, 1) := by decide +kernel
theorem dX11_login_6 : decode cX11_login 6 = .ok (.iload_n 2, 1) := by decide +kernel
theorem dX11_login_7 : decode cX11_login 7 = .ok (.invokevirtual 198, 3) := by decide +kernel
theorem dX11_login_10 : decode cX11_login 10 = .ok (.aload_n 0, 1) := by decide +kernel
theorem dX11_login_11 : decode cX11_login 11 = .ok (.aload_n 0, 1) := by decide +kernel
theorem dX11_login_12 : decode cX11_login 12 = .ok (.getfield 33, 3) := by decide +kernel
theorem dX11_login_15 : decode cX11_login 15 = .ok (.iload_n 1, 1) := by decide +kernel
theorem dX11_login_16 : decode cX11_login 16 = .ok (.iload_n 2, 1) := by decide +kernel
theorem dX11_login_17 : decode cX11_login 17 = .ok (.invokevirtual 201, 3) := by decide +kernel
theorem dX11_login_20 : decode cX11_login 20 = .ok (.invokevirtual 249, 3) := by decide +kernel
theorem dX11_login_23 : decode cX11_login 23 = .ok (.aload_n 0, 1) := by decide +kernel
theorem dX11_login_24 : decode cX11_login 24 = .ok (.invokevirtual 95, 3) := by decide +kernel
theorem dX11_login_27 : decode cX11_login 27 = .ok (.aload_n 0, 1) := by decide +kernel
theorem dX11_login_28 : decode cX11_login 28 = .ok (.getfield 33, 3) := by decide +kernel
theorem dX11_login_31 : decode cX11_login 31 = .ok (.iload_n 1, 1) := by decide +kernel
theorem dX11_login_32 : decode cX11_login 32 = .ok (.iload_n 3, 1) := by decide +kernel
theorem dX11_login_33 : decode cX11_login 33 = .ok (.invokevirtual 252, 3) := by decide +kernel
theorem dX11_login_36 : decode cX11_login 36 = .ok (.ireturn, 1) := by decide +kernel
theorem dX11_refer_0 : decode cX11_refer 0 = .ok (.aload_n 0, 1) := by decide +kernel
theorem dX11_refer_1 : decode cX11_refer 1 = .ok (.iload_n 1, 1) := by decide +kernel
theorem dX11_refer_2 : decode cX11_refer 2 = .ok (.invokevirtual 184, 3) := by decide +kernel
theorem dX11_refer_5 : decode cX11_refer 5 = .ok (.istore_n 3, 1) := by decide +kernel
theorem dX11_refer_6 : decode cX11_refer 6 = .ok (.aload_n 0, 1) := by decide +kernel
theorem dX11_refer_7 : decode cX11_refer 7 = .ok (.iload_n 2, 1) := by decide +kernel
theorem dX11_refer_8 : decode cX11_refer 8 = .ok (.invokevirtual 147, 3) := by decide +kernel
theorem dX11_refer_11 : decode cX11_refer 11 = .ok (.aload_n 0, 1) := by decide +kernel
theorem dX11_refer_12 : decode cX11_refer 12 = .ok (.aload_n 0, 1) := by decide +kernel
theorem dX11_refer_13 : decode cX11_refer 13 = .ok (.getfield 33, 3) := by decide +kernel
theorem dX11_refer_16 : decode cX11_refer 16 = .ok (.iload_n 3, 1) := by decide +kernel
theorem dX11_refer_17 : decode cX11_refer 17 = .ok (.iload_n 2, 1) := by decide +kernel
theorem dX11_refer_18 : decode cX11_refer 18 = .ok (.invokevirtual 204, 3) := by decide +kernel
theorem dX11_refer_21 : decode cX11_refer 21 = .ok (.invokevirtual 249, 3) := by decide +kernel
theorem dX11_refer_24 : decode cX11_refer 24 = .ok (.aload_n 0, 1) := by decide +kernel
theorem dX11_refer_25 : decode cX11_refer 25 = .ok (.invokevirtual 95, 3) := by decide +kernel
theorem dX11_refer_28 : decode cX11_refer 28 = .ok (.aload_n 0, 1) := by decide +kernel
theorem dX11_refer_29 : decode cX11_refer 29 = .ok (.getfield 33, 3) := by decide +kernel
theorem dX11_refer_32 : decode cX11_refer 32 = .ok (.iload_n 3, 1) := by decide +kernel
theorem dX11_refer_33 : decode cX11_refer 33 = .ok (.iload_n 2, 1) := by decide +kernel
theorem dX11_refer_34 : decode cX11_refer 34 = .ok (.invokevirtual 256, 3) := by decide +kernel
theorem dX11_refer_37 : decode cX11_refer 37 = .ok (.ireturn, 1) := by decide +kernel
theorem dX11_request_0 : decode cX11_request 0 = .ok (.aload_n 0, 1) := by decide +kernel
theorem dX11_request_1 : decode cX11_request 1 = .ok (.iload_n 1, 1) := by decide +kernel
theorem dX11_request_2 : decode cX11_request 2 = .ok (.invokevirtual 184, 3) := by decide +kernel
theorem dX11_request_5 : decode cX11_request 5 = .ok (.istore_n 3, 1) := by decide +kernel
theorem dX11_request_6 : decode cX11_request 6 = .ok (.aload_n 0, 1) := by decide +kernel
theorem dX11_request_7 : decode cX11_request 7 = .ok (.iload_n 2, 1) := by decide +kernel
theorem dX11_request_8 : decode cX11_request 8 = .ok (.invokevirtual 170, 3) := by decide +kernel
theorem dX11_request_11 : decode cX11_request 11 = .ok (.aload_n 0, 1) := by decide +kernel
theorem dX11_request_12 : decode cX11_request 12 = .ok (.aload_n 0, 1) := by decide +kernel
theorem dX11_request_13 : decode cX11_request 13 = .ok (.getfield 33, 3) := by decide +kernel
theorem dX11_request_16 : decode cX11_request 16 = .ok (.iload_n 3, 1) := by decide +kernel
theorem dX11_request_17 : decode cX11_request 17 = .ok (.iload_n 2, 1) := by decide +kernel
theorem dX11_request_18 : decode cX11_request 18 = .ok (.invokevirtual 207, 3) := by decide +kernel
theorem dX11_request_21 : decode cX11_request 21 = .ok (.invokevirtual 249, 3) := by decide +kernel
theorem dX11_request_24 : decode cX11_request 24 = .ok (.aload_n 0, 1) := by decide +kernel
theorem dX11_request_25 : decode cX11_request 25 = .ok (.invokevirtual 95, 3) := by decide +kernel
theorem dX11_request_28 : decode cX11_request 28 = .ok (.aload_n 0, 1) := by decide +kernel
theorem dX11_request_29 : decode cX11_request 29 = .ok (.getfield 33, 3) := by decide +kernel
theorem dX11_request_32 : decode cX11_request 32 = .ok (.iload_n 3, 1) := by decide +kernel
theorem dX11_request_33 : decode cX11_request 33 = .ok (.iload_n 2, 1) := by decide +kernel
theorem dX11_request_34 : decode cX11_request 34 = .ok (.invokevirtual 259, 3) := by decide +kernel
theorem dX11_request_37 : decode cX11_request 37 = .ok (.ireturn, 1) := by decide +kernel
theorem dX11_renew_0 : decode cX11_renew 0 = .ok (.aload_n 0, 1) := by decide +kernel
theorem dX11_renew_1 : decode cX11_renew 1 = .ok (.iload_n 1, 1) := by decide +kernel
theorem dX11_renew_2 : decode cX11_renew 2 = .ok (.invokevirtual 184, 3) := by decide +kernel
theorem dX11_renew_5 : decode cX11_renew 5 = .ok (.istore_n 2, 1) := by decide +kernel
theorem dX11_renew_6 : decode cX11_renew 6 = .ok (.aload_n 0, 1) := by decide +kernel
theorem dX11_renew_7 : decode cX11_renew 7 = .ok (.aload_n 0, 1) := by decide +kernel
theorem dX11_renew_8 : decode cX11_renew 8 = .ok (.getfield 33, 3) := by decide +kernel
theorem dX11_renew_11 : decode cX11_renew 11 = .ok (.iload_n 2, 1) := by decide +kernel
theorem dX11_renew_12 : decode cX11_renew 12 = .ok (.invokevirtual 210, 3) := by decide +kernel
theorem dX11_renew_15 : decode cX11_renew 15 = .ok (.invokevirtual 249, 3) := by decide +kernel
theorem dX11_renew_18 : decode cX11_renew 18 = .ok (.aload_n 0, 1) := by decide +kernel
theorem dX11_renew_19 : decode cX11_renew 19 = .ok (.invokevirtual 95, 3) := by decide +kernel
theorem dX11_renew_22 : decode cX11_renew 22 = .ok (.aload_n 0, 1) := by decide +kernel
theorem dX11_renew_23 : decode cX11_renew 23 = .ok (.getfield 33, 3) := by decide +kernel
theorem dX11_renew_26 : decode cX11_renew 26 = .ok (.iload_n 2, 1) := by decide +kernel
theorem dX11_renew_27 : decode cX11_renew 27 = .ok (.invokevirtual 262, 3) := by decide +kernel
theorem dX11_renew_30 : decode cX11_renew 30 = .ok (.ireturn, 1) := by decide +kernel
theorem dX11_cheese_0 : decode cX11_cheese 0 = .ok (.aload_n 0, 1) := by decide +kernel
theorem dX11_cheese_1 : decode cX11_cheese 1 = .ok (.iload_n 1, 1) := by decide +kernel
theorem dX11_cheese_2 : decode cX11_cheese 2 = .ok (.invokevirtual 184, 3) := by decide +kernel
theorem dX11_cheese_5 : decode cX11_cheese 5 = .ok (.istore_n 2, 1) := by decide +kernel
theorem dX11_cheese_6 : decode cX11_cheese 6 = .ok (.aload_n 0, 1) := by decide +kernel
theorem dX11_cheese_7 : decode cX11_cheese 7 = .ok (.aload_n 0, 1) := by decide +kernel
theorem dX11_cheese_8 : decode cX11_cheese 8 = .ok (.getfield 33, 3) := by decide +kernel
theorem dX11_cheese_11 : decode cX11_cheese 11 = .ok (.iload_n 2, 1) := by decide +kernel
theorem dX11_cheese_12 : decode cX11_cheese 12 = .ok (.iconst 0, 1) := by decide +kernel
theorem dX11_cheese_13 : decode cX11_cheese 13 = .ok (.invokevirtual 213, 3) := by decide +kernel
theorem dX11_cheese_16 : decode cX11_cheese 16 = .ok (.invokevirtual 249, 3) := by decide +kernel
theorem dX11_cheese_19 : decode cX11_cheese 19 = .ok (.aload_n 0, 1) := by decide +kernel
theorem dX11_cheese_20 : decode cX11_cheese 20 = .ok (.invokevirtual 95, 3) := by decide +kernel
theorem dX11_cheese_23 : decode cX11_cheese 23 = .ok (.aload_n 0, 1) := by decide +kernel
theorem dX11_cheese_24 : decode cX11_cheese 24 = .ok (.getfield 33, 3) := by decide +kernel
theorem dX11_cheese_27 : decode cX11_cheese 27 = .ok (.iload_n 2, 1) := by decide +kernel
theorem dX11_cheese_28 : decode cX11_cheese 28 = .ok (.invokevirtual 265, 3) := by decide +kernel
theorem dX11_cheese_31 : decode cX11_cheese 31 = .ok (.ireturn, 1) := by decide +kernel
theorem dX11_drop_0 : decode cX11_drop 0 = .ok (.aload_n 0, 1) := by decide +kernel
theorem dX11_drop_1 : decode cX11_drop 1 = .ok (.iload_n 1, 1) := by decide +kernel
theorem dX11_drop_2 : decode cX11_drop 2 = .ok (.invokevirtual 184, 3) := by decide +kernel
theorem dX11_drop_5 : decode cX11_drop 5 = .ok (.istore_n 2, 1) := by decide +kernel
theorem dX11_drop_6 : decode cX11_drop 6 = .ok (.aload_n 0, 1) := by decide +kernel
theorem dX11_drop_7 : decode cX11_drop 7 = .ok (.invokevirtual 95, 3) := by decide +kernel
theorem dX11_drop_10 : decode cX11_drop 10 = .ok (.aload_n 0, 1) := by decide +kernel
theorem dX11_drop_11 : decode cX11_drop 11 = .ok (.getfield 33, 3) := by decide +kernel
theorem dX11_drop_14 : decode cX11_drop 14 = .ok (.getfield 98, 3) := by decide +kernel
theorem dX11_drop_17 : decode cX11_drop 17 = .ok (.iload_n 2, 1) := by decide +kernel
theorem dX11_drop_18 : decode cX11_drop 18 = .ok (.invokevirtual 268, 3) := by decide +kernel
theorem dX11_drop_21 : decode cX11_drop 21 = .ok (.aload_n 0, 1) := by decide +kernel
theorem dX11_drop_22 : decode cX11_drop 22 = .ok (.getfield 33, 3) := by decide +kernel
theorem dX11_drop_25 : decode cX11_drop 25 = .ok (.getfield 98, 3) := by decide +kernel
theorem dX11_drop_28 : decode cX11_drop 28 = .ok (.invokevirtual 102, 3) := by decide +kernel
theorem dX11_drop_31 : decode cX11_drop 31 = .ok (.ireturn, 1) := by decide +kernel
theorem dX11_sweep_0 : decode cX11_sweep 0 = .ok (.aload_n 0, 1) := by decide +kernel
theorem dX11_sweep_1 : decode cX11_sweep 1 = .ok (.invokevirtual 95, 3) := by decide +kernel
theorem dX11_sweep_4 : decode cX11_sweep 4 = .ok (.aload_n 0, 1) := by decide +kernel
theorem dX11_sweep_5 : decode cX11_sweep 5 = .ok (.getfield 33, 3) := by decide +kernel
theorem dX11_sweep_8 : decode cX11_sweep 8 = .ok (.getfield 98, 3) := by decide +kernel
theorem dX11_sweep_11 : decode cX11_sweep 11 = .ok (.aload_n 0, 1) := by decide +kernel
theorem dX11_sweep_12 : decode cX11_sweep 12 = .ok (.getfield 33, 3) := by decide +kernel
theorem dX11_sweep_15 : decode cX11_sweep 15 = .ok (.getfield 112, 3) := by decide +kernel
theorem dX11_sweep_18 : decode cX11_sweep 18 = .ok (.invokevirtual 271, 3) := by decide +kernel
theorem dX11_sweep_21 : decode cX11_sweep 21 = .ok (.ireturn, 1) := by decide +kernel
theorem dX11_setClock_0 : decode cX11_setClock 0 = .ok (.aload_n 0, 1) := by decide +kernel
theorem dX11_setClock_1 : decode cX11_setClock 1 = .ok (.iload_n 1, 1) := by decide +kernel
theorem dX11_setClock_2 : decode cX11_setClock 2 = .ok (.invokevirtual 163, 3) := by decide +kernel
theorem dX11_setClock_5 : decode cX11_setClock 5 = .ok (.iload_n 2, 1) := by decide +kernel
theorem dX11_setClock_6 : decode cX11_setClock 6 = .ok (.bipush (-9), 2) := by decide +kernel
theorem dX11_setClock_8 : decode cX11_setClock 8 = .ok (.if_icmp .lt 9, 3) := by decide +kernel
theorem dX11_setClock_11 : decode cX11_setClock 11 = .ok (.iload_n 2, 1) := by decide +kernel
theorem dX11_setClock_12 : decode cX11_setClock 12 = .ok (.bipush 9, 2) := by decide +kernel
theorem dX11_setClock_14 : decode cX11_setClock 14 = .ok (.if_icmp .le 14, 3) := by decide +kernel
theorem dX11_setClock_17 : decode cX11_setClock 17 = .ok (.new 88, 3) := by decide +kernel
theorem dX11_setClock_20 : decode cX11_setClock 20 = .ok (.dup, 1) := by decide +kernel
theorem dX11_setClock_21 : decode cX11_setClock 21 = .ok (.ldc_w 278, 3) := by decide +kernel
theorem dX11_setClock_24 : decode cX11_setClock 24 = .ok (.invokespecial 92, 3) := by decide +kernel
theorem dX11_setClock_27 : decode cX11_setClock 27 = .ok (.athrow, 1) := by decide +kernel
theorem dX11_setClock_28 : decode cX11_setClock 28 = .ok (.aload_n 0, 1) := by decide +kernel
theorem dX11_setClock_29 : decode cX11_setClock 29 = .ok (.invokevirtual 95, 3) := by decide +kernel
theorem dX11_setClock_32 : decode cX11_setClock 32 = .ok (.aload_n 0, 1) := by decide +kernel
theorem dX11_setClock_33 : decode cX11_setClock 33 = .ok (.getfield 33, 3) := by decide +kernel
theorem dX11_setClock_36 : decode cX11_setClock 36 = .ok (.getfield 125, 3) := by decide +kernel
theorem dX11_setClock_39 : decode cX11_setClock 39 = .ok (.iload_n 1, 1) := by decide +kernel
theorem dX11_setClock_40 : decode cX11_setClock 40 = .ok (.iconst 3, 1) := by decide +kernel
theorem dX11_setClock_41 : decode cX11_setClock 41 = .ok (.invokevirtual 166, 3) := by decide +kernel
theorem dX11_setClock_44 : decode cX11_setClock 44 = .ok (.istore_n 3, 1) := by decide +kernel
theorem dX11_setClock_45 : decode cX11_setClock 45 = .ok (.aload_n 0, 1) := by decide +kernel
theorem dX11_setClock_46 : decode cX11_setClock 46 = .ok (.getfield 33, 3) := by decide +kernel
theorem dX11_setClock_49 : decode cX11_setClock 49 = .ok (.getfield 125, 3) := by decide +kernel
theorem dX11_setClock_52 : decode cX11_setClock 52 = .ok (.iload_n 1, 1) := by decide +kernel
theorem dX11_setClock_53 : decode cX11_setClock 53 = .ok (.iconst 3, 1) := by decide +kernel
theorem dX11_setClock_54 : decode cX11_setClock 54 = .ok (.iload_n 2, 1) := by decide +kernel
theorem dX11_setClock_55 : decode cX11_setClock 55 = .ok (.invokevirtual 274, 3) := by decide +kernel
theorem dX11_setClock_58 : decode cX11_setClock 58 = .ok (.iload_n 3, 1) := by decide +kernel
theorem dX11_setClock_59 : decode cX11_setClock 59 = .ok (.ireturn, 1) := by decide +kernel
theorem dX11_pass_0 : decode cX11_pass 0 = .ok (.iload_n 1, 1) := by decide +kernel
theorem dX11_pass_1 : decode cX11_pass 1 = .ok (.iconst 1, 1) := by decide +kernel
theorem dX11_pass_2 : decode cX11_pass 2 = .ok (.if_icmp .lt 10, 3) := by decide +kernel
theorem dX11_pass_5 : decode cX11_pass 5 = .ok (.iload_n 1, 1) := by decide +kernel
theorem dX11_pass_6 : decode cX11_pass 6 = .ok (.sipush 999, 3) := by decide +kernel
theorem dX11_pass_9 : decode cX11_pass 9 = .ok (.if_icmp .le 13, 3) := by decide +kernel
theorem dX11_pass_12 : decode cX11_pass 12 = .ok (.new 88, 3) := by decide +kernel
theorem dX11_pass_15 : decode cX11_pass 15 = .ok (.dup, 1) := by decide +kernel
theorem dX11_pass_16 : decode cX11_pass 16 = .ok (.ldc 219, 2) := by decide +kernel
theorem dX11_pass_18 : decode cX11_pass 18 = .ok (.invokespecial 92, 3) := by decide +kernel
theorem dX11_pass_21 : decode cX11_pass 21 = .ok (.athrow, 1) := by decide +kernel
theorem dX11_pass_22 : decode cX11_pass 22 = .ok (.aload_n 0, 1) := by decide +kernel
theorem dX11_pass_23 : decode cX11_pass 23 = .ok (.invokevirtual 95, 3) := by decide +kernel
theorem dX11_pass_26 : decode cX11_pass 26 = .ok (.aload_n 0, 1) := by decide +kernel
theorem dX11_pass_27 : decode cX11_pass 27 = .ok (.invokevirtual 245, 3) := by decide +kernel
theorem dX11_pass_30 : decode cX11_pass 30 = .ok (.istore_n 2, 1) := by decide +kernel
theorem dX11_pass_31 : decode cX11_pass 31 = .ok (.aload_n 0, 1) := by decide +kernel
theorem dX11_pass_32 : decode cX11_pass 32 = .ok (.getfield 33, 3) := by decide +kernel
theorem dX11_pass_35 : decode cX11_pass 35 = .ok (.iload_n 1, 1) := by decide +kernel
theorem dX11_pass_36 : decode cX11_pass 36 = .ok (.invokevirtual 280, 3) := by decide +kernel
theorem dX11_pass_39 : decode cX11_pass 39 = .ok (.iload_n 2, 1) := by decide +kernel
theorem dX11_pass_40 : decode cX11_pass 40 = .ok (.aload_n 0, 1) := by decide +kernel
theorem dX11_pass_41 : decode cX11_pass 41 = .ok (.invokevirtual 245, 3) := by decide +kernel
theorem dX11_pass_44 : decode cX11_pass 44 = .ok (.isub, 1) := by decide +kernel
theorem dX11_pass_45 : decode cX11_pass 45 = .ok (.ireturn, 1) := by decide +kernel
theorem dX11_remember_0 : decode cX11_remember 0 = .ok (.aload_n 0, 1) := by decide +kernel
theorem dX11_remember_1 : decode cX11_remember 1 = .ok (.getfield 44, 3) := by decide +kernel
theorem dX11_remember_4 : decode cX11_remember 4 = .ok (.aload_n 0, 1) := by decide +kernel
theorem dX11_remember_5 : decode cX11_remember 5 = .ok (.getfield 321, 3) := by decide +kernel
theorem dX11_remember_8 : decode cX11_remember 8 = .ok (.aload_n 0, 1) := by decide +kernel
theorem dX11_remember_9 : decode cX11_remember 9 = .ok (.getfield 33, 3) := by decide +kernel
theorem dX11_remember_12 : decode cX11_remember 12 = .ok (.invokevirtual 303, 3) := by decide +kernel
theorem dX11_remember_15 : decode cX11_remember 15 = .ok (.aload_n 0, 1) := by decide +kernel
theorem dX11_remember_16 : decode cX11_remember 16 = .ok (.aload_n 0, 1) := by decide +kernel
theorem dX11_remember_17 : decode cX11_remember 17 = .ok (.getfield 321, 3) := by decide +kernel
theorem dX11_remember_20 : decode cX11_remember 20 = .ok (.iconst 1, 1) := by decide +kernel
theorem dX11_remember_21 : decode cX11_remember 21 = .ok (.iadd, 1) := by decide +kernel
theorem dX11_remember_22 : decode cX11_remember 22 = .ok (.bipush 8, 2) := by decide +kernel
theorem dX11_remember_24 : decode cX11_remember 24 = .ok (.irem, 1) := by decide +kernel
theorem dX11_remember_25 : decode cX11_remember 25 = .ok (.putfield 321, 3) := by decide +kernel
theorem dX11_remember_28 : decode cX11_remember 28 = .ok (.aload_n 0, 1) := by decide +kernel
theorem dX11_remember_29 : decode cX11_remember 29 = .ok (.bipush 8, 2) := by decide +kernel
theorem dX11_remember_31 : decode cX11_remember 31 = .ok (.aload_n 0, 1) := by decide +kernel
theorem dX11_remember_32 : decode cX11_remember 32 = .ok (.getfield 316, 3) := by decide +kernel
theorem dX11_remember_35 : decode cX11_remember 35 = .ok (.iconst 1, 1) := by decide +kernel
theorem dX11_remember_36 : decode cX11_remember 36 = .ok (.iadd, 1) := by decide +kernel
theorem dX11_remember_37 : decode cX11_remember 37 = .ok (.invokestatic 324, 3) := by decide +kernel
theorem dX11_remember_40 : decode cX11_remember 40 = .ok (.putfield 316, 3) := by decide +kernel
theorem dX11_remember_43 : decode cX11_remember 43 = .ok (.return_, 1) := by decide +kernel
theorem dX11_rowOf_0 : decode cX11_rowOf 0 = .ok (.aload_n 0, 1) := by decide +kernel
theorem dX11_rowOf_1 : decode cX11_rowOf 1 = .ok (.getfield 33, 3) := by decide +kernel
theorem dX11_rowOf_4 : decode cX11_rowOf 4 = .ok (.getfield 98, 3) := by decide +kernel
theorem dX11_rowOf_7 : decode cX11_rowOf 7 = .ok (.iconst 0, 1) := by decide +kernel
theorem dX11_rowOf_8 : decode cX11_rowOf 8 = .ok (.iload_n 1, 1) := by decide +kernel
theorem dX11_rowOf_9 : decode cX11_rowOf 9 = .ok (.invokevirtual 327, 3) := by decide +kernel
theorem dX11_rowOf_12 : decode cX11_rowOf 12 = .ok (.istore_n 2, 1) := by decide +kernel
theorem dX11_rowOf_13 : decode cX11_rowOf 13 = .ok (.iload_n 2, 1) := by decide +kernel
theorem dX11_rowOf_14 : decode cX11_rowOf 14 = .ok (.iconst (-1), 1) := by decide +kernel
theorem dX11_rowOf_15 : decode cX11_rowOf 15 = .ok (.if_icmp .ne 14, 3) := by decide +kernel
theorem dX11_rowOf_18 : decode cX11_rowOf 18 = .ok (.new 292, 3) := by decide +kernel
theorem dX11_rowOf_21 : decode cX11_rowOf 21 = .ok (.dup, 1) := by decide +kernel
theorem dX11_rowOf_22 : decode cX11_rowOf 22 = .ok (.ldc_w 330, 3) := by decide +kernel
theorem dX11_rowOf_25 : decode cX11_rowOf 25 = .ok (.invokespecial 296, 3) := by decide +kernel
theorem dX11_rowOf_28 : decode cX11_rowOf 28 = .ok (.athrow, 1) := by decide +kernel
theorem dX11_rowOf_29 : decode cX11_rowOf 29 = .ok (.iload_n 2, 1) := by decide +kernel
theorem dX11_rowOf_30 : decode cX11_rowOf 30 = .ok (.ireturn, 1) := by decide +kernel
theorem dX11_checkRealm_0 : decode cX11_checkRealm 0 = .ok (.aload_n 0, 1) := by decide +kernel
theorem dX11_checkRealm_1 : decode cX11_checkRealm 1 = .ok (.getfield 33, 3) := by decide +kernel
theorem dX11_checkRealm_4 : decode cX11_checkRealm 4 = .ok (.getfield 118, 3) := by decide +kernel
theorem dX11_checkRealm_7 : decode cX11_checkRealm 7 = .ok (.iload_n 1, 1) := by decide +kernel
theorem dX11_checkRealm_8 : decode cX11_checkRealm 8 = .ok (.invokevirtual 332, 3) := by decide +kernel
theorem dX11_checkRealm_11 : decode cX11_checkRealm 11 = .ok (.ifCond .ne 14, 3) := by decide +kernel
theorem dX11_checkRealm_14 : decode cX11_checkRealm 14 = .ok (.new 178, 3) := by decide +kernel
theorem dX11_checkRealm_17 : decode cX11_checkRealm 17 = .ok (.dup, 1) := by decide +kernel
theorem dX11_checkRealm_18 : decode cX11_checkRealm 18 = .ok (.ldc_w 333, 3) := by decide +kernel
theorem dX11_checkRealm_21 : decode cX11_checkRealm 21 = .ok (.invokespecial 182, 3) := by decide +kernel
theorem dX11_checkRealm_24 : decode cX11_checkRealm 24 = .ok (.athrow, 1) := by decide +kernel
theorem dX11_checkRealm_25 : decode cX11_checkRealm 25 = .ok (.return_, 1) := by decide +kernel
theorem dX11_checkUser_0 : decode cX11_checkUser 0 = .ok (.aload_n 0, 1) := by decide +kernel
theorem dX11_checkUser_1 : decode cX11_checkUser 1 = .ok (.getfield 33, 3) := by decide +kernel
theorem dX11_checkUser_4 : decode cX11_checkUser 4 = .ok (.getfield 125, 3) := by decide +kernel
theorem dX11_checkUser_7 : decode cX11_checkUser 7 = .ok (.iload_n 1, 1) := by decide +kernel
theorem dX11_checkUser_8 : decode cX11_checkUser 8 = .ok (.invokevirtual 335, 3) := by decide +kernel
theorem dX11_checkUser_11 : decode cX11_checkUser 11 = .ok (.ifCond .ne 14, 3) := by decide +kernel
theorem dX11_checkUser_14 : decode cX11_checkUser 14 = .ok (.new 178, 3) := by decide +kernel
theorem dX11_checkUser_17 : decode cX11_checkUser 17 = .ok (.dup, 1) := by decide +kernel
theorem dX11_checkUser_18 : decode cX11_checkUser 18 = .ok (.ldc_w 336, 3) := by decide +kernel
theorem dX11_checkUser_21 : decode cX11_checkUser 21 = .ok (.invokespecial 182, 3) := by decide +kernel
theorem dX11_checkUser_24 : decode cX11_checkUser 24 = .ok (.athrow, 1) := by decide +kernel
theorem dX11_checkUser_25 : decode cX11_checkUser 25 = .ok (.return_, 1) := by decide +kernel
theorem dX11_checkService_0 : decode cX11_checkService 0 = .ok (.aload_n 0, 1) := by decide +kernel
theorem dX11_checkService_1 : decode cX11_checkService 1 = .ok (.getfield 33, 3) := by decide +kernel
theorem dX11_checkService_4 : decode cX11_checkService 4 = .ok (.getfield 132, 3) := by decide +kernel
theorem dX11_checkService_7 : decode cX11_checkService 7 = .ok (.iload_n 1, 1) := by decide +kernel
theorem dX11_checkService_8 : decode cX11_checkService 8 = .ok (.invokevirtual 338, 3) := by decide +kernel
theorem dX11_checkService_11 : decode cX11_checkService 11 = .ok (.ifCond .ne 14, 3) := by decide +kernel
theorem dX11_checkService_14 : decode cX11_checkService 14 = .ok (.new 178, 3) := by decide +kernel
theorem dX11_checkService_17 : decode cX11_checkService 17 = .ok (.dup, 1) := by decide +kernel
theorem dX11_checkService_18 : decode cX11_checkService 18 = .ok (.ldc_w 339, 3) := by decide +kernel
theorem dX11_checkService_21 : decode cX11_checkService 21 = .ok (.invokespecial 182, 3) := by decide +kernel
theorem dX11_checkService_24 : decode cX11_checkService 24 = .ok (.athrow, 1) := by decide +kernel
theorem dX11_checkService_25 : decode cX11_checkService 25 = .ok (.return_, 1) := by decide +kernel
theorem dX11_checkPassword_0 : decode cX11_checkPassword 0 = .ok (.iload_n 1, 1) := by decide +kernel
theorem dX11_checkPassword_1 : decode cX11_checkPassword 1 = .ok (.ifCond .lt 10, 3) := by decide +kernel
theorem dX11_checkPassword_4 : decode cX11_checkPassword 4 = .ok (.iload_n 1, 1) := by decide +kernel
theorem dX11_checkPassword_5 : decode cX11_checkPassword 5 = .ok (.sipush 9999, 3) := by decide +kernel
theorem dX11_checkPassword_8 : decode cX11_checkPassword 8 = .ok (.if_icmp .le 14, 3) := by decide +kernel
theorem dX11_checkPassword_11 : decode cX11_checkPassword 11 = .ok (.new 88, 3) := by decide +kernel
theorem dX11_checkPassword_14 : decode cX11_checkPassword 14 = .ok (.dup, 1) := by decide +kernel
theorem dX11_checkPassword_15 : decode cX11_checkPassword 15 = .ok (.ldc_w 343, 3) := by decide +kernel
theorem dX11_checkPassword_18 : decode cX11_checkPassword 18 = .ok (.invokespecial 92, 3) := by decide +kernel
theorem dX11_checkPassword_21 : decode cX11_checkPassword 21 = .ok (.athrow, 1) := by decide +kernel
theorem dX11_checkPassword_22 : decode cX11_checkPassword 22 = .ok (.return_, 1) := by decide +kernel
theorem dX11_checkAllowed_0 : decode cX11_checkAllowed 0 = .ok (.iload_n 1, 1) := by decide +kernel
theorem dX11_checkAllowed_1 : decode cX11_checkAllowed 1 = .ok (.ifCond .eq 14, 3) := by decide +kernel
theorem dX11_checkAllowed_4 : decode cX11_checkAllowed 4 = .ok (.new 79, 3) := by decide +kernel
theorem dX11_checkAllowed_7 : decode cX11_checkAllowed 7 = .ok (.dup, 1) := by decide +kernel
theorem dX11_checkAllowed_8 : decode cX11_checkAllowed 8 = .ok (.ldc_w 345, 3) := by decide +kernel
theorem dX11_checkAllowed_11 : decode cX11_checkAllowed 11 = .ok (.invokespecial 83, 3) := by decide +kernel
theorem dX11_checkAllowed_14 : decode cX11_checkAllowed 14 = .ok (.athrow, 1) := by decide +kernel
theorem dX11_checkAllowed_15 : decode cX11_checkAllowed 15 = .ok (.return_, 1) := by decide +kernel
end
section
theorem dX12_init_0 : decode cX12_init 0 = .ok (.aload_n 0, 1) := by decide +kernel
theorem dX12_init_1 : decode cX12_init 1 = .ok (.invokespecial 1, 3) := by decide +kernel
theorem dX12_init_4 : decode cX12_init 4 = .ok (.aload_n 0, 1) := by decide +kernel
theorem dX12_init_5 : decode cX12_init 5 = .ok (.iconst 3, 1) := by decide +kernel
theorem dX12_init_6 : decode cX12_init 6 = .ok (.newarray .int, 2) := by decide +kernel
theorem dX12_init_8 : decode cX12_init 8 = .ok (.putfield 7, 3) := by decide +kernel
theorem dX12_init_11 : decode cX12_init 11 = .ok (.aload_n 0, 1) := by decide +kernel
theorem dX12_init_12 : decode cX12_init 12 = .ok (.iconst 3, 1) := by decide +kernel
theorem dX12_init_13 : decode cX12_init 13 = .ok (.newarray .int, 2) := by decide +kernel
theorem dX12_init_15 : decode cX12_init 15 = .ok (.putfield 13, 3) := by decide +kernel
theorem dX12_init_18 : decode cX12_init 18 = .ok (.aload_n 0, 1) := by decide +kernel
theorem dX12_init_19 : decode cX12_init 19 = .ok (.iconst 3, 1) := by decide +kernel
theorem dX12_init_20 : decode cX12_init 20 = .ok (.newarray .int, 2) := by decide +kernel
theorem dX12_init_22 : decode cX12_init 22 = .ok (.putfield 16, 3) := by decide +kernel
theorem dX12_init_25 : decode cX12_init 25 = .ok (.aload_n 0, 1) := by decide +kernel
theorem dX12_init_26 : decode cX12_init 26 = .ok (.iconst 3, 1) := by decide +kernel
theorem dX12_init_27 : decode cX12_init 27 = .ok (.newarray .int, 2) := by decide +kernel
theorem dX12_init_29 : decode cX12_init 29 = .ok (.putfield 19, 3) := by decide +kernel
theorem dX12_init_32 : decode cX12_init 32 = .ok (.aload_n 0, 1) := by decide +kernel
theorem dX12_init_33 : decode cX12_init 33 = .ok (.iconst 3, 1) := by decide +kernel
theorem dX12_init_34 : decode cX12_init 34 = .ok (.newarray .int, 2) := by decide +kernel
theorem dX12_init_36 : decode cX12_init 36 = .ok (.putfield 22, 3) := by decide +kernel
theorem dX12_init_39 : decode cX12_init 39 = .ok (.aload_n 0, 1) := by decide +kernel
theorem dX12_init_40 : decode cX12_init 40 = .ok (.iconst 3, 1) := by decide +kernel
theorem dX12_init_41 : decode cX12_init 41 = .ok (.newarray .int, 2) := by decide +kernel
theorem dX12_init_43 : decode cX12_init 43 = .ok (.putfield 25, 3) := by decide +kernel
theorem dX12_init_46 : decode cX12_init 46 = .ok (.aload_n 0, 1) := by decide +kernel
theorem dX12_init_47 : decode cX12_init 47 = .ok (.iconst 2, 1) := by decide +kernel
theorem dX12_init_48 : decode cX12_init 48 = .ok (.newarray .int, 2) := by decide +kernel
theorem dX12_init_50 : decode cX12_init 50 = .ok (.putfield 28, 3) := by decide +kernel
theorem dX12_init_53 : decode cX12_init 53 = .ok (.aload_n 0, 1) := by decide +kernel
theorem dX12_init_54 : decode cX12_init 54 = .ok (.iconst 2, 1) := by decide +kernel
theorem dX12_init_55 : decode cX12_init 55 = .ok (.newarray .int, 2) := by decide +kernel
theorem dX12_init_57 : decode cX12_init 57 = .ok (.putfield 31, 3) := by decide +kernel
theorem dX12_init_60 : decode cX12_init 60 = .ok (.aload_n 0, 1) := by decide +kernel
theorem dX12_init_61 : decode cX12_init 61 = .ok (.iconst 0, 1) := by decide +kernel
theorem dX12_init_62 : decode cX12_init 62 = .ok (.anewarray 34, 3) := by decide +kernel
theorem dX12_init_65 : decode cX12_init 65 = .ok (.putfield 35, 3) := by decide +kernel
theorem dX12_init_68 : decode cX12_init 68 = .ok (.aload_n 0, 1) := by decide +kernel
theorem dX12_init_69 : decode cX12_init 69 = .ok (.iconst 0, 1) := by decide +kernel
theorem dX12_init_70 : decode cX12_init 70 = .ok (.anewarray 34, 3) := by decide +kernel
theorem dX12_init_73 : decode cX12_init 73 = .ok (.putfield 39, 3) := by decide +kernel
theorem dX12_init_76 : decode cX12_init 76 = .ok (.aload_n 1, 1) := by decide +kernel
theorem dX12_init_77 : decode cX12_init 77 = .ok (.iconst 0, 1) := by decide +kernel
theorem dX12_init_78 : decode cX12_init 78 = .ok (.invokestatic 42, 3) := by decide +kernel
theorem dX12_init_81 : decode cX12_init 81 = .ok (.istore_n 2, 1) := by decide +kernel
theorem dX12_init_82 : decode cX12_init 82 = .ok (.aload_n 0, 1) := by decide +kernel
theorem dX12_init_83 : decode cX12_init 83 = .ok (.iload_n 2, 1) := by decide +kernel
theorem dX12_init_84 : decode cX12_init 84 = .ok (.iconst 4, 1) := by decide +kernel
theorem dX12_init_85 : decode cX12_init 85 = .ok (.irem, 1) := by decide +kernel
theorem dX12_init_86 : decode cX12_init 86 = .ok (.putfield 48, 3) := by decide +kernel
theorem dX12_init_89 : decode cX12_init 89 = .ok (.aload_n 0, 1) := by decide +kernel
theorem dX12_init_90 : decode cX12_init 90 = .ok (.iload_n 2, 1) := by decide +kernel
theorem dX12_init_91 : decode cX12_init 91 = .ok (.iconst 4, 1) := by decide +kernel
theorem dX12_init_92 : decode cX12_init 92 = .ok (.idiv, 1) := by decide +kernel
theorem dX12_init_93 : decode cX12_init 93 = .ok (.sipush 1024, 3) := by decide +kernel
theorem dX12_init_96 : decode cX12_init 96 = .ok (.irem, 1) := by decide +kernel
theorem dX12_init_97 : decode cX12_init 97 = .ok (.putfield 52, 3) := by decide +kernel
theorem dX12_init_100 : decode cX12_init 100 = .ok (.iconst 0, 1) := by decide +kernel
theorem dX12_init_101 : decode cX12_init 101 = .ok (.istore_n 3, 1) := by decide +kernel
theorem dX12_init_102 : decode cX12_init 102 = .ok (.iload_n 3, 1) := by decide +kernel
theorem dX12_init_103 : decode cX12_init 103 = .ok (.iconst 3, 1) := by decide +kernel
theorem dX12_init_104 : decode cX12_init 104 = .ok (.if_icmp .ge 96, 3) := by decide +kernel
theorem dX12_init_107 : decode cX12_init 107 = .ok (.aload_n 1, 1) := by decide +kernel
theorem dX12_init_108 : decode cX12_init 108 = .ok (.iconst 1, 1) := by decide +kernel
theorem dX12_init_109 : decode cX12_init 109 = .ok (.iload_n 3, 1) := by decide +kernel
theorem dX12_init_110 : decode cX12_init 110 = .ok (.iadd, 1) := by decide +kernel
theorem dX12_init_111 : decode cX12_init 111 = .ok (.invokestatic 42, 3) := by decide +kernel
theorem dX12_init_114 : decode cX12_init 114 = .ok (.istore 4, 2) := by decide +kernel
theorem dX12_init_116 : decode cX12_init 116 = .ok (.aload_n 0, 1) := by decide +kernel
theorem dX12_init_117 : decode cX12_init 117 = .ok (.getfield 7, 3) := by decide +kernel
theorem dX12_init_120 : decode cX12_init 120 = .ok (.iload_n 3, 1) := by decide +kernel
theorem dX12_init_121 : decode cX12_init 121 = .ok (.iconst 1, 1) := by decide +kernel
theorem dX12_init_122 : decode cX12_init 122 = .ok (.iload 4, 2) := by decide +kernel
theorem dX12_init_124 : decode cX12_init 124 = .ok (.bipush 60, 2) := by decide +kernel
theorem dX12_init_126 : decode cX12_init 126 = .ok (.irem, 1) := by decide +kernel
theorem dX12_init_127 : decode cX12_init 127 = .ok (.iadd, 1) := by decide +kernel
theorem dX12_init_128 : decode cX12_init 128 = .ok (.iastore, 1) := by decide +kernel
theorem dX12_init_129 : decode cX12_init 129 = .ok (.aload_n 0, 1) := by decide +kernel
theorem dX12_init_130 : decode cX12_init 130 = .ok (.getfield 13, 3) := by decide +kernel
theorem dX12_init_133 : decode cX12_init 133 = .ok (.iload_n 3, 1) := by decide +kernel
theorem dX12_init_134 : decode cX12_init 134 = .ok (.iload 4, 2) := by decide +kernel
theorem dX12_init_136 : decode cX12_init 136 = .ok (.bipush 64, 2) := by decide +kernel
theorem dX12_init_138 : decode cX12_init 138 = .ok (.idiv, 1) := by decide +kernel
theorem dX12_init_139 : decode cX12_init 139 = .ok (.sipush 200, 3) := by decide +kernel
theorem dX12_init_142 : decode cX12_init 142 = .ok (.irem, 1) := by decide +kernel
theorem dX12_init_143 : decode cX12_init 143 = .ok (.iastore, 1) := by decide +kernel
theorem dX12_init_144 : decode cX12_init 144 = .ok (.aload_n 0, 1) := by decide +kernel
theorem dX12_init_145 : decode cX12_init 145 = .ok (.getfield 16, 3) := by decide +kernel
theorem dX12_init_148 : decode cX12_init 148 = .ok (.iload_n 3, 1) := by decide +kernel
theorem dX12_init_149 : decode cX12_init 149 = .ok (.iload 4, 2) := by decide +kernel
theorem dX12_init_151 : decode cX12_init 151 = .ok (.sipush 16384, 3) := by decide +kernel
theorem dX12_init_154 : decode cX12_init 154 = .ok (.idiv, 1) := by decide +kernel
theorem dX12_init_155 : decode cX12_init 155 = .ok (.invokestatic 55, 3) := by decide +kernel
theorem dX12_init_158 : decode cX12_init 158 = .ok (.iastore, 1) := by decide +kernel
theorem dX12_init_159 : decode cX12_init 159 = .ok (.aload_n 0, 1) := by decide +kernel
theorem dX12_init_160 : decode cX12_init 160 = .ok (.getfield 19, 3) := by decide +kernel
theorem dX12_init_163 : decode cX12_init 163 = .ok (.iload_n 3, 1) := by decide +kernel
theorem dX12_init_164 : decode cX12_init 164 = .ok (.aload_n 1, 1) := by decide +kernel
theorem dX12_init_165 : decode cX12_init 165 = .ok (.iconst 5, 1) := by decide +kernel
theorem dX12_init_166 : decode cX12_init 166 = .ok (.iload_n 3, 1) := by decide +kernel
theorem dX12_init_167 : decode cX12_init 167 = .ok (.iadd, 1) := by decide +kernel
theorem dX12_init_168 : decode cX12_init 168 = .ok (.invokestatic 42, 3) := by decide +kernel
theorem dX12_init_171 : decode cX12_init 171 = .ok (.iconst 3, 1) := by decide +kernel
theorem dX12_init_172 : decode cX12_init 172 = .ok (.irem, 1) := by decide +kernel
theorem dX12_init_173 : decode cX12_init 173 = .ok (.iastore, 1) := by decide +kernel
theorem dX12_init_174 : decode cX12_init 174 = .ok (.aload_n 0, 1) := by decide +kernel
theorem dX12_init_175 : decode cX12_init 175 = .ok (.getfield 22, 3) := by decide +kernel
theorem dX12_init_178 : decode cX12_init 178 = .ok (.iload_n 3, 1) := by decide +kernel
theorem dX12_init_179 : decode cX12_init 179 = .ok (.aload_n 1, 1) := by decide +kernel
theorem dX12_init_180 : decode cX12_init 180 = .ok (.iconst 5, 1) := by decide +kernel
theorem dX12_init_181 : decode cX12_init 181 = .ok (.iload_n 3, 1) := by decide +kernel
theorem dX12_init_182 : decode cX12_init 182 = .ok (.iadd, 1) := by decide +kernel
theorem dX12_init_183 : decode cX12_init 183 = .ok (.invokestatic 42, 3) := by decide +kernel
theorem dX12_init_186 : decode cX12_init 186 = .ok (.sipush 512, 3) := by decide +kernel
theorem dX12_init_189 : decode cX12_init 189 = .ok (.idiv, 1) := by decide +kernel
theorem dX12_init_190 : decode cX12_init 190 = .ok (.invokestatic 55, 3) := by decide +kernel
theorem dX12_init_193 : decode cX12_init 193 = .ok (.iastore, 1) := by decide +kernel
theorem dX12_init_194 : decode cX12_init 194 = .ok (.iinc 3 1, 3) := by decide +kernel
theorem dX12_init_197 : decode cX12_init 197 = .ok (.goto (-95), 3) := by decide +kernel
theorem dX12_init_200 : decode cX12_init 200 = .ok (.iconst 0, 1) := by decide +kernel
theorem dX12_init_201 : decode cX12_init 201 = .ok (.istore_n 3, 1) := by decide +kernel
theorem dX12_init_202 : decode cX12_init 202 = .ok (.iload_n 3, 1) := by decide +kernel
theorem dX12_init_203 : decode cX12_init 203 = .ok (.iconst 2, 1) := by decide +kernel
theorem dX12_init_204 : decode cX12_init 204 = .ok (.if_icmp .ge 44, 3) := by decide +kernel
theorem dX12_init_207 : decode cX12_init 207 = .ok (.aload_n 0, 1) := by decide +kernel
theorem dX12_init_208 : decode cX12_init 208 = .ok (.getfield 28, 3) := by decide +kernel
theorem dX12_init_211 : decode cX12_init 211 = .ok (.iload_n 3, 1) := by decide +kernel
theorem dX12_init_212 : decode cX12_init 212 = .ok (.aload_n 1, 1) := by decide +kernel
theorem dX12_init_213 : decode cX12_init 213 = .ok (.bipush 8, 2) := by decide +kernel
theorem dX12_init_215 : decode cX12_init 215 = .ok (.iload_n 3, 1) := by decide +kernel
theorem dX12_init_216 : decode cX12_init 216 = .ok (.iadd, 1) := by decide +kernel
theorem dX12_init_217 : decode cX12_init 217 = .ok (.invokestatic 42, 3) := by decide +kernel
theorem dX12_init_220 : decode cX12_init 220 = .ok (.iconst 3, 1) := by decide +kernel
theorem dX12_init_221 : decode cX12_init 221 = .ok (.irem, 1) := by decide +kernel
theorem dX12_init_222 : decode cX12_init 222 = .ok (.iastore, 1) := by decide +kernel
theorem dX12_init_223 : decode cX12_init 223 = .ok (.aload_n 0, 1) := by decide +kernel
theorem dX12_init_224 : decode cX12_init 224 = .ok (.getfield 31, 3) := by decide +kernel
theorem dX12_init_227 : decode cX12_init 227 = .ok (.iload_n 3, 1) := by decide +kernel
theorem dX12_init_228 : decode cX12_init 228 = .ok (.aload_n 1, 1) := by decide +kernel
theorem dX12_init_229 : decode cX12_init 229 = .ok (.bipush 8, 2) := by decide +kernel
theorem dX12_init_231 : decode cX12_init 231 = .ok (.iload_n 3, 1) := by decide +kernel
theorem dX12_init_232 : decode cX12_init 232 = .ok (.iadd, 1) := by decide +kernel
theorem dX12_init_233 : decode cX12_init 233 = .ok (.invokestatic 42, 3) := by decide +kernel
theorem dX12_init_236 : decode cX12_init 236 = .ok (.iconst 4, 1) := by decide +kernel
theorem dX12_init_237 : decode cX12_init 237 = .ok (.idiv, 1) := by decide +kernel
theorem dX12_init_238 : decode cX12_init 238 = .ok (.bipush 6, 2) := by decide +kernel
theorem dX12_init_240 : decode cX12_init 240 = .ok (.irem, 1) := by decide +kernel
theorem dX12_init_241 : decode cX12_init 241 = .ok (.iastore, 1) := by decide +kernel
theorem dX12_init_242 : decode cX12_init 242 = .ok (.iinc 3 1, 3) := by decide +kernel
theorem dX12_init_245 : decode cX12_init 245 = .ok (.goto (-43), 3) := by decide +kernel
theorem dX12_init_248 : decode cX12_init 248 = .ok (.return_, 1) := by decide +kernel
theorem dX12_with_0 : decode cX12_with 0 = .ok (.aload_n 0, 1) := by decide +kernel
theorem dX12_with_1 : decode cX12_with 1 = .ok (.arraylength, 1) := by decide +kernel
theorem dX12_with_2 : decode cX12_with 2 = .ok (.iconst 1, 1) := by decide +kernel
theorem dX12_with_3 : decode cX12_with 3 = .ok (.iadd, 1) := by decide +kernel
theorem dX12_with_4 : decode cX12_with 4 = .ok (.anewarray 34, 3) := by decide +kernel
theorem dX12_with_7 : decode cX12_with 7 = .ok (.astore_n 2, 1) := by decide +kernel
theorem dX12_with_8 : decode cX12_with 8 = .ok (.iconst 0, 1) := by decide +kernel
theorem dX12_with_9 : decode cX12_with 9 = .ok (.istore_n 3, 1) := by decide +kernel
theorem dX12_with_10 : decode cX12_with 10 = .ok (.iload_n 3, 1) := by decide +kernel
theorem dX12_with_11 : decode cX12_with 11 = .ok (.aload_n 0, 1) := by decide +kernel
theorem dX12_with_12 : decode cX12_with 12 = .ok (.arraylength, 1) := by decide +kernel
theorem dX12_with_13 : decode cX12_with 13 = .ok (.if_icmp .ge 15, 3) := by decide +kernel
theorem dX12_with_16 : decode cX12_with 16 = .ok (.aload_n 2, 1) := by decide +kernel
theorem dX12_with_17 : decode cX12_with 17 = .ok (.iload_n 3, 1) := by decide +kernel
theorem dX12_with_18 : decode cX12_with 18 = .ok (.aload_n 0, 1) := by decide +kernel
theorem dX12_with_19 : decode cX12_with 19 = .ok (.iload_n 3, 1) := by decide +kernel
theorem dX12_with_20 : decode cX12_with 20 = .ok (.aaload, 1) := by decide +kernel
theorem dX12_with_21 : decode cX12_with 21 = .ok (.aastore, 1) := by decide +kernel
theorem dX12_with_22 : decode cX12_with 22 = .ok (.iinc 3 1, 3) := by decide +kernel
theorem dX12_with_25 : decode cX12_with 25 = .ok (.goto (-15), 3) := by decide +kernel
theorem dX12_with_28 : decode cX12_with 28 = .ok (.aload_n 2, 1) := by decide +kernel
theorem dX12_with_29 : decode cX12_with 29 = .ok (.aload_n 0, 1) := by decide +kernel
theorem dX12_with_30 : decode cX12_with 30 = .ok (.arraylength, 1) := by decide +kernel
theorem dX12_with_31 : decode cX12_with 31 = .ok (.aload_n 1, 1) := by decide +kernel
theorem dX12_with_32 : decode cX12_with 32 = .ok (.aastore, 1) := by decide +kernel
theorem dX12_with_33 : decode cX12_with 33 = .ok (.aload_n 2, 1) := by decide +kernel
theorem dX12_with_34 : decode cX12_with 34 = .ok (.areturn, 1) := by decide +kernel
theorem dX12_without_0 : decode cX12_without 0 = .ok (.aload_n 0, 1) := by decide +kernel
theorem dX12_without_1 : decode cX12_without 1 = .ok (.arraylength, 1) := by decide +kernel
theorem dX12_without_2 : decode cX12_without 2 = .ok (.iconst 1, 1) := by decide +kernel
theorem dX12_without_3 : decode cX12_without 3 = .ok (.isub, 1) := by decide +kernel
theorem dX12_without_4 : decode cX12_without 4 = .ok (.anewarray 34, 3) := by decide +kernel
theorem dX12_without_7 : decode cX12_without 7 = .ok (.astore_n 2, 1) := by decide +kernel
theorem dX12_without_8 : decode cX12_without 8 = .ok (.iconst 0, 1) := by decide +kernel
theorem dX12_without_9 : decode cX12_without 9 = .ok (.istore_n 3, 1) := by decide +kernel
theorem dX12_without_10 : decode cX12_without 10 = .ok (.iload_n 3, 1) := by decide +kernel
theorem dX12_without_11 : decode cX12_without 11 = .ok (.aload_n 2, 1) := by decide +kernel
theorem dX12_without_12 : decode cX12_without 12 = .ok (.arraylength, 1) := by decide +kernel
theorem dX12_without_13 : decode cX12_without 13 = .ok (.if_icmp .ge 26, 3) := by decide +kernel
theorem dX12_without_16 : decode cX12_without 16 = .ok (.aload_n 2, 1) := by decide +kernel
theorem dX12_without_17 : decode cX12_without 17 = .ok (.iload_n 3, 1) := by decide +kernel
theorem dX12_without_18 : decode cX12_without 18 = .ok (.aload_n 0, 1) := by decide +kernel
theorem dX12_without_19 : decode cX12_without 19 = .ok (.iload_n 3, 1) := by decide +kernel
theorem dX12_without_20 : decode cX12_without 20 = .ok (.iload_n 1, 1) := by decide +kernel
theorem dX12_without_21 : decode cX12_without 21 = .ok (.if_icmp .ge 7, 3) := by decide +kernel
theorem dX12_without_24 : decode cX12_without 24 = .ok (.iload_n 3, 1) := by decide +kernel
theorem dX12_without_25 : decode cX12_without 25 = .ok (.goto 6, 3) := by decide +kernel
theorem dX12_without_28 : decode cX12_without 28 = .ok (.iload_n 3, 1) := by decide +kernel
theorem dX12_without_29 : decode cX12_without 29 = .ok (.iconst 1, 1) := by decide +kernel
theorem dX12_without_30 : decode cX12_without 30 = .ok (.iadd, 1) := by decide +kernel
theorem dX12_without_31 : decode cX12_without 31 = .ok (.aaload, 1) := by decide +kernel
theorem dX12_without_32 : decode cX12_without 32 = .ok (.aastore, 1) := by decide +kernel
theorem dX12_without_33 : decode cX12_without 33 = .ok (.iinc 3 1, 3) := by decide +kernel
theorem dX12_without_36 : decode cX12_without 36 = .ok (.goto (-26), 3) := by decide +kernel
theorem dX12_without_39 : decode cX12_without 39 = .ok (.aload_n 2, 1) := by decide +kernel
theorem dX12_without_40 : decode cX12_without 40 = .ok (.areturn, 1) := by decide +kernel
theorem dX12_skewed_0 : decode cX12_skewed 0 = .ok (.aload_n 0, 1) := by decide +kernel
theorem dX12_skewed_1 : decode cX12_skewed 1 = .ok (.getfield 22, 3) := by decide +kernel
theorem dX12_skewed_4 : decode cX12_skewed 4 = .ok (.iload_n 1, 1) := by decide +kernel
theorem dX12_skewed_5 : decode cX12_skewed 5 = .ok (.iaload, 1) := by decide +kernel
theorem dX12_skewed_6 : decode cX12_skewed 6 = .ok (.aload_n 0, 1) := by decide +kernel
theorem dX12_skewed_7 : decode cX12_skewed 7 = .ok (.getfield 16, 3) := by decide +kernel
theorem dX12_skewed_10 : decode cX12_skewed 10 = .ok (.iload_n 2, 1) := by decide +kernel
theorem dX12_skewed_11 : decode cX12_skewed 11 = .ok (.iaload, 1) := by decide +kernel
theorem dX12_skewed_12 : decode cX12_skewed 12 = .ok (.isub, 1) := by decide +kernel
theorem dX12_skewed_13 : decode cX12_skewed 13 = .ok (.invokestatic 59, 3) := by decide +kernel
theorem dX12_skewed_16 : decode cX12_skewed 16 = .ok (.aload_n 0, 1) := by decide +kernel
theorem dX12_skewed_17 : decode cX12_skewed 17 = .ok (.getfield 48, 3) := by decide +kernel
theorem dX12_skewed_20 : decode cX12_skewed 20 = .ok (.if_icmp .le 7, 3) := by decide +kernel
theorem dX12_skewed_23 : decode cX12_skewed 23 = .ok (.iconst 1, 1) := by decide +kernel
theorem dX12_skewed_24 : decode cX12_skewed 24 = .ok (.goto 4, 3) := by decide +kernel
theorem dX12_skewed_27 : decode cX12_skewed 27 = .ok (.iconst 0, 1) := by decide +kernel
theorem dX12_skewed_28 : decode cX12_skewed 28 = .ok (.ireturn, 1) := by decide +kernel
theorem dX12_draws_0 : decode cX12_draws 0 = .ok (.aload_n 0, 1) := by decide +kernel
theorem dX12_draws_1 : decode cX12_draws 1 = .ok (.bipush 21, 2) := by decide +kernel
theorem dX12_draws_3 : decode cX12_draws 3 = .ok (.aload_n 0, 1) := by decide +kernel
theorem dX12_draws_4 : decode cX12_draws 4 = .ok (.getfield 52, 3) := by decide +kernel
theorem dX12_draws_7 : decode cX12_draws 7 = .ok (.imul, 1) := by decide +kernel
theorem dX12_draws_8 : decode cX12_draws 8 = .ok (.bipush 7, 2) := by decide +kernel
theorem dX12_draws_10 : decode cX12_draws 10 = .ok (.iadd, 1) := by decide +kernel
theorem dX12_draws_11 : decode cX12_draws 11 = .ok (.sipush 1024, 3) := by decide +kernel
theorem dX12_draws_14 : decode cX12_draws 14 = .ok (.irem, 1) := by decide +kernel
theorem dX12_draws_15 : decode cX12_draws 15 = .ok (.putfield 52, 3) := by decide +kernel
theorem dX12_draws_18 : decode cX12_draws 18 = .ok (.aload_n 0, 1) := by decide +kernel
theorem dX12_draws_19 : decode cX12_draws 19 = .ok (.getfield 52, 3) := by decide +kernel
theorem dX12_draws_22 : decode cX12_draws 22 = .ok (.ireturn, 1) := by decide +kernel
theorem dX12_makes_0 : decode cX12_makes 0 = .ok (.aload_n 0, 1) := by decide +kernel
theorem dX12_makes_1 : decode cX12_makes 1 = .ok (.aload_n 0, 1) := by decide +kernel
theorem dX12_makes_2 : decode cX12_makes 2 = .ok (.getfield 35, 3) := by decide +kernel
theorem dX12_makes_5 : decode cX12_makes 5 = .ok (.bipush 10, 2) := by decide +kernel
theorem dX12_makes_7 : decode cX12_makes 7 = .ok (.newarray .int, 2) := by decide +kernel
theorem dX12_makes_9 : decode cX12_makes 9 = .ok (.dup, 1) := by decide +kernel
theorem dX12_makes_10 : decode cX12_makes 10 = .ok (.iconst 0, 1) := by decide +kernel
theorem dX12_makes_11 : decode cX12_makes 11 = .ok (.aload_n 0, 1) := by decide +kernel
theorem dX12_makes_12 : decode cX12_makes 12 = .ok (.getfield 64, 3) := by decide +kernel
theorem dX12_makes_15 : decode cX12_makes 15 = .ok (.iastore, 1) := by decide +kernel
theorem dX12_makes_16 : decode cX12_makes 16 = .ok (.dup, 1) := by decide +kernel
theorem dX12_makes_17 : decode cX12_makes 17 = .ok (.iconst 1, 1) := by decide +kernel
theorem dX12_makes_18 : decode cX12_makes 18 = .ok (.iload_n 3, 1) := by decide +kernel
theorem dX12_makes_19 : decode cX12_makes 19 = .ok (.ifCond .ge 7, 3) := by decide +kernel
theorem dX12_makes_22 : decode cX12_makes 22 = .ok (.iconst 0, 1) := by decide +kernel
theorem dX12_makes_23 : decode cX12_makes 23 = .ok (.goto 4, 3) := by decide +kernel
theorem dX12_makes_26 : decode cX12_makes 26 = .ok (.iconst 1, 1) := by decide +kernel
theorem dX12_makes_27 : decode cX12_makes 27 = .ok (.iastore, 1) := by decide +kernel
theorem dX12_makes_28 : decode cX12_makes 28 = .ok (.dup, 1) := by decide +kernel
theorem dX12_makes_29 : decode cX12_makes 29 = .ok (.iconst 2, 1) := by decide +kernel
theorem dX12_makes_30 : decode cX12_makes 30 = .ok (.iload_n 1, 1) := by decide +kernel
theorem dX12_makes_31 : decode cX12_makes 31 = .ok (.iastore, 1) := by decide +kernel
theorem dX12_makes_32 : decode cX12_makes 32 = .ok (.dup, 1) := by decide +kernel
theorem dX12_makes_33 : decode cX12_makes 33 = .ok (.iconst 3, 1) := by decide +kernel
theorem dX12_makes_34 : decode cX12_makes 34 = .ok (.iload_n 2, 1) := by decide +kernel
theorem dX12_makes_35 : decode cX12_makes 35 = .ok (.iastore, 1) := by decide +kernel
theorem dX12_makes_36 : decode cX12_makes 36 = .ok (.dup, 1) := by decide +kernel
theorem dX12_makes_37 : decode cX12_makes 37 = .ok (.iconst 4, 1) := by decide +kernel
theorem dX12_makes_38 : decode cX12_makes 38 = .ok (.iload_n 3, 1) := by decide +kernel
theorem dX12_makes_39 : decode cX12_makes 39 = .ok (.iastore, 1) := by decide +kernel
theorem dX12_makes_40 : decode cX12_makes 40 = .ok (.dup, 1) := by decide +kernel
theorem dX12_makes_41 : decode cX12_makes 41 = .ok (.iconst 5, 1) := by decide +kernel
theorem dX12_makes_42 : decode cX12_makes 42 = .ok (.aload_n 0, 1) := by decide +kernel
theorem dX12_makes_43 : decode cX12_makes 43 = .ok (.getfield 67, 3) := by decide +kernel
theorem dX12_makes_46 : decode cX12_makes 46 = .ok (.iastore, 1) := by decide +kernel
theorem dX12_makes_47 : decode cX12_makes 47 = .ok (.dup, 1) := by decide +kernel
theorem dX12_makes_48 : decode cX12_makes 48 = .ok (.bipush 6, 2) := by decide +kernel
theorem dX12_makes_50 : decode cX12_makes 50 = .ok (.iload 4, 2) := by decide +kernel
theorem dX12_makes_52 : decode cX12_makes 52 = .ok (.iastore, 1) := by decide +kernel
theorem dX12_makes_53 : decode cX12_makes 53 = .ok (.dup, 1) := by decide +kernel
theorem dX12_makes_54 : decode cX12_makes 54 = .ok (.bipush 7, 2) := by decide +kernel
theorem dX12_makes_56 : decode cX12_makes 56 = .ok (.iload 6, 2) := by decide +kernel
theorem dX12_makes_58 : decode cX12_makes 58 = .ok (.iconst 1, 1) := by decide +kernel
theorem dX12_makes_59 : decode cX12_makes 59 = .ok (.if_icmp .ne 13, 3) := by decide +kernel
theorem dX12_makes_62 : decode cX12_makes 62 = .ok (.iload 5, 2) := by decide +kernel
theorem dX12_makes_64 : decode cX12_makes 64 = .ok (.iload 4, 2) := by decide +kernel
theorem dX12_makes_66 : decode cX12_makes 66 = .ok (.invokestatic 70, 3) := by decide +kernel
theorem dX12_makes_69 : decode cX12_makes 69 = .ok (.goto 5, 3) := by decide +kernel
theorem dX12_makes_72 : decode cX12_makes 72 = .ok (.iload 4, 2) := by decide +kernel
theorem dX12_makes_74 : decode cX12_makes 74 = .ok (.iastore, 1) := by decide +kernel
theorem dX12_makes_75 : decode cX12_makes 75 = .ok (.dup, 1) := by decide +kernel
theorem dX12_makes_76 : decode cX12_makes 76 = .ok (.bipush 8, 2) := by decide +kernel
theorem dX12_makes_78 : decode cX12_makes 78 = .ok (.aload_n 0, 1) := by decide +kernel
theorem dX12_makes_79 : decode cX12_makes 79 = .ok (.invokevirtual 74, 3) := by decide +kernel
theorem dX12_makes_82 : decode cX12_makes 82 = .ok (.iastore, 1) := by decide +kernel
theorem dX12_makes_83 : decode cX12_makes 83 = .ok (.dup, 1) := by decide +kernel
theorem dX12_makes_84 : decode cX12_makes 84 = .ok (.bipush 9, 2) := by decide +kernel
theorem dX12_makes_86 : decode cX12_makes 86 = .ok (.iload 6, 2) := by decide +kernel
theorem dX12_makes_88 : decode cX12_makes 88 = .ok (.iastore, 1) := by decide +kernel
theorem dX12_makes_89 : decode cX12_makes 89 = .ok (.invokestatic 78, 3) := by decide +kernel
theorem dX12_makes_92 : decode cX12_makes 92 = .ok (.putfield 35, 3) := by decide +kernel
theorem dX12_makes_95 : decode cX12_makes 95 = .ok (.aload_n 0, 1) := by decide +kernel
theorem dX12_makes_96 : decode cX12_makes 96 = .ok (.dup, 1) := by decide +kernel
theorem dX12_makes_97 : decode cX12_makes 97 = .ok (.getfield 64, 3) := by decide +kernel
theorem dX12_makes_100 : decode cX12_makes 100 = .ok (.iconst 1, 1) := by decide +kernel
theorem dX12_makes_101 : decode cX12_makes 101 = .ok (.iadd, 1) := by decide +kernel
theorem dX12_makes_102 : decode cX12_makes 102 = .ok (.putfield 64, 3) := by decide +kernel
theorem dX12_makes_105 : decode cX12_makes 105 = .ok (.aload_n 0, 1) := by decide +kernel
theorem dX12_makes_106 : decode cX12_makes 106 = .ok (.getfield 64, 3) := by decide +kernel
theorem dX12_makes_109 : decode cX12_makes 109 = .ok (.iconst 1, 1) := by decide +kernel
theorem dX12_makes_110 : decode cX12_makes 110 = .ok (.isub, 1) := by decide +kernel
theorem dX12_makes_111 : decode cX12_makes 111 = .ok (.ireturn, 1) := by decide +kernel
theorem dX12_derives_0 : decode cX12_derives 0 = .ok (.aload_n 0, 1) := by decide +kernel
theorem dX12_derives_1 : decode cX12_derives 1 = .ok (.aload_n 1, 1) := by decide +kernel
theorem dX12_derives_2 : decode cX12_derives 2 = .ok (.iconst 2, 1) := by decide +kernel
theorem dX12_derives_3 : decode cX12_derives 3 = .ok (.iaload, 1) := by decide +kernel
theorem dX12_derives_4 : decode cX12_derives 4 = .ok (.aload_n 1, 1) := by decide +kernel
theorem dX12_derives_5 : decode cX12_derives 5 = .ok (.iconst 3, 1) := by decide +kernel
theorem dX12_derives_6 : decode cX12_derives 6 = .ok (.iaload, 1) := by decide +kernel
theorem dX12_derives_7 : decode cX12_derives 7 = .ok (.invokevirtual 82, 3) := by decide +kernel
theorem dX12_derives_10 : decode cX12_derives 10 = .ok (.ifCond .ne 13, 3) := by decide +kernel
theorem dX12_derives_13 : decode cX12_derives 13 = .ok (.aload_n 0, 1) := by decide +kernel
theorem dX12_derives_14 : decode cX12_derives 14 = .ok (.getfield 35, 3) := by decide +kernel
theorem dX12_derives_17 : decode cX12_derives 17 = .ok (.arraylength, 1) := by decide +kernel
theorem dX12_derives_18 : decode cX12_derives 18 = .ok (.bipush 24, 2) := by decide +kernel
theorem dX12_derives_20 : decode cX12_derives 20 = .ok (.if_icmp .ne 6, 3) := by decide +kernel
theorem dX12_derives_23 : decode cX12_derives 23 = .ok (.bipush (-9), 2) := by decide +kernel
theorem dX12_derives_25 : decode cX12_derives 25 = .ok (.ireturn, 1) := by decide +kernel
theorem dX12_derives_26 : decode cX12_derives 26 = .ok (.aload_n 0, 1) := by decide +kernel
theorem dX12_derives_27 : decode cX12_derives 27 = .ok (.aload_n 1, 1) := by decide +kernel
theorem dX12_derives_28 : decode cX12_derives 28 = .ok (.iconst 2, 1) := by decide +kernel
theorem dX12_derives_29 : decode cX12_derives 29 = .ok (.iaload, 1) := by decide +kernel
theorem dX12_derives_30 : decode cX12_derives 30 = .ok (.iload_n 2, 1) := by decide +kernel
theorem dX12_derives_31 : decode cX12_derives 31 = .ok (.iload_n 3, 1) := by decide +kernel
theorem dX12_derives_32 : decode cX12_derives 32 = .ok (.aload_n 0, 1) := by decide +kernel
theorem dX12_derives_33 : decode cX12_derives 33 = .ok (.getfield 67, 3) := by decide +kernel
theorem dX12_derives_36 : decode cX12_derives 36 = .ok (.aload_n 0, 1) := by decide +kernel
theorem dX12_derives_37 : decode cX12_derives 37 = .ok (.getfield 7, 3) := by decide +kernel
theorem dX12_derives_40 : decode cX12_derives 40 = .ok (.iload_n 2, 1) := by decide +kernel
theorem dX12_derives_41 : decode cX12_derives 41 = .ok (.iaload, 1) := by decide +kernel
theorem dX12_derives_42 : decode cX12_derives 42 = .ok (.iadd, 1) := by decide +kernel
theorem dX12_derives_43 : decode cX12_derives 43 = .ok (.aload_n 1, 1) := by decide +kernel
theorem dX12_derives_44 : decode cX12_derives 44 = .ok (.bipush 6, 2) := by decide +kernel
theorem dX12_derives_46 : decode cX12_derives 46 = .ok (.iaload, 1) := by decide +kernel
theorem dX12_derives_47 : decode cX12_derives 47 = .ok (.invokestatic 86, 3) := by decide +kernel
theorem dX12_derives_50 : decode cX12_derives 50 = .ok (.aload_n 0, 1) := by decide +kernel
theorem dX12_derives_51 : decode cX12_derives 51 = .ok (.getfield 67, 3) := by decide +kernel
theorem dX12_derives_54 : decode cX12_derives 54 = .ok (.aload_n 0, 1) := by decide +kernel
theorem dX12_derives_55 : decode cX12_derives 55 = .ok (.getfield 13, 3) := by decide +kernel
theorem dX12_derives_58 : decode cX12_derives 58 = .ok (.iload_n 2, 1) := by decide +kernel
theorem dX12_derives_59 : decode cX12_derives 59 = .ok (.iaload, 1) := by decide +kernel
theorem dX12_derives_60 : decode cX12_derives 60 = .ok (.iadd, 1) := by decide +kernel
theorem dX12_derives_61 : decode cX12_derives 61 = .ok (.aload_n 1, 1) := by decide +kernel
theorem dX12_derives_62 : decode cX12_derives 62 = .ok (.bipush 7, 2) := by decide +kernel
theorem dX12_derives_64 : decode cX12_derives 64 = .ok (.iaload, 1) := by decide +kernel
theorem dX12_derives_65 : decode cX12_derives 65 = .ok (.invokestatic 86, 3) := by decide +kernel
theorem dX12_derives_68 : decode cX12_derives 68 = .ok (.aload_n 1, 1) := by decide +kernel
theorem dX12_derives_69 : decode cX12_derives 69 = .ok (.bipush 9, 2) := by decide +kernel
theorem dX12_derives_71 : decode cX12_derives 71 = .ok (.iaload, 1) := by decide +kernel
theorem dX12_derives_72 : decode cX12_derives 72 = .ok (.invokevirtual 89, 3) := by decide +kernel
theorem dX12_derives_75 : decode cX12_derives 75 = .ok (.ireturn, 1) := by decide +kernel
theorem dX12_gets_0 : decode cX12_gets 0 = .ok (.aload_n 1, 1) := by decide +kernel
theorem dX12_gets_1 : decode cX12_gets 1 = .ok (.iconst 1, 1) := by decide +kernel
theorem dX12_gets_2 : decode cX12_gets 2 = .ok (.iaload, 1) := by decide +kernel
theorem dX12_gets_3 : decode cX12_gets 3 = .ok (.iconst 1, 1) := by decide +kernel
theorem dX12_gets_4 : decode cX12_gets 4 = .ok (.if_icmp .ne 27, 3) := by decide +kernel
theorem dX12_gets_7 : decode cX12_gets 7 = .ok (.aload_n 0, 1) := by decide +kernel
theorem dX12_gets_8 : decode cX12_gets 8 = .ok (.getfield 67, 3) := by decide +kernel
theorem dX12_gets_11 : decode cX12_gets 11 = .ok (.aload_n 1, 1) := by decide +kernel
theorem dX12_gets_12 : decode cX12_gets 12 = .ok (.bipush 6, 2) := by decide +kernel
theorem dX12_gets_14 : decode cX12_gets 14 = .ok (.iaload, 1) := by decide +kernel
theorem dX12_gets_15 : decode cX12_gets 15 = .ok (.if_icmp .ge 16, 3) := by decide +kernel
theorem dX12_gets_18 : decode cX12_gets 18 = .ok (.aload_n 0, 1) := by decide +kernel
theorem dX12_gets_19 : decode cX12_gets 19 = .ok (.aload_n 1, 1) := by decide +kernel
theorem dX12_gets_20 : decode cX12_gets 20 = .ok (.iconst 2, 1) := by decide +kernel
theorem dX12_gets_21 : decode cX12_gets 21 = .ok (.iaload, 1) := by decide +kernel
theorem dX12_gets_22 : decode cX12_gets 22 = .ok (.aload_n 1, 1) := by decide +kernel
theorem dX12_gets_23 : decode cX12_gets 23 = .ok (.iconst 3, 1) := by decide +kernel
theorem dX12_gets_24 : decode cX12_gets 24 = .ok (.iaload, 1) := by decide +kernel
theorem dX12_gets_25 : decode cX12_gets 25 = .ok (.invokevirtual 82, 3) := by decide +kernel
theorem dX12_gets_28 : decode cX12_gets 28 = .ok (.ifCond .eq 6, 3) := by decide +kernel
theorem dX12_gets_31 : decode cX12_gets 31 = .ok (.bipush (-9), 2) := by decide +kernel
theorem dX12_gets_33 : decode cX12_gets 33 = .ok (.ireturn, 1) := by decide +kernel
theorem dX12_gets_34 : decode cX12_gets 34 = .ok (.aload_n 0, 1) := by decide +kernel
theorem dX12_gets_35 : decode cX12_gets 35 = .ok (.getfield 39, 3) := by decide +kernel
theorem dX12_gets_38 : decode cX12_gets 38 = .ok (.astore_n 2, 1) := by decide +kernel
theorem dX12_gets_39 : decode cX12_gets 39 = .ok (.aload_n 2, 1) := by decide +kernel
theorem dX12_gets_40 : decode cX12_gets 40 = .ok (.arraylength, 1) := by decide +kernel
theorem dX12_gets_41 : decode cX12_gets 41 = .ok (.istore_n 3, 1) := by decide +kernel
theorem dX12_gets_42 : decode cX12_gets 42 = .ok (.iconst 0, 1) := by decide +kernel
theorem dX12_gets_43 : decode cX12_gets 43 = .ok (.istore 4, 2) := by decide +kernel
theorem dX12_gets_45 : decode cX12_gets 45 = .ok (.iload 4, 2) := by decide +kernel
theorem dX12_gets_47 : decode cX12_gets 47 = .ok (.iload_n 3, 1) := by decide +kernel
theorem dX12_gets_48 : decode cX12_gets 48 = .ok (.if_icmp .ge 58, 3) := by decide +kernel
theorem dX12_gets_51 : decode cX12_gets 51 = .ok (.aload_n 2, 1) := by decide +kernel
theorem dX12_gets_52 : decode cX12_gets 52 = .ok (.iload 4, 2) := by decide +kernel
theorem dX12_gets_54 : decode cX12_gets 54 = .ok (.aaload, 1) := by decide +kernel
theorem dX12_gets_55 : decode cX12_gets 55 = .ok (.astore 5, 2) := by decide +kernel
theorem dX12_gets_57 : decode cX12_gets 57 = .ok (.aload 5, 2) := by decide +kernel
theorem dX12_gets_59 : decode cX12_gets 59 = .ok (.iconst 0, 1) := by decide +kernel
theorem dX12_gets_60 : decode cX12_gets 60 = .ok (.iaload, 1) := by decide +kernel
theorem dX12_gets_61 : decode cX12_gets 61 = .ok (.aload_n 1, 1) := by decide +kernel
theorem dX12_gets_62 : decode cX12_gets 62 = .ok (.iconst 2, 1) := by decide +kernel
theorem dX12_gets_63 : decode cX12_gets 63 = .ok (.iaload, 1) := by decide +kernel
theorem dX12_gets_64 : decode cX12_gets 64 = .ok (.if_icmp .ne 36, 3) := by decide +kernel
theorem dX12_gets_67 : decode cX12_gets 67 = .ok (.aload 5, 2) := by decide +kernel
theorem dX12_gets_69 : decode cX12_gets 69 = .ok (.iconst 1, 1) := by decide +kernel
theorem dX12_gets_70 : decode cX12_gets 70 = .ok (.iaload, 1) := by decide +kernel
theorem dX12_gets_71 : decode cX12_gets 71 = .ok (.aload_n 1, 1) := by decide +kernel
theorem dX12_gets_72 : decode cX12_gets 72 = .ok (.iconst 4, 1) := by decide +kernel
theorem dX12_gets_73 : decode cX12_gets 73 = .ok (.iaload, 1) := by decide +kernel
theorem dX12_gets_74 : decode cX12_gets 74 = .ok (.if_icmp .ne 26, 3) := by decide +kernel
theorem dX12_gets_77 : decode cX12_gets 77 = .ok (.aload 5, 2) := by decide +kernel
theorem dX12_gets_79 : decode cX12_gets 79 = .ok (.iconst 2, 1) := by decide +kernel
theorem dX12_gets_80 : decode cX12_gets 80 = .ok (.iaload, 1) := by decide +kernel
theorem dX12_gets_81 : decode cX12_gets 81 = .ok (.aload_n 0, 1) := by decide +kernel
theorem dX12_gets_82 : decode cX12_gets 82 = .ok (.getfield 67, 3) := by decide +kernel
theorem dX12_gets_85 : decode cX12_gets 85 = .ok (.aload_n 0, 1) := by decide +kernel
theorem dX12_gets_86 : decode cX12_gets 86 = .ok (.getfield 22, 3) := by decide +kernel
theorem dX12_gets_89 : decode cX12_gets 89 = .ok (.aload_n 1, 1) := by decide +kernel
theorem dX12_gets_90 : decode cX12_gets 90 = .ok (.iconst 2, 1) := by decide +kernel
theorem dX12_gets_91 : decode cX12_gets 91 = .ok (.iaload, 1) := by decide +kernel
theorem dX12_gets_92 : decode cX12_gets 92 = .ok (.iaload, 1) := by decide +kernel
theorem dX12_gets_93 : decode cX12_gets 93 = .ok (.iadd, 1) := by decide +kernel
theorem dX12_gets_94 : decode cX12_gets 94 = .ok (.if_icmp .ne 6, 3) := by decide +kernel
theorem dX12_gets_97 : decode cX12_gets 97 = .ok (.bipush (-9), 2) := by decide +kernel
theorem dX12_gets_99 : decode cX12_gets 99 = .ok (.ireturn, 1) := by decide +kernel
theorem dX12_gets_100 : decode cX12_gets 100 = .ok (.iinc 4 1, 3) := by decide +kernel
theorem dX12_gets_103 : decode cX12_gets 103 = .ok (.goto (-58), 3) := by decide +kernel
theorem dX12_gets_106 : decode cX12_gets 106 = .ok (.aload_n 0, 1) := by decide +kernel
theorem dX12_gets_107 : decode cX12_gets 107 = .ok (.getfield 31, 3) := by decide +kernel
theorem dX12_gets_110 : decode cX12_gets 110 = .ok (.aload_n 1, 1) := by decide +kernel
theorem dX12_gets_111 : decode cX12_gets 111 = .ok (.iconst 4, 1) := by decide +kernel
theorem dX12_gets_112 : decode cX12_gets 112 = .ok (.iaload, 1) := by decide +kernel
theorem dX12_gets_113 : decode cX12_gets 113 = .ok (.iaload, 1) := by decide +kernel
theorem dX12_gets_114 : decode cX12_gets 114 = .ok (.ifCond .ne 6, 3) := by decide +kernel
theorem dX12_gets_117 : decode cX12_gets 117 = .ok (.bipush (-9), 2) := by decide +kernel
theorem dX12_gets_119 : decode cX12_gets 119 = .ok (.ireturn, 1) := by decide +kernel
theorem dX12_gets_120 : decode cX12_gets 120 = .ok (.aload_n 0, 1) := by decide +kernel
theorem dX12_gets_121 : decode cX12_gets 121 = .ok (.getfield 31, 3) := by decide +kernel
theorem dX12_gets_124 : decode cX12_gets 124 = .ok (.aload_n 1, 1) := by decide +kernel
theorem dX12_gets_125 : decode cX12_gets 125 = .ok (.iconst 4, 1) := by decide +kernel
theorem dX12_gets_126 : decode cX12_gets 126 = .ok (.iaload, 1) := by decide +kernel
theorem dX12_gets_127 : decode cX12_gets 127 = .ok (.dup2, 1) := by decide +kernel
theorem dX12_gets_128 : decode cX12_gets 128 = .ok (.iaload, 1) := by decide +kernel
theorem dX12_gets_129 : decode cX12_gets 129 = .ok (.iconst 1, 1) := by decide +kernel
theorem dX12_gets_130 : decode cX12_gets 130 = .ok (.isub, 1) := by decide +kernel
theorem dX12_gets_131 : decode cX12_gets 131 = .ok (.iastore, 1) := by decide +kernel
theorem dX12_gets_132 : decode cX12_gets 132 = .ok (.aload_n 0, 1) := by decide +kernel
theorem dX12_gets_133 : decode cX12_gets 133 = .ok (.getfield 25, 3) := by decide +kernel
theorem dX12_gets_136 : decode cX12_gets 136 = .ok (.aload_n 1, 1) := by decide +kernel
theorem dX12_gets_137 : decode cX12_gets 137 = .ok (.iconst 2, 1) := by decide +kernel
theorem dX12_gets_138 : decode cX12_gets 138 = .ok (.iaload, 1) := by decide +kernel
theorem dX12_gets_139 : decode cX12_gets 139 = .ok (.dup2, 1) := by decide +kernel
theorem dX12_gets_140 : decode cX12_gets 140 = .ok (.iaload, 1) := by decide +kernel
theorem dX12_gets_141 : decode cX12_gets 141 = .ok (.iconst 1, 1) := by decide +kernel
theorem dX12_gets_142 : decode cX12_gets 142 = .ok (.iadd, 1) := by decide +kernel
theorem dX12_gets_143 : decode cX12_gets 143 = .ok (.iastore, 1) := by decide +kernel
theorem dX12_gets_144 : decode cX12_gets 144 = .ok (.aload_n 0, 1) := by decide +kernel
theorem dX12_gets_145 : decode cX12_gets 145 = .ok (.aload_n 0, 1) := by decide +kernel
theorem dX12_gets_146 : decode cX12_gets 146 = .ok (.getfield 39, 3) := by decide +kernel
theorem dX12_gets_149 : decode cX12_gets 149 = .ok (.iconst 4, 1) := by decide +kernel
theorem dX12_gets_150 : decode cX12_gets 150 = .ok (.newarray .int, 2) := by decide +kernel
theorem dX12_gets_152 : decode cX12_gets 152 = .ok (.dup, 1) := by decide +kernel
theorem dX12_gets_153 : decode cX12_gets 153 = .ok (.iconst 0, 1) := by decide +kernel
theorem dX12_gets_154 : decode cX12_gets 154 = .ok (.aload_n 1, 1) := by decide +kernel
theorem dX12_gets_155 : decode cX12_gets 155 = .ok (.iconst 2, 1) := by decide +kernel
theorem dX12_gets_156 : decode cX12_gets 156 = .ok (.iaload, 1) := by decide +kernel
theorem dX12_gets_157 : decode cX12_gets 157 = .ok (.iastore, 1) := by decide +kernel
theorem dX12_gets_158 : decode cX12_gets 158 = .ok (.dup, 1) := by decide +kernel
theorem dX12_gets_159 : decode cX12_gets 159 = .ok (.iconst 1, 1) := by decide +kernel
theorem dX12_gets_160 : decode cX12_gets 160 = .ok (.aload_n 1, 1) := by decide +kernel
theorem dX12_gets_161 : decode cX12_gets 161 = .ok (.iconst 4, 1) := by decide +kernel
theorem dX12_gets_162 : decode cX12_gets 162 = .ok (.iaload, 1) := by decide +kernel
theorem dX12_gets_163 : decode cX12_gets 163 = .ok (.iastore, 1) := by decide +kernel
theorem dX12_gets_164 : decode cX12_gets 164 = .ok (.dup, 1) := by decide +kernel
theorem dX12_gets_165 : decode cX12_gets 165 = .ok (.iconst 2, 1) := by decide +kernel
theorem dX12_gets_166 : decode cX12_gets 166 = .ok (.aload_n 0, 1) := by decide +kernel
theorem dX12_gets_167 : decode cX12_gets 167 = .ok (.getfield 67, 3) := by decide +kernel
theorem dX12_gets_170 : decode cX12_gets 170 = .ok (.aload_n 0, 1) := by decide +kernel
theorem dX12_gets_171 : decode cX12_gets 171 = .ok (.getfield 22, 3) := by decide +kernel
theorem dX12_gets_174 : decode cX12_gets 174 = .ok (.aload_n 1, 1) := by decide +kernel
theorem dX12_gets_175 : decode cX12_gets 175 = .ok (.iconst 2, 1) := by decide +kernel
theorem dX12_gets_176 : decode cX12_gets 176 = .ok (.iaload, 1) := by decide +kernel
theorem dX12_gets_177 : decode cX12_gets 177 = .ok (.iaload, 1) := by decide +kernel
theorem dX12_gets_178 : decode cX12_gets 178 = .ok (.iadd, 1) := by decide +kernel
theorem dX12_gets_179 : decode cX12_gets 179 = .ok (.iastore, 1) := by decide +kernel
theorem dX12_gets_180 : decode cX12_gets 180 = .ok (.dup, 1) := by decide +kernel
theorem dX12_gets_181 : decode cX12_gets 181 = .ok (.iconst 3, 1) := by decide +kernel
theorem dX12_gets_182 : decode cX12_gets 182 = .ok (.aload_n 0, 1) := by decide +kernel
theorem dX12_gets_183 : decode cX12_gets 183 = .ok (.getfield 67, 3) := by decide +kernel
theorem dX12_gets_186 : decode cX12_gets 186 = .ok (.iastore, 1) := by decide +kernel
theorem dX12_gets_187 : decode cX12_gets 187 = .ok (.invokestatic 78, 3) := by decide +kernel
theorem dX12_gets_190 : decode cX12_gets 190 = .ok (.putfield 39, 3) := by decide +kernel
theorem dX12_gets_193 : decode cX12_gets 193 = .ok (.aload_n 0, 1) := by decide +kernel
theorem dX12_gets_194 : decode cX12_gets 194 = .ok (.getfield 39, 3) := by decide +kernel
theorem dX12_gets_197 : decode cX12_gets 197 = .ok (.arraylength, 1) := by decide +kernel
theorem dX12_gets_198 : decode cX12_gets 198 = .ok (.bipush 30, 2) := by decide +kernel
theorem dX12_gets_200 : decode cX12_gets 200 = .ok (.if_icmp .le 15, 3) := by decide +kernel
theorem dX12_gets_203 : decode cX12_gets 203 = .ok (.aload_n 0, 1) := by decide +kernel
theorem dX12_gets_204 : decode cX12_gets 204 = .ok (.aload_n 0, 1) := by decide +kernel
theorem dX12_gets_205 : decode cX12_gets 205 = .ok (.getfield 39, 3) := by decide +kernel
theorem dX12_gets_208 : decode cX12_gets 208 = .ok (.iconst 0, 1) := by decide +kernel
theorem dX12_gets_209 : decode cX12_gets 209 = .ok (.invokestatic 93, 3) := by decide +kernel
theorem dX12_gets_212 : decode cX12_gets 212 = .ok (.putfield 39, 3) := by decide +kernel
theorem dX12_gets_215 : decode cX12_gets 215 = .ok (.aload_n 0, 1) := by decide +kernel
theorem dX12_gets_216 : decode cX12_gets 216 = .ok (.getfield 25, 3) := by decide +kernel
theorem dX12_gets_219 : decode cX12_gets 219 = .ok (.aload_n 1, 1) := by decide +kernel
theorem dX12_gets_220 : decode cX12_gets 220 = .ok (.iconst 2, 1) := by decide +kernel
theorem dX12_gets_221 : decode cX12_gets 221 = .ok (.iaload, 1) := by decide +kernel
theorem dX12_gets_222 : decode cX12_gets 222 = .ok (.iaload, 1) := by decide +kernel
theorem dX12_gets_223 : decode cX12_gets 223 = .ok (.ireturn, 1) := by decide +kernel
theorem dX12_valid_0 : decode cX12_valid 0 = .ok (.iconst 0, 1) := by decide +kernel
theorem dX12_valid_1 : decode cX12_valid 1 = .ok (.istore_n 1, 1) := by decide +kernel
theorem dX12_valid_2 : decode cX12_valid 2 = .ok (.aload_n 0, 1) := by decide +kernel
theorem dX12_valid_3 : decode cX12_valid 3 = .ok (.getfield 35, 3) := by decide +kernel
theorem dX12_valid_6 : decode cX12_valid 6 = .ok (.astore_n 2, 1) := by decide +kernel
theorem dX12_valid_7 : decode cX12_valid 7 = .ok (.aload_n 2, 1) := by decide +kernel
theorem dX12_valid_8 : decode cX12_valid 8 = .ok (.arraylength, 1) := by decide +kernel
theorem dX12_valid_9 : decode cX12_valid 9 = .ok (.istore_n 3, 1) := by decide +kernel
theorem dX12_valid_10 : decode cX12_valid 10 = .ok (.iconst 0, 1) := by decide +kernel
theorem dX12_valid_11 : decode cX12_valid 11 = .ok (.istore 4, 2) := by decide +kernel
theorem dX12_valid_13 : decode cX12_valid 13 = .ok (.iload 4, 2) := by decide +kernel
theorem dX12_valid_15 : decode cX12_valid 15 = .ok (.iload_n 3, 1) := by decide +kernel
theorem dX12_valid_16 : decode cX12_valid 16 = .ok (.if_icmp .ge 30, 3) := by decide +kernel
theorem dX12_valid_19 : decode cX12_valid 19 = .ok (.aload_n 2, 1) := by decide +kernel
theorem dX12_valid_20 : decode cX12_valid 20 = .ok (.iload 4, 2) := by decide +kernel
theorem dX12_valid_22 : decode cX12_valid 22 = .ok (.aaload, 1) := by decide +kernel
theorem dX12_valid_23 : decode cX12_valid 23 = .ok (.astore 5, 2) := by decide +kernel
theorem dX12_valid_25 : decode cX12_valid 25 = .ok (.aload_n 0, 1) := by decide +kernel
theorem dX12_valid_26 : decode cX12_valid 26 = .ok (.getfield 67, 3) := by decide +kernel
theorem dX12_valid_29 : decode cX12_valid 29 = .ok (.aload 5, 2) := by decide +kernel
theorem dX12_valid_31 : decode cX12_valid 31 = .ok (.bipush 6, 2) := by decide +kernel
theorem dX12_valid_33 : decode cX12_valid 33 = .ok (.iaload, 1) := by decide +kernel
theorem dX12_valid_34 : decode cX12_valid 34 = .ok (.if_icmp .ge 6, 3) := by decide +kernel
theorem dX12_valid_37 : decode cX12_valid 37 = .ok (.iinc 1 1, 3) := by decide +kernel
theorem dX12_valid_40 : decode cX12_valid 40 = .ok (.iinc 4 1, 3) := by decide +kernel
theorem dX12_valid_43 : decode cX12_valid 43 = .ok (.goto (-30), 3) := by decide +kernel
theorem dX12_valid_46 : decode cX12_valid 46 = .ok (.iload_n 1, 1) := by decide +kernel
theorem dX12_valid_47 : decode cX12_valid 47 = .ok (.ireturn, 1) := by decide +kernel
theorem dX12_acts_0 : decode cX12_acts 0 = .ok (.iload_n 2, 1) := by decide +kernel
theorem dX12_acts_1 : decode cX12_acts 1 = .ok (.bipush 32, 2) := by decide +kernel
theorem dX12_acts_3 : decode cX12_acts 3 = .ok (.idiv, 1) := by decide +kernel
theorem dX12_acts_4 : decode cX12_acts 4 = .ok (.istore_n 3, 1) := by decide +kernel
theorem dX12_acts_5 : decode cX12_acts 5 = .ok (.iload_n 3, 1) := by decide +kernel
theorem dX12_acts_6 : decode cX12_acts 6 = .ok (.iconst 3, 1) := by decide +kernel
theorem dX12_acts_7 : decode cX12_acts 7 = .ok (.irem, 1) := by decide +kernel
theorem dX12_acts_8 : decode cX12_acts 8 = .ok (.istore 4, 2) := by decide +kernel
theorem dX12_acts_10 : decode cX12_acts 10 = .ok (.iload_n 3, 1) := by decide +kernel
theorem dX12_acts_11 : decode cX12_acts 11 = .ok (.bipush 16, 2) := by decide +kernel
theorem dX12_acts_13 : decode cX12_acts 13 = .ok (.idiv, 1) := by decide +kernel
theorem dX12_acts_14 : decode cX12_acts 14 = .ok (.istore 5, 2) := by decide +kernel
theorem dX12_acts_16 : decode cX12_acts 16 = .ok (.iload_n 2, 1) := by decide +kernel
theorem dX12_acts_17 : decode cX12_acts 17 = .ok (.bipush 32, 2) := by decide +kernel
theorem dX12_acts_19 : decode cX12_acts 19 = .ok (.irem, 1) := by decide +kernel
theorem dX12_acts_20 : decode cX12_acts 20 = .ok (.bipush 7, 2) := by decide +kernel
theorem dX12_acts_22 : decode cX12_acts 22 = .ok (.if_icmp .lt 16, 3) := by decide +kernel
theorem dX12_acts_25 : decode cX12_acts 25 = .ok (.iload_n 2, 1) := by decide +kernel
theorem dX12_acts_26 : decode cX12_acts 26 = .ok (.bipush 32, 2) := by decide +kernel
theorem dX12_acts_28 : decode cX12_acts 28 = .ok (.irem, 1) := by decide +kernel
theorem dX12_acts_29 : decode cX12_acts 29 = .ok (.bipush 25, 2) := by decide +kernel
theorem dX12_acts_31 : decode cX12_acts 31 = .ok (.if_icmp .ge 7, 3) := by decide +kernel
theorem dX12_acts_34 : decode cX12_acts 34 = .ok (.iconst 1, 1) := by decide +kernel
theorem dX12_acts_35 : decode cX12_acts 35 = .ok (.goto 4, 3) := by decide +kernel
theorem dX12_acts_38 : decode cX12_acts 38 = .ok (.iconst 0, 1) := by decide +kernel
theorem dX12_acts_39 : decode cX12_acts 39 = .ok (.istore 6, 2) := by decide +kernel
theorem dX12_acts_41 : decode cX12_acts 41 = .ok (.iload 6, 2) := by decide +kernel
theorem dX12_acts_43 : decode cX12_acts 43 = .ok (.ifCond .eq 14, 3) := by decide +kernel
theorem dX12_acts_46 : decode cX12_acts 46 = .ok (.aload_n 0, 1) := by decide +kernel
theorem dX12_acts_47 : decode cX12_acts 47 = .ok (.getfield 35, 3) := by decide +kernel
theorem dX12_acts_50 : decode cX12_acts 50 = .ok (.arraylength, 1) := by decide +kernel
theorem dX12_acts_51 : decode cX12_acts 51 = .ok (.ifCond .ne 6, 3) := by decide +kernel
theorem dX12_acts_54 : decode cX12_acts 54 = .ok (.bipush (-8), 2) := by decide +kernel
theorem dX12_acts_56 : decode cX12_acts 56 = .ok (.ireturn, 1) := by decide +kernel
theorem dX12_acts_57 : decode cX12_acts 57 = .ok (.aload_n 0, 1) := by decide +kernel
theorem dX12_acts_58 : decode cX12_acts 58 = .ok (.getfield 35, 3) := by decide +kernel
theorem dX12_acts_61 : decode cX12_acts 61 = .ok (.arraylength, 1) := by decide +kernel
theorem dX12_acts_62 : decode cX12_acts 62 = .ok (.ifCond .ne 7, 3) := by decide +kernel
theorem dX12_acts_65 : decode cX12_acts 65 = .ok (.iconst 0, 1) := by decide +kernel
theorem dX12_acts_66 : decode cX12_acts 66 = .ok (.goto 10, 3) := by decide +kernel
theorem dX12_acts_69 : decode cX12_acts 69 = .ok (.iload_n 3, 1) := by decide +kernel
theorem dX12_acts_70 : decode cX12_acts 70 = .ok (.aload_n 0, 1) := by decide +kernel
theorem dX12_acts_71 : decode cX12_acts 71 = .ok (.getfield 35, 3) := by decide +kernel
theorem dX12_acts_74 : decode cX12_acts 74 = .ok (.arraylength, 1) := by decide +kernel
theorem dX12_acts_75 : decode cX12_acts 75 = .ok (.irem, 1) := by decide +kernel
theorem dX12_acts_76 : decode cX12_acts 76 = .ok (.istore 7, 2) := by decide +kernel
theorem dX12_acts_78 : decode cX12_acts 78 = .ok (.aload_n 0, 1) := by decide +kernel
theorem dX12_acts_79 : decode cX12_acts 79 = .ok (.getfield 35, 3) := by decide +kernel
theorem dX12_acts_82 : decode cX12_acts 82 = .ok (.arraylength, 1) := by decide +kernel
theorem dX12_acts_83 : decode cX12_acts 83 = .ok (.ifCond .ne 10, 3) := by decide +kernel
theorem dX12_acts_86 : decode cX12_acts 86 = .ok (.bipush 10, 2) := by decide +kernel
theorem dX12_acts_88 : decode cX12_acts 88 = .ok (.newarray .int, 2) := by decide +kernel
theorem dX12_acts_90 : decode cX12_acts 90 = .ok (.goto 10, 3) := by decide +kernel
theorem dX12_acts_93 : decode cX12_acts 93 = .ok (.aload_n 0, 1) := by decide +kernel
theorem dX12_acts_94 : decode cX12_acts 94 = .ok (.getfield 35, 3) := by decide +kernel
theorem dX12_acts_97 : decode cX12_acts 97 = .ok (.iload 7, 2) := by decide +kernel
theorem dX12_acts_99 : decode cX12_acts 99 = .ok (.aaload, 1) := by decide +kernel
theorem dX12_acts_100 : decode cX12_acts 100 = .ok (.astore 8, 2) := by decide +kernel
theorem dX12_acts_102 : decode cX12_acts 102 = .ok (.iload_n 2, 1) := by decide +kernel
theorem dX12_acts_103 : decode cX12_acts 103 = .ok (.bipush 32, 2) := by decide +kernel
theorem dX12_acts_105 : decode cX12_acts 105 = .ok (.irem, 1) := by decide +kernel
theorem dX12_acts_106 : decode cX12_acts 106 = .ok (.tableswitch 519 0 26 #[122, 122, 122, 122, 122, 122, 122, 223, 223, 223, 223, 274, 274, 274, 274, 329, 329, 329, 406, 406, 406, 406, 406, 406, 413, 432, 495], 122) := by decide +kernel
theorem dX12_acts_228 : decode cX12_acts 228 = .ok (.iload 5, 2) := by decide +kernel
theorem dX12_acts_230 : decode cX12_acts 230 = .ok (.bipush 8, 2) := by decide +kernel
theorem dX12_acts_232 : decode cX12_acts 232 = .ok (.irem, 1) := by decide +kernel
theorem dX12_acts_233 : decode cX12_acts 233 = .ok (.ifCond .eq 29, 3) := by decide +kernel
theorem dX12_acts_236 : decode cX12_acts 236 = .ok (.aload_n 0, 1) := by decide +kernel
theorem dX12_acts_237 : decode cX12_acts 237 = .ok (.iload 4, 2) := by decide +kernel
theorem dX12_acts_239 : decode cX12_acts 239 = .ok (.aload_n 0, 1) := by decide +kernel
theorem dX12_acts_240 : decode cX12_acts 240 = .ok (.getfield 19, 3) := by decide +kernel
theorem dX12_acts_243 : decode cX12_acts 243 = .ok (.iload 4, 2) := by decide +kernel
theorem dX12_acts_245 : decode cX12_acts 245 = .ok (.iaload, 1) := by decide +kernel
theorem dX12_acts_246 : decode cX12_acts 246 = .ok (.invokevirtual 82, 3) := by decide +kernel
theorem dX12_acts_249 : decode cX12_acts 249 = .ok (.ifCond .ne 13, 3) := by decide +kernel
theorem dX12_acts_252 : decode cX12_acts 252 = .ok (.aload_n 0, 1) := by decide +kernel
theorem dX12_acts_253 : decode cX12_acts 253 = .ok (.getfield 35, 3) := by decide +kernel
theorem dX12_acts_256 : decode cX12_acts 256 = .ok (.arraylength, 1) := by decide +kernel
theorem dX12_acts_257 : decode cX12_acts 257 = .ok (.bipush 24, 2) := by decide +kernel
theorem dX12_acts_259 : decode cX12_acts 259 = .ok (.if_icmp .ne 6, 3) := by decide +kernel
theorem dX12_acts_262 : decode cX12_acts 262 = .ok (.bipush (-9), 2) := by decide +kernel
theorem dX12_acts_264 : decode cX12_acts 264 = .ok (.ireturn, 1) := by decide +kernel
theorem dX12_acts_265 : decode cX12_acts 265 = .ok (.aload_n 0, 1) := by decide +kernel
theorem dX12_acts_266 : decode cX12_acts 266 = .ok (.iload 4, 2) := by decide +kernel
theorem dX12_acts_268 : decode cX12_acts 268 = .ok (.aload_n 0, 1) := by decide +kernel
theorem dX12_acts_269 : decode cX12_acts 269 = .ok (.getfield 19, 3) := by decide +kernel
theorem dX12_acts_272 : decode cX12_acts 272 = .ok (.iload 4, 2) := by decide +kernel
theorem dX12_acts_274 : decode cX12_acts 274 = .ok (.iaload, 1) := by decide +kernel
theorem dX12_acts_275 : decode cX12_acts 275 = .ok (.iconst (-1), 1) := by decide +kernel
theorem dX12_acts_276 : decode cX12_acts 276 = .ok (.aload_n 0, 1) := by decide +kernel
theorem dX12_acts_277 : decode cX12_acts 277 = .ok (.getfield 67, 3) := by decide +kernel
theorem dX12_acts_280 : decode cX12_acts 280 = .ok (.aload_n 0, 1) := by decide +kernel
theorem dX12_acts_281 : decode cX12_acts 281 = .ok (.getfield 7, 3) := by decide +kernel
theorem dX12_acts_284 : decode cX12_acts 284 = .ok (.aload_n 0, 1) := by decide +kernel
theorem dX12_acts_285 : decode cX12_acts 285 = .ok (.getfield 19, 3) := by decide +kernel
theorem dX12_acts_288 : decode cX12_acts 288 = .ok (.iload 4, 2) := by decide +kernel
theorem dX12_acts_290 : decode cX12_acts 290 = .ok (.iaload, 1) := by decide +kernel
theorem dX12_acts_291 : decode cX12_acts 291 = .ok (.iaload, 1) := by decide +kernel
theorem dX12_acts_292 : decode cX12_acts 292 = .ok (.iadd, 1) := by decide +kernel
theorem dX12_acts_293 : decode cX12_acts 293 = .ok (.aload_n 0, 1) := by decide +kernel
theorem dX12_acts_294 : decode cX12_acts 294 = .ok (.getfield 67, 3) := by decide +kernel
theorem dX12_acts_297 : decode cX12_acts 297 = .ok (.aload_n 0, 1) := by decide +kernel
theorem dX12_acts_298 : decode cX12_acts 298 = .ok (.getfield 13, 3) := by decide +kernel
theorem dX12_acts_301 : decode cX12_acts 301 = .ok (.aload_n 0, 1) := by decide +kernel
theorem dX12_acts_302 : decode cX12_acts 302 = .ok (.getfield 19, 3) := by decide +kernel
theorem dX12_acts_305 : decode cX12_acts 305 = .ok (.iload 4, 2) := by decide +kernel
theorem dX12_acts_307 : decode cX12_acts 307 = .ok (.iaload, 1) := by decide +kernel
theorem dX12_acts_308 : decode cX12_acts 308 = .ok (.iaload, 1) := by decide +kernel
theorem dX12_acts_309 : decode cX12_acts 309 = .ok (.iadd, 1) := by decide +kernel
theorem dX12_acts_310 : decode cX12_acts 310 = .ok (.iload 5, 2) := by decide +kernel
theorem dX12_acts_312 : decode cX12_acts 312 = .ok (.bipush 8, 2) := by decide +kernel
theorem dX12_acts_314 : decode cX12_acts 314 = .ok (.idiv, 1) := by decide +kernel
theorem dX12_acts_315 : decode cX12_acts 315 = .ok (.iconst 2, 1) := by decide +kernel
theorem dX12_acts_316 : decode cX12_acts 316 = .ok (.irem, 1) := by decide +kernel
theorem dX12_acts_317 : decode cX12_acts 317 = .ok (.ifCond .ne 7, 3) := by decide +kernel
theorem dX12_acts_320 : decode cX12_acts 320 = .ok (.iconst 1, 1) := by decide +kernel
theorem dX12_acts_321 : decode cX12_acts 321 = .ok (.goto 4, 3) := by decide +kernel
theorem dX12_acts_324 : decode cX12_acts 324 = .ok (.iconst 0, 1) := by decide +kernel
theorem dX12_acts_325 : decode cX12_acts 325 = .ok (.invokevirtual 89, 3) := by decide +kernel
theorem dX12_acts_328 : decode cX12_acts 328 = .ok (.ireturn, 1) := by decide +kernel
theorem dX12_acts_329 : decode cX12_acts 329 = .ok (.aload 8, 2) := by decide +kernel
theorem dX12_acts_331 : decode cX12_acts 331 = .ok (.iconst 1, 1) := by decide +kernel
theorem dX12_acts_332 : decode cX12_acts 332 = .ok (.iaload, 1) := by decide +kernel
theorem dX12_acts_333 : decode cX12_acts 333 = .ok (.ifCond .ne 30, 3) := by decide +kernel
theorem dX12_acts_336 : decode cX12_acts 336 = .ok (.aload_n 0, 1) := by decide +kernel
theorem dX12_acts_337 : decode cX12_acts 337 = .ok (.getfield 67, 3) := by decide +kernel
theorem dX12_acts_340 : decode cX12_acts 340 = .ok (.aload 8, 2) := by decide +kernel
theorem dX12_acts_342 : decode cX12_acts 342 = .ok (.bipush 6, 2) := by decide +kernel
theorem dX12_acts_344 : decode cX12_acts 344 = .ok (.iaload, 1) := by decide +kernel
theorem dX12_acts_345 : decode cX12_acts 345 = .ok (.if_icmp .ge 18, 3) := by decide +kernel
theorem dX12_acts_348 : decode cX12_acts 348 = .ok (.aload_n 1, 1) := by decide +kernel
theorem dX12_acts_349 : decode cX12_acts 349 = .ok (.aload 8, 2) := by decide +kernel
theorem dX12_acts_351 : decode cX12_acts 351 = .ok (.iconst 3, 1) := by decide +kernel
theorem dX12_acts_352 : decode cX12_acts 352 = .ok (.iaload, 1) := by decide +kernel
theorem dX12_acts_353 : decode cX12_acts 353 = .ok (.iload 5, 2) := by decide +kernel
theorem dX12_acts_355 : decode cX12_acts 355 = .ok (.iconst 3, 1) := by decide +kernel
theorem dX12_acts_356 : decode cX12_acts 356 = .ok (.irem, 1) := by decide +kernel
theorem dX12_acts_357 : decode cX12_acts 357 = .ok (.invokestatic 97, 3) := by decide +kernel
theorem dX12_acts_360 : decode cX12_acts 360 = .ok (.ifCond .ne 8, 3) := by decide +kernel
theorem dX12_acts_363 : decode cX12_acts 363 = .ok (.bipush (-9), 2) := by decide +kernel
theorem dX12_acts_365 : decode cX12_acts 365 = .ok (.goto 14, 3) := by decide +kernel
theorem dX12_acts_368 : decode cX12_acts 368 = .ok (.aload_n 0, 1) := by decide +kernel
theorem dX12_acts_369 : decode cX12_acts 369 = .ok (.aload 8, 2) := by decide +kernel
theorem dX12_acts_371 : decode cX12_acts 371 = .ok (.iload 5, 2) := by decide +kernel
theorem dX12_acts_373 : decode cX12_acts 373 = .ok (.iconst 3, 1) := by decide +kernel
theorem dX12_acts_374 : decode cX12_acts 374 = .ok (.irem, 1) := by decide +kernel
theorem dX12_acts_375 : decode cX12_acts 375 = .ok (.iconst (-1), 1) := by decide +kernel
theorem dX12_acts_376 : decode cX12_acts 376 = .ok (.invokevirtual 101, 3) := by decide +kernel
theorem dX12_acts_379 : decode cX12_acts 379 = .ok (.ireturn, 1) := by decide +kernel
theorem dX12_acts_380 : decode cX12_acts 380 = .ok (.aload 8, 2) := by decide +kernel
theorem dX12_acts_382 : decode cX12_acts 382 = .ok (.iconst 1, 1) := by decide +kernel
theorem dX12_acts_383 : decode cX12_acts 383 = .ok (.iaload, 1) := by decide +kernel
theorem dX12_acts_384 : decode cX12_acts 384 = .ok (.ifCond .ne 31, 3) := by decide +kernel
theorem dX12_acts_387 : decode cX12_acts 387 = .ok (.aload_n 0, 1) := by decide +kernel
theorem dX12_acts_388 : decode cX12_acts 388 = .ok (.getfield 67, 3) := by decide +kernel
theorem dX12_acts_391 : decode cX12_acts 391 = .ok (.aload 8, 2) := by decide +kernel
theorem dX12_acts_393 : decode cX12_acts 393 = .ok (.bipush 6, 2) := by decide +kernel
theorem dX12_acts_395 : decode cX12_acts 395 = .ok (.iaload, 1) := by decide +kernel
theorem dX12_acts_396 : decode cX12_acts 396 = .ok (.if_icmp .ge 19, 3) := by decide +kernel
theorem dX12_acts_399 : decode cX12_acts 399 = .ok (.aload 8, 2) := by decide +kernel
theorem dX12_acts_401 : decode cX12_acts 401 = .ok (.iconst 3, 1) := by decide +kernel
theorem dX12_acts_402 : decode cX12_acts 402 = .ok (.iaload, 1) := by decide +kernel
theorem dX12_acts_403 : decode cX12_acts 403 = .ok (.aload_n 0, 1) := by decide +kernel
theorem dX12_acts_404 : decode cX12_acts 404 = .ok (.getfield 28, 3) := by decide +kernel
theorem dX12_acts_407 : decode cX12_acts 407 = .ok (.iload 5, 2) := by decide +kernel
theorem dX12_acts_409 : decode cX12_acts 409 = .ok (.iconst 2, 1) := by decide +kernel
theorem dX12_acts_410 : decode cX12_acts 410 = .ok (.irem, 1) := by decide +kernel
theorem dX12_acts_411 : decode cX12_acts 411 = .ok (.iaload, 1) := by decide +kernel
theorem dX12_acts_412 : decode cX12_acts 412 = .ok (.if_icmp .eq 8, 3) := by decide +kernel
theorem dX12_acts_415 : decode cX12_acts 415 = .ok (.bipush (-9), 2) := by decide +kernel
theorem dX12_acts_417 : decode cX12_acts 417 = .ok (.goto 17, 3) := by decide +kernel
theorem dX12_acts_420 : decode cX12_acts 420 = .ok (.aload_n 0, 1) := by decide +kernel
theorem dX12_acts_421 : decode cX12_acts 421 = .ok (.aload 8, 2) := by decide +kernel
theorem dX12_acts_423 : decode cX12_acts 423 = .ok (.aload 8, 2) := by decide +kernel
theorem dX12_acts_425 : decode cX12_acts 425 = .ok (.iconst 3, 1) := by decide +kernel
theorem dX12_acts_426 : decode cX12_acts 426 = .ok (.iaload, 1) := by decide +kernel
theorem dX12_acts_427 : decode cX12_acts 427 = .ok (.iload 5, 2) := by decide +kernel
theorem dX12_acts_429 : decode cX12_acts 429 = .ok (.iconst 2, 1) := by decide +kernel
theorem dX12_acts_430 : decode cX12_acts 430 = .ok (.irem, 1) := by decide +kernel
theorem dX12_acts_431 : decode cX12_acts 431 = .ok (.invokevirtual 101, 3) := by decide +kernel
theorem dX12_acts_434 : decode cX12_acts 434 = .ok (.ireturn, 1) := by decide +kernel
theorem dX12_acts_435 : decode cX12_acts 435 = .ok (.aload_n 0, 1) := by decide +kernel
theorem dX12_acts_436 : decode cX12_acts 436 = .ok (.getfield 67, 3) := by decide +kernel
theorem dX12_acts_439 : decode cX12_acts 439 = .ok (.aload_n 0, 1) := by decide +kernel
theorem dX12_acts_440 : decode cX12_acts 440 = .ok (.getfield 7, 3) := by decide +kernel
theorem dX12_acts_443 : decode cX12_acts 443 = .ok (.aload 8, 2) := by decide +kernel
theorem dX12_acts_445 : decode cX12_acts 445 = .ok (.iconst 3, 1) := by decide +kernel
theorem dX12_acts_446 : decode cX12_acts 446 = .ok (.iaload, 1) := by decide +kernel
theorem dX12_acts_447 : decode cX12_acts 447 = .ok (.iaload, 1) := by decide +kernel
theorem dX12_acts_448 : decode cX12_acts 448 = .ok (.iadd, 1) := by decide +kernel
theorem dX12_acts_449 : decode cX12_acts 449 = .ok (.aload 8, 2) := by decide +kernel
theorem dX12_acts_451 : decode cX12_acts 451 = .ok (.bipush 7, 2) := by decide +kernel
theorem dX12_acts_453 : decode cX12_acts 453 = .ok (.iaload, 1) := by decide +kernel
theorem dX12_acts_454 : decode cX12_acts 454 = .ok (.invokestatic 86, 3) := by decide +kernel
theorem dX12_acts_457 : decode cX12_acts 457 = .ok (.istore 9, 2) := by decide +kernel
theorem dX12_acts_459 : decode cX12_acts 459 = .ok (.aload 8, 2) := by decide +kernel
theorem dX12_acts_461 : decode cX12_acts 461 = .ok (.bipush 9, 2) := by decide +kernel
theorem dX12_acts_463 : decode cX12_acts 463 = .ok (.iaload, 1) := by decide +kernel
theorem dX12_acts_464 : decode cX12_acts 464 = .ok (.iconst 1, 1) := by decide +kernel
theorem dX12_acts_465 : decode cX12_acts 465 = .ok (.if_icmp .ne 25, 3) := by decide +kernel
theorem dX12_acts_468 : decode cX12_acts 468 = .ok (.aload_n 0, 1) := by decide +kernel
theorem dX12_acts_469 : decode cX12_acts 469 = .ok (.getfield 67, 3) := by decide +kernel
theorem dX12_acts_472 : decode cX12_acts 472 = .ok (.aload 8, 2) := by decide +kernel
theorem dX12_acts_474 : decode cX12_acts 474 = .ok (.bipush 6, 2) := by decide +kernel
theorem dX12_acts_476 : decode cX12_acts 476 = .ok (.iaload, 1) := by decide +kernel
theorem dX12_acts_477 : decode cX12_acts 477 = .ok (.if_icmp .ge 13, 3) := by decide +kernel
theorem dX12_acts_480 : decode cX12_acts 480 = .ok (.iload 9, 2) := by decide +kernel
theorem dX12_acts_482 : decode cX12_acts 482 = .ok (.aload 8, 2) := by decide +kernel
theorem dX12_acts_484 : decode cX12_acts 484 = .ok (.bipush 6, 2) := by decide +kernel
theorem dX12_acts_486 : decode cX12_acts 486 = .ok (.iaload, 1) := by decide +kernel
theorem dX12_acts_487 : decode cX12_acts 487 = .ok (.if_icmp .gt 6, 3) := by decide +kernel
theorem dX12_acts_490 : decode cX12_acts 490 = .ok (.bipush (-9), 2) := by decide +kernel
theorem dX12_acts_492 : decode cX12_acts 492 = .ok (.ireturn, 1) := by decide +kernel
theorem dX12_acts_493 : decode cX12_acts 493 = .ok (.aload 8, 2) := by decide +kernel
theorem dX12_acts_495 : decode cX12_acts 495 = .ok (.bipush 6, 2) := by decide +kernel
theorem dX12_acts_497 : decode cX12_acts 497 = .ok (.iload 9, 2) := by decide +kernel
theorem dX12_acts_499 : decode cX12_acts 499 = .ok (.iastore, 1) := by decide +kernel
theorem dX12_acts_500 : decode cX12_acts 500 = .ok (.aload 8, 2) := by decide +kernel
theorem dX12_acts_502 : decode cX12_acts 502 = .ok (.bipush 8, 2) := by decide +kernel
theorem dX12_acts_504 : decode cX12_acts 504 = .ok (.aload_n 0, 1) := by decide +kernel
theorem dX12_acts_505 : decode cX12_acts 505 = .ok (.invokevirtual 74, 3) := by decide +kernel
theorem dX12_acts_508 : decode cX12_acts 508 = .ok (.iastore, 1) := by decide +kernel
theorem dX12_acts_509 : decode cX12_acts 509 = .ok (.iload 9, 2) := by decide +kernel
theorem dX12_acts_511 : decode cX12_acts 511 = .ok (.ireturn, 1) := by decide +kernel
theorem dX12_acts_512 : decode cX12_acts 512 = .ok (.aload_n 0, 1) := by decide +kernel
theorem dX12_acts_513 : decode cX12_acts 513 = .ok (.aload 8, 2) := by decide +kernel
theorem dX12_acts_515 : decode cX12_acts 515 = .ok (.invokevirtual 105, 3) := by decide +kernel
theorem dX12_acts_518 : decode cX12_acts 518 = .ok (.ireturn, 1) := by decide +kernel
theorem dX12_acts_519 : decode cX12_acts 519 = .ok (.aload_n 0, 1) := by decide +kernel
theorem dX12_acts_520 : decode cX12_acts 520 = .ok (.aload_n 0, 1) := by decide +kernel
theorem dX12_acts_521 : decode cX12_acts 521 = .ok (.getfield 35, 3) := by decide +kernel
theorem dX12_acts_524 : decode cX12_acts 524 = .ok (.iload 7, 2) := by decide +kernel
theorem dX12_acts_526 : decode cX12_acts 526 = .ok (.invokestatic 93, 3) := by decide +kernel
theorem dX12_acts_529 : decode cX12_acts 529 = .ok (.putfield 35, 3) := by decide +kernel
theorem dX12_acts_532 : decode cX12_acts 532 = .ok (.aload_n 0, 1) := by decide +kernel
theorem dX12_acts_533 : decode cX12_acts 533 = .ok (.getfield 35, 3) := by decide +kernel
theorem dX12_acts_536 : decode cX12_acts 536 = .ok (.arraylength, 1) := by decide +kernel
theorem dX12_acts_537 : decode cX12_acts 537 = .ok (.ireturn, 1) := by decide +kernel
theorem dX12_acts_538 : decode cX12_acts 538 = .ok (.aload_n 0, 1) := by decide +kernel
theorem dX12_acts_539 : decode cX12_acts 539 = .ok (.getfield 35, 3) := by decide +kernel
theorem dX12_acts_542 : decode cX12_acts 542 = .ok (.arraylength, 1) := by decide +kernel
theorem dX12_acts_543 : decode cX12_acts 543 = .ok (.istore 9, 2) := by decide +kernel
theorem dX12_acts_545 : decode cX12_acts 545 = .ok (.iload 9, 2) := by decide +kernel
theorem dX12_acts_547 : decode cX12_acts 547 = .ok (.iconst 1, 1) := by decide +kernel
theorem dX12_acts_548 : decode cX12_acts 548 = .ok (.isub, 1) := by decide +kernel
theorem dX12_acts_549 : decode cX12_acts 549 = .ok (.istore 10, 2) := by decide +kernel
theorem dX12_acts_551 : decode cX12_acts 551 = .ok (.iload 10, 2) := by decide +kernel
theorem dX12_acts_553 : decode cX12_acts 553 = .ok (.ifCond .lt 39, 3) := by decide +kernel
theorem dX12_acts_556 : decode cX12_acts 556 = .ok (.aload_n 0, 1) := by decide +kernel
theorem dX12_acts_557 : decode cX12_acts 557 = .ok (.getfield 67, 3) := by decide +kernel
theorem dX12_acts_560 : decode cX12_acts 560 = .ok (.aload_n 0, 1) := by decide +kernel
theorem dX12_acts_561 : decode cX12_acts 561 = .ok (.getfield 35, 3) := by decide +kernel
theorem dX12_acts_564 : decode cX12_acts 564 = .ok (.iload 10, 2) := by decide +kernel
theorem dX12_acts_566 : decode cX12_acts 566 = .ok (.aaload, 1) := by decide +kernel
theorem dX12_acts_567 : decode cX12_acts 567 = .ok (.bipush 6, 2) := by decide +kernel
theorem dX12_acts_569 : decode cX12_acts 569 = .ok (.iaload, 1) := by decide +kernel
theorem dX12_acts_570 : decode cX12_acts 570 = .ok (.if_icmp .lt 16, 3) := by decide +kernel
theorem dX12_acts_573 : decode cX12_acts 573 = .ok (.aload_n 0, 1) := by decide +kernel
theorem dX12_acts_574 : decode cX12_acts 574 = .ok (.aload_n 0, 1) := by decide +kernel
theorem dX12_acts_575 : decode cX12_acts 575 = .ok (.getfield 35, 3) := by decide +kernel
theorem dX12_acts_578 : decode cX12_acts 578 = .ok (.iload 10, 2) := by decide +kernel
theorem dX12_acts_580 : decode cX12_acts 580 = .ok (.invokestatic 93, 3) := by decide +kernel
theorem dX12_acts_583 : decode cX12_acts 583 = .ok (.putfield 35, 3) := by decide +kernel
theorem dX12_acts_586 : decode cX12_acts 586 = .ok (.iinc 10 (-1), 3) := by decide +kernel
theorem dX12_acts_589 : decode cX12_acts 589 = .ok (.goto (-38), 3) := by decide +kernel
theorem dX12_acts_592 : decode cX12_acts 592 = .ok (.iload 9, 2) := by decide +kernel
theorem dX12_acts_594 : decode cX12_acts 594 = .ok (.aload_n 0, 1) := by decide +kernel
theorem dX12_acts_595 : decode cX12_acts 595 = .ok (.getfield 35, 3) := by decide +kernel
theorem dX12_acts_598 : decode cX12_acts 598 = .ok (.arraylength, 1) := by decide +kernel
theorem dX12_acts_599 : decode cX12_acts 599 = .ok (.isub, 1) := by decide +kernel
theorem dX12_acts_600 : decode cX12_acts 600 = .ok (.ireturn, 1) := by decide +kernel
theorem dX12_acts_601 : decode cX12_acts 601 = .ok (.aload_n 0, 1) := by decide +kernel
theorem dX12_acts_602 : decode cX12_acts 602 = .ok (.getfield 22, 3) := by decide +kernel
theorem dX12_acts_605 : decode cX12_acts 605 = .ok (.iload 4, 2) := by decide +kernel
theorem dX12_acts_607 : decode cX12_acts 607 = .ok (.iaload, 1) := by decide +kernel
theorem dX12_acts_608 : decode cX12_acts 608 = .ok (.istore 9, 2) := by decide +kernel
theorem dX12_acts_610 : decode cX12_acts 610 = .ok (.aload_n 0, 1) := by decide +kernel
theorem dX12_acts_611 : decode cX12_acts 611 = .ok (.getfield 22, 3) := by decide +kernel
theorem dX12_acts_614 : decode cX12_acts 614 = .ok (.iload 4, 2) := by decide +kernel
theorem dX12_acts_616 : decode cX12_acts 616 = .ok (.iload 5, 2) := by decide +kernel
theorem dX12_acts_618 : decode cX12_acts 618 = .ok (.invokestatic 55, 3) := by decide +kernel
theorem dX12_acts_621 : decode cX12_acts 621 = .ok (.iastore, 1) := by decide +kernel
theorem dX12_acts_622 : decode cX12_acts 622 = .ok (.iload 9, 2) := by decide +kernel
theorem dX12_acts_624 : decode cX12_acts 624 = .ok (.ireturn, 1) := by decide +kernel
theorem dX12_acts_625 : decode cX12_acts 625 = .ok (.aload_n 0, 1) := by decide +kernel
theorem dX12_acts_626 : decode cX12_acts 626 = .ok (.invokevirtual 109, 3) := by decide +kernel
theorem dX12_acts_629 : decode cX12_acts 629 = .ok (.istore 9, 2) := by decide +kernel
theorem dX12_acts_631 : decode cX12_acts 631 = .ok (.aload_n 0, 1) := by decide +kernel
theorem dX12_acts_632 : decode cX12_acts 632 = .ok (.dup, 1) := by decide +kernel
theorem dX12_acts_633 : decode cX12_acts 633 = .ok (.getfield 67, 3) := by decide +kernel
theorem dX12_acts_636 : decode cX12_acts 636 = .ok (.iconst 1, 1) := by decide +kernel
theorem dX12_acts_637 : decode cX12_acts 637 = .ok (.iload 5, 2) := by decide +kernel
theorem dX12_acts_639 : decode cX12_acts 639 = .ok (.iload_n 2, 1) := by decide +kernel
theorem dX12_acts_640 : decode cX12_acts 640 = .ok (.bipush 32, 2) := by decide +kernel
theorem dX12_acts_642 : decode cX12_acts 642 = .ok (.irem, 1) := by decide +kernel
theorem dX12_acts_643 : decode cX12_acts 643 = .ok (.bipush 30, 2) := by decide +kernel
theorem dX12_acts_645 : decode cX12_acts 645 = .ok (.if_icmp .ge 7, 3) := by decide +kernel
theorem dX12_acts_648 : decode cX12_acts 648 = .ok (.iconst 4, 1) := by decide +kernel
theorem dX12_acts_649 : decode cX12_acts 649 = .ok (.goto 5, 3) := by decide +kernel
theorem dX12_acts_652 : decode cX12_acts 652 = .ok (.bipush 40, 2) := by decide +kernel
theorem dX12_acts_654 : decode cX12_acts 654 = .ok (.irem, 1) := by decide +kernel
theorem dX12_acts_655 : decode cX12_acts 655 = .ok (.iadd, 1) := by decide +kernel
theorem dX12_acts_656 : decode cX12_acts 656 = .ok (.iadd, 1) := by decide +kernel
theorem dX12_acts_657 : decode cX12_acts 657 = .ok (.putfield 67, 3) := by decide +kernel
theorem dX12_acts_660 : decode cX12_acts 660 = .ok (.aload_n 0, 1) := by decide +kernel
theorem dX12_acts_661 : decode cX12_acts 661 = .ok (.getfield 39, 3) := by decide +kernel
theorem dX12_acts_664 : decode cX12_acts 664 = .ok (.arraylength, 1) := by decide +kernel
theorem dX12_acts_665 : decode cX12_acts 665 = .ok (.iconst 1, 1) := by decide +kernel
theorem dX12_acts_666 : decode cX12_acts 666 = .ok (.isub, 1) := by decide +kernel
theorem dX12_acts_667 : decode cX12_acts 667 = .ok (.istore 10, 2) := by decide +kernel
theorem dX12_acts_669 : decode cX12_acts 669 = .ok (.iload 10, 2) := by decide +kernel
theorem dX12_acts_671 : decode cX12_acts 671 = .ok (.ifCond .lt 43, 3) := by decide +kernel
theorem dX12_acts_674 : decode cX12_acts 674 = .ok (.aload_n 0, 1) := by decide +kernel
theorem dX12_acts_675 : decode cX12_acts 675 = .ok (.getfield 67, 3) := by decide +kernel
theorem dX12_acts_678 : decode cX12_acts 678 = .ok (.aload_n 0, 1) := by decide +kernel
theorem dX12_acts_679 : decode cX12_acts 679 = .ok (.getfield 39, 3) := by decide +kernel
theorem dX12_acts_682 : decode cX12_acts 682 = .ok (.iload 10, 2) := by decide +kernel
theorem dX12_acts_684 : decode cX12_acts 684 = .ok (.aaload, 1) := by decide +kernel
theorem dX12_acts_685 : decode cX12_acts 685 = .ok (.iconst 3, 1) := by decide +kernel
theorem dX12_acts_686 : decode cX12_acts 686 = .ok (.iaload, 1) := by decide +kernel
theorem dX12_acts_687 : decode cX12_acts 687 = .ok (.isub, 1) := by decide +kernel
theorem dX12_acts_688 : decode cX12_acts 688 = .ok (.aload_n 0, 1) := by decide +kernel
theorem dX12_acts_689 : decode cX12_acts 689 = .ok (.getfield 48, 3) := by decide +kernel
theorem dX12_acts_692 : decode cX12_acts 692 = .ok (.if_icmp .le 16, 3) := by decide +kernel
theorem dX12_acts_695 : decode cX12_acts 695 = .ok (.aload_n 0, 1) := by decide +kernel
theorem dX12_acts_696 : decode cX12_acts 696 = .ok (.aload_n 0, 1) := by decide +kernel
theorem dX12_acts_697 : decode cX12_acts 697 = .ok (.getfield 39, 3) := by decide +kernel
theorem dX12_acts_700 : decode cX12_acts 700 = .ok (.iload 10, 2) := by decide +kernel
theorem dX12_acts_702 : decode cX12_acts 702 = .ok (.invokestatic 93, 3) := by decide +kernel
theorem dX12_acts_705 : decode cX12_acts 705 = .ok (.putfield 39, 3) := by decide +kernel
theorem dX12_acts_708 : decode cX12_acts 708 = .ok (.iinc 10 (-1), 3) := by decide +kernel
theorem dX12_acts_711 : decode cX12_acts 711 = .ok (.goto (-42), 3) := by decide +kernel
theorem dX12_acts_714 : decode cX12_acts 714 = .ok (.iload 9, 2) := by decide +kernel
theorem dX12_acts_716 : decode cX12_acts 716 = .ok (.aload_n 0, 1) := by decide +kernel
theorem dX12_acts_717 : decode cX12_acts 717 = .ok (.invokevirtual 109, 3) := by decide +kernel
theorem dX12_acts_720 : decode cX12_acts 720 = .ok (.isub, 1) := by decide +kernel
theorem dX12_acts_721 : decode cX12_acts 721 = .ok (.ireturn, 1) := by decide +kernel
theorem dX12_agrees_0 : decode cX12_agrees 0 = .ok (.aload_n 1, 1) := by decide +kernel
theorem dX12_agrees_1 : decode cX12_agrees 1 = .ok (.invokevirtual 112, 3) := by decide +kernel
theorem dX12_agrees_4 : decode cX12_agrees 4 = .ok (.aload_n 0, 1) := by decide +kernel
theorem dX12_agrees_5 : decode cX12_agrees 5 = .ok (.getfield 67, 3) := by decide +kernel
theorem dX12_agrees_8 : decode cX12_agrees 8 = .ok (.if_icmp .ne 49, 3) := by decide +kernel
theorem dX12_agrees_11 : decode cX12_agrees 11 = .ok (.aload_n 1, 1) := by decide +kernel
theorem dX12_agrees_12 : decode cX12_agrees 12 = .ok (.invokevirtual 116, 3) := by decide +kernel
theorem dX12_agrees_15 : decode cX12_agrees 15 = .ok (.aload_n 0, 1) := by decide +kernel
theorem dX12_agrees_16 : decode cX12_agrees 16 = .ok (.getfield 52, 3) := by decide +kernel
theorem dX12_agrees_19 : decode cX12_agrees 19 = .ok (.if_icmp .ne 38, 3) := by decide +kernel
theorem dX12_agrees_22 : decode cX12_agrees 22 = .ok (.aload_n 1, 1) := by decide +kernel
theorem dX12_agrees_23 : decode cX12_agrees 23 = .ok (.invokevirtual 118, 3) := by decide +kernel
theorem dX12_agrees_26 : decode cX12_agrees 26 = .ok (.aload_n 0, 1) := by decide +kernel
theorem dX12_agrees_27 : decode cX12_agrees 27 = .ok (.getfield 35, 3) := by decide +kernel
theorem dX12_agrees_30 : decode cX12_agrees 30 = .ok (.arraylength, 1) := by decide +kernel
theorem dX12_agrees_31 : decode cX12_agrees 31 = .ok (.if_icmp .ne 26, 3) := by decide +kernel
theorem dX12_agrees_34 : decode cX12_agrees 34 = .ok (.aload_n 1, 1) := by decide +kernel
theorem dX12_agrees_35 : decode cX12_agrees 35 = .ok (.invokevirtual 121, 3) := by decide +kernel
theorem dX12_agrees_38 : decode cX12_agrees 38 = .ok (.aload_n 0, 1) := by decide +kernel
theorem dX12_agrees_39 : decode cX12_agrees 39 = .ok (.getfield 39, 3) := by decide +kernel
theorem dX12_agrees_42 : decode cX12_agrees 42 = .ok (.arraylength, 1) := by decide +kernel
theorem dX12_agrees_43 : decode cX12_agrees 43 = .ok (.if_icmp .ne 14, 3) := by decide +kernel
theorem dX12_agrees_46 : decode cX12_agrees 46 = .ok (.aload_n 1, 1) := by decide +kernel
theorem dX12_agrees_47 : decode cX12_agrees 47 = .ok (.invokevirtual 124, 3) := by decide +kernel
theorem dX12_agrees_50 : decode cX12_agrees 50 = .ok (.aload_n 0, 1) := by decide +kernel
theorem dX12_agrees_51 : decode cX12_agrees 51 = .ok (.invokevirtual 109, 3) := by decide +kernel
theorem dX12_agrees_54 : decode cX12_agrees 54 = .ok (.if_icmp .eq 5, 3) := by decide +kernel
theorem dX12_agrees_57 : decode cX12_agrees 57 = .ok (.iconst 0, 1) := by decide +kernel
theorem dX12_agrees_58 : decode cX12_agrees 58 = .ok (.ireturn, 1) := by decide +kernel
theorem dX12_agrees_59 : decode cX12_agrees 59 = .ok (.iconst 0, 1) := by decide +kernel
theorem dX12_agrees_60 : decode cX12_agrees 60 = .ok (.istore_n 2, 1) := by decide +kernel
theorem dX12_agrees_61 : decode cX12_agrees 61 = .ok (.iload_n 2, 1) := by decide +kernel
theorem dX12_agrees_62 : decode cX12_agrees 62 = .ok (.aload_n 0, 1) := by decide +kernel
theorem dX12_agrees_63 : decode cX12_agrees 63 = .ok (.getfield 35, 3) := by decide +kernel
theorem dX12_agrees_66 : decode cX12_agrees 66 = .ok (.arraylength, 1) := by decide +kernel
theorem dX12_agrees_67 : decode cX12_agrees 67 = .ok (.if_icmp .ge 181, 3) := by decide +kernel
theorem dX12_agrees_70 : decode cX12_agrees 70 = .ok (.aload_n 0, 1) := by decide +kernel
theorem dX12_agrees_71 : decode cX12_agrees 71 = .ok (.getfield 35, 3) := by decide +kernel
theorem dX12_agrees_74 : decode cX12_agrees 74 = .ok (.iload_n 2, 1) := by decide +kernel
theorem dX12_agrees_75 : decode cX12_agrees 75 = .ok (.aaload, 1) := by decide +kernel
theorem dX12_agrees_76 : decode cX12_agrees 76 = .ok (.astore_n 3, 1) := by decide +kernel
theorem dX12_agrees_77 : decode cX12_agrees 77 = .ok (.aload_n 3, 1) := by decide +kernel
theorem dX12_agrees_78 : decode cX12_agrees 78 = .ok (.iconst 0, 1) := by decide +kernel
theorem dX12_agrees_79 : decode cX12_agrees 79 = .ok (.iaload, 1) := by decide +kernel
theorem dX12_agrees_80 : decode cX12_agrees 80 = .ok (.istore 4, 2) := by decide +kernel
theorem dX12_agrees_82 : decode cX12_agrees 82 = .ok (.aload_n 1, 1) := by decide +kernel
theorem dX12_agrees_83 : decode cX12_agrees 83 = .ok (.iload_n 2, 1) := by decide +kernel
theorem dX12_agrees_84 : decode cX12_agrees 84 = .ok (.invokevirtual 127, 3) := by decide +kernel
theorem dX12_agrees_87 : decode cX12_agrees 87 = .ok (.iload 4, 2) := by decide +kernel
theorem dX12_agrees_89 : decode cX12_agrees 89 = .ok (.if_icmp .ne 51, 3) := by decide +kernel
theorem dX12_agrees_92 : decode cX12_agrees 92 = .ok (.aload_n 1, 1) := by decide +kernel
theorem dX12_agrees_93 : decode cX12_agrees 93 = .ok (.iload 4, 2) := by decide +kernel
theorem dX12_agrees_95 : decode cX12_agrees 95 = .ok (.invokevirtual 130, 3) := by decide +kernel
theorem dX12_agrees_98 : decode cX12_agrees 98 = .ok (.aload_n 3, 1) := by decide +kernel
theorem dX12_agrees_99 : decode cX12_agrees 99 = .ok (.iconst 1, 1) := by decide +kernel
theorem dX12_agrees_100 : decode cX12_agrees 100 = .ok (.iaload, 1) := by decide +kernel
theorem dX12_agrees_101 : decode cX12_agrees 101 = .ok (.if_icmp .ne 39, 3) := by decide +kernel
theorem dX12_agrees_104 : decode cX12_agrees 104 = .ok (.aload_n 1, 1) := by decide +kernel
theorem dX12_agrees_105 : decode cX12_agrees 105 = .ok (.iload 4, 2) := by decide +kernel
theorem dX12_agrees_107 : decode cX12_agrees 107 = .ok (.invokevirtual 133, 3) := by decide +kernel
theorem dX12_agrees_110 : decode cX12_agrees 110 = .ok (.aload_n 3, 1) := by decide +kernel
theorem dX12_agrees_111 : decode cX12_agrees 111 = .ok (.iconst 2, 1) := by decide +kernel
theorem dX12_agrees_112 : decode cX12_agrees 112 = .ok (.iaload, 1) := by decide +kernel
theorem dX12_agrees_113 : decode cX12_agrees 113 = .ok (.if_icmp .ne 27, 3) := by decide +kernel
theorem dX12_agrees_116 : decode cX12_agrees 116 = .ok (.aload_n 1, 1) := by decide +kernel
theorem dX12_agrees_117 : decode cX12_agrees 117 = .ok (.iload 4, 2) := by decide +kernel
theorem dX12_agrees_119 : decode cX12_agrees 119 = .ok (.invokevirtual 136, 3) := by decide +kernel
theorem dX12_agrees_122 : decode cX12_agrees 122 = .ok (.aload_n 3, 1) := by decide +kernel
theorem dX12_agrees_123 : decode cX12_agrees 123 = .ok (.iconst 3, 1) := by decide +kernel
theorem dX12_agrees_124 : decode cX12_agrees 124 = .ok (.iaload, 1) := by decide +kernel
theorem dX12_agrees_125 : decode cX12_agrees 125 = .ok (.if_icmp .ne 15, 3) := by decide +kernel
theorem dX12_agrees_128 : decode cX12_agrees 128 = .ok (.aload_n 1, 1) := by decide +kernel
theorem dX12_agrees_129 : decode cX12_agrees 129 = .ok (.iload 4, 2) := by decide +kernel
theorem dX12_agrees_131 : decode cX12_agrees 131 = .ok (.invokevirtual 139, 3) := by decide +kernel
theorem dX12_agrees_134 : decode cX12_agrees 134 = .ok (.aload_n 3, 1) := by decide +kernel
theorem dX12_agrees_135 : decode cX12_agrees 135 = .ok (.iconst 4, 1) := by decide +kernel
theorem dX12_agrees_136 : decode cX12_agrees 136 = .ok (.iaload, 1) := by decide +kernel
theorem dX12_agrees_137 : decode cX12_agrees 137 = .ok (.if_icmp .eq 5, 3) := by decide +kernel
theorem dX12_agrees_140 : decode cX12_agrees 140 = .ok (.iconst 0, 1) := by decide +kernel
theorem dX12_agrees_141 : decode cX12_agrees 141 = .ok (.ireturn, 1) := by decide +kernel
theorem dX12_agrees_142 : decode cX12_agrees 142 = .ok (.aload_n 1, 1) := by decide +kernel
theorem dX12_agrees_143 : decode cX12_agrees 143 = .ok (.iload 4, 2) := by decide +kernel
theorem dX12_agrees_145 : decode cX12_agrees 145 = .ok (.invokevirtual 142, 3) := by decide +kernel
theorem dX12_agrees_148 : decode cX12_agrees 148 = .ok (.aload_n 3, 1) := by decide +kernel
theorem dX12_agrees_149 : decode cX12_agrees 149 = .ok (.iconst 5, 1) := by decide +kernel
theorem dX12_agrees_150 : decode cX12_agrees 150 = .ok (.iaload, 1) := by decide +kernel
theorem dX12_agrees_151 : decode cX12_agrees 151 = .ok (.if_icmp .ne 89, 3) := by decide +kernel
theorem dX12_agrees_154 : decode cX12_agrees 154 = .ok (.aload_n 1, 1) := by decide +kernel
theorem dX12_agrees_155 : decode cX12_agrees 155 = .ok (.iload 4, 2) := by decide +kernel
theorem dX12_agrees_157 : decode cX12_agrees 157 = .ok (.invokevirtual 145, 3) := by decide +kernel
theorem dX12_agrees_160 : decode cX12_agrees 160 = .ok (.aload_n 3, 1) := by decide +kernel
theorem dX12_agrees_161 : decode cX12_agrees 161 = .ok (.bipush 6, 2) := by decide +kernel
theorem dX12_agrees_163 : decode cX12_agrees 163 = .ok (.iaload, 1) := by decide +kernel
theorem dX12_agrees_164 : decode cX12_agrees 164 = .ok (.if_icmp .ne 76, 3) := by decide +kernel
theorem dX12_agrees_167 : decode cX12_agrees 167 = .ok (.aload_n 1, 1) := by decide +kernel
theorem dX12_agrees_168 : decode cX12_agrees 168 = .ok (.iload 4, 2) := by decide +kernel
theorem dX12_agrees_170 : decode cX12_agrees 170 = .ok (.invokevirtual 148, 3) := by decide +kernel
theorem dX12_agrees_173 : decode cX12_agrees 173 = .ok (.aload_n 3, 1) := by decide +kernel
theorem dX12_agrees_174 : decode cX12_agrees 174 = .ok (.bipush 7, 2) := by decide +kernel
theorem dX12_agrees_176 : decode cX12_agrees 176 = .ok (.iaload, 1) := by decide +kernel
theorem dX12_agrees_177 : decode cX12_agrees 177 = .ok (.if_icmp .ne 63, 3) := by decide +kernel
theorem dX12_agrees_180 : decode cX12_agrees 180 = .ok (.aload_n 1, 1) := by decide +kernel
theorem dX12_agrees_181 : decode cX12_agrees 181 = .ok (.iload 4, 2) := by decide +kernel
theorem dX12_agrees_183 : decode cX12_agrees 183 = .ok (.invokevirtual 151, 3) := by decide +kernel
theorem dX12_agrees_186 : decode cX12_agrees 186 = .ok (.aload_n 3, 1) := by decide +kernel
theorem dX12_agrees_187 : decode cX12_agrees 187 = .ok (.bipush 8, 2) := by decide +kernel
theorem dX12_agrees_189 : decode cX12_agrees 189 = .ok (.iaload, 1) := by decide +kernel
theorem dX12_agrees_190 : decode cX12_agrees 190 = .ok (.if_icmp .ne 50, 3) := by decide +kernel
theorem dX12_agrees_193 : decode cX12_agrees 193 = .ok (.aload_n 1, 1) := by decide +kernel
theorem dX12_agrees_194 : decode cX12_agrees 194 = .ok (.iload 4, 2) := by decide +kernel
theorem dX12_agrees_196 : decode cX12_agrees 196 = .ok (.invokevirtual 154, 3) := by decide +kernel
theorem dX12_agrees_199 : decode cX12_agrees 199 = .ok (.aload_n 3, 1) := by decide +kernel
theorem dX12_agrees_200 : decode cX12_agrees 200 = .ok (.bipush 9, 2) := by decide +kernel
theorem dX12_agrees_202 : decode cX12_agrees 202 = .ok (.iaload, 1) := by decide +kernel
theorem dX12_agrees_203 : decode cX12_agrees 203 = .ok (.iconst 1, 1) := by decide +kernel
theorem dX12_agrees_204 : decode cX12_agrees 204 = .ok (.if_icmp .ne 7, 3) := by decide +kernel
theorem dX12_agrees_207 : decode cX12_agrees 207 = .ok (.iconst 1, 1) := by decide +kernel
theorem dX12_agrees_208 : decode cX12_agrees 208 = .ok (.goto 4, 3) := by decide +kernel
theorem dX12_agrees_211 : decode cX12_agrees 211 = .ok (.iconst 0, 1) := by decide +kernel
theorem dX12_agrees_212 : decode cX12_agrees 212 = .ok (.if_icmp .ne 28, 3) := by decide +kernel
theorem dX12_agrees_215 : decode cX12_agrees 215 = .ok (.aload_n 1, 1) := by decide +kernel
theorem dX12_agrees_216 : decode cX12_agrees 216 = .ok (.iload 4, 2) := by decide +kernel
theorem dX12_agrees_218 : decode cX12_agrees 218 = .ok (.invokevirtual 158, 3) := by decide +kernel
theorem dX12_agrees_221 : decode cX12_agrees 221 = .ok (.aload_n 0, 1) := by decide +kernel
theorem dX12_agrees_222 : decode cX12_agrees 222 = .ok (.getfield 67, 3) := by decide +kernel
theorem dX12_agrees_225 : decode cX12_agrees 225 = .ok (.aload_n 3, 1) := by decide +kernel
theorem dX12_agrees_226 : decode cX12_agrees 226 = .ok (.bipush 6, 2) := by decide +kernel
theorem dX12_agrees_228 : decode cX12_agrees 228 = .ok (.iaload, 1) := by decide +kernel
theorem dX12_agrees_229 : decode cX12_agrees 229 = .ok (.if_icmp .ge 7, 3) := by decide +kernel
theorem dX12_agrees_232 : decode cX12_agrees 232 = .ok (.iconst 1, 1) := by decide +kernel
theorem dX12_agrees_233 : decode cX12_agrees 233 = .ok (.goto 4, 3) := by decide +kernel
theorem dX12_agrees_236 : decode cX12_agrees 236 = .ok (.iconst 0, 1) := by decide +kernel
theorem dX12_agrees_237 : decode cX12_agrees 237 = .ok (.if_icmp .eq 5, 3) := by decide +kernel
theorem dX12_agrees_240 : decode cX12_agrees 240 = .ok (.iconst 0, 1) := by decide +kernel
theorem dX12_agrees_241 : decode cX12_agrees 241 = .ok (.ireturn, 1) := by decide +kernel
theorem dX12_agrees_242 : decode cX12_agrees 242 = .ok (.iinc 2 1, 3) := by decide +kernel
theorem dX12_agrees_245 : decode cX12_agrees 245 = .ok (.goto (-184), 3) := by decide +kernel
theorem dX12_agrees_248 : decode cX12_agrees 248 = .ok (.iconst 0, 1) := by decide +kernel
theorem dX12_agrees_249 : decode cX12_agrees 249 = .ok (.istore_n 2, 1) := by decide +kernel
theorem dX12_agrees_250 : decode cX12_agrees 250 = .ok (.iload_n 2, 1) := by decide +kernel
theorem dX12_agrees_251 : decode cX12_agrees 251 = .ok (.iconst 3, 1) := by decide +kernel
theorem dX12_agrees_252 : decode cX12_agrees 252 = .ok (.if_icmp .ge 44, 3) := by decide +kernel
theorem dX12_agrees_255 : decode cX12_agrees 255 = .ok (.aload_n 1, 1) := by decide +kernel
theorem dX12_agrees_256 : decode cX12_agrees 256 = .ok (.iload_n 2, 1) := by decide +kernel
theorem dX12_agrees_257 : decode cX12_agrees 257 = .ok (.invokevirtual 161, 3) := by decide +kernel
theorem dX12_agrees_260 : decode cX12_agrees 260 = .ok (.aload_n 0, 1) := by decide +kernel
theorem dX12_agrees_261 : decode cX12_agrees 261 = .ok (.getfield 25, 3) := by decide +kernel
theorem dX12_agrees_264 : decode cX12_agrees 264 = .ok (.iload_n 2, 1) := by decide +kernel
theorem dX12_agrees_265 : decode cX12_agrees 265 = .ok (.iaload, 1) := by decide +kernel
theorem dX12_agrees_266 : decode cX12_agrees 266 = .ok (.if_icmp .ne 22, 3) := by decide +kernel
theorem dX12_agrees_269 : decode cX12_agrees 269 = .ok (.aload_n 1, 1) := by decide +kernel
theorem dX12_agrees_270 : decode cX12_agrees 270 = .ok (.iload_n 2, 1) := by decide +kernel
theorem dX12_agrees_271 : decode cX12_agrees 271 = .ok (.invokevirtual 164, 3) := by decide +kernel
theorem dX12_agrees_274 : decode cX12_agrees 274 = .ok (.aload_n 0, 1) := by decide +kernel
theorem dX12_agrees_275 : decode cX12_agrees 275 = .ok (.getfield 67, 3) := by decide +kernel
theorem dX12_agrees_278 : decode cX12_agrees 278 = .ok (.aload_n 0, 1) := by decide +kernel
theorem dX12_agrees_279 : decode cX12_agrees 279 = .ok (.getfield 16, 3) := by decide +kernel
theorem dX12_agrees_282 : decode cX12_agrees 282 = .ok (.iload_n 2, 1) := by decide +kernel
theorem dX12_agrees_283 : decode cX12_agrees 283 = .ok (.iaload, 1) := by decide +kernel
theorem dX12_agrees_284 : decode cX12_agrees 284 = .ok (.iadd, 1) := by decide +kernel
theorem dX12_agrees_285 : decode cX12_agrees 285 = .ok (.if_icmp .eq 5, 3) := by decide +kernel
theorem dX12_agrees_288 : decode cX12_agrees 288 = .ok (.iconst 0, 1) := by decide +kernel
theorem dX12_agrees_289 : decode cX12_agrees 289 = .ok (.ireturn, 1) := by decide +kernel
theorem dX12_agrees_290 : decode cX12_agrees 290 = .ok (.iinc 2 1, 3) := by decide +kernel
theorem dX12_agrees_293 : decode cX12_agrees 293 = .ok (.goto (-43), 3) := by decide +kernel
theorem dX12_agrees_296 : decode cX12_agrees 296 = .ok (.aload_n 1, 1) := by decide +kernel
theorem dX12_agrees_297 : decode cX12_agrees 297 = .ok (.iconst 0, 1) := by decide +kernel
theorem dX12_agrees_298 : decode cX12_agrees 298 = .ok (.invokevirtual 167, 3) := by decide +kernel
theorem dX12_agrees_301 : decode cX12_agrees 301 = .ok (.aload_n 0, 1) := by decide +kernel
theorem dX12_agrees_302 : decode cX12_agrees 302 = .ok (.getfield 31, 3) := by decide +kernel
theorem dX12_agrees_305 : decode cX12_agrees 305 = .ok (.iconst 0, 1) := by decide +kernel
theorem dX12_agrees_306 : decode cX12_agrees 306 = .ok (.iaload, 1) := by decide +kernel
theorem dX12_agrees_307 : decode cX12_agrees 307 = .ok (.if_icmp .ne 21, 3) := by decide +kernel
theorem dX12_agrees_310 : decode cX12_agrees 310 = .ok (.aload_n 1, 1) := by decide +kernel
theorem dX12_agrees_311 : decode cX12_agrees 311 = .ok (.iconst 1, 1) := by decide +kernel
theorem dX12_agrees_312 : decode cX12_agrees 312 = .ok (.invokevirtual 167, 3) := by decide +kernel
theorem dX12_agrees_315 : decode cX12_agrees 315 = .ok (.aload_n 0, 1) := by decide +kernel
theorem dX12_agrees_316 : decode cX12_agrees 316 = .ok (.getfield 31, 3) := by decide +kernel
theorem dX12_agrees_319 : decode cX12_agrees 319 = .ok (.iconst 1, 1) := by decide +kernel
theorem dX12_agrees_320 : decode cX12_agrees 320 = .ok (.iaload, 1) := by decide +kernel
theorem dX12_agrees_321 : decode cX12_agrees 321 = .ok (.if_icmp .ne 7, 3) := by decide +kernel
theorem dX12_agrees_324 : decode cX12_agrees 324 = .ok (.iconst 1, 1) := by decide +kernel
theorem dX12_agrees_325 : decode cX12_agrees 325 = .ok (.goto 4, 3) := by decide +kernel
theorem dX12_agrees_328 : decode cX12_agrees 328 = .ok (.iconst 0, 1) := by decide +kernel
theorem dX12_agrees_329 : decode cX12_agrees 329 = .ok (.ireturn, 1) := by decide +kernel
end
section
theorem dL_cell_0 : decode cL_cell 0 = .ok (.iload_n 1, 1) := by decide +kernel
theorem dL_cell_1 : decode cL_cell 1 = .ok (.aload_n 0, 1) := by decide +kernel
theorem dL_cell_2 : decode cL_cell 2 = .ok (.arraylength, 1) := by decide +kernel
theorem dL_cell_3 : decode cL_cell 3 = .ok (.if_icmp .ge 12, 3) := by decide +kernel
theorem dL_cell_6 : decode cL_cell 6 = .ok (.aload_n 0, 1) := by decide +kernel
theorem dL_cell_7 : decode cL_cell 7 = .ok (.iload_n 1, 1) := by decide +kernel
theorem dL_cell_8 : decode cL_cell 8 = .ok (.iaload, 1) := by decide +kernel
theorem dL_cell_9 : decode cL_cell 9 = .ok (.ldc 7, 2) := by decide +kernel
theorem dL_cell_11 : decode cL_cell 11 = .ok (.iand, 1) := by decide +kernel
theorem dL_cell_12 : decode cL_cell 12 = .ok (.goto 4, 3) := by decide +kernel
theorem dL_cell_15 : decode cL_cell 15 = .ok (.iconst 0, 1) := by decide +kernel
theorem dL_cell_16 : decode cL_cell 16 = .ok (.ireturn, 1) := by decide +kernel
theorem dL_says_0 : decode cL_says 0 = .ok (.iconst 0, 1) := by decide +kernel
theorem dL_says_1 : decode cL_says 1 = .ok (.istore_n 2, 1) := by decide +kernel
theorem dL_says_2 : decode cL_says 2 = .ok (.iload_n 2, 1) := by decide +kernel
theorem dL_says_3 : decode cL_says 3 = .ok (.aload_n 1, 1) := by decide +kernel
theorem dL_says_4 : decode cL_says 4 = .ok (.invokevirtual 8, 3) := by decide +kernel
theorem dL_says_7 : decode cL_says 7 = .ok (.if_icmp .ge 89, 3) := by decide +kernel
theorem dL_says_10 : decode cL_says 10 = .ok (.iconst 5, 1) := by decide +kernel
theorem dL_says_11 : decode cL_says 11 = .ok (.newarray .int, 2) := by decide +kernel
theorem dL_says_13 : decode cL_says 13 = .ok (.astore_n 3, 1) := by decide +kernel
theorem dL_says_14 : decode cL_says 14 = .ok (.iconst 0, 1) := by decide +kernel
theorem dL_says_15 : decode cL_says 15 = .ok (.istore 4, 2) := by decide +kernel
theorem dL_says_17 : decode cL_says 17 = .ok (.iload 4, 2) := by decide +kernel
theorem dL_says_19 : decode cL_says 19 = .ok (.bipush 20, 2) := by decide +kernel
theorem dL_says_21 : decode cL_says 21 = .ok (.if_icmp .ge 49, 3) := by decide +kernel
theorem dL_says_24 : decode cL_says 24 = .ok (.aload_n 3, 1) := by decide +kernel
theorem dL_says_25 : decode cL_says 25 = .ok (.iload 4, 2) := by decide +kernel
theorem dL_says_27 : decode cL_says 27 = .ok (.iconst 4, 1) := by decide +kernel
theorem dL_says_28 : decode cL_says 28 = .ok (.idiv, 1) := by decide +kernel
theorem dL_says_29 : decode cL_says 29 = .ok (.aload_n 3, 1) := by decide +kernel
theorem dL_says_30 : decode cL_says 30 = .ok (.iload 4, 2) := by decide +kernel
theorem dL_says_32 : decode cL_says 32 = .ok (.iconst 4, 1) := by decide +kernel
theorem dL_says_33 : decode cL_says 33 = .ok (.idiv, 1) := by decide +kernel
theorem dL_says_34 : decode cL_says 34 = .ok (.iaload, 1) := by decide +kernel
theorem dL_says_35 : decode cL_says 35 = .ok (.bipush 8, 2) := by decide +kernel
theorem dL_says_37 : decode cL_says 37 = .ok (.ishl, 1) := by decide +kernel
theorem dL_says_38 : decode cL_says 38 = .ok (.iload_n 2, 1) := by decide +kernel
theorem dL_says_39 : decode cL_says 39 = .ok (.iload 4, 2) := by decide +kernel
theorem dL_says_41 : decode cL_says 41 = .ok (.iadd, 1) := by decide +kernel
theorem dL_says_42 : decode cL_says 42 = .ok (.aload_n 1, 1) := by decide +kernel
theorem dL_says_43 : decode cL_says 43 = .ok (.invokevirtual 8, 3) := by decide +kernel
theorem dL_says_46 : decode cL_says 46 = .ok (.if_icmp .ge 14, 3) := by decide +kernel
theorem dL_says_49 : decode cL_says 49 = .ok (.aload_n 1, 1) := by decide +kernel
theorem dL_says_50 : decode cL_says 50 = .ok (.iload_n 2, 1) := by decide +kernel
theorem dL_says_51 : decode cL_says 51 = .ok (.iload 4, 2) := by decide +kernel
theorem dL_says_53 : decode cL_says 53 = .ok (.iadd, 1) := by decide +kernel
theorem dL_says_54 : decode cL_says 54 = .ok (.invokevirtual 14, 3) := by decide +kernel
theorem dL_says_57 : decode cL_says 57 = .ok (.goto 5, 3) := by decide +kernel
theorem dL_says_60 : decode cL_says 60 = .ok (.bipush 32, 2) := by decide +kernel
theorem dL_says_62 : decode cL_says 62 = .ok (.ior, 1) := by decide +kernel
theorem dL_says_63 : decode cL_says 63 = .ok (.iastore, 1) := by decide +kernel
theorem dL_says_64 : decode cL_says 64 = .ok (.iinc 4 1, 3) := by decide +kernel
theorem dL_says_67 : decode cL_says 67 = .ok (.goto (-50), 3) := by decide +kernel
theorem dL_says_70 : decode cL_says 70 = .ok (.aload_n 0, 1) := by decide +kernel
theorem dL_says_71 : decode cL_says 71 = .ok (.aload_n 3, 1) := by decide +kernel
theorem dL_says_72 : decode cL_says 72 = .ok (.iconst 0, 1) := by decide +kernel
theorem dL_says_73 : decode cL_says 73 = .ok (.iaload, 1) := by decide +kernel
theorem dL_says_74 : decode cL_says 74 = .ok (.aload_n 3, 1) := by decide +kernel
theorem dL_says_75 : decode cL_says 75 = .ok (.iconst 1, 1) := by decide +kernel
theorem dL_says_76 : decode cL_says 76 = .ok (.iaload, 1) := by decide +kernel
theorem dL_says_77 : decode cL_says 77 = .ok (.aload_n 3, 1) := by decide +kernel
theorem dL_says_78 : decode cL_says 78 = .ok (.iconst 2, 1) := by decide +kernel
theorem dL_says_79 : decode cL_says 79 = .ok (.iaload, 1) := by decide +kernel
theorem dL_says_80 : decode cL_says 80 = .ok (.aload_n 3, 1) := by decide +kernel
theorem dL_says_81 : decode cL_says 81 = .ok (.iconst 3, 1) := by decide +kernel
theorem dL_says_82 : decode cL_says 82 = .ok (.iaload, 1) := by decide +kernel
theorem dL_says_83 : decode cL_says 83 = .ok (.aload_n 3, 1) := by decide +kernel
theorem dL_says_84 : decode cL_says 84 = .ok (.iconst 4, 1) := by decide +kernel
theorem dL_says_85 : decode cL_says 85 = .ok (.iaload, 1) := by decide +kernel
theorem dL_says_86 : decode cL_says 86 = .ok (.invokevirtual 18, 3) := by decide +kernel
theorem dL_says_89 : decode cL_says 89 = .ok (.pop, 1) := by decide +kernel
theorem dL_says_90 : decode cL_says 90 = .ok (.iinc 2 20, 3) := by decide +kernel
theorem dL_says_93 : decode cL_says 93 = .ok (.goto (-91), 3) := by decide +kernel
theorem dL_says_96 : decode cL_says 96 = .ok (.aload_n 0, 1) := by decide +kernel
theorem dL_says_97 : decode cL_says 97 = .ok (.aload_n 1, 1) := by decide +kernel
theorem dL_says_98 : decode cL_says 98 = .ok (.invokevirtual 8, 3) := by decide +kernel
theorem dL_says_101 : decode cL_says 101 = .ok (.invokevirtual 24, 3) := by decide +kernel
theorem dL_says_104 : decode cL_says 104 = .ok (.pop, 1) := by decide +kernel
theorem dL_says_105 : decode cL_says 105 = .ok (.return_, 1) := by decide +kernel
theorem dL_loaded_0 : decode cL_loaded 0 = .ok (.aload_n 0, 1) := by decide +kernel
theorem dL_loaded_1 : decode cL_loaded 1 = .ok (.invokevirtual 28, 3) := by decide +kernel
theorem dL_loaded_4 : decode cL_loaded 4 = .ok (.ireturn, 1) := by decide +kernel
theorem dL_loaded_5 : decode cL_loaded 5 = .ok (.astore_n 1, 1) := by decide +kernel
theorem dL_loaded_6 : decode cL_loaded 6 = .ok (.bipush (-9), 2) := by decide +kernel
theorem dL_loaded_8 : decode cL_loaded 8 = .ok (.ireturn, 1) := by decide +kernel
theorem dL_offset_0 : decode cL_offset 0 = .ok (.iload_n 0, 1) := by decide +kernel
theorem dL_offset_1 : decode cL_offset 1 = .ok (.bipush 7, 2) := by decide +kernel
theorem dL_offset_3 : decode cL_offset 3 = .ok (.irem, 1) := by decide +kernel
theorem dL_offset_4 : decode cL_offset 4 = .ok (.iconst 3, 1) := by decide +kernel
theorem dL_offset_5 : decode cL_offset 5 = .ok (.isub, 1) := by decide +kernel
theorem dL_offset_6 : decode cL_offset 6 = .ok (.ireturn, 1) := by decide +kernel
theorem dL_clock_0 : decode cL_clock 0 = .ok (.iload_n 0, 1) := by decide +kernel
theorem dL_clock_1 : decode cL_clock 1 = .ok (.invokestatic 33, 3) := by decide +kernel
theorem dL_clock_4 : decode cL_clock 4 = .ok (.ifCond .ne 8, 3) := by decide +kernel
theorem dL_clock_7 : decode cL_clock 7 = .ok (.ldc 38, 2) := by decide +kernel
theorem dL_clock_9 : decode cL_clock 9 = .ok (.goto 68, 3) := by decide +kernel
theorem dL_clock_12 : decode cL_clock 12 = .ok (.iload_n 0, 1) := by decide +kernel
theorem dL_clock_13 : decode cL_clock 13 = .ok (.invokestatic 33, 3) := by decide +kernel
theorem dL_clock_16 : decode cL_clock 16 = .ok (.ifCond .le 33, 3) := by decide +kernel
theorem dL_clock_19 : decode cL_clock 19 = .ok (.new 40, 3) := by decide +kernel
theorem dL_clock_22 : decode cL_clock 22 = .ok (.dup, 1) := by decide +kernel
theorem dL_clock_23 : decode cL_clock 23 = .ok (.invokespecial 42, 3) := by decide +kernel
theorem dL_clock_26 : decode cL_clock 26 = .ok (.ldc 43, 2) := by decide +kernel
theorem dL_clock_28 : decode cL_clock 28 = .ok (.invokevirtual 45, 3) := by decide +kernel
theorem dL_clock_31 : decode cL_clock 31 = .ok (.iload_n 0, 1) := by decide +kernel
theorem dL_clock_32 : decode cL_clock 32 = .ok (.invokestatic 33, 3) := by decide +kernel
theorem dL_clock_35 : decode cL_clock 35 = .ok (.invokevirtual 49, 3) := by decide +kernel
theorem dL_clock_38 : decode cL_clock 38 = .ok (.ldc 52, 2) := by decide +kernel
theorem dL_clock_40 : decode cL_clock 40 = .ok (.invokevirtual 45, 3) := by decide +kernel
theorem dL_clock_43 : decode cL_clock 43 = .ok (.invokevirtual 54, 3) := by decide +kernel
theorem dL_clock_46 : decode cL_clock 46 = .ok (.goto 31, 3) := by decide +kernel
theorem dL_clock_49 : decode cL_clock 49 = .ok (.new 40, 3) := by decide +kernel
theorem dL_clock_52 : decode cL_clock 52 = .ok (.dup, 1) := by decide +kernel
theorem dL_clock_53 : decode cL_clock 53 = .ok (.invokespecial 42, 3) := by decide +kernel
theorem dL_clock_56 : decode cL_clock 56 = .ok (.ldc 58, 2) := by decide +kernel
theorem dL_clock_58 : decode cL_clock 58 = .ok (.invokevirtual 45, 3) := by decide +kernel
theorem dL_clock_61 : decode cL_clock 61 = .ok (.iload_n 0, 1) := by decide +kernel
theorem dL_clock_62 : decode cL_clock 62 = .ok (.invokestatic 33, 3) := by decide +kernel
theorem dL_clock_65 : decode cL_clock 65 = .ok (.ineg, 1) := by decide +kernel
theorem dL_clock_66 : decode cL_clock 66 = .ok (.invokevirtual 49, 3) := by decide +kernel
theorem dL_clock_69 : decode cL_clock 69 = .ok (.ldc 52, 2) := by decide +kernel
theorem dL_clock_71 : decode cL_clock 71 = .ok (.invokevirtual 45, 3) := by decide +kernel
theorem dL_clock_74 : decode cL_clock 74 = .ok (.invokevirtual 54, 3) := by decide +kernel
theorem dL_clock_77 : decode cL_clock 77 = .ok (.areturn, 1) := by decide +kernel
theorem dL_isTrusted_0 : decode cL_isTrusted 0 = .ok (.iload_n 1, 1) := by decide +kernel
theorem dL_isTrusted_1 : decode cL_isTrusted 1 = .ok (.iload_n 2, 1) := by decide +kernel
theorem dL_isTrusted_2 : decode cL_isTrusted 2 = .ok (.if_icmp .eq 24, 3) := by decide +kernel
theorem dL_isTrusted_5 : decode cL_isTrusted 5 = .ok (.aload_n 0, 1) := by decide +kernel
theorem dL_isTrusted_6 : decode cL_isTrusted 6 = .ok (.iconst 4, 1) := by decide +kernel
theorem dL_isTrusted_7 : decode cL_isTrusted 7 = .ok (.invokestatic 60, 3) := by decide +kernel
theorem dL_isTrusted_10 : decode cL_isTrusted 10 = .ok (.iconst 3, 1) := by decide +kernel
theorem dL_isTrusted_11 : decode cL_isTrusted 11 = .ok (.iload_n 1, 1) := by decide +kernel
theorem dL_isTrusted_12 : decode cL_isTrusted 12 = .ok (.imul, 1) := by decide +kernel
theorem dL_isTrusted_13 : decode cL_isTrusted 13 = .ok (.iload_n 2, 1) := by decide +kernel
theorem dL_isTrusted_14 : decode cL_isTrusted 14 = .ok (.iadd, 1) := by decide +kernel
theorem dL_isTrusted_15 : decode cL_isTrusted 15 = .ok (.ishr, 1) := by decide +kernel
theorem dL_isTrusted_16 : decode cL_isTrusted 16 = .ok (.iconst 1, 1) := by decide +kernel
theorem dL_isTrusted_17 : decode cL_isTrusted 17 = .ok (.iand, 1) := by decide +kernel
theorem dL_isTrusted_18 : decode cL_isTrusted 18 = .ok (.iconst 1, 1) := by decide +kernel
theorem dL_isTrusted_19 : decode cL_isTrusted 19 = .ok (.if_icmp .ne 7, 3) := by decide +kernel
theorem dL_isTrusted_22 : decode cL_isTrusted 22 = .ok (.iconst 1, 1) := by decide +kernel
theorem dL_isTrusted_23 : decode cL_isTrusted 23 = .ok (.goto 4, 3) := by decide +kernel
theorem dL_isTrusted_26 : decode cL_isTrusted 26 = .ok (.iconst 0, 1) := by decide +kernel
theorem dL_isTrusted_27 : decode cL_isTrusted 27 = .ok (.ireturn, 1) := by decide +kernel
theorem dL_password_0 : decode cL_password 0 = .ok (.aload_n 0, 1) := by decide +kernel
theorem dL_password_1 : decode cL_password 1 = .ok (.iconst 5, 1) := by decide +kernel
theorem dL_password_2 : decode cL_password 2 = .ok (.iload_n 1, 1) := by decide +kernel
theorem dL_password_3 : decode cL_password 3 = .ok (.iadd, 1) := by decide +kernel
theorem dL_password_4 : decode cL_password 4 = .ok (.invokestatic 60, 3) := by decide +kernel
theorem dL_password_7 : decode cL_password 7 = .ok (.iconst 4, 1) := by decide +kernel
theorem dL_password_8 : decode cL_password 8 = .ok (.idiv, 1) := by decide +kernel
theorem dL_password_9 : decode cL_password 9 = .ok (.bipush 100, 2) := by decide +kernel
theorem dL_password_11 : decode cL_password 11 = .ok (.irem, 1) := by decide +kernel
theorem dL_password_12 : decode cL_password 12 = .ok (.ireturn, 1) := by decide +kernel
theorem dL_text_0 : decode cL_text 0 = .ok (.aload_n 0, 1) := by decide +kernel
theorem dL_text_1 : decode cL_text 1 = .ok (.iconst 0, 1) := by decide +kernel
theorem dL_text_2 : decode cL_text 2 = .ok (.invokestatic 60, 3) := by decide +kernel
theorem dL_text_5 : decode cL_text 5 = .ok (.istore_n 1, 1) := by decide +kernel
theorem dL_text_6 : decode cL_text 6 = .ok (.new 40, 3) := by decide +kernel
theorem dL_text_9 : decode cL_text 9 = .ok (.dup, 1) := by decide +kernel
theorem dL_text_10 : decode cL_text 10 = .ok (.ldc 64, 2) := by decide +kernel
theorem dL_text_12 : decode cL_text 12 = .ok (.invokespecial 66, 3) := by decide +kernel
theorem dL_text_15 : decode cL_text 15 = .ok (.iload_n 1, 1) := by decide +kernel
theorem dL_text_16 : decode cL_text 16 = .ok (.iconst 4, 1) := by decide +kernel
theorem dL_text_17 : decode cL_text 17 = .ok (.irem, 1) := by decide +kernel
theorem dL_text_18 : decode cL_text 18 = .ok (.invokevirtual 49, 3) := by decide +kernel
theorem dL_text_21 : decode cL_text 21 = .ok (.bipush 32, 2) := by decide +kernel
theorem dL_text_23 : decode cL_text 23 = .ok (.invokevirtual 69, 3) := by decide +kernel
theorem dL_text_26 : decode cL_text 26 = .ok (.iload_n 1, 1) := by decide +kernel
theorem dL_text_27 : decode cL_text 27 = .ok (.iconst 4, 1) := by decide +kernel
theorem dL_text_28 : decode cL_text 28 = .ok (.idiv, 1) := by decide +kernel
theorem dL_text_29 : decode cL_text 29 = .ok (.sipush 1024, 3) := by decide +kernel
theorem dL_text_32 : decode cL_text 32 = .ok (.irem, 1) := by decide +kernel
theorem dL_text_33 : decode cL_text 33 = .ok (.invokevirtual 49, 3) := by decide +kernel
theorem dL_text_36 : decode cL_text 36 = .ok (.bipush 59, 2) := by decide +kernel
theorem dL_text_38 : decode cL_text 38 = .ok (.invokevirtual 69, 3) := by decide +kernel
theorem dL_text_41 : decode cL_text 41 = .ok (.astore_n 2, 1) := by decide +kernel
theorem dL_text_42 : decode cL_text 42 = .ok (.iconst 0, 1) := by decide +kernel
theorem dL_text_43 : decode cL_text 43 = .ok (.istore_n 3, 1) := by decide +kernel
theorem dL_text_44 : decode cL_text 44 = .ok (.iload_n 3, 1) := by decide +kernel
theorem dL_text_45 : decode cL_text 45 = .ok (.iconst 3, 1) := by decide +kernel
theorem dL_text_46 : decode cL_text 46 = .ok (.if_icmp .ge 77, 3) := by decide +kernel
theorem dL_text_49 : decode cL_text 49 = .ok (.aload_n 0, 1) := by decide +kernel
theorem dL_text_50 : decode cL_text 50 = .ok (.iconst 1, 1) := by decide +kernel
theorem dL_text_51 : decode cL_text 51 = .ok (.iload_n 3, 1) := by decide +kernel
theorem dL_text_52 : decode cL_text 52 = .ok (.iadd, 1) := by decide +kernel
theorem dL_text_53 : decode cL_text 53 = .ok (.invokestatic 60, 3) := by decide +kernel
theorem dL_text_56 : decode cL_text 56 = .ok (.istore 4, 2) := by decide +kernel
theorem dL_text_58 : decode cL_text 58 = .ok (.aload_n 2, 1) := by decide +kernel
theorem dL_text_59 : decode cL_text 59 = .ok (.ldc 72, 2) := by decide +kernel
theorem dL_text_61 : decode cL_text 61 = .ok (.invokevirtual 45, 3) := by decide +kernel
theorem dL_text_64 : decode cL_text 64 = .ok (.bipush 97, 2) := by decide +kernel
theorem dL_text_66 : decode cL_text 66 = .ok (.iload_n 3, 1) := by decide +kernel
theorem dL_text_67 : decode cL_text 67 = .ok (.iadd, 1) := by decide +kernel
theorem dL_text_68 : decode cL_text 68 = .ok (.i2c, 1) := by decide +kernel
theorem dL_text_69 : decode cL_text 69 = .ok (.invokevirtual 69, 3) := by decide +kernel
theorem dL_text_72 : decode cL_text 72 = .ok (.bipush 32, 2) := by decide +kernel
theorem dL_text_74 : decode cL_text 74 = .ok (.invokevirtual 69, 3) := by decide +kernel
theorem dL_text_77 : decode cL_text 77 = .ok (.iconst 1, 1) := by decide +kernel
theorem dL_text_78 : decode cL_text 78 = .ok (.iload 4, 2) := by decide +kernel
theorem dL_text_80 : decode cL_text 80 = .ok (.bipush 60, 2) := by decide +kernel
theorem dL_text_82 : decode cL_text 82 = .ok (.irem, 1) := by decide +kernel
theorem dL_text_83 : decode cL_text 83 = .ok (.iadd, 1) := by decide +kernel
theorem dL_text_84 : decode cL_text 84 = .ok (.invokevirtual 49, 3) := by decide +kernel
theorem dL_text_87 : decode cL_text 87 = .ok (.bipush 32, 2) := by decide +kernel
theorem dL_text_89 : decode cL_text 89 = .ok (.invokevirtual 69, 3) := by decide +kernel
theorem dL_text_92 : decode cL_text 92 = .ok (.iload 4, 2) := by decide +kernel
theorem dL_text_94 : decode cL_text 94 = .ok (.bipush 64, 2) := by decide +kernel
theorem dL_text_96 : decode cL_text 96 = .ok (.idiv, 1) := by decide +kernel
theorem dL_text_97 : decode cL_text 97 = .ok (.sipush 200, 3) := by decide +kernel
theorem dL_text_100 : decode cL_text 100 = .ok (.irem, 1) := by decide +kernel
theorem dL_text_101 : decode cL_text 101 = .ok (.invokevirtual 49, 3) := by decide +kernel
theorem dL_text_104 : decode cL_text 104 = .ok (.iload 4, 2) := by decide +kernel
theorem dL_text_106 : decode cL_text 106 = .ok (.sipush 16384, 3) := by decide +kernel
theorem dL_text_109 : decode cL_text 109 = .ok (.idiv, 1) := by decide +kernel
theorem dL_text_110 : decode cL_text 110 = .ok (.invokestatic 74, 3) := by decide +kernel
theorem dL_text_113 : decode cL_text 113 = .ok (.invokevirtual 45, 3) := by decide +kernel
theorem dL_text_116 : decode cL_text 116 = .ok (.pop, 1) := by decide +kernel
theorem dL_text_117 : decode cL_text 117 = .ok (.iinc 3 1, 3) := by decide +kernel
theorem dL_text_120 : decode cL_text 120 = .ok (.goto (-76), 3) := by decide +kernel
theorem dL_text_123 : decode cL_text 123 = .ok (.iconst 0, 1) := by decide +kernel
theorem dL_text_124 : decode cL_text 124 = .ok (.istore_n 3, 1) := by decide +kernel
theorem dL_text_125 : decode cL_text 125 = .ok (.iload_n 3, 1) := by decide +kernel
theorem dL_text_126 : decode cL_text 126 = .ok (.iconst 3, 1) := by decide +kernel
theorem dL_text_127 : decode cL_text 127 = .ok (.if_icmp .ge 68, 3) := by decide +kernel
theorem dL_text_130 : decode cL_text 130 = .ok (.iconst 0, 1) := by decide +kernel
theorem dL_text_131 : decode cL_text 131 = .ok (.istore 4, 2) := by decide +kernel
theorem dL_text_133 : decode cL_text 133 = .ok (.iload 4, 2) := by decide +kernel
theorem dL_text_135 : decode cL_text 135 = .ok (.iconst 3, 1) := by decide +kernel
theorem dL_text_136 : decode cL_text 136 = .ok (.if_icmp .ge 53, 3) := by decide +kernel
theorem dL_text_139 : decode cL_text 139 = .ok (.aload_n 0, 1) := by decide +kernel
theorem dL_text_140 : decode cL_text 140 = .ok (.iload_n 3, 1) := by decide +kernel
theorem dL_text_141 : decode cL_text 141 = .ok (.iload 4, 2) := by decide +kernel
theorem dL_text_143 : decode cL_text 143 = .ok (.invokestatic 78, 3) := by decide +kernel
theorem dL_text_146 : decode cL_text 146 = .ok (.ifCond .eq 37, 3) := by decide +kernel
theorem dL_text_149 : decode cL_text 149 = .ok (.aload_n 2, 1) := by decide +kernel
theorem dL_text_150 : decode cL_text 150 = .ok (.ldc 82, 2) := by decide +kernel
theorem dL_text_152 : decode cL_text 152 = .ok (.invokevirtual 45, 3) := by decide +kernel
theorem dL_text_155 : decode cL_text 155 = .ok (.bipush 97, 2) := by decide +kernel
theorem dL_text_157 : decode cL_text 157 = .ok (.iload_n 3, 1) := by decide +kernel
theorem dL_text_158 : decode cL_text 158 = .ok (.iadd, 1) := by decide +kernel
theorem dL_text_159 : decode cL_text 159 = .ok (.i2c, 1) := by decide +kernel
theorem dL_text_160 : decode cL_text 160 = .ok (.invokevirtual 69, 3) := by decide +kernel
theorem dL_text_163 : decode cL_text 163 = .ok (.bipush 32, 2) := by decide +kernel
theorem dL_text_165 : decode cL_text 165 = .ok (.invokevirtual 69, 3) := by decide +kernel
theorem dL_text_168 : decode cL_text 168 = .ok (.bipush 97, 2) := by decide +kernel
theorem dL_text_170 : decode cL_text 170 = .ok (.iload 4, 2) := by decide +kernel
theorem dL_text_172 : decode cL_text 172 = .ok (.iadd, 1) := by decide +kernel
theorem dL_text_173 : decode cL_text 173 = .ok (.i2c, 1) := by decide +kernel
theorem dL_text_174 : decode cL_text 174 = .ok (.invokevirtual 69, 3) := by decide +kernel
theorem dL_text_177 : decode cL_text 177 = .ok (.bipush 59, 2) := by decide +kernel
theorem dL_text_179 : decode cL_text 179 = .ok (.invokevirtual 69, 3) := by decide +kernel
theorem dL_text_182 : decode cL_text 182 = .ok (.pop, 1) := by decide +kernel
theorem dL_text_183 : decode cL_text 183 = .ok (.iinc 4 1, 3) := by decide +kernel
theorem dL_text_186 : decode cL_text 186 = .ok (.goto (-53), 3) := by decide +kernel
theorem dL_text_189 : decode cL_text 189 = .ok (.iinc 3 1, 3) := by decide +kernel
theorem dL_text_192 : decode cL_text 192 = .ok (.goto (-67), 3) := by decide +kernel
theorem dL_text_195 : decode cL_text 195 = .ok (.iconst 0, 1) := by decide +kernel
theorem dL_text_196 : decode cL_text 196 = .ok (.istore_n 3, 1) := by decide +kernel
theorem dL_text_197 : decode cL_text 197 = .ok (.iload_n 3, 1) := by decide +kernel
theorem dL_text_198 : decode cL_text 198 = .ok (.iconst 3, 1) := by decide +kernel
theorem dL_text_199 : decode cL_text 199 = .ok (.if_icmp .ge 75, 3) := by decide +kernel
theorem dL_text_202 : decode cL_text 202 = .ok (.aload_n 2, 1) := by decide +kernel
theorem dL_text_203 : decode cL_text 203 = .ok (.ldc 84, 2) := by decide +kernel
theorem dL_text_205 : decode cL_text 205 = .ok (.invokevirtual 45, 3) := by decide +kernel
theorem dL_text_208 : decode cL_text 208 = .ok (.bipush 117, 2) := by decide +kernel
theorem dL_text_210 : decode cL_text 210 = .ok (.iload_n 3, 1) := by decide +kernel
theorem dL_text_211 : decode cL_text 211 = .ok (.iadd, 1) := by decide +kernel
theorem dL_text_212 : decode cL_text 212 = .ok (.i2c, 1) := by decide +kernel
theorem dL_text_213 : decode cL_text 213 = .ok (.invokevirtual 69, 3) := by decide +kernel
theorem dL_text_216 : decode cL_text 216 = .ok (.bipush 32, 2) := by decide +kernel
theorem dL_text_218 : decode cL_text 218 = .ok (.invokevirtual 69, 3) := by decide +kernel
theorem dL_text_221 : decode cL_text 221 = .ok (.bipush 97, 2) := by decide +kernel
theorem dL_text_223 : decode cL_text 223 = .ok (.aload_n 0, 1) := by decide +kernel
theorem dL_text_224 : decode cL_text 224 = .ok (.iconst 5, 1) := by decide +kernel
theorem dL_text_225 : decode cL_text 225 = .ok (.iload_n 3, 1) := by decide +kernel
theorem dL_text_226 : decode cL_text 226 = .ok (.iadd, 1) := by decide +kernel
theorem dL_text_227 : decode cL_text 227 = .ok (.invokestatic 60, 3) := by decide +kernel
theorem dL_text_230 : decode cL_text 230 = .ok (.iconst 3, 1) := by decide +kernel
theorem dL_text_231 : decode cL_text 231 = .ok (.irem, 1) := by decide +kernel
theorem dL_text_232 : decode cL_text 232 = .ok (.iadd, 1) := by decide +kernel
theorem dL_text_233 : decode cL_text 233 = .ok (.i2c, 1) := by decide +kernel
theorem dL_text_234 : decode cL_text 234 = .ok (.invokevirtual 69, 3) := by decide +kernel
theorem dL_text_237 : decode cL_text 237 = .ok (.bipush 32, 2) := by decide +kernel
theorem dL_text_239 : decode cL_text 239 = .ok (.invokevirtual 69, 3) := by decide +kernel
theorem dL_text_242 : decode cL_text 242 = .ok (.aload_n 0, 1) := by decide +kernel
theorem dL_text_243 : decode cL_text 243 = .ok (.iload_n 3, 1) := by decide +kernel
theorem dL_text_244 : decode cL_text 244 = .ok (.invokestatic 86, 3) := by decide +kernel
theorem dL_text_247 : decode cL_text 247 = .ok (.invokevirtual 49, 3) := by decide +kernel
theorem dL_text_250 : decode cL_text 250 = .ok (.aload_n 0, 1) := by decide +kernel
theorem dL_text_251 : decode cL_text 251 = .ok (.iconst 5, 1) := by decide +kernel
theorem dL_text_252 : decode cL_text 252 = .ok (.iload_n 3, 1) := by decide +kernel
theorem dL_text_253 : decode cL_text 253 = .ok (.iadd, 1) := by decide +kernel
theorem dL_text_254 : decode cL_text 254 = .ok (.invokestatic 60, 3) := by decide +kernel
theorem dL_text_257 : decode cL_text 257 = .ok (.sipush 512, 3) := by decide +kernel
theorem dL_text_260 : decode cL_text 260 = .ok (.idiv, 1) := by decide +kernel
theorem dL_text_261 : decode cL_text 261 = .ok (.invokestatic 74, 3) := by decide +kernel
theorem dL_text_264 : decode cL_text 264 = .ok (.invokevirtual 45, 3) := by decide +kernel
theorem dL_text_267 : decode cL_text 267 = .ok (.pop, 1) := by decide +kernel
theorem dL_text_268 : decode cL_text 268 = .ok (.iinc 3 1, 3) := by decide +kernel
theorem dL_text_271 : decode cL_text 271 = .ok (.goto (-74), 3) := by decide +kernel
theorem dL_text_274 : decode cL_text 274 = .ok (.iconst 0, 1) := by decide +kernel
theorem dL_text_275 : decode cL_text 275 = .ok (.istore_n 3, 1) := by decide +kernel
theorem dL_text_276 : decode cL_text 276 = .ok (.iload_n 3, 1) := by decide +kernel
theorem dL_text_277 : decode cL_text 277 = .ok (.iconst 2, 1) := by decide +kernel
theorem dL_text_278 : decode cL_text 278 = .ok (.if_icmp .ge 72, 3) := by decide +kernel
theorem dL_text_281 : decode cL_text 281 = .ok (.aload_n 2, 1) := by decide +kernel
theorem dL_text_282 : decode cL_text 282 = .ok (.ldc 89, 2) := by decide +kernel
theorem dL_text_284 : decode cL_text 284 = .ok (.invokevirtual 45, 3) := by decide +kernel
theorem dL_text_287 : decode cL_text 287 = .ok (.bipush 109, 2) := by decide +kernel
theorem dL_text_289 : decode cL_text 289 = .ok (.iload_n 3, 1) := by decide +kernel
theorem dL_text_290 : decode cL_text 290 = .ok (.iadd, 1) := by decide +kernel
theorem dL_text_291 : decode cL_text 291 = .ok (.i2c, 1) := by decide +kernel
theorem dL_text_292 : decode cL_text 292 = .ok (.invokevirtual 69, 3) := by decide +kernel
theorem dL_text_295 : decode cL_text 295 = .ok (.bipush 32, 2) := by decide +kernel
theorem dL_text_297 : decode cL_text 297 = .ok (.invokevirtual 69, 3) := by decide +kernel
theorem dL_text_300 : decode cL_text 300 = .ok (.bipush 97, 2) := by decide +kernel
theorem dL_text_302 : decode cL_text 302 = .ok (.aload_n 0, 1) := by decide +kernel
theorem dL_text_303 : decode cL_text 303 = .ok (.bipush 8, 2) := by decide +kernel
theorem dL_text_305 : decode cL_text 305 = .ok (.iload_n 3, 1) := by decide +kernel
theorem dL_text_306 : decode cL_text 306 = .ok (.iadd, 1) := by decide +kernel
theorem dL_text_307 : decode cL_text 307 = .ok (.invokestatic 60, 3) := by decide +kernel
theorem dL_text_310 : decode cL_text 310 = .ok (.iconst 3, 1) := by decide +kernel
theorem dL_text_311 : decode cL_text 311 = .ok (.irem, 1) := by decide +kernel
theorem dL_text_312 : decode cL_text 312 = .ok (.iadd, 1) := by decide +kernel
theorem dL_text_313 : decode cL_text 313 = .ok (.i2c, 1) := by decide +kernel
theorem dL_text_314 : decode cL_text 314 = .ok (.invokevirtual 69, 3) := by decide +kernel
theorem dL_text_317 : decode cL_text 317 = .ok (.bipush 32, 2) := by decide +kernel
theorem dL_text_319 : decode cL_text 319 = .ok (.invokevirtual 69, 3) := by decide +kernel
theorem dL_text_322 : decode cL_text 322 = .ok (.aload_n 0, 1) := by decide +kernel
theorem dL_text_323 : decode cL_text 323 = .ok (.bipush 8, 2) := by decide +kernel
theorem dL_text_325 : decode cL_text 325 = .ok (.iload_n 3, 1) := by decide +kernel
theorem dL_text_326 : decode cL_text 326 = .ok (.iadd, 1) := by decide +kernel
theorem dL_text_327 : decode cL_text 327 = .ok (.invokestatic 60, 3) := by decide +kernel
theorem dL_text_330 : decode cL_text 330 = .ok (.iconst 4, 1) := by decide +kernel
theorem dL_text_331 : decode cL_text 331 = .ok (.idiv, 1) := by decide +kernel
theorem dL_text_332 : decode cL_text 332 = .ok (.bipush 6, 2) := by decide +kernel
theorem dL_text_334 : decode cL_text 334 = .ok (.irem, 1) := by decide +kernel
theorem dL_text_335 : decode cL_text 335 = .ok (.invokevirtual 49, 3) := by decide +kernel
theorem dL_text_338 : decode cL_text 338 = .ok (.bipush 59, 2) := by decide +kernel
theorem dL_text_340 : decode cL_text 340 = .ok (.invokevirtual 69, 3) := by decide +kernel
theorem dL_text_343 : decode cL_text 343 = .ok (.pop, 1) := by decide +kernel
theorem dL_text_344 : decode cL_text 344 = .ok (.iinc 3 1, 3) := by decide +kernel
theorem dL_text_347 : decode cL_text 347 = .ok (.goto (-71), 3) := by decide +kernel
theorem dL_text_350 : decode cL_text 350 = .ok (.aload_n 2, 1) := by decide +kernel
theorem dL_text_351 : decode cL_text 351 = .ok (.invokevirtual 54, 3) := by decide +kernel
theorem dL_text_354 : decode cL_text 354 = .ok (.areturn, 1) := by decide +kernel
theorem dL_acts_0 : decode cL_acts 0 = .ok (.iload_n 2, 1) := by decide +kernel
theorem dL_acts_1 : decode cL_acts 1 = .ok (.bipush 32, 2) := by decide +kernel
theorem dL_acts_3 : decode cL_acts 3 = .ok (.idiv, 1) := by decide +kernel
theorem dL_acts_4 : decode cL_acts 4 = .ok (.istore_n 3, 1) := by decide +kernel
theorem dL_acts_5 : decode cL_acts 5 = .ok (.iload_n 3, 1) := by decide +kernel
theorem dL_acts_6 : decode cL_acts 6 = .ok (.iconst 3, 1) := by decide +kernel
theorem dL_acts_7 : decode cL_acts 7 = .ok (.irem, 1) := by decide +kernel
theorem dL_acts_8 : decode cL_acts 8 = .ok (.istore 4, 2) := by decide +kernel
theorem dL_acts_10 : decode cL_acts 10 = .ok (.iload_n 3, 1) := by decide +kernel
theorem dL_acts_11 : decode cL_acts 11 = .ok (.bipush 16, 2) := by decide +kernel
theorem dL_acts_13 : decode cL_acts 13 = .ok (.idiv, 1) := by decide +kernel
theorem dL_acts_14 : decode cL_acts 14 = .ok (.istore 5, 2) := by decide +kernel
theorem dL_acts_16 : decode cL_acts 16 = .ok (.iload_n 2, 1) := by decide +kernel
theorem dL_acts_17 : decode cL_acts 17 = .ok (.bipush 32, 2) := by decide +kernel
theorem dL_acts_19 : decode cL_acts 19 = .ok (.irem, 1) := by decide +kernel
theorem dL_acts_20 : decode cL_acts 20 = .ok (.bipush 7, 2) := by decide +kernel
theorem dL_acts_22 : decode cL_acts 22 = .ok (.if_icmp .lt 16, 3) := by decide +kernel
theorem dL_acts_25 : decode cL_acts 25 = .ok (.iload_n 2, 1) := by decide +kernel
theorem dL_acts_26 : decode cL_acts 26 = .ok (.bipush 32, 2) := by decide +kernel
theorem dL_acts_28 : decode cL_acts 28 = .ok (.irem, 1) := by decide +kernel
theorem dL_acts_29 : decode cL_acts 29 = .ok (.bipush 25, 2) := by decide +kernel
theorem dL_acts_31 : decode cL_acts 31 = .ok (.if_icmp .ge 7, 3) := by decide +kernel
theorem dL_acts_34 : decode cL_acts 34 = .ok (.iconst 1, 1) := by decide +kernel
theorem dL_acts_35 : decode cL_acts 35 = .ok (.goto 4, 3) := by decide +kernel
theorem dL_acts_38 : decode cL_acts 38 = .ok (.iconst 0, 1) := by decide +kernel
theorem dL_acts_39 : decode cL_acts 39 = .ok (.istore 6, 2) := by decide +kernel
theorem dL_acts_41 : decode cL_acts 41 = .ok (.iload 6, 2) := by decide +kernel
theorem dL_acts_43 : decode cL_acts 43 = .ok (.ifCond .eq 13, 3) := by decide +kernel
theorem dL_acts_46 : decode cL_acts 46 = .ok (.aload_n 0, 1) := by decide +kernel
theorem dL_acts_47 : decode cL_acts 47 = .ok (.invokevirtual 91, 3) := by decide +kernel
theorem dL_acts_50 : decode cL_acts 50 = .ok (.ifCond .ne 6, 3) := by decide +kernel
theorem dL_acts_53 : decode cL_acts 53 = .ok (.bipush (-8), 2) := by decide +kernel
theorem dL_acts_55 : decode cL_acts 55 = .ok (.ireturn, 1) := by decide +kernel
theorem dL_acts_56 : decode cL_acts 56 = .ok (.aload_n 0, 1) := by decide +kernel
theorem dL_acts_57 : decode cL_acts 57 = .ok (.invokevirtual 91, 3) := by decide +kernel
theorem dL_acts_60 : decode cL_acts 60 = .ok (.ifCond .ne 7, 3) := by decide +kernel
theorem dL_acts_63 : decode cL_acts 63 = .ok (.iconst 0, 1) := by decide +kernel
theorem dL_acts_64 : decode cL_acts 64 = .ok (.goto 13, 3) := by decide +kernel
theorem dL_acts_67 : decode cL_acts 67 = .ok (.aload_n 0, 1) := by decide +kernel
theorem dL_acts_68 : decode cL_acts 68 = .ok (.iload_n 3, 1) := by decide +kernel
theorem dL_acts_69 : decode cL_acts 69 = .ok (.aload_n 0, 1) := by decide +kernel
theorem dL_acts_70 : decode cL_acts 70 = .ok (.invokevirtual 91, 3) := by decide +kernel
theorem dL_acts_73 : decode cL_acts 73 = .ok (.irem, 1) := by decide +kernel
theorem dL_acts_74 : decode cL_acts 74 = .ok (.invokevirtual 94, 3) := by decide +kernel
theorem dL_acts_77 : decode cL_acts 77 = .ok (.istore 7, 2) := by decide +kernel
theorem dL_acts_79 : decode cL_acts 79 = .ok (.iload_n 2, 1) := by decide +kernel
theorem dL_acts_80 : decode cL_acts 80 = .ok (.bipush 32, 2) := by decide +kernel
theorem dL_acts_82 : decode cL_acts 82 = .ok (.irem, 1) := by decide +kernel
theorem dL_acts_83 : decode cL_acts 83 = .ok (.tableswitch 222 0 26 #[121, 121, 121, 121, 121, 121, 121, 162, 162, 162, 162, 173, 173, 173, 173, 184, 184, 184, 191, 191, 191, 191, 191, 191, 198, 205, 210], 121) := by decide +kernel
theorem dL_acts_204 : decode cL_acts 204 = .ok (.aload_n 0, 1) := by decide +kernel
theorem dL_acts_205 : decode cL_acts 205 = .ok (.iload 4, 2) := by decide +kernel
theorem dL_acts_207 : decode cL_acts 207 = .ok (.iload 5, 2) := by decide +kernel
theorem dL_acts_209 : decode cL_acts 209 = .ok (.bipush 8, 2) := by decide +kernel
theorem dL_acts_211 : decode cL_acts 211 = .ok (.irem, 1) := by decide +kernel
theorem dL_acts_212 : decode cL_acts 212 = .ok (.ifCond .ne 8, 3) := by decide +kernel
theorem dL_acts_215 : decode cL_acts 215 = .ok (.bipush 100, 2) := by decide +kernel
theorem dL_acts_217 : decode cL_acts 217 = .ok (.goto 9, 3) := by decide +kernel
theorem dL_acts_220 : decode cL_acts 220 = .ok (.aload_n 1, 1) := by decide +kernel
theorem dL_acts_221 : decode cL_acts 221 = .ok (.iload 4, 2) := by decide +kernel
theorem dL_acts_223 : decode cL_acts 223 = .ok (.invokestatic 86, 3) := by decide +kernel
theorem dL_acts_226 : decode cL_acts 226 = .ok (.iload 5, 2) := by decide +kernel
theorem dL_acts_228 : decode cL_acts 228 = .ok (.bipush 8, 2) := by decide +kernel
theorem dL_acts_230 : decode cL_acts 230 = .ok (.idiv, 1) := by decide +kernel
theorem dL_acts_231 : decode cL_acts 231 = .ok (.iconst 2, 1) := by decide +kernel
theorem dL_acts_232 : decode cL_acts 232 = .ok (.irem, 1) := by decide +kernel
theorem dL_acts_233 : decode cL_acts 233 = .ok (.ifCond .ne 7, 3) := by decide +kernel
theorem dL_acts_236 : decode cL_acts 236 = .ok (.iconst 1, 1) := by decide +kernel
theorem dL_acts_237 : decode cL_acts 237 = .ok (.goto 4, 3) := by decide +kernel
theorem dL_acts_240 : decode cL_acts 240 = .ok (.iconst 0, 1) := by decide +kernel
theorem dL_acts_241 : decode cL_acts 241 = .ok (.invokevirtual 97, 3) := by decide +kernel
theorem dL_acts_244 : decode cL_acts 244 = .ok (.ireturn, 1) := by decide +kernel
theorem dL_acts_245 : decode cL_acts 245 = .ok (.aload_n 0, 1) := by decide +kernel
theorem dL_acts_246 : decode cL_acts 246 = .ok (.iload 7, 2) := by decide +kernel
theorem dL_acts_248 : decode cL_acts 248 = .ok (.iload 5, 2) := by decide +kernel
theorem dL_acts_250 : decode cL_acts 250 = .ok (.iconst 3, 1) := by decide +kernel
theorem dL_acts_251 : decode cL_acts 251 = .ok (.irem, 1) := by decide +kernel
theorem dL_acts_252 : decode cL_acts 252 = .ok (.invokevirtual 101, 3) := by decide +kernel
theorem dL_acts_255 : decode cL_acts 255 = .ok (.ireturn, 1) := by decide +kernel
theorem dL_acts_256 : decode cL_acts 256 = .ok (.aload_n 0, 1) := by decide +kernel
theorem dL_acts_257 : decode cL_acts 257 = .ok (.iload 7, 2) := by decide +kernel
theorem dL_acts_259 : decode cL_acts 259 = .ok (.iload 5, 2) := by decide +kernel
theorem dL_acts_261 : decode cL_acts 261 = .ok (.iconst 2, 1) := by decide +kernel
theorem dL_acts_262 : decode cL_acts 262 = .ok (.irem, 1) := by decide +kernel
theorem dL_acts_263 : decode cL_acts 263 = .ok (.invokevirtual 105, 3) := by decide +kernel
theorem dL_acts_266 : decode cL_acts 266 = .ok (.ireturn, 1) := by decide +kernel
theorem dL_acts_267 : decode cL_acts 267 = .ok (.aload_n 0, 1) := by decide +kernel
theorem dL_acts_268 : decode cL_acts 268 = .ok (.iload 7, 2) := by decide +kernel
theorem dL_acts_270 : decode cL_acts 270 = .ok (.invokevirtual 108, 3) := by decide +kernel
theorem dL_acts_273 : decode cL_acts 273 = .ok (.ireturn, 1) := by decide +kernel
theorem dL_acts_274 : decode cL_acts 274 = .ok (.aload_n 0, 1) := by decide +kernel
theorem dL_acts_275 : decode cL_acts 275 = .ok (.iload 7, 2) := by decide +kernel
theorem dL_acts_277 : decode cL_acts 277 = .ok (.invokevirtual 111, 3) := by decide +kernel
theorem dL_acts_280 : decode cL_acts 280 = .ok (.ireturn, 1) := by decide +kernel
theorem dL_acts_281 : decode cL_acts 281 = .ok (.aload_n 0, 1) := by decide +kernel
theorem dL_acts_282 : decode cL_acts 282 = .ok (.iload 7, 2) := by decide +kernel
theorem dL_acts_284 : decode cL_acts 284 = .ok (.invokevirtual 114, 3) := by decide +kernel
theorem dL_acts_287 : decode cL_acts 287 = .ok (.ireturn, 1) := by decide +kernel
theorem dL_acts_288 : decode cL_acts 288 = .ok (.aload_n 0, 1) := by decide +kernel
theorem dL_acts_289 : decode cL_acts 289 = .ok (.invokevirtual 117, 3) := by decide +kernel
theorem dL_acts_292 : decode cL_acts 292 = .ok (.ireturn, 1) := by decide +kernel
theorem dL_acts_293 : decode cL_acts 293 = .ok (.aload_n 0, 1) := by decide +kernel
theorem dL_acts_294 : decode cL_acts 294 = .ok (.iload 4, 2) := by decide +kernel
theorem dL_acts_296 : decode cL_acts 296 = .ok (.iload 5, 2) := by decide +kernel
theorem dL_acts_298 : decode cL_acts 298 = .ok (.invokestatic 33, 3) := by decide +kernel
theorem dL_acts_301 : decode cL_acts 301 = .ok (.invokevirtual 120, 3) := by decide +kernel
theorem dL_acts_304 : decode cL_acts 304 = .ok (.ireturn, 1) := by decide +kernel
theorem dL_acts_305 : decode cL_acts 305 = .ok (.aload_n 0, 1) := by decide +kernel
theorem dL_acts_306 : decode cL_acts 306 = .ok (.iconst 1, 1) := by decide +kernel
theorem dL_acts_307 : decode cL_acts 307 = .ok (.iload 5, 2) := by decide +kernel
theorem dL_acts_309 : decode cL_acts 309 = .ok (.iload_n 2, 1) := by decide +kernel
theorem dL_acts_310 : decode cL_acts 310 = .ok (.bipush 32, 2) := by decide +kernel
theorem dL_acts_312 : decode cL_acts 312 = .ok (.irem, 1) := by decide +kernel
theorem dL_acts_313 : decode cL_acts 313 = .ok (.bipush 30, 2) := by decide +kernel
theorem dL_acts_315 : decode cL_acts 315 = .ok (.if_icmp .ge 7, 3) := by decide +kernel
theorem dL_acts_318 : decode cL_acts 318 = .ok (.iconst 4, 1) := by decide +kernel
theorem dL_acts_319 : decode cL_acts 319 = .ok (.goto 5, 3) := by decide +kernel
theorem dL_acts_322 : decode cL_acts 322 = .ok (.bipush 40, 2) := by decide +kernel
theorem dL_acts_324 : decode cL_acts 324 = .ok (.irem, 1) := by decide +kernel
theorem dL_acts_325 : decode cL_acts 325 = .ok (.iadd, 1) := by decide +kernel
theorem dL_acts_326 : decode cL_acts 326 = .ok (.invokevirtual 123, 3) := by decide +kernel
theorem dL_acts_329 : decode cL_acts 329 = .ok (.ireturn, 1) := by decide +kernel
theorem dL_acts_330 : decode cL_acts 330 = .ok (.astore 8, 2) := by decide +kernel
theorem dL_acts_332 : decode cL_acts 332 = .ok (.bipush (-9), 2) := by decide +kernel
theorem dL_acts_334 : decode cL_acts 334 = .ok (.ireturn, 1) := by decide +kernel
theorem dL_law_0 : decode cL_law 0 = .ok (.new 19, 3) := by decide +kernel
theorem dL_law_3 : decode cL_law 3 = .ok (.dup, 1) := by decide +kernel
theorem dL_law_4 : decode cL_law 4 = .ok (.invokespecial 128, 3) := by decide +kernel
theorem dL_law_7 : decode cL_law 7 = .ok (.astore_n 1, 1) := by decide +kernel
theorem dL_law_8 : decode cL_law 8 = .ok (.aload_n 1, 1) := by decide +kernel
theorem dL_law_9 : decode cL_law 9 = .ok (.aload_n 0, 1) := by decide +kernel
theorem dL_law_10 : decode cL_law 10 = .ok (.invokestatic 129, 3) := by decide +kernel
theorem dL_law_13 : decode cL_law 13 = .ok (.invokestatic 133, 3) := by decide +kernel
theorem dL_law_16 : decode cL_law 16 = .ok (.aload_n 1, 1) := by decide +kernel
theorem dL_law_17 : decode cL_law 17 = .ok (.invokestatic 137, 3) := by decide +kernel
theorem dL_law_20 : decode cL_law 20 = .ok (.ifCond .ne 26, 3) := by decide +kernel
theorem dL_law_23 : decode cL_law 23 = .ok (.aload_n 1, 1) := by decide +kernel
theorem dL_law_24 : decode cL_law 24 = .ok (.invokevirtual 141, 3) := by decide +kernel
theorem dL_law_27 : decode cL_law 27 = .ok (.ifCond .ne 19, 3) := by decide +kernel
theorem dL_law_30 : decode cL_law 30 = .ok (.aload_n 1, 1) := by decide +kernel
theorem dL_law_31 : decode cL_law 31 = .ok (.invokevirtual 144, 3) := by decide +kernel
theorem dL_law_34 : decode cL_law 34 = .ok (.iconst 3, 1) := by decide +kernel
theorem dL_law_35 : decode cL_law 35 = .ok (.if_icmp .ne 11, 3) := by decide +kernel
theorem dL_law_38 : decode cL_law 38 = .ok (.aload_n 1, 1) := by decide +kernel
theorem dL_law_39 : decode cL_law 39 = .ok (.invokevirtual 147, 3) := by decide +kernel
theorem dL_law_42 : decode cL_law 42 = .ok (.iconst 2, 1) := by decide +kernel
theorem dL_law_43 : decode cL_law 43 = .ok (.if_icmp .eq 5, 3) := by decide +kernel
theorem dL_law_46 : decode cL_law 46 = .ok (.iconst 0, 1) := by decide +kernel
theorem dL_law_47 : decode cL_law 47 = .ok (.ireturn, 1) := by decide +kernel
theorem dL_law_48 : decode cL_law 48 = .ok (.new 150, 3) := by decide +kernel
theorem dL_law_51 : decode cL_law 51 = .ok (.dup, 1) := by decide +kernel
theorem dL_law_52 : decode cL_law 52 = .ok (.aload_n 0, 1) := by decide +kernel
theorem dL_law_53 : decode cL_law 53 = .ok (.invokespecial 152, 3) := by decide +kernel
theorem dL_law_56 : decode cL_law 56 = .ok (.astore_n 2, 1) := by decide +kernel
theorem dL_law_57 : decode cL_law 57 = .ok (.bipush 10, 2) := by decide +kernel
theorem dL_law_59 : decode cL_law 59 = .ok (.istore_n 3, 1) := by decide +kernel
theorem dL_law_60 : decode cL_law 60 = .ok (.iload_n 3, 1) := by decide +kernel
theorem dL_law_61 : decode cL_law 61 = .ok (.bipush 46, 2) := by decide +kernel
theorem dL_law_63 : decode cL_law 63 = .ok (.if_icmp .ge 68, 3) := by decide +kernel
theorem dL_law_66 : decode cL_law 66 = .ok (.aload_n 0, 1) := by decide +kernel
theorem dL_law_67 : decode cL_law 67 = .ok (.iload_n 3, 1) := by decide +kernel
theorem dL_law_68 : decode cL_law 68 = .ok (.invokestatic 60, 3) := by decide +kernel
theorem dL_law_71 : decode cL_law 71 = .ok (.istore 4, 2) := by decide +kernel
theorem dL_law_73 : decode cL_law 73 = .ok (.aload_n 2, 1) := by decide +kernel
theorem dL_law_74 : decode cL_law 74 = .ok (.aload_n 0, 1) := by decide +kernel
theorem dL_law_75 : decode cL_law 75 = .ok (.iload 4, 2) := by decide +kernel
theorem dL_law_77 : decode cL_law 77 = .ok (.invokevirtual 155, 3) := by decide +kernel
theorem dL_law_80 : decode cL_law 80 = .ok (.istore 5, 2) := by decide +kernel
theorem dL_law_82 : decode cL_law 82 = .ok (.aload_n 1, 1) := by decide +kernel
theorem dL_law_83 : decode cL_law 83 = .ok (.aload_n 0, 1) := by decide +kernel
theorem dL_law_84 : decode cL_law 84 = .ok (.iload 4, 2) := by decide +kernel
theorem dL_law_86 : decode cL_law 86 = .ok (.invokestatic 158, 3) := by decide +kernel
theorem dL_law_89 : decode cL_law 89 = .ok (.iload 5, 2) := by decide +kernel
theorem dL_law_91 : decode cL_law 91 = .ok (.if_icmp .ne 32, 3) := by decide +kernel
theorem dL_law_94 : decode cL_law 94 = .ok (.aload_n 2, 1) := by decide +kernel
theorem dL_law_95 : decode cL_law 95 = .ok (.aload_n 1, 1) := by decide +kernel
theorem dL_law_96 : decode cL_law 96 = .ok (.invokevirtual 161, 3) := by decide +kernel
theorem dL_law_99 : decode cL_law 99 = .ok (.ifCond .eq 24, 3) := by decide +kernel
theorem dL_law_102 : decode cL_law 102 = .ok (.aload_n 1, 1) := by decide +kernel
theorem dL_law_103 : decode cL_law 103 = .ok (.invokevirtual 165, 3) := by decide +kernel
theorem dL_law_106 : decode cL_law 106 = .ok (.ifCond .ne 17, 3) := by decide +kernel
theorem dL_law_109 : decode cL_law 109 = .ok (.aload_n 1, 1) := by decide +kernel
theorem dL_law_110 : decode cL_law 110 = .ok (.invokevirtual 168, 3) := by decide +kernel
theorem dL_law_113 : decode cL_law 113 = .ok (.ifCond .ne 10, 3) := by decide +kernel
theorem dL_law_116 : decode cL_law 116 = .ok (.aload_n 1, 1) := by decide +kernel
theorem dL_law_117 : decode cL_law 117 = .ok (.invokevirtual 171, 3) := by decide +kernel
theorem dL_law_120 : decode cL_law 120 = .ok (.ifCond .eq 5, 3) := by decide +kernel
theorem dL_law_123 : decode cL_law 123 = .ok (.iconst 0, 1) := by decide +kernel
theorem dL_law_124 : decode cL_law 124 = .ok (.ireturn, 1) := by decide +kernel
theorem dL_law_125 : decode cL_law 125 = .ok (.iinc 3 1, 3) := by decide +kernel
theorem dL_law_128 : decode cL_law 128 = .ok (.goto (-68), 3) := by decide +kernel
theorem dL_law_131 : decode cL_law 131 = .ok (.iconst 1, 1) := by decide +kernel
theorem dL_law_132 : decode cL_law 132 = .ok (.ireturn, 1) := by decide +kernel
end
section
/-! A world said by a list, and the rows over it: vX is what is fixed in a method's body, vW is the walk from a place, for every heap that holds the list. -/
def nestW : List Cond := [Cond.fieldLinkNest RX11 105 "TicketGate$Parser" "error" "I" "TicketGate", Cond.fieldLinkNest RX11 112 "TicketGate$State" "time" "I" "TicketGate", Cond.fieldLinkNest RX11 115 "TicketGate$State" "seed" "I" "TicketGate", Cond.fieldLinkNest RX11 118 "TicketGate$State" "realms" "LTicketGate$Realms;" "TicketGate", Cond.fieldLinkNest RX11 125 "TicketGate$State" "users" "LTicketGate$Users;" "TicketGate", Cond.fieldLinkNest RX11 132 "TicketGate$State" "services" "LTicketGate$Services;" "TicketGate", Cond.fieldLinkNest RX11 225 "TicketGate$State" "uses" "LTicketGate$Uses;" "TicketGate", Cond.fieldLinkNest RX11 232 "TicketGate$State" "cheesesOfText" "I" "TicketGate", Cond.fieldLinkNest RX11 65 "TicketGate$Parser" "draft" "LTicketGate$State;" "TicketGate", Cond.fieldLinkNest RX11 98 "TicketGate$State" "tickets" "LTicketGate$Tickets;" "TicketGate", Cond.fieldLinkNest RX1 127 "TicketGate$State" "realms" "LTicketGate$Realms;" "TicketGate", Cond.fieldLinkNest RX1 164 "TicketGate$State" "users" "LTicketGate$Users;" "TicketGate", Cond.fieldLinkNest RX1 174 "TicketGate$State" "services" "LTicketGate$Services;" "TicketGate", Cond.fieldLinkNest RX1 185 "TicketGate$State" "cheesesOfText" "I" "TicketGate", Cond.fieldLinkNest RX1 225 "TicketGate$State" "tickets" "LTicketGate$Tickets;" "TicketGate", Cond.fieldLinkNest RX1 235 "TicketGate$State" "time" "I" "TicketGate", Cond.methodLinkNest RX11 32 yX5_init "TicketGate", Cond.methodLinkNest RX1 11 yX5_init "TicketGate", Cond.methodLinkNest RX4 21 yX5_init "TicketGate", Cond.methodLinkNest RX12 42 yL_cell "TicketGateLaw", Cond.methodLinkNest RX12 55 yL_offset "TicketGateLaw", Cond.methodLinkNest RX12 97 yL_isTrusted "TicketGateLaw", Cond.castable "java/lang/IllegalStateException" "java/lang/IllegalStateException", Cond.castable "java/lang/IllegalArgumentException" "java/lang/IllegalArgumentException", Cond.declares ⟨"java/lang/RuntimeException", "<init>", "(Ljava/lang/String;)V"⟩, Cond.declares ⟨"java/lang/Exception", "<init>", "(Ljava/lang/String;)V"⟩, Cond.declares ⟨"java/lang/Throwable", "<init>", "(Ljava/lang/String;)V"⟩]
theorem nest_RX11_105 : Cond.fieldLinkNest RX11 105 "TicketGate$Parser" "error" "I" "TicketGate" ∈ nestW := List.mem_of_getElem? (i := 0) rfl
theorem nest_RX11_112 : Cond.fieldLinkNest RX11 112 "TicketGate$State" "time" "I" "TicketGate" ∈ nestW := List.mem_of_getElem? (i := 1) rfl
theorem nest_RX11_115 : Cond.fieldLinkNest RX11 115 "TicketGate$State" "seed" "I" "TicketGate" ∈ nestW := List.mem_of_getElem? (i := 2) rfl
theorem nest_RX11_118 : Cond.fieldLinkNest RX11 118 "TicketGate$State" "realms" "LTicketGate$Realms;" "TicketGate" ∈ nestW := List.mem_of_getElem? (i := 3) rfl
theorem nest_RX11_125 : Cond.fieldLinkNest RX11 125 "TicketGate$State" "users" "LTicketGate$Users;" "TicketGate" ∈ nestW := List.mem_of_getElem? (i := 4) rfl
theorem nest_RX11_132 : Cond.fieldLinkNest RX11 132 "TicketGate$State" "services" "LTicketGate$Services;" "TicketGate" ∈ nestW := List.mem_of_getElem? (i := 5) rfl
theorem nest_RX11_225 : Cond.fieldLinkNest RX11 225 "TicketGate$State" "uses" "LTicketGate$Uses;" "TicketGate" ∈ nestW := List.mem_of_getElem? (i := 6) rfl
theorem nest_RX11_232 : Cond.fieldLinkNest RX11 232 "TicketGate$State" "cheesesOfText" "I" "TicketGate" ∈ nestW := List.mem_of_getElem? (i := 7) rfl
theorem nest_RX11_65 : Cond.fieldLinkNest RX11 65 "TicketGate$Parser" "draft" "LTicketGate$State;" "TicketGate" ∈ nestW := List.mem_of_getElem? (i := 8) rfl
theorem nest_RX11_98 : Cond.fieldLinkNest RX11 98 "TicketGate$State" "tickets" "LTicketGate$Tickets;" "TicketGate" ∈ nestW := List.mem_of_getElem? (i := 9) rfl
theorem nest_RX1_127 : Cond.fieldLinkNest RX1 127 "TicketGate$State" "realms" "LTicketGate$Realms;" "TicketGate" ∈ nestW := List.mem_of_getElem? (i := 10) rfl
theorem nest_RX1_164 : Cond.fieldLinkNest RX1 164 "TicketGate$State" "users" "LTicketGate$Users;" "TicketGate" ∈ nestW := List.mem_of_getElem? (i := 11) rfl
theorem nest_RX1_174 : Cond.fieldLinkNest RX1 174 "TicketGate$State" "services" "LTicketGate$Services;" "TicketGate" ∈ nestW := List.mem_of_getElem? (i := 12) rfl
theorem nest_RX1_185 : Cond.fieldLinkNest RX1 185 "TicketGate$State" "cheesesOfText" "I" "TicketGate" ∈ nestW := List.mem_of_getElem? (i := 13) rfl
theorem nest_RX1_225 : Cond.fieldLinkNest RX1 225 "TicketGate$State" "tickets" "LTicketGate$Tickets;" "TicketGate" ∈ nestW := List.mem_of_getElem? (i := 14) rfl
theorem nest_RX1_235 : Cond.fieldLinkNest RX1 235 "TicketGate$State" "time" "I" "TicketGate" ∈ nestW := List.mem_of_getElem? (i := 15) rfl
theorem nest_RX11_32 : Cond.methodLinkNest RX11 32 yX5_init "TicketGate" ∈ nestW := List.mem_of_getElem? (i := 16) rfl
theorem nest_RX1_11 : Cond.methodLinkNest RX1 11 yX5_init "TicketGate" ∈ nestW := List.mem_of_getElem? (i := 17) rfl
theorem nest_RX4_21 : Cond.methodLinkNest RX4 21 yX5_init "TicketGate" ∈ nestW := List.mem_of_getElem? (i := 18) rfl
theorem nest_RX12_42 : Cond.methodLinkNest RX12 42 yL_cell "TicketGateLaw" ∈ nestW := List.mem_of_getElem? (i := 19) rfl
theorem nest_RX12_55 : Cond.methodLinkNest RX12 55 yL_offset "TicketGateLaw" ∈ nestW := List.mem_of_getElem? (i := 20) rfl
theorem nest_RX12_97 : Cond.methodLinkNest RX12 97 yL_isTrusted "TicketGateLaw" ∈ nestW := List.mem_of_getElem? (i := 21) rfl
theorem nest_ok : ∀ w ∈ nestW, w.onTables = true := by decide
/-- what a surrounding (texts, statics) keeps: fewer cells of one's own, a heap with the others as they were, tables grown warmer -/
def vG (G : (Nat → Prop) → State → Heap → Prop) : Prop := (∀ (A B : Nat → Prop) (U : State) (H : Heap), G A U H → (∀ q, B q → A q) → G B U H) ∧ (∀ (A : Nat → Prop) (U : State) (H H1 : Heap), G A U H → (∀ a : Nat, a < H.size → ¬ A a → H1[a]? = H[a]?) → G A U H1) ∧ (∀ (A : Nat → Prop) (s U : State) (H : Heap), s.WarmedH U.vm → G A s H → G A U H) ∧ ∀ (A : Nat → Prop) (U : State) (H : Heap), G A U H → ∀ w ∈ nestW, va_Nw w U
def vX (p : Program) (s : State) (m : MethodId) (args : Array Value) (meth : Method) (c : Code) (cc : ByteArray) (nL : Nat) (ret : Option FieldType) (own : String) (Ts : List Cond) (D : va_G) (tys : List (ClassId × FieldType)) (G : (Nat → Prop) → State → Heap → Prop) (A : Nat → Prop) : Prop :=
  p.tables.exec = Jvm.exec ∧ c.code = cc ∧ meth.sig.returnType = ret ∧ c.maxLocals = nL ∧ s.vm.findClass own = some m.cls ∧ (∀ w ∈ Ts, w.before args s = true) ∧ meth.locks = false ∧ va_K D vwCl tys s ∧ (∀ q : Nat, s.heap.size ≤ q → A q) ∧ vG G ∧ G A s s.heap
def vW (p : Program) (l : Launch) (e : Env) (R : Room) (s : State) (m : MethodId) (args : Array Value) (below : List Frame) (meth : Method) (c : Code) (nL : Nat) (D : va_G) (A : Nat → Prop) (F : va_W) (cells slots : Nat) (Q : State → Prop) (ws : va_W) (pc : Nat) (lv : List (Nat × Value)) (st : List Value) : Prop :=
  ∀ (H : Heap) (locs : List Loc) (ls : Array Slot), va_P D vwCl (ws ++ F) H → va_D A (ws ++ F) → va_S A s.heap H locs → lv_has ls nL lv → W p l e R s m args below meth c H locs cells slots Q (F0 m pc ls st)
/-- a read, a write, a quotient, a rest: none where the machine itself would throw -/
def rd (f : Nat → Int32) (n : Nat) (i : Int32) : Option Int32 := if i < 0 ∨ n ≤ i.toNatClampNeg then none else some (f i.toNatClampNeg)
def wr (f : Nat → Int32) (n : Nat) (i v : Int32) : Option (Nat → Int32) := if i < 0 ∨ n ≤ i.toNatClampNeg then none else some (upd f i.toNatClampNeg v)
def dv (x y : Int32) : Option Int32 := if y = 0 then none else some (x / y)
def irm (x y : Int32) : Int32 := x - x / y * y
def rm (x y : Int32) : Option Int32 := if y = 0 then none else some (irm x y)
theorem rd_in {f : Nat → Int32} {n : Nat} {i x : Int32} (h : rd f n i = some x) : vp_in i n ∧ x = f i.toNatClampNeg := by
  unfold rd at h
  split at h
  · cases h
  · rename_i h1
    cases h
    exact ⟨h1, rfl⟩
theorem wr_in {f g : Nat → Int32} {n : Nat} {i v : Int32} (h : wr f n i v = some g) : vp_in i n ∧ g = upd f i.toNatClampNeg v := by
  unfold wr at h
  split at h
  · cases h
  · rename_i h1
    cases h
    exact ⟨h1, rfl⟩
theorem dv_in {x y z : Int32} (h : dv x y = some z) : ¬ y = 0 ∧ z = x / y := by
  unfold dv at h
  split at h
  · cases h
  · rename_i h1
    cases h
    exact ⟨h1, rfl⟩
theorem rm_in {x y z : Int32} (h : rm x y = some z) : ¬ y = 0 ∧ z = irm x y := by
  unfold rm at h
  split at h
  · cases h
  · rename_i h1
    cases h
    exact ⟨h1, rfl⟩
theorem bnd {α β : Type} {o : Option α} {k : α → Option β} {r : β} (h : o.bind k = some r) : ∃ x, o = some x ∧ k x = some r := Option.bind_eq_some_iff.mp h
theorem app_at {ws F : va_W} {k : Nat} {q : Nat × va_E} (h : ws[k]? = some q) : (ws ++ F)[k]? = some q := by
  rw [List.getElem?_append_left (List.getElem?_eq_some_iff.mp h).1]
  exact h
theorem app_set {ws F ws' : va_W} {k : Nat} {q q2 : Nat × va_E} (h : ws[k]? = some q) (h2 : ws.set k q2 = ws') : (ws ++ F).set k q2 = ws' ++ F := by
  rw [List.set_append_left _ _ (List.getElem?_eq_some_iff.mp h).1, h2]
section VL
variable {p : Program} {l : Launch} {e : Env} {R : Room} {s : State} {m : MethodId} {args : Array Value} {below : List Frame} {meth : Method} {c : Code} {cc : ByteArray} {nL : Nat} {ret : Option FieldType} {own : String} {Ts : List Cond} {D : va_G} {tys : List (ClassId × FieldType)} {G : (Nat → Prop) → State → Heap → Prop} {A : Nat → Prop} {F : va_W} {cells slots : Nat} {Q : State → Prop} {ws : va_W} {pc : Nat} {lv : List (Nat × Value)} {st : List Value}
theorem v_iload_n (X : vX p s m args meth c cc nL ret own Ts D tys G A)  {k : Fin 4} {i : Nat} {x : Int32} (d : decode cc pc = .ok (.iload_n k, 1))  (kk : Nat) (hk : lv[kk]? = some (i, .int x)) (hi : (k : Nat) = i) (q : Nat) (hq : pc + 1 = q) (K : vW p l e R s m args below meth c nL D A F cells slots Q ws q lv (.int x :: st)) : vW p l e R s m args below meth c nL D A F cells slots Q ws pc lv st := by
  subst hq
  exact fun H locs ls hP hD hS hl => lv_iload_n X.1 X.2.1 d hi (lv_at hl kk hk) (K H locs ls hP hD hS hl)
theorem v_iload (X : vX p s m args meth c cc nL ret own Ts D tys G A)  {i : Nat} {x : Int32} (d : decode cc pc = .ok (.iload i, 2))  (kk : Nat) (hk : lv[kk]? = some (i, .int x)) (q : Nat) (hq : pc + 2 = q) (K : vW p l e R s m args below meth c nL D A F cells slots Q ws q lv (.int x :: st)) : vW p l e R s m args below meth c nL D A F cells slots Q ws pc lv st := by
  subst hq
  exact fun H locs ls hP hD hS hl => lv_iload X.1 X.2.1 d (lv_at hl kk hk) (K H locs ls hP hD hS hl)
theorem v_aload_n (X : vX p s m args meth c cc nL ret own Ts D tys G A)  {k : Fin 4} {i : Nat} {x : Nat} (d : decode cc pc = .ok (.aload_n k, 1))  (kk : Nat) (hk : lv[kk]? = some (i, .ref x)) (hi : (k : Nat) = i) (q : Nat) (hq : pc + 1 = q) (K : vW p l e R s m args below meth c nL D A F cells slots Q ws q lv (.ref x :: st)) : vW p l e R s m args below meth c nL D A F cells slots Q ws pc lv st := by
  subst hq
  exact fun H locs ls hP hD hS hl => lv_aload_n X.1 X.2.1 d hi (lv_at hl kk hk) (K H locs ls hP hD hS hl)
theorem v_aload (X : vX p s m args meth c cc nL ret own Ts D tys G A)  {i : Nat} {x : Nat} (d : decode cc pc = .ok (.aload i, 2))  (kk : Nat) (hk : lv[kk]? = some (i, .ref x)) (q : Nat) (hq : pc + 2 = q) (K : vW p l e R s m args below meth c nL D A F cells slots Q ws q lv (.ref x :: st)) : vW p l e R s m args below meth c nL D A F cells slots Q ws pc lv st := by
  subst hq
  exact fun H locs ls hP hD hS hl => lv_aload X.1 X.2.1 d (lv_at hl kk hk) (K H locs ls hP hD hS hl)
theorem v_iconst (X : vX p s m args meth c cc nL ret own Ts D tys G A)  {n : Int} {v : Int32} (d : decode cc pc = .ok (.iconst n, 1))  (hv : Int32.ofInt n = v) (q : Nat) (hq : pc + 1 = q) (K : vW p l e R s m args below meth c nL D A F cells slots Q ws q lv (.int v :: st)) : vW p l e R s m args below meth c nL D A F cells slots Q ws pc lv st := by
  subst hq
  exact fun H locs ls hP hD hS hl => lv_iconst X.1 X.2.1 d hv (K H locs ls hP hD hS hl)
theorem v_bipush (X : vX p s m args meth c cc nL ret own Ts D tys G A)  {n : Int} {v : Int32} (d : decode cc pc = .ok (.bipush n, 2))  (hv : (Int8.ofInt n).toInt32 = v) (q : Nat) (hq : pc + 2 = q) (K : vW p l e R s m args below meth c nL D A F cells slots Q ws q lv (.int v :: st)) : vW p l e R s m args below meth c nL D A F cells slots Q ws pc lv st := by
  subst hq
  exact fun H locs ls hP hD hS hl => lv_bipush X.1 X.2.1 d hv (K H locs ls hP hD hS hl)
theorem v_sipush (X : vX p s m args meth c cc nL ret own Ts D tys G A)  {n : Int} {v : Int32} (d : decode cc pc = .ok (.sipush n, 3))  (hv : (Int16.ofInt n).toInt32 = v) (q : Nat) (hq : pc + 3 = q) (K : vW p l e R s m args below meth c nL D A F cells slots Q ws q lv (.int v :: st)) : vW p l e R s m args below meth c nL D A F cells slots Q ws pc lv st := by
  subst hq
  exact fun H locs ls hP hD hS hl => lv_sipush X.1 X.2.1 d hv (K H locs ls hP hD hS hl)
theorem v_ldc (X : vX p s m args meth c cc nL ret own Ts D tys G A)  {index : Nat} {v : Int32} (d : decode cc pc = .ok (.ldc index, 2))  (hc : (Jvm.Cond.constant own index v).before args s = true) (q : Nat) (hq : pc + 2 = q) (K : vW p l e R s m args below meth c nL D A F cells slots Q ws q lv (.int v :: st)) : vW p l e R s m args below meth c nL D A F cells slots Q ws pc lv st := by
  subst hq
  exact fun H locs ls hP hD hS hl => lv_ldc X.1 X.2.1 X.2.2.2.2.1 hc d (K H locs ls hP hD hS hl)
theorem v_iadd (X : vX p s m args meth c cc nL ret own Ts D tys G A)  {x y : Int32} (d : decode cc pc = .ok (.iadd, 1))  (q : Nat) (hq : pc + 1 = q) (K : vW p l e R s m args below meth c nL D A F cells slots Q ws q lv (.int (x + y) :: st)) : vW p l e R s m args below meth c nL D A F cells slots Q ws pc lv (.int y :: .int x :: st) := by
  subst hq
  exact fun H locs ls hP hD hS hl => lv_iadd X.1 X.2.1 d (K H locs ls hP hD hS hl)
theorem v_isub (X : vX p s m args meth c cc nL ret own Ts D tys G A)  {x y : Int32} (d : decode cc pc = .ok (.isub, 1))  (q : Nat) (hq : pc + 1 = q) (K : vW p l e R s m args below meth c nL D A F cells slots Q ws q lv (.int (x - y) :: st)) : vW p l e R s m args below meth c nL D A F cells slots Q ws pc lv (.int y :: .int x :: st) := by
  subst hq
  exact fun H locs ls hP hD hS hl => lv_isub X.1 X.2.1 d (K H locs ls hP hD hS hl)
theorem v_imul (X : vX p s m args meth c cc nL ret own Ts D tys G A)  {x y : Int32} (d : decode cc pc = .ok (.imul, 1))  (q : Nat) (hq : pc + 1 = q) (K : vW p l e R s m args below meth c nL D A F cells slots Q ws q lv (.int (x * y) :: st)) : vW p l e R s m args below meth c nL D A F cells slots Q ws pc lv (.int y :: .int x :: st) := by
  subst hq
  exact fun H locs ls hP hD hS hl => lv_imul X.1 X.2.1 d (K H locs ls hP hD hS hl)
theorem v_iand (X : vX p s m args meth c cc nL ret own Ts D tys G A)  {x y : Int32} (d : decode cc pc = .ok (.iand, 1))  (q : Nat) (hq : pc + 1 = q) (K : vW p l e R s m args below meth c nL D A F cells slots Q ws q lv (.int (x &&& y) :: st)) : vW p l e R s m args below meth c nL D A F cells slots Q ws pc lv (.int y :: .int x :: st) := by
  subst hq
  exact fun H locs ls hP hD hS hl => lv_iand X.1 X.2.1 d (K H locs ls hP hD hS hl)
theorem v_ior (X : vX p s m args meth c cc nL ret own Ts D tys G A)  {x y : Int32} (d : decode cc pc = .ok (.ior, 1))  (q : Nat) (hq : pc + 1 = q) (K : vW p l e R s m args below meth c nL D A F cells slots Q ws q lv (.int (x ||| y) :: st)) : vW p l e R s m args below meth c nL D A F cells slots Q ws pc lv (.int y :: .int x :: st) := by
  subst hq
  exact fun H locs ls hP hD hS hl => lv_ior X.1 X.2.1 d (K H locs ls hP hD hS hl)
theorem v_ishl (X : vX p s m args meth c cc nL ret own Ts D tys G A)  {x y : Int32} (d : decode cc pc = .ok (.ishl, 1))  (q : Nat) (hq : pc + 1 = q) (K : vW p l e R s m args below meth c nL D A F cells slots Q ws q lv (.int (x <<< (y &&& 31)) :: st)) : vW p l e R s m args below meth c nL D A F cells slots Q ws pc lv (.int y :: .int x :: st) := by
  subst hq
  exact fun H locs ls hP hD hS hl => lv_ishl X.1 X.2.1 d (K H locs ls hP hD hS hl)
theorem v_ishr (X : vX p s m args meth c cc nL ret own Ts D tys G A)  {x y : Int32} (d : decode cc pc = .ok (.ishr, 1))  (q : Nat) (hq : pc + 1 = q) (K : vW p l e R s m args below meth c nL D A F cells slots Q ws q lv (.int (x >>> (y &&& 31)) :: st)) : vW p l e R s m args below meth c nL D A F cells slots Q ws pc lv (.int y :: .int x :: st) := by
  subst hq
  exact fun H locs ls hP hD hS hl => lv_ishr X.1 X.2.1 d (K H locs ls hP hD hS hl)
theorem v_iushr (X : vX p s m args meth c cc nL ret own Ts D tys G A)  {x y v : Int32} (d : decode cc pc = .ok (.iushr, 1))  (hv : (x.toUInt32 >>> (y.toUInt32 &&& Int32.toUInt32 31)).toInt32 = v) (q : Nat) (hq : pc + 1 = q) (K : vW p l e R s m args below meth c nL D A F cells slots Q ws q lv (.int v :: st)) : vW p l e R s m args below meth c nL D A F cells slots Q ws pc lv (.int y :: .int x :: st) := by
  subst hq
  exact fun H locs ls hP hD hS hl => lv_iushr X.1 X.2.1 d hv (K H locs ls hP hD hS hl)
theorem v_ineg (X : vX p s m args meth c cc nL ret own Ts D tys G A)  {x : Int32} (d : decode cc pc = .ok (.ineg, 1))  (q : Nat) (hq : pc + 1 = q) (K : vW p l e R s m args below meth c nL D A F cells slots Q ws q lv (.int (-x) :: st)) : vW p l e R s m args below meth c nL D A F cells slots Q ws pc lv (.int x :: st) := by
  subst hq
  exact fun H locs ls hP hD hS hl => lv_ineg X.1 X.2.1 d (K H locs ls hP hD hS hl)
theorem v_i2b (X : vX p s m args meth c cc nL ret own Ts D tys G A)  {x : Int32} (d : decode cc pc = .ok (.i2b, 1))  (q : Nat) (hq : pc + 1 = q) (K : vW p l e R s m args below meth c nL D A F cells slots Q ws q lv (.int x.toInt8.toInt32 :: st)) : vW p l e R s m args below meth c nL D A F cells slots Q ws pc lv (.int x :: st) := by
  subst hq
  exact fun H locs ls hP hD hS hl => lv_i2b X.1 X.2.1 d rfl (K H locs ls hP hD hS hl)
theorem v_idiv (X : vX p s m args meth c cc nL ret own Ts D tys G A)  {x y : Int32} (d : decode cc pc = .ok (.idiv, 1))  (hn : ¬ y = 0) (q : Nat) (hq : pc + 1 = q) (K : vW p l e R s m args below meth c nL D A F cells slots Q ws q lv (.int (x / y) :: st)) : vW p l e R s m args below meth c nL D A F cells slots Q ws pc lv (.int y :: .int x :: st) := by
  subst hq
  exact fun H locs ls hP hD hS hl => lv_idiv X.1 X.2.1 d hn (K H locs ls hP hD hS hl)
theorem v_irem (X : vX p s m args meth c cc nL ret own Ts D tys G A)  {x y : Int32} (d : decode cc pc = .ok (.irem, 1))  (hn : ¬ y = 0) (q : Nat) (hq : pc + 1 = q) (K : vW p l e R s m args below meth c nL D A F cells slots Q ws q lv (.int (irm x y) :: st)) : vW p l e R s m args below meth c nL D A F cells slots Q ws pc lv (.int y :: .int x :: st) := by
  subst hq
  exact fun H locs ls hP hD hS hl => lv_irem X.1 X.2.1 d hn (K H locs ls hP hD hS hl)
theorem v_idivq (X : vX p s m args meth c cc nL ret own Ts D tys G A) {x y z : Int32} (d : decode cc pc = .ok (.idiv, 1)) (h : dv x y = some z) (q : Nat) (hq : pc + 1 = q) (K : vW p l e R s m args below meth c nL D A F cells slots Q ws q lv (.int z :: st)) : vW p l e R s m args below meth c nL D A F cells slots Q ws pc lv (.int y :: .int x :: st) := by
  obtain ⟨h1, rfl⟩ := dv_in h
  exact v_idiv X d h1 q hq K
theorem v_iremq (X : vX p s m args meth c cc nL ret own Ts D tys G A) {x y z : Int32} (d : decode cc pc = .ok (.irem, 1)) (h : rm x y = some z) (q : Nat) (hq : pc + 1 = q) (K : vW p l e R s m args below meth c nL D A F cells slots Q ws q lv (.int z :: st)) : vW p l e R s m args below meth c nL D A F cells slots Q ws pc lv (.int y :: .int x :: st) := by
  obtain ⟨h1, rfl⟩ := rm_in h
  exact v_irem X d h1 q hq K
theorem v_dup (X : vX p s m args meth c cc nL ret own Ts D tys G A)  {va : Value} (d : decode cc pc = .ok (.dup, 1))  (hva : va.category = 1) (q : Nat) (hq : pc + 1 = q) (K : vW p l e R s m args below meth c nL D A F cells slots Q ws q lv (va :: va :: st)) : vW p l e R s m args below meth c nL D A F cells slots Q ws pc lv (va :: st) := by
  subst hq
  exact fun H locs ls hP hD hS hl => lv_dup X.1 X.2.1 d hva (K H locs ls hP hD hS hl)
theorem v_dup2 (X : vX p s m args meth c cc nL ret own Ts D tys G A)  {va vb : Value} (d : decode cc pc = .ok (.dup2, 1))  (hva : va.category = 1) (hvb : vb.category = 1) (q : Nat) (hq : pc + 1 = q) (K : vW p l e R s m args below meth c nL D A F cells slots Q ws q lv (va :: vb :: va :: vb :: st)) : vW p l e R s m args below meth c nL D A F cells slots Q ws pc lv (va :: vb :: st) := by
  subst hq
  exact fun H locs ls hP hD hS hl => lv_dup2_11 X.1 X.2.1 d hva hvb (K H locs ls hP hD hS hl)
theorem v_pop (X : vX p s m args meth c cc nL ret own Ts D tys G A)  {va : Value} (d : decode cc pc = .ok (.pop, 1))  (hva : va.category = 1) (q : Nat) (hq : pc + 1 = q) (K : vW p l e R s m args below meth c nL D A F cells slots Q ws q lv st) : vW p l e R s m args below meth c nL D A F cells slots Q ws pc lv (va :: st) := by
  subst hq
  exact fun H locs ls hP hD hS hl => lv_pop X.1 X.2.1 d hva (K H locs ls hP hD hS hl)
theorem v_istore_n (X : vX p s m args meth c cc nL ret own Ts D tys G A)  {k : Fin 4} {i : Nat} {x : Int32} {lv' : List (Nat × Value)} (d : decode cc pc = .ok (.istore_n k, 1))  (hi : (k : Nat) = i) (hn : i < nL) (hl' : (i, Value.int x) :: lv.filter (fun q => !(q.1 == i) && !(q.1 + 1 == i && q.2.category == 2)) = lv') (q : Nat) (hq : pc + 1 = q) (K : vW p l e R s m args below meth c nL D A F cells slots Q ws q lv' st) : vW p l e R s m args below meth c nL D A F cells slots Q ws pc lv (.int x :: st) := by
  subst hq
  exact fun H locs ls hP hD hS hl => lv_istore_n X.1 X.2.1 d hi hl hn hl' (fun ls hl => K H locs ls hP hD hS hl)
theorem v_istore (X : vX p s m args meth c cc nL ret own Ts D tys G A)  {i : Nat} {x : Int32} {lv' : List (Nat × Value)} (d : decode cc pc = .ok (.istore i, 2))  (hn : i < nL) (hl' : (i, Value.int x) :: lv.filter (fun q => !(q.1 == i) && !(q.1 + 1 == i && q.2.category == 2)) = lv') (q : Nat) (hq : pc + 2 = q) (K : vW p l e R s m args below meth c nL D A F cells slots Q ws q lv' st) : vW p l e R s m args below meth c nL D A F cells slots Q ws pc lv (.int x :: st) := by
  subst hq
  exact fun H locs ls hP hD hS hl => lv_istore X.1 X.2.1 d hl hn hl' (fun ls hl => K H locs ls hP hD hS hl)
theorem v_astore_n (X : vX p s m args meth c cc nL ret own Ts D tys G A)  {k : Fin 4} {i : Nat} {x : Nat} {lv' : List (Nat × Value)} (d : decode cc pc = .ok (.astore_n k, 1))  (hi : (k : Nat) = i) (hn : i < nL) (hl' : (i, Value.ref x) :: lv.filter (fun q => !(q.1 == i) && !(q.1 + 1 == i && q.2.category == 2)) = lv') (q : Nat) (hq : pc + 1 = q) (K : vW p l e R s m args below meth c nL D A F cells slots Q ws q lv' st) : vW p l e R s m args below meth c nL D A F cells slots Q ws pc lv (.ref x :: st) := by
  subst hq
  exact fun H locs ls hP hD hS hl => lv_astore_n X.1 X.2.1 d hi hl hn hl' (fun ls hl => K H locs ls hP hD hS hl)
theorem v_astore (X : vX p s m args meth c cc nL ret own Ts D tys G A)  {i : Nat} {x : Nat} {lv' : List (Nat × Value)} (d : decode cc pc = .ok (.astore i, 2))  (hn : i < nL) (hl' : (i, Value.ref x) :: lv.filter (fun q => !(q.1 == i) && !(q.1 + 1 == i && q.2.category == 2)) = lv') (q : Nat) (hq : pc + 2 = q) (K : vW p l e R s m args below meth c nL D A F cells slots Q ws q lv' st) : vW p l e R s m args below meth c nL D A F cells slots Q ws pc lv (.ref x :: st) := by
  subst hq
  exact fun H locs ls hP hD hS hl => lv_astore X.1 X.2.1 d hl hn hl' (fun ls hl => K H locs ls hP hD hS hl)
theorem v_iinc (X : vX p s m args meth c cc nL ret own Ts D tys G A)  {i : Nat} {n : Int} {x v : Int32} {lv' : List (Nat × Value)} (d : decode cc pc = .ok (.iinc i n, 3))  (k : Nat) (hk : lv[k]? = some (i, .int x)) (hv : Int32.ofInt n = v) (hn : i < nL) (hl' : (i, Value.int (x + v)) :: lv.filter (fun q => !(q.1 == i) && !(q.1 + 1 == i && q.2.category == 2)) = lv') (q : Nat) (hq : pc + 3 = q) (K : vW p l e R s m args below meth c nL D A F cells slots Q ws q lv' st) : vW p l e R s m args below meth c nL D A F cells slots Q ws pc lv st := by
  subst hq
  exact fun H locs ls hP hD hS hl => lv_iinc X.1 X.2.1 d hl hk (by rw [hv]) hn hl' (fun ls hl => K H locs ls hP hD hS hl)
theorem v_sub {lv' : List (Nat × Value)} (ks : List Nat) (h : lv_pick lv ks = lv') (K : vW p l e R s m args below meth c nL D A F cells slots Q ws pc lv' st) : vW p l e R s m args below meth c nL D A F cells slots Q ws pc lv st := fun H locs ls hP hD hS hl => K H locs ls hP hD hS (lv_sub hl ks h)
theorem v_eq {ws2 : va_W} {pc2 : Nat} {lv2 : List (Nat × Value)} {st2 : List Value} (h1 : ws = ws2) (h2 : pc = pc2) (h3 : lv = lv2) (h4 : st = st2) (K : vW p l e R s m args below meth c nL D A F cells slots Q ws2 pc2 lv2 st2) : vW p l e R s m args below meth c nL D A F cells slots Q ws pc lv st := by
  subst h1; subst h2; subst h3; subst h4; exact K
theorem v_goto (X : vX p s m args meth c cc nL ret own Ts D tys G A) {off : Int} {tgt : Nat} (d : decode cc pc = .ok (.goto off, 3)) (ht : (pc : Int) + off = (tgt : Int)) (K : vW p l e R s m args below meth c nL D A F cells slots Q ws tgt lv st) : vW p l e R s m args below meth c nL D A F cells slots Q ws pc lv st := fun H locs ls hP hD hS hl => lv_goto X.1 X.2.1 d ht (K H locs ls hP hD hS hl)
theorem v_icmp_ge (X : vX p s m args meth c cc nL ret own Ts D tys G A) {x y : Int32} {β : Type} {a b : Option β} {o : β} {off : Int} {tgt : Nat} (d : decode cc pc = .ok (.if_icmp .ge off, 3)) (ht : (pc : Int) + off = (tgt : Int)) (q : Nat) (hq : pc + 3 = q) (hf : (if y ≤ x then a else b) = some o) (Kt : a = some o → vW p l e R s m args below meth c nL D A F cells slots Q ws tgt lv st) (Kf : b = some o → vW p l e R s m args below meth c nL D A F cells slots Q ws q lv st) : vW p l e R s m args below meth c nL D A F cells slots Q ws pc lv (.int y :: .int x :: st) := by
  subst hq
  exact fun H locs ls hP hD hS hl => lv_icmp_ge X.1 X.2.1 d ht (fun h => Kt (by rw [if_pos h] at hf; exact hf) H locs ls hP hD hS hl) (fun h => Kf (by rw [if_neg h] at hf; exact hf) H locs ls hP hD hS hl)
theorem v_if_ge (X : vX p s m args meth c cc nL ret own Ts D tys G A) {x : Int32} {β : Type} {a b : Option β} {o : β} {off : Int} {tgt : Nat} (d : decode cc pc = .ok (.ifCond .ge off, 3)) (ht : (pc : Int) + off = (tgt : Int)) (q : Nat) (hq : pc + 3 = q) (hf : (if 0 ≤ x then a else b) = some o) (Kt : a = some o → vW p l e R s m args below meth c nL D A F cells slots Q ws tgt lv st) (Kf : b = some o → vW p l e R s m args below meth c nL D A F cells slots Q ws q lv st) : vW p l e R s m args below meth c nL D A F cells slots Q ws pc lv (.int x :: st) := by
  subst hq
  exact fun H locs ls hP hD hS hl => lv_if_ge X.1 X.2.1 d ht (fun h => Kt (by rw [if_pos h] at hf; exact hf) H locs ls hP hD hS hl) (fun h => Kf (by rw [if_neg h] at hf; exact hf) H locs ls hP hD hS hl)
theorem v_icmp_gt (X : vX p s m args meth c cc nL ret own Ts D tys G A) {x y : Int32} {β : Type} {a b : Option β} {o : β} {off : Int} {tgt : Nat} (d : decode cc pc = .ok (.if_icmp .gt off, 3)) (ht : (pc : Int) + off = (tgt : Int)) (q : Nat) (hq : pc + 3 = q) (hf : (if y < x then a else b) = some o) (Kt : a = some o → vW p l e R s m args below meth c nL D A F cells slots Q ws tgt lv st) (Kf : b = some o → vW p l e R s m args below meth c nL D A F cells slots Q ws q lv st) : vW p l e R s m args below meth c nL D A F cells slots Q ws pc lv (.int y :: .int x :: st) := by
  subst hq
  exact fun H locs ls hP hD hS hl => lv_icmp_gt X.1 X.2.1 d ht (fun h => Kt (by rw [if_pos h] at hf; exact hf) H locs ls hP hD hS hl) (fun h => Kf (by rw [if_neg h] at hf; exact hf) H locs ls hP hD hS hl)
theorem v_if_gt (X : vX p s m args meth c cc nL ret own Ts D tys G A) {x : Int32} {β : Type} {a b : Option β} {o : β} {off : Int} {tgt : Nat} (d : decode cc pc = .ok (.ifCond .gt off, 3)) (ht : (pc : Int) + off = (tgt : Int)) (q : Nat) (hq : pc + 3 = q) (hf : (if 0 < x then a else b) = some o) (Kt : a = some o → vW p l e R s m args below meth c nL D A F cells slots Q ws tgt lv st) (Kf : b = some o → vW p l e R s m args below meth c nL D A F cells slots Q ws q lv st) : vW p l e R s m args below meth c nL D A F cells slots Q ws pc lv (.int x :: st) := by
  subst hq
  exact fun H locs ls hP hD hS hl => lv_if_gt X.1 X.2.1 d ht (fun h => Kt (by rw [if_pos h] at hf; exact hf) H locs ls hP hD hS hl) (fun h => Kf (by rw [if_neg h] at hf; exact hf) H locs ls hP hD hS hl)
theorem v_icmp_le (X : vX p s m args meth c cc nL ret own Ts D tys G A) {x y : Int32} {β : Type} {a b : Option β} {o : β} {off : Int} {tgt : Nat} (d : decode cc pc = .ok (.if_icmp .le off, 3)) (ht : (pc : Int) + off = (tgt : Int)) (q : Nat) (hq : pc + 3 = q) (hf : (if x ≤ y then a else b) = some o) (Kt : a = some o → vW p l e R s m args below meth c nL D A F cells slots Q ws tgt lv st) (Kf : b = some o → vW p l e R s m args below meth c nL D A F cells slots Q ws q lv st) : vW p l e R s m args below meth c nL D A F cells slots Q ws pc lv (.int y :: .int x :: st) := by
  subst hq
  exact fun H locs ls hP hD hS hl => lv_icmp_le X.1 X.2.1 d ht (fun h => Kt (by rw [if_pos h] at hf; exact hf) H locs ls hP hD hS hl) (fun h => Kf (by rw [if_neg h] at hf; exact hf) H locs ls hP hD hS hl)
theorem v_if_le (X : vX p s m args meth c cc nL ret own Ts D tys G A) {x : Int32} {β : Type} {a b : Option β} {o : β} {off : Int} {tgt : Nat} (d : decode cc pc = .ok (.ifCond .le off, 3)) (ht : (pc : Int) + off = (tgt : Int)) (q : Nat) (hq : pc + 3 = q) (hf : (if x ≤ 0 then a else b) = some o) (Kt : a = some o → vW p l e R s m args below meth c nL D A F cells slots Q ws tgt lv st) (Kf : b = some o → vW p l e R s m args below meth c nL D A F cells slots Q ws q lv st) : vW p l e R s m args below meth c nL D A F cells slots Q ws pc lv (.int x :: st) := by
  subst hq
  exact fun H locs ls hP hD hS hl => lv_if_le X.1 X.2.1 d ht (fun h => Kt (by rw [if_pos h] at hf; exact hf) H locs ls hP hD hS hl) (fun h => Kf (by rw [if_neg h] at hf; exact hf) H locs ls hP hD hS hl)
theorem v_icmp_lt (X : vX p s m args meth c cc nL ret own Ts D tys G A) {x y : Int32} {β : Type} {a b : Option β} {o : β} {off : Int} {tgt : Nat} (d : decode cc pc = .ok (.if_icmp .lt off, 3)) (ht : (pc : Int) + off = (tgt : Int)) (q : Nat) (hq : pc + 3 = q) (hf : (if x < y then a else b) = some o) (Kt : a = some o → vW p l e R s m args below meth c nL D A F cells slots Q ws tgt lv st) (Kf : b = some o → vW p l e R s m args below meth c nL D A F cells slots Q ws q lv st) : vW p l e R s m args below meth c nL D A F cells slots Q ws pc lv (.int y :: .int x :: st) := by
  subst hq
  exact fun H locs ls hP hD hS hl => lv_icmp_lt X.1 X.2.1 d ht (fun h => Kt (by rw [if_pos h] at hf; exact hf) H locs ls hP hD hS hl) (fun h => Kf (by rw [if_neg h] at hf; exact hf) H locs ls hP hD hS hl)
theorem v_if_lt (X : vX p s m args meth c cc nL ret own Ts D tys G A) {x : Int32} {β : Type} {a b : Option β} {o : β} {off : Int} {tgt : Nat} (d : decode cc pc = .ok (.ifCond .lt off, 3)) (ht : (pc : Int) + off = (tgt : Int)) (q : Nat) (hq : pc + 3 = q) (hf : (if x < 0 then a else b) = some o) (Kt : a = some o → vW p l e R s m args below meth c nL D A F cells slots Q ws tgt lv st) (Kf : b = some o → vW p l e R s m args below meth c nL D A F cells slots Q ws q lv st) : vW p l e R s m args below meth c nL D A F cells slots Q ws pc lv (.int x :: st) := by
  subst hq
  exact fun H locs ls hP hD hS hl => lv_if_lt X.1 X.2.1 d ht (fun h => Kt (by rw [if_pos h] at hf; exact hf) H locs ls hP hD hS hl) (fun h => Kf (by rw [if_neg h] at hf; exact hf) H locs ls hP hD hS hl)
theorem v_icmp_eq (X : vX p s m args meth c cc nL ret own Ts D tys G A) {x y : Int32} {β : Type} {a b : Option β} {o : β} {off : Int} {tgt : Nat} (d : decode cc pc = .ok (.if_icmp .eq off, 3)) (ht : (pc : Int) + off = (tgt : Int)) (q : Nat) (hq : pc + 3 = q) (hf : (if x = y then a else b) = some o) (Kt : a = some o → vW p l e R s m args below meth c nL D A F cells slots Q ws tgt lv st) (Kf : b = some o → vW p l e R s m args below meth c nL D A F cells slots Q ws q lv st) : vW p l e R s m args below meth c nL D A F cells slots Q ws pc lv (.int y :: .int x :: st) := by
  subst hq
  exact fun H locs ls hP hD hS hl => lv_icmp_eq X.1 X.2.1 d ht (fun h => Kt (by rw [if_pos h] at hf; exact hf) H locs ls hP hD hS hl) (fun h => Kf (by rw [if_neg h] at hf; exact hf) H locs ls hP hD hS hl)
theorem v_if_eq (X : vX p s m args meth c cc nL ret own Ts D tys G A) {x : Int32} {β : Type} {a b : Option β} {o : β} {off : Int} {tgt : Nat} (d : decode cc pc = .ok (.ifCond .eq off, 3)) (ht : (pc : Int) + off = (tgt : Int)) (q : Nat) (hq : pc + 3 = q) (hf : (if x = 0 then a else b) = some o) (Kt : a = some o → vW p l e R s m args below meth c nL D A F cells slots Q ws tgt lv st) (Kf : b = some o → vW p l e R s m args below meth c nL D A F cells slots Q ws q lv st) : vW p l e R s m args below meth c nL D A F cells slots Q ws pc lv (.int x :: st) := by
  subst hq
  exact fun H locs ls hP hD hS hl => lv_if_eq X.1 X.2.1 d ht (fun h => Kt (by rw [if_pos h] at hf; exact hf) H locs ls hP hD hS hl) (fun h => Kf (by rw [if_neg h] at hf; exact hf) H locs ls hP hD hS hl)
theorem v_icmp_ne (X : vX p s m args meth c cc nL ret own Ts D tys G A) {x y : Int32} {β : Type} {a b : Option β} {o : β} {off : Int} {tgt : Nat} (d : decode cc pc = .ok (.if_icmp .ne off, 3)) (ht : (pc : Int) + off = (tgt : Int)) (q : Nat) (hq : pc + 3 = q) (hf : (if x = y then b else a) = some o) (Kt : a = some o → vW p l e R s m args below meth c nL D A F cells slots Q ws tgt lv st) (Kf : b = some o → vW p l e R s m args below meth c nL D A F cells slots Q ws q lv st) : vW p l e R s m args below meth c nL D A F cells slots Q ws pc lv (.int y :: .int x :: st) := by
  subst hq
  exact fun H locs ls hP hD hS hl => lv_icmp_ne X.1 X.2.1 d ht (fun h => Kt (by rw [if_neg h] at hf; exact hf) H locs ls hP hD hS hl) (fun h => Kf (by rw [if_pos h] at hf; exact hf) H locs ls hP hD hS hl)
theorem v_if_ne (X : vX p s m args meth c cc nL ret own Ts D tys G A) {x : Int32} {β : Type} {a b : Option β} {o : β} {off : Int} {tgt : Nat} (d : decode cc pc = .ok (.ifCond .ne off, 3)) (ht : (pc : Int) + off = (tgt : Int)) (q : Nat) (hq : pc + 3 = q) (hf : (if x = 0 then b else a) = some o) (Kt : a = some o → vW p l e R s m args below meth c nL D A F cells slots Q ws tgt lv st) (Kf : b = some o → vW p l e R s m args below meth c nL D A F cells slots Q ws q lv st) : vW p l e R s m args below meth c nL D A F cells slots Q ws pc lv (.int x :: st) := by
  subst hq
  exact fun H locs ls hP hD hS hl => lv_if_ne X.1 X.2.1 d ht (fun h => Kt (by rw [if_neg h] at hf; exact hf) H locs ls hP hD hS hl) (fun h => Kf (by rw [if_pos h] at hf; exact hf) H locs ls hP hD hS hl)
theorem vN_use (X : vX p s m args meth c cc nL ret own Ts D tys G A) {w : Cond} (h : w ∈ nestW) : w.before args s = true := va_Nw.use (nest_ok w h) (X.2.2.2.2.2.2.2.2.2.1.2.2.2 A s s.heap X.2.2.2.2.2.2.2.2.2.2 w h)
theorem v_get (X : vX p s m args meth c cc nL ret own Ts D tys G A)  {a : Nat} {ref C : String} {T : u_T} {N ci index : Nat} {fs : List Value} {v : Value} (d : decode cc pc = .ok (.getfield index, 3))  (hin : ∀ w ∈ u_ws C T N, w ∈ Ts) (q0 : Nat) (he : ws[q0]? = some (a, .inr (ci, fs))) (hc : vwCl[ci]? = some (C, T, N)) (k : Nat) (hk : k < N) (hlk : Cond.fieldLink own index ref (T k).2.1 (T k).2.2.1 ∈ Ts) (hsame : (T k).1 = ref) (hv : fs[k]? = some v) (q : Nat) (hq : pc + 3 = q) (K : vW p l e R s m args below meth c nL D A F cells slots Q ws q lv (v :: st)) : vW p l e R s m args below meth c nL D A F cells slots Q ws pc lv (.ref a :: st) := by
  subst hq
  exact fun H locs ls hP hD hS hl => va_get X.1 X.2.1 X.2.2.2.2.2.1 hin X.2.2.2.2.1 X.2.2.2.2.2.2.2.1 hP q0 (app_at he) hc k hk (X.2.2.2.2.2.1 _ hlk) (fun x h => by rw [← hsame]; exact h) hv d (K H locs ls hP hD hS hl)
theorem v_getN (X : vX p s m args meth c cc nL ret own Ts D tys G A)  {a : Nat} {ref C : String} {T : u_T} {N ci index : Nat} {fs : List Value} {host : String} {v : Value} (d : decode cc pc = .ok (.getfield index, 3))  (hin : ∀ w ∈ u_ws C T N, w ∈ Ts) (q0 : Nat) (he : ws[q0]? = some (a, .inr (ci, fs))) (hc : vwCl[ci]? = some (C, T, N)) (k : Nat) (hk : k < N) (hlk : Cond.fieldLinkNest own index ref (T k).2.1 (T k).2.2.1 host ∈ nestW) (hsame : (T k).1 = ref) (hv : fs[k]? = some v) (q : Nat) (hq : pc + 3 = q) (K : vW p l e R s m args below meth c nL D A F cells slots Q ws q lv (v :: st)) : vW p l e R s m args below meth c nL D A F cells slots Q ws pc lv (.ref a :: st) := by
  subst hq
  exact fun H locs ls hP hD hS hl => va_getN X.1 X.2.1 X.2.2.2.2.2.1 hin X.2.2.2.2.1 X.2.2.2.2.2.2.2.1 hP q0 (app_at he) hc k hk (vN_use X hlk) (fun x h => by rw [← hsame]; exact h) hv d (K H locs ls hP hD hS hl)
theorem v_put (X : vX p s m args meth c cc nL ret own Ts D tys G A)  {a : Nat} {ref C : String} {T : u_T} {N ci index : Nat} {fs : List Value} {ty : FieldType} {v : Value} {ws' : va_W} (d : decode cc pc = .ok (.putfield index, 3))  (hin : ∀ w ∈ u_ws C T N, w ∈ Ts) (q0 : Nat) (he : ws[q0]? = some (a, .inr (ci, fs))) (hc : vwCl[ci]? = some (C, T, N)) (k : Nat) (hk : k < N) (ty0 : Nat → FieldType) (hty : ∀ k, k < N → parseFieldDescriptor (T k).2.2.1 = some (ty0 k)) (hnm : ∀ a, a < N → ∀ b, b < N → a ≠ b → (T a).2.1 ≠ (T b).2.1) (hlk : Cond.fieldLink own index ref (T k).2.1 (T k).2.2.1 ∈ Ts) (hsame : (T k).1 = ref) (hfin : (T k).2.2.2 = false) (hd : parseFieldDescriptor (T k).2.2.1 = some ty) (hn : narrow ty v = v) (hfit : fits ty v = true) (hl9 : k < fs.length) (hw : ws.set q0 (a, .inr (ci, fs.set k v)) = ws') (q : Nat) (hq : pc + 3 = q) (K : vW p l e R s m args below meth c nL D A F cells slots Q ws' q lv st) : vW p l e R s m args below meth c nL D A F cells slots Q ws pc lv (v :: .ref a :: st) := by
  subst hq
  exact fun H locs ls hP hD hS hl => va_put X.1 X.2.1 X.2.2.2.2.2.1 hin ty0 hty hnm X.2.2.2.2.1 X.2.2.2.2.2.2.2.1 hP hD hS q0 (app_at he) hc k hk (X.2.2.2.2.2.1 _ hlk) (fun x h => by rw [← hsame]; exact h) hfin hd hn hfit hl9 d (fun H1 l1 hP hD hS => K H1 l1 ls (by rw [app_set he hw] at hP; exact hP) (by rw [app_set he hw] at hD; exact hD) hS hl)
theorem v_putN (X : vX p s m args meth c cc nL ret own Ts D tys G A)  {a : Nat} {ref C : String} {T : u_T} {N ci index : Nat} {fs : List Value} {host : String} {ty : FieldType} {v : Value} {ws' : va_W} (d : decode cc pc = .ok (.putfield index, 3))  (hin : ∀ w ∈ u_ws C T N, w ∈ Ts) (q0 : Nat) (he : ws[q0]? = some (a, .inr (ci, fs))) (hc : vwCl[ci]? = some (C, T, N)) (k : Nat) (hk : k < N) (ty0 : Nat → FieldType) (hty : ∀ k, k < N → parseFieldDescriptor (T k).2.2.1 = some (ty0 k)) (hnm : ∀ a, a < N → ∀ b, b < N → a ≠ b → (T a).2.1 ≠ (T b).2.1) (hlk : Cond.fieldLinkNest own index ref (T k).2.1 (T k).2.2.1 host ∈ nestW) (hsame : (T k).1 = ref) (hfin : (T k).2.2.2 = false) (hd : parseFieldDescriptor (T k).2.2.1 = some ty) (hn : narrow ty v = v) (hfit : fits ty v = true) (hl9 : k < fs.length) (hw : ws.set q0 (a, .inr (ci, fs.set k v)) = ws') (q : Nat) (hq : pc + 3 = q) (K : vW p l e R s m args below meth c nL D A F cells slots Q ws' q lv st) : vW p l e R s m args below meth c nL D A F cells slots Q ws pc lv (v :: .ref a :: st) := by
  subst hq
  exact fun H locs ls hP hD hS hl => va_putN X.1 X.2.1 X.2.2.2.2.2.1 hin ty0 hty hnm X.2.2.2.2.1 X.2.2.2.2.2.2.2.1 hP hD hS q0 (app_at he) hc k hk (vN_use X hlk) (fun x h => by rw [← hsame]; exact h) hfin hd hn hfit hl9 d (fun H1 l1 hP hD hS => K H1 l1 ls (by rw [app_set he hw] at hP; exact hP) (by rw [app_set he hw] at hD; exact hD) hS hl)
theorem v_putF (X : vX p s m args meth c cc nL ret own Ts D tys G A)  {a : Nat} {ref C : String} {T : u_T} {N ci index : Nat} {fs : List Value} {ty : FieldType} {v : Value} {ws' : va_W} (d : decode cc pc = .ok (.putfield index, 3))  (hin : ∀ w ∈ u_ws C T N, w ∈ Ts) (q0 : Nat) (he : ws[q0]? = some (a, .inr (ci, fs))) (hc : vwCl[ci]? = some (C, T, N)) (k : Nat) (hk : k < N) (ty0 : Nat → FieldType) (hty : ∀ k, k < N → parseFieldDescriptor (T k).2.2.1 = some (ty0 k)) (hnm : ∀ a, a < N → ∀ b, b < N → a ≠ b → (T a).2.1 ≠ (T b).2.1) (hlk : Cond.fieldLink own index ref (T k).2.1 (T k).2.2.1 ∈ Ts) (hsame : (T k).1 = ref) (hfin : (T k).2.2.2 = true) (hin2 : meth.name = "<init>") (hdecl : (T k).1 = own) (hd : parseFieldDescriptor (T k).2.2.1 = some ty) (hn : narrow ty v = v) (hfit : fits ty v = true) (hl9 : k < fs.length) (hw : ws.set q0 (a, .inr (ci, fs.set k v)) = ws') (q : Nat) (hq : pc + 3 = q) (K : vW p l e R s m args below meth c nL D A F cells slots Q ws' q lv st) : vW p l e R s m args below meth c nL D A F cells slots Q ws pc lv (v :: .ref a :: st) := by
  subst hq
  exact fun H locs ls hP hD hS hl => va_putF X.1 X.2.1 X.2.2.2.2.2.1 hin ty0 hty hnm X.2.2.2.2.1 X.2.2.2.2.2.2.2.1 hP hD hS q0 (app_at he) hc k hk (X.2.2.2.2.2.1 _ hlk) (fun x h => by rw [← hsame]; exact h) hfin hin2 hdecl hd hn hfit hl9 d (fun H1 l1 hP hD hS => K H1 l1 ls (by rw [app_set he hw] at hP; exact hP) (by rw [app_set he hw] at hD; exact hD) hS hl)
theorem v_iald (X : vX p s m args meth c cc nL ret own Ts D tys G A)  {a : Nat} {cA : ClassId} {n : Nat} {f : Nat → Int32} {i x : Int32} (d : decode cc pc = .ok (.iaload, 1))  (q0 t0 : Nat) (ha : ws[q0]? = some (a, .inl (cA, n, .inl f))) (ht : tys[t0]? = some (cA, .int)) (h : rd f n i = some x) (q : Nat) (hq : pc + 1 = q) (K : vW p l e R s m args below meth c nL D A F cells slots Q ws q lv (.int x :: st)) : vW p l e R s m args below meth c nL D A F cells slots Q ws pc lv (.int i :: .ref a :: st) := by
  subst hq
  exact fun H locs ls hP hD hS hl => by
    obtain ⟨h1, rfl⟩ := rd_in h
    exact va_iald X.1 X.2.1 X.2.2.2.2.2.2.2.1 hP q0 t0 (app_at ha) ht h1 d (K H locs ls hP hD hS hl)
theorem v_bald (X : vX p s m args meth c cc nL ret own Ts D tys G A)  {a : Nat} {cA : ClassId} {n : Nat} {f : Nat → Int32} {i x : Int32} (d : decode cc pc = .ok (.baload, 1))  (q0 t0 : Nat) (ha : ws[q0]? = some (a, .inl (cA, n, .inl f))) (ht : tys[t0]? = some (cA, .byte)) (h : rd f n i = some x) (q : Nat) (hq : pc + 1 = q) (K : vW p l e R s m args below meth c nL D A F cells slots Q ws q lv (.int x :: st)) : vW p l e R s m args below meth c nL D A F cells slots Q ws pc lv (.int i :: .ref a :: st) := by
  subst hq
  exact fun H locs ls hP hD hS hl => by
    obtain ⟨h1, rfl⟩ := rd_in h
    exact va_bald X.1 X.2.1 X.2.2.2.2.2.2.2.1 hP q0 t0 (app_at ha) ht h1 d (K H locs ls hP hD hS hl)
theorem v_zald (X : vX p s m args meth c cc nL ret own Ts D tys G A)  {a : Nat} {cA : ClassId} {n : Nat} {f : Nat → Int32} {i x : Int32} (d : decode cc pc = .ok (.baload, 1))  (q0 t0 : Nat) (ha : ws[q0]? = some (a, .inl (cA, n, .inl f))) (ht : tys[t0]? = some (cA, .boolean)) (h : rd f n i = some x) (q : Nat) (hq : pc + 1 = q) (K : vW p l e R s m args below meth c nL D A F cells slots Q ws q lv (.int x :: st)) : vW p l e R s m args below meth c nL D A F cells slots Q ws pc lv (.int i :: .ref a :: st) := by
  subst hq
  exact fun H locs ls hP hD hS hl => by
    obtain ⟨h1, rfl⟩ := rd_in h
    exact va_zald X.1 X.2.1 X.2.2.2.2.2.2.2.1 hP q0 t0 (app_at ha) ht h1 d (K H locs ls hP hD hS hl)
theorem v_iast (X : vX p s m args meth c cc nL ret own Ts D tys G A)  {a : Nat} {cA : ClassId} {n : Nat} {f g : Nat → Int32} {i x : Int32} {ws' : va_W} (d : decode cc pc = .ok (.iastore, 1))  (q0 t0 : Nat) (ha : ws[q0]? = some (a, .inl (cA, n, .inl f))) (ht : tys[t0]? = some (cA, .int)) (h : wr f n i x = some g) (hw : ws.set q0 (a, .inl (cA, n, .inl g)) = ws') (q : Nat) (hq : pc + 1 = q) (K : vW p l e R s m args below meth c nL D A F cells slots Q ws' q lv st) : vW p l e R s m args below meth c nL D A F cells slots Q ws pc lv (.int x :: .int i :: .ref a :: st) := by
  subst hq
  exact fun H locs ls hP hD hS hl => by
    obtain ⟨h1, rfl⟩ := wr_in h
    skip
    exact va_iast X.1 X.2.1 X.2.2.2.2.2.2.2.1 hP hD hS q0 t0 (app_at ha) ht h1 d (fun H1 l1 hP hD hS => K H1 l1 ls (by rw [app_set ha hw] at hP; exact hP) (by rw [app_set ha hw] at hD; exact hD) hS hl)
theorem v_bast (X : vX p s m args meth c cc nL ret own Ts D tys G A)  {a : Nat} {cA : ClassId} {n : Nat} {f g : Nat → Int32} {i x : Int32} {ws' : va_W} (d : decode cc pc = .ok (.bastore, 1))  (q0 t0 : Nat) (ha : ws[q0]? = some (a, .inl (cA, n, .inl f))) (ht : tys[t0]? = some (cA, .byte)) (h : wr f n i x.toInt8.toInt32 = some g) (hw : ws.set q0 (a, .inl (cA, n, .inl g)) = ws') (q : Nat) (hq : pc + 1 = q) (K : vW p l e R s m args below meth c nL D A F cells slots Q ws' q lv st) : vW p l e R s m args below meth c nL D A F cells slots Q ws pc lv (.int x :: .int i :: .ref a :: st) := by
  subst hq
  exact fun H locs ls hP hD hS hl => by
    obtain ⟨h1, rfl⟩ := wr_in h
    rw [← vp_nar_byte] at hw
    exact va_bast X.1 X.2.1 X.2.2.2.2.2.2.2.1 hP hD hS q0 t0 (app_at ha) ht h1 d (fun H1 l1 hP hD hS => K H1 l1 ls (by rw [app_set ha hw] at hP; exact hP) (by rw [app_set ha hw] at hD; exact hD) hS hl)
theorem v_zast (X : vX p s m args meth c cc nL ret own Ts D tys G A)  {a : Nat} {cA : ClassId} {n : Nat} {f g : Nat → Int32} {i x : Int32} {ws' : va_W} (d : decode cc pc = .ok (.bastore, 1))  (q0 t0 : Nat) (ha : ws[q0]? = some (a, .inl (cA, n, .inl f))) (ht : tys[t0]? = some (cA, .boolean)) (h : wr f n i (vp_nar .boolean x) = some g) (hw : ws.set q0 (a, .inl (cA, n, .inl g)) = ws') (q : Nat) (hq : pc + 1 = q) (K : vW p l e R s m args below meth c nL D A F cells slots Q ws' q lv st) : vW p l e R s m args below meth c nL D A F cells slots Q ws pc lv (.int x :: .int i :: .ref a :: st) := by
  subst hq
  exact fun H locs ls hP hD hS hl => by
    obtain ⟨h1, rfl⟩ := wr_in h
    skip
    exact va_zast X.1 X.2.1 X.2.2.2.2.2.2.2.1 hP hD hS q0 t0 (app_at ha) ht h1 d (fun H1 l1 hP hD hS => K H1 l1 ls (by rw [app_set ha hw] at hP; exact hP) (by rw [app_set ha hw] at hD; exact hD) hS hl)
theorem v_alen (X : vX p s m args meth c cc nL ret own Ts D tys G A)  {a : Nat} {cA : ClassId} {x : vp_A} {ty : FieldType} {v : Int32} (d : decode cc pc = .ok (.arraylength, 1))  (q0 t0 : Nat) (ha : ws[q0]? = some (a, .inl (cA, x))) (ht : tys[t0]? = some (cA, ty)) (hv : Int32.ofNat x.1 = v) (q : Nat) (hq : pc + 1 = q) (K : vW p l e R s m args below meth c nL D A F cells slots Q ws q lv (.int v :: st)) : vW p l e R s m args below meth c nL D A F cells slots Q ws pc lv (.ref a :: st) := by
  subst hq
  exact fun H locs ls hP hD hS hl => va_alen X.1 X.2.1 X.2.2.2.2.2.2.2.1 hP q0 t0 (app_at ha) ht hv d (K H locs ls hP hD hS hl)
end VL
end
section
/-! rows of the library's own: Math, arraycopy -/
def imin (x y : Int32) : Int32 := if y < x then y else x
def imax (x y : Int32) : Int32 := if x < y then y else x
def iabs (x : Int32) : Int32 := if 0 ≤ x then x else 0 - x
def acp (f : Nat → Int32) (n0 : Nat) (sp : Int32) (g : Nat → Int32) (n1 : Nat) (dp k : Int32) : Option (Nat → Int32) := if sp < 0 ∨ dp < 0 ∨ k < 0 ∨ n0 < sp.toNatClampNeg + k.toNatClampNeg ∨ n1 < dp.toNatClampNeg + k.toNatClampNeg then none else some (va_cpy f g sp.toNatClampNeg dp.toNatClampNeg k.toNatClampNeg)
section VL2
variable {p : Program} {l : Launch} {e : Env} {R : Room} {s : State} {m : MethodId} {args : Array Value} {below : List Frame} {meth : Method} {c : Code} {cc : ByteArray} {nL : Nat} {ret : Option FieldType} {own : String} {Ts : List Cond} {D : va_G} {tys : List (ClassId × FieldType)} {G : (Nat → Prop) → State → Heap → Prop} {A : Nat → Prop} {F : va_W} {cells slots : Nat} {Q : State → Prop} {ws : va_W} {pc : Nat} {lv : List (Nat × Value)} {st : List Value}
theorem v_mmin (X : vX p s m args meth c cc nL ret own Ts D tys G A) {index : Nat} {x y : Int32} (d : decode cc pc = .ok (.invokestatic index, 3)) (h1 : Cond.methodLink own index Lib.Math.min.name ∈ Ts) (h2 : Cond.static Lib.Math.min.name ∈ Ts) (h3 : Cond.initialized "java/lang/Math" ∈ Ts) (h4 : Cond.code Lib.Math.min.name Lib.Math.min.code 2 (some .int) ∈ Ts) (hfr : 1 ≤ R.frames) (hlo : (st.map fun v => v.category).sum + 13 ≤ R.locals) (hc : cells ≤ R.cells) (hs : slots ≤ R.slots) (q : Nat) (hq : pc + 3 = q) (K : vW p l e R s m args below meth c nL D A F cells slots Q ws q lv (.int (imin x y) :: st)) : vW p l e R s m args below meth c nL D A F cells slots Q ws pc lv (.int y :: .int x :: st) := by
  subst hq
  exact fun H locs ls hP hD hS hl => va_mmin X.1 X.2.1 (X.2.2.2.1.trans hl.1.symm) X.2.2.2.2.1 (X.2.2.2.2.2.1 _ h1) (X.2.2.2.2.2.1 _ h2) (X.2.2.2.2.2.1 _ h3) (X.2.2.2.2.2.1 _ h4) hfr hlo hc hs d (K H locs ls hP hD hS hl)
theorem v_mmax (X : vX p s m args meth c cc nL ret own Ts D tys G A) {index : Nat} {x y : Int32} (d : decode cc pc = .ok (.invokestatic index, 3)) (h1 : Cond.methodLink own index Lib.Math.max.name ∈ Ts) (h2 : Cond.static Lib.Math.max.name ∈ Ts) (h3 : Cond.initialized "java/lang/Math" ∈ Ts) (h4 : Cond.code Lib.Math.max.name Lib.Math.max.code 2 (some .int) ∈ Ts) (hfr : 1 ≤ R.frames) (hlo : (st.map fun v => v.category).sum + 13 ≤ R.locals) (hc : cells ≤ R.cells) (hs : slots ≤ R.slots) (q : Nat) (hq : pc + 3 = q) (K : vW p l e R s m args below meth c nL D A F cells slots Q ws q lv (.int (imax x y) :: st)) : vW p l e R s m args below meth c nL D A F cells slots Q ws pc lv (.int y :: .int x :: st) := by
  subst hq
  exact fun H locs ls hP hD hS hl => va_mmax X.1 X.2.1 (X.2.2.2.1.trans hl.1.symm) X.2.2.2.2.1 (X.2.2.2.2.2.1 _ h1) (X.2.2.2.2.2.1 _ h2) (X.2.2.2.2.2.1 _ h3) (X.2.2.2.2.2.1 _ h4) hfr hlo hc hs d (K H locs ls hP hD hS hl)
theorem v_mabs (X : vX p s m args meth c cc nL ret own Ts D tys G A) {index : Nat} {x : Int32} (d : decode cc pc = .ok (.invokestatic index, 3)) (h1 : Cond.methodLink own index Lib.Math.abs.name ∈ Ts) (h2 : Cond.static Lib.Math.abs.name ∈ Ts) (h3 : Cond.initialized "java/lang/Math" ∈ Ts) (h4 : Cond.code Lib.Math.abs.name Lib.Math.abs.code 1 (some .int) ∈ Ts) (hfr : 1 ≤ R.frames) (hlo : (st.map fun v => v.category).sum + 13 ≤ R.locals) (hc : cells ≤ R.cells) (hs : slots ≤ R.slots) (q : Nat) (hq : pc + 3 = q) (K : vW p l e R s m args below meth c nL D A F cells slots Q ws q lv (.int (iabs x) :: st)) : vW p l e R s m args below meth c nL D A F cells slots Q ws pc lv (.int x :: st) := by
  subst hq
  exact fun H locs ls hP hD hS hl => va_mabs X.1 X.2.1 (X.2.2.2.1.trans hl.1.symm) X.2.2.2.2.1 (X.2.2.2.2.2.1 _ h1) (X.2.2.2.2.2.1 _ h2) (X.2.2.2.2.2.1 _ h3) (X.2.2.2.2.2.1 _ h4) hfr hlo hc hs d (K H locs ls hP hD hS hl)
theorem v_acopy (X : vX p s m args meth c cc nL ret own Ts D tys G A) {index a a0 : Nat} {c0 c1 : ClassId} {n0 n1 : Nat} {f g f' : Nat → Int32} {sp dp k : Int32} {ws' : va_W} (d : decode cc pc = .ok (.invokestatic index, 3)) (h1 : Cond.methodLink own index arraycopyName ∈ Ts) (h2 : Cond.native arraycopyName ∈ Ts) (h3 : Cond.static arraycopyName ∈ Ts) (h4 : Cond.initialized "java/lang/System" ∈ Ts) (q0 q1 t0 t1 : Nat) (ha0 : ws[q0]? = some (a0, .inl (c0, n0, .inl f))) (ha1 : ws[q1]? = some (a, .inl (c1, n1, .inl g))) (ht0 : tys[t0]? = some (c0, .int)) (ht1 : tys[t1]? = some (c1, .int)) (h : acp f n0 sp g n1 dp k = some f') (hw : ws.set q1 (a, .inl (c1, n1, .inl f')) = ws') (hfr : 1 ≤ R.frames) (hlo : (st.map fun v => v.category).sum + (nativeFrameWords "java/lang/System" "arraycopy" 5 + 11) ≤ R.locals) (q : Nat) (hq : pc + 3 = q) (K : vW p l e R s m args below meth c nL D A F cells slots Q ws' q lv st) : vW p l e R s m args below meth c nL D A F cells slots Q ws pc lv (.int k :: .int dp :: .ref a :: .int sp :: .ref a0 :: st) := by
  subst hq
  unfold acp at h
  split at h
  · cases h
  · rename_i h9
    cases h
    exact fun H locs ls hP hD hS hl => va_copyi X.1 X.2.1 (X.2.2.2.1.trans hl.1.symm) X.2.2.2.2.1 (X.2.2.2.2.2.1 _ h1) (X.2.2.2.2.2.1 _ h2) (X.2.2.2.2.2.1 _ h3) (X.2.2.2.2.2.1 _ h4) X.2.2.2.2.2.2.2.1 hP hD hS q0 q1 t0 t1 (app_at ha0) (app_at ha1) ht0 ht1 rfl (fun z => h9 (Or.inl z)) (fun z => h9 (Or.inr (Or.inl z))) (fun z => h9 (Or.inr (Or.inr (Or.inl z)))) (Nat.le_of_not_lt fun z => h9 (Or.inr (Or.inr (Or.inr (Or.inl z))))) (Nat.le_of_not_lt fun z => h9 (Or.inr (Or.inr (Or.inr (Or.inr z))))) (fun _ _ => rfl) hfr hlo d (fun H1 l1 hP hD hS => K H1 l1 ls (by rw [app_set ha1 hw] at hP; exact hP) (by rw [app_set ha1 hw] at hD; exact hD) hS hl)
end VL2
end
section
def wpick (ws : va_W) (is : List Nat) : va_W := is.filterMap (fun i => ws[i]?)
def ushr (x y : Int32) : Int32 := (x.toUInt32 >>> (y.toUInt32 &&& Int32.toUInt32 31)).toInt32
abbrev tyA (c9 : Nat → ClassId) : List (ClassId × FieldType) := [(c9 0, .int), (c9 1, .boolean), (c9 2, .byte), (c9 3, .object "TicketGate$State"), (c9 4, .array .int)]
theorem in_r {big : List Cond} (ws : List Cond) (ps : List Nat) (hp : ws = ps.filterMap (fun i => big[i]?)) : ∀ w ∈ ws, w ∈ big := by
  intro w hw
  rw [hp] at hw
  obtain ⟨i, -, hi⟩ := List.mem_filterMap.mp hw
  exact List.mem_of_getElem? hi
/-! Contracts whose world is a list that a function of its leaves says: mI an int (or boolean) comes back, mV nothing. -/
def zr (x : Int32) : Option Int32 := if x = 0 then some 0 else if x = 1 then some 1 else none
theorem zr_in {x y : Int32} (h : zr x = some y) : x = y ∧ narrow .boolean (.int y) = .int y := by
  unfold zr at h
  split at h
  · cases h
    rename_i h1
    exact ⟨h1, rfl⟩
  · split at h
    · cases h
      rename_i h1
      exact ⟨h1, rfl⟩
    · cases h
def pW (G : (Nat → Prop) → State → Heap → Prop) (D : va_G) (tys : List (ClassId × FieldType)) (sz : Nat) (WS : va_W) : State → Prop := fun U => U.heap.size = sz ∧ va_P D vwCl WS U.heap ∧ va_K D vwCl tys U ∧ va_D (fun _ => True) WS ∧ G (va_A WS sz) U U.heap
def eI (D : va_G) (tys : List (ClassId × FieldType)) (A : Nat → Prop) (r : Int32) (WS : va_W) : Array Value → State → Outcome → State → Prop := va_Qi (fun (r' : Int32) (_ : Unit) => r' = r) (fun _ t => va_P D vwCl WS t.heap ∧ va_K D vwCl tys t ∧ va_D A WS) A
def eV (D : va_G) (tys : List (ClassId × FieldType)) (A : Nat → Prop) (WS : va_W) : Array Value → State → Outcome → State → Prop := va_Qv (fun (_ : Unit) => True) (fun _ t => va_P D vwCl WS t.heap ∧ va_K D vwCl tys t ∧ va_D A WS) A
def mI (l : Launch) (y : MethodName) (ws : List Cond) (rm : Room) (G : (Nat → Prop) → State → Heap → Prop) (D : va_G) (tys : List (ClassId × FieldType)) (av : List Value) (WS F : va_W) (mc ms : Nat) (r : Int32) (WS' : va_W) : Prop := ∀ sz : Nat, Met l y ws rm (va_Pc av (pW G D tys sz (WS ++ F))) (eI D tys (va_A (WS ++ F) sz) r (WS' ++ F)) mc ms (va_A (WS ++ F) sz)
def mV (l : Launch) (y : MethodName) (ws : List Cond) (rm : Room) (G : (Nat → Prop) → State → Heap → Prop) (D : va_G) (tys : List (ClassId × FieldType)) (av : List Value) (WS F : va_W) (mc ms : Nat) (WS' : va_W) : Prop := ∀ sz : Nat, Met l y ws rm (va_Pc av (pW G D tys sz (WS ++ F))) (eV D tys (va_A (WS ++ F) sz) (WS' ++ F)) mc ms (va_A (WS ++ F) sz)
theorem pW_blind {G : (Nat → Prop) → State → Heap → Prop} (hG : vG G) {D : va_G} {tys : List (ClassId × FieldType)} {sz : Nat} {WS : va_W} {av : List Value} : FrameBlind (va_Pc av (pW G D tys sz WS)) := fun a U g mk q => by
  obtain ⟨q0, q1, qP, qK, qD, qG⟩ := q
  exact ⟨q0, q1, qP, va_K.moved (u := U) (U := U.calling g mk a) (Vm.Alike.refl U.vm) qK, qD, hG.2.2.1 _ U (U.calling g mk a) _ (State.WarmedH.refl U) qG⟩
theorem va_P_mem {D : va_G} {cl : List vw_C} {ws : va_W} {H : Heap} (h : va_P D cl ws H) {q : Nat × va_E} (hq : q ∈ ws) : va_at D cl q H := by
  obtain ⟨k, hk⟩ := List.getElem?_of_mem hq
  exact h k q hk
theorem va_P_of {D : va_G} {cl : List vw_C} {ws : va_W} {H : Heap} (h : ∀ q ∈ ws, va_at D cl q H) : va_P D cl ws H := fun _ q hk => h q (List.mem_of_getElem? hk)
theorem va_P_left {D : va_G} {cl : List vw_C} {ws F : va_W} {H : Heap} (h : va_P D cl (ws ++ F) H) : va_P D cl ws H := va_P_of fun _ hq => va_P_mem h (List.mem_append_left _ hq)
theorem va_P_right {D : va_G} {cl : List vw_C} {ws F : va_W} {H : Heap} (h : va_P D cl (ws ++ F) H) : va_P D cl F H := va_P_of fun _ hq => va_P_mem h (List.mem_append_right _ hq)
theorem va_D_left {A : Nat → Prop} {ws F : va_W} (h : va_D A (ws ++ F)) : va_D A ws := ⟨fun i j p q hi hj e => h.1 i j p q (app_at hi) (app_at hj) e, fun k q hk => h.2 k q (app_at hk)⟩
theorem app_at2 {ws F : va_W} {k : Nat} {q : Nat × va_E} (h : F[k]? = some q) : (ws ++ F)[ws.length + k]? = some q := by
  rw [List.getElem?_append_right (Nat.le_add_right _ _), Nat.add_sub_cancel_left]
  exact h
theorem va_D_right {A : Nat → Prop} {ws F : va_W} (h : va_D A (ws ++ F)) : va_D A F := ⟨fun i j p q hi hj e => by
  have := h.1 _ _ p q (app_at2 hi) (app_at2 hj) e
  omega, fun k q hk => h.2 _ q (app_at2 hk)⟩
theorem va_D_apart {A : Nat → Prop} {ws F : va_W} (h : va_D A (ws ++ F)) {i j : Nat} {p q : Nat × va_E} (hi : ws[i]? = some p) (hj : F[j]? = some q) : p.1 ≠ q.1 := by
  intro e
  have h1 := h.1 _ _ p q (app_at hi) (app_at2 hj) e
  have h2 := (List.getElem?_eq_some_iff.mp hi).1
  omega
/-- what is left of a world beside what a callee got, when it comes back -/
theorem vj {A0 : Nat → Prop} {D : va_G} {cl : List vw_C} {ws F wc wr w1 ws' : va_W} {H H1 : Heap} (hP : va_P D cl (ws ++ F) H) (hD : va_D A0 (ws ++ F)) (isC isR is2 : List Nat) (hC : isC.map (fun i => ws[i]?) = wc.map some) (hR : isR.map (fun i => ws[i]?) = wr.map some) (hn : va_nd isR = true) (hdis : ∀ i ∈ isR, i ∉ isC)
    (hn2 : va_nd is2 = true) (h2 : is2.map (fun i => (wr ++ w1)[i]?) = ws'.map some)
    (hk : ∀ q : Nat, q < H.size → ¬ va_A wc H.size q → H1[q]? = H[q]?) (hF : ∀ q, va_A wc H.size q → A0 q) (hP1 : va_P D cl w1 H1) (hD1 : va_D (va_A wc H.size) w1) : va_P D cl (ws' ++ F) H1 ∧ va_D A0 (ws' ++ F) := by
  obtain ⟨g1, g2⟩ := va_join (va_P_left hP) (va_D_left hD) isC isR hC hR hn hdis hk hF hP1 hD1
  have g2' := g2.sub is2 hn2 h2
  have back : ∀ {q : Nat × va_E}, q ∈ ws' → q ∈ wr ++ w1 := by
    intro q hq
    obtain ⟨k, hk2⟩ := List.getElem?_of_mem hq
    have h3 : (is2.map (fun i => (wr ++ w1)[i]?))[k]? = some (some q) := by rw [h2, List.getElem?_map, hk2]; rfl
    rw [List.getElem?_map] at h3
    cases hi : is2[k]? with
    | none => rw [hi] at h3; cases h3
    | some i => rw [hi] at h3; exact List.mem_of_getElem? (Option.some.inj h3)
  have inC : ∀ {q : Nat × va_E}, q ∈ wc → ∃ i : Nat, ws[i]? = some q := by
    intro q hq
    obtain ⟨k, hk2⟩ := List.getElem?_of_mem hq
    have h3 : (isC.map (fun i => ws[i]?))[k]? = some (some q) := by rw [hC, List.getElem?_map, hk2]; rfl
    rw [List.getElem?_map] at h3
    cases hi : isC[k]? with
    | none => rw [hi] at h3; cases h3
    | some i => rw [hi] at h3; exact ⟨i, Option.some.inj h3⟩
  have outF : ∀ (j : Nat) (q : Nat × va_E), F[j]? = some q → q.1 < H.size ∧ ¬ va_A wc H.size q.1 := by
    intro j q hj
    have hl := (va_P_right hP j q hj).lt
    refine ⟨hl, fun h => ?_⟩
    rcases h with ⟨k2, e2, h⟩ | h
    · obtain ⟨i, hi⟩ := inC (List.mem_of_getElem? h)
      exact va_D_apart hD hi hj rfl
    · omega
  refine ⟨va_P.app (va_P_of fun q hq => va_P_mem g1 (back hq)) (fun j q hj => (va_P_right hP j q hj).kept (hk q.1 (outF j q hj).1 (outF j q hj).2)), va_D.app g2' (va_D_right hD) (fun i j x y hx hy hxy => ?_)⟩
  rcases List.mem_append.mp (back (List.mem_of_getElem? hx)) with h | h
  · obtain ⟨k, hk2⟩ := List.getElem?_of_mem h
    have h3 : (isR.map (fun i => ws[i]?))[k]? = some (some x) := by rw [hR, List.getElem?_map, hk2]; rfl
    rw [List.getElem?_map] at h3
    cases hi : isR[k]? with
    | none => rw [hi] at h3; cases h3
    | some i2 => rw [hi] at h3; exact va_D_apart hD (Option.some.inj h3) hy hxy
  · obtain ⟨k, hk2⟩ := List.getElem?_of_mem h
    exact (outF j y hy).2 (by rw [← hxy]; exact hD1.2 k x hk2)
section VM
variable {p : Program} {l : Launch} {e : Env} {R : Room} {s : State} {m : MethodId} {args : Array Value} {below : List Frame} {meth : Method} {c : Code} {cc : ByteArray} {nL : Nat} {ret : Option FieldType} {own : String} {Ts : List Cond} {D : va_G} {tys : List (ClassId × FieldType)} {G : (Nat → Prop) → State → Heap → Prop} {A : Nat → Prop} {F : va_W} {cells slots : Nat} {Q : State → Prop} {ws : va_W} {pc : Nat} {lv : List (Nat × Value)} {st : List Value}
theorem mI_of (hG : vG G) {y : MethodName} {wsy ws' : List Cond} {maxL : Nat} {ty : FieldType} {av : List Value} {WS WS' : va_W} {mc ms : Nat} {r : Int32} (hy : plainName y.cls = true) (hw : wsy = Cond.code y cc maxL (some ty) :: ws') (hlen : (lg_sl av).length ≤ maxL)
    (h : ∀ (p : Program) (e : Env) (s : State) (m : MethodId) (args : Array Value) (below : List Frame) (meth : Method) (c : Code) (A : Nat → Prop), vX p s m args meth c cc maxL (some ty) y.cls wsy D tys G A → vW p l e R s m args below meth c maxL D A F 0 0 (MQ below (eI D tys A r (WS' ++ F)) args s mc ms A) WS 0 (lv_args 0 av) []) : mI l y wsy R G D tys av WS F mc ms r WS' := by
  intro sz
  refine Met.ofW (cc := cc) (maxL := maxL) (ret := some ty) hy hw ?_
  intro p e s m args below meth c s₁ B hml hv
  obtain ⟨rfl, hsz, hP, hK, hD0, hGv⟩ := hv
  have hts := atoms_spec (ws := wsy) B.pre
  have hown : s.vm.findClass y.cls = some m.cls := findClass_of_methodNamed B.named
  subst hsz
  have hD := hD0.self (sz := s.heap.size)
  rw [lg_entry_eq]
  exact h p e s m _ below meth c _ ⟨B.exec, B.bytes, B.returns, hml, hown, hts, B.notSynchronized, hK, fun q h => Or.inr h, hG, hGv⟩ s.heap [] _ hP hD va_S.rf (lv_entry av hlen)
theorem mV_of (hG : vG G) {y : MethodName} {wsy ws' : List Cond} {maxL : Nat} {av : List Value} {WS WS' : va_W} {mc ms : Nat} (hy : plainName y.cls = true) (hw : wsy = Cond.code y cc maxL none :: ws') (hlen : (lg_sl av).length ≤ maxL)
    (h : ∀ (p : Program) (e : Env) (s : State) (m : MethodId) (args : Array Value) (below : List Frame) (meth : Method) (c : Code) (A : Nat → Prop), meth.name = y.name → vX p s m args meth c cc maxL none y.cls wsy D tys G A → vW p l e R s m args below meth c maxL D A F 0 0 (MQ below (eV D tys A (WS' ++ F)) args s mc ms A) WS 0 (lv_args 0 av) []) : mV l y wsy R G D tys av WS F mc ms WS' := by
  intro sz
  refine Met.ofW (cc := cc) (maxL := maxL) (ret := none) hy hw ?_
  intro p e s m args below meth c s₁ B hml hv
  obtain ⟨rfl, hsz, hP, hK, hD0, hGv⟩ := hv
  have hts := atoms_spec (ws := wsy) B.pre
  have hown : s.vm.findClass y.cls = some m.cls := findClass_of_methodNamed B.named
  have hnm := (name_of_methodNamed B.named B.method).1
  subst hsz
  have hD := hD0.self (sz := s.heap.size)
  rw [lg_entry_eq]
  exact h p e s m _ below meth c _ hnm ⟨B.exec, B.bytes, B.returns, hml, hown, hts, B.notSynchronized, hK, fun q h => Or.inr h, hG, hGv⟩ s.heap [] _ hP hD va_S.rf (lv_entry av hlen)
theorem v_iret {mc ms : Nat} {r : Int32} (X : vX p s m args meth c cc nL (some .int) own Ts D tys G A) (hc : cells ≤ mc) (hs : slots ≤ ms) (d : decode cc pc = .ok (.ireturn, 1)) : vW p l e R s m args below meth c nL D A F cells slots (MQ below (eI D tys A r (ws ++ F)) args s mc ms A) ws pc lv [.int r] :=
  fun H locs ls hP hD hS hl => W.widen hc hs (W.iret (v := r) X.1 X.2.1 X.2.2.1 (fun t ht hW => ⟨⟨r, (), rfl, rfl, by rw [ht]; exact hP, va_K.moved hW.alike X.2.2.2.2.2.2.2.1, hD⟩, hS.F ht⟩) hS.2.2 d X.2.2.2.2.2.2.1)
theorem v_zret {mc ms : Nat} {r : Int32} {ty : FieldType} (X : vX p s m args meth c cc nL (some ty) own Ts D tys G A) (hc : cells ≤ mc) (hs : slots ≤ ms) (hz : narrow ty (.int r) = .int r) (d : decode cc pc = .ok (.ireturn, 1)) : vW p l e R s m args below meth c nL D A F cells slots (MQ below (eI D tys A r (ws ++ F)) args s mc ms A) ws pc lv [.int r] :=
  fun H locs ls hP hD hS hl => W.widen hc hs (W.zret (v := r) X.1 X.2.1 X.2.2.1 hz (fun t ht hW => ⟨⟨r, (), rfl, rfl, by rw [ht]; exact hP, va_K.moved hW.alike X.2.2.2.2.2.2.2.1, hD⟩, hS.F ht⟩) hS.2.2 d X.2.2.2.2.2.2.1)
theorem v_zretq {mc ms : Nat} {r r0 : Int32} (hf : zr r0 = some r) (X : vX p s m args meth c cc nL (some .boolean) own Ts D tys G A) (hc : cells ≤ mc) (hs : slots ≤ ms) (d : decode cc pc = .ok (.ireturn, 1)) : vW p l e R s m args below meth c nL D A F cells slots (MQ below (eI D tys A r (ws ++ F)) args s mc ms A) ws pc lv [.int r0] := by
  obtain ⟨rfl, h⟩ := zr_in hf
  exact v_zret X hc hs h d
theorem v_vret {mc ms : Nat} (X : vX p s m args meth c cc nL none own Ts D tys G A) (hc : cells ≤ mc) (hs : slots ≤ ms) (d : decode cc pc = .ok (.return_, 1)) : vW p l e R s m args below meth c nL D A F cells slots (MQ below (eV D tys A (ws ++ F)) args s mc ms A) ws pc lv [] :=
  fun H locs ls hP hD hS hl => W.widen hc hs (W.vret X.1 X.2.1 X.2.2.1 (fun t ht hW => ⟨⟨(), rfl, trivial, by rw [ht]; exact hP, va_K.moved hW.alike X.2.2.2.2.2.2.2.1, hD⟩, hS.F ht⟩) hS.2.2 d X.2.2.2.2.2.2.1)
theorem v_pc {WC : va_W} {av : List Value} {H : Heap} {locs : List Loc} (hX : (∀ q : Nat, s.heap.size ≤ q → A q) ∧ vG G ∧ G A s s.heap) (hP : va_P D vwCl (ws ++ F) H) (hD : va_D A (ws ++ F)) (hS : va_S A s.heap H locs) (hK : va_K D vwCl tys s) (isC : List Nat) (hC : isC.map (fun i => ws[i]?) = WC.map some) (hnC : va_nd isC = true) : ∀ U : State, U.heap = H → s.WarmedH U.vm → va_Pc av (pW G D tys H.size (WC ++ [])) av.toArray U := by
  intro U hU hW
  rw [List.append_nil]
  refine ⟨rfl, by rw [hU], ?_, va_K.moved hW.alike hK, ((va_D_left hD).sub isC hnC hC).weaken (fun _ _ _ _ => trivial), ?_⟩
  · rw [hU]
    intro k q hq
    have h3 : (isC.map (fun i => ws[i]?))[k]? = some (some q) := by rw [hC, List.getElem?_map, hq]; rfl
    rw [List.getElem?_map] at h3
    cases hi : isC[k]? with
    | none => rw [hi] at h3; cases h3
    | some i => rw [hi] at h3; exact va_P_left hP i q (Option.some.inj h3)
  · rw [hU]
    exact hX.2.1.2.2.1 _ s U H hW (hX.2.1.1 _ _ s H (hX.2.1.2.1 _ s _ _ hX.2.2 hS.2.1) (va_free (va_D_left hD) hS hX.1 isC hC))
theorem v_callVi (X : vX p s m args meth c cc nL ret own Ts D tys G A) {y : MethodName} {wsy wsy' : List Cond} {rmy : Room} {bytes : ByteArray} {maxL index : Nat} {mc ms : Nat} {WC WC' ws' : va_W} {As rest : List Value} {C : String} {ci : Nat} {T : u_T} {N b : Nat} {fs : List Value} {r : Int32} {ty : FieldType} (hM : mI l y wsy rmy G D tys (.ref b :: As) WC [] mc ms r WC') (n : Nat) (hT : GoodIn Ts (wsV own index C y wsy)) (hw : wsy = Cond.code y bytes maxL (some ty) :: wsy') (hrc : rmy.cells = mc) (hrs : rmy.slots = ms) (hd : y.cls = C ∧ y.cls ≠ "java/lang/invoke/MethodHandle" ∧ y.cls ≠ "java/lang/invoke/VarHandle" ∧ (parseMethodDescriptor y.desc).map (fun d => d.parameters.length) = some n) (hR : rmy.frames + 1 ≤ R.frames ∧ 8 + (maxL + 11) + rmy.locals ≤ R.locals)
    (q0 : Nat) (he : ws[q0]? = some (b, .inr (ci, fs))) (hci : vwCl[ci]? = some (C, T, N)) (hn : As.length = n) (hst : st = As.reverse ++ .ref b :: rest) (hW : (rest.map fun v => v.category).sum ≤ 8) (hf : cells + mc ≤ R.cells ∧ slots + ms ≤ R.slots) (isC isR is2 : List Nat) (hC : isC.map (fun i => ws[i]?) = WC.map some) (hR2 : isR.map (fun i => ws[i]?) = (wpick ws isR).map some) (h2 : is2.map (fun i => (wpick ws isR ++ WC')[i]?) = ws'.map some) (hnd : (va_nd isC && va_nd isR && va_nd is2 && isR.all (fun i => !isC.contains i)) = true)
    (d : decode cc pc = .ok (.invokevirtual index, 3)) (q : Nat) (hq : pc + 3 = q) (K : vW p l e R s m args below meth c nL D A F (cells + mc) (slots + ms) Q ws' q lv (.int r :: rest)) : vW p l e R s m args below meth c nL D A F cells slots Q ws pc lv st := by
  subst hq
  subst hst
  intro H locs ls hP hD hS hl
  simp only [Bool.and_eq_true] at hnd
  obtain ⟨⟨⟨hnC, hnR⟩, hn2⟩, hdis0⟩ := hnd
  have hdis : ∀ i ∈ isR, i ∉ isC := fun i hi hc => by
    have := List.all_eq_true.mp hdis0 i hi
    simp [hc] at this
  have hFc : ∀ q, va_A WC H.size q → A q := va_free (va_D_left hD) hS X.2.2.2.2.2.2.2.2.1 isC hC
  have hA9 : WC ++ [] = WC := List.append_nil WC
  refine va_calli (va_runV ⟨X.1, X.2.1, X.2.2.2.1, X.2.2.2.2.1, X.2.2.2.2.2.1⟩ (hM H.size) (cwV n X.2.2.2.2.2.1 hT hw hrc hrs hd hR) ⟨pW_blind X.2.2.2.2.2.2.2.2.2.1, va_recv X.2.2.2.2.2.2.2.1 (va_P_left hP) hci he, v_pc X.2.2.2.2.2.2.2.2 hP hD hS X.2.2.2.2.2.2.2.1 isC hC hnC⟩ rfl hn hl.1 rfl (lv_room hW) d hf) hS (fun q _ h => hFc q (by rw [hA9] at h; exact h)) (fun q h => hFc q (by rw [hA9] at h; exact h)) (fun r' u t H1 locs1 ht hvm hpost hB hz1 hk1 hS => ?_)
  subst hpost
  obtain ⟨hP1, hK1, hD1⟩ := hB
  rw [ht] at hP1
  simp only [List.append_nil] at hP1 hD1 hk1
  obtain ⟨hP, hD⟩ := vj hP hD isC isR is2 hC hR2 hnR hdis hn2 h2 hk1 hFc hP1 hD1
  exact K H1 locs1 ls hP hD hS hl
theorem v_callVv (X : vX p s m args meth c cc nL ret own Ts D tys G A) {y : MethodName} {wsy wsy' : List Cond} {rmy : Room} {bytes : ByteArray} {maxL index : Nat} {mc ms : Nat} {WC WC' ws' : va_W} {As rest : List Value} {C : String} {ci : Nat} {T : u_T} {N b : Nat} {fs : List Value} (hM : mV l y wsy rmy G D tys (.ref b :: As) WC [] mc ms WC') (n : Nat) (hT : GoodIn Ts (wsV own index C y wsy)) (hw : wsy = Cond.code y bytes maxL none :: wsy') (hrc : rmy.cells = mc) (hrs : rmy.slots = ms) (hd : y.cls = C ∧ y.cls ≠ "java/lang/invoke/MethodHandle" ∧ y.cls ≠ "java/lang/invoke/VarHandle" ∧ (parseMethodDescriptor y.desc).map (fun d => d.parameters.length) = some n) (hR : rmy.frames + 1 ≤ R.frames ∧ 8 + (maxL + 11) + rmy.locals ≤ R.locals)
    (q0 : Nat) (he : ws[q0]? = some (b, .inr (ci, fs))) (hci : vwCl[ci]? = some (C, T, N)) (hn : As.length = n) (hst : st = As.reverse ++ .ref b :: rest) (hW : (rest.map fun v => v.category).sum ≤ 8) (hf : cells + mc ≤ R.cells ∧ slots + ms ≤ R.slots) (isC isR is2 : List Nat) (hC : isC.map (fun i => ws[i]?) = WC.map some) (hR2 : isR.map (fun i => ws[i]?) = (wpick ws isR).map some) (h2 : is2.map (fun i => (wpick ws isR ++ WC')[i]?) = ws'.map some) (hnd : (va_nd isC && va_nd isR && va_nd is2 && isR.all (fun i => !isC.contains i)) = true)
    (d : decode cc pc = .ok (.invokevirtual index, 3)) (q : Nat) (hq : pc + 3 = q) (K : vW p l e R s m args below meth c nL D A F (cells + mc) (slots + ms) Q ws' q lv rest) : vW p l e R s m args below meth c nL D A F cells slots Q ws pc lv st := by
  subst hq
  subst hst
  intro H locs ls hP hD hS hl
  simp only [Bool.and_eq_true] at hnd
  obtain ⟨⟨⟨hnC, hnR⟩, hn2⟩, hdis0⟩ := hnd
  have hdis : ∀ i ∈ isR, i ∉ isC := fun i hi hc => by
    have := List.all_eq_true.mp hdis0 i hi
    simp [hc] at this
  have hFc : ∀ q, va_A WC H.size q → A q := va_free (va_D_left hD) hS X.2.2.2.2.2.2.2.2.1 isC hC
  have hA9 : WC ++ [] = WC := List.append_nil WC
  refine va_callv (va_runV ⟨X.1, X.2.1, X.2.2.2.1, X.2.2.2.2.1, X.2.2.2.2.2.1⟩ (hM H.size) (cwV n X.2.2.2.2.2.1 hT hw hrc hrs hd hR) ⟨pW_blind X.2.2.2.2.2.2.2.2.2.1, va_recv X.2.2.2.2.2.2.2.1 (va_P_left hP) hci he, v_pc X.2.2.2.2.2.2.2.2 hP hD hS X.2.2.2.2.2.2.2.1 isC hC hnC⟩ rfl hn hl.1 rfl (lv_room hW) d hf) hS (fun q _ h => hFc q (by rw [hA9] at h; exact h)) (fun q h => hFc q (by rw [hA9] at h; exact h)) (fun u t H1 locs1 ht hvm hpost hB hz1 hk1 hS => ?_)
  obtain ⟨hP1, hK1, hD1⟩ := hB
  rw [ht] at hP1
  simp only [List.append_nil] at hP1 hD1 hk1
  obtain ⟨hP, hD⟩ := vj hP hD isC isR is2 hC hR2 hnR hdis hn2 h2 hk1 hFc hP1 hD1
  exact K H1 locs1 ls hP hD hS hl
theorem v_callUi (X : vX p s m args meth c cc nL ret own Ts D tys G A) {y : MethodName} {wsy wsy' : List Cond} {rmy : Room} {bytes : ByteArray} {maxL index : Nat} {mc ms : Nat} {WC WC' ws' : va_W} {As rest : List Value} {C owner : String} {x : MethodName} {ci : Nat} {T : u_T} {N b : Nat} {fs : List Value} {r : Int32} {ty : FieldType} (hM : mI l y wsy rmy G D tys (.ref b :: As) WC [] mc ms r WC') (n : Nat) (hT : GoodIn Ts (va_wsU own index C owner x y wsy)) (hw : wsy = Cond.code y bytes maxL (some ty) :: wsy') (hrc : rmy.cells = mc) (hrs : rmy.slots = ms) (hyx : y = ⟨owner, x.name, x.desc⟩) (hd : owner ≠ "java/lang/invoke/MethodHandle" ∧ owner ≠ "java/lang/invoke/VarHandle" ∧ (parseMethodDescriptor x.desc).map (fun d => d.parameters.length) = some n) (hR : rmy.frames + 1 ≤ R.frames ∧ 8 + (maxL + 11) + rmy.locals ≤ R.locals)
    (q0 : Nat) (he : ws[q0]? = some (b, .inr (ci, fs))) (hci : vwCl[ci]? = some (C, T, N)) (hn : As.length = n) (hst : st = As.reverse ++ .ref b :: rest) (hW : (rest.map fun v => v.category).sum ≤ 8) (hf : cells + mc ≤ R.cells ∧ slots + ms ≤ R.slots) (isC isR is2 : List Nat) (hC : isC.map (fun i => ws[i]?) = WC.map some) (hR2 : isR.map (fun i => ws[i]?) = (wpick ws isR).map some) (h2 : is2.map (fun i => (wpick ws isR ++ WC')[i]?) = ws'.map some) (hnd : (va_nd isC && va_nd isR && va_nd is2 && isR.all (fun i => !isC.contains i)) = true)
    (d : decode cc pc = .ok (.invokevirtual index, 3)) (q : Nat) (hq : pc + 3 = q) (K : vW p l e R s m args below meth c nL D A F (cells + mc) (slots + ms) Q ws' q lv (.int r :: rest)) : vW p l e R s m args below meth c nL D A F cells slots Q ws pc lv st := by
  subst hq
  subst hst
  intro H locs ls hP hD hS hl
  simp only [Bool.and_eq_true] at hnd
  obtain ⟨⟨⟨hnC, hnR⟩, hn2⟩, hdis0⟩ := hnd
  have hdis : ∀ i ∈ isR, i ∉ isC := fun i hi hc => by
    have := List.all_eq_true.mp hdis0 i hi
    simp [hc] at this
  have hFc : ∀ q, va_A WC H.size q → A q := va_free (va_D_left hD) hS X.2.2.2.2.2.2.2.2.1 isC hC
  have hA9 : WC ++ [] = WC := List.append_nil WC
  refine va_calli (va_runU ⟨X.1, X.2.1, X.2.2.2.1, X.2.2.2.2.1, X.2.2.2.2.2.1⟩ (hM H.size) (va_cwU n X.2.2.2.2.2.1 hT hw hrc hrs hyx hd hR) ⟨pW_blind X.2.2.2.2.2.2.2.2.2.1, va_recv X.2.2.2.2.2.2.2.1 (va_P_left hP) hci he, v_pc X.2.2.2.2.2.2.2.2 hP hD hS X.2.2.2.2.2.2.2.1 isC hC hnC⟩ rfl hn hl.1 rfl (lv_room hW) d hf) hS (fun q _ h => hFc q (by rw [hA9] at h; exact h)) (fun q h => hFc q (by rw [hA9] at h; exact h)) (fun r' u t H1 locs1 ht hvm hpost hB hz1 hk1 hS => ?_)
  subst hpost
  obtain ⟨hP1, hK1, hD1⟩ := hB
  rw [ht] at hP1
  simp only [List.append_nil] at hP1 hD1 hk1
  obtain ⟨hP, hD⟩ := vj hP hD isC isR is2 hC hR2 hnR hdis hn2 h2 hk1 hFc hP1 hD1
  exact K H1 locs1 ls hP hD hS hl
theorem v_callUv (X : vX p s m args meth c cc nL ret own Ts D tys G A) {y : MethodName} {wsy wsy' : List Cond} {rmy : Room} {bytes : ByteArray} {maxL index : Nat} {mc ms : Nat} {WC WC' ws' : va_W} {As rest : List Value} {C owner : String} {x : MethodName} {ci : Nat} {T : u_T} {N b : Nat} {fs : List Value} (hM : mV l y wsy rmy G D tys (.ref b :: As) WC [] mc ms WC') (n : Nat) (hT : GoodIn Ts (va_wsU own index C owner x y wsy)) (hw : wsy = Cond.code y bytes maxL none :: wsy') (hrc : rmy.cells = mc) (hrs : rmy.slots = ms) (hyx : y = ⟨owner, x.name, x.desc⟩) (hd : owner ≠ "java/lang/invoke/MethodHandle" ∧ owner ≠ "java/lang/invoke/VarHandle" ∧ (parseMethodDescriptor x.desc).map (fun d => d.parameters.length) = some n) (hR : rmy.frames + 1 ≤ R.frames ∧ 8 + (maxL + 11) + rmy.locals ≤ R.locals)
    (q0 : Nat) (he : ws[q0]? = some (b, .inr (ci, fs))) (hci : vwCl[ci]? = some (C, T, N)) (hn : As.length = n) (hst : st = As.reverse ++ .ref b :: rest) (hW : (rest.map fun v => v.category).sum ≤ 8) (hf : cells + mc ≤ R.cells ∧ slots + ms ≤ R.slots) (isC isR is2 : List Nat) (hC : isC.map (fun i => ws[i]?) = WC.map some) (hR2 : isR.map (fun i => ws[i]?) = (wpick ws isR).map some) (h2 : is2.map (fun i => (wpick ws isR ++ WC')[i]?) = ws'.map some) (hnd : (va_nd isC && va_nd isR && va_nd is2 && isR.all (fun i => !isC.contains i)) = true)
    (d : decode cc pc = .ok (.invokevirtual index, 3)) (q : Nat) (hq : pc + 3 = q) (K : vW p l e R s m args below meth c nL D A F (cells + mc) (slots + ms) Q ws' q lv rest) : vW p l e R s m args below meth c nL D A F cells slots Q ws pc lv st := by
  subst hq
  subst hst
  intro H locs ls hP hD hS hl
  simp only [Bool.and_eq_true] at hnd
  obtain ⟨⟨⟨hnC, hnR⟩, hn2⟩, hdis0⟩ := hnd
  have hdis : ∀ i ∈ isR, i ∉ isC := fun i hi hc => by
    have := List.all_eq_true.mp hdis0 i hi
    simp [hc] at this
  have hFc : ∀ q, va_A WC H.size q → A q := va_free (va_D_left hD) hS X.2.2.2.2.2.2.2.2.1 isC hC
  have hA9 : WC ++ [] = WC := List.append_nil WC
  refine va_callv (va_runU ⟨X.1, X.2.1, X.2.2.2.1, X.2.2.2.2.1, X.2.2.2.2.2.1⟩ (hM H.size) (va_cwU n X.2.2.2.2.2.1 hT hw hrc hrs hyx hd hR) ⟨pW_blind X.2.2.2.2.2.2.2.2.2.1, va_recv X.2.2.2.2.2.2.2.1 (va_P_left hP) hci he, v_pc X.2.2.2.2.2.2.2.2 hP hD hS X.2.2.2.2.2.2.2.1 isC hC hnC⟩ rfl hn hl.1 rfl (lv_room hW) d hf) hS (fun q _ h => hFc q (by rw [hA9] at h; exact h)) (fun q h => hFc q (by rw [hA9] at h; exact h)) (fun u t H1 locs1 ht hvm hpost hB hz1 hk1 hS => ?_)
  obtain ⟨hP1, hK1, hD1⟩ := hB
  rw [ht] at hP1
  simp only [List.append_nil] at hP1 hD1 hk1
  obtain ⟨hP, hD⟩ := vj hP hD isC isR is2 hC hR2 hnR hdis hn2 h2 hk1 hFc hP1 hD1
  exact K H1 locs1 ls hP hD hS hl
theorem v_callSi (X : vX p s m args meth c cc nL ret own Ts D tys G A) {y : MethodName} {wsy wsy' : List Cond} {rmy : Room} {bytes : ByteArray} {maxL index : Nat} {mc ms : Nat} {WC WC' ws' : va_W} {As rest : List Value}  {r : Int32} {ty : FieldType} (hM : mI l y wsy rmy G D tys As WC [] mc ms r WC') (n : Nat) (hT : GoodIn Ts (va_wsS own index y wsy)) (hw : wsy = Cond.code y bytes maxL (some ty) :: wsy') (hrc : rmy.cells = mc) (hrs : rmy.slots = ms) (hd : y.cls ≠ "java/lang/invoke/MethodHandle" ∧ y.cls ≠ "java/lang/invoke/VarHandle" ∧ (parseMethodDescriptor y.desc).map (fun d => d.parameters.length) = some n) (hR : rmy.frames + 1 ≤ R.frames ∧ 8 + (maxL + 11) + rmy.locals ≤ R.locals)
    (hn : As.length = n) (hst : st = As.reverse ++ rest) (hW : (rest.map fun v => v.category).sum ≤ 8) (hf : cells + mc ≤ R.cells ∧ slots + ms ≤ R.slots) (isC isR is2 : List Nat) (hC : isC.map (fun i => ws[i]?) = WC.map some) (hR2 : isR.map (fun i => ws[i]?) = (wpick ws isR).map some) (h2 : is2.map (fun i => (wpick ws isR ++ WC')[i]?) = ws'.map some) (hnd : (va_nd isC && va_nd isR && va_nd is2 && isR.all (fun i => !isC.contains i)) = true)
    (d : decode cc pc = .ok (.invokestatic index, 3)) (q : Nat) (hq : pc + 3 = q) (K : vW p l e R s m args below meth c nL D A F (cells + mc) (slots + ms) Q ws' q lv (.int r :: rest)) : vW p l e R s m args below meth c nL D A F cells slots Q ws pc lv st := by
  subst hq
  subst hst
  intro H locs ls hP hD hS hl
  simp only [Bool.and_eq_true] at hnd
  obtain ⟨⟨⟨hnC, hnR⟩, hn2⟩, hdis0⟩ := hnd
  have hdis : ∀ i ∈ isR, i ∉ isC := fun i hi hc => by
    have := List.all_eq_true.mp hdis0 i hi
    simp [hc] at this
  have hFc : ∀ q, va_A WC H.size q → A q := va_free (va_D_left hD) hS X.2.2.2.2.2.2.2.2.1 isC hC
  have hA9 : WC ++ [] = WC := List.append_nil WC
  refine va_calli (va_runS ⟨X.1, X.2.1, X.2.2.2.1, X.2.2.2.2.1, X.2.2.2.2.2.1⟩ (hM H.size) (va_cwS n X.2.2.2.2.2.1 hT hw hrc hrs hd hR) ⟨pW_blind X.2.2.2.2.2.2.2.2.2.1, v_pc X.2.2.2.2.2.2.2.2 hP hD hS X.2.2.2.2.2.2.2.1 isC hC hnC⟩ rfl hn hl.1 rfl (lv_room hW) d hf) hS (fun q _ h => hFc q (by rw [hA9] at h; exact h)) (fun q h => hFc q (by rw [hA9] at h; exact h)) (fun r' u t H1 locs1 ht hvm hpost hB hz1 hk1 hS => ?_)
  subst hpost
  obtain ⟨hP1, hK1, hD1⟩ := hB
  rw [ht] at hP1
  simp only [List.append_nil] at hP1 hD1 hk1
  obtain ⟨hP, hD⟩ := vj hP hD isC isR is2 hC hR2 hnR hdis hn2 h2 hk1 hFc hP1 hD1
  exact K H1 locs1 ls hP hD hS hl
theorem v_callSv (X : vX p s m args meth c cc nL ret own Ts D tys G A) {y : MethodName} {wsy wsy' : List Cond} {rmy : Room} {bytes : ByteArray} {maxL index : Nat} {mc ms : Nat} {WC WC' ws' : va_W} {As rest : List Value}  (hM : mV l y wsy rmy G D tys As WC [] mc ms WC') (n : Nat) (hT : GoodIn Ts (va_wsS own index y wsy)) (hw : wsy = Cond.code y bytes maxL none :: wsy') (hrc : rmy.cells = mc) (hrs : rmy.slots = ms) (hd : y.cls ≠ "java/lang/invoke/MethodHandle" ∧ y.cls ≠ "java/lang/invoke/VarHandle" ∧ (parseMethodDescriptor y.desc).map (fun d => d.parameters.length) = some n) (hR : rmy.frames + 1 ≤ R.frames ∧ 8 + (maxL + 11) + rmy.locals ≤ R.locals)
    (hn : As.length = n) (hst : st = As.reverse ++ rest) (hW : (rest.map fun v => v.category).sum ≤ 8) (hf : cells + mc ≤ R.cells ∧ slots + ms ≤ R.slots) (isC isR is2 : List Nat) (hC : isC.map (fun i => ws[i]?) = WC.map some) (hR2 : isR.map (fun i => ws[i]?) = (wpick ws isR).map some) (h2 : is2.map (fun i => (wpick ws isR ++ WC')[i]?) = ws'.map some) (hnd : (va_nd isC && va_nd isR && va_nd is2 && isR.all (fun i => !isC.contains i)) = true)
    (d : decode cc pc = .ok (.invokestatic index, 3)) (q : Nat) (hq : pc + 3 = q) (K : vW p l e R s m args below meth c nL D A F (cells + mc) (slots + ms) Q ws' q lv rest) : vW p l e R s m args below meth c nL D A F cells slots Q ws pc lv st := by
  subst hq
  subst hst
  intro H locs ls hP hD hS hl
  simp only [Bool.and_eq_true] at hnd
  obtain ⟨⟨⟨hnC, hnR⟩, hn2⟩, hdis0⟩ := hnd
  have hdis : ∀ i ∈ isR, i ∉ isC := fun i hi hc => by
    have := List.all_eq_true.mp hdis0 i hi
    simp [hc] at this
  have hFc : ∀ q, va_A WC H.size q → A q := va_free (va_D_left hD) hS X.2.2.2.2.2.2.2.2.1 isC hC
  have hA9 : WC ++ [] = WC := List.append_nil WC
  refine va_callv (va_runS ⟨X.1, X.2.1, X.2.2.2.1, X.2.2.2.2.1, X.2.2.2.2.2.1⟩ (hM H.size) (va_cwS n X.2.2.2.2.2.1 hT hw hrc hrs hd hR) ⟨pW_blind X.2.2.2.2.2.2.2.2.2.1, v_pc X.2.2.2.2.2.2.2.2 hP hD hS X.2.2.2.2.2.2.2.1 isC hC hnC⟩ rfl hn hl.1 rfl (lv_room hW) d hf) hS (fun q _ h => hFc q (by rw [hA9] at h; exact h)) (fun q h => hFc q (by rw [hA9] at h; exact h)) (fun u t H1 locs1 ht hvm hpost hB hz1 hk1 hS => ?_)
  obtain ⟨hP1, hK1, hD1⟩ := hB
  rw [ht] at hP1
  simp only [List.append_nil] at hP1 hD1 hk1
  obtain ⟨hP, hD⟩ := vj hP hD isC isR is2 hC hR2 hnR hdis hn2 h2 hk1 hFc hP1 hD1
  exact K H1 locs1 ls hP hD hS hl
theorem v_callIv (X : vX p s m args meth c cc nL ret own Ts D tys G A) {y : MethodName} {wsy wsy' : List Cond} {rmy : Room} {bytes : ByteArray} {maxL index : Nat} {mc ms : Nat} {WC WC' ws' : va_W} {As rest : List Value} {b : Nat} (hM : mV l y wsy rmy G D tys (.ref b :: As) WC [] mc ms WC') (n : Nat) (hT : GoodIn Ts wsy) (hw : wsy = Cond.code y bytes maxL none :: wsy') (hrc : rmy.cells = mc) (hrs : rmy.slots = ms) (hini : Cond.initialized y.cls ∈ Ts) (hlk : Cond.methodLink own index y ∈ Ts) (hinm : Cond.instanceMethod y ∈ Ts) (hy1 : y.name = "<init>") (hd : y.cls ≠ "java/lang/invoke/MethodHandle" ∧ y.cls ≠ "java/lang/invoke/VarHandle" ∧ (parseMethodDescriptor y.desc).map (fun d => d.parameters.length) = some n) (hR : rmy.frames + 1 ≤ R.frames ∧ 8 + (maxL + 11) + rmy.locals ≤ R.locals)
    (hn : As.length = n) (hst : st = As.reverse ++ .ref b :: rest) (hW : (rest.map fun v => v.category).sum ≤ 8) (hf : cells + mc ≤ R.cells ∧ slots + ms ≤ R.slots) (isC isR is2 : List Nat) (hC : isC.map (fun i => ws[i]?) = WC.map some) (hR2 : isR.map (fun i => ws[i]?) = (wpick ws isR).map some) (h2 : is2.map (fun i => (wpick ws isR ++ WC')[i]?) = ws'.map some) (hnd : (va_nd isC && va_nd isR && va_nd is2 && isR.all (fun i => !isC.contains i)) = true)
    (d : decode cc pc = .ok (.invokespecial index, 3)) (q : Nat) (hq : pc + 3 = q) (K : vW p l e R s m args below meth c nL D A F (cells + mc) (slots + ms) Q ws' q lv rest) : vW p l e R s m args below meth c nL D A F cells slots Q ws pc lv st := by
  subst hq
  subst hst
  intro H locs ls hP hD hS hl
  simp only [Bool.and_eq_true] at hnd
  obtain ⟨⟨⟨hnC, hnR⟩, hn2⟩, hdis0⟩ := hnd
  have hdis : ∀ i ∈ isR, i ∉ isC := fun i hi hc => by
    have := List.all_eq_true.mp hdis0 i hi
    simp [hc] at this
  have hFc : ∀ q, va_A WC H.size q → A q := va_free (va_D_left hD) hS X.2.2.2.2.2.2.2.2.1 isC hC
  have hA9 : WC ++ [] = WC := List.append_nil WC
  refine va_callv (va_runI ⟨X.1, X.2.1, X.2.2.2.1, X.2.2.2.2.1, X.2.2.2.2.2.1⟩ (hM H.size) (cwI n X.2.2.2.2.2.1 hT hw hrc hrs (X.2.2.2.2.2.1 _ hini) (X.2.2.2.2.2.1 _ hlk) (X.2.2.2.2.2.1 _ hinm) hy1 hd hR) ⟨pW_blind X.2.2.2.2.2.2.2.2.2.1, v_pc X.2.2.2.2.2.2.2.2 hP hD hS X.2.2.2.2.2.2.2.1 isC hC hnC⟩ rfl hn hl.1 rfl (lv_room hW) d hf) hS (fun q _ h => hFc q (by rw [hA9] at h; exact h)) (fun q h => hFc q (by rw [hA9] at h; exact h)) (fun u t H1 locs1 ht hvm hpost hB hz1 hk1 hS => ?_)
  obtain ⟨hP1, hK1, hD1⟩ := hB
  rw [ht] at hP1
  simp only [List.append_nil] at hP1 hD1 hk1
  obtain ⟨hP, hD⟩ := vj hP hD isC isR is2 hC hR2 hnR hdis hn2 h2 hk1 hFc hP1 hD1
  exact K H1 locs1 ls hP hD hS hl
end VM
end
