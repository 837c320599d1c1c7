section
-- ===== PART A: goes FIRST, ahead of the names: the tables' words, and 'selects' of the private methods out of them =====
/-- a private method of a class that the tables say can be made, by its rows of tables_1 -/
def lw_okq (q : MethodName × Nat) : Prop := (q.1.cls ≠ "java/lang/invoke/MethodHandle" ∧ q.1.cls ≠ "java/lang/invoke/VarHandle") ∧ Cond.instantiable q.1.cls q.2 ∈ tables_1 ∧ Cond.privateMethod q.1 ∈ tables_1 ∧ Cond.instanceMethod q.1 ∈ tables_1
theorem lw_p0 : lw_okq (⟨"FeedbackQueues", "startOver", "()V"⟩, 12) := ⟨⟨by decide +kernel, by decide +kernel⟩, List.mem_of_getElem? (i := 13) (by decide +kernel), List.mem_of_getElem? (i := 167) (by decide +kernel), List.mem_of_getElem? (i := 168) (by decide +kernel)⟩
theorem lw_p1 : lw_okq (⟨"FeedbackQueues$Level", "clear", "()V"⟩, 4) := ⟨⟨by decide +kernel, by decide +kernel⟩, List.mem_of_getElem? (i := 24) (by decide +kernel), List.mem_of_getElem? (i := 171) (by decide +kernel), List.mem_of_getElem? (i := 172) (by decide +kernel)⟩
theorem lw_p2 : lw_okq (⟨"FeedbackQueues$Task", "startOver", "()V"⟩, 19) := ⟨⟨by decide +kernel, by decide +kernel⟩, List.mem_of_getElem? (i := 46) (by decide +kernel), List.mem_of_getElem? (i := 175) (by decide +kernel), List.mem_of_getElem? (i := 176) (by decide +kernel)⟩
theorem lw_p3 : lw_okq (⟨"java/lang/Throwable", "fillInStackTrace", "(I)Ljava/lang/Throwable;"⟩, 6) := ⟨⟨by decide +kernel, by decide +kernel⟩, List.mem_of_getElem? (i := 233) (by decide +kernel), List.mem_of_getElem? (i := 231) (by decide +kernel), List.mem_of_getElem? (i := 232) (by decide +kernel)⟩
theorem lw_p4 : lw_okq (⟨"FeedbackQueues", "isLevel", "(I)Z"⟩, 12) := ⟨⟨by decide +kernel, by decide +kernel⟩, List.mem_of_getElem? (i := 13) (by decide +kernel), List.mem_of_getElem? (i := 272) (by decide +kernel), List.mem_of_getElem? (i := 273) (by decide +kernel)⟩
theorem lw_p5 : lw_okq (⟨"FeedbackQueues$Task", "tellArrival", "(I)V"⟩, 19) := ⟨⟨by decide +kernel, by decide +kernel⟩, List.mem_of_getElem? (i := 46) (by decide +kernel), List.mem_of_getElem? (i := 326) (by decide +kernel), List.mem_of_getElem? (i := 327) (by decide +kernel)⟩
theorem lw_p6 : lw_okq (⟨"FeedbackQueues", "isTask", "(I)Z"⟩, 12) := ⟨⟨by decide +kernel, by decide +kernel⟩, List.mem_of_getElem? (i := 13) (by decide +kernel), List.mem_of_getElem? (i := 337) (by decide +kernel), List.mem_of_getElem? (i := 338) (by decide +kernel)⟩
theorem lw_p7 : lw_okq (⟨"FeedbackQueues$Task", "tellBurst", "(I)I"⟩, 19) := ⟨⟨by decide +kernel, by decide +kernel⟩, List.mem_of_getElem? (i := 46) (by decide +kernel), List.mem_of_getElem? (i := 343) (by decide +kernel), List.mem_of_getElem? (i := 344) (by decide +kernel)⟩
theorem lw_p8 : lw_okq (⟨"FeedbackQueues", "doTick", "()V"⟩, 12) := ⟨⟨by decide +kernel, by decide +kernel⟩, List.mem_of_getElem? (i := 13) (by decide +kernel), List.mem_of_getElem? (i := 357) (by decide +kernel), List.mem_of_getElem? (i := 358) (by decide +kernel)⟩
theorem lw_p9 : lw_okq (⟨"FeedbackQueues", "bringAllUp", "()V"⟩, 12) := ⟨⟨by decide +kernel, by decide +kernel⟩, List.mem_of_getElem? (i := 13) (by decide +kernel), List.mem_of_getElem? (i := 361) (by decide +kernel), List.mem_of_getElem? (i := 362) (by decide +kernel)⟩
theorem lw_p10 : lw_okq (⟨"FeedbackQueues$Task", "comeUp", "(II)V"⟩, 19) := ⟨⟨by decide +kernel, by decide +kernel⟩, List.mem_of_getElem? (i := 46) (by decide +kernel), List.mem_of_getElem? (i := 365) (by decide +kernel), List.mem_of_getElem? (i := 366) (by decide +kernel)⟩
theorem lw_p11 : lw_okq (⟨"FeedbackQueues$Level", "addAllOf", "(LFeedbackQueues$Level;)V"⟩, 4) := ⟨⟨by decide +kernel, by decide +kernel⟩, List.mem_of_getElem? (i := 24) (by decide +kernel), List.mem_of_getElem? (i := 372) (by decide +kernel), List.mem_of_getElem? (i := 373) (by decide +kernel)⟩
theorem lw_p12 : lw_okq (⟨"FeedbackQueues$Level", "addLast", "(I)V"⟩, 4) := ⟨⟨by decide +kernel, by decide +kernel⟩, List.mem_of_getElem? (i := 24) (by decide +kernel), List.mem_of_getElem? (i := 376) (by decide +kernel), List.mem_of_getElem? (i := 377) (by decide +kernel)⟩
theorem lw_p13 : lw_okq (⟨"FeedbackQueues", "letArrive", "()V"⟩, 12) := ⟨⟨by decide +kernel, by decide +kernel⟩, List.mem_of_getElem? (i := 13) (by decide +kernel), List.mem_of_getElem? (i := 380) (by decide +kernel), List.mem_of_getElem? (i := 381) (by decide +kernel)⟩
theorem lw_p14 : lw_okq (⟨"FeedbackQueues", "goOnOrEnd", "(LFeedbackQueues$Task;)V"⟩, 12) := ⟨⟨by decide +kernel, by decide +kernel⟩, List.mem_of_getElem? (i := 13) (by decide +kernel), List.mem_of_getElem? (i := 384) (by decide +kernel), List.mem_of_getElem? (i := 385) (by decide +kernel)⟩
theorem lw_p15 : lw_okq (⟨"FeedbackQueues$Task", "beginBurst", "()Z"⟩, 19) := ⟨⟨by decide +kernel, by decide +kernel⟩, List.mem_of_getElem? (i := 46) (by decide +kernel), List.mem_of_getElem? (i := 388) (by decide +kernel), List.mem_of_getElem? (i := 389) (by decide +kernel)⟩
def lw_privs_1 : List (MethodName × Nat) := [(⟨"FeedbackQueues", "startOver", "()V"⟩, 12), (⟨"FeedbackQueues$Level", "clear", "()V"⟩, 4), (⟨"FeedbackQueues$Task", "startOver", "()V"⟩, 19), (⟨"java/lang/Throwable", "fillInStackTrace", "(I)Ljava/lang/Throwable;"⟩, 6), (⟨"FeedbackQueues", "isLevel", "(I)Z"⟩, 12), (⟨"FeedbackQueues$Task", "tellArrival", "(I)V"⟩, 19), (⟨"FeedbackQueues", "isTask", "(I)Z"⟩, 12), (⟨"FeedbackQueues$Task", "tellBurst", "(I)I"⟩, 19), (⟨"FeedbackQueues", "doTick", "()V"⟩, 12), (⟨"FeedbackQueues", "bringAllUp", "()V"⟩, 12), (⟨"FeedbackQueues$Task", "comeUp", "(II)V"⟩, 19), (⟨"FeedbackQueues$Level", "addAllOf", "(LFeedbackQueues$Level;)V"⟩, 4), (⟨"FeedbackQueues$Level", "addLast", "(I)V"⟩, 4), (⟨"FeedbackQueues", "letArrive", "()V"⟩, 12), (⟨"FeedbackQueues", "goOnOrEnd", "(LFeedbackQueues$Task;)V"⟩, 12), (⟨"FeedbackQueues$Task", "beginBurst", "()Z"⟩, 19)]
theorem lw_r1 : ∀ q ∈ lw_privs_1, lw_okq q := List.forall_mem_cons.mpr ⟨lw_p0, List.forall_mem_cons.mpr ⟨lw_p1, List.forall_mem_cons.mpr ⟨lw_p2, List.forall_mem_cons.mpr ⟨lw_p3, List.forall_mem_cons.mpr ⟨lw_p4, List.forall_mem_cons.mpr ⟨lw_p5, List.forall_mem_cons.mpr ⟨lw_p6, List.forall_mem_cons.mpr ⟨lw_p7, List.forall_mem_cons.mpr ⟨lw_p8, List.forall_mem_cons.mpr ⟨lw_p9, List.forall_mem_cons.mpr ⟨lw_p10, List.forall_mem_cons.mpr ⟨lw_p11, List.forall_mem_cons.mpr ⟨lw_p12, List.forall_mem_cons.mpr ⟨lw_p13, List.forall_mem_cons.mpr ⟨lw_p14, List.forall_mem_cons.mpr ⟨lw_p15, fun _ h => absurd h List.not_mem_nil⟩⟩⟩⟩⟩⟩⟩⟩⟩⟩⟩⟩⟩⟩⟩⟩
theorem lw_p16 : lw_okq (⟨"FeedbackQueues", "standAtEnd", "(LFeedbackQueues$Task;)V"⟩, 12) := ⟨⟨by decide +kernel, by decide +kernel⟩, List.mem_of_getElem? (i := 13) (by decide +kernel), List.mem_of_getElem? (i := 392) (by decide +kernel), List.mem_of_getElem? (i := 393) (by decide +kernel)⟩
theorem lw_p17 : lw_okq (⟨"FeedbackQueues", "endTask", "(LFeedbackQueues$Task;I)V"⟩, 12) := ⟨⟨by decide +kernel, by decide +kernel⟩, List.mem_of_getElem? (i := 13) (by decide +kernel), List.mem_of_getElem? (i := 397) (by decide +kernel), List.mem_of_getElem? (i := 398) (by decide +kernel)⟩
theorem lw_p18 : lw_okq (⟨"FeedbackQueues", "letComeBack", "()V"⟩, 12) := ⟨⟨by decide +kernel, by decide +kernel⟩, List.mem_of_getElem? (i := 13) (by decide +kernel), List.mem_of_getElem? (i := 401) (by decide +kernel), List.mem_of_getElem? (i := 402) (by decide +kernel)⟩
theorem lw_p19 : lw_okq (⟨"FeedbackQueues", "makeWay", "()V"⟩, 12) := ⟨⟨by decide +kernel, by decide +kernel⟩, List.mem_of_getElem? (i := 13) (by decide +kernel), List.mem_of_getElem? (i := 405) (by decide +kernel), List.mem_of_getElem? (i := 406) (by decide +kernel)⟩
theorem lw_p20 : lw_okq (⟨"FeedbackQueues", "isOneReadyAbove", "(I)Z"⟩, 12) := ⟨⟨by decide +kernel, by decide +kernel⟩, List.mem_of_getElem? (i := 13) (by decide +kernel), List.mem_of_getElem? (i := 409) (by decide +kernel), List.mem_of_getElem? (i := 410) (by decide +kernel)⟩
theorem lw_p21 : lw_okq (⟨"FeedbackQueues$Level", "addFirst", "(I)V"⟩, 4) := ⟨⟨by decide +kernel, by decide +kernel⟩, List.mem_of_getElem? (i := 24) (by decide +kernel), List.mem_of_getElem? (i := 413) (by decide +kernel), List.mem_of_getElem? (i := 414) (by decide +kernel)⟩
theorem lw_p22 : lw_okq (⟨"FeedbackQueues", "switchToFirst", "()V"⟩, 12) := ⟨⟨by decide +kernel, by decide +kernel⟩, List.mem_of_getElem? (i := 13) (by decide +kernel), List.mem_of_getElem? (i := 417) (by decide +kernel), List.mem_of_getElem? (i := 418) (by decide +kernel)⟩
theorem lw_p23 : lw_okq (⟨"FeedbackQueues$Level", "takeFirst", "()I"⟩, 4) := ⟨⟨by decide +kernel, by decide +kernel⟩, List.mem_of_getElem? (i := 24) (by decide +kernel), List.mem_of_getElem? (i := 421) (by decide +kernel), List.mem_of_getElem? (i := 422) (by decide +kernel)⟩
theorem lw_p24 : lw_okq (⟨"FeedbackQueues", "switchTo", "(LFeedbackQueues$Task;)V"⟩, 12) := ⟨⟨by decide +kernel, by decide +kernel⟩, List.mem_of_getElem? (i := 13) (by decide +kernel), List.mem_of_getElem? (i := 425) (by decide +kernel), List.mem_of_getElem? (i := 426) (by decide +kernel)⟩
theorem lw_p25 : lw_okq (⟨"FeedbackQueues$Task", "beginRunning", "(II)V"⟩, 19) := ⟨⟨by decide +kernel, by decide +kernel⟩, List.mem_of_getElem? (i := 46) (by decide +kernel), List.mem_of_getElem? (i := 429) (by decide +kernel), List.mem_of_getElem? (i := 430) (by decide +kernel)⟩
theorem lw_p26 : lw_okq (⟨"FeedbackQueues", "countWaiting", "()V"⟩, 12) := ⟨⟨by decide +kernel, by decide +kernel⟩, List.mem_of_getElem? (i := 13) (by decide +kernel), List.mem_of_getElem? (i := 433) (by decide +kernel), List.mem_of_getElem? (i := 434) (by decide +kernel)⟩
theorem lw_p27 : lw_okq (⟨"FeedbackQueues", "useTick", "(LFeedbackQueues$Task;)V"⟩, 12) := ⟨⟨by decide +kernel, by decide +kernel⟩, List.mem_of_getElem? (i := 13) (by decide +kernel), List.mem_of_getElem? (i := 437) (by decide +kernel), List.mem_of_getElem? (i := 438) (by decide +kernel)⟩
theorem lw_p28 : lw_okq (⟨"FeedbackQueues", "blockOrEnd", "(LFeedbackQueues$Task;)V"⟩, 12) := ⟨⟨by decide +kernel, by decide +kernel⟩, List.mem_of_getElem? (i := 13) (by decide +kernel), List.mem_of_getElem? (i := 441) (by decide +kernel), List.mem_of_getElem? (i := 442) (by decide +kernel)⟩
theorem lw_p29 : lw_okq (⟨"FeedbackQueues", "sendDown", "(LFeedbackQueues$Task;)V"⟩, 12) := ⟨⟨by decide +kernel, by decide +kernel⟩, List.mem_of_getElem? (i := 13) (by decide +kernel), List.mem_of_getElem? (i := 445) (by decide +kernel), List.mem_of_getElem? (i := 446) (by decide +kernel)⟩
theorem lw_p30 : lw_okq (⟨"FeedbackQueues$Level", "at", "(I)I"⟩, 4) := ⟨⟨by decide +kernel, by decide +kernel⟩, List.mem_of_getElem? (i := 24) (by decide +kernel), List.mem_of_getElem? (i := 464) (by decide +kernel), List.mem_of_getElem? (i := 465) (by decide +kernel)⟩
theorem lw_p31 : lw_okq (⟨"FeedbackQueuesModel", "set", "(I)V"⟩, 24) := ⟨⟨by decide +kernel, by decide +kernel⟩, List.mem_of_getElem? (i := 484) (by decide +kernel), List.mem_of_getElem? (i := 490) (by decide +kernel), List.mem_of_getElem? (i := 491) (by decide +kernel)⟩
def lw_privs_2 : List (MethodName × Nat) := [(⟨"FeedbackQueues", "standAtEnd", "(LFeedbackQueues$Task;)V"⟩, 12), (⟨"FeedbackQueues", "endTask", "(LFeedbackQueues$Task;I)V"⟩, 12), (⟨"FeedbackQueues", "letComeBack", "()V"⟩, 12), (⟨"FeedbackQueues", "makeWay", "()V"⟩, 12), (⟨"FeedbackQueues", "isOneReadyAbove", "(I)Z"⟩, 12), (⟨"FeedbackQueues$Level", "addFirst", "(I)V"⟩, 4), (⟨"FeedbackQueues", "switchToFirst", "()V"⟩, 12), (⟨"FeedbackQueues$Level", "takeFirst", "()I"⟩, 4), (⟨"FeedbackQueues", "switchTo", "(LFeedbackQueues$Task;)V"⟩, 12), (⟨"FeedbackQueues$Task", "beginRunning", "(II)V"⟩, 19), (⟨"FeedbackQueues", "countWaiting", "()V"⟩, 12), (⟨"FeedbackQueues", "useTick", "(LFeedbackQueues$Task;)V"⟩, 12), (⟨"FeedbackQueues", "blockOrEnd", "(LFeedbackQueues$Task;)V"⟩, 12), (⟨"FeedbackQueues", "sendDown", "(LFeedbackQueues$Task;)V"⟩, 12), (⟨"FeedbackQueues$Level", "at", "(I)I"⟩, 4), (⟨"FeedbackQueuesModel", "set", "(I)V"⟩, 24)]
theorem lw_r2 : ∀ q ∈ lw_privs_2, lw_okq q := List.forall_mem_cons.mpr ⟨lw_p16, List.forall_mem_cons.mpr ⟨lw_p17, List.forall_mem_cons.mpr ⟨lw_p18, List.forall_mem_cons.mpr ⟨lw_p19, List.forall_mem_cons.mpr ⟨lw_p20, List.forall_mem_cons.mpr ⟨lw_p21, List.forall_mem_cons.mpr ⟨lw_p22, List.forall_mem_cons.mpr ⟨lw_p23, List.forall_mem_cons.mpr ⟨lw_p24, List.forall_mem_cons.mpr ⟨lw_p25, List.forall_mem_cons.mpr ⟨lw_p26, List.forall_mem_cons.mpr ⟨lw_p27, List.forall_mem_cons.mpr ⟨lw_p28, List.forall_mem_cons.mpr ⟨lw_p29, List.forall_mem_cons.mpr ⟨lw_p30, List.forall_mem_cons.mpr ⟨lw_p31, fun _ h => absurd h List.not_mem_nil⟩⟩⟩⟩⟩⟩⟩⟩⟩⟩⟩⟩⟩⟩⟩⟩
theorem lw_p32 : lw_okq (⟨"FeedbackQueuesModel", "begin", "()V"⟩, 24) := ⟨⟨by decide +kernel, by decide +kernel⟩, List.mem_of_getElem? (i := 484) (by decide +kernel), List.mem_of_getElem? (i := 494) (by decide +kernel), List.mem_of_getElem? (i := 495) (by decide +kernel)⟩
theorem lw_p33 : lw_okq (⟨"FeedbackQueuesModel", "noProcess", "(I)Z"⟩, 24) := ⟨⟨by decide +kernel, by decide +kernel⟩, List.mem_of_getElem? (i := 484) (by decide +kernel), List.mem_of_getElem? (i := 596) (by decide +kernel), List.mem_of_getElem? (i := 597) (by decide +kernel)⟩
theorem lw_p34 : lw_okq (⟨"FeedbackQueuesModel", "allUp", "()V"⟩, 24) := ⟨⟨by decide +kernel, by decide +kernel⟩, List.mem_of_getElem? (i := 484) (by decide +kernel), List.mem_of_getElem? (i := 605) (by decide +kernel), List.mem_of_getElem? (i := 606) (by decide +kernel)⟩
theorem lw_p35 : lw_okq (⟨"FeedbackQueuesModel", "takeFirst", "(I)I"⟩, 24) := ⟨⟨by decide +kernel, by decide +kernel⟩, List.mem_of_getElem? (i := 484) (by decide +kernel), List.mem_of_getElem? (i := 609) (by decide +kernel), List.mem_of_getElem? (i := 610) (by decide +kernel)⟩
theorem lw_p36 : lw_okq (⟨"FeedbackQueuesModel", "toEnd", "(II)V"⟩, 24) := ⟨⟨by decide +kernel, by decide +kernel⟩, List.mem_of_getElem? (i := 484) (by decide +kernel), List.mem_of_getElem? (i := 613) (by decide +kernel), List.mem_of_getElem? (i := 614) (by decide +kernel)⟩
theorem lw_p37 : lw_okq (⟨"FeedbackQueuesModel", "come", "(I)V"⟩, 24) := ⟨⟨by decide +kernel, by decide +kernel⟩, List.mem_of_getElem? (i := 484) (by decide +kernel), List.mem_of_getElem? (i := 617) (by decide +kernel), List.mem_of_getElem? (i := 618) (by decide +kernel)⟩
theorem lw_p38 : lw_okq (⟨"FeedbackQueuesModel", "end", "(II)V"⟩, 24) := ⟨⟨by decide +kernel, by decide +kernel⟩, List.mem_of_getElem? (i := 484) (by decide +kernel), List.mem_of_getElem? (i := 621) (by decide +kernel), List.mem_of_getElem? (i := 622) (by decide +kernel)⟩
theorem lw_p39 : lw_okq (⟨"FeedbackQueuesModel", "comeBack", "(I)V"⟩, 24) := ⟨⟨by decide +kernel, by decide +kernel⟩, List.mem_of_getElem? (i := 484) (by decide +kernel), List.mem_of_getElem? (i := 625) (by decide +kernel), List.mem_of_getElem? (i := 626) (by decide +kernel)⟩
theorem lw_p40 : lw_okq (⟨"FeedbackQueuesModel", "choose", "(I)V"⟩, 24) := ⟨⟨by decide +kernel, by decide +kernel⟩, List.mem_of_getElem? (i := 484) (by decide +kernel), List.mem_of_getElem? (i := 629) (by decide +kernel), List.mem_of_getElem? (i := 630) (by decide +kernel)⟩
theorem lw_p41 : lw_okq (⟨"FeedbackQueuesModel", "firstLevel", "()I"⟩, 24) := ⟨⟨by decide +kernel, by decide +kernel⟩, List.mem_of_getElem? (i := 484) (by decide +kernel), List.mem_of_getElem? (i := 633) (by decide +kernel), List.mem_of_getElem? (i := 634) (by decide +kernel)⟩
theorem lw_p42 : lw_okq (⟨"FeedbackQueuesModel", "toFront", "(II)V"⟩, 24) := ⟨⟨by decide +kernel, by decide +kernel⟩, List.mem_of_getElem? (i := 484) (by decide +kernel), List.mem_of_getElem? (i := 637) (by decide +kernel), List.mem_of_getElem? (i := 638) (by decide +kernel)⟩
theorem lw_p43 : lw_okq (⟨"FeedbackQueuesModel", "count", "()V"⟩, 24) := ⟨⟨by decide +kernel, by decide +kernel⟩, List.mem_of_getElem? (i := 484) (by decide +kernel), List.mem_of_getElem? (i := 641) (by decide +kernel), List.mem_of_getElem? (i := 642) (by decide +kernel)⟩
theorem lw_p44 : lw_okq (⟨"FeedbackQueuesModel", "work", "(I)V"⟩, 24) := ⟨⟨by decide +kernel, by decide +kernel⟩, List.mem_of_getElem? (i := 484) (by decide +kernel), List.mem_of_getElem? (i := 645) (by decide +kernel), List.mem_of_getElem? (i := 646) (by decide +kernel)⟩
def lw_privs_3 : List (MethodName × Nat) := [(⟨"FeedbackQueuesModel", "begin", "()V"⟩, 24), (⟨"FeedbackQueuesModel", "noProcess", "(I)Z"⟩, 24), (⟨"FeedbackQueuesModel", "allUp", "()V"⟩, 24), (⟨"FeedbackQueuesModel", "takeFirst", "(I)I"⟩, 24), (⟨"FeedbackQueuesModel", "toEnd", "(II)V"⟩, 24), (⟨"FeedbackQueuesModel", "come", "(I)V"⟩, 24), (⟨"FeedbackQueuesModel", "end", "(II)V"⟩, 24), (⟨"FeedbackQueuesModel", "comeBack", "(I)V"⟩, 24), (⟨"FeedbackQueuesModel", "choose", "(I)V"⟩, 24), (⟨"FeedbackQueuesModel", "firstLevel", "()I"⟩, 24), (⟨"FeedbackQueuesModel", "toFront", "(II)V"⟩, 24), (⟨"FeedbackQueuesModel", "count", "()V"⟩, 24), (⟨"FeedbackQueuesModel", "work", "(I)V"⟩, 24)]
theorem lw_r3 : ∀ q ∈ lw_privs_3, lw_okq q := List.forall_mem_cons.mpr ⟨lw_p32, List.forall_mem_cons.mpr ⟨lw_p33, List.forall_mem_cons.mpr ⟨lw_p34, List.forall_mem_cons.mpr ⟨lw_p35, List.forall_mem_cons.mpr ⟨lw_p36, List.forall_mem_cons.mpr ⟨lw_p37, List.forall_mem_cons.mpr ⟨lw_p38, List.forall_mem_cons.mpr ⟨lw_p39, List.forall_mem_cons.mpr ⟨lw_p40, List.forall_mem_cons.mpr ⟨lw_p41, List.forall_mem_cons.mpr ⟨lw_p42, List.forall_mem_cons.mpr ⟨lw_p43, List.forall_mem_cons.mpr ⟨lw_p44, fun _ h => absurd h List.not_mem_nil⟩⟩⟩⟩⟩⟩⟩⟩⟩⟩⟩⟩⟩
def lw_privs : List (MethodName × Nat) := lw_privs_1 ++ (lw_privs_2 ++ (lw_privs_3))
def lw_tbl : List Cond := k2_sels lw_privs ++ tables_1
theorem lw_privs_ok : ∀ q ∈ lw_privs, lw_okq q := by
  show ∀ q ∈ lw_privs_1 ++ (lw_privs_2 ++ (lw_privs_3)), lw_okq q
  exact List.forall_mem_append.mpr ⟨lw_r1, List.forall_mem_append.mpr ⟨lw_r2, lw_r3⟩⟩
-- ===== end of PART A; then your names; then what follows =====
end
section
/-! ===== BEGIN words of one list among another's, by their places ===== -/
theorem goodIn_r {big : List Cond} (ws : List Cond) (ps : List Nat) (hp : ws = ps.filterMap (fun i => big[i]?)) (h : ws.all goodWord = true) : GoodIn big ws := by
  intro w hw
  have h1 := List.all_eq_true.mp h w hw
  rw [hp] at hw
  obtain ⟨i, -, hi⟩ := List.mem_filterMap.mp hw
  have hm : w ∈ big := by first | exact List.mem_of_getElem? hi | exact List.getElem?_mem hi
  exact ⟨hm, good_of_word h1⟩
theorem goodIn_app {big a b : List Cond} (ha : GoodIn big a) (hb : GoodIn big b) : GoodIn big (a ++ b) := fun w h => (List.mem_append.mp h).elim (ha w) (hb w)
theorem goodIn_ca {big a b : List Cond} {c : Cond} (ha : GoodIn big (c :: a)) (hb : GoodIn big b) : GoodIn big (c :: (a ++ b)) := fun w h => (List.mem_cons.mp h).elim (fun e => ha w (List.mem_cons.mpr (Or.inl e))) (fun h => (List.mem_append.mp h).elim (fun h => ha w (List.mem_cons.mpr (Or.inr h))) (hb w))
theorem goodIn_sub {big ws : List Cond} (hm : ∀ w ∈ ws, w ∈ big) (h : ws.all goodWord = true) : GoodIn big ws := fun w hw => ⟨hm w hw, good_of_word (List.all_eq_true.mp h w hw)⟩
/-! ===== END ===== -/

/-! ===== BEGIN exceptions that leave a method, and their catching by the caller (launches without stack traces) ===== -/
section VXA
/-! The laws vx_back, vx_callV, vx_callS, vx_callSW, vx_throw0, vx_throwS follow proofs of the library, with one case more: JvmDerived/Free/Laws.lean (Back.of_free), Shelf42/LK1.lean (callV, callS), Shelf/KitTraced.lean (throwNew0V, throwNewS). -/
open Bundle
/-- where a method has thrown q: the class by its name, the cell, what was written, the world -/
def vx_T (XC : String → State → State → Prop) (st : State) (q : Addr) (t : State) (mc ms : Nat) (free : Addr → Prop) : Prop :=
  ∃ (E : String) (ce : Cell) (L : List Loc), XC E st t ∧ t.heap[q]? = some ce ∧ ce.vm = .none ∧ st.vm.findClass E = some ce.cls ∧ st.WarmedH t.vm ∧ st.sameButNew ({ t with vm := st.vm } : State) L mc ms ∧ ∀ z ∈ L, free z.base
def vx_Q (Qc : Array Value → State → Outcome → State → Prop) (XC : String → State → State → Prop) (mc ms : Nat) (free : Addr → Prop) : Array Value → State → Outcome → State → Prop := fun a st o t =>
  (Qc a st o t ∧ ∃ L, FrameEnd st o t L mc ms ∧ ∀ q ∈ L, free q.base) ∨ ∃ q, o = .threw q ∧ vx_T XC st q t mc ms free
/-- a callee that returns or throws -/
def vx_Met (l : Launch) (y : MethodName) (ws : List Cond) (rm : Room) (Pc : Array Value → State → Prop) (Qc : Array Value → State → Outcome → State → Prop) (XC : String → State → State → Prop) (mc ms : Nat) (free : Addr → Prop) : Prop :=
  MetFree l y (headSpec ws rm) Pc (fun _ _ _ _ _ => True) (vx_Q Qc XC mc ms free)
def vx_Post (XC : String → State → State → Prop) (mc ms : Nat) (free : Addr → Prop) : Pt → Array Value → Addr → Pt → Prop := fun A a q B =>
  ∃ (g : JFrame) (mk : MethodId) (t : State) (L : List Loc) (E : String) (ce : Cell), B.U.heap = t.heap ∧ B.U.vm = t.vm ∧ XC E (A.U.calling g mk a) t ∧ t.heap[q]? = some ce ∧ ce.vm = .none ∧ A.U.vm.findClass E = some ce.cls ∧ B.locs = A.locs ++ L ∧ (∀ z ∈ L, free z.base) ∧ B.cells = A.cells + mc ∧ B.slots = A.slots + ms
def vx_Back (l : Launch) (R : Room) (p : Program) (e : Env) (below : List Frame) (s : State) (sargs : Array Value) (y : MethodName) (len W9 : Nat)
    (Pre : Pt → Array Value → Prop) (Post : Pt → Array Value → Option Value → Pt → Prop) (PostX : Pt → Array Value → Addr → Pt → Prop) : Prop :=
  ∀ (m : MethodId) (meth : Method) (c : Code) (A : Pt) (g : JFrame) (ig : Instr) (mk : MethodId) (a : Array Value),
    Stand p l e R s m sargs below meth c A.U A.locs A.cells A.slots → g.method = m → g.locals.size = c.maxLocals → decode c.code g.pc = .ok (ig, len) →
    2 * g.monitorRoom + (g.stack.map fun v => v.category).sum ≤ W9 → A.U.methodNamed? y = some mk → Pre A a →
    (∃ (v : Option Value) (B : Pt), Stand p l e R s m sargs below meth c B.U B.locs B.cells B.slots ∧ Post A a v B ∧
      Steps p.tables e below (doInvoke e (A.U.setTop g) [] mk a).1 (B.U.setTop { g with pc := g.pc + len, stack := v.toList ++ g.stack })) ∨
    (∃ (q : Addr) (B : Pt), Stand p l e R s m sargs below meth c B.U B.locs B.cells B.slots ∧ PostX A a q B ∧
      Steps p.tables e below (doInvoke e (A.U.setTop g) [] mk a).1 ((B.U.setTop g).pushFrame (.throwing q)))
section Payer
variable {l : Launch} {R : Room} {p : Program} {e : Env} {below : List Frame} {s : State} {sargs : Array Value} {y : MethodName} {len W9 : Nat}
theorem vx_back {ws : List Cond} {rm : Room} {Pc : Array Value → State → Prop} {Qc : Array Value → State → Outcome → State → Prop} {XC : String → State → State → Prop} {mc ms : Nat} {free : Addr → Prop} {bytes : ByteArray} {maxL : Nat} {ret : Option FieldType}
    (hM : vx_Met l y ws rm Pc Qc XC mc ms free) (hblind : FrameBlind Pc) (hrc : rm.cells = mc) (hrs : rm.slots = ms)
    (hframes : rm.frames + 1 ≤ R.frames) (hlocals : W9 + (maxL + 11) + rm.locals ≤ R.locals)
    (hws : ∀ w ∈ ws, ∀ a' U, s.WarmedH U.vm → w.before a' U = true) (hcode : Cond.code y bytes maxL ret ∈ ws) (hinit : ∀ a' U, s.WarmedH U.vm → (Cond.initialized y.cls).before a' U = true) :
    vx_Back l R p e below s sargs y len W9 (PreOf R mc ms Pc) (PostOf Qc mc ms free) (vx_Post XC mc ms free) := by
  intro m meth c A g ig mk a X hg hsize hdg hW hn hp
  have h1 : (headSpec ws rm).pre.before a A.U = true := atoms_intro fun w hw => hws w hw _ _ X.warmed
  have h2 : (Cond.code y bytes maxL ret).before a A.U = true := hws _ hcode _ _ X.warmed
  have h3 : (Cond.initialized y.cls).before a A.U = true := hinit _ _ X.warmed
  have h4 : A.cells + (headSpec ws rm).room.cells ≤ R.cells := by rw [show (headSpec ws rm).room.cells = mc from hrc]; exact hp.1
  have h5 : A.slots + (headSpec ws rm).room.slots ≤ R.slots := by rw [show (headSpec ws rm).room.slots = ms from hrs]; exact hp.2.1
  have hPc : Pc a (A.U.calling g mk a) := hblind _ _ _ _ hp.2.2
  obtain ⟨U, Ls, c0, s0⟩ := A
  dsimp only [Pt.U, Pt.locs, Pt.cells, Pt.slots] at h1 h2 h3 h4 h5 X hn hPc ⊢
  obtain ⟨methY, cY, hmY, hcY, -, hlY, -, -, -, -⟩ := Cond.code_spec hn h2
  obtain ⟨kY, hkY, -⟩ := className_of_methodNamed hn
  have hinitY : kY.init = .initialized := Cond.initialized_spec (findClass_of_methodNamed hn) hkY h3
  have h : At U g.method c below := by rw [hg]; exact X.here
  have hlocals9 : W9 + (maxL + 11) + (headSpec ws rm).room.locals ≤ R.locals := hlocals
  have happ : (headSpec ws rm).appliesLoose y e.platform (U.calling g mk a) = true :=
    Spec.appliesLoose_calling (g := g) h hdg hn hkY hinitY
      (X.room_calling (g := g) (R' := (headSpec ws rm).room) hsize hmY hcY hframes (by rw [hlY]; omega) h4 h5) h1
  obtain ⟨mid, hmid⟩ := h.above
  have hfr : (U.setTop g).frames = (.java g :: mid) ++ below := by rw [State.frames_setTop' g h.top, hmid]; rfl
  obtain ⟨o, s₂, hsteps, -, hend, hq⟩ := Steps.callFree hM p X.admits X.cas X.clock (acts := []) hfr happ hPc trivial
  have hq' : vx_Q Qc XC mc ms free a (U.calling g mk a) o s₂ := hq
  rw [State.frames_setTop' g h.top] at hend
  obtain ⟨g₀, hg0⟩ := Option.isSome_iff_exists.mp h.top
  obtain ⟨r, hr⟩ := State.topJava?_eq_some.mp hg0
  have hr' : (({ U with heap := s₂.heap, slotsUsed := s₂.slotsUsed } : State).setVm s₂.vm).frames = .java g₀ :: r := hr
  rcases hq' with ⟨hqc, L, hfe, hL⟩ | ⟨q, rfl, E, ce, L, hx, hce, hcv, hcl, hW₂, hsm, hL⟩
  · obtain ⟨⟨v, rfl⟩, hW₂, e2, q2, q3, q4, q5, q6⟩ := id hfe
    have e3 : s₂ = ({ (U.calling g mk a).setFrames s₂.frames with heap := s₂.heap, slotsUsed := s₂.slotsUsed } : State).setVm s₂.vm := by
      have : s₂ = ({ s₂ with vm := (U.calling g mk a).vm } : State).setVm s₂.vm := rfl
      rw [e2] at this
      exact this
    obtain ⟨c₂, i₂, len₂, hc₂, hd₂, hf₂⟩ := hend
    have hW' : U.WarmedH s₂.vm := hW₂
    have hcc : c₂ = c := by
      have h1 : s₂.code? g.method = U.code? g.method := by
        rw [State.code?_eq, State.code?_eq, hW'.alike.method?]
      exact Option.some.inj (hc₂.symm.trans (h1.trans h.code))
    subst hcc
    have hlen : len₂ = len := by rw [hdg] at hd₂; cases hd₂; rfl
    subst hlen
    have hs₂ : s₂ = (({ U with heap := s₂.heap, slotsUsed := s₂.slotsUsed } : State).setVm s₂.vm).setTop { g with pc := g.pc + len₂, stack := v.toList ++ g.stack } := by
      refine e3.trans ?_
      rw [hf₂, State.calling_eq h.top, State.setFrames_setFrames, State.setTop_of_frames _ hr', hr]
      rfl
    have hsame : U.sameButNew ({ U with heap := s₂.heap, slotsUsed := s₂.slotsUsed } : State) L mc ms := by
      refine ⟨?_, q2, q3, q4, q5, q6⟩
      obtain ⟨t, ht, -⟩ := State.frames_cons hr
      show ({ U with heap := s₂.heap, slotsUsed := s₂.slotsUsed } : State) = { U.setFrames U.frames with heap := s₂.heap, slotsUsed := s₂.slotsUsed }
      rw [State.setFrames_self ht]
    subst hg
    refine Or.inl ⟨v, ⟨(({ U with heap := s₂.heap, slotsUsed := s₂.slotsUsed } : State).setVm s₂.vm), Ls ++ L, c0 + mc, s0 + ms⟩,
      ⟨X.admits, X.cas, X.clock, X.frames, X.room, X.hears, X.method, X.code, (X.here.setHeapUsed s₂.heap s₂.slotsUsed).setVm hW'.alike, X.tail, State.WarmedH.trans X.warmed hW', X.limits, X.bytes, X.same.trans (hsame.setVm s.vm)⟩,
      ⟨g, mk, s₂, L, rfl, rfl, hqc, rfl, hL, rfl, rfl⟩, ?_⟩
    show Steps p.tables e below _ ((({ U with heap := s₂.heap, slotsUsed := s₂.slotsUsed } : State).setVm s₂.vm).setTop { g with pc := g.pc + len₂, stack := v.toList ++ g.stack })
    rw [← hs₂]
    exact hsteps
  · obtain ⟨e2, q2, q3, q4, q5, q6⟩ := id hsm
    have e3 : s₂ = ({ (U.calling g mk a).setFrames s₂.frames with heap := s₂.heap, slotsUsed := s₂.slotsUsed } : State).setVm s₂.vm := by
      have : s₂ = ({ s₂ with vm := (U.calling g mk a).vm } : State).setVm s₂.vm := rfl
      rw [e2] at this
      exact this
    have hf₂ : s₂.frames = .throwing q :: .java g :: U.frames.tail := hend
    have hW' : U.WarmedH s₂.vm := hW₂
    have hs₂ : s₂ = ((({ U with heap := s₂.heap, slotsUsed := s₂.slotsUsed } : State).setVm s₂.vm).setTop g).pushFrame (.throwing q) := by
      refine e3.trans ?_
      rw [hf₂, State.calling_eq h.top, State.setFrames_setFrames, State.pushFrame, State.frames_setTop _ hr', State.setTop_of_frames _ hr', State.setFrames_setFrames, hr]
      rfl
    have hsame : U.sameButNew ({ U with heap := s₂.heap, slotsUsed := s₂.slotsUsed } : State) L mc ms := by
      refine ⟨?_, q2, q3, q4, q5, q6⟩
      obtain ⟨t, ht, -⟩ := State.frames_cons hr
      show ({ U with heap := s₂.heap, slotsUsed := s₂.slotsUsed } : State) = { U.setFrames U.frames with heap := s₂.heap, slotsUsed := s₂.slotsUsed }
      rw [State.setFrames_self ht]
    subst hg
    refine Or.inr ⟨q, ⟨(({ U with heap := s₂.heap, slotsUsed := s₂.slotsUsed } : State).setVm s₂.vm), Ls ++ L, c0 + mc, s0 + ms⟩,
      ⟨X.admits, X.cas, X.clock, X.frames, X.room, X.hears, X.method, X.code, (X.here.setHeapUsed s₂.heap s₂.slotsUsed).setVm hW'.alike, X.tail, State.WarmedH.trans X.warmed hW', X.limits, X.bytes, X.same.trans (hsame.setVm s.vm)⟩,
      ⟨g, mk, s₂, L, E, ce, rfl, rfl, hx, hce, hcv, hcl, rfl, hL, rfl, rfl⟩, ?_⟩
    show Steps p.tables e below _ (((({ U with heap := s₂.heap, slotsUsed := s₂.slotsUsed } : State).setVm s₂.vm).setTop g).pushFrame (.throwing q))
    rw [← hs₂]
    exact hsteps
end Payer
section Calls
variable {p : Program} {l : Launch} {e : Env} {R : Room} {s : State} {m : MethodId} {args : Array Value} {below : List Frame} {meth : Method} {c : Code} {T : State} {locs : List Loc} {cells slots : Nat}
theorem vx_callV (X : Stand p l e R s m args below meth c T locs cells slots) (hexec : p.tables.exec = Jvm.exec) {own C : String} {index : Nat} {y : MethodName} {bytes : ByteArray} {maxL : Nat} {ret : Option FieldType}
    (hown : s.vm.findClass own = some m.cls) (hlink : (Cond.methodLink own index y).before args s = true) (hinst : (Cond.instanceMethod y).before args s = true) (hsel : (Cond.selects C y y).before args s = true)
    (hcode : (Cond.code y bytes maxL ret).before args s = true) (hy : y.cls ≠ "java/lang/invoke/MethodHandle" ∧ y.cls ≠ "java/lang/invoke/VarHandle")
    {W9 : Nat} {Pre : Pt → Array Value → Prop} {Post : Pt → Array Value → Option Value → Pt → Prop} {PostX : Pt → Array Value → Addr → Pt → Prop} (hK : vx_Back l R p e below s args y 3 W9 Pre Post PostX)
    {b : Addr} {cellB : Cell} (hcell : T.heap[b]? = some cellB) (hobj : cellB.vm.isStatics = false) (hcls : s.vm.findClass C = some cellB.cls)
    {g : JFrame} (hg : g.method = m) (hsize : g.locals.size = c.maxLocals) {argsL rest : List Value} (hlen : ∀ sig, parseMethodDescriptor y.desc = some sig → argsL.length = sig.parameters.length)
    (hstack : g.stack = argsL.reverse ++ .ref b :: rest) (hW : 2 * g.monitorRoom + (rest.map fun v => v.category).sum ≤ W9) (hdg : decode c.code g.pc = .ok (.invokevirtual index, 3))
    (hpre : ∀ vm₁, s.WarmedH vm₁ → Pre ⟨T.setVm vm₁, locs, cells, slots⟩ (Value.ref b :: argsL).toArray) :
    (∃ (v : Option Value) (vm₁ : Vm) (B : Pt), s.WarmedH vm₁ ∧ Stand p l e R s m args below meth c B.U B.locs B.cells B.slots ∧ Post ⟨T.setVm vm₁, locs, cells, slots⟩ (Value.ref b :: argsL).toArray v B ∧
      ∀ target, Steps p.tables e below (B.U.setTop { g with pc := g.pc + 3, stack := v.toList ++ rest }) target → Steps p.tables e below (T.setTop g) target) ∨
    (∃ (q : Addr) (vm₁ : Vm) (B : Pt), s.WarmedH vm₁ ∧ Stand p l e R s m args below meth c B.U B.locs B.cells B.slots ∧ PostX ⟨T.setVm vm₁, locs, cells, slots⟩ (Value.ref b :: argsL).toArray q B ∧
      Steps p.tables e below (T.setTop g) ((B.U.setTop { g with stack := rest }).pushFrame (.throwing q))) := by
  obtain ⟨mk, methM, hnamed, hmethM, hstM, habM⟩ := Cond.instanceMethod_spec hinst
  obtain ⟨methM', cM, hmethM', -, -, -, -, -, -, hsigM⟩ := Cond.code_spec hnamed hcode
  cases hmethM.symm.trans hmethM'
  obtain ⟨c2, r2, m2, q1, q2, q3, q4, kP, hkP, hkPi⟩ := Cond.selects_spec hsel
  cases hcls.symm.trans q1
  cases (State.methodFound?_of_named hnamed hy).symm.trans q2
  cases hnamed.symm.trans q3
  have hselP : selectMethod e.platform s.vm cellB.cls mk = .method mk := by rw [Launch.admits_selectMethod X.admits]; exact q4
  obtain ⟨vm₁, X₁, hstep₁⟩ := X.invokevirtual hexec hown hlink hnamed hmethM hstM hkP hkPi hy (a := b) (cell := cellB) hcell
    (fun z h => by rw [h] at hobj; cases hobj) hselP hmethM habM hkP hkPi (g := g) hg (argsL := argsL) (rest := rest) (hlen _ hsigM) hstack hdg
  rcases hK m meth c ⟨T.setVm vm₁, locs, cells, slots⟩ { g with stack := rest } (.invokevirtual index) mk (Value.ref b :: argsL).toArray X₁ hg hsize hdg hW (X₁.named hnamed) (hpre vm₁ X₁.warmed) with ⟨v, B, X', hpost, hsteps⟩ | ⟨q, B, X', hpost, hsteps⟩
  · exact Or.inl ⟨v, vm₁, B, X₁.warmed, X', hpost, fun target h => hstep₁ _ fun acts => by rw [doInvoke_state]; exact hsteps.trans h⟩
  · exact Or.inr ⟨q, vm₁, B, X₁.warmed, X', hpost, hstep₁ _ fun acts => by rw [doInvoke_state]; exact hsteps⟩
theorem vx_callS (X : Stand p l e R s m args below meth c T locs cells slots) (hexec : p.tables.exec = Jvm.exec) {own : String} {index : Nat} {y : MethodName} {bytes : ByteArray} {maxL : Nat} {ret : Option FieldType}
    (hown : s.vm.findClass own = some m.cls) (hlink : (Cond.methodLink own index y).before args s = true) (hstat : (Cond.static y).before args s = true) (hinit : (Cond.initialized y.cls).before args s = true)
    (hcode : (Cond.code y bytes maxL ret).before args s = true) (hy : y.cls ≠ "java/lang/invoke/MethodHandle" ∧ y.cls ≠ "java/lang/invoke/VarHandle")
    {W9 : Nat} {Pre : Pt → Array Value → Prop} {Post : Pt → Array Value → Option Value → Pt → Prop} {PostX : Pt → Array Value → Addr → Pt → Prop} (hK : vx_Back l R p e below s args y 3 W9 Pre Post PostX)
    {g : JFrame} (hg : g.method = m) (hsize : g.locals.size = c.maxLocals) {argsL rest : List Value} (hlen : ∀ sig, parseMethodDescriptor y.desc = some sig → argsL.length = sig.parameters.length)
    (hstack : g.stack = argsL.reverse ++ rest) (hW : 2 * g.monitorRoom + (rest.map fun v => v.category).sum ≤ W9) (hdg : decode c.code g.pc = .ok (.invokestatic index, 3))
    (hpre : ∀ vm₁, s.WarmedH vm₁ → Pre ⟨T.setVm vm₁, locs, cells, slots⟩ argsL.toArray) :
    (∃ (v : Option Value) (vm₁ : Vm) (B : Pt), s.WarmedH vm₁ ∧ Stand p l e R s m args below meth c B.U B.locs B.cells B.slots ∧ Post ⟨T.setVm vm₁, locs, cells, slots⟩ argsL.toArray v B ∧
      ∀ target, Steps p.tables e below (B.U.setTop { g with pc := g.pc + 3, stack := v.toList ++ rest }) target → Steps p.tables e below (T.setTop g) target) ∨
    (∃ (q : Addr) (vm₁ : Vm) (B : Pt), s.WarmedH vm₁ ∧ Stand p l e R s m args below meth c B.U B.locs B.cells B.slots ∧ PostX ⟨T.setVm vm₁, locs, cells, slots⟩ argsL.toArray q B ∧
      Steps p.tables e below (T.setTop g) ((B.U.setTop { g with stack := rest }).pushFrame (.throwing q))) := by
  obtain ⟨mk, hnamed⟩ := Cond.code_named hcode
  obtain ⟨methM, cM, hmethM, -, -, -, -, -, -, hsigM⟩ := Cond.code_spec hnamed hcode
  have hstatic : methM.isStatic = true := Cond.static_spec hnamed hmethM hstat
  obtain ⟨kP, hkP, -⟩ := className_of_methodNamed hnamed
  have hinitP : kP.init = .initialized := Cond.initialized_spec (findClass_of_methodNamed hnamed) hkP hinit
  obtain ⟨vm₁, X₁, hstep₁⟩ := X.invokestatic hexec hown hlink hnamed hmethM hstatic hkP hinitP hy (g := g) hg (argsL := argsL) (rest := rest) (hlen _ hsigM) hstack hdg
  rcases hK m meth c ⟨T.setVm vm₁, locs, cells, slots⟩ { g with stack := rest } (.invokestatic index) mk argsL.toArray X₁ hg hsize hdg hW (X₁.named hnamed) (hpre vm₁ X₁.warmed) with ⟨v, B, X', hpost, hsteps⟩ | ⟨q, B, X', hpost, hsteps⟩
  · exact Or.inl ⟨v, vm₁, B, X₁.warmed, X', hpost, fun target h => hstep₁ _ fun acts => by rw [doInvoke_state]; exact hsteps.trans h⟩
  · exact Or.inr ⟨q, vm₁, B, X₁.warmed, X', hpost, hstep₁ _ fun acts => by rw [doInvoke_state]; exact hsteps⟩
end Calls
theorem vx_cls {s : State} {T : State} {vm₁ : Vm} {E : String} {k : ClassId} (hW : s.WarmedH vm₁) (h : (T.setVm vm₁).vm.findClass E = some k) : s.vm.findClass E = some k := by
  have h1 : vm₁.findClass E = some k := h
  rw [hW.alike.findClass] at h1
  exact h1
/-- the method's frame g, with q thrown over it -/
def vx_W (p : Program) (l : Launch) (e : Env) (R : Room) (s : State) (m : MethodId) (args : Array Value) (below : List Frame) (meth : Method) (c : Code) (H : Heap) (locs : List Loc) (cells slots : Nat) (Q : State → Prop) (g : JFrame) (q : Addr) : Prop :=
  ∀ T : State, T.heap = H → Stand p l e R s m args below meth c T locs cells slots → ∃ t, Steps p.tables e below ((T.setTop g).pushFrame (.throwing q)) t ∧ Q t
def vx_Run (p : Program) (l : Launch) (e : Env) (R : Room) (s : State) (m : MethodId) (args : Array Value) (below : List Frame) (meth : Method) (c : Code) (H : Heap) (locs : List Loc) (cells slots mc ms : Nat) (g : JFrame) (rest : List Value) (Qa : State → Outcome → State → Prop) (XC : String → State → State → Prop) (free : Addr → Prop) : Prop :=
  ∀ T : State, T.heap = H → Stand p l e R s m args below meth c T locs cells slots →
    (∃ (v : Option Value) (st₀ t T' : State) (L : List Loc), st₀.heap = H ∧ Stand p l e R s m args below meth c T' (locs ++ L) (cells + mc) (slots + ms) ∧ (∀ q ∈ L, free q.base) ∧ T'.heap = t.heap ∧ T'.vm = t.vm ∧ Qa st₀ (.returned v) t ∧
      Goes p e below T g T' { g with pc := g.pc + 3, stack := v.toList ++ rest }) ∨
    (∃ (q : Addr) (st₀ t T' : State) (L : List Loc) (E : String) (ce : Cell), st₀.heap = H ∧ Stand p l e R s m args below meth c T' (locs ++ L) (cells + mc) (slots + ms) ∧ (∀ z ∈ L, free z.base) ∧ T'.heap = t.heap ∧ T'.vm = t.vm ∧ XC E st₀ t ∧ t.heap[q]? = some ce ∧ ce.vm = .none ∧ s.vm.findClass E = some ce.cls ∧
      Steps p.tables e below (T.setTop g) ((T'.setTop { g with stack := rest }).pushFrame (.throwing q)))
def vx_X {S : Type} (px : S → Prop) (B : String → S → State → Prop) (A : Nat → Prop) : String → State → State → Prop := fun E st t => ∃ u : S, px u ∧ B E u t ∧ va_F A st t
section Runs
variable {p : Program} {l : Launch} {e : Env} {R : Room} {s : State} {m : MethodId} {args : Array Value} {below : List Frame} {meth : Method} {c : Code} {H : Heap} {locs : List Loc} {cells slots : Nat}
variable {y : MethodName} {bytes cc : ByteArray} {maxL nL mc ms n index : Nat} {ret : Option FieldType} {ws : List Cond} {rm : Room} {Pc : Array Value → State → Prop} {Qc : Array Value → State → Outcome → State → Prop} {XC : String → State → State → Prop} {free : Addr → Prop} {Ts : List Cond} {own C : String} {b : Addr} {As rest : List Value} {g : JFrame}
theorem vx_callBack (cb : CallB R s args own index y bytes maxL ret ws rm mc ms n) (hM : vx_Met l y ws rm Pc Qc XC mc ms free) (hbl : FrameBlind Pc) : vx_Back l R p e below s args y 3 8 (PreOf R mc ms Pc) (PostOf Qc mc ms free) (vx_Post XC mc ms free) := by
  obtain ⟨hrc, hrs, hfr, hlo, hws, hcw, -, hini, -⟩ := cb
  exact vx_back (bytes := bytes) (maxL := maxL) (ret := ret) hM hbl hrc hrs hfr hlo hws hcw (fun a' U hW => word_at hW (Or.inl (by first | rfl | simp [Cond.onTables, Cond.keeps, Cond.steady])) hini)
theorem vx_runV (S : CallFix p m c cc nL s args Ts own) (hM : vx_Met l y ws rm Pc Qc XC mc ms free) (cw : CallW R s args own C index y bytes maxL ret ws rm mc ms n) (hp : PreV s H C b Pc As)
    (hg : g.method = m) (hn : As.length = n) (hsize : g.locals.size = nL) (hstack : g.stack = As.reverse ++ .ref b :: rest) (hW : 2 * g.monitorRoom + (rest.map fun v => v.category).sum ≤ 8) (hdg : decode cc g.pc = .ok (.invokevirtual index, 3)) (hf : cells + mc ≤ R.cells ∧ slots + ms ≤ R.slots) :
    vx_Run p l e R s m args below meth c H locs cells slots mc ms g rest (Qc (Value.ref b :: As).toArray) XC free := by
  have hK : vx_Back l R p e below s args y 3 8 (PreOf R mc ms Pc) (PostOf Qc mc ms free) (vx_Post XC mc ms free) := vx_callBack cw.1 hM hp.1
  obtain ⟨⟨-, -, -, -, -, -, hcode, -, hy, hlen, hl⟩, hin, hse⟩ := cw
  obtain ⟨hx, hb, hml, ho, -⟩ := S
  obtain ⟨-, ⟨cellB, hcB, hoB, hclB⟩, hPc⟩ := hp
  intro T hT X
  rcases vx_callV X hx (C := C) (bytes := bytes) (maxL := maxL) (ret := ret) ho hl hin hse hcode hy hK (by rw [hT]; exact hcB) hoB hclB hg (hsize.trans hml.symm) (argsL := As) (rest := rest) (fun sig h => hn.trans (hlen sig h)) hstack hW (by rw [hb]; exact hdg)
    (fun vm₁ hW₁ => ⟨hf.1, hf.2, hPc (T.setVm vm₁) hT hW₁⟩) with ⟨v, vm₁, ⟨U', l2, c2, s2⟩, hW₁, X', ⟨g', mk, t, L, e1, e2, hq, h1, hL, h2, h3⟩, st⟩ | ⟨q, vm₁, ⟨U', l2, c2, s2⟩, hW₁, X', ⟨g', mk, t, L, E, ce, e1, e2, hq, hce, hcv, hcl, h1, hL, h2, h3⟩, st⟩
  · dsimp only [Pt.U, Pt.locs, Pt.cells, Pt.slots] at X' e1 e2 h1 h2 h3 st
    subst h1; subst h2; subst h3
    exact Or.inl ⟨v, (T.setVm vm₁).calling g' mk (Value.ref b :: As).toArray, t, U', L, hT, X', hL, e1, e2, hq, st⟩
  · dsimp only [Pt.U, Pt.locs, Pt.cells, Pt.slots] at X' e1 e2 h1 h2 h3 st hcl
    subst h1; subst h2; subst h3
    exact Or.inr ⟨q, (T.setVm vm₁).calling g' mk (Value.ref b :: As).toArray, t, U', L, E, ce, hT, X', hL, e1, e2, hq, hce, hcv, vx_cls hW₁ hcl, st⟩
theorem vx_runS (S : CallFix p m c cc nL s args Ts own) (hM : vx_Met l y ws rm Pc Qc XC mc ms free) (cw : CallB R s args own index y bytes maxL ret ws rm mc ms n ∧ (Cond.static y).before args s = true) (hp : PreS s H Pc As)
    (hg : g.method = m) (hn : As.length = n) (hsize : g.locals.size = nL) (hstack : g.stack = As.reverse ++ rest) (hW : 2 * g.monitorRoom + (rest.map fun v => v.category).sum ≤ 8) (hdg : decode cc g.pc = .ok (.invokestatic index, 3)) (hf : cells + mc ≤ R.cells ∧ slots + ms ≤ R.slots) :
    vx_Run p l e R s m args below meth c H locs cells slots mc ms g rest (Qc As.toArray) XC free := by
  have hK : vx_Back l R p e below s args y 3 8 (PreOf R mc ms Pc) (PostOf Qc mc ms free) (vx_Post XC mc ms free) := vx_callBack cw.1 hM hp.1
  obtain ⟨⟨-, -, -, -, -, -, hcode, hini, hy, hlen, hl⟩, hstt⟩ := cw
  obtain ⟨hx, hb, hml, ho, -⟩ := S
  intro T hT X
  rcases vx_callS X hx (bytes := bytes) (maxL := maxL) (ret := ret) ho hl hstt hini hcode hy hK hg (hsize.trans hml.symm) (argsL := As) (rest := rest) (fun sig h => hn.trans (hlen sig h)) hstack hW (by rw [hb]; exact hdg)
    (fun vm₁ hW₁ => ⟨hf.1, hf.2, hp.2 (T.setVm vm₁) hT hW₁⟩) with ⟨v, vm₁, ⟨U', l2, c2, s2⟩, hW₁, X', ⟨g', mk, t, L, e1, e2, hq, h1, hL, h2, h3⟩, st⟩ | ⟨q, vm₁, ⟨U', l2, c2, s2⟩, hW₁, X', ⟨g', mk, t, L, E, ce, e1, e2, hq, hce, hcv, hcl, h1, hL, h2, h3⟩, st⟩
  · dsimp only [Pt.U, Pt.locs, Pt.cells, Pt.slots] at X' e1 e2 h1 h2 h3 st
    subst h1; subst h2; subst h3
    exact Or.inl ⟨v, (T.setVm vm₁).calling g' mk As.toArray, t, U', L, hT, X', hL, e1, e2, hq, st⟩
  · dsimp only [Pt.U, Pt.locs, Pt.cells, Pt.slots] at X' e1 e2 h1 h2 h3 st hcl
    subst h1; subst h2; subst h3
    exact Or.inr ⟨q, (T.setVm vm₁).calling g' mk As.toArray, t, U', L, E, ce, hT, X', hL, e1, e2, hq, hce, hcv, vx_cls hW₁ hcl, st⟩
end Runs
section Rows
variable {p : Program} {l : Launch} {e : Env} {R : Room} {s : State} {m : MethodId} {args : Array Value} {below : List Frame} {meth : Method} {c : Code} {H : Heap} {locs : List Loc} {cells slots : Nat} {Q : State → Prop}
variable {mc ms : Nat} {free : Addr → Prop} {A0 A1 : Nat → Prop} {H0 : Heap} {a : Array Value} {pc : Nat} {ls : Array Slot} {st0 rest : List Value}
theorem vx_keep {st₀ t T' : State} {L : List Loc} (h0 : st₀.heap = H) (e1 : T'.heap = t.heap) (hS : va_S A0 H0 H locs) (hA : ∀ q, q < H.size → A1 q → A0 q) (hf : ∀ q, free q → A0 q) (hL : ∀ q ∈ L, free q.base) (hF : va_F A1 st₀ t) :
    H.size ≤ T'.heap.size ∧ (∀ q : Nat, q < H.size → ¬ A1 q → T'.heap[q]? = H[q]?) ∧ va_S A0 H0 T'.heap (locs ++ L) := by
  obtain ⟨hz, hk⟩ := hF
  rw [h0] at hz hk
  exact ⟨by rw [e1]; exact hz, fun q h1 h2 => by rw [e1]; exact hk q h1 h2,
    ⟨Nat.le_trans hS.1 (by rw [e1]; exact hz), fun q h1 h2 => by rw [e1, hk q (Nat.lt_of_lt_of_le h1 hS.1) (fun z => h2 (hA q (Nat.lt_of_lt_of_le h1 hS.1) z))]; exact hS.2.1 q h1 h2, fun q hq => by
      rcases List.mem_append.mp hq with h | h
      · exact hS.2.2 q h
      · exact hf _ (hL q h)⟩⟩
theorem vx_calli {S SX : Type} {post : Int32 → S → Prop} {px : SX → Prop} {B : S → State → Prop} {BX : String → SX → State → Prop} {AX : Nat → Prop} (hr : vx_Run p l e R s m args below meth c H locs cells slots mc ms (F0 m pc ls st0) rest (va_Qi post B A1 a) (vx_X px BX AX) free) (hS : va_S A0 H0 H locs) (hA : ∀ q, q < H.size → A1 q → A0 q) (hf : ∀ q, free q → A0 q) (hAX : ∀ q, q < H.size → AX q → A0 q)
    (kx : ∀ (E : String) (ce : Cell) (q9 : Addr) (u : SX) (t : State) (H1 : Heap) (locs1 : List Loc), t.heap = H1 → s.vm.Alike t.vm → px u → BX E u t → H.size ≤ H1.size → (∀ q : Nat, q < H.size → ¬ AX q → H1[q]? = H[q]?) → va_S A0 H0 H1 locs1 → H1[q9]? = some ce → ce.vm = .none → s.vm.findClass E = some ce.cls → vx_W p l e R s m args below meth c H1 locs1 (cells + mc) (slots + ms) Q (F0 m pc ls rest) q9)
    (kk : ∀ (r : Int32) (u : S) (t : State) (H1 : Heap) (locs1 : List Loc), t.heap = H1 → s.vm.Alike t.vm → post r u → B u t → H.size ≤ H1.size → (∀ q : Nat, q < H.size → ¬ A1 q → H1[q]? = H[q]?) → va_S A0 H0 H1 locs1 → W p l e R s m args below meth c H1 locs1 (cells + mc) (slots + ms) Q (F0 m (pc + 3) ls (.int r :: rest))) : W p l e R s m args below meth c H locs cells slots Q (F0 m pc ls st0) := by
  intro T hT X
  rcases hr T hT X with ⟨v, st₀, t, T', L, h0, X', hL, e1, e2, ⟨⟨r, u, hv, hp, hb⟩, hF⟩, st⟩ | ⟨q, st₀, t, T', L, E, ce, h0, X', hL, e1, e2, ⟨u, hp, hb, hF⟩, hce, hcv, hcl, st⟩
  · cases hv
    obtain ⟨k1, k2, k3⟩ := vx_keep h0 e1 hS hA hf hL hF
    obtain ⟨t2, a1, b1⟩ := kk r u t T'.heap (locs ++ L) e1.symm (by rw [← e2]; exact X'.warmed.alike) hp hb k1 k2 k3 T' rfl X'
    exact ⟨t2, st t2 a1, b1⟩
  · obtain ⟨k1, k2, k3⟩ := vx_keep h0 e1 hS hAX hf hL hF
    obtain ⟨t2, a1, b1⟩ := kx E ce q u t T'.heap (locs ++ L) e1.symm (by rw [← e2]; exact X'.warmed.alike) hp hb k1 k2 k3 (by rw [e1]; exact hce) hcv hcl T' rfl X'
    exact ⟨t2, st.trans a1, b1⟩
theorem vx_calll {S SX : Type} {post : Int64 → S → Prop} {px : SX → Prop} {B : S → State → Prop} {BX : String → SX → State → Prop} {AX : Nat → Prop} (hr : vx_Run p l e R s m args below meth c H locs cells slots mc ms (F0 m pc ls st0) rest (va_Ql post B A1 a) (vx_X px BX AX) free) (hS : va_S A0 H0 H locs) (hA : ∀ q, q < H.size → A1 q → A0 q) (hf : ∀ q, free q → A0 q) (hAX : ∀ q, q < H.size → AX q → A0 q)
    (kx : ∀ (E : String) (ce : Cell) (q9 : Addr) (u : SX) (t : State) (H1 : Heap) (locs1 : List Loc), t.heap = H1 → s.vm.Alike t.vm → px u → BX E u t → H.size ≤ H1.size → (∀ q : Nat, q < H.size → ¬ AX q → H1[q]? = H[q]?) → va_S A0 H0 H1 locs1 → H1[q9]? = some ce → ce.vm = .none → s.vm.findClass E = some ce.cls → vx_W p l e R s m args below meth c H1 locs1 (cells + mc) (slots + ms) Q (F0 m pc ls rest) q9)
    (kk : ∀ (r : Int64) (u : S) (t : State) (H1 : Heap) (locs1 : List Loc), t.heap = H1 → s.vm.Alike t.vm → post r u → B u t → H.size ≤ H1.size → (∀ q : Nat, q < H.size → ¬ A1 q → H1[q]? = H[q]?) → va_S A0 H0 H1 locs1 → W p l e R s m args below meth c H1 locs1 (cells + mc) (slots + ms) Q (F0 m (pc + 3) ls (.long r :: rest))) : W p l e R s m args below meth c H locs cells slots Q (F0 m pc ls st0) := by
  intro T hT X
  rcases hr T hT X with ⟨v, st₀, t, T', L, h0, X', hL, e1, e2, ⟨⟨r, u, hv, hp, hb⟩, hF⟩, st⟩ | ⟨q, st₀, t, T', L, E, ce, h0, X', hL, e1, e2, ⟨u, hp, hb, hF⟩, hce, hcv, hcl, st⟩
  · cases hv
    obtain ⟨k1, k2, k3⟩ := vx_keep h0 e1 hS hA hf hL hF
    obtain ⟨t2, a1, b1⟩ := kk r u t T'.heap (locs ++ L) e1.symm (by rw [← e2]; exact X'.warmed.alike) hp hb k1 k2 k3 T' rfl X'
    exact ⟨t2, st t2 a1, b1⟩
  · obtain ⟨k1, k2, k3⟩ := vx_keep h0 e1 hS hAX hf hL hF
    obtain ⟨t2, a1, b1⟩ := kx E ce q u t T'.heap (locs ++ L) e1.symm (by rw [← e2]; exact X'.warmed.alike) hp hb k1 k2 k3 (by rw [e1]; exact hce) hcv hcl T' rfl X'
    exact ⟨t2, st.trans a1, b1⟩
theorem vx_callf {S SX : Type} {post : UInt32 → S → Prop} {px : SX → Prop} {B : S → State → Prop} {BX : String → SX → State → Prop} {AX : Nat → Prop} (hr : vx_Run p l e R s m args below meth c H locs cells slots mc ms (F0 m pc ls st0) rest (va_Qf post B A1 a) (vx_X px BX AX) free) (hS : va_S A0 H0 H locs) (hA : ∀ q, q < H.size → A1 q → A0 q) (hf : ∀ q, free q → A0 q) (hAX : ∀ q, q < H.size → AX q → A0 q)
    (kx : ∀ (E : String) (ce : Cell) (q9 : Addr) (u : SX) (t : State) (H1 : Heap) (locs1 : List Loc), t.heap = H1 → s.vm.Alike t.vm → px u → BX E u t → H.size ≤ H1.size → (∀ q : Nat, q < H.size → ¬ AX q → H1[q]? = H[q]?) → va_S A0 H0 H1 locs1 → H1[q9]? = some ce → ce.vm = .none → s.vm.findClass E = some ce.cls → vx_W p l e R s m args below meth c H1 locs1 (cells + mc) (slots + ms) Q (F0 m pc ls rest) q9)
    (kk : ∀ (r : UInt32) (u : S) (t : State) (H1 : Heap) (locs1 : List Loc), t.heap = H1 → s.vm.Alike t.vm → post r u → B u t → H.size ≤ H1.size → (∀ q : Nat, q < H.size → ¬ A1 q → H1[q]? = H[q]?) → va_S A0 H0 H1 locs1 → W p l e R s m args below meth c H1 locs1 (cells + mc) (slots + ms) Q (F0 m (pc + 3) ls (.float r :: rest))) : W p l e R s m args below meth c H locs cells slots Q (F0 m pc ls st0) := by
  intro T hT X
  rcases hr T hT X with ⟨v, st₀, t, T', L, h0, X', hL, e1, e2, ⟨⟨r, u, hv, hp, hb⟩, hF⟩, st⟩ | ⟨q, st₀, t, T', L, E, ce, h0, X', hL, e1, e2, ⟨u, hp, hb, hF⟩, hce, hcv, hcl, st⟩
  · cases hv
    obtain ⟨k1, k2, k3⟩ := vx_keep h0 e1 hS hA hf hL hF
    obtain ⟨t2, a1, b1⟩ := kk r u t T'.heap (locs ++ L) e1.symm (by rw [← e2]; exact X'.warmed.alike) hp hb k1 k2 k3 T' rfl X'
    exact ⟨t2, st t2 a1, b1⟩
  · obtain ⟨k1, k2, k3⟩ := vx_keep h0 e1 hS hAX hf hL hF
    obtain ⟨t2, a1, b1⟩ := kx E ce q u t T'.heap (locs ++ L) e1.symm (by rw [← e2]; exact X'.warmed.alike) hp hb k1 k2 k3 (by rw [e1]; exact hce) hcv hcl T' rfl X'
    exact ⟨t2, st.trans a1, b1⟩
theorem vx_calld {S SX : Type} {post : UInt64 → S → Prop} {px : SX → Prop} {B : S → State → Prop} {BX : String → SX → State → Prop} {AX : Nat → Prop} (hr : vx_Run p l e R s m args below meth c H locs cells slots mc ms (F0 m pc ls st0) rest (va_Qd post B A1 a) (vx_X px BX AX) free) (hS : va_S A0 H0 H locs) (hA : ∀ q, q < H.size → A1 q → A0 q) (hf : ∀ q, free q → A0 q) (hAX : ∀ q, q < H.size → AX q → A0 q)
    (kx : ∀ (E : String) (ce : Cell) (q9 : Addr) (u : SX) (t : State) (H1 : Heap) (locs1 : List Loc), t.heap = H1 → s.vm.Alike t.vm → px u → BX E u t → H.size ≤ H1.size → (∀ q : Nat, q < H.size → ¬ AX q → H1[q]? = H[q]?) → va_S A0 H0 H1 locs1 → H1[q9]? = some ce → ce.vm = .none → s.vm.findClass E = some ce.cls → vx_W p l e R s m args below meth c H1 locs1 (cells + mc) (slots + ms) Q (F0 m pc ls rest) q9)
    (kk : ∀ (r : UInt64) (u : S) (t : State) (H1 : Heap) (locs1 : List Loc), t.heap = H1 → s.vm.Alike t.vm → post r u → B u t → H.size ≤ H1.size → (∀ q : Nat, q < H.size → ¬ A1 q → H1[q]? = H[q]?) → va_S A0 H0 H1 locs1 → W p l e R s m args below meth c H1 locs1 (cells + mc) (slots + ms) Q (F0 m (pc + 3) ls (.double r :: rest))) : W p l e R s m args below meth c H locs cells slots Q (F0 m pc ls st0) := by
  intro T hT X
  rcases hr T hT X with ⟨v, st₀, t, T', L, h0, X', hL, e1, e2, ⟨⟨r, u, hv, hp, hb⟩, hF⟩, st⟩ | ⟨q, st₀, t, T', L, E, ce, h0, X', hL, e1, e2, ⟨u, hp, hb, hF⟩, hce, hcv, hcl, st⟩
  · cases hv
    obtain ⟨k1, k2, k3⟩ := vx_keep h0 e1 hS hA hf hL hF
    obtain ⟨t2, a1, b1⟩ := kk r u t T'.heap (locs ++ L) e1.symm (by rw [← e2]; exact X'.warmed.alike) hp hb k1 k2 k3 T' rfl X'
    exact ⟨t2, st t2 a1, b1⟩
  · obtain ⟨k1, k2, k3⟩ := vx_keep h0 e1 hS hAX hf hL hF
    obtain ⟨t2, a1, b1⟩ := kx E ce q u t T'.heap (locs ++ L) e1.symm (by rw [← e2]; exact X'.warmed.alike) hp hb k1 k2 k3 (by rw [e1]; exact hce) hcv hcl T' rfl X'
    exact ⟨t2, st.trans a1, b1⟩
theorem vx_callv {S SX : Type} {post : S → Prop} {px : SX → Prop} {B : S → State → Prop} {BX : String → SX → State → Prop} {AX : Nat → Prop} (hr : vx_Run p l e R s m args below meth c H locs cells slots mc ms (F0 m pc ls st0) rest (va_Qv post B A1 a) (vx_X px BX AX) free) (hS : va_S A0 H0 H locs) (hA : ∀ q, q < H.size → A1 q → A0 q) (hf : ∀ q, free q → A0 q) (hAX : ∀ q, q < H.size → AX q → A0 q)
    (kx : ∀ (E : String) (ce : Cell) (q9 : Addr) (u : SX) (t : State) (H1 : Heap) (locs1 : List Loc), t.heap = H1 → s.vm.Alike t.vm → px u → BX E u t → H.size ≤ H1.size → (∀ q : Nat, q < H.size → ¬ AX q → H1[q]? = H[q]?) → va_S A0 H0 H1 locs1 → H1[q9]? = some ce → ce.vm = .none → s.vm.findClass E = some ce.cls → vx_W p l e R s m args below meth c H1 locs1 (cells + mc) (slots + ms) Q (F0 m pc ls rest) q9)
    (kk : ∀ (u : S) (t : State) (H1 : Heap) (locs1 : List Loc), t.heap = H1 → s.vm.Alike t.vm → post u → B u t → H.size ≤ H1.size → (∀ q : Nat, q < H.size → ¬ A1 q → H1[q]? = H[q]?) → va_S A0 H0 H1 locs1 → W p l e R s m args below meth c H1 locs1 (cells + mc) (slots + ms) Q (F0 m (pc + 3) ls (rest))) : W p l e R s m args below meth c H locs cells slots Q (F0 m pc ls st0) := by
  intro T hT X
  rcases hr T hT X with ⟨v, st₀, t, T', L, h0, X', hL, e1, e2, ⟨⟨u, hv, hp, hb⟩, hF⟩, st⟩ | ⟨q, st₀, t, T', L, E, ce, h0, X', hL, e1, e2, ⟨u, hp, hb, hF⟩, hce, hcv, hcl, st⟩
  · cases hv
    obtain ⟨k1, k2, k3⟩ := vx_keep h0 e1 hS hA hf hL hF
    obtain ⟨t2, a1, b1⟩ := kk u t T'.heap (locs ++ L) e1.symm (by rw [← e2]; exact X'.warmed.alike) hp hb k1 k2 k3 T' rfl X'
    exact ⟨t2, st t2 a1, b1⟩
  · obtain ⟨k1, k2, k3⟩ := vx_keep h0 e1 hS hAX hf hL hF
    obtain ⟨t2, a1, b1⟩ := kx E ce q u t T'.heap (locs ++ L) e1.symm (by rw [← e2]; exact X'.warmed.alike) hp hb k1 k2 k3 (by rw [e1]; exact hce) hcv hcl T' rfl X'
    exact ⟨t2, st.trans a1, b1⟩
/-- caught by the row x of this method's table; the rows ahead don't take it -/
theorem vx_catch {own name : String} {E : String} {ce : Cell} {q : Addr} (hown : s.vm.findClass own = some m.cls) (pre : List ExceptionTableEntry) (x : ExceptionTableEntry) (suf : List ExceptionTableEntry) (hsplit : c.exceptionTable.toList = pre ++ x :: suf)
    (hpass : ∀ z ∈ pre, covers z pc = false ∨ (z.catchType ≠ 0 ∧ ∃ nm : String, (Cond.classLink own z.catchType nm).before args s = true ∧ va_Nc E nm s)) (hx : covers x pc = true) (h0 : x.catchType ≠ 0)
    (hlink : (Cond.classLink own x.catchType name).before args s = true) (hcast : (Cond.castable E name).before args s = true) (hcell : H[q]? = some ce) (hv : ce.vm = .none) (hcl : s.vm.findClass E = some ce.cls)
    (kk : W p l e R s m args below meth c H locs cells slots Q (F0 m x.handlerPc ls [.ref q])) : vx_W p l e R s m args below meth c H locs cells slots Q (F0 m pc ls rest) q := by
  intro T hT X
  have hpl : e.platform.magicAccessors = ({} : Platform).magicAccessors := by rw [X.admits.platform]
  obtain ⟨c3, c4, hc3, hc4, hasg⟩ := Cond.castable_spec hcast
  cases Option.some.inj (hc3.symm.trans hcl)
  obtain ⟨c5, hc5, hcl5⟩ := Cond.classLink_spec hown hlink e.platform hpl
  cases Option.some.inj (hc4.symm.trans hc5)
  obtain ⟨vm', X', st⟩ := X.thenCaughtThrough q (g := F0 m pc ls rest) rfl (Steps.refl _) (by rw [hT]; exact hcell) (by rw [hv]; rfl) (by obtain ⟨k9, h9, -⟩ := Vm.findClass_spec hcl; exact ⟨k9, h9⟩) pre x suf hsplit
    (fun z hz => by
      rcases hpass z hz with h | ⟨hz0, nm, hl1, hn1⟩
      · exact Or.inl h
      · obtain ⟨c6, hc6, hcl6⟩ := Cond.classLink_spec hown hl1 e.platform hpl
        obtain ⟨a8, b8, h1, h2, h3⟩ := hn1
        cases Option.some.inj (h1.symm.trans hcl)
        cases Option.some.inj (h2.symm.trans hc6)
        exact Or.inr ⟨hz0, _, hcl6, h3⟩) hx (Or.inr ⟨h0, c4, hcl5, hasg⟩)
  obtain ⟨t, a1, b1⟩ := kk (T.setVm vm') hT X'
  exact ⟨t, st.trans a1, b1⟩
end Rows
section Ends
variable {p : Program} {l : Launch} {e : Env} {R : Room} {s : State} {m : MethodId} {args : Array Value} {below : List Frame} {meth : Method} {c : Code} {H : Heap} {locs : List Loc} {cells slots : Nat} {Q : State → Prop}
variable {mc ms : Nat} {free : Addr → Prop} {A0 A1 : Nat → Prop} {H0 : Heap} {a : Array Value} {ls : Array Slot} {st0 rest : List Value}
variable {Qc : Array Value → State → Outcome → State → Prop} {XC : String → State → State → Prop}
/-- what a body that may throw owes at its end -/
def vx_MQ (below : List Frame) (Qc : Array Value → State → Outcome → State → Prop) (XC : String → State → State → Prop) (a : Array Value) (s : State) (mc ms : Nat) (free : Addr → Prop) : State → Prop := fun t =>
  ∃ o, t.status = .running ∧ Ended t below o ∧ vx_Q Qc XC mc ms free a s o t
theorem vx_ret {g : JFrame} {mc ms : Nat} (k : W p l e R s m args below meth c H locs cells slots (MQ below Qc args s mc ms free) g) : W p l e R s m args below meth c H locs cells slots (vx_MQ below Qc XC args s mc ms free) g := by
  intro T hT X
  obtain ⟨t, a1, o, b1, b2, b3, b4⟩ := k T hT X
  exact ⟨t, a1, o, b1, b2, Or.inl ⟨b3, b4⟩⟩
/-- not caught here: it goes on to the caller -/
theorem vx_widen {g : JFrame} {q : Addr} {k n : Nat} (h1 : cells ≤ k) (h2 : slots ≤ n) (kk : vx_W p l e R s m args below meth c H locs k n Q g q) : vx_W p l e R s m args below meth c H locs cells slots Q g q := fun T hT X => kk T hT (stand_widen X h1 h2)
theorem vx_out {pc : Nat} {E : String} {ce : Cell} {q : Addr} {mc ms : Nat} (hout : ∀ x ∈ c.exceptionTable.toList, covers x pc = false) (hlocks : meth.locks = false) (hcell : H[q]? = some ce) (hv : ce.vm = .none) (hcl : s.vm.findClass E = some ce.cls)
    (hx : ∀ t : State, t.heap = H → s.vm.Alike t.vm → XC E s t) (hf : ∀ z ∈ locs, free z.base) (hc : cells ≤ mc) (hs : slots ≤ ms) :
    vx_W p l e R s m args below meth c H locs cells slots (vx_MQ below Qc XC args s mc ms free) (F0 m pc ls rest) q := by
  intro T hT X
  obtain ⟨st1, hrun, hend, hW, hsm⟩ := X.leaveThrown q (g := F0 m pc ls rest) rfl rfl rfl hout hlocks
  have hcell9 : (T.setFrames (.throwing q :: below)).heap[q]? = some ce := by
    show T.heap[q]? = some ce
    rw [hT]; exact hcell
  exact ⟨_, st1, .threw q, hrun, hend, Or.inr ⟨q, rfl, E, ce, locs, hx _ hT hW.alike, hcell9, hv, hcl, hW, hsm.mono hc hs, hf⟩⟩
theorem vx_frame {U : State} {k n : Nat} (h : s.sameButNew ({ U with vm := s.vm } : State) locs k n) : s.heap.size ≤ U.heap.size ∧ ∀ q : Nat, q < s.heap.size → (∀ z ∈ locs, z.base ≠ q) → U.heap[q]? = s.heap[q]? := by
  obtain ⟨-, h2, -, -, -, h6⟩ := h
  refine ⟨h2, fun q hq hz => ?_⟩
  obtain ⟨c9, e1, e2, e3, e4⟩ := h6 q _ (Array.getElem?_eq_getElem hq)
  have hs : c9.slots = (s.heap[q]).slots := Array.ext_getElem? fun i => e4 i fun hm => hz _ hm rfl
  have h9 : c9 = s.heap[q] := by
    rw [hs] at e2
    exact e2
  have e5 : U.heap[q]? = some c9 := e1
  rw [e5, h9, Array.getElem?_eq_getElem hq]
/-- the words of a throw but the four that speak of the heap -/
def vx_no (w : Cond) : Bool := decide (w ≠ .isRef (.static tN "UNASSIGNED_STACK" steD)) && decide (w ≠ .isRef (.static tN "SUPPRESSED_SENTINEL" listD)) && decide (w ≠ .laysStatic tN "UNASSIGNED_STACK" steD) && decide (w ≠ .laysStatic tN "SUPPRESSED_SENTINEL" listD)
def vx_at0 (own : String) (ic : Nat) (X : String) (names : List String) : List Cond := (ownAtoms0 own ic X names).filter vx_no
def vx_atS (own : String) (ic : Nat) (X : String) (names : List String) : List Cond := (ownAtoms own ic X names).filter vx_no
/-- a word that the tables alone decide, or a good one -/
def vx_ot (w : Cond) : Bool := w.onTables || goodWord w
theorem vx_ot_at {args a' : Array Value} {s U : State} {w : Cond} (hW : s.WarmedH U.vm) (hvm : s.vm = U.vm) (hg : vx_ot w = true) (h : w.before args s = true) : w.before a' U = true := by
  simp only [vx_ot, Bool.or_eq_true] at hg
  rcases hg with hg | hg
  · exact va_tabs hg hvm h
  · exact word_at hW (good_of_word hg) h
/-- a list's words: the good ones out of the method's own list, the others by premises of their own -/
theorem vx_hat {args : Array Value} {s : State} {L B : List Cond} (h1 : ∀ w ∈ L.filter goodWord, w.before args s = true) (h2 : ∀ w ∈ L.filter (fun w => !goodWord w), w ∈ B) (h3 : ∀ w ∈ B, w.before args s = true) : ∀ w ∈ L, w.before args s = true := by
  intro w hw
  by_cases g : goodWord w = true
  · exact h1 w (List.mem_filter.mpr ⟨hw, g⟩)
  · refine h3 w (h2 w (List.mem_filter.mpr ⟨hw, ?_⟩))
    show (!goodWord w) = true
    cases hgw : goodWord w
    · rfl
    · exact absurd hgw g
theorem vx_c {args : Array Value} {s : State} {w : Cond} {B : List Cond} (h : w.before args s = true) (t : ∀ w ∈ B, w.before args s = true) : ∀ w' ∈ w :: B, w'.before args s = true := fun w' h' => (List.mem_cons.mp h').elim (fun e => by rw [e]; exact h) (t w')
theorem vx_n {args : Array Value} {s : State} : ∀ w ∈ ([] : List Cond), w.before args s = true := fun _ h => nomatch h
theorem vx_own {args : Array Value} {s : State} {L : List Cond} (h1 : ∀ w ∈ L.filter vx_no, w.before args s = true)
    (hU : (Cond.isRef (.static tN "UNASSIGNED_STACK" steD)).before args s = true) (hN : (Cond.isRef (.static tN "SUPPRESSED_SENTINEL" listD)).before args s = true)
    (lU : (Cond.laysStatic tN "UNASSIGNED_STACK" steD).before args s = true) (lN : (Cond.laysStatic tN "SUPPRESSED_SENTINEL" listD).before args s = true) : ∀ w ∈ L, w.before args s = true := by
  intro w hw
  by_cases e1 : w = .isRef (.static tN "UNASSIGNED_STACK" steD)
  · rw [e1]; exact hU
  · by_cases e2 : w = .isRef (.static tN "SUPPRESSED_SENTINEL" listD)
    · rw [e2]; exact hN
    · by_cases e3 : w = .laysStatic tN "UNASSIGNED_STACK" steD
      · rw [e3]; exact lU
      · by_cases e4 : w = .laysStatic tN "SUPPRESSED_SENTINEL" listD
        · rw [e4]; exact lN
        · exact h1 w (List.mem_filter.mpr ⟨hw, by unfold vx_no; rw [decide_eq_true e1, decide_eq_true e2, decide_eq_true e3, decide_eq_true e4]; rfl⟩)
/-- where a static field lies, its class's statics cell in H -/
def vx_L (C n d : String) (A : Nat → Prop) (U : State) (H : Heap) : Prop := ∃ (c : ClassId) (k : Class) (i : Nat) (f : Field) (a : Nat) (cell : Cell), U.vm.findClass C = some c ∧ U.fieldFound? C n d = some (c, k, i, f) ∧ f.isStatic = true ∧ k.statics = some a ∧ H[a]? = some cell ∧ cell.vm.isStatics = true ∧ cell.cls = c ∧ f.slot < cell.slots.size ∧ k.staticTypes[f.slot]? = some f.type ∧ ¬ A a
theorem vx_L.moved {C n d : String} {A : Nat → Prop} {u U : State} {H : Heap} (hvm : u.vm.Alike U.vm) (h : vx_L C n d A u H) : vx_L C n d A U H := by
  obtain ⟨c, k, i, f, a, cell, h1, h2, h3, h4, h5, h6, h7, h8, h9, h10⟩ := h
  obtain ⟨k', hi', he⟩ := State.fieldFound?_setVm hvm h2
  exact ⟨c, k', i, f, a, cell, by rw [hvm.findClass]; exact h1, hi', h3, by rw [he]; exact h4, h5, h6, h7, h8, by rw [he]; exact h9, h10⟩
theorem vx_L.kept {C n d : String} {A : Nat → Prop} {U : State} {H H1 : Heap} (h : vx_L C n d A U H) (hq : ∀ a : Nat, a < H.size → ¬ A a → H1[a]? = H[a]?) : vx_L C n d A U H1 := by
  obtain ⟨c, k, i, f, a, cell, h1, h2, h3, h4, h5, h6, h7, h8, h9, h10⟩ := h
  exact ⟨c, k, i, f, a, cell, h1, h2, h3, h4, by rw [hq a (Array.getElem?_eq_some_iff.mp h5).1 h10]; exact h5, h6, h7, h8, h9, h10⟩
theorem vx_L.narrow {C n d : String} {A B : Nat → Prop} {U : State} {H : Heap} (h : vx_L C n d A U H) (hAB : ∀ q, B q → A q) : vx_L C n d B U H := by
  obtain ⟨c, k, i, f, a, cell, h1, h2, h3, h4, h5, h6, h7, h8, h9, h10⟩ := h
  exact ⟨c, k, i, f, a, cell, h1, h2, h3, h4, h5, h6, h7, h8, h9, fun z => h10 (hAB _ z)⟩
theorem vx_L.word {C n d : String} {A : Nat → Prop} {s : State} {args : Array Value} (h : vx_L C n d A s s.heap) : (Cond.laysStatic C n d).before args s = true := by
  obtain ⟨c, k, i, f, a, cell, h1, h2, h3, h4, h5, h6, h7, h8, h9, -⟩ := h
  show (Cond.laysStatic C n d).holds args s none s [] = true
  exact Cond.laysStatic_of h1 h2 h3 h4 h5 h6 h7 h8 h9
/-- .. and what it holds: null or some reference -/
def vx_Zq (C n d : String) (A : Nat → Prop) (U : State) (H : Heap) : Prop := va_Zq C n d A U H ∧ vx_L C n d A U H
theorem vx_Zq.moved {C n d : String} {A : Nat → Prop} {u U : State} {H : Heap} (hvm : u.vm.Alike U.vm) (h : vx_Zq C n d A u H) : vx_Zq C n d A U H := ⟨va_Zq.moved hvm h.1, vx_L.moved hvm h.2⟩
theorem vx_Zq.kept {C n d : String} {A : Nat → Prop} {U : State} {H H1 : Heap} (h : vx_Zq C n d A U H) (hq : ∀ a : Nat, a < H.size → ¬ A a → H1[a]? = H[a]?) : vx_Zq C n d A U H1 := ⟨va_Zq.kept h.1 hq, vx_L.kept h.2 hq⟩
theorem vx_Zq.narrow {C n d : String} {A B : Nat → Prop} {U : State} {H : Heap} (h : vx_Zq C n d A U H) (hAB : ∀ q, B q → A q) : vx_Zq C n d B U H := ⟨va_Zq.narrow h.1 hAB, vx_L.narrow h.2 hAB⟩
theorem vx_Zqof {args : Array Value} {s : State} {C n d : String} {A : Nat → Prop} (hl : (Cond.laysStatic C n d).before args s = true) (hini : (Cond.initialized C).before args s = true) (h : (Cond.isRef (.static C n d)).before args s = true) (hA : ∀ a : Nat, a < s.heap.size → ¬ A a) : vx_Zq C n d A s s.heap := by
  refine ⟨va_Zqof hl hini h hA, ?_⟩
  obtain ⟨c, k, i, f, a, cell, h1, h2, h3, h4, h5, h6, h7, h8, h9⟩ := Cond.laysStatic_spec hl
  exact ⟨c, k, i, f, a, cell, h1, h2, h3, h4, h5, h6, h7, h8, h9, hA a (Array.getElem?_eq_some_iff.mp h5).1⟩
theorem vx_isRef {C n d : String} {v : Value} {A : Nat → Prop} {s : State} {args : Array Value} (h : va_Z C n d v A s s.heap) (hv : v.isRef = true) : (Cond.isRef (.static C n d)).before args s = true := by
  obtain ⟨cf, kf, fi, f, a, cell, h1, h2, h3, h4, h5, h6, h7, -⟩ := h
  have he : (Term.static C n d).eval args s none [] s = some v := by
    simp [Term.eval, State.fieldNamed?, h1, h2, h4, h5, h6, h7]
  simp only [Cond.before, Cond.holds, Cond.value, he]
  cases v <;> simp_all [Value.isRef]
theorem vx_isRefq {C n d : String} {A : Nat → Prop} {s : State} {args : Array Value} (h : va_Zq C n d A s s.heap) : (Cond.isRef (.static C n d)).before args s = true := by
  rcases h with h | ⟨t, h⟩
  · exact vx_isRef h rfl
  · exact vx_isRef h rfl
/-- the same frame, seen from here: as if the method were called anew in this heap -/
theorem vx_rebase {T : State} (X : Stand p l e R s m args below meth c T locs cells slots) {R' : Room} (hf : R'.frames ≤ R.frames) (hl : R'.locals ≤ R.locals) (hc : cells + R'.cells ≤ R.cells) (hs : slots + R'.slots ≤ R.slots) :
    Stand p l e R' ((T.setVm s.vm).setFrames (.invoking m args :: below)) m args below meth c T [] 0 0 := by
  have htop : (T.setVm s.vm).topJava?.isSome := X.here.top
  have hF : ((T.setVm s.vm).setFrames (.invoking m args :: below)).frames = .invoking m args :: below := State.frames_setFrames _ (State.cur_lt_of_top htop)
  obtain ⟨g₀, hg0⟩ := Option.isSome_iff_exists.mp htop
  obtain ⟨r, hr⟩ := State.topJava?_eq_some.mp hg0
  have hl9 : e.platform.stackLimits (T.setVm s.vm).me = e.platform.stackLimits s.me := X.limits
  have hb9 : (T.setVm s.vm).me.stackBytes = s.me.stackBytes := X.bytes
  refine ⟨X.admits, X.cas, X.clock, hF, ?_, X.hears, X.method, X.code, X.here, X.tail, X.warmed, ?_, ?_, ?_⟩
  · have h := X.room
    have hU : ((T.setVm s.vm).setFrames (.invoking m args :: below)).localsInUse = s.localsInUse := by
      rw [State.localsInUse_invoking hF (meth := meth) (c := c) X.method X.code, State.localsInUse_invoking X.frames X.method X.code]
    simp only [State.hasRoom, Bool.and_eq_true, decide_eq_true_eq] at h ⊢
    obtain ⟨⟨⟨⟨h1, h2, h3, h4, h5, h6⟩, h7⟩, h8⟩, h9⟩ := h
    rw [X.frames, List.length_cons] at h2 h3
    have q1 := X.heapSize
    have q2 := X.used
    simp only [hF, hU, List.length_cons, State.stackLimits_setFrames, State.stackBytes_setFrames, hl9, hb9]
    refine ⟨⟨⟨⟨by omega, by omega, by omega, by omega, by omega, h6⟩, ?_⟩, ?_⟩, X.book⟩
    · show T.heap.size + R'.cells ≤ e.platform.maxCells
      omega
    · show T.slotsUsed + R'.slots ≤ e.platform.maxSlots
      omega
  · rw [State.stackLimits_setFrames]; rfl
  · rw [State.stackBytes_setFrames]; rfl
  · refine ⟨?_, Nat.le_refl _, Nat.le_refl _, ?_, ?_, fun a c9 h9 => ⟨c9, h9, rfl, rfl, fun _ _ => rfl⟩⟩
    · obtain ⟨t, ht, -⟩ := State.frames_cons hr
      show T.setVm s.vm = { ((T.setVm s.vm).setFrames (.invoking m args :: below)).setFrames (T.setVm s.vm).frames with heap := T.heap, slotsUsed := T.slotsUsed }
      rw [State.setFrames_setFrames, State.setFrames_self ht]
      rfl
    · show T.slotsUsed = T.slotsUsed + ((T.heap.toList.drop T.heap.size).map (·.slots.size)).sum
      rw [List.drop_eq_nil_of_le (Nat.le_of_eq Array.length_toList)]
      rfl
    · show ((T.heap.toList.drop T.heap.size).map (·.slots.size)).sum ≤ 0
      rw [List.drop_eq_nil_of_le (Nat.le_of_eq Array.length_toList)]
      exact Nat.le_refl _
/-- 'throw new E()': new; dup; invokespecial; athrow -/
theorem vx_throw0 {cc : ByteArray} {pc : Nat} (hexec : p.tables.exec = Jvm.exec) (hb : c.code = cc) (hl : l.stackTraces = false) {own cls : String} {names : List String} {ik ic mc ms : Nat} {A : Nat → Prop}
    (hown : s.vm.findClass own = some m.cls) (hcls : fit cls = true) (hnames : ∀ n ∈ names, fit n = true)
    (hk : (Cond.classLink own ik cls).before args s = true) (hini : (Cond.initialized cls).before args s = true) (hat : ∀ w ∈ vx_at0 own ic cls names, w.before args s = true)
    (hgood : ∀ w ∈ Cond.classLink own ik cls :: Cond.initialized cls :: vx_at0 own ic cls names, vx_ot w = true)
    (hU : vx_Zq tN "UNASSIGNED_STACK" steD A s s.heap) (hN : vx_Zq tN "SUPPRESSED_SENTINEL" listD A s s.heap) (hS : va_S A s.heap H locs) (hsize : ls.size = c.maxLocals)
    (d0 : decode cc pc = .ok (.new ik, 3)) (d3 : decode cc (pc + 3) = .ok (.dup, 1)) (d4 : decode cc (pc + 4) = .ok (.invokespecial ic, 3)) (d7 : decode cc (pc + 7) = .ok (.athrow, 1))
    (hout : ∀ x ∈ c.exceptionTable.toList, covers x (pc + 7) = false)
    (hRframes : names.length + 3 < R.frames) (hRlocals : (rest.map fun v => v.category).sum + (13 * (names.length + 1) + 42) ≤ R.locals) (hRcells : cells + 1 ≤ R.cells) (hRslots : slots + 6 ≤ R.slots) (hlocks : meth.locks = false)
    (hx : ∀ t : State, s.vm.Alike t.vm → H.size ≤ t.heap.size → (∀ q : Nat, q < H.size → t.heap[q]? = H[q]?) → XC cls s t)
    (hf : ∀ z ∈ locs, free z.base) (hc : cells + 1 ≤ mc) (hs : slots + 6 ≤ ms) :
    W p l e R s m args below meth c H locs cells slots (vx_MQ below Qc XC args s mc ms free) (F0 m pc ls rest) := by
  intro T hT X
  have htr : e.platform.stackTraces = false := (show e.platform.stackTraces = l.stackTraces by rw [X.admits.platform]).trans hl
  have Y := vx_rebase X (R' := { frames := R.frames, locals := R.locals, cells := 1, slots := 6 }) (Nat.le_refl _) (Nat.le_refl _) hRcells hRslots
  obtain ⟨s', hA⟩ : ∃ z, z = (T.setVm s.vm).setFrames (.invoking m args :: below) := ⟨_, rfl⟩
  rw [← hA] at Y
  have hvm : s'.vm = s.vm := by rw [hA]; rfl
  have hhp : s'.heap = H := by rw [hA]; exact hT
  have hW0 : s.WarmedH s'.vm := by rw [hvm]; exact State.WarmedH.refl s
  have hat' : ∀ w ∈ vx_at0 own ic cls names, w.before args s' = true := fun w hw => vx_ot_at hW0 hvm.symm (hgood w (List.mem_cons_of_mem _ (List.mem_cons_of_mem _ hw))) (hat w hw)
  have hk' : (Cond.classLink own ik cls).before args s' = true := vx_ot_at hW0 hvm.symm (hgood _ List.mem_cons_self) hk
  have hini' : (Cond.initialized cls).before args s' = true := vx_ot_at hW0 hvm.symm (hgood _ (List.mem_cons_of_mem _ List.mem_cons_self)) hini
  have hU' : vx_Zq tN "UNASSIGNED_STACK" steD A s' s'.heap := by rw [hhp]; exact vx_Zq.moved hW0.alike (hU.kept hS.2.1)
  have hN' : vx_Zq tN "SUPPRESSED_SENTINEL" listD A s' s'.heap := by rw [hhp]; exact vx_Zq.moved hW0.alike (hN.kept hS.2.1)
  have h : ∀ w ∈ ownAtoms0 own ic cls names, w.before args s' = true := vx_own hat' (vx_isRefq hU'.1) (vx_isRefq hN'.1) hU'.2.word hN'.2.word
  have hown' : s'.vm.findClass own = some m.cls := by rw [hvm]; exact hown
  have hins : (Cond.instantiable cls 6).before args s' = true := h _ (by simp [ownAtoms0])
  obtain ⟨vm₁, cX, kX, hfX, hkX, -, -, X₁, st1⟩ := Y.newCold hexec (own := own) (C := cls) (index := ik) (n := 6) hown' hk' hins hini'
    (g := F0 m pc ls rest) rfl (by rw [hb]; exact d0) (Nat.le_refl _) (Nat.le_refl _)
  generalize hT1 : (T.setVm vm₁).pushCell { cls := cX, slots := kX.instanceTypes.map defaultValue, vm := .none } = T1 at X₁ st1
  have hcat : (Value.ref T.heap.size).category = 1 := rfl
  have hcellA : T1.heap[T.heap.size]? = some (freshCell cX kX) := by rw [← hT1]; exact State.heap_pushCell_size _ _
  have d3' : decode c.code (pc + 3) = .ok (.dup, 1) := by rw [hb]; exact d3
  obtain ⟨U, hsteps, hrun, hend, hW, hsame, ce, hce, hO⟩ := X₁.ctorThrow0 hexec htr (own := own) (cls := cls) (names := names) (ic := ic) hown' hcls hnames h (fun x hx => nomatch hx) hfX hkX hcellA (by rw [hhp, hT]; exact Nat.le_refl _)
    (g := { method := m, pc := pc + 4, locals := ls, stack := .ref T.heap.size :: .ref T.heap.size :: rest, locked := none }) rfl hsize rfl rfl (rest := rest) rfl
    (by rw [hb]; exact d4) (by rw [hb]; exact d7) hout hRframes (by simp only [List.map_cons, List.sum_cons, hcat]; omega) hlocks
  obtain ⟨f1, f2⟩ := vx_frame hsame
  rw [hhp] at f1 f2
  have hWs : s.WarmedH U.vm := State.WarmedH.trans hW0 hW
  have hcl : s.vm.findClass cls = some ce.cls := by
    have h9 := hO.cls
    rw [hvm] at h9
    exact h9
  have hall : s.sameButNew ({ U with vm := s.vm } : State) locs mc ms := by
    subst hA
    obtain ⟨e1, e2⟩ := hsame
    rw [State.setFrames_setFrames] at e1
    have h2 : (T.setVm s.vm).sameButNew ({ U with vm := s.vm } : State) [] (0 + 1) (0 + 6) := ⟨e1, e2⟩
    have h3 := X.same.trans h2
    rw [List.append_nil] at h3
    exact h3.mono hc hs
  refine ⟨U, ?_, .threw T.heap.size, hrun, hend, Or.inr ⟨T.heap.size, rfl, cls, ce, locs, hx U hWs.alike f1 (fun q hq => f2 q hq (fun z hz => nomatch hz)), hce, hO.vm, hcl, hWs, hall, hf⟩⟩
  refine st1 _ ?_
  show Steps p.tables e below (T1.setTop { method := m, pc := pc + 3, locals := ls, stack := .ref T.heap.size :: rest, locked := none }) _
  jvm_step X₁.here [X₁.here.top, hexec, d3', Value.category]
  exact hsteps
/-- 'throw new E("text")': new; dup; ldc; invokespecial; athrow -/
theorem vx_throwS {cc : ByteArray} {pc : Nat} (hexec : p.tables.exec = Jvm.exec) (hb : c.code = cc) (hl : l.stackTraces = false) {own cls text : String} {names : List String} {ik is ic mc ms sa : Nat} {A : Nat → Prop}
    (hown : s.vm.findClass own = some m.cls) (hcls : fit cls = true) (hnames : ∀ n ∈ names, fit n = true)
    (hk : (Cond.classLink own ik cls).before args s = true) (hini : (Cond.initialized cls).before args s = true) (hstr : vk_R own is text sa s) (hat : ∀ w ∈ vx_atS own ic cls names, w.before args s = true)
    (hgood : ∀ w ∈ Cond.classLink own ik cls :: Cond.initialized cls :: vx_atS own ic cls names, vx_ot w = true)
    (hU : vx_Zq tN "UNASSIGNED_STACK" steD A s s.heap) (hN : vx_Zq tN "SUPPRESSED_SENTINEL" listD A s s.heap) (hS : va_S A s.heap H locs) (hsize : ls.size = c.maxLocals)
    (d0 : decode cc pc = .ok (.new ik, 3)) (d3 : decode cc (pc + 3) = .ok (.dup, 1)) (d4 : decode cc (pc + 4) = .ok (.ldc is, 2)) (d6 : decode cc (pc + 6) = .ok (.invokespecial ic, 3)) (d9 : decode cc (pc + 9) = .ok (.athrow, 1))
    (hout : ∀ x ∈ c.exceptionTable.toList, covers x (pc + 9) = false)
    (hRframes : names.length + 3 < R.frames) (hRlocals : (rest.map fun v => v.category).sum + (13 * (names.length + 1) + 43) ≤ R.locals) (hRcells : cells + 1 ≤ R.cells) (hRslots : slots + 6 ≤ R.slots) (hlocks : meth.locks = false)
    (hx : ∀ t : State, s.vm.Alike t.vm → H.size ≤ t.heap.size → (∀ q : Nat, q < H.size → t.heap[q]? = H[q]?) → XC cls s t)
    (hf : ∀ z ∈ locs, free z.base) (hc : cells + 1 ≤ mc) (hs : slots + 6 ≤ ms) :
    W p l e R s m args below meth c H locs cells slots (vx_MQ below Qc XC args s mc ms free) (F0 m pc ls rest) := by
  intro T hT X
  have htr : e.platform.stackTraces = false := (show e.platform.stackTraces = l.stackTraces by rw [X.admits.platform]).trans hl
  have Y := vx_rebase X (R' := { frames := R.frames, locals := R.locals, cells := 1, slots := 6 }) (Nat.le_refl _) (Nat.le_refl _) hRcells hRslots
  obtain ⟨s', hA⟩ : ∃ z, z = (T.setVm s.vm).setFrames (.invoking m args :: below) := ⟨_, rfl⟩
  rw [← hA] at Y
  have hvm : s'.vm = s.vm := by rw [hA]; rfl
  have hhp : s'.heap = H := by rw [hA]; exact hT
  have hW0 : s.WarmedH s'.vm := by rw [hvm]; exact State.WarmedH.refl s
  have hat' : ∀ w ∈ vx_atS own ic cls names, w.before args s' = true := fun w hw => vx_ot_at hW0 hvm.symm (hgood w (List.mem_cons_of_mem _ (List.mem_cons_of_mem _ hw))) (hat w hw)
  have hk' : (Cond.classLink own ik cls).before args s' = true := vx_ot_at hW0 hvm.symm (hgood _ List.mem_cons_self) hk
  have hini' : (Cond.initialized cls).before args s' = true := vx_ot_at hW0 hvm.symm (hgood _ (List.mem_cons_of_mem _ List.mem_cons_self)) hini
  have hU' : vx_Zq tN "UNASSIGNED_STACK" steD A s' s'.heap := by rw [hhp]; exact vx_Zq.moved hW0.alike (hU.kept hS.2.1)
  have hN' : vx_Zq tN "SUPPRESSED_SENTINEL" listD A s' s'.heap := by rw [hhp]; exact vx_Zq.moved hW0.alike (hN.kept hS.2.1)
  have h : ∀ w ∈ ownAtoms own ic cls names, w.before args s' = true := vx_own hat' (vx_isRefq hU'.1) (vx_isRefq hN'.1) hU'.2.word hN'.2.word
  have hown' : s'.vm.findClass own = some m.cls := by rw [hvm]; exact hown
  have hins : (Cond.instantiable cls 6).before args s' = true := h _ (by simp [ownAtoms])
  obtain ⟨vm₁, cX, kX, hfX, hkX, -, -, X₁, st1⟩ := Y.newCold hexec (own := own) (C := cls) (index := ik) (n := 6) hown' hk' hins hini'
    (g := F0 m pc ls rest) rfl (by rw [hb]; exact d0) (Nat.le_refl _) (Nat.le_refl _)
  generalize hT1 : (T.setVm vm₁).pushCell { cls := cX, slots := kX.instanceTypes.map defaultValue, vm := .none } = T1 at X₁ st1
  have hcat : (Value.ref T.heap.size).category = 1 := rfl
  have hcellA : T1.heap[T.heap.size]? = some (freshCell cX kX) := by rw [← hT1]; exact State.heap_pushCell_size _ _
  have d3' : decode c.code (pc + 3) = .ok (.dup, 1) := by rw [hb]; exact d3
  have d4' : decode c.code (pc + 4) = .ok (.ldc is, 2) := by rw [hb]; exact d4
  have hstr' : vk_R own is text sa s' := vk_R.warm hW0 hstr
  obtain ⟨U, hsteps, hrun, hend, hW, hsame, ce, hce, hO⟩ := X₁.ctorThrowS hexec htr (own := own) (cls := cls) (names := names) (ic := ic) hown' hcls hnames h (fun x hx => nomatch hx) hfX hkX hcellA (by rw [hhp, hT]; exact Nat.le_refl _) (msg := .ref sa) rfl
    (g := { method := m, pc := pc + 6, locals := ls, stack := .ref sa :: .ref T.heap.size :: .ref T.heap.size :: rest, locked := none }) rfl hsize rfl rfl (rest := rest) rfl
    (by rw [hb]; exact d6) (by rw [hb]; exact d9) hout hRframes (by simp only [List.map_cons, List.sum_cons, hcat]; omega) hlocks
  obtain ⟨f1, f2⟩ := vx_frame hsame
  rw [hhp] at f1 f2
  have hWs : s.WarmedH U.vm := State.WarmedH.trans hW0 hW
  have hcl : s.vm.findClass cls = some ce.cls := by
    have h9 := hO.cls
    rw [hvm] at h9
    exact h9
  have hall : s.sameButNew ({ U with vm := s.vm } : State) locs mc ms := by
    subst hA
    obtain ⟨e1, e2⟩ := hsame
    rw [State.setFrames_setFrames] at e1
    have h2 : (T.setVm s.vm).sameButNew ({ U with vm := s.vm } : State) [] (0 + 1) (0 + 6) := ⟨e1, e2⟩
    have h3 := X.same.trans h2
    rw [List.append_nil] at h3
    exact h3.mono hc hs
  refine ⟨U, ?_, .threw T.heap.size, hrun, hend, Or.inr ⟨T.heap.size, rfl, cls, ce, locs, hx U hWs.alike f1 (fun q hq => f2 q hq (fun z hz => nomatch hz)), hce, hO.vm, hcl, hWs, hall, hf⟩⟩
  refine st1 _ ?_
  show Steps p.tables e below (T1.setTop { method := m, pc := pc + 3, locals := ls, stack := .ref T.heap.size :: rest, locked := none }) _
  jvm_step X₁.here [X₁.here.top, hexec, d3', Value.category]
  exact X₁.ldcString hexec (own := own) (text := text) (index := is) (a := sa) hown' hstr'.1 hstr'.2
    (g := { method := m, pc := pc + 4, locals := ls, stack := .ref T.heap.size :: .ref T.heap.size :: rest, locked := none }) rfl d4' _ hsteps
/-- 'throw new E("text")', the text by a wide index -/
theorem vx_throwSW {cc : ByteArray} {pc : Nat} (hexec : p.tables.exec = Jvm.exec) (hb : c.code = cc) (hl : l.stackTraces = false) {own cls text : String} {names : List String} {ik is ic mc ms sa : Nat} {A : Nat → Prop}
    (hown : s.vm.findClass own = some m.cls) (hcls : fit cls = true) (hnames : ∀ n ∈ names, fit n = true)
    (hk : (Cond.classLink own ik cls).before args s = true) (hini : (Cond.initialized cls).before args s = true) (hstr : vk_R own is text sa s) (hat : ∀ w ∈ vx_atS own ic cls names, w.before args s = true)
    (hgood : ∀ w ∈ Cond.classLink own ik cls :: Cond.initialized cls :: vx_atS own ic cls names, vx_ot w = true)
    (hU : vx_Zq tN "UNASSIGNED_STACK" steD A s s.heap) (hN : vx_Zq tN "SUPPRESSED_SENTINEL" listD A s s.heap) (hS : va_S A s.heap H locs) (hsize : ls.size = c.maxLocals)
    (d0 : decode cc pc = .ok (.new ik, 3)) (d3 : decode cc (pc + 3) = .ok (.dup, 1)) (d4 : decode cc (pc + 4) = .ok (.ldc_w is, 3)) (d7 : decode cc (pc + 7) = .ok (.invokespecial ic, 3)) (d10 : decode cc (pc + 10) = .ok (.athrow, 1))
    (hout : ∀ x ∈ c.exceptionTable.toList, covers x (pc + 10) = false)
    (hRframes : names.length + 3 < R.frames) (hRlocals : (rest.map fun v => v.category).sum + (13 * (names.length + 1) + 43) ≤ R.locals) (hRcells : cells + 1 ≤ R.cells) (hRslots : slots + 6 ≤ R.slots) (hlocks : meth.locks = false)
    (hx : ∀ t : State, s.vm.Alike t.vm → H.size ≤ t.heap.size → (∀ q : Nat, q < H.size → t.heap[q]? = H[q]?) → XC cls s t)
    (hf : ∀ z ∈ locs, free z.base) (hc : cells + 1 ≤ mc) (hs : slots + 6 ≤ ms) :
    W p l e R s m args below meth c H locs cells slots (vx_MQ below Qc XC args s mc ms free) (F0 m pc ls rest) := by
  intro T hT X
  have htr : e.platform.stackTraces = false := (show e.platform.stackTraces = l.stackTraces by rw [X.admits.platform]).trans hl
  have Y := vx_rebase X (R' := { frames := R.frames, locals := R.locals, cells := 1, slots := 6 }) (Nat.le_refl _) (Nat.le_refl _) hRcells hRslots
  obtain ⟨s', hA⟩ : ∃ z, z = (T.setVm s.vm).setFrames (.invoking m args :: below) := ⟨_, rfl⟩
  rw [← hA] at Y
  have hvm : s'.vm = s.vm := by rw [hA]; rfl
  have hhp : s'.heap = H := by rw [hA]; exact hT
  have hW0 : s.WarmedH s'.vm := by rw [hvm]; exact State.WarmedH.refl s
  have hat' : ∀ w ∈ vx_atS own ic cls names, w.before args s' = true := fun w hw => vx_ot_at hW0 hvm.symm (hgood w (List.mem_cons_of_mem _ (List.mem_cons_of_mem _ hw))) (hat w hw)
  have hk' : (Cond.classLink own ik cls).before args s' = true := vx_ot_at hW0 hvm.symm (hgood _ List.mem_cons_self) hk
  have hini' : (Cond.initialized cls).before args s' = true := vx_ot_at hW0 hvm.symm (hgood _ (List.mem_cons_of_mem _ List.mem_cons_self)) hini
  have hU' : vx_Zq tN "UNASSIGNED_STACK" steD A s' s'.heap := by rw [hhp]; exact vx_Zq.moved hW0.alike (hU.kept hS.2.1)
  have hN' : vx_Zq tN "SUPPRESSED_SENTINEL" listD A s' s'.heap := by rw [hhp]; exact vx_Zq.moved hW0.alike (hN.kept hS.2.1)
  have h : ∀ w ∈ ownAtoms own ic cls names, w.before args s' = true := vx_own hat' (vx_isRefq hU'.1) (vx_isRefq hN'.1) hU'.2.word hN'.2.word
  have hown' : s'.vm.findClass own = some m.cls := by rw [hvm]; exact hown
  have hins : (Cond.instantiable cls 6).before args s' = true := h _ (by simp [ownAtoms])
  obtain ⟨vm₁, cX, kX, hfX, hkX, -, -, X₁, st1⟩ := Y.newCold hexec (own := own) (C := cls) (index := ik) (n := 6) hown' hk' hins hini'
    (g := F0 m pc ls rest) rfl (by rw [hb]; exact d0) (Nat.le_refl _) (Nat.le_refl _)
  generalize hT1 : (T.setVm vm₁).pushCell { cls := cX, slots := kX.instanceTypes.map defaultValue, vm := .none } = T1 at X₁ st1
  have hcat : (Value.ref T.heap.size).category = 1 := rfl
  have hcellA : T1.heap[T.heap.size]? = some (freshCell cX kX) := by rw [← hT1]; exact State.heap_pushCell_size _ _
  have d3' : decode c.code (pc + 3) = .ok (.dup, 1) := by rw [hb]; exact d3
  have d4' : decode c.code (pc + 4) = .ok (.ldc_w is, 3) := by rw [hb]; exact d4
  have hstr' : vk_R own is text sa s' := vk_R.warm hW0 hstr
  obtain ⟨U, hsteps, hrun, hend, hW, hsame, ce, hce, hO⟩ := X₁.ctorThrowS hexec htr (own := own) (cls := cls) (names := names) (ic := ic) hown' hcls hnames h (fun x hx => nomatch hx) hfX hkX hcellA (by rw [hhp, hT]; exact Nat.le_refl _) (msg := .ref sa) rfl
    (g := { method := m, pc := pc + 7, locals := ls, stack := .ref sa :: .ref T.heap.size :: .ref T.heap.size :: rest, locked := none }) rfl hsize rfl rfl (rest := rest) rfl
    (by rw [hb]; exact d7) (by rw [hb]; exact d10) hout hRframes (by simp only [List.map_cons, List.sum_cons, hcat]; omega) hlocks
  obtain ⟨f1, f2⟩ := vx_frame hsame
  rw [hhp] at f1 f2
  have hWs : s.WarmedH U.vm := State.WarmedH.trans hW0 hW
  have hcl : s.vm.findClass cls = some ce.cls := by
    have h9 := hO.cls
    rw [hvm] at h9
    exact h9
  have hall : s.sameButNew ({ U with vm := s.vm } : State) locs mc ms := by
    subst hA
    obtain ⟨e1, e2⟩ := hsame
    rw [State.setFrames_setFrames] at e1
    have h2 : (T.setVm s.vm).sameButNew ({ U with vm := s.vm } : State) [] (0 + 1) (0 + 6) := ⟨e1, e2⟩
    have h3 := X.same.trans h2
    rw [List.append_nil] at h3
    exact h3.mono hc hs
  refine ⟨U, ?_, .threw T.heap.size, hrun, hend, Or.inr ⟨T.heap.size, rfl, cls, ce, locs, hx U hWs.alike f1 (fun q hq => f2 q hq (fun z hz => nomatch hz)), hce, hO.vm, hcl, hWs, hall, hf⟩⟩
  refine st1 _ ?_
  show Steps p.tables e below (T1.setTop { method := m, pc := pc + 3, locals := ls, stack := .ref T.heap.size :: rest, locked := none }) _
  jvm_step X₁.here [X₁.here.top, hexec, d3', Value.category]
  exact X₁.ldcStringW hexec (own := own) (text := text) (index := is) (a := sa) hown' hstr'.1 hstr'.2
    (g := { method := m, pc := pc + 4, locals := ls, stack := .ref T.heap.size :: .ref T.heap.size :: rest, locked := none }) rfl d4' _ hsteps
end Ends
section Bodies
variable {l : Launch}
theorem vx_ofW {y : MethodName} {ws ws' : List Cond} {rm : Room} {Pc : Array Value → State → Prop} {Qc : Array Value → State → Outcome → State → Prop} {XC : String → State → State → Prop} {mc ms : Nat} {free : Addr → Prop} {cc : ByteArray} {maxL : Nat} {ret : Option FieldType}
    (hy : plainName y.cls = true) (hw : ws = Cond.code y cc maxL ret :: ws')
    (body : ∀ p e s m args below meth c s₁, BodyLoose p l y (headSpec ws rm) cc maxL ret e s m args below meth c s₁ → c.maxLocals = maxL → (∀ x ∈ c.exceptionTable.toList, False) → Pc args s →
      W p l e (headSpec ws rm).room s m args below meth c s.heap [] 0 0 (vx_MQ below Qc XC args s mc ms free) (entryFrame m args maxL)) : vx_Met l y ws rm Pc Qc XC mc ms free := by
  refine MetFree.of_bodyS (code := cc) (maxLocals := maxL) (ret := ret) hy ?_ ?_
  · intro args s m h hn
    obtain ⟨meth, c, h1, h2, h3, h4, h5, h6, -, -⟩ := Cond.code_spec hn (atoms_spec (ws := ws) h _ (by rw [hw]; exact List.mem_cons_self))
    exact ⟨meth, c, h1, h2, h3, h4, h5, h6⟩
  · intro p e s m args below meth c s₁ B hml hP _
    have hh0 : s₁.heap = s.heap := by rw [B.state]; rfl
    have ht : ∀ x ∈ c.exceptionTable.toList, False := by
      obtain ⟨meth9, c9, h1, h2, -, -, -, -, h7, -⟩ := Cond.code_spec B.named (atoms_spec (ws := ws) B.pre _ (by rw [hw]; exact List.mem_cons_self))
      cases Option.some.inj (h1.symm.trans B.method)
      cases Option.some.inj (h2.symm.trans (Stand.of_body B).code)
      intro x hx
      rw [Array.isEmpty_iff.mp h7] at hx
      cases hx
    obtain ⟨t, a1, o, b1, b2, b3⟩ := body p e s m args below meth c s₁ B hml ht hP s₁ hh0 (Stand.of_body B)
    exact ⟨t, o, a1, b1, b2, b3⟩
/-- the table of a body with handlers -/
theorem vx_table {p : Program} {x y : MethodName} {S : Spec} {cc bytes : ByteArray} {maxL maxL' : Nat} {ret ret' : Option FieldType} {e : Env} {s s₁ : State} {m : MethodId} {args : Array Value} {below : List Frame} {meth : Method} {c : Code} {hh : List (Nat × Nat × Nat × Nat)}
    (B : BodyLoose p l y S cc maxL ret e s m args below meth c s₁) (h : (Cond.codeWith y bytes maxL' ret' hh).before args s = true) : c.exceptionTable.toList = tableOf hh := by
  obtain ⟨m9, meth9, c9, hn9, h1, h2, -, -, h6, -⟩ := Cond.codeWith_spec h
  cases Option.some.inj (hn9.symm.trans B.named)
  cases Option.some.inj (h1.symm.trans B.method)
  cases Option.some.inj (h2.symm.trans (Stand.of_body B).code)
  rw [← h6, table_eq]
end Bodies
end VXA
/-! ===== END ===== -/
/-! ===== BEGIN a static call of a method with an exception table ===== -/
section VXS
variable {p : Program} {l : Launch} {e : Env} {R : Room} {s : State} {m : MethodId} {args : Array Value} {below : List Frame} {meth : Method} {c : Code} {T : State} {H : Heap} {locs : List Loc} {cells slots : Nat}
abbrev vx_CSW (R : Room) (s : State) (args : Array Value) (own : String) (index : Nat) (y : MethodName) (bytes : ByteArray) (maxL : Nat) (ret : Option FieldType) (hh : List (Nat × Nat × Nat × Nat)) (ws : List Cond) (rm : Room) (mc ms n : Nat) : Prop :=
  (rm.cells = mc ∧ rm.slots = ms ∧ rm.frames + 1 ≤ R.frames ∧ 8 + (maxL + 11) + rm.locals ≤ R.locals ∧ (∀ w ∈ ws, ∀ (a' : Array Value) (U : State), s.WarmedH U.vm → w.before a' U = true) ∧ Cond.codeWith y bytes maxL ret hh ∈ ws) ∧
  (Cond.codeWith y bytes maxL ret hh).before args s = true ∧ (Cond.initialized y.cls).before args s = true ∧ (y.cls ≠ "java/lang/invoke/MethodHandle" ∧ y.cls ≠ "java/lang/invoke/VarHandle") ∧
  (∀ sig, parseMethodDescriptor y.desc = some sig → n = sig.parameters.length) ∧ (Cond.methodLink own index y).before args s = true ∧ (Cond.static y).before args s = true
theorem vx_cwSW {own : String} {index maxL mc ms : Nat} {y : MethodName} {bytes : ByteArray} {ret : Option FieldType} {hh : List (Nat × Nat × Nat × Nat)} {Ts ws ws' : List Cond} {rm : Room} (n : Nat) (ht : ∀ w ∈ Ts, w.before args s = true) (hT : GoodIn Ts (va_wsS own index y ws)) (hw : ws = Cond.codeWith y bytes maxL ret hh :: ws') (hrc : rm.cells = mc) (hrs : rm.slots = ms)
    (hd : y.cls ≠ "java/lang/invoke/MethodHandle" ∧ y.cls ≠ "java/lang/invoke/VarHandle" ∧ (parseMethodDescriptor y.desc).map (fun d => d.parameters.length) = some n) (hR : rm.frames + 1 ≤ R.frames ∧ 8 + (maxL + 11) + rm.locals ≤ R.locals) :
    vx_CSW R s args own index y bytes maxL ret hh ws rm mc ms n := by
  have ok : ∀ w ∈ va_wsS own index y ws, w.before args s = true := fun w h => ht w (hT w h).1
  have hG : GoodIn Ts ws := fun w h => hT w (by unfold va_wsS; exact List.mem_append_right _ h)
  have hc : Cond.codeWith y bytes maxL ret hh ∈ ws := by rw [hw]; exact List.mem_cons_self
  refine ⟨⟨hrc, hrs, hR.1, hR.2, pay_in ht hG, hc⟩, ht _ (hG _ hc).1, ok _ (by simp [va_wsS]), ⟨hd.1, hd.2.1⟩, fun sig h => ?_, ok _ (by simp [va_wsS]), ok _ (by simp [va_wsS])⟩
  have h2 := hd.2.2
  rw [h] at h2
  exact (Option.some.inj h2).symm
theorem vx_callSW (X : Stand p l e R s m args below meth c T locs cells slots) (hexec : p.tables.exec = Jvm.exec) {own : String} {index : Nat} {y : MethodName} {bytes : ByteArray} {maxL : Nat} {ret : Option FieldType} {hh : List (Nat × Nat × Nat × Nat)}
    (hown : s.vm.findClass own = some m.cls) (hlink : (Cond.methodLink own index y).before args s = true) (hstat : (Cond.static y).before args s = true) (hinit : (Cond.initialized y.cls).before args s = true)
    (hcode : (Cond.codeWith y bytes maxL ret hh).before args s = true) (hy : y.cls ≠ "java/lang/invoke/MethodHandle" ∧ y.cls ≠ "java/lang/invoke/VarHandle")
    {W9 : Nat} {Pre : Pt → Array Value → Prop} {Post : Pt → Array Value → Option Value → Pt → Prop} (hK : Back l R p e below s args y 3 W9 Pre Post)
    {g : JFrame} (hg : g.method = m) (hsize : g.locals.size = c.maxLocals) {argsL rest : List Value} (hlen : ∀ sig, parseMethodDescriptor y.desc = some sig → argsL.length = sig.parameters.length)
    (hstack : g.stack = argsL.reverse ++ rest) (hW : 2 * g.monitorRoom + (rest.map fun v => v.category).sum ≤ W9) (hdg : decode c.code g.pc = .ok (.invokestatic index, 3))
    (hpre : ∀ vm₁, s.WarmedH vm₁ → Pre ⟨T.setVm vm₁, locs, cells, slots⟩ argsL.toArray) :
    ∃ (v : Option Value) (vm₁ : Vm) (B : Pt), s.WarmedH vm₁ ∧ Stand p l e R s m args below meth c B.U B.locs B.cells B.slots ∧ Post ⟨T.setVm vm₁, locs, cells, slots⟩ argsL.toArray v B ∧
      ∀ target, Steps p.tables e below (B.U.setTop { g with pc := g.pc + 3, stack := v.toList ++ rest }) target → Steps p.tables e below (T.setTop g) target := by
  obtain ⟨mk, methM, cM, hnamed, hmethM, -, -, -, -, -, -, hsigM⟩ := Cond.codeWith_spec hcode
  have hstatic : methM.isStatic = true := Cond.static_spec hnamed hmethM hstat
  obtain ⟨kP, hkP, -⟩ := className_of_methodNamed hnamed
  have hinitP : kP.init = .initialized := Cond.initialized_spec (findClass_of_methodNamed hnamed) hkP hinit
  obtain ⟨vm₁, X₁, hstep₁⟩ := X.invokestatic hexec hown hlink hnamed hmethM hstatic hkP hinitP hy (g := g) hg (argsL := argsL) (rest := rest) (hlen _ hsigM) hstack hdg
  obtain ⟨v, B, X', hpost, hsteps⟩ := hK m meth c ⟨T.setVm vm₁, locs, cells, slots⟩ { g with stack := rest } (.invokestatic index) mk argsL.toArray X₁ hg hsize hdg hW (X₁.named hnamed) (hpre vm₁ X₁.warmed)
  exact ⟨v, vm₁, B, X₁.warmed, X', hpost, fun target h => hstep₁ _ fun acts => by rw [doInvoke_state]; exact hsteps.trans h⟩
theorem vx_runSW {y : MethodName} {bytes cc : ByteArray} {maxL nL mc ms n index : Nat} {ret : Option FieldType} {hh : List (Nat × Nat × Nat × Nat)} {ws : List Cond} {rm : Room} {Pc : Array Value → State → Prop} {Qc : Array Value → State → Outcome → State → Prop} {free : Addr → Prop} {Ts : List Cond} {own : String} {As rest : List Value} {g : JFrame}
    (S : CallFix p m c cc nL s args Ts own) (hM : Met l y ws rm Pc Qc mc ms free) (cw : vx_CSW R s args own index y bytes maxL ret hh ws rm mc ms n) (hp : PreS s H Pc As)
    (hg : g.method = m) (hn : As.length = n) (hsize : g.locals.size = nL) (hstack : g.stack = As.reverse ++ rest) (hW : 2 * g.monitorRoom + (rest.map fun v => v.category).sum ≤ 8) (hdg : decode cc g.pc = .ok (.invokestatic index, 3)) (hf : cells + mc ≤ R.cells ∧ slots + ms ≤ R.slots) :
    va_Run p l e R s m args below meth c H locs cells slots mc ms g rest (Qc As.toArray) (free) := by
  obtain ⟨⟨hrc, hrs, hfr, hlo, hws, hcw⟩, hcode, hini, hy, hlen, hl, hstt⟩ := cw
  have hK : Back l R p e below s args y 3 8 (PreOf R mc ms Pc) (PostOf Qc mc ms free) := va_backW (hh := hh) (bytes := bytes) (maxL := maxL) (ret := ret) hM hp.1 hrc hrs hfr hlo hws hcw (fun a' U hW => word_at hW (Or.inl (by first | rfl | simp [Cond.onTables, Cond.keeps, Cond.steady])) hini)
  obtain ⟨hx, hb, hml, ho, -⟩ := S
  intro T hT X
  obtain ⟨v, vm₁, ⟨U', l2, c2, s2⟩, hW₁, X', ⟨g', mk, t, L, e1, e2, hq, h1, hL, h2, h3⟩, st⟩ := vx_callSW X hx (hh := hh) (bytes := bytes) (maxL := maxL) (ret := ret) ho hl hstt hini hcode hy hK hg (hsize.trans hml.symm) (argsL := As) (rest := rest) (fun sig h => hn.trans (hlen sig h)) hstack hW (by rw [hb]; exact hdg)
    (fun vm₁ hW₁ => ⟨hf.1, hf.2, hp.2 (T.setVm vm₁) hT hW₁⟩)
  dsimp only [Pt.U, Pt.locs, Pt.cells, Pt.slots] at X' e1 e2 h1 h2 h3 st
  subst h1; subst h2; subst h3
  exact ⟨v, (T.setVm vm₁).calling g' mk As.toArray, t, U', L, hT, X', hL, e1, e2, hq, st⟩
/-- not caught here, past rows that name other classes: it goes on to the caller -/
theorem vx_outP {p : Program} {l : Launch} {e : Env} {R : Room} {s : State} {m : MethodId} {args : Array Value} {below : List Frame} {meth : Method} {c : Code} {H : Heap} {locs : List Loc} {cells slots : Nat} {free : Addr → Prop} {ls : Array Slot} {rest : List Value} {Qc : Array Value → State → Outcome → State → Prop} {XC : String → State → State → Prop}
    {pc : Nat} {own E : String} {ce : Cell} {q : Addr} {mc ms : Nat} (hown : s.vm.findClass own = some m.cls) (hlocks : meth.locks = false)
    (hpass : ∀ z ∈ c.exceptionTable.toList, covers z pc = false ∨ (z.catchType ≠ 0 ∧ ∃ nm : String, (Cond.classLink own z.catchType nm).before args s = true ∧ va_Nc E nm s)) (hcell : H[q]? = some ce) (hv : ce.vm = .none) (hcl : s.vm.findClass E = some ce.cls)
    (hx : ∀ t : State, t.heap = H → s.vm.Alike t.vm → XC E s t) (hf : ∀ z ∈ locs, free z.base) (hc : cells ≤ mc) (hs : slots ≤ ms) :
    vx_W p l e R s m args below meth c H locs cells slots (vx_MQ below Qc XC args s mc ms free) (F0 m pc ls rest) q := by
  intro T hT X
  have hpl : e.platform.magicAccessors = ({} : Platform).magicAccessors := by rw [X.admits.platform]
  obtain ⟨vm', hW', X', st⟩ := X.outThrough hlocks q (g := F0 m pc ls rest) rfl rfl rfl (cell := ce) (by rw [hT]; exact hcell) (by rw [hv]; rfl)
    (by obtain ⟨k9, h9, -⟩ := Vm.findClass_spec hcl; exact ⟨k9, h9⟩) (fun z hz => by
      rcases hpass z hz with h | ⟨hz0, nm, hl1, hn1⟩
      · exact Or.inl h
      · obtain ⟨c6, hc6, hcl6⟩ := Cond.classLink_spec hown hl1 e.platform hpl
        obtain ⟨a8, b8, h1, h2, h3⟩ := hn1
        cases Option.some.inj (h1.symm.trans hcl)
        cases Option.some.inj (h2.symm.trans hc6)
        exact Or.inr ⟨hz0, _, hcl6, h3⟩)
  obtain ⟨g₀, hfr⟩ := X'.frames_eq
  have hcell9 : ((T.setVm vm').setFrames (.throwing q :: below)).heap[q]? = some ce := by
    show T.heap[q]? = some ce
    rw [hT]; exact hcell
  have hend : Ended ((T.setVm vm').setFrames (.throwing q :: below)) below (.threw q) := State.frames_setFrames _ (State.cur_lt_of_frames hfr)
  refine ⟨(T.setVm vm').setFrames (.throwing q :: below), ?_, .threw q, X'.here.running, hend, Or.inr ⟨q, rfl, E, ce, locs, hx _ hT (X'.ends _).1.alike, hcell9, hv, hcl, (X'.ends _).1, (X'.ends _).2.mono hc hs, hf⟩⟩
  rw [X.pushThrowing_eq]
  exact st
/-- a thing of a world lies in the heap -/
theorem vx_lt {D : va_G} {cl : List vw_C} {ws : va_W} {H1 : Heap} (h : va_P D cl ws H1) {k : Nat} {q : Nat × va_E} (hk : ws[k]? = some q) : q.1 < H1.size := (h k q hk).lt
end VXS
/-! ===== END ===== -/
/-! ===== BEGIN methods with a table of their own: called by a name, returning or throwing ===== -/
section VXH
/-! vx_backW, vx_callVX, vx_callSX, vx_callVW, vx_runVW, vx_runVX, vx_runSX, vx_ofWH follow the same proofs as their sisters above (Free/Laws.lean, Shelf42/LK1.lean); vx_outP calls Shelf42/NT130.lean (outThrough). -/
section
variable {l : Launch} {R : Room} {p : Program} {e : Env} {below : List Frame} {s : State} {sargs : Array Value} {y : MethodName} {len W9 : Nat}
theorem vx_backW {ws : List Cond} {rm : Room} {Pc : Array Value → State → Prop} {Qc : Array Value → State → Outcome → State → Prop} {XC : String → State → State → Prop} {mc ms : Nat} {free : Addr → Prop} {bytes : ByteArray} {maxL : Nat} {ret : Option FieldType} {hh : List (Nat × Nat × Nat × Nat)}
    (hM : vx_Met l y ws rm Pc Qc XC mc ms free) (hblind : FrameBlind Pc) (hrc : rm.cells = mc) (hrs : rm.slots = ms)
    (hframes : rm.frames + 1 ≤ R.frames) (hlocals : W9 + (maxL + 11) + rm.locals ≤ R.locals)
    (hws : ∀ w ∈ ws, ∀ a' U, s.WarmedH U.vm → w.before a' U = true) (hcode : Cond.codeWith y bytes maxL ret hh ∈ ws) (hinit : ∀ a' U, s.WarmedH U.vm → (Cond.initialized y.cls).before a' U = true) :
    vx_Back l R p e below s sargs y len W9 (PreOf R mc ms Pc) (PostOf Qc mc ms free) (vx_Post XC mc ms free) := by
  intro m meth c A g ig mk a X hg hsize hdg hW hn hp
  have h1 : (headSpec ws rm).pre.before a A.U = true := atoms_intro fun w hw => hws w hw _ _ X.warmed
  have h2 : (Cond.codeWith y bytes maxL ret hh).before a A.U = true := hws _ hcode _ _ X.warmed
  have h3 : (Cond.initialized y.cls).before a A.U = true := hinit _ _ X.warmed
  have h4 : A.cells + (headSpec ws rm).room.cells ≤ R.cells := by rw [show (headSpec ws rm).room.cells = mc from hrc]; exact hp.1
  have h5 : A.slots + (headSpec ws rm).room.slots ≤ R.slots := by rw [show (headSpec ws rm).room.slots = ms from hrs]; exact hp.2.1
  have hPc : Pc a (A.U.calling g mk a) := hblind _ _ _ _ hp.2.2
  obtain ⟨U, Ls, c0, s0⟩ := A
  dsimp only [Pt.U, Pt.locs, Pt.cells, Pt.slots] at h1 h2 h3 h4 h5 X hn hPc ⊢
  obtain ⟨m9, methY, cY, hn9, hmY, hcY, -, hlY, -⟩ := Cond.codeWith_spec h2
  cases Option.some.inj (hn9.symm.trans hn)
  obtain ⟨kY, hkY, -⟩ := className_of_methodNamed hn
  have hinitY : kY.init = .initialized := Cond.initialized_spec (findClass_of_methodNamed hn) hkY h3
  have h : At U g.method c below := by rw [hg]; exact X.here
  have hlocals9 : W9 + (maxL + 11) + (headSpec ws rm).room.locals ≤ R.locals := hlocals
  have happ : (headSpec ws rm).appliesLoose y e.platform (U.calling g mk a) = true :=
    Spec.appliesLoose_calling (g := g) h hdg hn hkY hinitY
      (X.room_calling (g := g) (R' := (headSpec ws rm).room) hsize hmY hcY hframes (by rw [hlY]; omega) h4 h5) h1
  obtain ⟨mid, hmid⟩ := h.above
  have hfr : (U.setTop g).frames = (.java g :: mid) ++ below := by rw [State.frames_setTop' g h.top, hmid]; rfl
  obtain ⟨o, s₂, hsteps, -, hend, hq⟩ := Steps.callFree hM p X.admits X.cas X.clock (acts := []) hfr happ hPc trivial
  have hq' : vx_Q Qc XC mc ms free a (U.calling g mk a) o s₂ := hq
  rw [State.frames_setTop' g h.top] at hend
  obtain ⟨g₀, hg0⟩ := Option.isSome_iff_exists.mp h.top
  obtain ⟨r, hr⟩ := State.topJava?_eq_some.mp hg0
  have hr' : (({ U with heap := s₂.heap, slotsUsed := s₂.slotsUsed } : State).setVm s₂.vm).frames = .java g₀ :: r := hr
  rcases hq' with ⟨hqc, L, hfe, hL⟩ | ⟨q, rfl, E, ce, L, hx, hce, hcv, hcl, hW₂, hsm, hL⟩
  · obtain ⟨⟨v, rfl⟩, hW₂, e2, q2, q3, q4, q5, q6⟩ := id hfe
    have e3 : s₂ = ({ (U.calling g mk a).setFrames s₂.frames with heap := s₂.heap, slotsUsed := s₂.slotsUsed } : State).setVm s₂.vm := by
      have : s₂ = ({ s₂ with vm := (U.calling g mk a).vm } : State).setVm s₂.vm := rfl
      rw [e2] at this
      exact this
    obtain ⟨c₂, i₂, len₂, hc₂, hd₂, hf₂⟩ := hend
    have hW' : U.WarmedH s₂.vm := hW₂
    have hcc : c₂ = c := by
      have h1 : s₂.code? g.method = U.code? g.method := by
        rw [State.code?_eq, State.code?_eq, hW'.alike.method?]
      exact Option.some.inj (hc₂.symm.trans (h1.trans h.code))
    subst hcc
    have hlen : len₂ = len := by rw [hdg] at hd₂; cases hd₂; rfl
    subst hlen
    have hs₂ : s₂ = (({ U with heap := s₂.heap, slotsUsed := s₂.slotsUsed } : State).setVm s₂.vm).setTop { g with pc := g.pc + len₂, stack := v.toList ++ g.stack } := by
      refine e3.trans ?_
      rw [hf₂, State.calling_eq h.top, State.setFrames_setFrames, State.setTop_of_frames _ hr', hr]
      rfl
    have hsame : U.sameButNew ({ U with heap := s₂.heap, slotsUsed := s₂.slotsUsed } : State) L mc ms := by
      refine ⟨?_, q2, q3, q4, q5, q6⟩
      obtain ⟨t, ht, -⟩ := State.frames_cons hr
      show ({ U with heap := s₂.heap, slotsUsed := s₂.slotsUsed } : State) = { U.setFrames U.frames with heap := s₂.heap, slotsUsed := s₂.slotsUsed }
      rw [State.setFrames_self ht]
    subst hg
    refine Or.inl ⟨v, ⟨(({ U with heap := s₂.heap, slotsUsed := s₂.slotsUsed } : State).setVm s₂.vm), Ls ++ L, c0 + mc, s0 + ms⟩,
      ⟨X.admits, X.cas, X.clock, X.frames, X.room, X.hears, X.method, X.code, (X.here.setHeapUsed s₂.heap s₂.slotsUsed).setVm hW'.alike, X.tail, State.WarmedH.trans X.warmed hW', X.limits, X.bytes, X.same.trans (hsame.setVm s.vm)⟩,
      ⟨g, mk, s₂, L, rfl, rfl, hqc, rfl, hL, rfl, rfl⟩, ?_⟩
    show Steps p.tables e below _ ((({ U with heap := s₂.heap, slotsUsed := s₂.slotsUsed } : State).setVm s₂.vm).setTop { g with pc := g.pc + len₂, stack := v.toList ++ g.stack })
    rw [← hs₂]
    exact hsteps
  · obtain ⟨e2, q2, q3, q4, q5, q6⟩ := id hsm
    have e3 : s₂ = ({ (U.calling g mk a).setFrames s₂.frames with heap := s₂.heap, slotsUsed := s₂.slotsUsed } : State).setVm s₂.vm := by
      have : s₂ = ({ s₂ with vm := (U.calling g mk a).vm } : State).setVm s₂.vm := rfl
      rw [e2] at this
      exact this
    have hf₂ : s₂.frames = .throwing q :: .java g :: U.frames.tail := hend
    have hW' : U.WarmedH s₂.vm := hW₂
    have hs₂ : s₂ = ((({ U with heap := s₂.heap, slotsUsed := s₂.slotsUsed } : State).setVm s₂.vm).setTop g).pushFrame (.throwing q) := by
      refine e3.trans ?_
      rw [hf₂, State.calling_eq h.top, State.setFrames_setFrames, State.pushFrame, State.frames_setTop _ hr', State.setTop_of_frames _ hr', State.setFrames_setFrames, hr]
      rfl
    have hsame : U.sameButNew ({ U with heap := s₂.heap, slotsUsed := s₂.slotsUsed } : State) L mc ms := by
      refine ⟨?_, q2, q3, q4, q5, q6⟩
      obtain ⟨t, ht, -⟩ := State.frames_cons hr
      show ({ U with heap := s₂.heap, slotsUsed := s₂.slotsUsed } : State) = { U.setFrames U.frames with heap := s₂.heap, slotsUsed := s₂.slotsUsed }
      rw [State.setFrames_self ht]
    subst hg
    refine Or.inr ⟨q, ⟨(({ U with heap := s₂.heap, slotsUsed := s₂.slotsUsed } : State).setVm s₂.vm), Ls ++ L, c0 + mc, s0 + ms⟩,
      ⟨X.admits, X.cas, X.clock, X.frames, X.room, X.hears, X.method, X.code, (X.here.setHeapUsed s₂.heap s₂.slotsUsed).setVm hW'.alike, X.tail, State.WarmedH.trans X.warmed hW', X.limits, X.bytes, X.same.trans (hsame.setVm s.vm)⟩,
      ⟨g, mk, s₂, L, E, ce, rfl, rfl, hx, hce, hcv, hcl, rfl, hL, rfl, rfl⟩, ?_⟩
    show Steps p.tables e below _ (((({ U with heap := s₂.heap, slotsUsed := s₂.slotsUsed } : State).setVm s₂.vm).setTop g).pushFrame (.throwing q))
    rw [← hs₂]
    exact hsteps
end
variable {p : Program} {l : Launch} {e : Env} {R : Room} {s : State} {m : MethodId} {args : Array Value} {below : List Frame} {meth : Method} {c : Code} {T : State} {H : Heap} {locs : List Loc} {cells slots : Nat}
theorem vx_callVX (X : Stand p l e R s m args below meth c T locs cells slots) (hexec : p.tables.exec = Jvm.exec) {own C : String} {index : Nat} {y : MethodName} {bytes : ByteArray} {maxL : Nat} {ret : Option FieldType} {hh : List (Nat × Nat × Nat × Nat)}
    (hown : s.vm.findClass own = some m.cls) (hlink : (Cond.methodLink own index y).before args s = true) (hinst : (Cond.instanceMethod y).before args s = true) (hsel : (Cond.selects C y y).before args s = true)
    (hcode : (Cond.codeWith y bytes maxL ret hh).before args s = true) (hy : y.cls ≠ "java/lang/invoke/MethodHandle" ∧ y.cls ≠ "java/lang/invoke/VarHandle")
    {W9 : Nat} {Pre : Pt → Array Value → Prop} {Post : Pt → Array Value → Option Value → Pt → Prop} {PostX : Pt → Array Value → Addr → Pt → Prop} (hK : vx_Back l R p e below s args y 3 W9 Pre Post PostX)
    {b : Addr} {cellB : Cell} (hcell : T.heap[b]? = some cellB) (hobj : cellB.vm.isStatics = false) (hcls : s.vm.findClass C = some cellB.cls)
    {g : JFrame} (hg : g.method = m) (hsize : g.locals.size = c.maxLocals) {argsL rest : List Value} (hlen : ∀ sig, parseMethodDescriptor y.desc = some sig → argsL.length = sig.parameters.length)
    (hstack : g.stack = argsL.reverse ++ .ref b :: rest) (hW : 2 * g.monitorRoom + (rest.map fun v => v.category).sum ≤ W9) (hdg : decode c.code g.pc = .ok (.invokevirtual index, 3))
    (hpre : ∀ vm₁, s.WarmedH vm₁ → Pre ⟨T.setVm vm₁, locs, cells, slots⟩ (Value.ref b :: argsL).toArray) :
    (∃ (v : Option Value) (vm₁ : Vm) (B : Pt), s.WarmedH vm₁ ∧ Stand p l e R s m args below meth c B.U B.locs B.cells B.slots ∧ Post ⟨T.setVm vm₁, locs, cells, slots⟩ (Value.ref b :: argsL).toArray v B ∧
      ∀ target, Steps p.tables e below (B.U.setTop { g with pc := g.pc + 3, stack := v.toList ++ rest }) target → Steps p.tables e below (T.setTop g) target) ∨
    (∃ (q : Addr) (vm₁ : Vm) (B : Pt), s.WarmedH vm₁ ∧ Stand p l e R s m args below meth c B.U B.locs B.cells B.slots ∧ PostX ⟨T.setVm vm₁, locs, cells, slots⟩ (Value.ref b :: argsL).toArray q B ∧
      Steps p.tables e below (T.setTop g) ((B.U.setTop { g with stack := rest }).pushFrame (.throwing q))) := by
  obtain ⟨mk, methM, hnamed, hmethM, hstM, habM⟩ := Cond.instanceMethod_spec hinst
  obtain ⟨m8, methM', cM, hn8, hmethM', -, -, -, -, -, -, hsigM⟩ := Cond.codeWith_spec hcode
  cases Option.some.inj (hn8.symm.trans hnamed)
  cases hmethM.symm.trans hmethM'
  obtain ⟨c2, r2, m2, q1, q2, q3, q4, kP, hkP, hkPi⟩ := Cond.selects_spec hsel
  cases hcls.symm.trans q1
  cases (State.methodFound?_of_named hnamed hy).symm.trans q2
  cases hnamed.symm.trans q3
  have hselP : selectMethod e.platform s.vm cellB.cls mk = .method mk := by rw [Launch.admits_selectMethod X.admits]; exact q4
  obtain ⟨vm₁, X₁, hstep₁⟩ := X.invokevirtual hexec hown hlink hnamed hmethM hstM hkP hkPi hy (a := b) (cell := cellB) hcell
    (fun z h => by rw [h] at hobj; cases hobj) hselP hmethM habM hkP hkPi (g := g) hg (argsL := argsL) (rest := rest) (hlen _ hsigM) hstack hdg
  rcases hK m meth c ⟨T.setVm vm₁, locs, cells, slots⟩ { g with stack := rest } (.invokevirtual index) mk (Value.ref b :: argsL).toArray X₁ hg hsize hdg hW (X₁.named hnamed) (hpre vm₁ X₁.warmed) with ⟨v, B, X', hpost, hsteps⟩ | ⟨q, B, X', hpost, hsteps⟩
  · exact Or.inl ⟨v, vm₁, B, X₁.warmed, X', hpost, fun target h => hstep₁ _ fun acts => by rw [doInvoke_state]; exact hsteps.trans h⟩
  · exact Or.inr ⟨q, vm₁, B, X₁.warmed, X', hpost, hstep₁ _ fun acts => by rw [doInvoke_state]; exact hsteps⟩
theorem vx_callSX (X : Stand p l e R s m args below meth c T locs cells slots) (hexec : p.tables.exec = Jvm.exec) {own : String} {index : Nat} {y : MethodName} {bytes : ByteArray} {maxL : Nat} {ret : Option FieldType} {hh : List (Nat × Nat × Nat × Nat)}
    (hown : s.vm.findClass own = some m.cls) (hlink : (Cond.methodLink own index y).before args s = true) (hstat : (Cond.static y).before args s = true) (hinit : (Cond.initialized y.cls).before args s = true)
    (hcode : (Cond.codeWith y bytes maxL ret hh).before args s = true) (hy : y.cls ≠ "java/lang/invoke/MethodHandle" ∧ y.cls ≠ "java/lang/invoke/VarHandle")
    {W9 : Nat} {Pre : Pt → Array Value → Prop} {Post : Pt → Array Value → Option Value → Pt → Prop} {PostX : Pt → Array Value → Addr → Pt → Prop} (hK : vx_Back l R p e below s args y 3 W9 Pre Post PostX)
    {g : JFrame} (hg : g.method = m) (hsize : g.locals.size = c.maxLocals) {argsL rest : List Value} (hlen : ∀ sig, parseMethodDescriptor y.desc = some sig → argsL.length = sig.parameters.length)
    (hstack : g.stack = argsL.reverse ++ rest) (hW : 2 * g.monitorRoom + (rest.map fun v => v.category).sum ≤ W9) (hdg : decode c.code g.pc = .ok (.invokestatic index, 3))
    (hpre : ∀ vm₁, s.WarmedH vm₁ → Pre ⟨T.setVm vm₁, locs, cells, slots⟩ argsL.toArray) :
    (∃ (v : Option Value) (vm₁ : Vm) (B : Pt), s.WarmedH vm₁ ∧ Stand p l e R s m args below meth c B.U B.locs B.cells B.slots ∧ Post ⟨T.setVm vm₁, locs, cells, slots⟩ argsL.toArray v B ∧
      ∀ target, Steps p.tables e below (B.U.setTop { g with pc := g.pc + 3, stack := v.toList ++ rest }) target → Steps p.tables e below (T.setTop g) target) ∨
    (∃ (q : Addr) (vm₁ : Vm) (B : Pt), s.WarmedH vm₁ ∧ Stand p l e R s m args below meth c B.U B.locs B.cells B.slots ∧ PostX ⟨T.setVm vm₁, locs, cells, slots⟩ argsL.toArray q B ∧
      Steps p.tables e below (T.setTop g) ((B.U.setTop { g with stack := rest }).pushFrame (.throwing q))) := by
  obtain ⟨mk, methM, cM, hnamed, hmethM, -, -, -, -, -, -, hsigM⟩ := Cond.codeWith_spec hcode
  have hstatic : methM.isStatic = true := Cond.static_spec hnamed hmethM hstat
  obtain ⟨kP, hkP, -⟩ := className_of_methodNamed hnamed
  have hinitP : kP.init = .initialized := Cond.initialized_spec (findClass_of_methodNamed hnamed) hkP hinit
  obtain ⟨vm₁, X₁, hstep₁⟩ := X.invokestatic hexec hown hlink hnamed hmethM hstatic hkP hinitP hy (g := g) hg (argsL := argsL) (rest := rest) (hlen _ hsigM) hstack hdg
  rcases hK m meth c ⟨T.setVm vm₁, locs, cells, slots⟩ { g with stack := rest } (.invokestatic index) mk argsL.toArray X₁ hg hsize hdg hW (X₁.named hnamed) (hpre vm₁ X₁.warmed) with ⟨v, B, X', hpost, hsteps⟩ | ⟨q, B, X', hpost, hsteps⟩
  · exact Or.inl ⟨v, vm₁, B, X₁.warmed, X', hpost, fun target h => hstep₁ _ fun acts => by rw [doInvoke_state]; exact hsteps.trans h⟩
  · exact Or.inr ⟨q, vm₁, B, X₁.warmed, X', hpost, hstep₁ _ fun acts => by rw [doInvoke_state]; exact hsteps⟩
theorem vx_callVW (X : Stand p l e R s m args below meth c T locs cells slots) (hexec : p.tables.exec = Jvm.exec) {own C : String} {index : Nat} {y : MethodName} {bytes : ByteArray} {maxL : Nat} {ret : Option FieldType} {hh : List (Nat × Nat × Nat × Nat)}
    (hown : s.vm.findClass own = some m.cls) (hlink : (Cond.methodLink own index y).before args s = true) (hinst : (Cond.instanceMethod y).before args s = true) (hsel : (Cond.selects C y y).before args s = true)
    (hcode : (Cond.codeWith y bytes maxL ret hh).before args s = true) (hy : y.cls ≠ "java/lang/invoke/MethodHandle" ∧ y.cls ≠ "java/lang/invoke/VarHandle")
    {W9 : Nat} {Pre : Pt → Array Value → Prop} {Post : Pt → Array Value → Option Value → Pt → Prop} (hK : Back l R p e below s args y 3 W9 Pre Post)
    {b : Addr} {cellB : Cell} (hcell : T.heap[b]? = some cellB) (hobj : cellB.vm.isStatics = false) (hcls : s.vm.findClass C = some cellB.cls)
    {g : JFrame} (hg : g.method = m) (hsize : g.locals.size = c.maxLocals) {argsL rest : List Value} (hlen : ∀ sig, parseMethodDescriptor y.desc = some sig → argsL.length = sig.parameters.length)
    (hstack : g.stack = argsL.reverse ++ .ref b :: rest) (hW : 2 * g.monitorRoom + (rest.map fun v => v.category).sum ≤ W9) (hdg : decode c.code g.pc = .ok (.invokevirtual index, 3))
    (hpre : ∀ vm₁, s.WarmedH vm₁ → Pre ⟨T.setVm vm₁, locs, cells, slots⟩ (Value.ref b :: argsL).toArray) :
    ∃ (v : Option Value) (vm₁ : Vm) (B : Pt), s.WarmedH vm₁ ∧ Stand p l e R s m args below meth c B.U B.locs B.cells B.slots ∧ Post ⟨T.setVm vm₁, locs, cells, slots⟩ (Value.ref b :: argsL).toArray v B ∧
      ∀ target, Steps p.tables e below (B.U.setTop { g with pc := g.pc + 3, stack := v.toList ++ rest }) target → Steps p.tables e below (T.setTop g) target := by
  obtain ⟨mk, methM, hnamed, hmethM, hstM, habM⟩ := Cond.instanceMethod_spec hinst
  obtain ⟨m8, methM', cM, hn8, hmethM', -, -, -, -, -, -, hsigM⟩ := Cond.codeWith_spec hcode
  cases Option.some.inj (hn8.symm.trans hnamed)
  cases hmethM.symm.trans hmethM'
  obtain ⟨c2, r2, m2, q1, q2, q3, q4, kP, hkP, hkPi⟩ := Cond.selects_spec hsel
  cases hcls.symm.trans q1
  cases (State.methodFound?_of_named hnamed hy).symm.trans q2
  cases hnamed.symm.trans q3
  have hselP : selectMethod e.platform s.vm cellB.cls mk = .method mk := by rw [Launch.admits_selectMethod X.admits]; exact q4
  obtain ⟨vm₁, X₁, hstep₁⟩ := X.invokevirtual hexec hown hlink hnamed hmethM hstM hkP hkPi hy (a := b) (cell := cellB) hcell
    (fun z h => by rw [h] at hobj; cases hobj) hselP hmethM habM hkP hkPi (g := g) hg (argsL := argsL) (rest := rest) (hlen _ hsigM) hstack hdg
  obtain ⟨v, B, X', hpost, hsteps⟩ := hK m meth c ⟨T.setVm vm₁, locs, cells, slots⟩ { g with stack := rest } (.invokevirtual index) mk (Value.ref b :: argsL).toArray X₁ hg hsize hdg hW (X₁.named hnamed) (hpre vm₁ X₁.warmed)
  exact ⟨v, vm₁, B, X₁.warmed, X', hpost, fun target h => hstep₁ _ fun acts => by rw [doInvoke_state]; exact hsteps.trans h⟩
abbrev vx_CVW (R : Room) (s : State) (args : Array Value) (own C : String) (index : Nat) (y : MethodName) (bytes : ByteArray) (maxL : Nat) (ret : Option FieldType) (hh : List (Nat × Nat × Nat × Nat)) (ws : List Cond) (rm : Room) (mc ms n : Nat) : Prop :=
  (rm.cells = mc ∧ rm.slots = ms ∧ rm.frames + 1 ≤ R.frames ∧ 8 + (maxL + 11) + rm.locals ≤ R.locals ∧ (∀ w ∈ ws, ∀ (a' : Array Value) (U : State), s.WarmedH U.vm → w.before a' U = true) ∧ Cond.codeWith y bytes maxL ret hh ∈ ws) ∧
  (Cond.codeWith y bytes maxL ret hh).before args s = true ∧ (Cond.initialized y.cls).before args s = true ∧ (y.cls ≠ "java/lang/invoke/MethodHandle" ∧ y.cls ≠ "java/lang/invoke/VarHandle") ∧
  (∀ sig, parseMethodDescriptor y.desc = some sig → n = sig.parameters.length) ∧ (Cond.methodLink own index y).before args s = true ∧ (Cond.instanceMethod y).before args s = true ∧ (Cond.selects C y y).before args s = true
theorem vx_cwVW {own C : String} {index maxL mc ms : Nat} {y : MethodName} {bytes : ByteArray} {ret : Option FieldType} {hh : List (Nat × Nat × Nat × Nat)} {Ts ws ws' : List Cond} {rm : Room} (n : Nat) (ht : ∀ w ∈ Ts, w.before args s = true) (hT : GoodIn Ts (wsV own index C y ws)) (hw : ws = Cond.codeWith y bytes maxL ret hh :: ws') (hrc : rm.cells = mc) (hrs : rm.slots = ms)
    (hd : y.cls = C ∧ y.cls ≠ "java/lang/invoke/MethodHandle" ∧ y.cls ≠ "java/lang/invoke/VarHandle" ∧ (parseMethodDescriptor y.desc).map (fun d => d.parameters.length) = some n) (hR : rm.frames + 1 ≤ R.frames ∧ 8 + (maxL + 11) + rm.locals ≤ R.locals) :
    vx_CVW R s args own C index y bytes maxL ret hh ws rm mc ms n := by
  obtain ⟨hC, hd⟩ := hd
  subst hC
  have ok : ∀ w ∈ wsV own index y.cls y ws, w.before args s = true := fun w h => ht w (hT w h).1
  have hG : GoodIn Ts ws := fun w h => hT w (by unfold wsV; exact List.mem_append_right _ h)
  have hc : Cond.codeWith y bytes maxL ret hh ∈ ws := by rw [hw]; exact List.mem_cons_self
  refine ⟨⟨hrc, hrs, hR.1, hR.2, pay_in ht hG, hc⟩, ht _ (hG _ hc).1, ok _ (by simp [wsV]), ⟨hd.1, hd.2.1⟩, fun sig h => ?_, ok _ (by simp [wsV]), ok _ (by simp [wsV]), ok _ (by simp [wsV])⟩
  have h2 := hd.2.2
  rw [h] at h2
  exact (Option.some.inj h2).symm
theorem vx_runVW {y : MethodName} {bytes cc : ByteArray} {maxL nL mc ms n index : Nat} {ret : Option FieldType} {hh : List (Nat × Nat × Nat × Nat)} {ws : List Cond} {rm : Room} {Pc : Array Value → State → Prop} {Qc : Array Value → State → Outcome → State → Prop} {free : Addr → Prop} {Ts : List Cond} {own C : String} {b : Addr} {As rest : List Value} {g : JFrame}
    (S : CallFix p m c cc nL s args Ts own) (hM : Met l y ws rm Pc Qc mc ms free) (cw : vx_CVW R s args own C index y bytes maxL ret hh ws rm mc ms n) (hp : PreV s H C b Pc As)
    (hg : g.method = m) (hn : As.length = n) (hsize : g.locals.size = nL) (hstack : g.stack = As.reverse ++ .ref b :: rest) (hW : 2 * g.monitorRoom + (rest.map fun v => v.category).sum ≤ 8) (hdg : decode cc g.pc = .ok (.invokevirtual index, 3)) (hf : cells + mc ≤ R.cells ∧ slots + ms ≤ R.slots) :
    va_Run p l e R s m args below meth c H locs cells slots mc ms g rest (Qc (Value.ref b :: As).toArray) free := by
  obtain ⟨⟨hrc, hrs, hfr, hlo, hws, hcw⟩, hcode, hini, hy, hlen, hl, hin, hse⟩ := cw
  have hK : Back l R p e below s args y 3 8 (PreOf R mc ms Pc) (PostOf Qc mc ms free) := va_backW (hh := hh) (bytes := bytes) (maxL := maxL) (ret := ret) hM hp.1 hrc hrs hfr hlo hws hcw (fun a' U hW => word_at hW (Or.inl (by first | rfl | simp [Cond.onTables, Cond.keeps, Cond.steady])) hini)
  obtain ⟨hx, hb, hml, ho, -⟩ := S
  obtain ⟨-, ⟨cellB, hcB, hoB, hclB⟩, hPc⟩ := hp
  intro T hT X
  obtain ⟨v, vm₁, ⟨U', l2, c2, s2⟩, hW₁, X', ⟨g', mk, t, L, e1, e2, hq, h1, hL, h2, h3⟩, st⟩ := vx_callVW X hx (C := C) (hh := hh) (bytes := bytes) (maxL := maxL) (ret := ret) ho hl hin hse hcode hy hK (by rw [hT]; exact hcB) hoB hclB hg (hsize.trans hml.symm) (argsL := As) (rest := rest) (fun sig h => hn.trans (hlen sig h)) hstack hW (by rw [hb]; exact hdg)
    (fun vm₁ hW₁ => ⟨hf.1, hf.2, hPc (T.setVm vm₁) hT hW₁⟩)
  dsimp only [Pt.U, Pt.locs, Pt.cells, Pt.slots] at X' e1 e2 h1 h2 h3 st
  subst h1; subst h2; subst h3
  exact ⟨v, (T.setVm vm₁).calling g' mk (Value.ref b :: As).toArray, t, U', L, hT, X', hL, e1, e2, hq, st⟩
section
variable {y : MethodName} {bytes cc : ByteArray} {maxL nL mc ms n index : Nat} {ret : Option FieldType} {ws : List Cond} {rm : Room} {Pc : Array Value → State → Prop} {Qc : Array Value → State → Outcome → State → Prop} {XC : String → State → State → Prop} {free : Addr → Prop} {Ts : List Cond} {own C : String} {b : Addr} {As rest : List Value} {g : JFrame}
theorem vx_runVX {hh : List (Nat × Nat × Nat × Nat)} (S : CallFix p m c cc nL s args Ts own) (hM : vx_Met l y ws rm Pc Qc XC mc ms free) (cw : vx_CVW R s args own C index y bytes maxL ret hh ws rm mc ms n) (hp : PreV s H C b Pc As)
    (hg : g.method = m) (hn : As.length = n) (hsize : g.locals.size = nL) (hstack : g.stack = As.reverse ++ .ref b :: rest) (hW : 2 * g.monitorRoom + (rest.map fun v => v.category).sum ≤ 8) (hdg : decode cc g.pc = .ok (.invokevirtual index, 3)) (hf : cells + mc ≤ R.cells ∧ slots + ms ≤ R.slots) :
    vx_Run p l e R s m args below meth c H locs cells slots mc ms g rest (Qc (Value.ref b :: As).toArray) XC free := by
  obtain ⟨⟨hrc, hrs, hfr, hlo, hws, hcw⟩, hcode, hini, hy, hlen, hl, hin, hse⟩ := cw
  have hK : vx_Back l R p e below s args y 3 8 (PreOf R mc ms Pc) (PostOf Qc mc ms free) (vx_Post XC mc ms free) := vx_backW (hh := hh) (bytes := bytes) (maxL := maxL) (ret := ret) hM hp.1 hrc hrs hfr hlo hws hcw (fun a' U hW => word_at hW (Or.inl (by first | rfl | simp [Cond.onTables, Cond.keeps, Cond.steady])) hini)
  obtain ⟨hx, hb, hml, ho, -⟩ := S
  obtain ⟨-, ⟨cellB, hcB, hoB, hclB⟩, hPc⟩ := hp
  intro T hT X
  rcases vx_callVX X hx (C := C) (hh := hh) (bytes := bytes) (maxL := maxL) (ret := ret) ho hl hin hse hcode hy hK (by rw [hT]; exact hcB) hoB hclB hg (hsize.trans hml.symm) (argsL := As) (rest := rest) (fun sig h => hn.trans (hlen sig h)) hstack hW (by rw [hb]; exact hdg)
    (fun vm₁ hW₁ => ⟨hf.1, hf.2, hPc (T.setVm vm₁) hT hW₁⟩) with ⟨v, vm₁, ⟨U', l2, c2, s2⟩, hW₁, X', ⟨g', mk, t, L, e1, e2, hq, h1, hL, h2, h3⟩, st⟩ | ⟨q, vm₁, ⟨U', l2, c2, s2⟩, hW₁, X', ⟨g', mk, t, L, E, ce, e1, e2, hq, hce, hcv, hcl, h1, hL, h2, h3⟩, st⟩
  · dsimp only [Pt.U, Pt.locs, Pt.cells, Pt.slots] at X' e1 e2 h1 h2 h3 st
    subst h1; subst h2; subst h3
    exact Or.inl ⟨v, (T.setVm vm₁).calling g' mk (Value.ref b :: As).toArray, t, U', L, hT, X', hL, e1, e2, hq, st⟩
  · dsimp only [Pt.U, Pt.locs, Pt.cells, Pt.slots] at X' e1 e2 h1 h2 h3 st hcl
    subst h1; subst h2; subst h3
    exact Or.inr ⟨q, (T.setVm vm₁).calling g' mk (Value.ref b :: As).toArray, t, U', L, E, ce, hT, X', hL, e1, e2, hq, hce, hcv, vx_cls hW₁ hcl, st⟩
theorem vx_runSX {hh : List (Nat × Nat × Nat × Nat)} (S : CallFix p m c cc nL s args Ts own) (hM : vx_Met l y ws rm Pc Qc XC mc ms free) (cw : vx_CSW R s args own index y bytes maxL ret hh ws rm mc ms n) (hp : PreS s H Pc As)
    (hg : g.method = m) (hn : As.length = n) (hsize : g.locals.size = nL) (hstack : g.stack = As.reverse ++ rest) (hW : 2 * g.monitorRoom + (rest.map fun v => v.category).sum ≤ 8) (hdg : decode cc g.pc = .ok (.invokestatic index, 3)) (hf : cells + mc ≤ R.cells ∧ slots + ms ≤ R.slots) :
    vx_Run p l e R s m args below meth c H locs cells slots mc ms g rest (Qc As.toArray) XC free := by
  obtain ⟨⟨hrc, hrs, hfr, hlo, hws, hcw⟩, hcode, hini, hy, hlen, hl, hstt⟩ := cw
  have hK : vx_Back l R p e below s args y 3 8 (PreOf R mc ms Pc) (PostOf Qc mc ms free) (vx_Post XC mc ms free) := vx_backW (hh := hh) (bytes := bytes) (maxL := maxL) (ret := ret) hM hp.1 hrc hrs hfr hlo hws hcw (fun a' U hW => word_at hW (Or.inl (by first | rfl | simp [Cond.onTables, Cond.keeps, Cond.steady])) hini)
  obtain ⟨hx, hb, hml, ho, -⟩ := S
  intro T hT X
  rcases vx_callSX X hx (hh := hh) (bytes := bytes) (maxL := maxL) (ret := ret) ho hl hstt hini hcode hy hK hg (hsize.trans hml.symm) (argsL := As) (rest := rest) (fun sig h => hn.trans (hlen sig h)) hstack hW (by rw [hb]; exact hdg)
    (fun vm₁ hW₁ => ⟨hf.1, hf.2, hp.2 (T.setVm vm₁) hT hW₁⟩) with ⟨v, vm₁, ⟨U', l2, c2, s2⟩, hW₁, X', ⟨g', mk, t, L, e1, e2, hq, h1, hL, h2, h3⟩, st⟩ | ⟨q, vm₁, ⟨U', l2, c2, s2⟩, hW₁, X', ⟨g', mk, t, L, E, ce, e1, e2, hq, hce, hcv, hcl, h1, hL, h2, h3⟩, st⟩
  · dsimp only [Pt.U, Pt.locs, Pt.cells, Pt.slots] at X' e1 e2 h1 h2 h3 st
    subst h1; subst h2; subst h3
    exact Or.inl ⟨v, (T.setVm vm₁).calling g' mk As.toArray, t, U', L, hT, X', hL, e1, e2, hq, st⟩
  · dsimp only [Pt.U, Pt.locs, Pt.cells, Pt.slots] at X' e1 e2 h1 h2 h3 st hcl
    subst h1; subst h2; subst h3
    exact Or.inr ⟨q, (T.setVm vm₁).calling g' mk As.toArray, t, U', L, E, ce, hT, X', hL, e1, e2, hq, hce, hcv, vx_cls hW₁ hcl, st⟩
end
end VXH
theorem vx_ofWH {l : Launch} {y : MethodName} {ws ws' : List Cond} {rm : Room} {Pc : Array Value → State → Prop} {Qc : Array Value → State → Outcome → State → Prop} {XC : String → State → State → Prop} {mc ms : Nat} {free : Addr → Prop} {cc : ByteArray} {maxL : Nat} {ret : Option FieldType} {hh : List (Nat × Nat × Nat × Nat)}
    (hy : plainName y.cls = true) (hw : ws = Cond.codeWith y cc maxL ret hh :: ws')
    (body : ∀ p e s m args below meth c s₁, BodyLoose p l y (headSpec ws rm) cc maxL ret e s m args below meth c s₁ → c.maxLocals = maxL → Pc args s →
      W p l e (headSpec ws rm).room s m args below meth c s.heap [] 0 0 (vx_MQ below Qc XC args s mc ms free) (entryFrame m args maxL)) : vx_Met l y ws rm Pc Qc XC mc ms free := by
  refine MetFree.of_bodyS (code := cc) (maxLocals := maxL) (ret := ret) hy ?_ ?_
  · intro args s m h hn
    obtain ⟨m9, meth, c, hn9, h1, h2, h3, h4, -, h5, h6, -⟩ := Cond.codeWith_spec (atoms_spec (ws := ws) h _ (by rw [hw]; exact List.mem_cons_self))
    cases hn.symm.trans hn9
    exact ⟨meth, c, h1, h2, h3, h4, h5, h6⟩
  · intro p e s m args below meth c s₁ B hml hP _
    have hh0 : s₁.heap = s.heap := by rw [B.state]; rfl
    obtain ⟨t, a1, o, b1, b2, b3⟩ := body p e s m args below meth c s₁ B hml hP s₁ hh0 (Stand.of_body B)
    exact ⟨t, o, a1, b1, b2, b3⟩
/-! ===== END ===== -/

/-! ===== BEGIN printed: names, fields, word lists, decode rows ===== -/
def RX0 : String := "FeedbackQueues$Level"
def TX0 : u_T := fun k => match k with
  | 0 => ("FeedbackQueues$Level", "quantum", "I", false)
  | 1 => ("FeedbackQueues$Level", "share", "I", false)
  | 2 => ("FeedbackQueues$Level", "queue", "[I", true)
  | _ => ("FeedbackQueues$Level", "size", "I", false)
def tyX0 : Nat → FieldType := fun k => match k with
  | 0 => .int
  | 1 => .int
  | 2 => .array .int
  | _ => .int
abbrev wsX00 : List Cond := u_ws RX0 TX0 4
theorem nmX0 : ∀ a, a < 4 → ∀ b, b < 4 → a ≠ b → (TX0 a).2.1 ≠ (TX0 b).2.1 := by decide +kernel
theorem tyX0_ok : ∀ k, k < 4 → parseFieldDescriptor (TX0 k).2.2.1 = some (tyX0 k) := by decide +kernel
abbrev cX0_init : ByteArray := prog_2_method_1_code
def yX0_init : MethodName := ⟨RX0, "<init>", "()V"⟩
abbrev cX0_clear : ByteArray := prog_2_method_2_code
def yX0_clear : MethodName := ⟨RX0, "clear", "()V"⟩
abbrev cX0_at : ByteArray := prog_2_method_3_code
def yX0_at : MethodName := ⟨RX0, "at", "(I)I"⟩
abbrev cX0_addLast : ByteArray := prog_2_method_4_code
def yX0_addLast : MethodName := ⟨RX0, "addLast", "(I)V"⟩
abbrev cX0_addFirst : ByteArray := prog_2_method_5_code
def yX0_addFirst : MethodName := ⟨RX0, "addFirst", "(I)V"⟩
abbrev cX0_takeFirst : ByteArray := prog_2_method_6_code
def yX0_takeFirst : MethodName := ⟨RX0, "takeFirst", "()I"⟩
abbrev cX0_addAllOf : ByteArray := prog_2_method_7_code
def yX0_addAllOf : MethodName := ⟨RX0, "addAllOf", "(LFeedbackQueues$Level;)V"⟩
def RX1 : String := "FeedbackQueues$Task"
def TX1 : u_T := fun k => match k with
  | 0 => ("FeedbackQueues$Task", "number", "I", true)
  | 1 => ("FeedbackQueues$Task", "arrival", "I", false)
  | 2 => ("FeedbackQueues$Task", "bursts", "[I", true)
  | 3 => ("FeedbackQueues$Task", "burstCount", "I", false)
  | 4 => ("FeedbackQueues$Task", "state", "I", false)
  | 5 => ("FeedbackQueues$Task", "level", "I", false)
  | 6 => ("FeedbackQueues$Task", "burstsBegun", "I", false)
  | 7 => ("FeedbackQueues$Task", "burstLeft", "I", false)
  | 8 => ("FeedbackQueues$Task", "quantumLeft", "I", false)
  | 9 => ("FeedbackQueues$Task", "shareLeft", "I", false)
  | 10 => ("FeedbackQueues$Task", "keepsQuantum", "Z", false)
  | 11 => ("FeedbackQueues$Task", "ticksRun", "I", false)
  | 12 => ("FeedbackQueues$Task", "ticksReady", "I", false)
  | 13 => ("FeedbackQueues$Task", "ticksBlocked", "I", false)
  | 14 => ("FeedbackQueues$Task", "firstRun", "I", false)
  | 15 => ("FeedbackQueues$Task", "endedAt", "I", false)
  | 16 => ("FeedbackQueues$Task", "timesSwitchedTo", "I", false)
  | 17 => ("FeedbackQueues$Task", "timesDown", "I", false)
  | _ => ("FeedbackQueues$Task", "timesToFront", "I", false)
def tyX1 : Nat → FieldType := fun k => match k with
  | 0 => .int
  | 1 => .int
  | 2 => .array .int
  | 3 => .int
  | 4 => .int
  | 5 => .int
  | 6 => .int
  | 7 => .int
  | 8 => .int
  | 9 => .int
  | 10 => .boolean
  | 11 => .int
  | 12 => .int
  | 13 => .int
  | 14 => .int
  | 15 => .int
  | 16 => .int
  | 17 => .int
  | _ => .int
abbrev wsX10 : List Cond := u_ws RX1 TX1 19
theorem nmX1 : ∀ a, a < 19 → ∀ b, b < 19 → a ≠ b → (TX1 a).2.1 ≠ (TX1 b).2.1 := by decide +kernel
theorem tyX1_ok : ∀ k, k < 19 → parseFieldDescriptor (TX1 k).2.2.1 = some (tyX1 k) := by decide +kernel
abbrev cX1_init : ByteArray := prog_3_method_1_code
def yX1_init : MethodName := ⟨RX1, "<init>", "(I)V"⟩
abbrev cX1_startOver : ByteArray := prog_3_method_2_code
def yX1_startOver : MethodName := ⟨RX1, "startOver", "()V"⟩
abbrev cX1_tellArrival : ByteArray := prog_3_method_3_code
def yX1_tellArrival : MethodName := ⟨RX1, "tellArrival", "(I)V"⟩
abbrev cX1_tellBurst : ByteArray := prog_3_method_4_code
def yX1_tellBurst : MethodName := ⟨RX1, "tellBurst", "(I)I"⟩
abbrev cX1_beginBurst : ByteArray := prog_3_method_5_code
def yX1_beginBurst : MethodName := ⟨RX1, "beginBurst", "()Z"⟩
abbrev cX1_beginRunning : ByteArray := prog_3_method_6_code
def yX1_beginRunning : MethodName := ⟨RX1, "beginRunning", "(II)V"⟩
abbrev cX1_comeUp : ByteArray := prog_3_method_7_code
def yX1_comeUp : MethodName := ⟨RX1, "comeUp", "(II)V"⟩
def RX2 : String := "FeedbackQueues"
def TX2 : u_T := fun k => match k with
  | 0 => ("FeedbackQueues", "levelRows", "[LFeedbackQueues$Level;", true)
  | 1 => ("FeedbackQueues", "tasks", "[LFeedbackQueues$Task;", true)
  | 2 => ("FeedbackQueues", "switchesKept", "[I", true)
  | 3 => ("FeedbackQueues", "levelCount", "I", false)
  | 4 => ("FeedbackQueues", "taskCount", "I", false)
  | 5 => ("FeedbackQueues", "periodTicks", "I", false)
  | 6 => ("FeedbackQueues", "now", "I", false)
  | 7 => ("FeedbackQueues", "onProcessor", "LFeedbackQueues$Task;", false)
  | 8 => ("FeedbackQueues", "switchCount", "I", false)
  | 9 => ("FeedbackQueues", "idleCount", "I", false)
  | 10 => ("FeedbackQueues", "comeUpCount", "I", false)
  | _ => ("FeedbackQueues", "endedCount", "I", false)
def tyX2 : Nat → FieldType := fun k => match k with
  | 0 => .array (.object "FeedbackQueues$Level")
  | 1 => .array (.object "FeedbackQueues$Task")
  | 2 => .array .int
  | 3 => .int
  | 4 => .int
  | 5 => .int
  | 6 => .int
  | 7 => .object "FeedbackQueues$Task"
  | 8 => .int
  | 9 => .int
  | 10 => .int
  | _ => .int
abbrev wsX20 : List Cond := u_ws RX2 TX2 12
theorem nmX2 : ∀ a, a < 12 → ∀ b, b < 12 → a ≠ b → (TX2 a).2.1 ≠ (TX2 b).2.1 := by decide +kernel
theorem tyX2_ok : ∀ k, k < 12 → parseFieldDescriptor (TX2 k).2.2.1 = some (tyX2 k) := by decide +kernel
abbrev cX2_init : ByteArray := prog_1_method_1_code
def yX2_init : MethodName := ⟨RX2, "<init>", "()V"⟩
abbrev cX2_levels : ByteArray := prog_1_method_2_code
def yX2_levels : MethodName := ⟨RX2, "levels", "(I)V"⟩
abbrev cX2_level : ByteArray := prog_1_method_3_code
def yX2_level : MethodName := ⟨RX2, "level", "(III)V"⟩
abbrev cX2_period : ByteArray := prog_1_method_4_code
def yX2_period : MethodName := ⟨RX2, "period", "(I)V"⟩
abbrev cX2_process : ByteArray := prog_1_method_5_code
def yX2_process : MethodName := ⟨RX2, "process", "(I)I"⟩
abbrev cX2_burst : ByteArray := prog_1_method_6_code
def yX2_burst : MethodName := ⟨RX2, "burst", "(II)I"⟩
abbrev cX2_run : ByteArray := prog_1_method_7_code
def yX2_run : MethodName := ⟨RX2, "run", "(I)I"⟩
abbrev cX2_restart : ByteArray := prog_1_method_8_code
def yX2_restart : MethodName := ⟨RX2, "restart", "()V"⟩
abbrev cX2_time : ByteArray := prog_1_method_9_code
def yX2_time : MethodName := ⟨RX2, "time", "()I"⟩
abbrev cX2_told : ByteArray := prog_1_method_10_code
def yX2_told : MethodName := ⟨RX2, "told", "(II)I"⟩
abbrev cX2_running : ByteArray := prog_1_method_11_code
def yX2_running : MethodName := ⟨RX2, "running", "()I"⟩
abbrev cX2_queued : ByteArray := prog_1_method_12_code
def yX2_queued : MethodName := ⟨RX2, "queued", "(II)I"⟩
abbrev cX2_all : ByteArray := prog_1_method_13_code
def yX2_all : MethodName := ⟨RX2, "all", "(I)I"⟩
abbrev cX2_switched : ByteArray := prog_1_method_14_code
def yX2_switched : MethodName := ⟨RX2, "switched", "(I)I"⟩
abbrev cX2_isLevel : ByteArray := prog_1_method_15_code
def yX2_isLevel : MethodName := ⟨RX2, "isLevel", "(I)Z"⟩
abbrev cX2_isTask : ByteArray := prog_1_method_16_code
def yX2_isTask : MethodName := ⟨RX2, "isTask", "(I)Z"⟩
abbrev cX2_startOver : ByteArray := prog_1_method_17_code
def yX2_startOver : MethodName := ⟨RX2, "startOver", "()V"⟩
abbrev cX2_doTick : ByteArray := prog_1_method_18_code
def yX2_doTick : MethodName := ⟨RX2, "doTick", "()V"⟩
abbrev cX2_bringAllUp : ByteArray := prog_1_method_19_code
def yX2_bringAllUp : MethodName := ⟨RX2, "bringAllUp", "()V"⟩
abbrev cX2_letArrive : ByteArray := prog_1_method_20_code
def yX2_letArrive : MethodName := ⟨RX2, "letArrive", "()V"⟩
abbrev cX2_letComeBack : ByteArray := prog_1_method_21_code
def yX2_letComeBack : MethodName := ⟨RX2, "letComeBack", "()V"⟩
abbrev cX2_goOnOrEnd : ByteArray := prog_1_method_22_code
def yX2_goOnOrEnd : MethodName := ⟨RX2, "goOnOrEnd", "(LFeedbackQueues$Task;)V"⟩
abbrev cX2_makeWay : ByteArray := prog_1_method_23_code
def yX2_makeWay : MethodName := ⟨RX2, "makeWay", "()V"⟩
abbrev cX2_isOneReadyAbove : ByteArray := prog_1_method_24_code
def yX2_isOneReadyAbove : MethodName := ⟨RX2, "isOneReadyAbove", "(I)Z"⟩
abbrev cX2_switchToFirst : ByteArray := prog_1_method_25_code
def yX2_switchToFirst : MethodName := ⟨RX2, "switchToFirst", "()V"⟩
abbrev cX2_switchTo : ByteArray := prog_1_method_26_code
def yX2_switchTo : MethodName := ⟨RX2, "switchTo", "(LFeedbackQueues$Task;)V"⟩
abbrev cX2_countWaiting : ByteArray := prog_1_method_27_code
def yX2_countWaiting : MethodName := ⟨RX2, "countWaiting", "()V"⟩
abbrev cX2_useTick : ByteArray := prog_1_method_28_code
def yX2_useTick : MethodName := ⟨RX2, "useTick", "(LFeedbackQueues$Task;)V"⟩
abbrev cX2_blockOrEnd : ByteArray := prog_1_method_29_code
def yX2_blockOrEnd : MethodName := ⟨RX2, "blockOrEnd", "(LFeedbackQueues$Task;)V"⟩
abbrev cX2_sendDown : ByteArray := prog_1_method_30_code
def yX2_sendDown : MethodName := ⟨RX2, "sendDown", "(LFeedbackQueues$Task;)V"⟩
abbrev cX2_standAtEnd : ByteArray := prog_1_method_31_code
def yX2_standAtEnd : MethodName := ⟨RX2, "standAtEnd", "(LFeedbackQueues$Task;)V"⟩
abbrev cX2_endTask : ByteArray := prog_1_method_32_code
def yX2_endTask : MethodName := ⟨RX2, "endTask", "(LFeedbackQueues$Task;I)V"⟩
def RX3 : String := "FeedbackQueuesModel"
def TX3 : u_T := fun k => match k with
  | 0 => ("FeedbackQueuesModel", "thrown", "I", false)
  | 1 => ("FeedbackQueuesModel", "levels", "I", false)
  | 2 => ("FeedbackQueuesModel", "quanta", "[I", true)
  | 3 => ("FeedbackQueuesModel", "shares", "[I", true)
  | 4 => ("FeedbackQueuesModel", "period", "I", false)
  | 5 => ("FeedbackQueuesModel", "processes", "I", false)
  | 6 => ("FeedbackQueuesModel", "arrivals", "[I", true)
  | 7 => ("FeedbackQueuesModel", "bursts", "[I", true)
  | 8 => ("FeedbackQueuesModel", "ticks", "[I", true)
  | 9 => ("FeedbackQueuesModel", "time", "I", false)
  | 10 => ("FeedbackQueuesModel", "running", "I", false)
  | 11 => ("FeedbackQueuesModel", "state", "[I", true)
  | 12 => ("FeedbackQueuesModel", "level", "[I", true)
  | 13 => ("FeedbackQueuesModel", "at", "[I", true)
  | 14 => ("FeedbackQueuesModel", "left", "[I", true)
  | 15 => ("FeedbackQueuesModel", "quantum", "[I", true)
  | 16 => ("FeedbackQueuesModel", "share", "[I", true)
  | 17 => ("FeedbackQueuesModel", "kept", "[Z", true)
  | 18 => ("FeedbackQueuesModel", "until", "[I", true)
  | 19 => ("FeedbackQueuesModel", "counts", "[I", true)
  | 20 => ("FeedbackQueuesModel", "queue", "[I", true)
  | 21 => ("FeedbackQueuesModel", "size", "[I", true)
  | 22 => ("FeedbackQueuesModel", "all", "[I", true)
  | _ => ("FeedbackQueuesModel", "switches", "[I", true)
def tyX3 : Nat → FieldType := fun k => match k with
  | 0 => .int
  | 1 => .int
  | 2 => .array .int
  | 3 => .array .int
  | 4 => .int
  | 5 => .int
  | 6 => .array .int
  | 7 => .array .int
  | 8 => .array .int
  | 9 => .int
  | 10 => .int
  | 11 => .array .int
  | 12 => .array .int
  | 13 => .array .int
  | 14 => .array .int
  | 15 => .array .int
  | 16 => .array .int
  | 17 => .array .boolean
  | 18 => .array .int
  | 19 => .array .int
  | 20 => .array .int
  | 21 => .array .int
  | 22 => .array .int
  | _ => .array .int
abbrev wsX30 : List Cond := u_ws RX3 TX3 24
theorem nmX3 : ∀ a, a < 24 → ∀ b, b < 24 → a ≠ b → (TX3 a).2.1 ≠ (TX3 b).2.1 := by decide +kernel
theorem tyX3_ok : ∀ k, k < 24 → parseFieldDescriptor (TX3 k).2.2.1 = some (tyX3 k) := by decide +kernel
abbrev cX3_init : ByteArray := prog_5_method_1_code
def yX3_init : MethodName := ⟨RX3, "<init>", "()V"⟩
abbrev cX3_thrown : ByteArray := prog_5_method_2_code
def yX3_thrown : MethodName := ⟨RX3, "thrown", "()I"⟩
abbrev cX3_set : ByteArray := prog_5_method_3_code
def yX3_set : MethodName := ⟨RX3, "set", "(I)V"⟩
abbrev cX3_begin : ByteArray := prog_5_method_4_code
def yX3_begin : MethodName := ⟨RX3, "begin", "()V"⟩
abbrev cX3_levels : ByteArray := prog_5_method_5_code
def yX3_levels : MethodName := ⟨RX3, "levels", "(I)V"⟩
abbrev cX3_level : ByteArray := prog_5_method_6_code
def yX3_level : MethodName := ⟨RX3, "level", "(III)V"⟩
abbrev cX3_period : ByteArray := prog_5_method_7_code
def yX3_period : MethodName := ⟨RX3, "period", "(I)V"⟩
abbrev cX3_process : ByteArray := prog_5_method_8_code
def yX3_process : MethodName := ⟨RX3, "process", "(I)I"⟩
abbrev cX3_noProcess : ByteArray := prog_5_method_9_code
def yX3_noProcess : MethodName := ⟨RX3, "noProcess", "(I)Z"⟩
abbrev cX3_burst : ByteArray := prog_5_method_10_code
def yX3_burst : MethodName := ⟨RX3, "burst", "(II)I"⟩
abbrev cX3_toEnd : ByteArray := prog_5_method_11_code
def yX3_toEnd : MethodName := ⟨RX3, "toEnd", "(II)V"⟩
abbrev cX3_toFront : ByteArray := prog_5_method_12_code
def yX3_toFront : MethodName := ⟨RX3, "toFront", "(II)V"⟩
abbrev cX3_takeFirst : ByteArray := prog_5_method_13_code
def yX3_takeFirst : MethodName := ⟨RX3, "takeFirst", "(I)I"⟩
abbrev cX3_allUp : ByteArray := prog_5_method_14_code
def yX3_allUp : MethodName := ⟨RX3, "allUp", "()V"⟩
abbrev cX3_end : ByteArray := prog_5_method_15_code
def yX3_end : MethodName := ⟨RX3, "end", "(II)V"⟩
abbrev cX3_come : ByteArray := prog_5_method_16_code
def yX3_come : MethodName := ⟨RX3, "come", "(I)V"⟩
abbrev cX3_comeBack : ByteArray := prog_5_method_17_code
def yX3_comeBack : MethodName := ⟨RX3, "comeBack", "(I)V"⟩
abbrev cX3_firstLevel : ByteArray := prog_5_method_18_code
def yX3_firstLevel : MethodName := ⟨RX3, "firstLevel", "()I"⟩
abbrev cX3_choose : ByteArray := prog_5_method_19_code
def yX3_choose : MethodName := ⟨RX3, "choose", "(I)V"⟩
abbrev cX3_work : ByteArray := prog_5_method_20_code
def yX3_work : MethodName := ⟨RX3, "work", "(I)V"⟩
abbrev cX3_count : ByteArray := prog_5_method_21_code
def yX3_count : MethodName := ⟨RX3, "count", "()V"⟩
abbrev cX3_run : ByteArray := prog_5_method_22_code
def yX3_run : MethodName := ⟨RX3, "run", "(I)I"⟩
abbrev cX3_restart : ByteArray := prog_5_method_23_code
def yX3_restart : MethodName := ⟨RX3, "restart", "()V"⟩
abbrev cX3_time : ByteArray := prog_5_method_24_code
def yX3_time : MethodName := ⟨RX3, "time", "()I"⟩
abbrev cX3_told : ByteArray := prog_5_method_25_code
def yX3_told : MethodName := ⟨RX3, "told", "(II)I"⟩
abbrev cX3_running : ByteArray := prog_5_method_26_code
def yX3_running : MethodName := ⟨RX3, "running", "()I"⟩
abbrev cX3_queued : ByteArray := prog_5_method_27_code
def yX3_queued : MethodName := ⟨RX3, "queued", "(II)I"⟩
abbrev cX3_all : ByteArray := prog_5_method_28_code
def yX3_all : MethodName := ⟨RX3, "all", "(I)I"⟩
abbrev cX3_switched : ByteArray := prog_5_method_29_code
def yX3_switched : MethodName := ⟨RX3, "switched", "(I)I"⟩
def RJ9 : String := "java/lang/Math"
def TJ9 : u_T := fun k => match k with
  | _ => ("", "", "", false)
def tyJ9 : Nat → FieldType := fun k => match k with
  | _ => .int
abbrev wsJ90 : List Cond := u_ws RJ9 TJ9 0
theorem nmJ9 : ∀ a, a < 0 → ∀ b, b < 0 → a ≠ b → (TJ9 a).2.1 ≠ (TJ9 b).2.1 := by decide +kernel
theorem tyJ9_ok : ∀ k, k < 0 → parseFieldDescriptor (TJ9 k).2.2.1 = some (tyJ9 k) := by decide +kernel
abbrev cJ9_min_7cf53 : ByteArray := prog_10_method_69_code
def yJ9_min_7cf53 : MethodName := ⟨RJ9, "min", "(II)I"⟩
def RJ0 : String := "java/lang/String"
def TJ0 : u_T := fun k => match k with
  | _ => ("", "", "", false)
def tyJ0 : Nat → FieldType := fun k => match k with
  | _ => .int
abbrev wsJ00 : List Cond := u_ws RJ0 TJ0 0
theorem nmJ0 : ∀ a, a < 0 → ∀ b, b < 0 → a ≠ b → (TJ0 a).2.1 ≠ (TJ0 b).2.1 := by decide +kernel
theorem tyJ0_ok : ∀ k, k < 0 → parseFieldDescriptor (TJ0 k).2.2.1 = some (tyJ0 k) := by decide +kernel
def RL : String := "FeedbackQueuesLaw"
abbrev cL_levels : ByteArray := method_3_code
def yL_levels : MethodName := ⟨RL, "levels", "(LFeedbackQueues;I)I"⟩
abbrev cL_level : ByteArray := method_4_code
def yL_level : MethodName := ⟨RL, "level", "(LFeedbackQueues;III)I"⟩
abbrev cL_period : ByteArray := method_5_code
def yL_period : MethodName := ⟨RL, "period", "(LFeedbackQueues;I)I"⟩
abbrev cL_process : ByteArray := method_6_code
def yL_process : MethodName := ⟨RL, "process", "(LFeedbackQueues;I[J)I"⟩
abbrev cL_burst : ByteArray := method_7_code
def yL_burst : MethodName := ⟨RL, "burst", "(LFeedbackQueues;II[J)I"⟩
abbrev cL_run : ByteArray := method_8_code
def yL_run : MethodName := ⟨RL, "run", "(LFeedbackQueues;I[J)I"⟩
abbrev cL_told : ByteArray := method_9_code
def yL_told : MethodName := ⟨RL, "told", "(LFeedbackQueues;II[J)I"⟩
abbrev cL_queued : ByteArray := method_10_code
def yL_queued : MethodName := ⟨RL, "queued", "(LFeedbackQueues;II[J)I"⟩
abbrev cL_all : ByteArray := method_11_code
def yL_all : MethodName := ⟨RL, "all", "(LFeedbackQueues;I[J)I"⟩
abbrev cL_switched : ByteArray := method_12_code
def yL_switched : MethodName := ⟨RL, "switched", "(LFeedbackQueues;I[J)I"⟩
abbrev cL_law : ByteArray := code
def yL_law : MethodName := ⟨RL, "law", "([I)Z"⟩
def wsX0_init : List Cond := .code yX0_init cX0_init 1 none :: ([.methodLink RX0 3 objectInit, .instanceMethod objectInit, .code objectInit ⟨#[0xb1]⟩ 1 none, .fieldLink RX0 9 "FeedbackQueues$Level" "quantum" "I", .fieldLink RX0 15 "FeedbackQueues$Level" "share" "I", .arrayClass .int, .fieldLink RX0 18 "FeedbackQueues$Level" "queue" "[I", .fieldLink RX0 22 "FeedbackQueues$Level" "size" "I"] ++ wsX00)
def wsX0_clear : List Cond := .code yX0_clear cX0_clear 1 none :: ([.fieldLink RX0 22 "FeedbackQueues$Level" "size" "I"] ++ wsX00)
def wsX0_at : List Cond := .code yX0_at cX0_at 2 (some .int) :: ([.fieldLink RX0 22 "FeedbackQueues$Level" "size" "I", .fieldLink RX0 18 "FeedbackQueues$Level" "queue" "[I"] ++ wsX00)
def wsX0_addLast : List Cond := .code yX0_addLast cX0_addLast 2 none :: ([.fieldLink RX0 22 "FeedbackQueues$Level" "size" "I", .fieldLink RX0 18 "FeedbackQueues$Level" "queue" "[I"] ++ wsX00)
def wsX0_addFirst : List Cond := .code yX0_addFirst cX0_addFirst 3 none :: ([.fieldLink RX0 22 "FeedbackQueues$Level" "size" "I", .fieldLink RX0 18 "FeedbackQueues$Level" "queue" "[I"] ++ wsX00)
def wsX0_takeFirst : List Cond := .code yX0_takeFirst cX0_takeFirst 3 (some .int) :: ([.fieldLink RX0 22 "FeedbackQueues$Level" "size" "I", .fieldLink RX0 18 "FeedbackQueues$Level" "queue" "[I"] ++ wsX00)
def wsX0_addAllOf : List Cond := .code yX0_addAllOf cX0_addAllOf 3 none :: ([.fieldLink RX0 22 "FeedbackQueues$Level" "size" "I", .fieldLink RX0 18 "FeedbackQueues$Level" "queue" "[I", .methodLink RX0 25 yX0_addLast, .instanceMethod yX0_addLast, .selects RX0 yX0_addLast yX0_addLast, .initialized RX0, .code yX0_addLast cX0_addLast 2 none] ++ wsX00)
def wsX1_init : List Cond := .code yX1_init cX1_init 2 none :: ([.methodLink RX1 3 objectInit, .instanceMethod objectInit, .code objectInit ⟨#[0xb1]⟩ 1 none, .fieldLink RX1 9 "FeedbackQueues$Task" "arrival" "I", .arrayClass .int, .fieldLink RX1 15 "FeedbackQueues$Task" "bursts" "[I", .fieldLink RX1 19 "FeedbackQueues$Task" "burstCount" "I", .fieldLink RX1 22 "FeedbackQueues$Task" "state" "I", .fieldLink RX1 25 "FeedbackQueues$Task" "level" "I", .fieldLink RX1 28 "FeedbackQueues$Task" "burstsBegun" "I", .fieldLink RX1 31 "FeedbackQueues$Task" "burstLeft" "I", .fieldLink RX1 34 "FeedbackQueues$Task" "quantumLeft" "I", .fieldLink RX1 37 "FeedbackQueues$Task" "shareLeft" "I", .fieldLink RX1 40 "FeedbackQueues$Task" "keepsQuantum" "Z", .fieldLink RX1 44 "FeedbackQueues$Task" "ticksRun" "I", .fieldLink RX1 47 "FeedbackQueues$Task" "ticksReady" "I", .fieldLink RX1 50 "FeedbackQueues$Task" "ticksBlocked" "I", .fieldLink RX1 53 "FeedbackQueues$Task" "firstRun" "I", .fieldLink RX1 56 "FeedbackQueues$Task" "endedAt" "I", .fieldLink RX1 59 "FeedbackQueues$Task" "timesSwitchedTo" "I", .fieldLink RX1 62 "FeedbackQueues$Task" "timesDown" "I", .fieldLink RX1 65 "FeedbackQueues$Task" "timesToFront" "I", .fieldLink RX1 68 "FeedbackQueues$Task" "number" "I"] ++ wsX10)
def wsX1_startOver : List Cond := .code yX1_startOver cX1_startOver 1 none :: ([.fieldLink RX1 22 "FeedbackQueues$Task" "state" "I", .fieldLink RX1 25 "FeedbackQueues$Task" "level" "I", .fieldLink RX1 28 "FeedbackQueues$Task" "burstsBegun" "I", .fieldLink RX1 31 "FeedbackQueues$Task" "burstLeft" "I", .fieldLink RX1 34 "FeedbackQueues$Task" "quantumLeft" "I", .fieldLink RX1 37 "FeedbackQueues$Task" "shareLeft" "I", .fieldLink RX1 40 "FeedbackQueues$Task" "keepsQuantum" "Z", .fieldLink RX1 44 "FeedbackQueues$Task" "ticksRun" "I", .fieldLink RX1 47 "FeedbackQueues$Task" "ticksReady" "I", .fieldLink RX1 50 "FeedbackQueues$Task" "ticksBlocked" "I", .fieldLink RX1 53 "FeedbackQueues$Task" "firstRun" "I", .fieldLink RX1 56 "FeedbackQueues$Task" "endedAt" "I", .fieldLink RX1 59 "FeedbackQueues$Task" "timesSwitchedTo" "I", .fieldLink RX1 62 "FeedbackQueues$Task" "timesDown" "I", .fieldLink RX1 65 "FeedbackQueues$Task" "timesToFront" "I"] ++ wsX10)
def wsX1_tellArrival : List Cond := .code yX1_tellArrival cX1_tellArrival 2 none :: ([.fieldLink RX1 9 "FeedbackQueues$Task" "arrival" "I", .fieldLink RX1 19 "FeedbackQueues$Task" "burstCount" "I"] ++ wsX10)
def wsX1_tellBurst : List Cond := .code yX1_tellBurst cX1_tellBurst 2 (some .int) :: ([.fieldLink RX1 19 "FeedbackQueues$Task" "burstCount" "I", .fieldLink RX1 15 "FeedbackQueues$Task" "bursts" "[I"] ++ wsX10)
def wsX1_beginBurst : List Cond := .code yX1_beginBurst cX1_beginBurst 1 (some .boolean) :: ([.fieldLink RX1 28 "FeedbackQueues$Task" "burstsBegun" "I", .fieldLink RX1 19 "FeedbackQueues$Task" "burstCount" "I", .fieldLink RX1 15 "FeedbackQueues$Task" "bursts" "[I", .fieldLink RX1 31 "FeedbackQueues$Task" "burstLeft" "I"] ++ wsX10)
def wsX1_beginRunning : List Cond := .code yX1_beginRunning cX1_beginRunning 3 none :: ([.fieldLink RX1 22 "FeedbackQueues$Task" "state" "I", .fieldLink RX1 40 "FeedbackQueues$Task" "keepsQuantum" "Z", .fieldLink RX1 34 "FeedbackQueues$Task" "quantumLeft" "I", .fieldLink RX1 59 "FeedbackQueues$Task" "timesSwitchedTo" "I", .fieldLink RX1 53 "FeedbackQueues$Task" "firstRun" "I"] ++ wsX10)
def wsX1_comeUp : List Cond := .code yX1_comeUp cX1_comeUp 3 none :: ([.fieldLink RX1 25 "FeedbackQueues$Task" "level" "I", .fieldLink RX1 37 "FeedbackQueues$Task" "shareLeft" "I", .fieldLink RX1 22 "FeedbackQueues$Task" "state" "I", .fieldLink RX1 34 "FeedbackQueues$Task" "quantumLeft" "I", .methodLink RX1 71 Lib.Math.min.name, .static Lib.Math.min.name, .initialized "java/lang/Math", .code Lib.Math.min.name Lib.Math.min.code 2 (some .int)] ++ wsX10)
def wsX2_init_r1 : List Cond := [Cond.methodLink RX2 1 objectInit, Cond.instanceMethod objectInit, Cond.code objectInit ⟨#[0xb1]⟩ 1 none, Cond.classLink RX2 9 RX0, Cond.fieldLink RX2 11 "FeedbackQueues" "levelRows" "[LFeedbackQueues$Level;", Cond.classLink RX2 15 RX1, Cond.fieldLink RX2 17 "FeedbackQueues" "tasks" "[LFeedbackQueues$Task;", Cond.arrayClass .int, Cond.fieldLink RX2 21 "FeedbackQueues" "switchesKept" "[I", Cond.fieldLink RX2 25 "FeedbackQueues" "levelCount" "I", Cond.fieldLink RX2 29 "FeedbackQueues" "taskCount" "I", Cond.fieldLink RX2 32 "FeedbackQueues" "periodTicks" "I", Cond.fieldLink RX2 35 "FeedbackQueues" "now" "I", Cond.fieldLink RX2 38 "FeedbackQueues" "onProcessor" "LFeedbackQueues$Task;", Cond.fieldLink RX2 42 "FeedbackQueues" "switchCount" "I", Cond.fieldLink RX2 45 "FeedbackQueues" "idleCount" "I", Cond.fieldLink RX2 48 "FeedbackQueues" "comeUpCount" "I", Cond.fieldLink RX2 51 "FeedbackQueues" "endedCount" "I", Cond.instantiable RX0 4, Cond.initialized RX0, Cond.instantiable RX1 19, Cond.initialized RX1, Cond.instanceMethod yX0_init, Cond.code yX0_init cX0_init 1 none]
def wsX2_init_r2 : List Cond := [Cond.methodLink RX0 3 objectInit, Cond.fieldLink RX0 9 "FeedbackQueues$Level" "quantum" "I", Cond.fieldLink RX0 15 "FeedbackQueues$Level" "share" "I", Cond.fieldLink RX0 18 "FeedbackQueues$Level" "queue" "[I", Cond.fieldLink RX0 22 "FeedbackQueues$Level" "size" "I", Cond.instanceMethod yX1_init, Cond.code yX1_init cX1_init 2 none, Cond.methodLink RX1 3 objectInit, Cond.fieldLink RX1 9 "FeedbackQueues$Task" "arrival" "I", Cond.fieldLink RX1 15 "FeedbackQueues$Task" "bursts" "[I", Cond.fieldLink RX1 19 "FeedbackQueues$Task" "burstCount" "I", Cond.fieldLink RX1 22 "FeedbackQueues$Task" "state" "I", Cond.fieldLink RX1 25 "FeedbackQueues$Task" "level" "I", Cond.fieldLink RX1 28 "FeedbackQueues$Task" "burstsBegun" "I", Cond.fieldLink RX1 31 "FeedbackQueues$Task" "burstLeft" "I", Cond.fieldLink RX1 34 "FeedbackQueues$Task" "quantumLeft" "I", Cond.fieldLink RX1 37 "FeedbackQueues$Task" "shareLeft" "I", Cond.fieldLink RX1 40 "FeedbackQueues$Task" "keepsQuantum" "Z", Cond.fieldLink RX1 44 "FeedbackQueues$Task" "ticksRun" "I", Cond.fieldLink RX1 47 "FeedbackQueues$Task" "ticksReady" "I", Cond.fieldLink RX1 50 "FeedbackQueues$Task" "ticksBlocked" "I", Cond.fieldLink RX1 53 "FeedbackQueues$Task" "firstRun" "I", Cond.fieldLink RX1 56 "FeedbackQueues$Task" "endedAt" "I", Cond.fieldLink RX1 59 "FeedbackQueues$Task" "timesSwitchedTo" "I"]
def wsX2_init_r3 : List Cond := [Cond.fieldLink RX1 62 "FeedbackQueues$Task" "timesDown" "I", Cond.fieldLink RX1 65 "FeedbackQueues$Task" "timesToFront" "I", Cond.fieldLink RX1 68 "FeedbackQueues$Task" "number" "I"]
def wsX2_init : List Cond := .code yX2_init cX2_init 2 none :: ((wsX2_init_r1 ++ (wsX2_init_r2 ++ wsX2_init_r3)) ++ wsX20 ++ wsX00 ++ wsX10)
def wsX2_startOver_r1 : List Cond := [Cond.fieldLink RX2 35 "FeedbackQueues" "now" "I", Cond.fieldLink RX2 38 "FeedbackQueues" "onProcessor" "LFeedbackQueues$Task;", Cond.fieldLink RX2 42 "FeedbackQueues" "switchCount" "I", Cond.fieldLink RX2 45 "FeedbackQueues" "idleCount" "I", Cond.fieldLink RX2 48 "FeedbackQueues" "comeUpCount" "I", Cond.fieldLink RX2 51 "FeedbackQueues" "endedCount" "I", Cond.fieldLink RX2 11 "FeedbackQueues" "levelRows" "[LFeedbackQueues$Level;", Cond.fieldLink RX2 17 "FeedbackQueues" "tasks" "[LFeedbackQueues$Task;", Cond.instanceMethod yX0_clear, Cond.initialized RX0, Cond.selects RX0 yX0_clear yX0_clear, Cond.code yX0_clear cX0_clear 1 none, Cond.fieldLink RX0 22 "FeedbackQueues$Level" "size" "I", Cond.instanceMethod yX1_startOver, Cond.initialized RX1, Cond.selects RX1 yX1_startOver yX1_startOver, Cond.code yX1_startOver cX1_startOver 1 none, Cond.fieldLink RX1 22 "FeedbackQueues$Task" "state" "I", Cond.fieldLink RX1 25 "FeedbackQueues$Task" "level" "I", Cond.fieldLink RX1 28 "FeedbackQueues$Task" "burstsBegun" "I", Cond.fieldLink RX1 31 "FeedbackQueues$Task" "burstLeft" "I", Cond.fieldLink RX1 34 "FeedbackQueues$Task" "quantumLeft" "I", Cond.fieldLink RX1 37 "FeedbackQueues$Task" "shareLeft" "I", Cond.fieldLink RX1 40 "FeedbackQueues$Task" "keepsQuantum" "Z"]
def wsX2_startOver_r2 : List Cond := [Cond.fieldLink RX1 44 "FeedbackQueues$Task" "ticksRun" "I", Cond.fieldLink RX1 47 "FeedbackQueues$Task" "ticksReady" "I", Cond.fieldLink RX1 50 "FeedbackQueues$Task" "ticksBlocked" "I", Cond.fieldLink RX1 53 "FeedbackQueues$Task" "firstRun" "I", Cond.fieldLink RX1 56 "FeedbackQueues$Task" "endedAt" "I", Cond.fieldLink RX1 59 "FeedbackQueues$Task" "timesSwitchedTo" "I", Cond.fieldLink RX1 62 "FeedbackQueues$Task" "timesDown" "I", Cond.fieldLink RX1 65 "FeedbackQueues$Task" "timesToFront" "I"]
def wsX2_startOver : List Cond := .code yX2_startOver cX2_startOver 2 none :: ((wsX2_startOver_r1 ++ wsX2_startOver_r2) ++ wsX20 ++ wsX00 ++ wsX10)
def wsX2_levels_r1 : List Cond := [Cond.classLink RX2 58 "java/lang/IllegalArgumentException", Cond.initialized "java/lang/IllegalArgumentException", Cond.fieldLink RX2 25 "FeedbackQueues" "levelCount" "I", Cond.fieldLink RX2 11 "FeedbackQueues" "levelRows" "[LFeedbackQueues$Level;", Cond.fieldLink RX2 29 "FeedbackQueues" "taskCount" "I", Cond.methodLink RX2 71 yX2_startOver, Cond.instanceMethod yX2_startOver, Cond.selects RX2 yX2_startOver yX2_startOver, Cond.initialized RX2, Cond.code yX2_startOver cX2_startOver 2 none, Cond.fieldLink RX2 35 "FeedbackQueues" "now" "I", Cond.fieldLink RX2 38 "FeedbackQueues" "onProcessor" "LFeedbackQueues$Task;", Cond.fieldLink RX2 42 "FeedbackQueues" "switchCount" "I", Cond.fieldLink RX2 45 "FeedbackQueues" "idleCount" "I", Cond.fieldLink RX2 48 "FeedbackQueues" "comeUpCount" "I", Cond.fieldLink RX2 51 "FeedbackQueues" "endedCount" "I", Cond.fieldLink RX2 17 "FeedbackQueues" "tasks" "[LFeedbackQueues$Task;", Cond.instanceMethod yX0_clear, Cond.initialized RX0, Cond.selects RX0 yX0_clear yX0_clear, Cond.code yX0_clear cX0_clear 1 none, Cond.fieldLink RX0 22 "FeedbackQueues$Level" "size" "I", Cond.instanceMethod yX1_startOver, Cond.initialized RX1]
def wsX2_levels_r2 : List Cond := [Cond.selects RX1 yX1_startOver yX1_startOver, Cond.code yX1_startOver cX1_startOver 1 none, Cond.fieldLink RX1 22 "FeedbackQueues$Task" "state" "I", Cond.fieldLink RX1 25 "FeedbackQueues$Task" "level" "I", Cond.fieldLink RX1 28 "FeedbackQueues$Task" "burstsBegun" "I", Cond.fieldLink RX1 31 "FeedbackQueues$Task" "burstLeft" "I", Cond.fieldLink RX1 34 "FeedbackQueues$Task" "quantumLeft" "I", Cond.fieldLink RX1 37 "FeedbackQueues$Task" "shareLeft" "I", Cond.fieldLink RX1 40 "FeedbackQueues$Task" "keepsQuantum" "Z", Cond.fieldLink RX1 44 "FeedbackQueues$Task" "ticksRun" "I", Cond.fieldLink RX1 47 "FeedbackQueues$Task" "ticksReady" "I", Cond.fieldLink RX1 50 "FeedbackQueues$Task" "ticksBlocked" "I", Cond.fieldLink RX1 53 "FeedbackQueues$Task" "firstRun" "I", Cond.fieldLink RX1 56 "FeedbackQueues$Task" "endedAt" "I", Cond.fieldLink RX1 59 "FeedbackQueues$Task" "timesSwitchedTo" "I", Cond.fieldLink RX1 62 "FeedbackQueues$Task" "timesDown" "I", Cond.fieldLink RX1 65 "FeedbackQueues$Task" "timesToFront" "I"]
def wsX2_levels : List Cond := .code yX2_levels cX2_levels 3 none :: ((wsX2_levels_r1 ++ wsX2_levels_r2) ++ wsX20 ++ wsX00 ++ wsX10 ++ (vx_atS RX2 62 "java/lang/IllegalArgumentException" ["java/lang/RuntimeException", "java/lang/Exception"]).filter goodWord)
def wsX2_isLevel : List Cond := .code yX2_isLevel cX2_isLevel 2 (some .boolean) :: ([.fieldLink RX2 25 "FeedbackQueues" "levelCount" "I"] ++ wsX20)
def wsX2_level : List Cond := .code yX2_level cX2_level 4 none :: ([.classLink RX2 78 "java/lang/IndexOutOfBoundsException", .initialized "java/lang/IndexOutOfBoundsException", .classLink RX2 58 "java/lang/IllegalArgumentException", .initialized "java/lang/IllegalArgumentException", .classLink RX2 87 "java/lang/IllegalStateException", .initialized "java/lang/IllegalStateException", .fieldLink RX2 35 "FeedbackQueues" "now" "I", .fieldLink RX2 11 "FeedbackQueues" "levelRows" "[LFeedbackQueues$Level;", .methodLink RX2 74 yX2_isLevel, .instanceMethod yX2_isLevel, .selects RX2 yX2_isLevel yX2_isLevel, .initialized RX2, .code yX2_isLevel cX2_isLevel 2 (some .boolean), .fieldLink RX2 25 "FeedbackQueues" "levelCount" "I"] ++ wsX20 ++ wsX00 ++ (vx_atS RX2 82 "java/lang/IndexOutOfBoundsException" ["java/lang/RuntimeException", "java/lang/Exception"]).filter goodWord ++ (vx_atS RX2 62 "java/lang/IllegalArgumentException" ["java/lang/RuntimeException", "java/lang/Exception"]).filter goodWord ++ (vx_atS RX2 91 "java/lang/IllegalStateException" ["java/lang/RuntimeException", "java/lang/Exception"]).filter goodWord)
def wsX2_period : List Cond := .code yX2_period cX2_period 2 none :: ([.classLink RX2 58 "java/lang/IllegalArgumentException", .initialized "java/lang/IllegalArgumentException", .classLink RX2 87 "java/lang/IllegalStateException", .initialized "java/lang/IllegalStateException", .fieldLink RX2 35 "FeedbackQueues" "now" "I", .fieldLink RX2 32 "FeedbackQueues" "periodTicks" "I"] ++ wsX20 ++ (vx_atS RX2 62 "java/lang/IllegalArgumentException" ["java/lang/RuntimeException", "java/lang/Exception"]).filter goodWord ++ (vx_atS RX2 91 "java/lang/IllegalStateException" ["java/lang/RuntimeException", "java/lang/Exception"]).filter goodWord)
def wsX2_process : List Cond := .code yX2_process cX2_process 2 (some .int) :: ([.classLink RX2 58 "java/lang/IllegalArgumentException", .initialized "java/lang/IllegalArgumentException", .classLink RX2 87 "java/lang/IllegalStateException", .initialized "java/lang/IllegalStateException", .fieldLink RX2 35 "FeedbackQueues" "now" "I", .fieldLink RX2 29 "FeedbackQueues" "taskCount" "I", .fieldLink RX2 17 "FeedbackQueues" "tasks" "[LFeedbackQueues$Task;", .instanceMethod yX1_tellArrival, .initialized RX1, .selects RX1 yX1_tellArrival yX1_tellArrival, .code yX1_tellArrival cX1_tellArrival 2 none, .fieldLink RX1 9 "FeedbackQueues$Task" "arrival" "I", .fieldLink RX1 19 "FeedbackQueues$Task" "burstCount" "I"] ++ wsX20 ++ wsX10 ++ (vx_atS RX2 62 "java/lang/IllegalArgumentException" ["java/lang/RuntimeException", "java/lang/Exception"]).filter goodWord ++ (vx_atS RX2 91 "java/lang/IllegalStateException" ["java/lang/RuntimeException", "java/lang/Exception"]).filter goodWord)
def wsX2_isTask : List Cond := .code yX2_isTask cX2_isTask 2 (some .boolean) :: ([.fieldLink RX2 29 "FeedbackQueues" "taskCount" "I"] ++ wsX20)
def wsX2_burst : List Cond := .code yX2_burst cX2_burst 3 (some .int) :: ([.classLink RX2 78 "java/lang/IndexOutOfBoundsException", .initialized "java/lang/IndexOutOfBoundsException", .classLink RX2 58 "java/lang/IllegalArgumentException", .initialized "java/lang/IllegalArgumentException", .classLink RX2 87 "java/lang/IllegalStateException", .initialized "java/lang/IllegalStateException", .fieldLink RX2 35 "FeedbackQueues" "now" "I", .fieldLink RX2 17 "FeedbackQueues" "tasks" "[LFeedbackQueues$Task;", .methodLink RX2 99 yX2_isTask, .instanceMethod yX2_isTask, .selects RX2 yX2_isTask yX2_isTask, .initialized RX2, .code yX2_isTask cX2_isTask 2 (some .boolean), .fieldLink RX2 29 "FeedbackQueues" "taskCount" "I", .instanceMethod yX1_tellBurst, .initialized RX1, .selects RX1 yX1_tellBurst yX1_tellBurst, .code yX1_tellBurst cX1_tellBurst 2 (some .int), .fieldLink RX1 19 "FeedbackQueues$Task" "burstCount" "I", .fieldLink RX1 15 "FeedbackQueues$Task" "bursts" "[I"] ++ wsX20 ++ wsX10 ++ (vx_atS RX2 82 "java/lang/IndexOutOfBoundsException" ["java/lang/RuntimeException", "java/lang/Exception"]).filter goodWord ++ (vx_atS RX2 62 "java/lang/IllegalArgumentException" ["java/lang/RuntimeException", "java/lang/Exception"]).filter goodWord ++ (vx_atS RX2 91 "java/lang/IllegalStateException" ["java/lang/RuntimeException", "java/lang/Exception"]).filter goodWord)
def wsX2_bringAllUp_r1 : List Cond := [Cond.fieldLink RX2 48 "FeedbackQueues" "comeUpCount" "I", Cond.fieldLink RX2 11 "FeedbackQueues" "levelRows" "[LFeedbackQueues$Level;", Cond.fieldLink RX2 29 "FeedbackQueues" "taskCount" "I", Cond.fieldLink RX2 17 "FeedbackQueues" "tasks" "[LFeedbackQueues$Task;", Cond.fieldLink RX2 25 "FeedbackQueues" "levelCount" "I", Cond.instanceMethod yX1_comeUp, Cond.initialized RX1, Cond.selects RX1 yX1_comeUp yX1_comeUp, Cond.code yX1_comeUp cX1_comeUp 3 none, Cond.fieldLink RX1 25 "FeedbackQueues$Task" "level" "I", Cond.fieldLink RX1 37 "FeedbackQueues$Task" "shareLeft" "I", Cond.fieldLink RX1 22 "FeedbackQueues$Task" "state" "I", Cond.fieldLink RX1 34 "FeedbackQueues$Task" "quantumLeft" "I", Cond.methodLink RX1 71 Lib.Math.min.name, Cond.static Lib.Math.min.name, Cond.initialized "java/lang/Math", Cond.code Lib.Math.min.name Lib.Math.min.code 2 (some .int), Cond.instanceMethod yX0_addAllOf, Cond.initialized RX0, Cond.selects RX0 yX0_addAllOf yX0_addAllOf, Cond.code yX0_addAllOf cX0_addAllOf 3 none, Cond.fieldLink RX0 22 "FeedbackQueues$Level" "size" "I", Cond.fieldLink RX0 18 "FeedbackQueues$Level" "queue" "[I", Cond.methodLink RX0 25 yX0_addLast]
def wsX2_bringAllUp_r2 : List Cond := [Cond.instanceMethod yX0_addLast, Cond.selects RX0 yX0_addLast yX0_addLast, Cond.code yX0_addLast cX0_addLast 2 none, Cond.instanceMethod yX0_clear, Cond.selects RX0 yX0_clear yX0_clear, Cond.code yX0_clear cX0_clear 1 none]
def wsX2_bringAllUp : List Cond := .code yX2_bringAllUp cX2_bringAllUp 3 none :: ((wsX2_bringAllUp_r1 ++ wsX2_bringAllUp_r2) ++ wsX20 ++ wsX10 ++ wsX00)
def wsX2_standAtEnd : List Cond := .code yX2_standAtEnd cX2_standAtEnd 2 none :: ([.fieldLink RX2 11 "FeedbackQueues" "levelRows" "[LFeedbackQueues$Level;", .instanceMethod yX0_addLast, .initialized RX0, .selects RX0 yX0_addLast yX0_addLast, .code yX0_addLast cX0_addLast 2 none, .fieldLink RX0 22 "FeedbackQueues$Level" "size" "I", .fieldLink RX0 18 "FeedbackQueues$Level" "queue" "[I"] ++ wsX10 ++ wsX20 ++ wsX00)
def wsX2_endTask : List Cond := .code yX2_endTask cX2_endTask 3 none :: ([.fieldLink RX2 51 "FeedbackQueues" "endedCount" "I"] ++ wsX10 ++ wsX20)
def wsX2_goOnOrEnd_r1 : List Cond := [Cond.fieldLink RX2 35 "FeedbackQueues" "now" "I", Cond.instanceMethod yX1_beginBurst, Cond.initialized RX1, Cond.selects RX1 yX1_beginBurst yX1_beginBurst, Cond.code yX1_beginBurst cX1_beginBurst 1 (some .boolean), Cond.fieldLink RX1 28 "FeedbackQueues$Task" "burstsBegun" "I", Cond.fieldLink RX1 19 "FeedbackQueues$Task" "burstCount" "I", Cond.fieldLink RX1 15 "FeedbackQueues$Task" "bursts" "[I", Cond.fieldLink RX1 31 "FeedbackQueues$Task" "burstLeft" "I", Cond.methodLink RX2 210 yX2_standAtEnd, Cond.instanceMethod yX2_standAtEnd, Cond.selects RX2 yX2_standAtEnd yX2_standAtEnd, Cond.initialized RX2, Cond.code yX2_standAtEnd cX2_standAtEnd 2 none, Cond.fieldLink RX2 11 "FeedbackQueues" "levelRows" "[LFeedbackQueues$Level;", Cond.instanceMethod yX0_addLast, Cond.initialized RX0, Cond.selects RX0 yX0_addLast yX0_addLast, Cond.code yX0_addLast cX0_addLast 2 none, Cond.fieldLink RX0 22 "FeedbackQueues$Level" "size" "I", Cond.fieldLink RX0 18 "FeedbackQueues$Level" "queue" "[I", Cond.methodLink RX2 213 yX2_endTask, Cond.instanceMethod yX2_endTask, Cond.selects RX2 yX2_endTask yX2_endTask]
def wsX2_goOnOrEnd_r2 : List Cond := [Cond.code yX2_endTask cX2_endTask 3 none, Cond.fieldLink RX2 51 "FeedbackQueues" "endedCount" "I"]
def wsX2_goOnOrEnd : List Cond := .code yX2_goOnOrEnd cX2_goOnOrEnd 2 none :: ((wsX2_goOnOrEnd_r1 ++ wsX2_goOnOrEnd_r2) ++ wsX20 ++ wsX10 ++ wsX00)
def wsX2_letArrive_r1 : List Cond := [Cond.fieldLink RX2 29 "FeedbackQueues" "taskCount" "I", Cond.fieldLink RX2 17 "FeedbackQueues" "tasks" "[LFeedbackQueues$Task;", Cond.fieldLink RX2 35 "FeedbackQueues" "now" "I", Cond.fieldLink RX2 11 "FeedbackQueues" "levelRows" "[LFeedbackQueues$Level;", Cond.methodLink RX2 200 yX2_goOnOrEnd, Cond.instanceMethod yX2_goOnOrEnd, Cond.selects RX2 yX2_goOnOrEnd yX2_goOnOrEnd, Cond.initialized RX2, Cond.code yX2_goOnOrEnd cX2_goOnOrEnd 2 none, Cond.instanceMethod yX1_beginBurst, Cond.initialized RX1, Cond.selects RX1 yX1_beginBurst yX1_beginBurst, Cond.code yX1_beginBurst cX1_beginBurst 1 (some .boolean), Cond.fieldLink RX1 28 "FeedbackQueues$Task" "burstsBegun" "I", Cond.fieldLink RX1 19 "FeedbackQueues$Task" "burstCount" "I", Cond.fieldLink RX1 15 "FeedbackQueues$Task" "bursts" "[I", Cond.fieldLink RX1 31 "FeedbackQueues$Task" "burstLeft" "I", Cond.methodLink RX2 210 yX2_standAtEnd, Cond.instanceMethod yX2_standAtEnd, Cond.selects RX2 yX2_standAtEnd yX2_standAtEnd, Cond.code yX2_standAtEnd cX2_standAtEnd 2 none, Cond.instanceMethod yX0_addLast, Cond.initialized RX0, Cond.selects RX0 yX0_addLast yX0_addLast]
def wsX2_letArrive_r2 : List Cond := [Cond.code yX0_addLast cX0_addLast 2 none, Cond.fieldLink RX0 22 "FeedbackQueues$Level" "size" "I", Cond.fieldLink RX0 18 "FeedbackQueues$Level" "queue" "[I", Cond.methodLink RX2 213 yX2_endTask, Cond.instanceMethod yX2_endTask, Cond.selects RX2 yX2_endTask yX2_endTask, Cond.code yX2_endTask cX2_endTask 3 none, Cond.fieldLink RX2 51 "FeedbackQueues" "endedCount" "I"]
def wsX2_letArrive : List Cond := .code yX2_letArrive cX2_letArrive 3 none :: ((wsX2_letArrive_r1 ++ wsX2_letArrive_r2) ++ wsX20 ++ wsX10 ++ wsX00)
def wsX2_letComeBack_r1 : List Cond := [Cond.fieldLink RX2 29 "FeedbackQueues" "taskCount" "I", Cond.fieldLink RX2 17 "FeedbackQueues" "tasks" "[LFeedbackQueues$Task;", Cond.methodLink RX2 200 yX2_goOnOrEnd, Cond.instanceMethod yX2_goOnOrEnd, Cond.selects RX2 yX2_goOnOrEnd yX2_goOnOrEnd, Cond.initialized RX2, Cond.code yX2_goOnOrEnd cX2_goOnOrEnd 2 none, Cond.fieldLink RX2 35 "FeedbackQueues" "now" "I", Cond.instanceMethod yX1_beginBurst, Cond.initialized RX1, Cond.selects RX1 yX1_beginBurst yX1_beginBurst, Cond.code yX1_beginBurst cX1_beginBurst 1 (some .boolean), Cond.fieldLink RX1 28 "FeedbackQueues$Task" "burstsBegun" "I", Cond.fieldLink RX1 19 "FeedbackQueues$Task" "burstCount" "I", Cond.fieldLink RX1 15 "FeedbackQueues$Task" "bursts" "[I", Cond.fieldLink RX1 31 "FeedbackQueues$Task" "burstLeft" "I", Cond.methodLink RX2 210 yX2_standAtEnd, Cond.instanceMethod yX2_standAtEnd, Cond.selects RX2 yX2_standAtEnd yX2_standAtEnd, Cond.code yX2_standAtEnd cX2_standAtEnd 2 none, Cond.fieldLink RX2 11 "FeedbackQueues" "levelRows" "[LFeedbackQueues$Level;", Cond.instanceMethod yX0_addLast, Cond.initialized RX0, Cond.selects RX0 yX0_addLast yX0_addLast]
def wsX2_letComeBack_r2 : List Cond := [Cond.code yX0_addLast cX0_addLast 2 none, Cond.fieldLink RX0 22 "FeedbackQueues$Level" "size" "I", Cond.fieldLink RX0 18 "FeedbackQueues$Level" "queue" "[I", Cond.methodLink RX2 213 yX2_endTask, Cond.instanceMethod yX2_endTask, Cond.selects RX2 yX2_endTask yX2_endTask, Cond.code yX2_endTask cX2_endTask 3 none, Cond.fieldLink RX2 51 "FeedbackQueues" "endedCount" "I"]
def wsX2_letComeBack : List Cond := .code yX2_letComeBack cX2_letComeBack 3 none :: ((wsX2_letComeBack_r1 ++ wsX2_letComeBack_r2) ++ wsX20 ++ wsX10 ++ wsX00)
def wsX2_isOneReadyAbove : List Cond := .code yX2_isOneReadyAbove cX2_isOneReadyAbove 3 (some .boolean) :: ([.fieldLink RX2 11 "FeedbackQueues" "levelRows" "[LFeedbackQueues$Level;"] ++ wsX20 ++ wsX00)
def wsX2_makeWay : List Cond := .code yX2_makeWay cX2_makeWay 1 none :: ([.fieldLink RX2 38 "FeedbackQueues" "onProcessor" "LFeedbackQueues$Task;", .fieldLink RX2 11 "FeedbackQueues" "levelRows" "[LFeedbackQueues$Level;", .methodLink RX2 217 yX2_isOneReadyAbove, .instanceMethod yX2_isOneReadyAbove, .selects RX2 yX2_isOneReadyAbove yX2_isOneReadyAbove, .initialized RX2, .code yX2_isOneReadyAbove cX2_isOneReadyAbove 3 (some .boolean), .instanceMethod yX0_addFirst, .initialized RX0, .selects RX0 yX0_addFirst yX0_addFirst, .code yX0_addFirst cX0_addFirst 3 none, .fieldLink RX0 22 "FeedbackQueues$Level" "size" "I", .fieldLink RX0 18 "FeedbackQueues$Level" "queue" "[I"] ++ wsX20 ++ wsX10 ++ wsX00)
def wsX2_switchTo : List Cond := .code yX2_switchTo cX2_switchTo 2 none :: ([.fieldLink RX2 35 "FeedbackQueues" "now" "I", .fieldLink RX2 11 "FeedbackQueues" "levelRows" "[LFeedbackQueues$Level;", .fieldLink RX2 42 "FeedbackQueues" "switchCount" "I", .fieldLink RX2 21 "FeedbackQueues" "switchesKept" "[I", .fieldLink RX2 38 "FeedbackQueues" "onProcessor" "LFeedbackQueues$Task;", .instanceMethod yX1_beginRunning, .initialized RX1, .selects RX1 yX1_beginRunning yX1_beginRunning, .code yX1_beginRunning cX1_beginRunning 3 none, .fieldLink RX1 22 "FeedbackQueues$Task" "state" "I", .fieldLink RX1 40 "FeedbackQueues$Task" "keepsQuantum" "Z", .fieldLink RX1 34 "FeedbackQueues$Task" "quantumLeft" "I", .fieldLink RX1 59 "FeedbackQueues$Task" "timesSwitchedTo" "I", .fieldLink RX1 53 "FeedbackQueues$Task" "firstRun" "I"] ++ wsX20 ++ wsX10 ++ wsX00)
def wsX2_switchToFirst_r1 : List Cond := [Cond.fieldLink RX2 25 "FeedbackQueues" "levelCount" "I", Cond.fieldLink RX2 11 "FeedbackQueues" "levelRows" "[LFeedbackQueues$Level;", Cond.fieldLink RX2 17 "FeedbackQueues" "tasks" "[LFeedbackQueues$Task;", Cond.instanceMethod yX0_takeFirst, Cond.initialized RX0, Cond.selects RX0 yX0_takeFirst yX0_takeFirst, Cond.code yX0_takeFirst cX0_takeFirst 3 (some .int), Cond.fieldLink RX0 22 "FeedbackQueues$Level" "size" "I", Cond.fieldLink RX0 18 "FeedbackQueues$Level" "queue" "[I", Cond.methodLink RX2 99 yX2_isTask, Cond.instanceMethod yX2_isTask, Cond.selects RX2 yX2_isTask yX2_isTask, Cond.initialized RX2, Cond.code yX2_isTask cX2_isTask 2 (some .boolean), Cond.fieldLink RX2 29 "FeedbackQueues" "taskCount" "I", Cond.methodLink RX2 234 yX2_switchTo, Cond.instanceMethod yX2_switchTo, Cond.selects RX2 yX2_switchTo yX2_switchTo, Cond.code yX2_switchTo cX2_switchTo 2 none, Cond.fieldLink RX2 35 "FeedbackQueues" "now" "I", Cond.fieldLink RX2 42 "FeedbackQueues" "switchCount" "I", Cond.fieldLink RX2 21 "FeedbackQueues" "switchesKept" "[I", Cond.fieldLink RX2 38 "FeedbackQueues" "onProcessor" "LFeedbackQueues$Task;", Cond.instanceMethod yX1_beginRunning]
def wsX2_switchToFirst_r2 : List Cond := [Cond.initialized RX1, Cond.selects RX1 yX1_beginRunning yX1_beginRunning, Cond.code yX1_beginRunning cX1_beginRunning 3 none, Cond.fieldLink RX1 22 "FeedbackQueues$Task" "state" "I", Cond.fieldLink RX1 40 "FeedbackQueues$Task" "keepsQuantum" "Z", Cond.fieldLink RX1 34 "FeedbackQueues$Task" "quantumLeft" "I", Cond.fieldLink RX1 59 "FeedbackQueues$Task" "timesSwitchedTo" "I", Cond.fieldLink RX1 53 "FeedbackQueues$Task" "firstRun" "I"]
def wsX2_switchToFirst : List Cond := .code yX2_switchToFirst cX2_switchToFirst 3 none :: ((wsX2_switchToFirst_r1 ++ wsX2_switchToFirst_r2) ++ wsX20 ++ wsX00 ++ wsX10)
def wsX2_countWaiting : List Cond := .code yX2_countWaiting cX2_countWaiting 3 none :: ([.fieldLink RX2 29 "FeedbackQueues" "taskCount" "I", .fieldLink RX2 17 "FeedbackQueues" "tasks" "[LFeedbackQueues$Task;"] ++ wsX20 ++ wsX10)
def wsX2_blockOrEnd : List Cond := .code yX2_blockOrEnd cX2_blockOrEnd 2 none :: ([.fieldLink RX2 35 "FeedbackQueues" "now" "I", .instanceMethod yX1_beginBurst, .initialized RX1, .selects RX1 yX1_beginBurst yX1_beginBurst, .code yX1_beginBurst cX1_beginBurst 1 (some .boolean), .fieldLink RX1 28 "FeedbackQueues$Task" "burstsBegun" "I", .fieldLink RX1 19 "FeedbackQueues$Task" "burstCount" "I", .fieldLink RX1 15 "FeedbackQueues$Task" "bursts" "[I", .fieldLink RX1 31 "FeedbackQueues$Task" "burstLeft" "I", .methodLink RX2 213 yX2_endTask, .instanceMethod yX2_endTask, .selects RX2 yX2_endTask yX2_endTask, .initialized RX2, .code yX2_endTask cX2_endTask 3 none, .fieldLink RX2 51 "FeedbackQueues" "endedCount" "I"] ++ wsX10 ++ wsX20)
def wsX2_sendDown : List Cond := .code yX2_sendDown cX2_sendDown 2 none :: ([.fieldLink RX2 25 "FeedbackQueues" "levelCount" "I", .fieldLink RX2 11 "FeedbackQueues" "levelRows" "[LFeedbackQueues$Level;", .methodLink RX2 210 yX2_standAtEnd, .instanceMethod yX2_standAtEnd, .selects RX2 yX2_standAtEnd yX2_standAtEnd, .initialized RX2, .code yX2_standAtEnd cX2_standAtEnd 2 none, .instanceMethod yX0_addLast, .initialized RX0, .selects RX0 yX0_addLast yX0_addLast, .code yX0_addLast cX0_addLast 2 none, .fieldLink RX0 22 "FeedbackQueues$Level" "size" "I", .fieldLink RX0 18 "FeedbackQueues$Level" "queue" "[I"] ++ wsX10 ++ wsX20 ++ wsX00)
def wsX2_useTick_r1 : List Cond := [Cond.fieldLink RX2 38 "FeedbackQueues" "onProcessor" "LFeedbackQueues$Task;", Cond.methodLink RX2 243 yX2_blockOrEnd, Cond.instanceMethod yX2_blockOrEnd, Cond.selects RX2 yX2_blockOrEnd yX2_blockOrEnd, Cond.initialized RX2, Cond.code yX2_blockOrEnd cX2_blockOrEnd 2 none, Cond.fieldLink RX2 35 "FeedbackQueues" "now" "I", Cond.instanceMethod yX1_beginBurst, Cond.initialized RX1, Cond.selects RX1 yX1_beginBurst yX1_beginBurst, Cond.code yX1_beginBurst cX1_beginBurst 1 (some .boolean), Cond.fieldLink RX1 28 "FeedbackQueues$Task" "burstsBegun" "I", Cond.fieldLink RX1 19 "FeedbackQueues$Task" "burstCount" "I", Cond.fieldLink RX1 15 "FeedbackQueues$Task" "bursts" "[I", Cond.fieldLink RX1 31 "FeedbackQueues$Task" "burstLeft" "I", Cond.methodLink RX2 213 yX2_endTask, Cond.instanceMethod yX2_endTask, Cond.selects RX2 yX2_endTask yX2_endTask, Cond.code yX2_endTask cX2_endTask 3 none, Cond.fieldLink RX2 51 "FeedbackQueues" "endedCount" "I", Cond.methodLink RX2 246 yX2_sendDown, Cond.instanceMethod yX2_sendDown, Cond.selects RX2 yX2_sendDown yX2_sendDown, Cond.code yX2_sendDown cX2_sendDown 2 none]
def wsX2_useTick_r2 : List Cond := [Cond.fieldLink RX2 25 "FeedbackQueues" "levelCount" "I", Cond.fieldLink RX2 11 "FeedbackQueues" "levelRows" "[LFeedbackQueues$Level;", Cond.methodLink RX2 210 yX2_standAtEnd, Cond.instanceMethod yX2_standAtEnd, Cond.selects RX2 yX2_standAtEnd yX2_standAtEnd, Cond.code yX2_standAtEnd cX2_standAtEnd 2 none, Cond.instanceMethod yX0_addLast, Cond.initialized RX0, Cond.selects RX0 yX0_addLast yX0_addLast, Cond.code yX0_addLast cX0_addLast 2 none, Cond.fieldLink RX0 22 "FeedbackQueues$Level" "size" "I", Cond.fieldLink RX0 18 "FeedbackQueues$Level" "queue" "[I"]
def wsX2_useTick : List Cond := .code yX2_useTick cX2_useTick 2 none :: ((wsX2_useTick_r1 ++ wsX2_useTick_r2) ++ wsX10 ++ wsX20 ++ wsX00)
def wsX2_doTick_r1 : List Cond := [Cond.fieldLink RX2 32 "FeedbackQueues" "periodTicks" "I", Cond.fieldLink RX2 35 "FeedbackQueues" "now" "I", Cond.fieldLink RX2 38 "FeedbackQueues" "onProcessor" "LFeedbackQueues$Task;", Cond.fieldLink RX2 45 "FeedbackQueues" "idleCount" "I", Cond.methodLink RX2 164 yX2_bringAllUp, Cond.instanceMethod yX2_bringAllUp, Cond.selects RX2 yX2_bringAllUp yX2_bringAllUp, Cond.initialized RX2, Cond.code yX2_bringAllUp cX2_bringAllUp 3 none, Cond.fieldLink RX2 48 "FeedbackQueues" "comeUpCount" "I", Cond.fieldLink RX2 11 "FeedbackQueues" "levelRows" "[LFeedbackQueues$Level;", Cond.fieldLink RX2 29 "FeedbackQueues" "taskCount" "I", Cond.fieldLink RX2 17 "FeedbackQueues" "tasks" "[LFeedbackQueues$Task;", Cond.fieldLink RX2 25 "FeedbackQueues" "levelCount" "I", Cond.instanceMethod yX1_comeUp, Cond.initialized RX1, Cond.selects RX1 yX1_comeUp yX1_comeUp, Cond.code yX1_comeUp cX1_comeUp 3 none, Cond.fieldLink RX1 25 "FeedbackQueues$Task" "level" "I", Cond.fieldLink RX1 37 "FeedbackQueues$Task" "shareLeft" "I", Cond.fieldLink RX1 22 "FeedbackQueues$Task" "state" "I", Cond.fieldLink RX1 34 "FeedbackQueues$Task" "quantumLeft" "I", Cond.methodLink RX1 71 Lib.Math.min.name, Cond.static Lib.Math.min.name]
def wsX2_doTick_r2 : List Cond := [Cond.initialized "java/lang/Math", Cond.code Lib.Math.min.name Lib.Math.min.code 2 (some .int), Cond.instanceMethod yX0_addAllOf, Cond.initialized RX0, Cond.selects RX0 yX0_addAllOf yX0_addAllOf, Cond.code yX0_addAllOf cX0_addAllOf 3 none, Cond.fieldLink RX0 22 "FeedbackQueues$Level" "size" "I", Cond.fieldLink RX0 18 "FeedbackQueues$Level" "queue" "[I", Cond.methodLink RX0 25 yX0_addLast, Cond.instanceMethod yX0_addLast, Cond.selects RX0 yX0_addLast yX0_addLast, Cond.code yX0_addLast cX0_addLast 2 none, Cond.instanceMethod yX0_clear, Cond.selects RX0 yX0_clear yX0_clear, Cond.code yX0_clear cX0_clear 1 none, Cond.methodLink RX2 167 yX2_letArrive, Cond.instanceMethod yX2_letArrive, Cond.selects RX2 yX2_letArrive yX2_letArrive, Cond.code yX2_letArrive cX2_letArrive 3 none, Cond.methodLink RX2 200 yX2_goOnOrEnd, Cond.instanceMethod yX2_goOnOrEnd, Cond.selects RX2 yX2_goOnOrEnd yX2_goOnOrEnd, Cond.code yX2_goOnOrEnd cX2_goOnOrEnd 2 none, Cond.instanceMethod yX1_beginBurst]
def wsX2_doTick_r3 : List Cond := [Cond.selects RX1 yX1_beginBurst yX1_beginBurst, Cond.code yX1_beginBurst cX1_beginBurst 1 (some .boolean), Cond.fieldLink RX1 28 "FeedbackQueues$Task" "burstsBegun" "I", Cond.fieldLink RX1 19 "FeedbackQueues$Task" "burstCount" "I", Cond.fieldLink RX1 15 "FeedbackQueues$Task" "bursts" "[I", Cond.fieldLink RX1 31 "FeedbackQueues$Task" "burstLeft" "I", Cond.methodLink RX2 210 yX2_standAtEnd, Cond.instanceMethod yX2_standAtEnd, Cond.selects RX2 yX2_standAtEnd yX2_standAtEnd, Cond.code yX2_standAtEnd cX2_standAtEnd 2 none, Cond.methodLink RX2 213 yX2_endTask, Cond.instanceMethod yX2_endTask, Cond.selects RX2 yX2_endTask yX2_endTask, Cond.code yX2_endTask cX2_endTask 3 none, Cond.fieldLink RX2 51 "FeedbackQueues" "endedCount" "I", Cond.methodLink RX2 170 yX2_letComeBack, Cond.instanceMethod yX2_letComeBack, Cond.selects RX2 yX2_letComeBack yX2_letComeBack, Cond.code yX2_letComeBack cX2_letComeBack 3 none, Cond.methodLink RX2 173 yX2_makeWay, Cond.instanceMethod yX2_makeWay, Cond.selects RX2 yX2_makeWay yX2_makeWay, Cond.code yX2_makeWay cX2_makeWay 1 none, Cond.methodLink RX2 217 yX2_isOneReadyAbove]
def wsX2_doTick_r4 : List Cond := [Cond.instanceMethod yX2_isOneReadyAbove, Cond.selects RX2 yX2_isOneReadyAbove yX2_isOneReadyAbove, Cond.code yX2_isOneReadyAbove cX2_isOneReadyAbove 3 (some .boolean), Cond.instanceMethod yX0_addFirst, Cond.selects RX0 yX0_addFirst yX0_addFirst, Cond.code yX0_addFirst cX0_addFirst 3 none, Cond.methodLink RX2 176 yX2_switchToFirst, Cond.instanceMethod yX2_switchToFirst, Cond.selects RX2 yX2_switchToFirst yX2_switchToFirst, Cond.code yX2_switchToFirst cX2_switchToFirst 3 none, Cond.instanceMethod yX0_takeFirst, Cond.selects RX0 yX0_takeFirst yX0_takeFirst, Cond.code yX0_takeFirst cX0_takeFirst 3 (some .int), Cond.methodLink RX2 99 yX2_isTask, Cond.instanceMethod yX2_isTask, Cond.selects RX2 yX2_isTask yX2_isTask, Cond.code yX2_isTask cX2_isTask 2 (some .boolean), Cond.methodLink RX2 234 yX2_switchTo, Cond.instanceMethod yX2_switchTo, Cond.selects RX2 yX2_switchTo yX2_switchTo, Cond.code yX2_switchTo cX2_switchTo 2 none, Cond.fieldLink RX2 42 "FeedbackQueues" "switchCount" "I", Cond.fieldLink RX2 21 "FeedbackQueues" "switchesKept" "[I", Cond.instanceMethod yX1_beginRunning]
def wsX2_doTick_r5 : List Cond := [Cond.selects RX1 yX1_beginRunning yX1_beginRunning, Cond.code yX1_beginRunning cX1_beginRunning 3 none, Cond.fieldLink RX1 40 "FeedbackQueues$Task" "keepsQuantum" "Z", Cond.fieldLink RX1 59 "FeedbackQueues$Task" "timesSwitchedTo" "I", Cond.fieldLink RX1 53 "FeedbackQueues$Task" "firstRun" "I", Cond.methodLink RX2 179 yX2_countWaiting, Cond.instanceMethod yX2_countWaiting, Cond.selects RX2 yX2_countWaiting yX2_countWaiting, Cond.code yX2_countWaiting cX2_countWaiting 3 none, Cond.methodLink RX2 182 yX2_useTick, Cond.instanceMethod yX2_useTick, Cond.selects RX2 yX2_useTick yX2_useTick, Cond.code yX2_useTick cX2_useTick 2 none, Cond.methodLink RX2 243 yX2_blockOrEnd, Cond.instanceMethod yX2_blockOrEnd, Cond.selects RX2 yX2_blockOrEnd yX2_blockOrEnd, Cond.code yX2_blockOrEnd cX2_blockOrEnd 2 none, Cond.methodLink RX2 246 yX2_sendDown, Cond.instanceMethod yX2_sendDown, Cond.selects RX2 yX2_sendDown yX2_sendDown, Cond.code yX2_sendDown cX2_sendDown 2 none]
def wsX2_doTick : List Cond := .code yX2_doTick cX2_doTick 1 none :: ((wsX2_doTick_r1 ++ (wsX2_doTick_r2 ++ (wsX2_doTick_r3 ++ (wsX2_doTick_r4 ++ wsX2_doTick_r5)))) ++ wsX20 ++ wsX10 ++ wsX00)
def wsX2_run_r1 : List Cond := [Cond.classLink RX2 58 "java/lang/IllegalArgumentException", Cond.initialized "java/lang/IllegalArgumentException", Cond.fieldLink RX2 35 "FeedbackQueues" "now" "I", Cond.constant RX2 112 (100000), Cond.fieldLink RX2 45 "FeedbackQueues" "idleCount" "I", Cond.methodLink RX2 115 yX2_doTick, Cond.instanceMethod yX2_doTick, Cond.selects RX2 yX2_doTick yX2_doTick, Cond.initialized RX2, Cond.code yX2_doTick cX2_doTick 1 none, Cond.fieldLink RX2 32 "FeedbackQueues" "periodTicks" "I", Cond.fieldLink RX2 38 "FeedbackQueues" "onProcessor" "LFeedbackQueues$Task;", Cond.methodLink RX2 164 yX2_bringAllUp, Cond.instanceMethod yX2_bringAllUp, Cond.selects RX2 yX2_bringAllUp yX2_bringAllUp, Cond.code yX2_bringAllUp cX2_bringAllUp 3 none, Cond.fieldLink RX2 48 "FeedbackQueues" "comeUpCount" "I", Cond.fieldLink RX2 11 "FeedbackQueues" "levelRows" "[LFeedbackQueues$Level;", Cond.fieldLink RX2 29 "FeedbackQueues" "taskCount" "I", Cond.fieldLink RX2 17 "FeedbackQueues" "tasks" "[LFeedbackQueues$Task;", Cond.fieldLink RX2 25 "FeedbackQueues" "levelCount" "I", Cond.instanceMethod yX1_comeUp, Cond.initialized RX1, Cond.selects RX1 yX1_comeUp yX1_comeUp]
def wsX2_run_r2 : List Cond := [Cond.code yX1_comeUp cX1_comeUp 3 none, Cond.fieldLink RX1 25 "FeedbackQueues$Task" "level" "I", Cond.fieldLink RX1 37 "FeedbackQueues$Task" "shareLeft" "I", Cond.fieldLink RX1 22 "FeedbackQueues$Task" "state" "I", Cond.fieldLink RX1 34 "FeedbackQueues$Task" "quantumLeft" "I", Cond.methodLink RX1 71 Lib.Math.min.name, Cond.static Lib.Math.min.name, Cond.initialized "java/lang/Math", Cond.code Lib.Math.min.name Lib.Math.min.code 2 (some .int), Cond.instanceMethod yX0_addAllOf, Cond.initialized RX0, Cond.selects RX0 yX0_addAllOf yX0_addAllOf, Cond.code yX0_addAllOf cX0_addAllOf 3 none, Cond.fieldLink RX0 22 "FeedbackQueues$Level" "size" "I", Cond.fieldLink RX0 18 "FeedbackQueues$Level" "queue" "[I", Cond.methodLink RX0 25 yX0_addLast, Cond.instanceMethod yX0_addLast, Cond.selects RX0 yX0_addLast yX0_addLast, Cond.code yX0_addLast cX0_addLast 2 none, Cond.instanceMethod yX0_clear, Cond.selects RX0 yX0_clear yX0_clear, Cond.code yX0_clear cX0_clear 1 none, Cond.methodLink RX2 167 yX2_letArrive, Cond.instanceMethod yX2_letArrive]
def wsX2_run_r3 : List Cond := [Cond.selects RX2 yX2_letArrive yX2_letArrive, Cond.code yX2_letArrive cX2_letArrive 3 none, Cond.methodLink RX2 200 yX2_goOnOrEnd, Cond.instanceMethod yX2_goOnOrEnd, Cond.selects RX2 yX2_goOnOrEnd yX2_goOnOrEnd, Cond.code yX2_goOnOrEnd cX2_goOnOrEnd 2 none, Cond.instanceMethod yX1_beginBurst, Cond.selects RX1 yX1_beginBurst yX1_beginBurst, Cond.code yX1_beginBurst cX1_beginBurst 1 (some .boolean), Cond.fieldLink RX1 28 "FeedbackQueues$Task" "burstsBegun" "I", Cond.fieldLink RX1 19 "FeedbackQueues$Task" "burstCount" "I", Cond.fieldLink RX1 15 "FeedbackQueues$Task" "bursts" "[I", Cond.fieldLink RX1 31 "FeedbackQueues$Task" "burstLeft" "I", Cond.methodLink RX2 210 yX2_standAtEnd, Cond.instanceMethod yX2_standAtEnd, Cond.selects RX2 yX2_standAtEnd yX2_standAtEnd, Cond.code yX2_standAtEnd cX2_standAtEnd 2 none, Cond.methodLink RX2 213 yX2_endTask, Cond.instanceMethod yX2_endTask, Cond.selects RX2 yX2_endTask yX2_endTask, Cond.code yX2_endTask cX2_endTask 3 none, Cond.fieldLink RX2 51 "FeedbackQueues" "endedCount" "I", Cond.methodLink RX2 170 yX2_letComeBack, Cond.instanceMethod yX2_letComeBack]
def wsX2_run_r4 : List Cond := [Cond.selects RX2 yX2_letComeBack yX2_letComeBack, Cond.code yX2_letComeBack cX2_letComeBack 3 none, Cond.methodLink RX2 173 yX2_makeWay, Cond.instanceMethod yX2_makeWay, Cond.selects RX2 yX2_makeWay yX2_makeWay, Cond.code yX2_makeWay cX2_makeWay 1 none, Cond.methodLink RX2 217 yX2_isOneReadyAbove, Cond.instanceMethod yX2_isOneReadyAbove, Cond.selects RX2 yX2_isOneReadyAbove yX2_isOneReadyAbove, Cond.code yX2_isOneReadyAbove cX2_isOneReadyAbove 3 (some .boolean), Cond.instanceMethod yX0_addFirst, Cond.selects RX0 yX0_addFirst yX0_addFirst, Cond.code yX0_addFirst cX0_addFirst 3 none, Cond.methodLink RX2 176 yX2_switchToFirst, Cond.instanceMethod yX2_switchToFirst, Cond.selects RX2 yX2_switchToFirst yX2_switchToFirst, Cond.code yX2_switchToFirst cX2_switchToFirst 3 none, Cond.instanceMethod yX0_takeFirst, Cond.selects RX0 yX0_takeFirst yX0_takeFirst, Cond.code yX0_takeFirst cX0_takeFirst 3 (some .int), Cond.methodLink RX2 99 yX2_isTask, Cond.instanceMethod yX2_isTask, Cond.selects RX2 yX2_isTask yX2_isTask, Cond.code yX2_isTask cX2_isTask 2 (some .boolean)]
def wsX2_run_r5 : List Cond := [Cond.methodLink RX2 234 yX2_switchTo, Cond.instanceMethod yX2_switchTo, Cond.selects RX2 yX2_switchTo yX2_switchTo, Cond.code yX2_switchTo cX2_switchTo 2 none, Cond.fieldLink RX2 42 "FeedbackQueues" "switchCount" "I", Cond.fieldLink RX2 21 "FeedbackQueues" "switchesKept" "[I", Cond.instanceMethod yX1_beginRunning, Cond.selects RX1 yX1_beginRunning yX1_beginRunning, Cond.code yX1_beginRunning cX1_beginRunning 3 none, Cond.fieldLink RX1 40 "FeedbackQueues$Task" "keepsQuantum" "Z", Cond.fieldLink RX1 59 "FeedbackQueues$Task" "timesSwitchedTo" "I", Cond.fieldLink RX1 53 "FeedbackQueues$Task" "firstRun" "I", Cond.methodLink RX2 179 yX2_countWaiting, Cond.instanceMethod yX2_countWaiting, Cond.selects RX2 yX2_countWaiting yX2_countWaiting, Cond.code yX2_countWaiting cX2_countWaiting 3 none, Cond.methodLink RX2 182 yX2_useTick, Cond.instanceMethod yX2_useTick, Cond.selects RX2 yX2_useTick yX2_useTick, Cond.code yX2_useTick cX2_useTick 2 none, Cond.methodLink RX2 243 yX2_blockOrEnd, Cond.instanceMethod yX2_blockOrEnd, Cond.selects RX2 yX2_blockOrEnd yX2_blockOrEnd, Cond.code yX2_blockOrEnd cX2_blockOrEnd 2 none]
def wsX2_run_r6 : List Cond := [Cond.methodLink RX2 246 yX2_sendDown, Cond.instanceMethod yX2_sendDown, Cond.selects RX2 yX2_sendDown yX2_sendDown, Cond.code yX2_sendDown cX2_sendDown 2 none]
def wsX2_run : List Cond := .code yX2_run cX2_run 4 (some .int) :: ((wsX2_run_r1 ++ (wsX2_run_r2 ++ (wsX2_run_r3 ++ (wsX2_run_r4 ++ (wsX2_run_r5 ++ wsX2_run_r6))))) ++ wsX20 ++ wsX10 ++ wsX00 ++ (vx_atS RX2 62 "java/lang/IllegalArgumentException" ["java/lang/RuntimeException", "java/lang/Exception"]).filter goodWord)
def wsX2_restart_r1 : List Cond := [Cond.methodLink RX2 71 yX2_startOver, Cond.instanceMethod yX2_startOver, Cond.selects RX2 yX2_startOver yX2_startOver, Cond.initialized RX2, Cond.code yX2_startOver cX2_startOver 2 none, Cond.fieldLink RX2 35 "FeedbackQueues" "now" "I", Cond.fieldLink RX2 38 "FeedbackQueues" "onProcessor" "LFeedbackQueues$Task;", Cond.fieldLink RX2 42 "FeedbackQueues" "switchCount" "I", Cond.fieldLink RX2 45 "FeedbackQueues" "idleCount" "I", Cond.fieldLink RX2 48 "FeedbackQueues" "comeUpCount" "I", Cond.fieldLink RX2 51 "FeedbackQueues" "endedCount" "I", Cond.fieldLink RX2 11 "FeedbackQueues" "levelRows" "[LFeedbackQueues$Level;", Cond.fieldLink RX2 17 "FeedbackQueues" "tasks" "[LFeedbackQueues$Task;", Cond.instanceMethod yX0_clear, Cond.initialized RX0, Cond.selects RX0 yX0_clear yX0_clear, Cond.code yX0_clear cX0_clear 1 none, Cond.fieldLink RX0 22 "FeedbackQueues$Level" "size" "I", Cond.instanceMethod yX1_startOver, Cond.initialized RX1, Cond.selects RX1 yX1_startOver yX1_startOver, Cond.code yX1_startOver cX1_startOver 1 none, Cond.fieldLink RX1 22 "FeedbackQueues$Task" "state" "I", Cond.fieldLink RX1 25 "FeedbackQueues$Task" "level" "I"]
def wsX2_restart_r2 : List Cond := [Cond.fieldLink RX1 28 "FeedbackQueues$Task" "burstsBegun" "I", Cond.fieldLink RX1 31 "FeedbackQueues$Task" "burstLeft" "I", Cond.fieldLink RX1 34 "FeedbackQueues$Task" "quantumLeft" "I", Cond.fieldLink RX1 37 "FeedbackQueues$Task" "shareLeft" "I", Cond.fieldLink RX1 40 "FeedbackQueues$Task" "keepsQuantum" "Z", Cond.fieldLink RX1 44 "FeedbackQueues$Task" "ticksRun" "I", Cond.fieldLink RX1 47 "FeedbackQueues$Task" "ticksReady" "I", Cond.fieldLink RX1 50 "FeedbackQueues$Task" "ticksBlocked" "I", Cond.fieldLink RX1 53 "FeedbackQueues$Task" "firstRun" "I", Cond.fieldLink RX1 56 "FeedbackQueues$Task" "endedAt" "I", Cond.fieldLink RX1 59 "FeedbackQueues$Task" "timesSwitchedTo" "I", Cond.fieldLink RX1 62 "FeedbackQueues$Task" "timesDown" "I", Cond.fieldLink RX1 65 "FeedbackQueues$Task" "timesToFront" "I"]
def wsX2_restart : List Cond := .code yX2_restart cX2_restart 1 none :: ((wsX2_restart_r1 ++ wsX2_restart_r2) ++ wsX20 ++ wsX00 ++ wsX10)
def wsX2_time : List Cond := .code yX2_time cX2_time 1 (some .int) :: ([.fieldLink RX2 35 "FeedbackQueues" "now" "I"] ++ wsX20)
def wsX2_told : List Cond := .code yX2_told cX2_told 4 (some .int) :: ([.classLink RX2 78 "java/lang/IndexOutOfBoundsException", .initialized "java/lang/IndexOutOfBoundsException", .classLink RX2 58 "java/lang/IllegalArgumentException", .initialized "java/lang/IllegalArgumentException", .fieldLink RX2 17 "FeedbackQueues" "tasks" "[LFeedbackQueues$Task;", .methodLink RX2 99 yX2_isTask, .instanceMethod yX2_isTask, .selects RX2 yX2_isTask yX2_isTask, .initialized RX2, .code yX2_isTask cX2_isTask 2 (some .boolean), .fieldLink RX2 29 "FeedbackQueues" "taskCount" "I"] ++ wsX20 ++ wsX10 ++ (vx_atS RX2 82 "java/lang/IndexOutOfBoundsException" ["java/lang/RuntimeException", "java/lang/Exception"]).filter goodWord ++ (vx_atS RX2 62 "java/lang/IllegalArgumentException" ["java/lang/RuntimeException", "java/lang/Exception"]).filter goodWord)
def wsX2_running : List Cond := .code yX2_running cX2_running 1 (some .int) :: ([.fieldLink RX2 38 "FeedbackQueues" "onProcessor" "LFeedbackQueues$Task;"] ++ wsX20 ++ wsX10)
def wsX2_queued : List Cond := .code yX2_queued cX2_queued 3 (some .int) :: ([.classLink RX2 78 "java/lang/IndexOutOfBoundsException", .initialized "java/lang/IndexOutOfBoundsException", .fieldLink RX2 11 "FeedbackQueues" "levelRows" "[LFeedbackQueues$Level;", .methodLink RX2 74 yX2_isLevel, .instanceMethod yX2_isLevel, .selects RX2 yX2_isLevel yX2_isLevel, .initialized RX2, .code yX2_isLevel cX2_isLevel 2 (some .boolean), .fieldLink RX2 25 "FeedbackQueues" "levelCount" "I", .instanceMethod yX0_at, .initialized RX0, .selects RX0 yX0_at yX0_at, .code yX0_at cX0_at 2 (some .int), .fieldLink RX0 22 "FeedbackQueues$Level" "size" "I", .fieldLink RX0 18 "FeedbackQueues$Level" "queue" "[I"] ++ wsX20 ++ wsX00 ++ (vx_atS RX2 82 "java/lang/IndexOutOfBoundsException" ["java/lang/RuntimeException", "java/lang/Exception"]).filter goodWord)
def wsX2_all : List Cond := .code yX2_all cX2_all 2 (some .int) :: ([.classLink RX2 58 "java/lang/IllegalArgumentException", .initialized "java/lang/IllegalArgumentException", .fieldLink RX2 42 "FeedbackQueues" "switchCount" "I", .fieldLink RX2 45 "FeedbackQueues" "idleCount" "I", .fieldLink RX2 48 "FeedbackQueues" "comeUpCount" "I", .fieldLink RX2 51 "FeedbackQueues" "endedCount" "I"] ++ wsX20 ++ (vx_atS RX2 62 "java/lang/IllegalArgumentException" ["java/lang/RuntimeException", "java/lang/Exception"]).filter goodWord)
def wsX2_switched : List Cond := .code yX2_switched cX2_switched 2 (some .int) :: ([.classLink RX2 78 "java/lang/IndexOutOfBoundsException", .initialized "java/lang/IndexOutOfBoundsException", .fieldLink RX2 42 "FeedbackQueues" "switchCount" "I", .fieldLink RX2 21 "FeedbackQueues" "switchesKept" "[I"] ++ wsX20 ++ (vx_atS RX2 82 "java/lang/IndexOutOfBoundsException" ["java/lang/RuntimeException", "java/lang/Exception"]).filter goodWord)
def wsX3_begin : List Cond := .code yX3_begin cX3_begin 3 none :: ([.fieldLink RX3 82 "FeedbackQueuesModel" "time" "I", .fieldLink RX3 85 "FeedbackQueuesModel" "running" "I", .fieldLink RX3 59 "FeedbackQueuesModel" "all" "[I", .fieldLink RX3 56 "FeedbackQueuesModel" "size" "[I", .fieldLink RX3 25 "FeedbackQueuesModel" "state" "[I", .fieldLink RX3 28 "FeedbackQueuesModel" "level" "[I", .fieldLink RX3 31 "FeedbackQueuesModel" "at" "[I", .fieldLink RX3 43 "FeedbackQueuesModel" "kept" "[Z", .fieldLink RX3 50 "FeedbackQueuesModel" "counts" "[I"] ++ wsX30)
def wsX3_set : List Cond := .code yX3_set cX3_set 3 none :: ([.fieldLink RX3 73 "FeedbackQueuesModel" "levels" "I", .fieldLink RX3 7 "FeedbackQueuesModel" "quanta" "[I", .fieldLink RX3 13 "FeedbackQueuesModel" "shares" "[I", .fieldLink RX3 76 "FeedbackQueuesModel" "processes" "I", .methodLink RX3 79 yX3_begin, .instanceMethod yX3_begin, .selects RX3 yX3_begin yX3_begin, .initialized RX3, .code yX3_begin cX3_begin 3 none, .fieldLink RX3 82 "FeedbackQueuesModel" "time" "I", .fieldLink RX3 85 "FeedbackQueuesModel" "running" "I", .fieldLink RX3 59 "FeedbackQueuesModel" "all" "[I", .fieldLink RX3 56 "FeedbackQueuesModel" "size" "[I", .fieldLink RX3 25 "FeedbackQueuesModel" "state" "[I", .fieldLink RX3 28 "FeedbackQueuesModel" "level" "[I", .fieldLink RX3 31 "FeedbackQueuesModel" "at" "[I", .fieldLink RX3 43 "FeedbackQueuesModel" "kept" "[Z", .fieldLink RX3 50 "FeedbackQueuesModel" "counts" "[I"] ++ wsX30)
def wsX3_init_r1 : List Cond := [Cond.methodLink RX3 1 objectInit, Cond.instanceMethod objectInit, Cond.code objectInit ⟨#[0xb1]⟩ 1 none, Cond.arrayClass .int, Cond.fieldLink RX3 7 "FeedbackQueuesModel" "quanta" "[I", Cond.fieldLink RX3 13 "FeedbackQueuesModel" "shares" "[I", Cond.fieldLink RX3 16 "FeedbackQueuesModel" "arrivals" "[I", Cond.fieldLink RX3 19 "FeedbackQueuesModel" "bursts" "[I", Cond.fieldLink RX3 22 "FeedbackQueuesModel" "ticks" "[I", Cond.fieldLink RX3 25 "FeedbackQueuesModel" "state" "[I", Cond.fieldLink RX3 28 "FeedbackQueuesModel" "level" "[I", Cond.fieldLink RX3 31 "FeedbackQueuesModel" "at" "[I", Cond.fieldLink RX3 34 "FeedbackQueuesModel" "left" "[I", Cond.fieldLink RX3 37 "FeedbackQueuesModel" "quantum" "[I", Cond.fieldLink RX3 40 "FeedbackQueuesModel" "share" "[I", Cond.arrayClass .boolean, Cond.fieldLink RX3 43 "FeedbackQueuesModel" "kept" "[Z", Cond.fieldLink RX3 47 "FeedbackQueuesModel" "until" "[I", Cond.fieldLink RX3 50 "FeedbackQueuesModel" "counts" "[I", Cond.fieldLink RX3 53 "FeedbackQueuesModel" "queue" "[I", Cond.fieldLink RX3 56 "FeedbackQueuesModel" "size" "[I", Cond.fieldLink RX3 59 "FeedbackQueuesModel" "all" "[I", Cond.fieldLink RX3 62 "FeedbackQueuesModel" "switches" "[I", Cond.methodLink RX3 65 yX3_set]
def wsX3_init_r2 : List Cond := [Cond.instanceMethod yX3_set, Cond.selects RX3 yX3_set yX3_set, Cond.initialized RX3, Cond.code yX3_set cX3_set 3 none, Cond.fieldLink RX3 73 "FeedbackQueuesModel" "levels" "I", Cond.fieldLink RX3 76 "FeedbackQueuesModel" "processes" "I", Cond.methodLink RX3 79 yX3_begin, Cond.instanceMethod yX3_begin, Cond.selects RX3 yX3_begin yX3_begin, Cond.code yX3_begin cX3_begin 3 none, Cond.fieldLink RX3 82 "FeedbackQueuesModel" "time" "I", Cond.fieldLink RX3 85 "FeedbackQueuesModel" "running" "I"]
def wsX3_init : List Cond := .code yX3_init cX3_init 1 none :: ((wsX3_init_r1 ++ wsX3_init_r2) ++ wsX30)
def wsX3_thrown : List Cond := .code yX3_thrown cX3_thrown 1 (some .int) :: ([.fieldLink RX3 69 "FeedbackQueuesModel" "thrown" "I"] ++ wsX30)
def wsX3_levels : List Cond := .code yX3_levels cX3_levels 2 none :: ([.fieldLink RX3 69 "FeedbackQueuesModel" "thrown" "I", .methodLink RX3 65 yX3_set, .instanceMethod yX3_set, .selects RX3 yX3_set yX3_set, .initialized RX3, .code yX3_set cX3_set 3 none, .fieldLink RX3 73 "FeedbackQueuesModel" "levels" "I", .fieldLink RX3 7 "FeedbackQueuesModel" "quanta" "[I", .fieldLink RX3 13 "FeedbackQueuesModel" "shares" "[I", .fieldLink RX3 76 "FeedbackQueuesModel" "processes" "I", .methodLink RX3 79 yX3_begin, .instanceMethod yX3_begin, .selects RX3 yX3_begin yX3_begin, .code yX3_begin cX3_begin 3 none, .fieldLink RX3 82 "FeedbackQueuesModel" "time" "I", .fieldLink RX3 85 "FeedbackQueuesModel" "running" "I", .fieldLink RX3 59 "FeedbackQueuesModel" "all" "[I", .fieldLink RX3 56 "FeedbackQueuesModel" "size" "[I", .fieldLink RX3 25 "FeedbackQueuesModel" "state" "[I", .fieldLink RX3 28 "FeedbackQueuesModel" "level" "[I", .fieldLink RX3 31 "FeedbackQueuesModel" "at" "[I", .fieldLink RX3 43 "FeedbackQueuesModel" "kept" "[Z", .fieldLink RX3 50 "FeedbackQueuesModel" "counts" "[I"] ++ wsX30)
def wsX3_level : List Cond := .code yX3_level cX3_level 4 none :: ([.fieldLink RX3 73 "FeedbackQueuesModel" "levels" "I", .fieldLink RX3 82 "FeedbackQueuesModel" "time" "I", .fieldLink RX3 69 "FeedbackQueuesModel" "thrown" "I", .fieldLink RX3 7 "FeedbackQueuesModel" "quanta" "[I", .fieldLink RX3 13 "FeedbackQueuesModel" "shares" "[I"] ++ wsX30)
def wsX3_period : List Cond := .code yX3_period cX3_period 2 none :: ([.fieldLink RX3 82 "FeedbackQueuesModel" "time" "I", .fieldLink RX3 69 "FeedbackQueuesModel" "thrown" "I", .fieldLink RX3 88 "FeedbackQueuesModel" "period" "I"] ++ wsX30)
def wsX3_process : List Cond := .code yX3_process cX3_process 2 (some .int) :: ([.fieldLink RX3 82 "FeedbackQueuesModel" "time" "I", .fieldLink RX3 69 "FeedbackQueuesModel" "thrown" "I", .fieldLink RX3 76 "FeedbackQueuesModel" "processes" "I", .fieldLink RX3 16 "FeedbackQueuesModel" "arrivals" "[I", .fieldLink RX3 19 "FeedbackQueuesModel" "bursts" "[I"] ++ wsX30)
def wsX3_noProcess : List Cond := .code yX3_noProcess cX3_noProcess 2 (some .boolean) :: ([.fieldLink RX3 76 "FeedbackQueuesModel" "processes" "I"] ++ wsX30)
def wsX3_burst : List Cond := .code yX3_burst cX3_burst 3 (some .int) :: ([.fieldLink RX3 82 "FeedbackQueuesModel" "time" "I", .fieldLink RX3 69 "FeedbackQueuesModel" "thrown" "I", .fieldLink RX3 19 "FeedbackQueuesModel" "bursts" "[I", .fieldLink RX3 22 "FeedbackQueuesModel" "ticks" "[I", .methodLink RX3 91 yX3_noProcess, .instanceMethod yX3_noProcess, .selects RX3 yX3_noProcess yX3_noProcess, .initialized RX3, .code yX3_noProcess cX3_noProcess 2 (some .boolean), .fieldLink RX3 76 "FeedbackQueuesModel" "processes" "I"] ++ wsX30)
def wsX3_toEnd : List Cond := .code yX3_toEnd cX3_toEnd 3 none :: ([.fieldLink RX3 53 "FeedbackQueuesModel" "queue" "[I", .fieldLink RX3 56 "FeedbackQueuesModel" "size" "[I", .fieldLink RX3 25 "FeedbackQueuesModel" "state" "[I"] ++ wsX30)
def wsX3_toFront : List Cond := .code yX3_toFront cX3_toFront 4 none :: ([.fieldLink RX3 56 "FeedbackQueuesModel" "size" "[I", .fieldLink RX3 53 "FeedbackQueuesModel" "queue" "[I", .fieldLink RX3 25 "FeedbackQueuesModel" "state" "[I"] ++ wsX30)
def wsX3_takeFirst : List Cond := .code yX3_takeFirst cX3_takeFirst 4 (some .int) :: ([.fieldLink RX3 53 "FeedbackQueuesModel" "queue" "[I", .fieldLink RX3 56 "FeedbackQueuesModel" "size" "[I"] ++ wsX30)
def wsX3_allUp : List Cond := .code yX3_allUp cX3_allUp 2 none :: ([.fieldLink RX3 59 "FeedbackQueuesModel" "all" "[I", .fieldLink RX3 73 "FeedbackQueuesModel" "levels" "I", .fieldLink RX3 56 "FeedbackQueuesModel" "size" "[I", .fieldLink RX3 76 "FeedbackQueuesModel" "processes" "I", .fieldLink RX3 25 "FeedbackQueuesModel" "state" "[I", .fieldLink RX3 28 "FeedbackQueuesModel" "level" "[I", .fieldLink RX3 40 "FeedbackQueuesModel" "share" "[I", .fieldLink RX3 13 "FeedbackQueuesModel" "shares" "[I", .fieldLink RX3 43 "FeedbackQueuesModel" "kept" "[Z", .fieldLink RX3 37 "FeedbackQueuesModel" "quantum" "[I", .fieldLink RX3 7 "FeedbackQueuesModel" "quanta" "[I", .fieldLink RX3 85 "FeedbackQueuesModel" "running" "I", .methodLink RX3 95 yX3_takeFirst, .instanceMethod yX3_takeFirst, .selects RX3 yX3_takeFirst yX3_takeFirst, .initialized RX3, .code yX3_takeFirst cX3_takeFirst 4 (some .int), .fieldLink RX3 53 "FeedbackQueuesModel" "queue" "[I", .methodLink RX3 99 yX3_toEnd, .instanceMethod yX3_toEnd, .selects RX3 yX3_toEnd yX3_toEnd, .code yX3_toEnd cX3_toEnd 3 none] ++ wsX30)
def wsX3_end : List Cond := .code yX3_end cX3_end 3 none :: ([.fieldLink RX3 25 "FeedbackQueuesModel" "state" "[I", .fieldLink RX3 50 "FeedbackQueuesModel" "counts" "[I", .fieldLink RX3 59 "FeedbackQueuesModel" "all" "[I"] ++ wsX30)
def wsX3_come : List Cond := .code yX3_come cX3_come 3 none :: ([.fieldLink RX3 76 "FeedbackQueuesModel" "processes" "I", .fieldLink RX3 16 "FeedbackQueuesModel" "arrivals" "[I", .fieldLink RX3 19 "FeedbackQueuesModel" "bursts" "[I", .fieldLink RX3 28 "FeedbackQueuesModel" "level" "[I", .fieldLink RX3 40 "FeedbackQueuesModel" "share" "[I", .fieldLink RX3 13 "FeedbackQueuesModel" "shares" "[I", .fieldLink RX3 34 "FeedbackQueuesModel" "left" "[I", .fieldLink RX3 22 "FeedbackQueuesModel" "ticks" "[I", .methodLink RX3 103 yX3_end, .instanceMethod yX3_end, .selects RX3 yX3_end yX3_end, .initialized RX3, .code yX3_end cX3_end 3 none, .fieldLink RX3 25 "FeedbackQueuesModel" "state" "[I", .fieldLink RX3 50 "FeedbackQueuesModel" "counts" "[I", .fieldLink RX3 59 "FeedbackQueuesModel" "all" "[I", .methodLink RX3 99 yX3_toEnd, .instanceMethod yX3_toEnd, .selects RX3 yX3_toEnd yX3_toEnd, .code yX3_toEnd cX3_toEnd 3 none, .fieldLink RX3 53 "FeedbackQueuesModel" "queue" "[I", .fieldLink RX3 56 "FeedbackQueuesModel" "size" "[I"] ++ wsX30)
def wsX3_comeBack : List Cond := .code yX3_comeBack cX3_comeBack 3 none :: ([.fieldLink RX3 76 "FeedbackQueuesModel" "processes" "I", .fieldLink RX3 25 "FeedbackQueuesModel" "state" "[I", .fieldLink RX3 47 "FeedbackQueuesModel" "until" "[I", .fieldLink RX3 31 "FeedbackQueuesModel" "at" "[I", .fieldLink RX3 19 "FeedbackQueuesModel" "bursts" "[I", .fieldLink RX3 34 "FeedbackQueuesModel" "left" "[I", .fieldLink RX3 22 "FeedbackQueuesModel" "ticks" "[I", .fieldLink RX3 28 "FeedbackQueuesModel" "level" "[I", .methodLink RX3 103 yX3_end, .instanceMethod yX3_end, .selects RX3 yX3_end yX3_end, .initialized RX3, .code yX3_end cX3_end 3 none, .fieldLink RX3 50 "FeedbackQueuesModel" "counts" "[I", .fieldLink RX3 59 "FeedbackQueuesModel" "all" "[I", .methodLink RX3 99 yX3_toEnd, .instanceMethod yX3_toEnd, .selects RX3 yX3_toEnd yX3_toEnd, .code yX3_toEnd cX3_toEnd 3 none, .fieldLink RX3 53 "FeedbackQueuesModel" "queue" "[I", .fieldLink RX3 56 "FeedbackQueuesModel" "size" "[I"] ++ wsX30)
def wsX3_firstLevel : List Cond := .code yX3_firstLevel cX3_firstLevel 2 (some .int) :: ([.fieldLink RX3 73 "FeedbackQueuesModel" "levels" "I", .fieldLink RX3 56 "FeedbackQueuesModel" "size" "[I"] ++ wsX30)
def wsX3_choose_r1 : List Cond := [Cond.fieldLink RX3 85 "FeedbackQueuesModel" "running" "I", Cond.fieldLink RX3 28 "FeedbackQueuesModel" "level" "[I", Cond.fieldLink RX3 43 "FeedbackQueuesModel" "kept" "[Z", Cond.fieldLink RX3 50 "FeedbackQueuesModel" "counts" "[I", Cond.fieldLink RX3 25 "FeedbackQueuesModel" "state" "[I", Cond.fieldLink RX3 37 "FeedbackQueuesModel" "quantum" "[I", Cond.fieldLink RX3 7 "FeedbackQueuesModel" "quanta" "[I", Cond.fieldLink RX3 59 "FeedbackQueuesModel" "all" "[I", Cond.fieldLink RX3 62 "FeedbackQueuesModel" "switches" "[I", Cond.methodLink RX3 106 yX3_firstLevel, Cond.instanceMethod yX3_firstLevel, Cond.selects RX3 yX3_firstLevel yX3_firstLevel, Cond.initialized RX3, Cond.code yX3_firstLevel cX3_firstLevel 2 (some .int), Cond.fieldLink RX3 73 "FeedbackQueuesModel" "levels" "I", Cond.fieldLink RX3 56 "FeedbackQueuesModel" "size" "[I", Cond.methodLink RX3 110 yX3_toFront, Cond.instanceMethod yX3_toFront, Cond.selects RX3 yX3_toFront yX3_toFront, Cond.code yX3_toFront cX3_toFront 4 none, Cond.fieldLink RX3 53 "FeedbackQueuesModel" "queue" "[I", Cond.methodLink RX3 95 yX3_takeFirst, Cond.instanceMethod yX3_takeFirst, Cond.selects RX3 yX3_takeFirst yX3_takeFirst]
def wsX3_choose_r2 : List Cond := [Cond.code yX3_takeFirst cX3_takeFirst 4 (some .int)]
def wsX3_choose : List Cond := .code yX3_choose cX3_choose 4 none :: ((wsX3_choose_r1 ++ wsX3_choose_r2) ++ wsX30)
def wsX3_work_r1 : List Cond := [Cond.fieldLink RX3 85 "FeedbackQueuesModel" "running" "I", Cond.fieldLink RX3 50 "FeedbackQueuesModel" "counts" "[I", Cond.fieldLink RX3 34 "FeedbackQueuesModel" "left" "[I", Cond.fieldLink RX3 37 "FeedbackQueuesModel" "quantum" "[I", Cond.fieldLink RX3 40 "FeedbackQueuesModel" "share" "[I", Cond.fieldLink RX3 31 "FeedbackQueuesModel" "at" "[I", Cond.fieldLink RX3 19 "FeedbackQueuesModel" "bursts" "[I", Cond.fieldLink RX3 25 "FeedbackQueuesModel" "state" "[I", Cond.fieldLink RX3 47 "FeedbackQueuesModel" "until" "[I", Cond.fieldLink RX3 22 "FeedbackQueuesModel" "ticks" "[I", Cond.fieldLink RX3 28 "FeedbackQueuesModel" "level" "[I", Cond.fieldLink RX3 73 "FeedbackQueuesModel" "levels" "I", Cond.fieldLink RX3 13 "FeedbackQueuesModel" "shares" "[I", Cond.methodLink RX3 103 yX3_end, Cond.instanceMethod yX3_end, Cond.selects RX3 yX3_end yX3_end, Cond.initialized RX3, Cond.code yX3_end cX3_end 3 none, Cond.fieldLink RX3 59 "FeedbackQueuesModel" "all" "[I", Cond.methodLink RX3 99 yX3_toEnd, Cond.instanceMethod yX3_toEnd, Cond.selects RX3 yX3_toEnd yX3_toEnd, Cond.code yX3_toEnd cX3_toEnd 3 none, Cond.fieldLink RX3 53 "FeedbackQueuesModel" "queue" "[I"]
def wsX3_work_r2 : List Cond := [Cond.fieldLink RX3 56 "FeedbackQueuesModel" "size" "[I"]
def wsX3_work : List Cond := .code yX3_work cX3_work 3 none :: ((wsX3_work_r1 ++ wsX3_work_r2) ++ wsX30)
def wsX3_count : List Cond := .code yX3_count cX3_count 2 none :: ([.fieldLink RX3 76 "FeedbackQueuesModel" "processes" "I", .fieldLink RX3 25 "FeedbackQueuesModel" "state" "[I", .fieldLink RX3 50 "FeedbackQueuesModel" "counts" "[I"] ++ wsX30)
def wsX3_run_r1 : List Cond := [Cond.fieldLink RX3 82 "FeedbackQueuesModel" "time" "I", Cond.constant RX3 113 (100000), Cond.fieldLink RX3 69 "FeedbackQueuesModel" "thrown" "I", Cond.fieldLink RX3 88 "FeedbackQueuesModel" "period" "I", Cond.fieldLink RX3 85 "FeedbackQueuesModel" "running" "I", Cond.fieldLink RX3 59 "FeedbackQueuesModel" "all" "[I", Cond.methodLink RX3 114 yX3_allUp, Cond.instanceMethod yX3_allUp, Cond.selects RX3 yX3_allUp yX3_allUp, Cond.initialized RX3, Cond.code yX3_allUp cX3_allUp 2 none, Cond.fieldLink RX3 73 "FeedbackQueuesModel" "levels" "I", Cond.fieldLink RX3 56 "FeedbackQueuesModel" "size" "[I", Cond.fieldLink RX3 76 "FeedbackQueuesModel" "processes" "I", Cond.fieldLink RX3 25 "FeedbackQueuesModel" "state" "[I", Cond.fieldLink RX3 28 "FeedbackQueuesModel" "level" "[I", Cond.fieldLink RX3 40 "FeedbackQueuesModel" "share" "[I", Cond.fieldLink RX3 13 "FeedbackQueuesModel" "shares" "[I", Cond.fieldLink RX3 43 "FeedbackQueuesModel" "kept" "[Z", Cond.fieldLink RX3 37 "FeedbackQueuesModel" "quantum" "[I", Cond.fieldLink RX3 7 "FeedbackQueuesModel" "quanta" "[I", Cond.methodLink RX3 95 yX3_takeFirst, Cond.instanceMethod yX3_takeFirst, Cond.selects RX3 yX3_takeFirst yX3_takeFirst]
def wsX3_run_r2 : List Cond := [Cond.code yX3_takeFirst cX3_takeFirst 4 (some .int), Cond.fieldLink RX3 53 "FeedbackQueuesModel" "queue" "[I", Cond.methodLink RX3 99 yX3_toEnd, Cond.instanceMethod yX3_toEnd, Cond.selects RX3 yX3_toEnd yX3_toEnd, Cond.code yX3_toEnd cX3_toEnd 3 none, Cond.methodLink RX3 117 yX3_come, Cond.instanceMethod yX3_come, Cond.selects RX3 yX3_come yX3_come, Cond.code yX3_come cX3_come 3 none, Cond.fieldLink RX3 16 "FeedbackQueuesModel" "arrivals" "[I", Cond.fieldLink RX3 19 "FeedbackQueuesModel" "bursts" "[I", Cond.fieldLink RX3 34 "FeedbackQueuesModel" "left" "[I", Cond.fieldLink RX3 22 "FeedbackQueuesModel" "ticks" "[I", Cond.methodLink RX3 103 yX3_end, Cond.instanceMethod yX3_end, Cond.selects RX3 yX3_end yX3_end, Cond.code yX3_end cX3_end 3 none, Cond.fieldLink RX3 50 "FeedbackQueuesModel" "counts" "[I", Cond.methodLink RX3 120 yX3_comeBack, Cond.instanceMethod yX3_comeBack, Cond.selects RX3 yX3_comeBack yX3_comeBack, Cond.code yX3_comeBack cX3_comeBack 3 none, Cond.fieldLink RX3 47 "FeedbackQueuesModel" "until" "[I"]
def wsX3_run_r3 : List Cond := [Cond.fieldLink RX3 31 "FeedbackQueuesModel" "at" "[I", Cond.methodLink RX3 123 yX3_choose, Cond.instanceMethod yX3_choose, Cond.selects RX3 yX3_choose yX3_choose, Cond.code yX3_choose cX3_choose 4 none, Cond.fieldLink RX3 62 "FeedbackQueuesModel" "switches" "[I", Cond.methodLink RX3 106 yX3_firstLevel, Cond.instanceMethod yX3_firstLevel, Cond.selects RX3 yX3_firstLevel yX3_firstLevel, Cond.code yX3_firstLevel cX3_firstLevel 2 (some .int), Cond.methodLink RX3 110 yX3_toFront, Cond.instanceMethod yX3_toFront, Cond.selects RX3 yX3_toFront yX3_toFront, Cond.code yX3_toFront cX3_toFront 4 none, Cond.methodLink RX3 126 yX3_count, Cond.instanceMethod yX3_count, Cond.selects RX3 yX3_count yX3_count, Cond.code yX3_count cX3_count 2 none, Cond.methodLink RX3 129 yX3_work, Cond.instanceMethod yX3_work, Cond.selects RX3 yX3_work yX3_work, Cond.code yX3_work cX3_work 3 none]
def wsX3_run : List Cond := .code yX3_run cX3_run 5 (some .int) :: ((wsX3_run_r1 ++ (wsX3_run_r2 ++ wsX3_run_r3)) ++ wsX30)
def wsX3_restart : List Cond := .code yX3_restart cX3_restart 1 none :: ([.fieldLink RX3 69 "FeedbackQueuesModel" "thrown" "I", .methodLink RX3 79 yX3_begin, .instanceMethod yX3_begin, .selects RX3 yX3_begin yX3_begin, .initialized RX3, .code yX3_begin cX3_begin 3 none, .fieldLink RX3 82 "FeedbackQueuesModel" "time" "I", .fieldLink RX3 85 "FeedbackQueuesModel" "running" "I", .fieldLink RX3 59 "FeedbackQueuesModel" "all" "[I", .fieldLink RX3 56 "FeedbackQueuesModel" "size" "[I", .fieldLink RX3 25 "FeedbackQueuesModel" "state" "[I", .fieldLink RX3 28 "FeedbackQueuesModel" "level" "[I", .fieldLink RX3 31 "FeedbackQueuesModel" "at" "[I", .fieldLink RX3 43 "FeedbackQueuesModel" "kept" "[Z", .fieldLink RX3 50 "FeedbackQueuesModel" "counts" "[I"] ++ wsX30)
def wsX3_time : List Cond := .code yX3_time cX3_time 1 (some .int) :: ([.fieldLink RX3 69 "FeedbackQueuesModel" "thrown" "I", .fieldLink RX3 82 "FeedbackQueuesModel" "time" "I"] ++ wsX30)
def wsX3_told : List Cond := .code yX3_told cX3_told 3 (some .int) :: ([.fieldLink RX3 69 "FeedbackQueuesModel" "thrown" "I", .fieldLink RX3 25 "FeedbackQueuesModel" "state" "[I", .fieldLink RX3 28 "FeedbackQueuesModel" "level" "[I", .fieldLink RX3 50 "FeedbackQueuesModel" "counts" "[I", .methodLink RX3 91 yX3_noProcess, .instanceMethod yX3_noProcess, .selects RX3 yX3_noProcess yX3_noProcess, .initialized RX3, .code yX3_noProcess cX3_noProcess 2 (some .boolean), .fieldLink RX3 76 "FeedbackQueuesModel" "processes" "I"] ++ wsX30)
def wsX3_running : List Cond := .code yX3_running cX3_running 1 (some .int) :: ([.fieldLink RX3 69 "FeedbackQueuesModel" "thrown" "I", .fieldLink RX3 85 "FeedbackQueuesModel" "running" "I"] ++ wsX30)
def wsX3_queued : List Cond := .code yX3_queued cX3_queued 3 (some .int) :: ([.fieldLink RX3 73 "FeedbackQueuesModel" "levels" "I", .fieldLink RX3 69 "FeedbackQueuesModel" "thrown" "I", .fieldLink RX3 56 "FeedbackQueuesModel" "size" "[I", .fieldLink RX3 53 "FeedbackQueuesModel" "queue" "[I"] ++ wsX30)
def wsX3_all : List Cond := .code yX3_all cX3_all 2 (some .int) :: ([.fieldLink RX3 69 "FeedbackQueuesModel" "thrown" "I", .fieldLink RX3 59 "FeedbackQueuesModel" "all" "[I"] ++ wsX30)
def wsX3_switched : List Cond := .code yX3_switched cX3_switched 2 (some .int) :: ([.fieldLink RX3 59 "FeedbackQueuesModel" "all" "[I", .fieldLink RX3 69 "FeedbackQueuesModel" "thrown" "I", .fieldLink RX3 62 "FeedbackQueuesModel" "switches" "[I"] ++ wsX30)
def wsJ9_min_7cf53 : List Cond := .code yJ9_min_7cf53 cJ9_min_7cf53 2 (some .int) :: ([])
def wsL_levels_r1 : List Cond := [Cond.classLink RL 13 "java/lang/IllegalArgumentException", Cond.methodLink RL 7 yX2_levels, Cond.instanceMethod yX2_levels, Cond.selects RX2 yX2_levels yX2_levels, Cond.initialized RX2, Cond.code yX2_levels cX2_levels 3 none, Cond.classLink RX2 58 "java/lang/IllegalArgumentException", Cond.initialized "java/lang/IllegalArgumentException", Cond.fieldLink RX2 25 "FeedbackQueues" "levelCount" "I", Cond.fieldLink RX2 11 "FeedbackQueues" "levelRows" "[LFeedbackQueues$Level;", Cond.fieldLink RX2 29 "FeedbackQueues" "taskCount" "I", Cond.methodLink RX2 71 yX2_startOver, Cond.instanceMethod yX2_startOver, Cond.selects RX2 yX2_startOver yX2_startOver, Cond.code yX2_startOver cX2_startOver 2 none, Cond.fieldLink RX2 35 "FeedbackQueues" "now" "I", Cond.fieldLink RX2 38 "FeedbackQueues" "onProcessor" "LFeedbackQueues$Task;", Cond.fieldLink RX2 42 "FeedbackQueues" "switchCount" "I", Cond.fieldLink RX2 45 "FeedbackQueues" "idleCount" "I", Cond.fieldLink RX2 48 "FeedbackQueues" "comeUpCount" "I", Cond.fieldLink RX2 51 "FeedbackQueues" "endedCount" "I", Cond.fieldLink RX2 17 "FeedbackQueues" "tasks" "[LFeedbackQueues$Task;", Cond.instanceMethod yX0_clear, Cond.initialized RX0]
def wsL_levels_r2 : List Cond := [Cond.selects RX0 yX0_clear yX0_clear, Cond.code yX0_clear cX0_clear 1 none, Cond.fieldLink RX0 22 "FeedbackQueues$Level" "size" "I", Cond.instanceMethod yX1_startOver, Cond.initialized RX1, Cond.selects RX1 yX1_startOver yX1_startOver, Cond.code yX1_startOver cX1_startOver 1 none, Cond.fieldLink RX1 22 "FeedbackQueues$Task" "state" "I", Cond.fieldLink RX1 25 "FeedbackQueues$Task" "level" "I", Cond.fieldLink RX1 28 "FeedbackQueues$Task" "burstsBegun" "I", Cond.fieldLink RX1 31 "FeedbackQueues$Task" "burstLeft" "I", Cond.fieldLink RX1 34 "FeedbackQueues$Task" "quantumLeft" "I", Cond.fieldLink RX1 37 "FeedbackQueues$Task" "shareLeft" "I", Cond.fieldLink RX1 40 "FeedbackQueues$Task" "keepsQuantum" "Z", Cond.fieldLink RX1 44 "FeedbackQueues$Task" "ticksRun" "I", Cond.fieldLink RX1 47 "FeedbackQueues$Task" "ticksReady" "I", Cond.fieldLink RX1 50 "FeedbackQueues$Task" "ticksBlocked" "I", Cond.fieldLink RX1 53 "FeedbackQueues$Task" "firstRun" "I", Cond.fieldLink RX1 56 "FeedbackQueues$Task" "endedAt" "I", Cond.fieldLink RX1 59 "FeedbackQueues$Task" "timesSwitchedTo" "I", Cond.fieldLink RX1 62 "FeedbackQueues$Task" "timesDown" "I", Cond.fieldLink RX1 65 "FeedbackQueues$Task" "timesToFront" "I"]
def wsL_levels : List Cond := .codeWith yL_levels cL_levels 3 (some .int) [(0, 5, 8, 13)] :: ((wsL_levels_r1 ++ wsL_levels_r2) ++ wsX20 ++ wsX00 ++ wsX10 ++ (vx_atS RX2 62 "java/lang/IllegalArgumentException" ["java/lang/RuntimeException", "java/lang/Exception"]).filter goodWord)
def wsL_level : List Cond := .codeWith yL_level cL_level 5 (some .int) [(0, 7, 10, 19), (0, 7, 14, 13), (0, 7, 18, 21)] :: ([.classLink RL 19 "java/lang/IndexOutOfBoundsException", .classLink RL 13 "java/lang/IllegalArgumentException", .classLink RL 21 "java/lang/IllegalStateException", .methodLink RL 15 yX2_level, .instanceMethod yX2_level, .selects RX2 yX2_level yX2_level, .initialized RX2, .code yX2_level cX2_level 4 none, .classLink RX2 78 "java/lang/IndexOutOfBoundsException", .initialized "java/lang/IndexOutOfBoundsException", .classLink RX2 58 "java/lang/IllegalArgumentException", .initialized "java/lang/IllegalArgumentException", .classLink RX2 87 "java/lang/IllegalStateException", .initialized "java/lang/IllegalStateException", .fieldLink RX2 35 "FeedbackQueues" "now" "I", .fieldLink RX2 11 "FeedbackQueues" "levelRows" "[LFeedbackQueues$Level;", .methodLink RX2 74 yX2_isLevel, .instanceMethod yX2_isLevel, .selects RX2 yX2_isLevel yX2_isLevel, .code yX2_isLevel cX2_isLevel 2 (some .boolean), .fieldLink RX2 25 "FeedbackQueues" "levelCount" "I"] ++ wsX20 ++ wsX00 ++ (vx_atS RX2 82 "java/lang/IndexOutOfBoundsException" ["java/lang/RuntimeException", "java/lang/Exception"]).filter goodWord ++ (vx_atS RX2 62 "java/lang/IllegalArgumentException" ["java/lang/RuntimeException", "java/lang/Exception"]).filter goodWord ++ (vx_atS RX2 91 "java/lang/IllegalStateException" ["java/lang/RuntimeException", "java/lang/Exception"]).filter goodWord)
def wsL_period : List Cond := .codeWith yL_period cL_period 3 (some .int) [(0, 5, 8, 13), (0, 5, 11, 21)] :: ([.classLink RL 13 "java/lang/IllegalArgumentException", .classLink RL 21 "java/lang/IllegalStateException", .methodLink RL 23 yX2_period, .instanceMethod yX2_period, .selects RX2 yX2_period yX2_period, .initialized RX2, .code yX2_period cX2_period 2 none, .classLink RX2 58 "java/lang/IllegalArgumentException", .initialized "java/lang/IllegalArgumentException", .classLink RX2 87 "java/lang/IllegalStateException", .initialized "java/lang/IllegalStateException", .fieldLink RX2 35 "FeedbackQueues" "now" "I", .fieldLink RX2 32 "FeedbackQueues" "periodTicks" "I"] ++ wsX20 ++ (vx_atS RX2 62 "java/lang/IllegalArgumentException" ["java/lang/RuntimeException", "java/lang/Exception"]).filter goodWord ++ (vx_atS RX2 91 "java/lang/IllegalStateException" ["java/lang/RuntimeException", "java/lang/Exception"]).filter goodWord)
def wsL_process : List Cond := .codeWith yL_process cL_process 4 (some .int) [(0, 9, 12, 13), (0, 9, 15, 21)] :: ([.classLink RL 13 "java/lang/IllegalArgumentException", .classLink RL 21 "java/lang/IllegalStateException", .methodLink RL 26 yX2_process, .instanceMethod yX2_process, .selects RX2 yX2_process yX2_process, .initialized RX2, .code yX2_process cX2_process 2 (some .int), .classLink RX2 58 "java/lang/IllegalArgumentException", .initialized "java/lang/IllegalArgumentException", .classLink RX2 87 "java/lang/IllegalStateException", .initialized "java/lang/IllegalStateException", .fieldLink RX2 35 "FeedbackQueues" "now" "I", .fieldLink RX2 29 "FeedbackQueues" "taskCount" "I", .fieldLink RX2 17 "FeedbackQueues" "tasks" "[LFeedbackQueues$Task;", .instanceMethod yX1_tellArrival, .initialized RX1, .selects RX1 yX1_tellArrival yX1_tellArrival, .code yX1_tellArrival cX1_tellArrival 2 none, .fieldLink RX1 9 "FeedbackQueues$Task" "arrival" "I", .fieldLink RX1 19 "FeedbackQueues$Task" "burstCount" "I"] ++ wsX20 ++ wsX10 ++ (vx_atS RX2 62 "java/lang/IllegalArgumentException" ["java/lang/RuntimeException", "java/lang/Exception"]).filter goodWord ++ (vx_atS RX2 91 "java/lang/IllegalStateException" ["java/lang/RuntimeException", "java/lang/Exception"]).filter goodWord)
def wsL_burst_r1 : List Cond := [Cond.classLink RL 19 "java/lang/IndexOutOfBoundsException", Cond.classLink RL 13 "java/lang/IllegalArgumentException", Cond.classLink RL 21 "java/lang/IllegalStateException", Cond.methodLink RL 30 yX2_burst, Cond.instanceMethod yX2_burst, Cond.selects RX2 yX2_burst yX2_burst, Cond.initialized RX2, Cond.code yX2_burst cX2_burst 3 (some .int), Cond.classLink RX2 78 "java/lang/IndexOutOfBoundsException", Cond.initialized "java/lang/IndexOutOfBoundsException", Cond.classLink RX2 58 "java/lang/IllegalArgumentException", Cond.initialized "java/lang/IllegalArgumentException", Cond.classLink RX2 87 "java/lang/IllegalStateException", Cond.initialized "java/lang/IllegalStateException", Cond.fieldLink RX2 35 "FeedbackQueues" "now" "I", Cond.fieldLink RX2 17 "FeedbackQueues" "tasks" "[LFeedbackQueues$Task;", Cond.methodLink RX2 99 yX2_isTask, Cond.instanceMethod yX2_isTask, Cond.selects RX2 yX2_isTask yX2_isTask, Cond.code yX2_isTask cX2_isTask 2 (some .boolean), Cond.fieldLink RX2 29 "FeedbackQueues" "taskCount" "I", Cond.instanceMethod yX1_tellBurst, Cond.initialized RX1, Cond.selects RX1 yX1_tellBurst yX1_tellBurst]
def wsL_burst_r2 : List Cond := [Cond.code yX1_tellBurst cX1_tellBurst 2 (some .int), Cond.fieldLink RX1 19 "FeedbackQueues$Task" "burstCount" "I", Cond.fieldLink RX1 15 "FeedbackQueues$Task" "bursts" "[I"]
def wsL_burst : List Cond := .codeWith yL_burst cL_burst 5 (some .int) [(0, 10, 13, 19), (0, 10, 17, 13), (0, 10, 21, 21)] :: ((wsL_burst_r1 ++ wsL_burst_r2) ++ wsX20 ++ wsX10 ++ (vx_atS RX2 82 "java/lang/IndexOutOfBoundsException" ["java/lang/RuntimeException", "java/lang/Exception"]).filter goodWord ++ (vx_atS RX2 62 "java/lang/IllegalArgumentException" ["java/lang/RuntimeException", "java/lang/Exception"]).filter goodWord ++ (vx_atS RX2 91 "java/lang/IllegalStateException" ["java/lang/RuntimeException", "java/lang/Exception"]).filter goodWord)
def wsL_run_r1 : List Cond := [Cond.classLink RL 13 "java/lang/IllegalArgumentException", Cond.methodLink RL 34 yX2_run, Cond.instanceMethod yX2_run, Cond.selects RX2 yX2_run yX2_run, Cond.initialized RX2, Cond.code yX2_run cX2_run 4 (some .int), Cond.classLink RX2 58 "java/lang/IllegalArgumentException", Cond.initialized "java/lang/IllegalArgumentException", Cond.fieldLink RX2 35 "FeedbackQueues" "now" "I", Cond.constant RX2 112 (100000), Cond.fieldLink RX2 45 "FeedbackQueues" "idleCount" "I", Cond.methodLink RX2 115 yX2_doTick, Cond.instanceMethod yX2_doTick, Cond.selects RX2 yX2_doTick yX2_doTick, Cond.code yX2_doTick cX2_doTick 1 none, Cond.fieldLink RX2 32 "FeedbackQueues" "periodTicks" "I", Cond.fieldLink RX2 38 "FeedbackQueues" "onProcessor" "LFeedbackQueues$Task;", Cond.methodLink RX2 164 yX2_bringAllUp, Cond.instanceMethod yX2_bringAllUp, Cond.selects RX2 yX2_bringAllUp yX2_bringAllUp, Cond.code yX2_bringAllUp cX2_bringAllUp 3 none, Cond.fieldLink RX2 48 "FeedbackQueues" "comeUpCount" "I", Cond.fieldLink RX2 11 "FeedbackQueues" "levelRows" "[LFeedbackQueues$Level;", Cond.fieldLink RX2 29 "FeedbackQueues" "taskCount" "I"]
def wsL_run_r2 : List Cond := [Cond.fieldLink RX2 17 "FeedbackQueues" "tasks" "[LFeedbackQueues$Task;", Cond.fieldLink RX2 25 "FeedbackQueues" "levelCount" "I", Cond.instanceMethod yX1_comeUp, Cond.initialized RX1, Cond.selects RX1 yX1_comeUp yX1_comeUp, Cond.code yX1_comeUp cX1_comeUp 3 none, Cond.fieldLink RX1 25 "FeedbackQueues$Task" "level" "I", Cond.fieldLink RX1 37 "FeedbackQueues$Task" "shareLeft" "I", Cond.fieldLink RX1 22 "FeedbackQueues$Task" "state" "I", Cond.fieldLink RX1 34 "FeedbackQueues$Task" "quantumLeft" "I", Cond.methodLink RX1 71 Lib.Math.min.name, Cond.static Lib.Math.min.name, Cond.initialized "java/lang/Math", Cond.code Lib.Math.min.name Lib.Math.min.code 2 (some .int), Cond.instanceMethod yX0_addAllOf, Cond.initialized RX0, Cond.selects RX0 yX0_addAllOf yX0_addAllOf, Cond.code yX0_addAllOf cX0_addAllOf 3 none, Cond.fieldLink RX0 22 "FeedbackQueues$Level" "size" "I", Cond.fieldLink RX0 18 "FeedbackQueues$Level" "queue" "[I", Cond.methodLink RX0 25 yX0_addLast, Cond.instanceMethod yX0_addLast, Cond.selects RX0 yX0_addLast yX0_addLast, Cond.code yX0_addLast cX0_addLast 2 none]
def wsL_run_r3 : List Cond := [Cond.instanceMethod yX0_clear, Cond.selects RX0 yX0_clear yX0_clear, Cond.code yX0_clear cX0_clear 1 none, Cond.methodLink RX2 167 yX2_letArrive, Cond.instanceMethod yX2_letArrive, Cond.selects RX2 yX2_letArrive yX2_letArrive, Cond.code yX2_letArrive cX2_letArrive 3 none, Cond.methodLink RX2 200 yX2_goOnOrEnd, Cond.instanceMethod yX2_goOnOrEnd, Cond.selects RX2 yX2_goOnOrEnd yX2_goOnOrEnd, Cond.code yX2_goOnOrEnd cX2_goOnOrEnd 2 none, Cond.instanceMethod yX1_beginBurst, Cond.selects RX1 yX1_beginBurst yX1_beginBurst, Cond.code yX1_beginBurst cX1_beginBurst 1 (some .boolean), Cond.fieldLink RX1 28 "FeedbackQueues$Task" "burstsBegun" "I", Cond.fieldLink RX1 19 "FeedbackQueues$Task" "burstCount" "I", Cond.fieldLink RX1 15 "FeedbackQueues$Task" "bursts" "[I", Cond.fieldLink RX1 31 "FeedbackQueues$Task" "burstLeft" "I", Cond.methodLink RX2 210 yX2_standAtEnd, Cond.instanceMethod yX2_standAtEnd, Cond.selects RX2 yX2_standAtEnd yX2_standAtEnd, Cond.code yX2_standAtEnd cX2_standAtEnd 2 none, Cond.methodLink RX2 213 yX2_endTask, Cond.instanceMethod yX2_endTask]
def wsL_run_r4 : List Cond := [Cond.selects RX2 yX2_endTask yX2_endTask, Cond.code yX2_endTask cX2_endTask 3 none, Cond.fieldLink RX2 51 "FeedbackQueues" "endedCount" "I", Cond.methodLink RX2 170 yX2_letComeBack, Cond.instanceMethod yX2_letComeBack, Cond.selects RX2 yX2_letComeBack yX2_letComeBack, Cond.code yX2_letComeBack cX2_letComeBack 3 none, Cond.methodLink RX2 173 yX2_makeWay, Cond.instanceMethod yX2_makeWay, Cond.selects RX2 yX2_makeWay yX2_makeWay, Cond.code yX2_makeWay cX2_makeWay 1 none, Cond.methodLink RX2 217 yX2_isOneReadyAbove, Cond.instanceMethod yX2_isOneReadyAbove, Cond.selects RX2 yX2_isOneReadyAbove yX2_isOneReadyAbove, Cond.code yX2_isOneReadyAbove cX2_isOneReadyAbove 3 (some .boolean), Cond.instanceMethod yX0_addFirst, Cond.selects RX0 yX0_addFirst yX0_addFirst, Cond.code yX0_addFirst cX0_addFirst 3 none, Cond.methodLink RX2 176 yX2_switchToFirst, Cond.instanceMethod yX2_switchToFirst, Cond.selects RX2 yX2_switchToFirst yX2_switchToFirst, Cond.code yX2_switchToFirst cX2_switchToFirst 3 none, Cond.instanceMethod yX0_takeFirst, Cond.selects RX0 yX0_takeFirst yX0_takeFirst]
def wsL_run_r5 : List Cond := [Cond.code yX0_takeFirst cX0_takeFirst 3 (some .int), Cond.methodLink RX2 99 yX2_isTask, Cond.instanceMethod yX2_isTask, Cond.selects RX2 yX2_isTask yX2_isTask, Cond.code yX2_isTask cX2_isTask 2 (some .boolean), Cond.methodLink RX2 234 yX2_switchTo, Cond.instanceMethod yX2_switchTo, Cond.selects RX2 yX2_switchTo yX2_switchTo, Cond.code yX2_switchTo cX2_switchTo 2 none, Cond.fieldLink RX2 42 "FeedbackQueues" "switchCount" "I", Cond.fieldLink RX2 21 "FeedbackQueues" "switchesKept" "[I", Cond.instanceMethod yX1_beginRunning, Cond.selects RX1 yX1_beginRunning yX1_beginRunning, Cond.code yX1_beginRunning cX1_beginRunning 3 none, Cond.fieldLink RX1 40 "FeedbackQueues$Task" "keepsQuantum" "Z", Cond.fieldLink RX1 59 "FeedbackQueues$Task" "timesSwitchedTo" "I", Cond.fieldLink RX1 53 "FeedbackQueues$Task" "firstRun" "I", Cond.methodLink RX2 179 yX2_countWaiting, Cond.instanceMethod yX2_countWaiting, Cond.selects RX2 yX2_countWaiting yX2_countWaiting, Cond.code yX2_countWaiting cX2_countWaiting 3 none, Cond.methodLink RX2 182 yX2_useTick, Cond.instanceMethod yX2_useTick, Cond.selects RX2 yX2_useTick yX2_useTick]
def wsL_run_r6 : List Cond := [Cond.code yX2_useTick cX2_useTick 2 none, Cond.methodLink RX2 243 yX2_blockOrEnd, Cond.instanceMethod yX2_blockOrEnd, Cond.selects RX2 yX2_blockOrEnd yX2_blockOrEnd, Cond.code yX2_blockOrEnd cX2_blockOrEnd 2 none, Cond.methodLink RX2 246 yX2_sendDown, Cond.instanceMethod yX2_sendDown, Cond.selects RX2 yX2_sendDown yX2_sendDown, Cond.code yX2_sendDown cX2_sendDown 2 none]
def wsL_run : List Cond := .codeWith yL_run cL_run 4 (some .int) [(0, 9, 12, 13)] :: ((wsL_run_r1 ++ (wsL_run_r2 ++ (wsL_run_r3 ++ (wsL_run_r4 ++ (wsL_run_r5 ++ wsL_run_r6))))) ++ wsX20 ++ wsX10 ++ wsX00 ++ (vx_atS RX2 62 "java/lang/IllegalArgumentException" ["java/lang/RuntimeException", "java/lang/Exception"]).filter goodWord)
def wsL_told : List Cond := .codeWith yL_told cL_told 5 (some .int) [(0, 10, 13, 19), (0, 10, 17, 13)] :: ([.classLink RL 19 "java/lang/IndexOutOfBoundsException", .classLink RL 13 "java/lang/IllegalArgumentException", .methodLink RL 37 yX2_told, .instanceMethod yX2_told, .selects RX2 yX2_told yX2_told, .initialized RX2, .code yX2_told cX2_told 4 (some .int), .classLink RX2 78 "java/lang/IndexOutOfBoundsException", .initialized "java/lang/IndexOutOfBoundsException", .classLink RX2 58 "java/lang/IllegalArgumentException", .initialized "java/lang/IllegalArgumentException", .fieldLink RX2 17 "FeedbackQueues" "tasks" "[LFeedbackQueues$Task;", .methodLink RX2 99 yX2_isTask, .instanceMethod yX2_isTask, .selects RX2 yX2_isTask yX2_isTask, .code yX2_isTask cX2_isTask 2 (some .boolean), .fieldLink RX2 29 "FeedbackQueues" "taskCount" "I"] ++ wsX20 ++ wsX10 ++ (vx_atS RX2 82 "java/lang/IndexOutOfBoundsException" ["java/lang/RuntimeException", "java/lang/Exception"]).filter goodWord ++ (vx_atS RX2 62 "java/lang/IllegalArgumentException" ["java/lang/RuntimeException", "java/lang/Exception"]).filter goodWord)
def wsL_queued : List Cond := .codeWith yL_queued cL_queued 5 (some .int) [(0, 10, 13, 19)] :: ([.classLink RL 19 "java/lang/IndexOutOfBoundsException", .methodLink RL 40 yX2_queued, .instanceMethod yX2_queued, .selects RX2 yX2_queued yX2_queued, .initialized RX2, .code yX2_queued cX2_queued 3 (some .int), .classLink RX2 78 "java/lang/IndexOutOfBoundsException", .initialized "java/lang/IndexOutOfBoundsException", .fieldLink RX2 11 "FeedbackQueues" "levelRows" "[LFeedbackQueues$Level;", .methodLink RX2 74 yX2_isLevel, .instanceMethod yX2_isLevel, .selects RX2 yX2_isLevel yX2_isLevel, .code yX2_isLevel cX2_isLevel 2 (some .boolean), .fieldLink RX2 25 "FeedbackQueues" "levelCount" "I", .instanceMethod yX0_at, .initialized RX0, .selects RX0 yX0_at yX0_at, .code yX0_at cX0_at 2 (some .int), .fieldLink RX0 22 "FeedbackQueues$Level" "size" "I", .fieldLink RX0 18 "FeedbackQueues$Level" "queue" "[I"] ++ wsX20 ++ wsX00 ++ (vx_atS RX2 82 "java/lang/IndexOutOfBoundsException" ["java/lang/RuntimeException", "java/lang/Exception"]).filter goodWord)
def wsL_all : List Cond := .codeWith yL_all cL_all 4 (some .int) [(0, 9, 12, 13)] :: ([.classLink RL 13 "java/lang/IllegalArgumentException", .methodLink RL 43 yX2_all, .instanceMethod yX2_all, .selects RX2 yX2_all yX2_all, .initialized RX2, .code yX2_all cX2_all 2 (some .int), .classLink RX2 58 "java/lang/IllegalArgumentException", .initialized "java/lang/IllegalArgumentException", .fieldLink RX2 42 "FeedbackQueues" "switchCount" "I", .fieldLink RX2 45 "FeedbackQueues" "idleCount" "I", .fieldLink RX2 48 "FeedbackQueues" "comeUpCount" "I", .fieldLink RX2 51 "FeedbackQueues" "endedCount" "I"] ++ wsX20 ++ (vx_atS RX2 62 "java/lang/IllegalArgumentException" ["java/lang/RuntimeException", "java/lang/Exception"]).filter goodWord)
def wsL_switched : List Cond := .codeWith yL_switched cL_switched 4 (some .int) [(0, 9, 12, 19)] :: ([.classLink RL 19 "java/lang/IndexOutOfBoundsException", .methodLink RL 46 yX2_switched, .instanceMethod yX2_switched, .selects RX2 yX2_switched yX2_switched, .initialized RX2, .code yX2_switched cX2_switched 2 (some .int), .classLink RX2 78 "java/lang/IndexOutOfBoundsException", .initialized "java/lang/IndexOutOfBoundsException", .fieldLink RX2 42 "FeedbackQueues" "switchCount" "I", .fieldLink RX2 21 "FeedbackQueues" "switchesKept" "[I"] ++ wsX20 ++ (vx_atS RX2 82 "java/lang/IndexOutOfBoundsException" ["java/lang/RuntimeException", "java/lang/Exception"]).filter goodWord)
def wsL_law0_r1 : List Cond := [Cond.classLink RL 8 RX2, Cond.instantiable RX2 12, Cond.initialized RX2, Cond.classLink RL 50 RX3, Cond.instantiable RX3 24, Cond.initialized RX3, Cond.arrayClass .long, Cond.methodLink RL 49 yX2_init, Cond.instanceMethod yX2_init, Cond.code yX2_init cX2_init 2 none, Cond.methodLink RX2 1 objectInit, Cond.instanceMethod objectInit, Cond.code objectInit ⟨#[0xb1]⟩ 1 none, Cond.classLink RX2 9 RX0, Cond.fieldLink RX2 11 "FeedbackQueues" "levelRows" "[LFeedbackQueues$Level;", Cond.classLink RX2 15 RX1, Cond.fieldLink RX2 17 "FeedbackQueues" "tasks" "[LFeedbackQueues$Task;", Cond.arrayClass .int, Cond.fieldLink RX2 21 "FeedbackQueues" "switchesKept" "[I", Cond.fieldLink RX2 25 "FeedbackQueues" "levelCount" "I", Cond.fieldLink RX2 29 "FeedbackQueues" "taskCount" "I", Cond.fieldLink RX2 32 "FeedbackQueues" "periodTicks" "I", Cond.fieldLink RX2 35 "FeedbackQueues" "now" "I", Cond.fieldLink RX2 38 "FeedbackQueues" "onProcessor" "LFeedbackQueues$Task;"]
def wsL_law0_r2 : List Cond := [Cond.fieldLink RX2 42 "FeedbackQueues" "switchCount" "I", Cond.fieldLink RX2 45 "FeedbackQueues" "idleCount" "I", Cond.fieldLink RX2 48 "FeedbackQueues" "comeUpCount" "I", Cond.fieldLink RX2 51 "FeedbackQueues" "endedCount" "I", Cond.instantiable RX0 4, Cond.initialized RX0, Cond.instantiable RX1 19, Cond.initialized RX1, Cond.instanceMethod yX0_init, Cond.code yX0_init cX0_init 1 none, Cond.methodLink RX0 3 objectInit, Cond.fieldLink RX0 9 "FeedbackQueues$Level" "quantum" "I", Cond.fieldLink RX0 15 "FeedbackQueues$Level" "share" "I", Cond.fieldLink RX0 18 "FeedbackQueues$Level" "queue" "[I", Cond.fieldLink RX0 22 "FeedbackQueues$Level" "size" "I", Cond.instanceMethod yX1_init, Cond.code yX1_init cX1_init 2 none, Cond.methodLink RX1 3 objectInit, Cond.fieldLink RX1 9 "FeedbackQueues$Task" "arrival" "I", Cond.fieldLink RX1 15 "FeedbackQueues$Task" "bursts" "[I", Cond.fieldLink RX1 19 "FeedbackQueues$Task" "burstCount" "I", Cond.fieldLink RX1 22 "FeedbackQueues$Task" "state" "I", Cond.fieldLink RX1 25 "FeedbackQueues$Task" "level" "I", Cond.fieldLink RX1 28 "FeedbackQueues$Task" "burstsBegun" "I"]
def wsL_law0_r3 : List Cond := [Cond.fieldLink RX1 31 "FeedbackQueues$Task" "burstLeft" "I", Cond.fieldLink RX1 34 "FeedbackQueues$Task" "quantumLeft" "I", Cond.fieldLink RX1 37 "FeedbackQueues$Task" "shareLeft" "I", Cond.fieldLink RX1 40 "FeedbackQueues$Task" "keepsQuantum" "Z", Cond.fieldLink RX1 44 "FeedbackQueues$Task" "ticksRun" "I", Cond.fieldLink RX1 47 "FeedbackQueues$Task" "ticksReady" "I", Cond.fieldLink RX1 50 "FeedbackQueues$Task" "ticksBlocked" "I", Cond.fieldLink RX1 53 "FeedbackQueues$Task" "firstRun" "I", Cond.fieldLink RX1 56 "FeedbackQueues$Task" "endedAt" "I", Cond.fieldLink RX1 59 "FeedbackQueues$Task" "timesSwitchedTo" "I", Cond.fieldLink RX1 62 "FeedbackQueues$Task" "timesDown" "I", Cond.fieldLink RX1 65 "FeedbackQueues$Task" "timesToFront" "I", Cond.fieldLink RX1 68 "FeedbackQueues$Task" "number" "I", Cond.methodLink RL 52 yX3_init, Cond.instanceMethod yX3_init, Cond.code yX3_init cX3_init 1 none, Cond.methodLink RX3 1 objectInit, Cond.fieldLink RX3 7 "FeedbackQueuesModel" "quanta" "[I", Cond.fieldLink RX3 13 "FeedbackQueuesModel" "shares" "[I", Cond.fieldLink RX3 16 "FeedbackQueuesModel" "arrivals" "[I", Cond.fieldLink RX3 19 "FeedbackQueuesModel" "bursts" "[I", Cond.fieldLink RX3 22 "FeedbackQueuesModel" "ticks" "[I", Cond.fieldLink RX3 25 "FeedbackQueuesModel" "state" "[I", Cond.fieldLink RX3 28 "FeedbackQueuesModel" "level" "[I"]
def wsL_law0_r4 : List Cond := [Cond.fieldLink RX3 31 "FeedbackQueuesModel" "at" "[I", Cond.fieldLink RX3 34 "FeedbackQueuesModel" "left" "[I", Cond.fieldLink RX3 37 "FeedbackQueuesModel" "quantum" "[I", Cond.fieldLink RX3 40 "FeedbackQueuesModel" "share" "[I", Cond.arrayClass .boolean, Cond.fieldLink RX3 43 "FeedbackQueuesModel" "kept" "[Z", Cond.fieldLink RX3 47 "FeedbackQueuesModel" "until" "[I", Cond.fieldLink RX3 50 "FeedbackQueuesModel" "counts" "[I", Cond.fieldLink RX3 53 "FeedbackQueuesModel" "queue" "[I", Cond.fieldLink RX3 56 "FeedbackQueuesModel" "size" "[I", Cond.fieldLink RX3 59 "FeedbackQueuesModel" "all" "[I", Cond.fieldLink RX3 62 "FeedbackQueuesModel" "switches" "[I", Cond.methodLink RX3 65 yX3_set, Cond.instanceMethod yX3_set, Cond.selects RX3 yX3_set yX3_set, Cond.code yX3_set cX3_set 3 none, Cond.fieldLink RX3 73 "FeedbackQueuesModel" "levels" "I", Cond.fieldLink RX3 76 "FeedbackQueuesModel" "processes" "I", Cond.methodLink RX3 79 yX3_begin, Cond.instanceMethod yX3_begin, Cond.selects RX3 yX3_begin yX3_begin, Cond.code yX3_begin cX3_begin 3 none, Cond.fieldLink RX3 82 "FeedbackQueuesModel" "time" "I", Cond.fieldLink RX3 85 "FeedbackQueuesModel" "running" "I"]
def wsL_law0_r5 : List Cond := [Cond.methodLink RL 53 yL_levels, Cond.static yL_levels, Cond.initialized RL, Cond.codeWith yL_levels cL_levels 3 (some .int) [(0, 5, 8, 13)], Cond.classLink RL 13 "java/lang/IllegalArgumentException", Cond.methodLink RL 7 yX2_levels, Cond.instanceMethod yX2_levels, Cond.selects RX2 yX2_levels yX2_levels, Cond.code yX2_levels cX2_levels 3 none, Cond.classLink RX2 58 "java/lang/IllegalArgumentException", Cond.initialized "java/lang/IllegalArgumentException", Cond.methodLink RX2 71 yX2_startOver, Cond.instanceMethod yX2_startOver, Cond.selects RX2 yX2_startOver yX2_startOver, Cond.code yX2_startOver cX2_startOver 2 none, Cond.instanceMethod yX0_clear, Cond.selects RX0 yX0_clear yX0_clear, Cond.code yX0_clear cX0_clear 1 none, Cond.instanceMethod yX1_startOver, Cond.selects RX1 yX1_startOver yX1_startOver, Cond.code yX1_startOver cX1_startOver 1 none, Cond.methodLink RL 58 yX3_levels, Cond.instanceMethod yX3_levels, Cond.selects RX3 yX3_levels yX3_levels]
def wsL_law0_r6 : List Cond := [Cond.code yX3_levels cX3_levels 2 none, Cond.fieldLink RX3 69 "FeedbackQueuesModel" "thrown" "I", Cond.methodLink RL 59 yX3_thrown, Cond.instanceMethod yX3_thrown, Cond.selects RX3 yX3_thrown yX3_thrown, Cond.code yX3_thrown cX3_thrown 1 (some .int), Cond.methodLink RL 63 yL_level, Cond.static yL_level, Cond.codeWith yL_level cL_level 5 (some .int) [(0, 7, 10, 19), (0, 7, 14, 13), (0, 7, 18, 21)], Cond.classLink RL 19 "java/lang/IndexOutOfBoundsException", Cond.classLink RL 21 "java/lang/IllegalStateException", Cond.methodLink RL 15 yX2_level, Cond.instanceMethod yX2_level, Cond.selects RX2 yX2_level yX2_level, Cond.code yX2_level cX2_level 4 none, Cond.classLink RX2 78 "java/lang/IndexOutOfBoundsException", Cond.initialized "java/lang/IndexOutOfBoundsException", Cond.classLink RX2 87 "java/lang/IllegalStateException", Cond.initialized "java/lang/IllegalStateException", Cond.methodLink RX2 74 yX2_isLevel, Cond.instanceMethod yX2_isLevel, Cond.selects RX2 yX2_isLevel yX2_isLevel, Cond.code yX2_isLevel cX2_isLevel 2 (some .boolean), Cond.methodLink RL 66 yX3_level]
def wsL_law0_r7 : List Cond := [Cond.instanceMethod yX3_level, Cond.selects RX3 yX3_level yX3_level, Cond.code yX3_level cX3_level 4 none, Cond.methodLink RL 67 yL_period, Cond.static yL_period, Cond.codeWith yL_period cL_period 3 (some .int) [(0, 5, 8, 13), (0, 5, 11, 21)], Cond.methodLink RL 23 yX2_period, Cond.instanceMethod yX2_period, Cond.selects RX2 yX2_period yX2_period, Cond.code yX2_period cX2_period 2 none, Cond.methodLink RL 69 yX3_period, Cond.instanceMethod yX3_period, Cond.selects RX3 yX3_period yX3_period, Cond.code yX3_period cX3_period 2 none, Cond.fieldLink RX3 88 "FeedbackQueuesModel" "period" "I", Cond.methodLink RL 70 yL_process, Cond.static yL_process, Cond.codeWith yL_process cL_process 4 (some .int) [(0, 9, 12, 13), (0, 9, 15, 21)], Cond.methodLink RL 26 yX2_process, Cond.instanceMethod yX2_process, Cond.selects RX2 yX2_process yX2_process, Cond.code yX2_process cX2_process 2 (some .int), Cond.instanceMethod yX1_tellArrival, Cond.selects RX1 yX1_tellArrival yX1_tellArrival]
def wsL_law0_r8 : List Cond := [Cond.code yX1_tellArrival cX1_tellArrival 2 none, Cond.methodLink RL 73 yX3_process, Cond.instanceMethod yX3_process, Cond.selects RX3 yX3_process yX3_process, Cond.code yX3_process cX3_process 2 (some .int), Cond.methodLink RL 74 yL_burst, Cond.static yL_burst, Cond.codeWith yL_burst cL_burst 5 (some .int) [(0, 10, 13, 19), (0, 10, 17, 13), (0, 10, 21, 21)], Cond.methodLink RL 30 yX2_burst, Cond.instanceMethod yX2_burst, Cond.selects RX2 yX2_burst yX2_burst, Cond.code yX2_burst cX2_burst 3 (some .int), Cond.methodLink RX2 99 yX2_isTask, Cond.instanceMethod yX2_isTask, Cond.selects RX2 yX2_isTask yX2_isTask, Cond.code yX2_isTask cX2_isTask 2 (some .boolean), Cond.instanceMethod yX1_tellBurst, Cond.selects RX1 yX1_tellBurst yX1_tellBurst, Cond.code yX1_tellBurst cX1_tellBurst 2 (some .int), Cond.methodLink RL 77 yX3_burst, Cond.instanceMethod yX3_burst, Cond.selects RX3 yX3_burst yX3_burst, Cond.code yX3_burst cX3_burst 3 (some .int), Cond.methodLink RX3 91 yX3_noProcess]
def wsL_law0_r9 : List Cond := [Cond.instanceMethod yX3_noProcess, Cond.selects RX3 yX3_noProcess yX3_noProcess, Cond.code yX3_noProcess cX3_noProcess 2 (some .boolean), Cond.methodLink RL 78 yL_run, Cond.static yL_run, Cond.codeWith yL_run cL_run 4 (some .int) [(0, 9, 12, 13)], Cond.methodLink RL 34 yX2_run, Cond.instanceMethod yX2_run, Cond.selects RX2 yX2_run yX2_run, Cond.code yX2_run cX2_run 4 (some .int), Cond.constant RX2 112 (100000), Cond.methodLink RX2 115 yX2_doTick, Cond.instanceMethod yX2_doTick, Cond.selects RX2 yX2_doTick yX2_doTick, Cond.code yX2_doTick cX2_doTick 1 none, Cond.methodLink RX2 164 yX2_bringAllUp, Cond.instanceMethod yX2_bringAllUp, Cond.selects RX2 yX2_bringAllUp yX2_bringAllUp, Cond.code yX2_bringAllUp cX2_bringAllUp 3 none, Cond.instanceMethod yX1_comeUp, Cond.selects RX1 yX1_comeUp yX1_comeUp, Cond.code yX1_comeUp cX1_comeUp 3 none, Cond.methodLink RX1 71 Lib.Math.min.name, Cond.static Lib.Math.min.name]
def wsL_law0_r10 : List Cond := [Cond.initialized "java/lang/Math", Cond.code Lib.Math.min.name Lib.Math.min.code 2 (some .int), Cond.instanceMethod yX0_addAllOf, Cond.selects RX0 yX0_addAllOf yX0_addAllOf, Cond.code yX0_addAllOf cX0_addAllOf 3 none, Cond.methodLink RX0 25 yX0_addLast, Cond.instanceMethod yX0_addLast, Cond.selects RX0 yX0_addLast yX0_addLast, Cond.code yX0_addLast cX0_addLast 2 none, Cond.methodLink RX2 167 yX2_letArrive, Cond.instanceMethod yX2_letArrive, Cond.selects RX2 yX2_letArrive yX2_letArrive, Cond.code yX2_letArrive cX2_letArrive 3 none, Cond.methodLink RX2 200 yX2_goOnOrEnd, Cond.instanceMethod yX2_goOnOrEnd, Cond.selects RX2 yX2_goOnOrEnd yX2_goOnOrEnd, Cond.code yX2_goOnOrEnd cX2_goOnOrEnd 2 none, Cond.instanceMethod yX1_beginBurst, Cond.selects RX1 yX1_beginBurst yX1_beginBurst, Cond.code yX1_beginBurst cX1_beginBurst 1 (some .boolean), Cond.methodLink RX2 210 yX2_standAtEnd, Cond.instanceMethod yX2_standAtEnd, Cond.selects RX2 yX2_standAtEnd yX2_standAtEnd, Cond.code yX2_standAtEnd cX2_standAtEnd 2 none]
def wsL_law0_r11 : List Cond := [Cond.methodLink RX2 213 yX2_endTask, Cond.instanceMethod yX2_endTask, Cond.selects RX2 yX2_endTask yX2_endTask, Cond.code yX2_endTask cX2_endTask 3 none, Cond.methodLink RX2 170 yX2_letComeBack, Cond.instanceMethod yX2_letComeBack, Cond.selects RX2 yX2_letComeBack yX2_letComeBack, Cond.code yX2_letComeBack cX2_letComeBack 3 none, Cond.methodLink RX2 173 yX2_makeWay, Cond.instanceMethod yX2_makeWay, Cond.selects RX2 yX2_makeWay yX2_makeWay, Cond.code yX2_makeWay cX2_makeWay 1 none, Cond.methodLink RX2 217 yX2_isOneReadyAbove, Cond.instanceMethod yX2_isOneReadyAbove, Cond.selects RX2 yX2_isOneReadyAbove yX2_isOneReadyAbove, Cond.code yX2_isOneReadyAbove cX2_isOneReadyAbove 3 (some .boolean), Cond.instanceMethod yX0_addFirst, Cond.selects RX0 yX0_addFirst yX0_addFirst, Cond.code yX0_addFirst cX0_addFirst 3 none, Cond.methodLink RX2 176 yX2_switchToFirst, Cond.instanceMethod yX2_switchToFirst, Cond.selects RX2 yX2_switchToFirst yX2_switchToFirst, Cond.code yX2_switchToFirst cX2_switchToFirst 3 none, Cond.instanceMethod yX0_takeFirst]
def wsL_law0_r12 : List Cond := [Cond.selects RX0 yX0_takeFirst yX0_takeFirst, Cond.code yX0_takeFirst cX0_takeFirst 3 (some .int), Cond.methodLink RX2 234 yX2_switchTo, Cond.instanceMethod yX2_switchTo, Cond.selects RX2 yX2_switchTo yX2_switchTo, Cond.code yX2_switchTo cX2_switchTo 2 none, Cond.instanceMethod yX1_beginRunning, Cond.selects RX1 yX1_beginRunning yX1_beginRunning, Cond.code yX1_beginRunning cX1_beginRunning 3 none, Cond.methodLink RX2 179 yX2_countWaiting, Cond.instanceMethod yX2_countWaiting, Cond.selects RX2 yX2_countWaiting yX2_countWaiting, Cond.code yX2_countWaiting cX2_countWaiting 3 none, Cond.methodLink RX2 182 yX2_useTick, Cond.instanceMethod yX2_useTick, Cond.selects RX2 yX2_useTick yX2_useTick, Cond.code yX2_useTick cX2_useTick 2 none, Cond.methodLink RX2 243 yX2_blockOrEnd, Cond.instanceMethod yX2_blockOrEnd, Cond.selects RX2 yX2_blockOrEnd yX2_blockOrEnd, Cond.code yX2_blockOrEnd cX2_blockOrEnd 2 none, Cond.methodLink RX2 246 yX2_sendDown, Cond.instanceMethod yX2_sendDown, Cond.selects RX2 yX2_sendDown yX2_sendDown]
def wsL_law0_r13 : List Cond := [Cond.code yX2_sendDown cX2_sendDown 2 none, Cond.methodLink RL 80 yX3_run, Cond.instanceMethod yX3_run, Cond.selects RX3 yX3_run yX3_run, Cond.code yX3_run cX3_run 5 (some .int), Cond.constant RX3 113 (100000), Cond.methodLink RX3 114 yX3_allUp, Cond.instanceMethod yX3_allUp, Cond.selects RX3 yX3_allUp yX3_allUp, Cond.code yX3_allUp cX3_allUp 2 none, Cond.methodLink RX3 95 yX3_takeFirst, Cond.instanceMethod yX3_takeFirst, Cond.selects RX3 yX3_takeFirst yX3_takeFirst, Cond.code yX3_takeFirst cX3_takeFirst 4 (some .int), Cond.methodLink RX3 99 yX3_toEnd, Cond.instanceMethod yX3_toEnd, Cond.selects RX3 yX3_toEnd yX3_toEnd, Cond.code yX3_toEnd cX3_toEnd 3 none, Cond.methodLink RX3 117 yX3_come, Cond.instanceMethod yX3_come, Cond.selects RX3 yX3_come yX3_come, Cond.code yX3_come cX3_come 3 none, Cond.methodLink RX3 103 yX3_end, Cond.instanceMethod yX3_end]
def wsL_law0_r14 : List Cond := [Cond.selects RX3 yX3_end yX3_end, Cond.code yX3_end cX3_end 3 none, Cond.methodLink RX3 120 yX3_comeBack, Cond.instanceMethod yX3_comeBack, Cond.selects RX3 yX3_comeBack yX3_comeBack, Cond.code yX3_comeBack cX3_comeBack 3 none, Cond.methodLink RX3 123 yX3_choose, Cond.instanceMethod yX3_choose, Cond.selects RX3 yX3_choose yX3_choose, Cond.code yX3_choose cX3_choose 4 none, Cond.methodLink RX3 106 yX3_firstLevel, Cond.instanceMethod yX3_firstLevel, Cond.selects RX3 yX3_firstLevel yX3_firstLevel, Cond.code yX3_firstLevel cX3_firstLevel 2 (some .int), Cond.methodLink RX3 110 yX3_toFront, Cond.instanceMethod yX3_toFront, Cond.selects RX3 yX3_toFront yX3_toFront, Cond.code yX3_toFront cX3_toFront 4 none, Cond.methodLink RX3 126 yX3_count, Cond.instanceMethod yX3_count, Cond.selects RX3 yX3_count yX3_count, Cond.code yX3_count cX3_count 2 none, Cond.methodLink RX3 129 yX3_work, Cond.instanceMethod yX3_work]
def wsL_law0_r15 : List Cond := [Cond.selects RX3 yX3_work yX3_work, Cond.code yX3_work cX3_work 3 none, Cond.methodLink RL 81 yX2_restart, Cond.instanceMethod yX2_restart, Cond.selects RX2 yX2_restart yX2_restart, Cond.code yX2_restart cX2_restart 1 none, Cond.methodLink RL 84 yX3_restart, Cond.instanceMethod yX3_restart, Cond.selects RX3 yX3_restart yX3_restart, Cond.code yX3_restart cX3_restart 1 none, Cond.methodLink RL 85 yX2_time, Cond.instanceMethod yX2_time, Cond.selects RX2 yX2_time yX2_time, Cond.code yX2_time cX2_time 1 (some .int), Cond.methodLink RL 88 yX3_time, Cond.instanceMethod yX3_time, Cond.selects RX3 yX3_time yX3_time, Cond.code yX3_time cX3_time 1 (some .int), Cond.methodLink RL 89 yL_told, Cond.static yL_told, Cond.codeWith yL_told cL_told 5 (some .int) [(0, 10, 13, 19), (0, 10, 17, 13)], Cond.methodLink RL 37 yX2_told, Cond.instanceMethod yX2_told, Cond.selects RX2 yX2_told yX2_told]
def wsL_law0_r16 : List Cond := [Cond.code yX2_told cX2_told 4 (some .int), Cond.methodLink RL 91 yX3_told, Cond.instanceMethod yX3_told, Cond.selects RX3 yX3_told yX3_told, Cond.code yX3_told cX3_told 3 (some .int), Cond.methodLink RL 92 yX2_running, Cond.instanceMethod yX2_running, Cond.selects RX2 yX2_running yX2_running, Cond.code yX2_running cX2_running 1 (some .int), Cond.methodLink RL 95 yX3_running, Cond.instanceMethod yX3_running, Cond.selects RX3 yX3_running yX3_running, Cond.code yX3_running cX3_running 1 (some .int), Cond.methodLink RL 96 yL_queued, Cond.static yL_queued, Cond.codeWith yL_queued cL_queued 5 (some .int) [(0, 10, 13, 19)], Cond.methodLink RL 40 yX2_queued, Cond.instanceMethod yX2_queued, Cond.selects RX2 yX2_queued yX2_queued, Cond.code yX2_queued cX2_queued 3 (some .int), Cond.instanceMethod yX0_at, Cond.selects RX0 yX0_at yX0_at, Cond.code yX0_at cX0_at 2 (some .int), Cond.methodLink RL 98 yX3_queued]
def wsL_law0_r17 : List Cond := [Cond.instanceMethod yX3_queued, Cond.selects RX3 yX3_queued yX3_queued, Cond.code yX3_queued cX3_queued 3 (some .int), Cond.methodLink RL 99 yL_all, Cond.static yL_all, Cond.codeWith yL_all cL_all 4 (some .int) [(0, 9, 12, 13)], Cond.methodLink RL 43 yX2_all, Cond.instanceMethod yX2_all, Cond.selects RX2 yX2_all yX2_all, Cond.code yX2_all cX2_all 2 (some .int), Cond.methodLink RL 101 yX3_all, Cond.instanceMethod yX3_all, Cond.selects RX3 yX3_all yX3_all, Cond.code yX3_all cX3_all 2 (some .int), Cond.methodLink RL 102 yL_switched, Cond.static yL_switched, Cond.codeWith yL_switched cL_switched 4 (some .int) [(0, 9, 12, 19)], Cond.methodLink RL 46 yX2_switched, Cond.instanceMethod yX2_switched, Cond.selects RX2 yX2_switched yX2_switched, Cond.code yX2_switched cX2_switched 2 (some .int), Cond.methodLink RL 104 yX3_switched, Cond.instanceMethod yX3_switched, Cond.selects RX3 yX3_switched yX3_switched]
def wsL_law0_r18 : List Cond := [Cond.code yX3_switched cX3_switched 2 (some .int)]
def wsL_law0 : List Cond := (wsL_law0_r1 ++ (wsL_law0_r2 ++ (wsL_law0_r3 ++ (wsL_law0_r4 ++ (wsL_law0_r5 ++ (wsL_law0_r6 ++ (wsL_law0_r7 ++ (wsL_law0_r8 ++ (wsL_law0_r9 ++ (wsL_law0_r10 ++ (wsL_law0_r11 ++ (wsL_law0_r12 ++ (wsL_law0_r13 ++ (wsL_law0_r14 ++ (wsL_law0_r15 ++ (wsL_law0_r16 ++ (wsL_law0_r17 ++ wsL_law0_r18))))))))))))))))) ++ wsX20 ++ wsX30 ++ wsX00 ++ wsX10 ++ ([] : List Cond)
def wsL_law : List Cond := wsL_law0 ++ (vx_atS RX2 62 "java/lang/IllegalArgumentException" ["java/lang/RuntimeException", "java/lang/Exception"]).filter goodWord ++ (vx_atS RX2 82 "java/lang/IndexOutOfBoundsException" ["java/lang/RuntimeException", "java/lang/Exception"]).filter goodWord ++ (vx_atS RX2 91 "java/lang/IllegalStateException" ["java/lang/RuntimeException", "java/lang/Exception"]).filter goodWord
set_option maxRecDepth 20000 in
theorem wsL_law_in0 : ∀ w ∈ wsL_law0, w ∈ lw_tbl := fun w h => (goodIn_p wsL_law0 [61, 64, 72, 94, 532, 537, 541, 238, 214, 218, 222, 623, 619, 315, 319, 627, 360, 631, 368, 373, 635, 380, 384, 390, 639, 643, 397, 404, 408, 412, 415, 419, 423, 427, 431, 435, 439, 444, 448, 452, 456, 460, 464, 468, 472, 476, 480, 484, 488, 492, 647, 652, 656, 660, 664, 668, 672, 676, 680, 684, 688, 692, 210, 696, 226, 700, 499, 704, 230, 708, 507, 511, 712, 518, 716, 526, 720] (by decide +kernel) (by decide +kernel) w h).1
theorem wsL_law_x0 : ∀ w ∈ (vx_atS RX2 62 "java/lang/IllegalArgumentException" ["java/lang/RuntimeException", "java/lang/Exception"]).filter goodWord, w ∈ lw_tbl := by decide +kernel
theorem wsL_law_x1 : ∀ w ∈ (vx_atS RX2 82 "java/lang/IndexOutOfBoundsException" ["java/lang/RuntimeException", "java/lang/Exception"]).filter goodWord, w ∈ lw_tbl := by decide +kernel
theorem wsL_law_x2 : ∀ w ∈ (vx_atS RX2 91 "java/lang/IllegalStateException" ["java/lang/RuntimeException", "java/lang/Exception"]).filter goodWord, w ∈ lw_tbl := by decide +kernel
theorem wsL_law_in : ∀ w ∈ wsL_law, w ∈ lw_tbl := fun w h => (List.mem_append.mp h).elim (fun h => (List.mem_append.mp h).elim (fun h => (List.mem_append.mp h).elim (fun h => wsL_law_in0 w h) (fun h => wsL_law_x0 w h)) (fun h => wsL_law_x1 w h)) (fun h => wsL_law_x2 w h)
theorem inlX0 : ∀ w ∈ wsX00, w ∈ wsL_law := fun _ h => List.mem_append_left _ (List.mem_append_left _ (List.mem_append_left _ (List.mem_append_left _ (List.mem_append_left _ (List.mem_append_right _ h)))))
theorem inX0 : ∀ w ∈ wsX00, w ∈ lw_tbl := fun w h => wsL_law_in w (inlX0 w h)
theorem inlX1 : ∀ w ∈ wsX10, w ∈ wsL_law := fun _ h => List.mem_append_left _ (List.mem_append_left _ (List.mem_append_left _ (List.mem_append_left _ (List.mem_append_right _ h))))
theorem inX1 : ∀ w ∈ wsX10, w ∈ lw_tbl := fun w h => wsL_law_in w (inlX1 w h)
theorem inlX2 : ∀ w ∈ wsX20, w ∈ wsL_law := fun _ h => List.mem_append_left _ (List.mem_append_left _ (List.mem_append_left _ (List.mem_append_left _ (List.mem_append_left _ (List.mem_append_left _ (List.mem_append_left _ (List.mem_append_right _ h)))))))
theorem inX2 : ∀ w ∈ wsX20, w ∈ lw_tbl := fun w h => wsL_law_in w (inlX2 w h)
theorem inlX3 : ∀ w ∈ wsX30, w ∈ wsL_law := fun _ h => List.mem_append_left _ (List.mem_append_left _ (List.mem_append_left _ (List.mem_append_left _ (List.mem_append_left _ (List.mem_append_left _ (List.mem_append_right _ h))))))
theorem inX3 : ∀ w ∈ wsX30, w ∈ lw_tbl := fun w h => wsL_law_in w (inlX3 w h)
theorem inJ9 : ∀ w ∈ wsJ90, w ∈ lw_tbl := by decide +kernel
theorem inJ0 : ∀ w ∈ wsJ00, w ∈ lw_tbl := by decide +kernel
theorem dX0_init_0 : decode cX0_init 0 = .ok (.aload_n 0, 1) := by decide +kernel
theorem dX0_init_1 : decode cX0_init 1 = .ok (.invokespecial 3, 3) := by decide +kernel
theorem dX0_init_4 : decode cX0_init 4 = .ok (.aload_n 0, 1) := by decide +kernel
theorem dX0_init_5 : decode cX0_init 5 = .ok (.iconst 1, 1) := by decide +kernel
theorem dX0_init_6 : decode cX0_init 6 = .ok (.putfield 9, 3) := by decide +kernel
theorem dX0_init_9 : decode cX0_init 9 = .ok (.aload_n 0, 1) := by decide +kernel
theorem dX0_init_10 : decode cX0_init 10 = .ok (.iconst 1, 1) := by decide +kernel
theorem dX0_init_11 : decode cX0_init 11 = .ok (.putfield 15, 3) := by decide +kernel
theorem dX0_init_14 : decode cX0_init 14 = .ok (.aload_n 0, 1) := by decide +kernel
theorem dX0_init_15 : decode cX0_init 15 = .ok (.bipush 16, 2) := by decide +kernel
theorem dX0_init_17 : decode cX0_init 17 = .ok (.newarray .int, 2) := by decide +kernel
theorem dX0_init_19 : decode cX0_init 19 = .ok (.putfield 18, 3) := by decide +kernel
theorem dX0_init_22 : decode cX0_init 22 = .ok (.aload_n 0, 1) := by decide +kernel
theorem dX0_init_23 : decode cX0_init 23 = .ok (.iconst 0, 1) := by decide +kernel
theorem dX0_init_24 : decode cX0_init 24 = .ok (.putfield 22, 3) := by decide +kernel
theorem dX0_init_27 : decode cX0_init 27 = .ok (.return_, 1) := by decide +kernel
theorem dX0_clear_0 : decode cX0_clear 0 = .ok (.aload_n 0, 1) := by decide +kernel
theorem dX0_clear_1 : decode cX0_clear 1 = .ok (.iconst 0, 1) := by decide +kernel
theorem dX0_clear_2 : decode cX0_clear 2 = .ok (.putfield 22, 3) := by decide +kernel
theorem dX0_clear_5 : decode cX0_clear 5 = .ok (.return_, 1) := by decide +kernel
theorem dX0_at_0 : decode cX0_at 0 = .ok (.iload_n 1, 1) := by decide +kernel
theorem dX0_at_1 : decode cX0_at 1 = .ok (.ifCond .lt 20, 3) := by decide +kernel
theorem dX0_at_4 : decode cX0_at 4 = .ok (.iload_n 1, 1) := by decide +kernel
theorem dX0_at_5 : decode cX0_at 5 = .ok (.aload_n 0, 1) := by decide +kernel
theorem dX0_at_6 : decode cX0_at 6 = .ok (.getfield 22, 3) := by decide +kernel
theorem dX0_at_9 : decode cX0_at 9 = .ok (.if_icmp .ge 12, 3) := by decide +kernel
theorem dX0_at_12 : decode cX0_at 12 = .ok (.aload_n 0, 1) := by decide +kernel
theorem dX0_at_13 : decode cX0_at 13 = .ok (.getfield 18, 3) := by decide +kernel
theorem dX0_at_16 : decode cX0_at 16 = .ok (.iload_n 1, 1) := by decide +kernel
theorem dX0_at_17 : decode cX0_at 17 = .ok (.iaload, 1) := by decide +kernel
theorem dX0_at_18 : decode cX0_at 18 = .ok (.goto 4, 3) := by decide +kernel
theorem dX0_at_21 : decode cX0_at 21 = .ok (.iconst (-1), 1) := by decide +kernel
theorem dX0_at_22 : decode cX0_at 22 = .ok (.ireturn, 1) := by decide +kernel
theorem dX0_addLast_0 : decode cX0_addLast 0 = .ok (.aload_n 0, 1) := by decide +kernel
theorem dX0_addLast_1 : decode cX0_addLast 1 = .ok (.getfield 22, 3) := by decide +kernel
theorem dX0_addLast_4 : decode cX0_addLast 4 = .ok (.bipush 16, 2) := by decide +kernel
theorem dX0_addLast_6 : decode cX0_addLast 6 = .ok (.if_icmp .ge 23, 3) := by decide +kernel
theorem dX0_addLast_9 : decode cX0_addLast 9 = .ok (.aload_n 0, 1) := by decide +kernel
theorem dX0_addLast_10 : decode cX0_addLast 10 = .ok (.getfield 18, 3) := by decide +kernel
theorem dX0_addLast_13 : decode cX0_addLast 13 = .ok (.aload_n 0, 1) := by decide +kernel
theorem dX0_addLast_14 : decode cX0_addLast 14 = .ok (.getfield 22, 3) := by decide +kernel
theorem dX0_addLast_17 : decode cX0_addLast 17 = .ok (.iload_n 1, 1) := by decide +kernel
theorem dX0_addLast_18 : decode cX0_addLast 18 = .ok (.iastore, 1) := by decide +kernel
theorem dX0_addLast_19 : decode cX0_addLast 19 = .ok (.aload_n 0, 1) := by decide +kernel
theorem dX0_addLast_20 : decode cX0_addLast 20 = .ok (.dup, 1) := by decide +kernel
theorem dX0_addLast_21 : decode cX0_addLast 21 = .ok (.getfield 22, 3) := by decide +kernel
theorem dX0_addLast_24 : decode cX0_addLast 24 = .ok (.iconst 1, 1) := by decide +kernel
theorem dX0_addLast_25 : decode cX0_addLast 25 = .ok (.iadd, 1) := by decide +kernel
theorem dX0_addLast_26 : decode cX0_addLast 26 = .ok (.putfield 22, 3) := by decide +kernel
theorem dX0_addLast_29 : decode cX0_addLast 29 = .ok (.return_, 1) := by decide +kernel
theorem dX0_addFirst_0 : decode cX0_addFirst 0 = .ok (.aload_n 0, 1) := by decide +kernel
theorem dX0_addFirst_1 : decode cX0_addFirst 1 = .ok (.getfield 22, 3) := by decide +kernel
theorem dX0_addFirst_4 : decode cX0_addFirst 4 = .ok (.bipush 16, 2) := by decide +kernel
theorem dX0_addFirst_6 : decode cX0_addFirst 6 = .ok (.if_icmp .ge 49, 3) := by decide +kernel
theorem dX0_addFirst_9 : decode cX0_addFirst 9 = .ok (.aload_n 0, 1) := by decide +kernel
theorem dX0_addFirst_10 : decode cX0_addFirst 10 = .ok (.getfield 22, 3) := by decide +kernel
theorem dX0_addFirst_13 : decode cX0_addFirst 13 = .ok (.istore_n 2, 1) := by decide +kernel
theorem dX0_addFirst_14 : decode cX0_addFirst 14 = .ok (.iload_n 2, 1) := by decide +kernel
theorem dX0_addFirst_15 : decode cX0_addFirst 15 = .ok (.ifCond .le 23, 3) := by decide +kernel
theorem dX0_addFirst_18 : decode cX0_addFirst 18 = .ok (.aload_n 0, 1) := by decide +kernel
theorem dX0_addFirst_19 : decode cX0_addFirst 19 = .ok (.getfield 18, 3) := by decide +kernel
theorem dX0_addFirst_22 : decode cX0_addFirst 22 = .ok (.iload_n 2, 1) := by decide +kernel
theorem dX0_addFirst_23 : decode cX0_addFirst 23 = .ok (.aload_n 0, 1) := by decide +kernel
theorem dX0_addFirst_24 : decode cX0_addFirst 24 = .ok (.getfield 18, 3) := by decide +kernel
theorem dX0_addFirst_27 : decode cX0_addFirst 27 = .ok (.iload_n 2, 1) := by decide +kernel
theorem dX0_addFirst_28 : decode cX0_addFirst 28 = .ok (.iconst 1, 1) := by decide +kernel
theorem dX0_addFirst_29 : decode cX0_addFirst 29 = .ok (.isub, 1) := by decide +kernel
theorem dX0_addFirst_30 : decode cX0_addFirst 30 = .ok (.iaload, 1) := by decide +kernel
theorem dX0_addFirst_31 : decode cX0_addFirst 31 = .ok (.iastore, 1) := by decide +kernel
theorem dX0_addFirst_32 : decode cX0_addFirst 32 = .ok (.iinc 2 (-1), 3) := by decide +kernel
theorem dX0_addFirst_35 : decode cX0_addFirst 35 = .ok (.goto (-21), 3) := by decide +kernel
theorem dX0_addFirst_38 : decode cX0_addFirst 38 = .ok (.aload_n 0, 1) := by decide +kernel
theorem dX0_addFirst_39 : decode cX0_addFirst 39 = .ok (.getfield 18, 3) := by decide +kernel
theorem dX0_addFirst_42 : decode cX0_addFirst 42 = .ok (.iconst 0, 1) := by decide +kernel
theorem dX0_addFirst_43 : decode cX0_addFirst 43 = .ok (.iload_n 1, 1) := by decide +kernel
theorem dX0_addFirst_44 : decode cX0_addFirst 44 = .ok (.iastore, 1) := by decide +kernel
theorem dX0_addFirst_45 : decode cX0_addFirst 45 = .ok (.aload_n 0, 1) := by decide +kernel
theorem dX0_addFirst_46 : decode cX0_addFirst 46 = .ok (.dup, 1) := by decide +kernel
theorem dX0_addFirst_47 : decode cX0_addFirst 47 = .ok (.getfield 22, 3) := by decide +kernel
theorem dX0_addFirst_50 : decode cX0_addFirst 50 = .ok (.iconst 1, 1) := by decide +kernel
theorem dX0_addFirst_51 : decode cX0_addFirst 51 = .ok (.iadd, 1) := by decide +kernel
theorem dX0_addFirst_52 : decode cX0_addFirst 52 = .ok (.putfield 22, 3) := by decide +kernel
theorem dX0_addFirst_55 : decode cX0_addFirst 55 = .ok (.return_, 1) := by decide +kernel
theorem dX0_takeFirst_0 : decode cX0_takeFirst 0 = .ok (.aload_n 0, 1) := by decide +kernel
theorem dX0_takeFirst_1 : decode cX0_takeFirst 1 = .ok (.getfield 22, 3) := by decide +kernel
theorem dX0_takeFirst_4 : decode cX0_takeFirst 4 = .ok (.ifCond .ne 5, 3) := by decide +kernel
theorem dX0_takeFirst_7 : decode cX0_takeFirst 7 = .ok (.iconst (-1), 1) := by decide +kernel
theorem dX0_takeFirst_8 : decode cX0_takeFirst 8 = .ok (.ireturn, 1) := by decide +kernel
theorem dX0_takeFirst_9 : decode cX0_takeFirst 9 = .ok (.aload_n 0, 1) := by decide +kernel
theorem dX0_takeFirst_10 : decode cX0_takeFirst 10 = .ok (.getfield 18, 3) := by decide +kernel
theorem dX0_takeFirst_13 : decode cX0_takeFirst 13 = .ok (.iconst 0, 1) := by decide +kernel
theorem dX0_takeFirst_14 : decode cX0_takeFirst 14 = .ok (.iaload, 1) := by decide +kernel
theorem dX0_takeFirst_15 : decode cX0_takeFirst 15 = .ok (.istore_n 1, 1) := by decide +kernel
theorem dX0_takeFirst_16 : decode cX0_takeFirst 16 = .ok (.aload_n 0, 1) := by decide +kernel
theorem dX0_takeFirst_17 : decode cX0_takeFirst 17 = .ok (.dup, 1) := by decide +kernel
theorem dX0_takeFirst_18 : decode cX0_takeFirst 18 = .ok (.getfield 22, 3) := by decide +kernel
theorem dX0_takeFirst_21 : decode cX0_takeFirst 21 = .ok (.iconst 1, 1) := by decide +kernel
theorem dX0_takeFirst_22 : decode cX0_takeFirst 22 = .ok (.isub, 1) := by decide +kernel
theorem dX0_takeFirst_23 : decode cX0_takeFirst 23 = .ok (.putfield 22, 3) := by decide +kernel
theorem dX0_takeFirst_26 : decode cX0_takeFirst 26 = .ok (.iconst 0, 1) := by decide +kernel
theorem dX0_takeFirst_27 : decode cX0_takeFirst 27 = .ok (.istore_n 2, 1) := by decide +kernel
theorem dX0_takeFirst_28 : decode cX0_takeFirst 28 = .ok (.iload_n 2, 1) := by decide +kernel
theorem dX0_takeFirst_29 : decode cX0_takeFirst 29 = .ok (.aload_n 0, 1) := by decide +kernel
theorem dX0_takeFirst_30 : decode cX0_takeFirst 30 = .ok (.getfield 22, 3) := by decide +kernel
theorem dX0_takeFirst_33 : decode cX0_takeFirst 33 = .ok (.if_icmp .ge 23, 3) := by decide +kernel
theorem dX0_takeFirst_36 : decode cX0_takeFirst 36 = .ok (.aload_n 0, 1) := by decide +kernel
theorem dX0_takeFirst_37 : decode cX0_takeFirst 37 = .ok (.getfield 18, 3) := by decide +kernel
theorem dX0_takeFirst_40 : decode cX0_takeFirst 40 = .ok (.iload_n 2, 1) := by decide +kernel
theorem dX0_takeFirst_41 : decode cX0_takeFirst 41 = .ok (.aload_n 0, 1) := by decide +kernel
theorem dX0_takeFirst_42 : decode cX0_takeFirst 42 = .ok (.getfield 18, 3) := by decide +kernel
theorem dX0_takeFirst_45 : decode cX0_takeFirst 45 = .ok (.iload_n 2, 1) := by decide +kernel
theorem dX0_takeFirst_46 : decode cX0_takeFirst 46 = .ok (.iconst 1, 1) := by decide +kernel
theorem dX0_takeFirst_47 : decode cX0_takeFirst 47 = .ok (.iadd, 1) := by decide +kernel
theorem dX0_takeFirst_48 : decode cX0_takeFirst 48 = .ok (.iaload, 1) := by decide +kernel
theorem dX0_takeFirst_49 : decode cX0_takeFirst 49 = .ok (.iastore, 1) := by decide +kernel
theorem dX0_takeFirst_50 : decode cX0_takeFirst 50 = .ok (.iinc 2 1, 3) := by decide +kernel
theorem dX0_takeFirst_53 : decode cX0_takeFirst 53 = .ok (.goto (-25), 3) := by decide +kernel
theorem dX0_takeFirst_56 : decode cX0_takeFirst 56 = .ok (.iload_n 1, 1) := by decide +kernel
theorem dX0_takeFirst_57 : decode cX0_takeFirst 57 = .ok (.ireturn, 1) := by decide +kernel
set_option maxRecDepth 20000 in
theorem ggX0_addAllOf_X0_addLast : GoodIn wsX0_addAllOf wsX0_addLast := goodIn_r _ [7, 1, 2, 8, 9, 10, 11] (by decide +kernel) (by decide +kernel)
set_option maxRecDepth 20000 in
theorem gX0_addAllOf_X0_addLast : GoodIn wsX0_addAllOf (wsV RX0 25 RX0 yX0_addLast wsX0_addLast) := goodIn_app (goodIn_of _ (by decide +kernel)) ggX0_addAllOf_X0_addLast
theorem dX0_addAllOf_0 : decode cX0_addAllOf 0 = .ok (.iconst 0, 1) := by decide +kernel
theorem dX0_addAllOf_1 : decode cX0_addAllOf 1 = .ok (.istore_n 2, 1) := by decide +kernel
theorem dX0_addAllOf_2 : decode cX0_addAllOf 2 = .ok (.iload_n 2, 1) := by decide +kernel
theorem dX0_addAllOf_3 : decode cX0_addAllOf 3 = .ok (.aload_n 1, 1) := by decide +kernel
theorem dX0_addAllOf_4 : decode cX0_addAllOf 4 = .ok (.getfield 22, 3) := by decide +kernel
theorem dX0_addAllOf_7 : decode cX0_addAllOf 7 = .ok (.if_icmp .ge 19, 3) := by decide +kernel
theorem dX0_addAllOf_10 : decode cX0_addAllOf 10 = .ok (.aload_n 0, 1) := by decide +kernel
theorem dX0_addAllOf_11 : decode cX0_addAllOf 11 = .ok (.aload_n 1, 1) := by decide +kernel
theorem dX0_addAllOf_12 : decode cX0_addAllOf 12 = .ok (.getfield 18, 3) := by decide +kernel
theorem dX0_addAllOf_15 : decode cX0_addAllOf 15 = .ok (.iload_n 2, 1) := by decide +kernel
theorem dX0_addAllOf_16 : decode cX0_addAllOf 16 = .ok (.iaload, 1) := by decide +kernel
theorem dX0_addAllOf_17 : decode cX0_addAllOf 17 = .ok (.invokevirtual 25, 3) := by decide +kernel
theorem dX0_addAllOf_20 : decode cX0_addAllOf 20 = .ok (.iinc 2 1, 3) := by decide +kernel
theorem dX0_addAllOf_23 : decode cX0_addAllOf 23 = .ok (.goto (-21), 3) := by decide +kernel
theorem dX0_addAllOf_26 : decode cX0_addAllOf 26 = .ok (.return_, 1) := by decide +kernel
theorem dX1_init_0 : decode cX1_init 0 = .ok (.aload_n 0, 1) := by decide +kernel
theorem dX1_init_1 : decode cX1_init 1 = .ok (.invokespecial 3, 3) := by decide +kernel
theorem dX1_init_4 : decode cX1_init 4 = .ok (.aload_n 0, 1) := by decide +kernel
theorem dX1_init_5 : decode cX1_init 5 = .ok (.iconst 0, 1) := by decide +kernel
theorem dX1_init_6 : decode cX1_init 6 = .ok (.putfield 9, 3) := by decide +kernel
theorem dX1_init_9 : decode cX1_init 9 = .ok (.aload_n 0, 1) := by decide +kernel
theorem dX1_init_10 : decode cX1_init 10 = .ok (.bipush 12, 2) := by decide +kernel
theorem dX1_init_12 : decode cX1_init 12 = .ok (.newarray .int, 2) := by decide +kernel
theorem dX1_init_14 : decode cX1_init 14 = .ok (.putfield 15, 3) := by decide +kernel
theorem dX1_init_17 : decode cX1_init 17 = .ok (.aload_n 0, 1) := by decide +kernel
theorem dX1_init_18 : decode cX1_init 18 = .ok (.iconst 0, 1) := by decide +kernel
theorem dX1_init_19 : decode cX1_init 19 = .ok (.putfield 19, 3) := by decide +kernel
theorem dX1_init_22 : decode cX1_init 22 = .ok (.aload_n 0, 1) := by decide +kernel
theorem dX1_init_23 : decode cX1_init 23 = .ok (.iconst 0, 1) := by decide +kernel
theorem dX1_init_24 : decode cX1_init 24 = .ok (.putfield 22, 3) := by decide +kernel
theorem dX1_init_27 : decode cX1_init 27 = .ok (.aload_n 0, 1) := by decide +kernel
theorem dX1_init_28 : decode cX1_init 28 = .ok (.iconst 0, 1) := by decide +kernel
theorem dX1_init_29 : decode cX1_init 29 = .ok (.putfield 25, 3) := by decide +kernel
theorem dX1_init_32 : decode cX1_init 32 = .ok (.aload_n 0, 1) := by decide +kernel
theorem dX1_init_33 : decode cX1_init 33 = .ok (.iconst 0, 1) := by decide +kernel
theorem dX1_init_34 : decode cX1_init 34 = .ok (.putfield 28, 3) := by decide +kernel
theorem dX1_init_37 : decode cX1_init 37 = .ok (.aload_n 0, 1) := by decide +kernel
theorem dX1_init_38 : decode cX1_init 38 = .ok (.iconst 0, 1) := by decide +kernel
theorem dX1_init_39 : decode cX1_init 39 = .ok (.putfield 31, 3) := by decide +kernel
theorem dX1_init_42 : decode cX1_init 42 = .ok (.aload_n 0, 1) := by decide +kernel
theorem dX1_init_43 : decode cX1_init 43 = .ok (.iconst 0, 1) := by decide +kernel
theorem dX1_init_44 : decode cX1_init 44 = .ok (.putfield 34, 3) := by decide +kernel
theorem dX1_init_47 : decode cX1_init 47 = .ok (.aload_n 0, 1) := by decide +kernel
theorem dX1_init_48 : decode cX1_init 48 = .ok (.iconst 0, 1) := by decide +kernel
theorem dX1_init_49 : decode cX1_init 49 = .ok (.putfield 37, 3) := by decide +kernel
theorem dX1_init_52 : decode cX1_init 52 = .ok (.aload_n 0, 1) := by decide +kernel
theorem dX1_init_53 : decode cX1_init 53 = .ok (.iconst 0, 1) := by decide +kernel
theorem dX1_init_54 : decode cX1_init 54 = .ok (.putfield 40, 3) := by decide +kernel
theorem dX1_init_57 : decode cX1_init 57 = .ok (.aload_n 0, 1) := by decide +kernel
theorem dX1_init_58 : decode cX1_init 58 = .ok (.iconst 0, 1) := by decide +kernel
theorem dX1_init_59 : decode cX1_init 59 = .ok (.putfield 44, 3) := by decide +kernel
theorem dX1_init_62 : decode cX1_init 62 = .ok (.aload_n 0, 1) := by decide +kernel
theorem dX1_init_63 : decode cX1_init 63 = .ok (.iconst 0, 1) := by decide +kernel
theorem dX1_init_64 : decode cX1_init 64 = .ok (.putfield 47, 3) := by decide +kernel
theorem dX1_init_67 : decode cX1_init 67 = .ok (.aload_n 0, 1) := by decide +kernel
theorem dX1_init_68 : decode cX1_init 68 = .ok (.iconst 0, 1) := by decide +kernel
theorem dX1_init_69 : decode cX1_init 69 = .ok (.putfield 50, 3) := by decide +kernel
theorem dX1_init_72 : decode cX1_init 72 = .ok (.aload_n 0, 1) := by decide +kernel
theorem dX1_init_73 : decode cX1_init 73 = .ok (.iconst (-1), 1) := by decide +kernel
theorem dX1_init_74 : decode cX1_init 74 = .ok (.putfield 53, 3) := by decide +kernel
theorem dX1_init_77 : decode cX1_init 77 = .ok (.aload_n 0, 1) := by decide +kernel
theorem dX1_init_78 : decode cX1_init 78 = .ok (.iconst (-1), 1) := by decide +kernel
theorem dX1_init_79 : decode cX1_init 79 = .ok (.putfield 56, 3) := by decide +kernel
theorem dX1_init_82 : decode cX1_init 82 = .ok (.aload_n 0, 1) := by decide +kernel
theorem dX1_init_83 : decode cX1_init 83 = .ok (.iconst 0, 1) := by decide +kernel
theorem dX1_init_84 : decode cX1_init 84 = .ok (.putfield 59, 3) := by decide +kernel
theorem dX1_init_87 : decode cX1_init 87 = .ok (.aload_n 0, 1) := by decide +kernel
theorem dX1_init_88 : decode cX1_init 88 = .ok (.iconst 0, 1) := by decide +kernel
theorem dX1_init_89 : decode cX1_init 89 = .ok (.putfield 62, 3) := by decide +kernel
theorem dX1_init_92 : decode cX1_init 92 = .ok (.aload_n 0, 1) := by decide +kernel
theorem dX1_init_93 : decode cX1_init 93 = .ok (.iconst 0, 1) := by decide +kernel
theorem dX1_init_94 : decode cX1_init 94 = .ok (.putfield 65, 3) := by decide +kernel
theorem dX1_init_97 : decode cX1_init 97 = .ok (.aload_n 0, 1) := by decide +kernel
theorem dX1_init_98 : decode cX1_init 98 = .ok (.iload_n 1, 1) := by decide +kernel
theorem dX1_init_99 : decode cX1_init 99 = .ok (.putfield 68, 3) := by decide +kernel
theorem dX1_init_102 : decode cX1_init 102 = .ok (.return_, 1) := by decide +kernel
theorem dX1_startOver_0 : decode cX1_startOver 0 = .ok (.aload_n 0, 1) := by decide +kernel
theorem dX1_startOver_1 : decode cX1_startOver 1 = .ok (.iconst 0, 1) := by decide +kernel
theorem dX1_startOver_2 : decode cX1_startOver 2 = .ok (.putfield 22, 3) := by decide +kernel
theorem dX1_startOver_5 : decode cX1_startOver 5 = .ok (.aload_n 0, 1) := by decide +kernel
theorem dX1_startOver_6 : decode cX1_startOver 6 = .ok (.iconst 0, 1) := by decide +kernel
theorem dX1_startOver_7 : decode cX1_startOver 7 = .ok (.putfield 25, 3) := by decide +kernel
theorem dX1_startOver_10 : decode cX1_startOver 10 = .ok (.aload_n 0, 1) := by decide +kernel
theorem dX1_startOver_11 : decode cX1_startOver 11 = .ok (.iconst 0, 1) := by decide +kernel
theorem dX1_startOver_12 : decode cX1_startOver 12 = .ok (.putfield 28, 3) := by decide +kernel
theorem dX1_startOver_15 : decode cX1_startOver 15 = .ok (.aload_n 0, 1) := by decide +kernel
theorem dX1_startOver_16 : decode cX1_startOver 16 = .ok (.iconst 0, 1) := by decide +kernel
theorem dX1_startOver_17 : decode cX1_startOver 17 = .ok (.putfield 31, 3) := by decide +kernel
theorem dX1_startOver_20 : decode cX1_startOver 20 = .ok (.aload_n 0, 1) := by decide +kernel
theorem dX1_startOver_21 : decode cX1_startOver 21 = .ok (.iconst 0, 1) := by decide +kernel
theorem dX1_startOver_22 : decode cX1_startOver 22 = .ok (.putfield 34, 3) := by decide +kernel
theorem dX1_startOver_25 : decode cX1_startOver 25 = .ok (.aload_n 0, 1) := by decide +kernel
theorem dX1_startOver_26 : decode cX1_startOver 26 = .ok (.iconst 0, 1) := by decide +kernel
theorem dX1_startOver_27 : decode cX1_startOver 27 = .ok (.putfield 37, 3) := by decide +kernel
theorem dX1_startOver_30 : decode cX1_startOver 30 = .ok (.aload_n 0, 1) := by decide +kernel
theorem dX1_startOver_31 : decode cX1_startOver 31 = .ok (.iconst 0, 1) := by decide +kernel
theorem dX1_startOver_32 : decode cX1_startOver 32 = .ok (.putfield 40, 3) := by decide +kernel
theorem dX1_startOver_35 : decode cX1_startOver 35 = .ok (.aload_n 0, 1) := by decide +kernel
theorem dX1_startOver_36 : decode cX1_startOver 36 = .ok (.iconst 0, 1) := by decide +kernel
theorem dX1_startOver_37 : decode cX1_startOver 37 = .ok (.putfield 44, 3) := by decide +kernel
theorem dX1_startOver_40 : decode cX1_startOver 40 = .ok (.aload_n 0, 1) := by decide +kernel
theorem dX1_startOver_41 : decode cX1_startOver 41 = .ok (.iconst 0, 1) := by decide +kernel
theorem dX1_startOver_42 : decode cX1_startOver 42 = .ok (.putfield 47, 3) := by decide +kernel
theorem dX1_startOver_45 : decode cX1_startOver 45 = .ok (.aload_n 0, 1) := by decide +kernel
theorem dX1_startOver_46 : decode cX1_startOver 46 = .ok (.iconst 0, 1) := by decide +kernel
theorem dX1_startOver_47 : decode cX1_startOver 47 = .ok (.putfield 50, 3) := by decide +kernel
theorem dX1_startOver_50 : decode cX1_startOver 50 = .ok (.aload_n 0, 1) := by decide +kernel
theorem dX1_startOver_51 : decode cX1_startOver 51 = .ok (.iconst (-1), 1) := by decide +kernel
theorem dX1_startOver_52 : decode cX1_startOver 52 = .ok (.putfield 53, 3) := by decide +kernel
theorem dX1_startOver_55 : decode cX1_startOver 55 = .ok (.aload_n 0, 1) := by decide +kernel
theorem dX1_startOver_56 : decode cX1_startOver 56 = .ok (.iconst (-1), 1) := by decide +kernel
theorem dX1_startOver_57 : decode cX1_startOver 57 = .ok (.putfield 56, 3) := by decide +kernel
theorem dX1_startOver_60 : decode cX1_startOver 60 = .ok (.aload_n 0, 1) := by decide +kernel
theorem dX1_startOver_61 : decode cX1_startOver 61 = .ok (.iconst 0, 1) := by decide +kernel
theorem dX1_startOver_62 : decode cX1_startOver 62 = .ok (.putfield 59, 3) := by decide +kernel
theorem dX1_startOver_65 : decode cX1_startOver 65 = .ok (.aload_n 0, 1) := by decide +kernel
theorem dX1_startOver_66 : decode cX1_startOver 66 = .ok (.iconst 0, 1) := by decide +kernel
theorem dX1_startOver_67 : decode cX1_startOver 67 = .ok (.putfield 62, 3) := by decide +kernel
theorem dX1_startOver_70 : decode cX1_startOver 70 = .ok (.aload_n 0, 1) := by decide +kernel
theorem dX1_startOver_71 : decode cX1_startOver 71 = .ok (.iconst 0, 1) := by decide +kernel
theorem dX1_startOver_72 : decode cX1_startOver 72 = .ok (.putfield 65, 3) := by decide +kernel
theorem dX1_startOver_75 : decode cX1_startOver 75 = .ok (.return_, 1) := by decide +kernel
theorem dX1_tellArrival_0 : decode cX1_tellArrival 0 = .ok (.aload_n 0, 1) := by decide +kernel
theorem dX1_tellArrival_1 : decode cX1_tellArrival 1 = .ok (.iload_n 1, 1) := by decide +kernel
theorem dX1_tellArrival_2 : decode cX1_tellArrival 2 = .ok (.putfield 9, 3) := by decide +kernel
theorem dX1_tellArrival_5 : decode cX1_tellArrival 5 = .ok (.aload_n 0, 1) := by decide +kernel
theorem dX1_tellArrival_6 : decode cX1_tellArrival 6 = .ok (.iconst 0, 1) := by decide +kernel
theorem dX1_tellArrival_7 : decode cX1_tellArrival 7 = .ok (.putfield 19, 3) := by decide +kernel
theorem dX1_tellArrival_10 : decode cX1_tellArrival 10 = .ok (.return_, 1) := by decide +kernel
theorem dX1_tellBurst_0 : decode cX1_tellBurst 0 = .ok (.aload_n 0, 1) := by decide +kernel
theorem dX1_tellBurst_1 : decode cX1_tellBurst 1 = .ok (.getfield 19, 3) := by decide +kernel
theorem dX1_tellBurst_4 : decode cX1_tellBurst 4 = .ok (.bipush 12, 2) := by decide +kernel
theorem dX1_tellBurst_6 : decode cX1_tellBurst 6 = .ok (.if_icmp .lt 5, 3) := by decide +kernel
theorem dX1_tellBurst_9 : decode cX1_tellBurst 9 = .ok (.iconst (-1), 1) := by decide +kernel
theorem dX1_tellBurst_10 : decode cX1_tellBurst 10 = .ok (.ireturn, 1) := by decide +kernel
theorem dX1_tellBurst_11 : decode cX1_tellBurst 11 = .ok (.aload_n 0, 1) := by decide +kernel
theorem dX1_tellBurst_12 : decode cX1_tellBurst 12 = .ok (.getfield 15, 3) := by decide +kernel
theorem dX1_tellBurst_15 : decode cX1_tellBurst 15 = .ok (.aload_n 0, 1) := by decide +kernel
theorem dX1_tellBurst_16 : decode cX1_tellBurst 16 = .ok (.getfield 19, 3) := by decide +kernel
theorem dX1_tellBurst_19 : decode cX1_tellBurst 19 = .ok (.iload_n 1, 1) := by decide +kernel
theorem dX1_tellBurst_20 : decode cX1_tellBurst 20 = .ok (.iastore, 1) := by decide +kernel
theorem dX1_tellBurst_21 : decode cX1_tellBurst 21 = .ok (.aload_n 0, 1) := by decide +kernel
theorem dX1_tellBurst_22 : decode cX1_tellBurst 22 = .ok (.dup, 1) := by decide +kernel
theorem dX1_tellBurst_23 : decode cX1_tellBurst 23 = .ok (.getfield 19, 3) := by decide +kernel
theorem dX1_tellBurst_26 : decode cX1_tellBurst 26 = .ok (.iconst 1, 1) := by decide +kernel
theorem dX1_tellBurst_27 : decode cX1_tellBurst 27 = .ok (.iadd, 1) := by decide +kernel
theorem dX1_tellBurst_28 : decode cX1_tellBurst 28 = .ok (.putfield 19, 3) := by decide +kernel
theorem dX1_tellBurst_31 : decode cX1_tellBurst 31 = .ok (.aload_n 0, 1) := by decide +kernel
theorem dX1_tellBurst_32 : decode cX1_tellBurst 32 = .ok (.getfield 19, 3) := by decide +kernel
theorem dX1_tellBurst_35 : decode cX1_tellBurst 35 = .ok (.ireturn, 1) := by decide +kernel
theorem dX1_beginBurst_0 : decode cX1_beginBurst 0 = .ok (.aload_n 0, 1) := by decide +kernel
theorem dX1_beginBurst_1 : decode cX1_beginBurst 1 = .ok (.getfield 28, 3) := by decide +kernel
theorem dX1_beginBurst_4 : decode cX1_beginBurst 4 = .ok (.aload_n 0, 1) := by decide +kernel
theorem dX1_beginBurst_5 : decode cX1_beginBurst 5 = .ok (.getfield 19, 3) := by decide +kernel
theorem dX1_beginBurst_8 : decode cX1_beginBurst 8 = .ok (.if_icmp .lt 5, 3) := by decide +kernel
theorem dX1_beginBurst_11 : decode cX1_beginBurst 11 = .ok (.iconst 0, 1) := by decide +kernel
theorem dX1_beginBurst_12 : decode cX1_beginBurst 12 = .ok (.ireturn, 1) := by decide +kernel
theorem dX1_beginBurst_13 : decode cX1_beginBurst 13 = .ok (.aload_n 0, 1) := by decide +kernel
theorem dX1_beginBurst_14 : decode cX1_beginBurst 14 = .ok (.aload_n 0, 1) := by decide +kernel
theorem dX1_beginBurst_15 : decode cX1_beginBurst 15 = .ok (.getfield 15, 3) := by decide +kernel
theorem dX1_beginBurst_18 : decode cX1_beginBurst 18 = .ok (.aload_n 0, 1) := by decide +kernel
theorem dX1_beginBurst_19 : decode cX1_beginBurst 19 = .ok (.getfield 28, 3) := by decide +kernel
theorem dX1_beginBurst_22 : decode cX1_beginBurst 22 = .ok (.iaload, 1) := by decide +kernel
theorem dX1_beginBurst_23 : decode cX1_beginBurst 23 = .ok (.putfield 31, 3) := by decide +kernel
theorem dX1_beginBurst_26 : decode cX1_beginBurst 26 = .ok (.aload_n 0, 1) := by decide +kernel
theorem dX1_beginBurst_27 : decode cX1_beginBurst 27 = .ok (.dup, 1) := by decide +kernel
theorem dX1_beginBurst_28 : decode cX1_beginBurst 28 = .ok (.getfield 28, 3) := by decide +kernel
theorem dX1_beginBurst_31 : decode cX1_beginBurst 31 = .ok (.iconst 1, 1) := by decide +kernel
theorem dX1_beginBurst_32 : decode cX1_beginBurst 32 = .ok (.iadd, 1) := by decide +kernel
theorem dX1_beginBurst_33 : decode cX1_beginBurst 33 = .ok (.putfield 28, 3) := by decide +kernel
theorem dX1_beginBurst_36 : decode cX1_beginBurst 36 = .ok (.iconst 1, 1) := by decide +kernel
theorem dX1_beginBurst_37 : decode cX1_beginBurst 37 = .ok (.ireturn, 1) := by decide +kernel
theorem dX1_beginRunning_0 : decode cX1_beginRunning 0 = .ok (.aload_n 0, 1) := by decide +kernel
theorem dX1_beginRunning_1 : decode cX1_beginRunning 1 = .ok (.iconst 2, 1) := by decide +kernel
theorem dX1_beginRunning_2 : decode cX1_beginRunning 2 = .ok (.putfield 22, 3) := by decide +kernel
theorem dX1_beginRunning_5 : decode cX1_beginRunning 5 = .ok (.aload_n 0, 1) := by decide +kernel
theorem dX1_beginRunning_6 : decode cX1_beginRunning 6 = .ok (.getfield 40, 3) := by decide +kernel
theorem dX1_beginRunning_9 : decode cX1_beginRunning 9 = .ok (.ifCond .ne 8, 3) := by decide +kernel
theorem dX1_beginRunning_12 : decode cX1_beginRunning 12 = .ok (.aload_n 0, 1) := by decide +kernel
theorem dX1_beginRunning_13 : decode cX1_beginRunning 13 = .ok (.iload_n 2, 1) := by decide +kernel
theorem dX1_beginRunning_14 : decode cX1_beginRunning 14 = .ok (.putfield 34, 3) := by decide +kernel
theorem dX1_beginRunning_17 : decode cX1_beginRunning 17 = .ok (.aload_n 0, 1) := by decide +kernel
theorem dX1_beginRunning_18 : decode cX1_beginRunning 18 = .ok (.iconst 0, 1) := by decide +kernel
theorem dX1_beginRunning_19 : decode cX1_beginRunning 19 = .ok (.putfield 40, 3) := by decide +kernel
theorem dX1_beginRunning_22 : decode cX1_beginRunning 22 = .ok (.aload_n 0, 1) := by decide +kernel
theorem dX1_beginRunning_23 : decode cX1_beginRunning 23 = .ok (.dup, 1) := by decide +kernel
theorem dX1_beginRunning_24 : decode cX1_beginRunning 24 = .ok (.getfield 59, 3) := by decide +kernel
theorem dX1_beginRunning_27 : decode cX1_beginRunning 27 = .ok (.iconst 1, 1) := by decide +kernel
theorem dX1_beginRunning_28 : decode cX1_beginRunning 28 = .ok (.iadd, 1) := by decide +kernel
theorem dX1_beginRunning_29 : decode cX1_beginRunning 29 = .ok (.putfield 59, 3) := by decide +kernel
theorem dX1_beginRunning_32 : decode cX1_beginRunning 32 = .ok (.aload_n 0, 1) := by decide +kernel
theorem dX1_beginRunning_33 : decode cX1_beginRunning 33 = .ok (.getfield 53, 3) := by decide +kernel
theorem dX1_beginRunning_36 : decode cX1_beginRunning 36 = .ok (.iconst (-1), 1) := by decide +kernel
theorem dX1_beginRunning_37 : decode cX1_beginRunning 37 = .ok (.if_icmp .ne 8, 3) := by decide +kernel
theorem dX1_beginRunning_40 : decode cX1_beginRunning 40 = .ok (.aload_n 0, 1) := by decide +kernel
theorem dX1_beginRunning_41 : decode cX1_beginRunning 41 = .ok (.iload_n 1, 1) := by decide +kernel
theorem dX1_beginRunning_42 : decode cX1_beginRunning 42 = .ok (.putfield 53, 3) := by decide +kernel
theorem dX1_beginRunning_45 : decode cX1_beginRunning 45 = .ok (.return_, 1) := by decide +kernel
theorem dX1_comeUp_0 : decode cX1_comeUp 0 = .ok (.aload_n 0, 1) := by decide +kernel
theorem dX1_comeUp_1 : decode cX1_comeUp 1 = .ok (.iconst 0, 1) := by decide +kernel
theorem dX1_comeUp_2 : decode cX1_comeUp 2 = .ok (.putfield 25, 3) := by decide +kernel
theorem dX1_comeUp_5 : decode cX1_comeUp 5 = .ok (.aload_n 0, 1) := by decide +kernel
theorem dX1_comeUp_6 : decode cX1_comeUp 6 = .ok (.iload_n 2, 1) := by decide +kernel
theorem dX1_comeUp_7 : decode cX1_comeUp 7 = .ok (.putfield 37, 3) := by decide +kernel
theorem dX1_comeUp_10 : decode cX1_comeUp 10 = .ok (.aload_n 0, 1) := by decide +kernel
theorem dX1_comeUp_11 : decode cX1_comeUp 11 = .ok (.aload_n 0, 1) := by decide +kernel
theorem dX1_comeUp_12 : decode cX1_comeUp 12 = .ok (.getfield 22, 3) := by decide +kernel
theorem dX1_comeUp_15 : decode cX1_comeUp 15 = .ok (.iconst 2, 1) := by decide +kernel
theorem dX1_comeUp_16 : decode cX1_comeUp 16 = .ok (.if_icmp .ne 7, 3) := by decide +kernel
theorem dX1_comeUp_19 : decode cX1_comeUp 19 = .ok (.iload_n 1, 1) := by decide +kernel
theorem dX1_comeUp_20 : decode cX1_comeUp 20 = .ok (.goto 11, 3) := by decide +kernel
theorem dX1_comeUp_23 : decode cX1_comeUp 23 = .ok (.aload_n 0, 1) := by decide +kernel
theorem dX1_comeUp_24 : decode cX1_comeUp 24 = .ok (.getfield 34, 3) := by decide +kernel
theorem dX1_comeUp_27 : decode cX1_comeUp 27 = .ok (.iload_n 1, 1) := by decide +kernel
theorem dX1_comeUp_28 : decode cX1_comeUp 28 = .ok (.invokestatic 71, 3) := by decide +kernel
theorem dX1_comeUp_31 : decode cX1_comeUp 31 = .ok (.putfield 34, 3) := by decide +kernel
theorem dX1_comeUp_34 : decode cX1_comeUp 34 = .ok (.return_, 1) := by decide +kernel
set_option maxRecDepth 20000 in
theorem ggX2_init_X0_init : GoodIn wsX2_init wsX0_init := goodIn_r _ [24, 25, 2, 3, 26, 27, 8, 28, 29, 64, 65, 66, 67] (by decide +kernel) (by decide +kernel)
set_option maxRecDepth 20000 in
theorem gX2_init_X0_init_n54 : GoodIn wsX2_init (wsX0_init) := ggX2_init_X0_init
set_option maxRecDepth 20000 in
theorem ggX2_init_X1_init : GoodIn wsX2_init wsX1_init := goodIn_r _ [31, 32, 2, 3, 33, 8, 34, 35, 36, 37, 38, 39, 40, 41, 42, 43, 44, 45, 46, 47, 48, 49, 50, 51, 68, 69, 70, 71, 72, 73, 74, 75, 76, 77, 78, 79, 80, 81, 82, 83, 84, 85, 86] (by decide +kernel) (by decide +kernel)
set_option maxRecDepth 20000 in
theorem gX2_init_X1_init_n55 : GoodIn wsX2_init (wsX1_init) := ggX2_init_X1_init
theorem dX2_init_0 : decode cX2_init 0 = .ok (.aload_n 0, 1) := by decide +kernel
theorem dX2_init_1 : decode cX2_init 1 = .ok (.invokespecial 1, 3) := by decide +kernel
theorem dX2_init_4 : decode cX2_init 4 = .ok (.aload_n 0, 1) := by decide +kernel
theorem dX2_init_5 : decode cX2_init 5 = .ok (.bipush 6, 2) := by decide +kernel
theorem dX2_init_7 : decode cX2_init 7 = .ok (.anewarray 9, 3) := by decide +kernel
theorem dX2_init_10 : decode cX2_init 10 = .ok (.putfield 11, 3) := by decide +kernel
theorem dX2_init_13 : decode cX2_init 13 = .ok (.aload_n 0, 1) := by decide +kernel
theorem dX2_init_14 : decode cX2_init 14 = .ok (.bipush 16, 2) := by decide +kernel
theorem dX2_init_16 : decode cX2_init 16 = .ok (.anewarray 15, 3) := by decide +kernel
theorem dX2_init_19 : decode cX2_init 19 = .ok (.putfield 17, 3) := by decide +kernel
theorem dX2_init_22 : decode cX2_init 22 = .ok (.aload_n 0, 1) := by decide +kernel
theorem dX2_init_23 : decode cX2_init 23 = .ok (.sipush 400, 3) := by decide +kernel
theorem dX2_init_26 : decode cX2_init 26 = .ok (.newarray .int, 2) := by decide +kernel
theorem dX2_init_28 : decode cX2_init 28 = .ok (.putfield 21, 3) := by decide +kernel
theorem dX2_init_31 : decode cX2_init 31 = .ok (.aload_n 0, 1) := by decide +kernel
theorem dX2_init_32 : decode cX2_init 32 = .ok (.iconst 1, 1) := by decide +kernel
theorem dX2_init_33 : decode cX2_init 33 = .ok (.putfield 25, 3) := by decide +kernel
theorem dX2_init_36 : decode cX2_init 36 = .ok (.aload_n 0, 1) := by decide +kernel
theorem dX2_init_37 : decode cX2_init 37 = .ok (.iconst 0, 1) := by decide +kernel
theorem dX2_init_38 : decode cX2_init 38 = .ok (.putfield 29, 3) := by decide +kernel
theorem dX2_init_41 : decode cX2_init 41 = .ok (.aload_n 0, 1) := by decide +kernel
theorem dX2_init_42 : decode cX2_init 42 = .ok (.iconst 0, 1) := by decide +kernel
theorem dX2_init_43 : decode cX2_init 43 = .ok (.putfield 32, 3) := by decide +kernel
theorem dX2_init_46 : decode cX2_init 46 = .ok (.aload_n 0, 1) := by decide +kernel
theorem dX2_init_47 : decode cX2_init 47 = .ok (.iconst 0, 1) := by decide +kernel
theorem dX2_init_48 : decode cX2_init 48 = .ok (.putfield 35, 3) := by decide +kernel
theorem dX2_init_51 : decode cX2_init 51 = .ok (.aload_n 0, 1) := by decide +kernel
theorem dX2_init_52 : decode cX2_init 52 = .ok (.aconst_null, 1) := by decide +kernel
theorem dX2_init_53 : decode cX2_init 53 = .ok (.putfield 38, 3) := by decide +kernel
theorem dX2_init_56 : decode cX2_init 56 = .ok (.aload_n 0, 1) := by decide +kernel
theorem dX2_init_57 : decode cX2_init 57 = .ok (.iconst 0, 1) := by decide +kernel
theorem dX2_init_58 : decode cX2_init 58 = .ok (.putfield 42, 3) := by decide +kernel
theorem dX2_init_61 : decode cX2_init 61 = .ok (.aload_n 0, 1) := by decide +kernel
theorem dX2_init_62 : decode cX2_init 62 = .ok (.iconst 0, 1) := by decide +kernel
theorem dX2_init_63 : decode cX2_init 63 = .ok (.putfield 45, 3) := by decide +kernel
theorem dX2_init_66 : decode cX2_init 66 = .ok (.aload_n 0, 1) := by decide +kernel
theorem dX2_init_67 : decode cX2_init 67 = .ok (.iconst 0, 1) := by decide +kernel
theorem dX2_init_68 : decode cX2_init 68 = .ok (.putfield 48, 3) := by decide +kernel
theorem dX2_init_71 : decode cX2_init 71 = .ok (.aload_n 0, 1) := by decide +kernel
theorem dX2_init_72 : decode cX2_init 72 = .ok (.iconst 0, 1) := by decide +kernel
theorem dX2_init_73 : decode cX2_init 73 = .ok (.putfield 51, 3) := by decide +kernel
theorem dX2_init_76 : decode cX2_init 76 = .ok (.iconst 0, 1) := by decide +kernel
theorem dX2_init_77 : decode cX2_init 77 = .ok (.istore_n 1, 1) := by decide +kernel
theorem dX2_init_78 : decode cX2_init 78 = .ok (.iload_n 1, 1) := by decide +kernel
theorem dX2_init_79 : decode cX2_init 79 = .ok (.bipush 6, 2) := by decide +kernel
theorem dX2_init_81 : decode cX2_init 81 = .ok (.if_icmp .ge 22, 3) := by decide +kernel
theorem dX2_init_84 : decode cX2_init 84 = .ok (.aload_n 0, 1) := by decide +kernel
theorem dX2_init_85 : decode cX2_init 85 = .ok (.getfield 11, 3) := by decide +kernel
theorem dX2_init_88 : decode cX2_init 88 = .ok (.iload_n 1, 1) := by decide +kernel
theorem dX2_init_89 : decode cX2_init 89 = .ok (.new 9, 3) := by decide +kernel
theorem dX2_init_92 : decode cX2_init 92 = .ok (.dup, 1) := by decide +kernel
theorem dX2_init_93 : decode cX2_init 93 = .ok (.invokespecial 54, 3) := by decide +kernel
theorem dX2_init_96 : decode cX2_init 96 = .ok (.aastore, 1) := by decide +kernel
theorem dX2_init_97 : decode cX2_init 97 = .ok (.iinc 1 1, 3) := by decide +kernel
theorem dX2_init_100 : decode cX2_init 100 = .ok (.goto (-22), 3) := by decide +kernel
theorem dX2_init_103 : decode cX2_init 103 = .ok (.iconst 0, 1) := by decide +kernel
theorem dX2_init_104 : decode cX2_init 104 = .ok (.istore_n 1, 1) := by decide +kernel
theorem dX2_init_105 : decode cX2_init 105 = .ok (.iload_n 1, 1) := by decide +kernel
theorem dX2_init_106 : decode cX2_init 106 = .ok (.bipush 16, 2) := by decide +kernel
theorem dX2_init_108 : decode cX2_init 108 = .ok (.if_icmp .ge 23, 3) := by decide +kernel
theorem dX2_init_111 : decode cX2_init 111 = .ok (.aload_n 0, 1) := by decide +kernel
theorem dX2_init_112 : decode cX2_init 112 = .ok (.getfield 17, 3) := by decide +kernel
theorem dX2_init_115 : decode cX2_init 115 = .ok (.iload_n 1, 1) := by decide +kernel
theorem dX2_init_116 : decode cX2_init 116 = .ok (.new 15, 3) := by decide +kernel
theorem dX2_init_119 : decode cX2_init 119 = .ok (.dup, 1) := by decide +kernel
theorem dX2_init_120 : decode cX2_init 120 = .ok (.iload_n 1, 1) := by decide +kernel
theorem dX2_init_121 : decode cX2_init 121 = .ok (.invokespecial 55, 3) := by decide +kernel
theorem dX2_init_124 : decode cX2_init 124 = .ok (.aastore, 1) := by decide +kernel
theorem dX2_init_125 : decode cX2_init 125 = .ok (.iinc 1 1, 3) := by decide +kernel
theorem dX2_init_128 : decode cX2_init 128 = .ok (.goto (-23), 3) := by decide +kernel
theorem dX2_init_131 : decode cX2_init 131 = .ok (.return_, 1) := by decide +kernel
set_option maxRecDepth 20000 in
theorem ggX2_levels_X2_startOver : GoodIn wsX2_levels wsX2_startOver := goodIn_r _ [10, 11, 12, 13, 14, 15, 16, 4, 17, 18, 19, 20, 21, 22, 23, 24, 25, 26, 27, 28, 29, 30, 31, 32, 33, 34, 35, 36, 37, 38, 39, 40, 41, 42, 43, 44, 45, 46, 47, 48, 49, 50, 51, 52, 53, 54, 55, 56, 57, 58, 59, 60, 61, 62, 63, 64, 65, 66, 67, 68, 69, 70, 71, 72, 73, 74, 75, 76] (by decide +kernel) (by decide +kernel)
set_option maxRecDepth 20000 in
theorem gX2_levels_X2_startOver : GoodIn wsX2_levels (wsV RX2 71 RX2 yX2_startOver wsX2_startOver) := goodIn_app (goodIn_of _ (by decide +kernel)) ggX2_levels_X2_startOver
theorem dX2_levels_0 : decode cX2_levels 0 = .ok (.iload_n 1, 1) := by decide +kernel
theorem dX2_levels_1 : decode cX2_levels 1 = .ok (.iconst 1, 1) := by decide +kernel
theorem dX2_levels_2 : decode cX2_levels 2 = .ok (.if_icmp .lt 9, 3) := by decide +kernel
theorem dX2_levels_5 : decode cX2_levels 5 = .ok (.iload_n 1, 1) := by decide +kernel
theorem dX2_levels_6 : decode cX2_levels 6 = .ok (.bipush 6, 2) := by decide +kernel
theorem dX2_levels_8 : decode cX2_levels 8 = .ok (.if_icmp .le 13, 3) := by decide +kernel
theorem dX2_levels_11 : decode cX2_levels 11 = .ok (.new 58, 3) := by decide +kernel
theorem dX2_levels_14 : decode cX2_levels 14 = .ok (.dup, 1) := by decide +kernel
theorem dX2_levels_15 : decode cX2_levels 15 = .ok (.ldc 60, 2) := by decide +kernel
theorem dX2_levels_17 : decode cX2_levels 17 = .ok (.invokespecial 62, 3) := by decide +kernel
theorem dX2_levels_20 : decode cX2_levels 20 = .ok (.athrow, 1) := by decide +kernel
theorem dX2_levels_21 : decode cX2_levels 21 = .ok (.aload_n 0, 1) := by decide +kernel
theorem dX2_levels_22 : decode cX2_levels 22 = .ok (.iload_n 1, 1) := by decide +kernel
theorem dX2_levels_23 : decode cX2_levels 23 = .ok (.putfield 25, 3) := by decide +kernel
theorem dX2_levels_26 : decode cX2_levels 26 = .ok (.iconst 0, 1) := by decide +kernel
theorem dX2_levels_27 : decode cX2_levels 27 = .ok (.istore_n 2, 1) := by decide +kernel
theorem dX2_levels_28 : decode cX2_levels 28 = .ok (.iload_n 2, 1) := by decide +kernel
theorem dX2_levels_29 : decode cX2_levels 29 = .ok (.bipush 6, 2) := by decide +kernel
theorem dX2_levels_31 : decode cX2_levels 31 = .ok (.if_icmp .ge 29, 3) := by decide +kernel
theorem dX2_levels_34 : decode cX2_levels 34 = .ok (.aload_n 0, 1) := by decide +kernel
theorem dX2_levels_35 : decode cX2_levels 35 = .ok (.getfield 11, 3) := by decide +kernel
theorem dX2_levels_38 : decode cX2_levels 38 = .ok (.iload_n 2, 1) := by decide +kernel
theorem dX2_levels_39 : decode cX2_levels 39 = .ok (.aaload, 1) := by decide +kernel
theorem dX2_levels_40 : decode cX2_levels 40 = .ok (.iconst 1, 1) := by decide +kernel
theorem dX2_levels_41 : decode cX2_levels 41 = .ok (.putfield 65, 3) := by decide +kernel
theorem dX2_levels_44 : decode cX2_levels 44 = .ok (.aload_n 0, 1) := by decide +kernel
theorem dX2_levels_45 : decode cX2_levels 45 = .ok (.getfield 11, 3) := by decide +kernel
theorem dX2_levels_48 : decode cX2_levels 48 = .ok (.iload_n 2, 1) := by decide +kernel
theorem dX2_levels_49 : decode cX2_levels 49 = .ok (.aaload, 1) := by decide +kernel
theorem dX2_levels_50 : decode cX2_levels 50 = .ok (.iconst 1, 1) := by decide +kernel
theorem dX2_levels_51 : decode cX2_levels 51 = .ok (.putfield 68, 3) := by decide +kernel
theorem dX2_levels_54 : decode cX2_levels 54 = .ok (.iinc 2 1, 3) := by decide +kernel
theorem dX2_levels_57 : decode cX2_levels 57 = .ok (.goto (-29), 3) := by decide +kernel
theorem dX2_levels_60 : decode cX2_levels 60 = .ok (.aload_n 0, 1) := by decide +kernel
theorem dX2_levels_61 : decode cX2_levels 61 = .ok (.iconst 0, 1) := by decide +kernel
theorem dX2_levels_62 : decode cX2_levels 62 = .ok (.putfield 29, 3) := by decide +kernel
theorem dX2_levels_65 : decode cX2_levels 65 = .ok (.aload_n 0, 1) := by decide +kernel
theorem dX2_levels_66 : decode cX2_levels 66 = .ok (.invokevirtual 71, 3) := by decide +kernel
theorem dX2_levels_69 : decode cX2_levels 69 = .ok (.return_, 1) := by decide +kernel
set_option maxRecDepth 20000 in
theorem ggX2_level_X2_isLevel : GoodIn wsX2_level wsX2_isLevel := goodIn_r _ [13, 14, 15, 16, 17, 18, 19, 20, 21, 22, 23, 24, 25, 26] (by decide +kernel) (by decide +kernel)
set_option maxRecDepth 20000 in
theorem gX2_level_X2_isLevel : GoodIn wsX2_level (wsV RX2 74 RX2 yX2_isLevel wsX2_isLevel) := goodIn_app (goodIn_of _ (by decide +kernel)) ggX2_level_X2_isLevel
theorem dX2_level_0 : decode cX2_level 0 = .ok (.aload_n 0, 1) := by decide +kernel
theorem dX2_level_1 : decode cX2_level 1 = .ok (.iload_n 1, 1) := by decide +kernel
theorem dX2_level_2 : decode cX2_level 2 = .ok (.invokevirtual 74, 3) := by decide +kernel
theorem dX2_level_5 : decode cX2_level 5 = .ok (.ifCond .ne 13, 3) := by decide +kernel
theorem dX2_level_8 : decode cX2_level 8 = .ok (.new 78, 3) := by decide +kernel
theorem dX2_level_11 : decode cX2_level 11 = .ok (.dup, 1) := by decide +kernel
theorem dX2_level_12 : decode cX2_level 12 = .ok (.ldc 80, 2) := by decide +kernel
theorem dX2_level_14 : decode cX2_level 14 = .ok (.invokespecial 82, 3) := by decide +kernel
theorem dX2_level_17 : decode cX2_level 17 = .ok (.athrow, 1) := by decide +kernel
theorem dX2_level_18 : decode cX2_level 18 = .ok (.iload_n 2, 1) := by decide +kernel
theorem dX2_level_19 : decode cX2_level 19 = .ok (.iconst 1, 1) := by decide +kernel
theorem dX2_level_20 : decode cX2_level 20 = .ok (.if_icmp .lt 9, 3) := by decide +kernel
theorem dX2_level_23 : decode cX2_level 23 = .ok (.iload_n 2, 1) := by decide +kernel
theorem dX2_level_24 : decode cX2_level 24 = .ok (.bipush 100, 2) := by decide +kernel
theorem dX2_level_26 : decode cX2_level 26 = .ok (.if_icmp .le 13, 3) := by decide +kernel
theorem dX2_level_29 : decode cX2_level 29 = .ok (.new 58, 3) := by decide +kernel
theorem dX2_level_32 : decode cX2_level 32 = .ok (.dup, 1) := by decide +kernel
theorem dX2_level_33 : decode cX2_level 33 = .ok (.ldc 83, 2) := by decide +kernel
theorem dX2_level_35 : decode cX2_level 35 = .ok (.invokespecial 62, 3) := by decide +kernel
theorem dX2_level_38 : decode cX2_level 38 = .ok (.athrow, 1) := by decide +kernel
theorem dX2_level_39 : decode cX2_level 39 = .ok (.iload_n 3, 1) := by decide +kernel
theorem dX2_level_40 : decode cX2_level 40 = .ok (.iconst 1, 1) := by decide +kernel
theorem dX2_level_41 : decode cX2_level 41 = .ok (.if_icmp .lt 10, 3) := by decide +kernel
theorem dX2_level_44 : decode cX2_level 44 = .ok (.iload_n 3, 1) := by decide +kernel
theorem dX2_level_45 : decode cX2_level 45 = .ok (.sipush 1000, 3) := by decide +kernel
theorem dX2_level_48 : decode cX2_level 48 = .ok (.if_icmp .le 13, 3) := by decide +kernel
theorem dX2_level_51 : decode cX2_level 51 = .ok (.new 58, 3) := by decide +kernel
theorem dX2_level_54 : decode cX2_level 54 = .ok (.dup, 1) := by decide +kernel
theorem dX2_level_55 : decode cX2_level 55 = .ok (.ldc 85, 2) := by decide +kernel
theorem dX2_level_57 : decode cX2_level 57 = .ok (.invokespecial 62, 3) := by decide +kernel
theorem dX2_level_60 : decode cX2_level 60 = .ok (.athrow, 1) := by decide +kernel
theorem dX2_level_61 : decode cX2_level 61 = .ok (.aload_n 0, 1) := by decide +kernel
theorem dX2_level_62 : decode cX2_level 62 = .ok (.getfield 35, 3) := by decide +kernel
theorem dX2_level_65 : decode cX2_level 65 = .ok (.ifCond .eq 13, 3) := by decide +kernel
theorem dX2_level_68 : decode cX2_level 68 = .ok (.new 87, 3) := by decide +kernel
theorem dX2_level_71 : decode cX2_level 71 = .ok (.dup, 1) := by decide +kernel
theorem dX2_level_72 : decode cX2_level 72 = .ok (.ldc 89, 2) := by decide +kernel
theorem dX2_level_74 : decode cX2_level 74 = .ok (.invokespecial 91, 3) := by decide +kernel
theorem dX2_level_77 : decode cX2_level 77 = .ok (.athrow, 1) := by decide +kernel
theorem dX2_level_78 : decode cX2_level 78 = .ok (.aload_n 0, 1) := by decide +kernel
theorem dX2_level_79 : decode cX2_level 79 = .ok (.getfield 11, 3) := by decide +kernel
theorem dX2_level_82 : decode cX2_level 82 = .ok (.iload_n 1, 1) := by decide +kernel
theorem dX2_level_83 : decode cX2_level 83 = .ok (.aaload, 1) := by decide +kernel
theorem dX2_level_84 : decode cX2_level 84 = .ok (.iload_n 2, 1) := by decide +kernel
theorem dX2_level_85 : decode cX2_level 85 = .ok (.putfield 65, 3) := by decide +kernel
theorem dX2_level_88 : decode cX2_level 88 = .ok (.aload_n 0, 1) := by decide +kernel
theorem dX2_level_89 : decode cX2_level 89 = .ok (.getfield 11, 3) := by decide +kernel
theorem dX2_level_92 : decode cX2_level 92 = .ok (.iload_n 1, 1) := by decide +kernel
theorem dX2_level_93 : decode cX2_level 93 = .ok (.aaload, 1) := by decide +kernel
theorem dX2_level_94 : decode cX2_level 94 = .ok (.iload_n 3, 1) := by decide +kernel
theorem dX2_level_95 : decode cX2_level 95 = .ok (.putfield 68, 3) := by decide +kernel
theorem dX2_level_98 : decode cX2_level 98 = .ok (.return_, 1) := by decide +kernel
theorem dX2_period_0 : decode cX2_period 0 = .ok (.iload_n 1, 1) := by decide +kernel
theorem dX2_period_1 : decode cX2_period 1 = .ok (.ifCond .lt 10, 3) := by decide +kernel
theorem dX2_period_4 : decode cX2_period 4 = .ok (.iload_n 1, 1) := by decide +kernel
theorem dX2_period_5 : decode cX2_period 5 = .ok (.sipush 10000, 3) := by decide +kernel
theorem dX2_period_8 : decode cX2_period 8 = .ok (.if_icmp .le 13, 3) := by decide +kernel
theorem dX2_period_11 : decode cX2_period 11 = .ok (.new 58, 3) := by decide +kernel
theorem dX2_period_14 : decode cX2_period 14 = .ok (.dup, 1) := by decide +kernel
theorem dX2_period_15 : decode cX2_period 15 = .ok (.ldc 92, 2) := by decide +kernel
theorem dX2_period_17 : decode cX2_period 17 = .ok (.invokespecial 62, 3) := by decide +kernel
theorem dX2_period_20 : decode cX2_period 20 = .ok (.athrow, 1) := by decide +kernel
theorem dX2_period_21 : decode cX2_period 21 = .ok (.aload_n 0, 1) := by decide +kernel
theorem dX2_period_22 : decode cX2_period 22 = .ok (.getfield 35, 3) := by decide +kernel
theorem dX2_period_25 : decode cX2_period 25 = .ok (.ifCond .eq 13, 3) := by decide +kernel
theorem dX2_period_28 : decode cX2_period 28 = .ok (.new 87, 3) := by decide +kernel
theorem dX2_period_31 : decode cX2_period 31 = .ok (.dup, 1) := by decide +kernel
theorem dX2_period_32 : decode cX2_period 32 = .ok (.ldc 89, 2) := by decide +kernel
theorem dX2_period_34 : decode cX2_period 34 = .ok (.invokespecial 91, 3) := by decide +kernel
theorem dX2_period_37 : decode cX2_period 37 = .ok (.athrow, 1) := by decide +kernel
theorem dX2_period_38 : decode cX2_period 38 = .ok (.aload_n 0, 1) := by decide +kernel
theorem dX2_period_39 : decode cX2_period 39 = .ok (.iload_n 1, 1) := by decide +kernel
theorem dX2_period_40 : decode cX2_period 40 = .ok (.putfield 32, 3) := by decide +kernel
theorem dX2_period_43 : decode cX2_period 43 = .ok (.return_, 1) := by decide +kernel
set_option maxRecDepth 20000 in
theorem ggX2_process_X1_tellArrival : GoodIn wsX2_process wsX1_tellArrival := goodIn_r _ [11, 12, 13, 26, 27, 28, 29, 30, 31, 32, 33, 34, 35, 36, 37, 38, 39, 40, 41, 42, 43, 44] (by decide +kernel) (by decide +kernel)
set_option maxRecDepth 20000 in
theorem gX2_process_X1_tellArrival_n96 : GoodIn wsX2_process (wsX1_tellArrival) := ggX2_process_X1_tellArrival
theorem dX2_process_0 : decode cX2_process 0 = .ok (.iload_n 1, 1) := by decide +kernel
theorem dX2_process_1 : decode cX2_process 1 = .ok (.ifCond .lt 10, 3) := by decide +kernel
theorem dX2_process_4 : decode cX2_process 4 = .ok (.iload_n 1, 1) := by decide +kernel
theorem dX2_process_5 : decode cX2_process 5 = .ok (.sipush 20000, 3) := by decide +kernel
theorem dX2_process_8 : decode cX2_process 8 = .ok (.if_icmp .le 13, 3) := by decide +kernel
theorem dX2_process_11 : decode cX2_process 11 = .ok (.new 58, 3) := by decide +kernel
theorem dX2_process_14 : decode cX2_process 14 = .ok (.dup, 1) := by decide +kernel
theorem dX2_process_15 : decode cX2_process 15 = .ok (.ldc 94, 2) := by decide +kernel
theorem dX2_process_17 : decode cX2_process 17 = .ok (.invokespecial 62, 3) := by decide +kernel
theorem dX2_process_20 : decode cX2_process 20 = .ok (.athrow, 1) := by decide +kernel
theorem dX2_process_21 : decode cX2_process 21 = .ok (.aload_n 0, 1) := by decide +kernel
theorem dX2_process_22 : decode cX2_process 22 = .ok (.getfield 35, 3) := by decide +kernel
theorem dX2_process_25 : decode cX2_process 25 = .ok (.ifCond .eq 13, 3) := by decide +kernel
theorem dX2_process_28 : decode cX2_process 28 = .ok (.new 87, 3) := by decide +kernel
theorem dX2_process_31 : decode cX2_process 31 = .ok (.dup, 1) := by decide +kernel
theorem dX2_process_32 : decode cX2_process 32 = .ok (.ldc 89, 2) := by decide +kernel
theorem dX2_process_34 : decode cX2_process 34 = .ok (.invokespecial 91, 3) := by decide +kernel
theorem dX2_process_37 : decode cX2_process 37 = .ok (.athrow, 1) := by decide +kernel
theorem dX2_process_38 : decode cX2_process 38 = .ok (.aload_n 0, 1) := by decide +kernel
theorem dX2_process_39 : decode cX2_process 39 = .ok (.getfield 29, 3) := by decide +kernel
theorem dX2_process_42 : decode cX2_process 42 = .ok (.bipush 16, 2) := by decide +kernel
theorem dX2_process_44 : decode cX2_process 44 = .ok (.if_icmp .lt 5, 3) := by decide +kernel
theorem dX2_process_47 : decode cX2_process 47 = .ok (.iconst (-1), 1) := by decide +kernel
theorem dX2_process_48 : decode cX2_process 48 = .ok (.ireturn, 1) := by decide +kernel
theorem dX2_process_49 : decode cX2_process 49 = .ok (.aload_n 0, 1) := by decide +kernel
theorem dX2_process_50 : decode cX2_process 50 = .ok (.getfield 17, 3) := by decide +kernel
theorem dX2_process_53 : decode cX2_process 53 = .ok (.aload_n 0, 1) := by decide +kernel
theorem dX2_process_54 : decode cX2_process 54 = .ok (.getfield 29, 3) := by decide +kernel
theorem dX2_process_57 : decode cX2_process 57 = .ok (.aaload, 1) := by decide +kernel
theorem dX2_process_58 : decode cX2_process 58 = .ok (.iload_n 1, 1) := by decide +kernel
theorem dX2_process_59 : decode cX2_process 59 = .ok (.invokevirtual 96, 3) := by decide +kernel
theorem dX2_process_62 : decode cX2_process 62 = .ok (.aload_n 0, 1) := by decide +kernel
theorem dX2_process_63 : decode cX2_process 63 = .ok (.dup, 1) := by decide +kernel
theorem dX2_process_64 : decode cX2_process 64 = .ok (.getfield 29, 3) := by decide +kernel
theorem dX2_process_67 : decode cX2_process 67 = .ok (.iconst 1, 1) := by decide +kernel
theorem dX2_process_68 : decode cX2_process 68 = .ok (.iadd, 1) := by decide +kernel
theorem dX2_process_69 : decode cX2_process 69 = .ok (.putfield 29, 3) := by decide +kernel
theorem dX2_process_72 : decode cX2_process 72 = .ok (.aload_n 0, 1) := by decide +kernel
theorem dX2_process_73 : decode cX2_process 73 = .ok (.getfield 29, 3) := by decide +kernel
theorem dX2_process_76 : decode cX2_process 76 = .ok (.iconst 1, 1) := by decide +kernel
theorem dX2_process_77 : decode cX2_process 77 = .ok (.isub, 1) := by decide +kernel
theorem dX2_process_78 : decode cX2_process 78 = .ok (.ireturn, 1) := by decide +kernel
set_option maxRecDepth 20000 in
theorem ggX2_burst_X2_isTask : GoodIn wsX2_burst wsX2_isTask := goodIn_r _ [13, 14, 21, 22, 23, 24, 25, 26, 27, 28, 29, 30, 31, 32] (by decide +kernel) (by decide +kernel)
set_option maxRecDepth 20000 in
theorem gX2_burst_X2_isTask : GoodIn wsX2_burst (wsV RX2 99 RX2 yX2_isTask wsX2_isTask) := goodIn_app (goodIn_of _ (by decide +kernel)) ggX2_burst_X2_isTask
set_option maxRecDepth 20000 in
theorem ggX2_burst_X1_tellBurst : GoodIn wsX2_burst wsX1_tellBurst := goodIn_r _ [18, 19, 20, 33, 34, 35, 36, 37, 38, 39, 40, 41, 42, 43, 44, 45, 46, 47, 48, 49, 50, 51] (by decide +kernel) (by decide +kernel)
set_option maxRecDepth 20000 in
theorem gX2_burst_X1_tellBurst_n106 : GoodIn wsX2_burst (wsX1_tellBurst) := ggX2_burst_X1_tellBurst
theorem dX2_burst_0 : decode cX2_burst 0 = .ok (.aload_n 0, 1) := by decide +kernel
theorem dX2_burst_1 : decode cX2_burst 1 = .ok (.iload_n 1, 1) := by decide +kernel
theorem dX2_burst_2 : decode cX2_burst 2 = .ok (.invokevirtual 99, 3) := by decide +kernel
theorem dX2_burst_5 : decode cX2_burst 5 = .ok (.ifCond .ne 13, 3) := by decide +kernel
theorem dX2_burst_8 : decode cX2_burst 8 = .ok (.new 78, 3) := by decide +kernel
theorem dX2_burst_11 : decode cX2_burst 11 = .ok (.dup, 1) := by decide +kernel
theorem dX2_burst_12 : decode cX2_burst 12 = .ok (.ldc 102, 2) := by decide +kernel
theorem dX2_burst_14 : decode cX2_burst 14 = .ok (.invokespecial 82, 3) := by decide +kernel
theorem dX2_burst_17 : decode cX2_burst 17 = .ok (.athrow, 1) := by decide +kernel
theorem dX2_burst_18 : decode cX2_burst 18 = .ok (.iload_n 2, 1) := by decide +kernel
theorem dX2_burst_19 : decode cX2_burst 19 = .ok (.iconst 1, 1) := by decide +kernel
theorem dX2_burst_20 : decode cX2_burst 20 = .ok (.if_icmp .lt 10, 3) := by decide +kernel
theorem dX2_burst_23 : decode cX2_burst 23 = .ok (.iload_n 2, 1) := by decide +kernel
theorem dX2_burst_24 : decode cX2_burst 24 = .ok (.sipush 5000, 3) := by decide +kernel
theorem dX2_burst_27 : decode cX2_burst 27 = .ok (.if_icmp .le 13, 3) := by decide +kernel
theorem dX2_burst_30 : decode cX2_burst 30 = .ok (.new 58, 3) := by decide +kernel
theorem dX2_burst_33 : decode cX2_burst 33 = .ok (.dup, 1) := by decide +kernel
theorem dX2_burst_34 : decode cX2_burst 34 = .ok (.ldc 104, 2) := by decide +kernel
theorem dX2_burst_36 : decode cX2_burst 36 = .ok (.invokespecial 62, 3) := by decide +kernel
theorem dX2_burst_39 : decode cX2_burst 39 = .ok (.athrow, 1) := by decide +kernel
theorem dX2_burst_40 : decode cX2_burst 40 = .ok (.aload_n 0, 1) := by decide +kernel
theorem dX2_burst_41 : decode cX2_burst 41 = .ok (.getfield 35, 3) := by decide +kernel
theorem dX2_burst_44 : decode cX2_burst 44 = .ok (.ifCond .eq 13, 3) := by decide +kernel
theorem dX2_burst_47 : decode cX2_burst 47 = .ok (.new 87, 3) := by decide +kernel
theorem dX2_burst_50 : decode cX2_burst 50 = .ok (.dup, 1) := by decide +kernel
theorem dX2_burst_51 : decode cX2_burst 51 = .ok (.ldc 89, 2) := by decide +kernel
theorem dX2_burst_53 : decode cX2_burst 53 = .ok (.invokespecial 91, 3) := by decide +kernel
theorem dX2_burst_56 : decode cX2_burst 56 = .ok (.athrow, 1) := by decide +kernel
theorem dX2_burst_57 : decode cX2_burst 57 = .ok (.aload_n 0, 1) := by decide +kernel
theorem dX2_burst_58 : decode cX2_burst 58 = .ok (.getfield 17, 3) := by decide +kernel
theorem dX2_burst_61 : decode cX2_burst 61 = .ok (.iload_n 1, 1) := by decide +kernel
theorem dX2_burst_62 : decode cX2_burst 62 = .ok (.aaload, 1) := by decide +kernel
theorem dX2_burst_63 : decode cX2_burst 63 = .ok (.iload_n 2, 1) := by decide +kernel
theorem dX2_burst_64 : decode cX2_burst 64 = .ok (.invokevirtual 106, 3) := by decide +kernel
theorem dX2_burst_67 : decode cX2_burst 67 = .ok (.ireturn, 1) := by decide +kernel
set_option maxRecDepth 20000 in
theorem ggX2_run_X2_doTick : GoodIn wsX2_run wsX2_doTick := goodIn_r _ [10, 11, 3, 12, 5, 13, 14, 15, 9, 16, 17, 18, 19, 20, 21, 22, 23, 24, 25, 26, 27, 28, 29, 30, 31, 32, 33, 34, 35, 36, 37, 38, 39, 40, 41, 42, 43, 44, 45, 46, 47, 48, 49, 50, 51, 52, 53, 54, 55, 56, 57, 58, 59, 60, 61, 62, 63, 64, 65, 66, 67, 68, 69, 70, 71, 72, 73, 74, 75, 76, 77, 78, 79, 80, 81, 82, 83, 84, 85, 86, 87, 88, 89, 90, 91, 92, 93, 94, 95, 96, 97, 98, 99, 100, 101, 102, 103, 104, 105, 106, 107, 108, 109, 110, 111, 112, 113, 114, 115, 116, 117, 118, 119, 120, 121, 122, 123, 124, 125, 126, 127, 128, 129, 130, 131, 132, 133, 134, 135, 136, 137, 138, 139, 140, 141, 142, 143, 144, 145, 146, 147, 148, 149, 150, 151, 152, 153, 154, 155, 156, 157, 158, 159] (by decide +kernel) (by decide +kernel)
set_option maxRecDepth 20000 in
theorem gX2_run_X2_doTick : GoodIn wsX2_run (wsV RX2 115 RX2 yX2_doTick wsX2_doTick) := goodIn_app (goodIn_of _ (by decide +kernel)) ggX2_run_X2_doTick
theorem dX2_run_0 : decode cX2_run 0 = .ok (.iload_n 1, 1) := by decide +kernel
theorem dX2_run_1 : decode cX2_run 1 = .ok (.ifCond .lt 10, 3) := by decide +kernel
theorem dX2_run_4 : decode cX2_run 4 = .ok (.iload_n 1, 1) := by decide +kernel
theorem dX2_run_5 : decode cX2_run 5 = .ok (.sipush 30000, 3) := by decide +kernel
theorem dX2_run_8 : decode cX2_run 8 = .ok (.if_icmp .le 13, 3) := by decide +kernel
theorem dX2_run_11 : decode cX2_run 11 = .ok (.new 58, 3) := by decide +kernel
theorem dX2_run_14 : decode cX2_run 14 = .ok (.dup, 1) := by decide +kernel
theorem dX2_run_15 : decode cX2_run 15 = .ok (.ldc 110, 2) := by decide +kernel
theorem dX2_run_17 : decode cX2_run 17 = .ok (.invokespecial 62, 3) := by decide +kernel
theorem dX2_run_20 : decode cX2_run 20 = .ok (.athrow, 1) := by decide +kernel
theorem dX2_run_21 : decode cX2_run 21 = .ok (.aload_n 0, 1) := by decide +kernel
theorem dX2_run_22 : decode cX2_run 22 = .ok (.getfield 35, 3) := by decide +kernel
theorem dX2_run_25 : decode cX2_run 25 = .ok (.iload_n 1, 1) := by decide +kernel
theorem dX2_run_26 : decode cX2_run 26 = .ok (.iadd, 1) := by decide +kernel
theorem dX2_run_27 : decode cX2_run 27 = .ok (.ldc 112, 2) := by decide +kernel
theorem dX2_run_29 : decode cX2_run 29 = .ok (.if_icmp .le 13, 3) := by decide +kernel
theorem dX2_run_32 : decode cX2_run 32 = .ok (.new 58, 3) := by decide +kernel
theorem dX2_run_35 : decode cX2_run 35 = .ok (.dup, 1) := by decide +kernel
theorem dX2_run_36 : decode cX2_run 36 = .ok (.ldc 113, 2) := by decide +kernel
theorem dX2_run_38 : decode cX2_run 38 = .ok (.invokespecial 62, 3) := by decide +kernel
theorem dX2_run_41 : decode cX2_run 41 = .ok (.athrow, 1) := by decide +kernel
theorem dX2_run_42 : decode cX2_run 42 = .ok (.aload_n 0, 1) := by decide +kernel
theorem dX2_run_43 : decode cX2_run 43 = .ok (.getfield 45, 3) := by decide +kernel
theorem dX2_run_46 : decode cX2_run 46 = .ok (.istore_n 2, 1) := by decide +kernel
theorem dX2_run_47 : decode cX2_run 47 = .ok (.iconst 0, 1) := by decide +kernel
theorem dX2_run_48 : decode cX2_run 48 = .ok (.istore_n 3, 1) := by decide +kernel
theorem dX2_run_49 : decode cX2_run 49 = .ok (.iload_n 3, 1) := by decide +kernel
theorem dX2_run_50 : decode cX2_run 50 = .ok (.iload_n 1, 1) := by decide +kernel
theorem dX2_run_51 : decode cX2_run 51 = .ok (.if_icmp .ge 13, 3) := by decide +kernel
theorem dX2_run_54 : decode cX2_run 54 = .ok (.aload_n 0, 1) := by decide +kernel
theorem dX2_run_55 : decode cX2_run 55 = .ok (.invokevirtual 115, 3) := by decide +kernel
theorem dX2_run_58 : decode cX2_run 58 = .ok (.iinc 3 1, 3) := by decide +kernel
theorem dX2_run_61 : decode cX2_run 61 = .ok (.goto (-12), 3) := by decide +kernel
theorem dX2_run_64 : decode cX2_run 64 = .ok (.aload_n 0, 1) := by decide +kernel
theorem dX2_run_65 : decode cX2_run 65 = .ok (.getfield 45, 3) := by decide +kernel
theorem dX2_run_68 : decode cX2_run 68 = .ok (.iload_n 2, 1) := by decide +kernel
theorem dX2_run_69 : decode cX2_run 69 = .ok (.isub, 1) := by decide +kernel
theorem dX2_run_70 : decode cX2_run 70 = .ok (.ireturn, 1) := by decide +kernel
set_option maxRecDepth 20000 in
theorem ggX2_restart_X2_startOver : GoodIn wsX2_restart wsX2_startOver := goodIn_r _ [5, 6, 7, 8, 9, 10, 11, 12, 13, 14, 15, 16, 17, 18, 19, 20, 21, 22, 23, 24, 25, 26, 27, 28, 29, 30, 31, 32, 33, 34, 35, 36, 37, 38, 39, 40, 41, 42, 43, 44, 45, 46, 47, 48, 49, 50, 51, 52, 53, 54, 55, 56, 57, 58, 59, 60, 61, 62, 63, 64, 65, 66, 67, 68, 69, 70, 71, 72] (by decide +kernel) (by decide +kernel)
set_option maxRecDepth 20000 in
theorem gX2_restart_X2_startOver : GoodIn wsX2_restart (wsV RX2 71 RX2 yX2_startOver wsX2_startOver) := goodIn_app (goodIn_of _ (by decide +kernel)) ggX2_restart_X2_startOver
theorem dX2_restart_0 : decode cX2_restart 0 = .ok (.aload_n 0, 1) := by decide +kernel
theorem dX2_restart_1 : decode cX2_restart 1 = .ok (.invokevirtual 71, 3) := by decide +kernel
theorem dX2_restart_4 : decode cX2_restart 4 = .ok (.return_, 1) := by decide +kernel
theorem dX2_time_0 : decode cX2_time 0 = .ok (.aload_n 0, 1) := by decide +kernel
theorem dX2_time_1 : decode cX2_time 1 = .ok (.getfield 35, 3) := by decide +kernel
theorem dX2_time_4 : decode cX2_time 4 = .ok (.ireturn, 1) := by decide +kernel
set_option maxRecDepth 20000 in
theorem ggX2_told_X2_isTask : GoodIn wsX2_told wsX2_isTask := goodIn_r _ [10, 11, 12, 13, 14, 15, 16, 17, 18, 19, 20, 21, 22, 23] (by decide +kernel) (by decide +kernel)
set_option maxRecDepth 20000 in
theorem gX2_told_X2_isTask : GoodIn wsX2_told (wsV RX2 99 RX2 yX2_isTask wsX2_isTask) := goodIn_app (goodIn_of _ (by decide +kernel)) ggX2_told_X2_isTask
theorem dX2_told_0 : decode cX2_told 0 = .ok (.aload_n 0, 1) := by decide +kernel
theorem dX2_told_1 : decode cX2_told 1 = .ok (.iload_n 1, 1) := by decide +kernel
theorem dX2_told_2 : decode cX2_told 2 = .ok (.invokevirtual 99, 3) := by decide +kernel
theorem dX2_told_5 : decode cX2_told 5 = .ok (.ifCond .ne 13, 3) := by decide +kernel
theorem dX2_told_8 : decode cX2_told 8 = .ok (.new 78, 3) := by decide +kernel
theorem dX2_told_11 : decode cX2_told 11 = .ok (.dup, 1) := by decide +kernel
theorem dX2_told_12 : decode cX2_told 12 = .ok (.ldc 102, 2) := by decide +kernel
theorem dX2_told_14 : decode cX2_told 14 = .ok (.invokespecial 82, 3) := by decide +kernel
theorem dX2_told_17 : decode cX2_told 17 = .ok (.athrow, 1) := by decide +kernel
theorem dX2_told_18 : decode cX2_told 18 = .ok (.aload_n 0, 1) := by decide +kernel
theorem dX2_told_19 : decode cX2_told 19 = .ok (.getfield 17, 3) := by decide +kernel
theorem dX2_told_22 : decode cX2_told 22 = .ok (.iload_n 1, 1) := by decide +kernel
theorem dX2_told_23 : decode cX2_told 23 = .ok (.aaload, 1) := by decide +kernel
theorem dX2_told_24 : decode cX2_told 24 = .ok (.astore_n 3, 1) := by decide +kernel
theorem dX2_told_25 : decode cX2_told 25 = .ok (.iload_n 2, 1) := by decide +kernel
theorem dX2_told_26 : decode cX2_told 26 = .ok (.tableswitch 104 0 9 #[54, 59, 64, 69, 74, 79, 84, 89, 94, 99], 54) := by decide +kernel
theorem dX2_told_80 : decode cX2_told 80 = .ok (.aload_n 3, 1) := by decide +kernel
theorem dX2_told_81 : decode cX2_told 81 = .ok (.getfield 118, 3) := by decide +kernel
theorem dX2_told_84 : decode cX2_told 84 = .ok (.ireturn, 1) := by decide +kernel
theorem dX2_told_85 : decode cX2_told 85 = .ok (.aload_n 3, 1) := by decide +kernel
theorem dX2_told_86 : decode cX2_told 86 = .ok (.getfield 121, 3) := by decide +kernel
theorem dX2_told_89 : decode cX2_told 89 = .ok (.ireturn, 1) := by decide +kernel
theorem dX2_told_90 : decode cX2_told 90 = .ok (.aload_n 3, 1) := by decide +kernel
theorem dX2_told_91 : decode cX2_told 91 = .ok (.getfield 124, 3) := by decide +kernel
theorem dX2_told_94 : decode cX2_told 94 = .ok (.ireturn, 1) := by decide +kernel
theorem dX2_told_95 : decode cX2_told 95 = .ok (.aload_n 3, 1) := by decide +kernel
theorem dX2_told_96 : decode cX2_told 96 = .ok (.getfield 127, 3) := by decide +kernel
theorem dX2_told_99 : decode cX2_told 99 = .ok (.ireturn, 1) := by decide +kernel
theorem dX2_told_100 : decode cX2_told 100 = .ok (.aload_n 3, 1) := by decide +kernel
theorem dX2_told_101 : decode cX2_told 101 = .ok (.getfield 130, 3) := by decide +kernel
theorem dX2_told_104 : decode cX2_told 104 = .ok (.ireturn, 1) := by decide +kernel
theorem dX2_told_105 : decode cX2_told 105 = .ok (.aload_n 3, 1) := by decide +kernel
theorem dX2_told_106 : decode cX2_told 106 = .ok (.getfield 133, 3) := by decide +kernel
theorem dX2_told_109 : decode cX2_told 109 = .ok (.ireturn, 1) := by decide +kernel
theorem dX2_told_110 : decode cX2_told 110 = .ok (.aload_n 3, 1) := by decide +kernel
theorem dX2_told_111 : decode cX2_told 111 = .ok (.getfield 136, 3) := by decide +kernel
theorem dX2_told_114 : decode cX2_told 114 = .ok (.ireturn, 1) := by decide +kernel
theorem dX2_told_115 : decode cX2_told 115 = .ok (.aload_n 3, 1) := by decide +kernel
theorem dX2_told_116 : decode cX2_told 116 = .ok (.getfield 139, 3) := by decide +kernel
theorem dX2_told_119 : decode cX2_told 119 = .ok (.ireturn, 1) := by decide +kernel
theorem dX2_told_120 : decode cX2_told 120 = .ok (.aload_n 3, 1) := by decide +kernel
theorem dX2_told_121 : decode cX2_told 121 = .ok (.getfield 142, 3) := by decide +kernel
theorem dX2_told_124 : decode cX2_told 124 = .ok (.ireturn, 1) := by decide +kernel
theorem dX2_told_125 : decode cX2_told 125 = .ok (.aload_n 3, 1) := by decide +kernel
theorem dX2_told_126 : decode cX2_told 126 = .ok (.getfield 145, 3) := by decide +kernel
theorem dX2_told_129 : decode cX2_told 129 = .ok (.ireturn, 1) := by decide +kernel
theorem dX2_told_130 : decode cX2_told 130 = .ok (.new 58, 3) := by decide +kernel
theorem dX2_told_133 : decode cX2_told 133 = .ok (.dup, 1) := by decide +kernel
theorem dX2_told_134 : decode cX2_told 134 = .ok (.ldc 148, 2) := by decide +kernel
theorem dX2_told_136 : decode cX2_told 136 = .ok (.invokespecial 62, 3) := by decide +kernel
theorem dX2_told_139 : decode cX2_told 139 = .ok (.athrow, 1) := by decide +kernel
theorem dX2_running_0 : decode cX2_running 0 = .ok (.aload_n 0, 1) := by decide +kernel
theorem dX2_running_1 : decode cX2_running 1 = .ok (.getfield 38, 3) := by decide +kernel
theorem dX2_running_4 : decode cX2_running 4 = .ok (.ifnonnull 7, 3) := by decide +kernel
theorem dX2_running_7 : decode cX2_running 7 = .ok (.iconst (-1), 1) := by decide +kernel
theorem dX2_running_8 : decode cX2_running 8 = .ok (.goto 10, 3) := by decide +kernel
theorem dX2_running_11 : decode cX2_running 11 = .ok (.aload_n 0, 1) := by decide +kernel
theorem dX2_running_12 : decode cX2_running 12 = .ok (.getfield 38, 3) := by decide +kernel
theorem dX2_running_15 : decode cX2_running 15 = .ok (.getfield 150, 3) := by decide +kernel
theorem dX2_running_18 : decode cX2_running 18 = .ok (.ireturn, 1) := by decide +kernel
set_option maxRecDepth 20000 in
theorem ggX2_queued_X2_isLevel : GoodIn wsX2_queued wsX2_isLevel := goodIn_r _ [8, 9, 16, 17, 18, 19, 20, 21, 22, 23, 24, 25, 26, 27] (by decide +kernel) (by decide +kernel)
set_option maxRecDepth 20000 in
theorem gX2_queued_X2_isLevel : GoodIn wsX2_queued (wsV RX2 74 RX2 yX2_isLevel wsX2_isLevel) := goodIn_app (goodIn_of _ (by decide +kernel)) ggX2_queued_X2_isLevel
set_option maxRecDepth 20000 in
theorem ggX2_queued_X0_at : GoodIn wsX2_queued wsX0_at := goodIn_r _ [13, 14, 15, 28, 29, 30, 31] (by decide +kernel) (by decide +kernel)
set_option maxRecDepth 20000 in
theorem gX2_queued_X0_at_n153 : GoodIn wsX2_queued (wsX0_at) := ggX2_queued_X0_at
theorem dX2_queued_0 : decode cX2_queued 0 = .ok (.aload_n 0, 1) := by decide +kernel
theorem dX2_queued_1 : decode cX2_queued 1 = .ok (.iload_n 1, 1) := by decide +kernel
theorem dX2_queued_2 : decode cX2_queued 2 = .ok (.invokevirtual 74, 3) := by decide +kernel
theorem dX2_queued_5 : decode cX2_queued 5 = .ok (.ifCond .ne 13, 3) := by decide +kernel
theorem dX2_queued_8 : decode cX2_queued 8 = .ok (.new 78, 3) := by decide +kernel
theorem dX2_queued_11 : decode cX2_queued 11 = .ok (.dup, 1) := by decide +kernel
theorem dX2_queued_12 : decode cX2_queued 12 = .ok (.ldc 80, 2) := by decide +kernel
theorem dX2_queued_14 : decode cX2_queued 14 = .ok (.invokespecial 82, 3) := by decide +kernel
theorem dX2_queued_17 : decode cX2_queued 17 = .ok (.athrow, 1) := by decide +kernel
theorem dX2_queued_18 : decode cX2_queued 18 = .ok (.aload_n 0, 1) := by decide +kernel
theorem dX2_queued_19 : decode cX2_queued 19 = .ok (.getfield 11, 3) := by decide +kernel
theorem dX2_queued_22 : decode cX2_queued 22 = .ok (.iload_n 1, 1) := by decide +kernel
theorem dX2_queued_23 : decode cX2_queued 23 = .ok (.aaload, 1) := by decide +kernel
theorem dX2_queued_24 : decode cX2_queued 24 = .ok (.iload_n 2, 1) := by decide +kernel
theorem dX2_queued_25 : decode cX2_queued 25 = .ok (.invokevirtual 153, 3) := by decide +kernel
theorem dX2_queued_28 : decode cX2_queued 28 = .ok (.ireturn, 1) := by decide +kernel
theorem dX2_all_0 : decode cX2_all 0 = .ok (.iload_n 1, 1) := by decide +kernel
theorem dX2_all_1 : decode cX2_all 1 = .ok (.tableswitch 51 0 3 #[31, 36, 41, 46], 31) := by decide +kernel
theorem dX2_all_32 : decode cX2_all 32 = .ok (.aload_n 0, 1) := by decide +kernel
theorem dX2_all_33 : decode cX2_all 33 = .ok (.getfield 42, 3) := by decide +kernel
theorem dX2_all_36 : decode cX2_all 36 = .ok (.ireturn, 1) := by decide +kernel
theorem dX2_all_37 : decode cX2_all 37 = .ok (.aload_n 0, 1) := by decide +kernel
theorem dX2_all_38 : decode cX2_all 38 = .ok (.getfield 45, 3) := by decide +kernel
theorem dX2_all_41 : decode cX2_all 41 = .ok (.ireturn, 1) := by decide +kernel
theorem dX2_all_42 : decode cX2_all 42 = .ok (.aload_n 0, 1) := by decide +kernel
theorem dX2_all_43 : decode cX2_all 43 = .ok (.getfield 48, 3) := by decide +kernel
theorem dX2_all_46 : decode cX2_all 46 = .ok (.ireturn, 1) := by decide +kernel
theorem dX2_all_47 : decode cX2_all 47 = .ok (.aload_n 0, 1) := by decide +kernel
theorem dX2_all_48 : decode cX2_all 48 = .ok (.getfield 51, 3) := by decide +kernel
theorem dX2_all_51 : decode cX2_all 51 = .ok (.ireturn, 1) := by decide +kernel
theorem dX2_all_52 : decode cX2_all 52 = .ok (.new 58, 3) := by decide +kernel
theorem dX2_all_55 : decode cX2_all 55 = .ok (.dup, 1) := by decide +kernel
theorem dX2_all_56 : decode cX2_all 56 = .ok (.ldc 156, 2) := by decide +kernel
theorem dX2_all_58 : decode cX2_all 58 = .ok (.invokespecial 62, 3) := by decide +kernel
theorem dX2_all_61 : decode cX2_all 61 = .ok (.athrow, 1) := by decide +kernel
theorem dX2_switched_0 : decode cX2_switched 0 = .ok (.iload_n 1, 1) := by decide +kernel
theorem dX2_switched_1 : decode cX2_switched 1 = .ok (.ifCond .lt 18, 3) := by decide +kernel
theorem dX2_switched_4 : decode cX2_switched 4 = .ok (.iload_n 1, 1) := by decide +kernel
theorem dX2_switched_5 : decode cX2_switched 5 = .ok (.aload_n 0, 1) := by decide +kernel
theorem dX2_switched_6 : decode cX2_switched 6 = .ok (.getfield 42, 3) := by decide +kernel
theorem dX2_switched_9 : decode cX2_switched 9 = .ok (.if_icmp .ge 10, 3) := by decide +kernel
theorem dX2_switched_12 : decode cX2_switched 12 = .ok (.iload_n 1, 1) := by decide +kernel
theorem dX2_switched_13 : decode cX2_switched 13 = .ok (.sipush 400, 3) := by decide +kernel
theorem dX2_switched_16 : decode cX2_switched 16 = .ok (.if_icmp .lt 13, 3) := by decide +kernel
theorem dX2_switched_19 : decode cX2_switched 19 = .ok (.new 78, 3) := by decide +kernel
theorem dX2_switched_22 : decode cX2_switched 22 = .ok (.dup, 1) := by decide +kernel
theorem dX2_switched_23 : decode cX2_switched 23 = .ok (.ldc 158, 2) := by decide +kernel
theorem dX2_switched_25 : decode cX2_switched 25 = .ok (.invokespecial 82, 3) := by decide +kernel
theorem dX2_switched_28 : decode cX2_switched 28 = .ok (.athrow, 1) := by decide +kernel
theorem dX2_switched_29 : decode cX2_switched 29 = .ok (.aload_n 0, 1) := by decide +kernel
theorem dX2_switched_30 : decode cX2_switched 30 = .ok (.getfield 21, 3) := by decide +kernel
theorem dX2_switched_33 : decode cX2_switched 33 = .ok (.iload_n 1, 1) := by decide +kernel
theorem dX2_switched_34 : decode cX2_switched 34 = .ok (.iaload, 1) := by decide +kernel
theorem dX2_switched_35 : decode cX2_switched 35 = .ok (.ireturn, 1) := by decide +kernel
theorem dX2_isLevel_0 : decode cX2_isLevel 0 = .ok (.iload_n 1, 1) := by decide +kernel
theorem dX2_isLevel_1 : decode cX2_isLevel 1 = .ok (.ifCond .lt 15, 3) := by decide +kernel
theorem dX2_isLevel_4 : decode cX2_isLevel 4 = .ok (.iload_n 1, 1) := by decide +kernel
theorem dX2_isLevel_5 : decode cX2_isLevel 5 = .ok (.aload_n 0, 1) := by decide +kernel
theorem dX2_isLevel_6 : decode cX2_isLevel 6 = .ok (.getfield 25, 3) := by decide +kernel
theorem dX2_isLevel_9 : decode cX2_isLevel 9 = .ok (.if_icmp .ge 7, 3) := by decide +kernel
theorem dX2_isLevel_12 : decode cX2_isLevel 12 = .ok (.iconst 1, 1) := by decide +kernel
theorem dX2_isLevel_13 : decode cX2_isLevel 13 = .ok (.goto 4, 3) := by decide +kernel
theorem dX2_isLevel_16 : decode cX2_isLevel 16 = .ok (.iconst 0, 1) := by decide +kernel
theorem dX2_isLevel_17 : decode cX2_isLevel 17 = .ok (.ireturn, 1) := by decide +kernel
theorem dX2_isTask_0 : decode cX2_isTask 0 = .ok (.iload_n 1, 1) := by decide +kernel
theorem dX2_isTask_1 : decode cX2_isTask 1 = .ok (.ifCond .lt 15, 3) := by decide +kernel
theorem dX2_isTask_4 : decode cX2_isTask 4 = .ok (.iload_n 1, 1) := by decide +kernel
theorem dX2_isTask_5 : decode cX2_isTask 5 = .ok (.aload_n 0, 1) := by decide +kernel
theorem dX2_isTask_6 : decode cX2_isTask 6 = .ok (.getfield 29, 3) := by decide +kernel
theorem dX2_isTask_9 : decode cX2_isTask 9 = .ok (.if_icmp .ge 7, 3) := by decide +kernel
theorem dX2_isTask_12 : decode cX2_isTask 12 = .ok (.iconst 1, 1) := by decide +kernel
theorem dX2_isTask_13 : decode cX2_isTask 13 = .ok (.goto 4, 3) := by decide +kernel
theorem dX2_isTask_16 : decode cX2_isTask 16 = .ok (.iconst 0, 1) := by decide +kernel
theorem dX2_isTask_17 : decode cX2_isTask 17 = .ok (.ireturn, 1) := by decide +kernel
set_option maxRecDepth 20000 in
theorem ggX2_startOver_X0_clear : GoodIn wsX2_startOver wsX0_clear := goodIn_r _ [12, 13, 45, 46, 47, 48] (by decide +kernel) (by decide +kernel)
set_option maxRecDepth 20000 in
theorem gX2_startOver_X0_clear_n160 : GoodIn wsX2_startOver (wsX0_clear) := ggX2_startOver_X0_clear
set_option maxRecDepth 20000 in
theorem ggX2_startOver_X1_startOver : GoodIn wsX2_startOver wsX1_startOver := goodIn_r _ [17, 18, 19, 20, 21, 22, 23, 24, 25, 26, 27, 28, 29, 30, 31, 32, 49, 50, 51, 52, 53, 54, 55, 56, 57, 58, 59, 60, 61, 62, 63, 64, 65, 66, 67] (by decide +kernel) (by decide +kernel)
set_option maxRecDepth 20000 in
theorem gX2_startOver_X1_startOver_n163 : GoodIn wsX2_startOver (wsX1_startOver) := ggX2_startOver_X1_startOver
theorem dX2_startOver_0 : decode cX2_startOver 0 = .ok (.aload_n 0, 1) := by decide +kernel
theorem dX2_startOver_1 : decode cX2_startOver 1 = .ok (.iconst 0, 1) := by decide +kernel
theorem dX2_startOver_2 : decode cX2_startOver 2 = .ok (.putfield 35, 3) := by decide +kernel
theorem dX2_startOver_5 : decode cX2_startOver 5 = .ok (.aload_n 0, 1) := by decide +kernel
theorem dX2_startOver_6 : decode cX2_startOver 6 = .ok (.aconst_null, 1) := by decide +kernel
theorem dX2_startOver_7 : decode cX2_startOver 7 = .ok (.putfield 38, 3) := by decide +kernel
theorem dX2_startOver_10 : decode cX2_startOver 10 = .ok (.aload_n 0, 1) := by decide +kernel
theorem dX2_startOver_11 : decode cX2_startOver 11 = .ok (.iconst 0, 1) := by decide +kernel
theorem dX2_startOver_12 : decode cX2_startOver 12 = .ok (.putfield 42, 3) := by decide +kernel
theorem dX2_startOver_15 : decode cX2_startOver 15 = .ok (.aload_n 0, 1) := by decide +kernel
theorem dX2_startOver_16 : decode cX2_startOver 16 = .ok (.iconst 0, 1) := by decide +kernel
theorem dX2_startOver_17 : decode cX2_startOver 17 = .ok (.putfield 45, 3) := by decide +kernel
theorem dX2_startOver_20 : decode cX2_startOver 20 = .ok (.aload_n 0, 1) := by decide +kernel
theorem dX2_startOver_21 : decode cX2_startOver 21 = .ok (.iconst 0, 1) := by decide +kernel
theorem dX2_startOver_22 : decode cX2_startOver 22 = .ok (.putfield 48, 3) := by decide +kernel
theorem dX2_startOver_25 : decode cX2_startOver 25 = .ok (.aload_n 0, 1) := by decide +kernel
theorem dX2_startOver_26 : decode cX2_startOver 26 = .ok (.iconst 0, 1) := by decide +kernel
theorem dX2_startOver_27 : decode cX2_startOver 27 = .ok (.putfield 51, 3) := by decide +kernel
theorem dX2_startOver_30 : decode cX2_startOver 30 = .ok (.iconst 0, 1) := by decide +kernel
theorem dX2_startOver_31 : decode cX2_startOver 31 = .ok (.istore_n 1, 1) := by decide +kernel
theorem dX2_startOver_32 : decode cX2_startOver 32 = .ok (.iload_n 1, 1) := by decide +kernel
theorem dX2_startOver_33 : decode cX2_startOver 33 = .ok (.bipush 6, 2) := by decide +kernel
theorem dX2_startOver_35 : decode cX2_startOver 35 = .ok (.if_icmp .ge 18, 3) := by decide +kernel
theorem dX2_startOver_38 : decode cX2_startOver 38 = .ok (.aload_n 0, 1) := by decide +kernel
theorem dX2_startOver_39 : decode cX2_startOver 39 = .ok (.getfield 11, 3) := by decide +kernel
theorem dX2_startOver_42 : decode cX2_startOver 42 = .ok (.iload_n 1, 1) := by decide +kernel
theorem dX2_startOver_43 : decode cX2_startOver 43 = .ok (.aaload, 1) := by decide +kernel
theorem dX2_startOver_44 : decode cX2_startOver 44 = .ok (.invokevirtual 160, 3) := by decide +kernel
theorem dX2_startOver_47 : decode cX2_startOver 47 = .ok (.iinc 1 1, 3) := by decide +kernel
theorem dX2_startOver_50 : decode cX2_startOver 50 = .ok (.goto (-18), 3) := by decide +kernel
theorem dX2_startOver_53 : decode cX2_startOver 53 = .ok (.iconst 0, 1) := by decide +kernel
theorem dX2_startOver_54 : decode cX2_startOver 54 = .ok (.istore_n 1, 1) := by decide +kernel
theorem dX2_startOver_55 : decode cX2_startOver 55 = .ok (.iload_n 1, 1) := by decide +kernel
theorem dX2_startOver_56 : decode cX2_startOver 56 = .ok (.bipush 16, 2) := by decide +kernel
theorem dX2_startOver_58 : decode cX2_startOver 58 = .ok (.if_icmp .ge 18, 3) := by decide +kernel
theorem dX2_startOver_61 : decode cX2_startOver 61 = .ok (.aload_n 0, 1) := by decide +kernel
theorem dX2_startOver_62 : decode cX2_startOver 62 = .ok (.getfield 17, 3) := by decide +kernel
theorem dX2_startOver_65 : decode cX2_startOver 65 = .ok (.iload_n 1, 1) := by decide +kernel
theorem dX2_startOver_66 : decode cX2_startOver 66 = .ok (.aaload, 1) := by decide +kernel
theorem dX2_startOver_67 : decode cX2_startOver 67 = .ok (.invokevirtual 163, 3) := by decide +kernel
theorem dX2_startOver_70 : decode cX2_startOver 70 = .ok (.iinc 1 1, 3) := by decide +kernel
theorem dX2_startOver_73 : decode cX2_startOver 73 = .ok (.goto (-18), 3) := by decide +kernel
theorem dX2_startOver_76 : decode cX2_startOver 76 = .ok (.return_, 1) := by decide +kernel
set_option maxRecDepth 20000 in
theorem ggX2_doTick_X2_bringAllUp : GoodIn wsX2_doTick wsX2_bringAllUp := goodIn_r _ [9, 10, 11, 12, 13, 14, 15, 16, 17, 18, 19, 20, 21, 22, 23, 24, 25, 26, 27, 28, 29, 30, 31, 32, 33, 34, 35, 36, 37, 38, 39, 118, 119, 120, 121, 122, 123, 124, 125, 126, 127, 128, 129, 130, 131, 132, 133, 134, 135, 136, 137, 138, 139, 140, 141, 142, 143, 144, 145, 146, 147, 148, 149, 150, 151, 152] (by decide +kernel) (by decide +kernel)
set_option maxRecDepth 20000 in
theorem gX2_doTick_X2_bringAllUp : GoodIn wsX2_doTick (wsV RX2 164 RX2 yX2_bringAllUp wsX2_bringAllUp) := goodIn_app (goodIn_of _ (by decide +kernel)) ggX2_doTick_X2_bringAllUp
set_option maxRecDepth 20000 in
theorem ggX2_doTick_X2_letArrive : GoodIn wsX2_doTick wsX2_letArrive := goodIn_r _ [43, 12, 13, 2, 11, 44, 45, 46, 8, 47, 48, 16, 49, 50, 51, 52, 53, 54, 55, 56, 57, 58, 34, 28, 35, 36, 31, 32, 59, 60, 61, 62, 63, 118, 119, 120, 121, 122, 123, 124, 125, 126, 127, 128, 129, 130, 131, 132, 133, 134, 135, 136, 137, 138, 139, 140, 141, 142, 143, 144, 145, 146, 147, 148, 149, 150, 151, 152] (by decide +kernel) (by decide +kernel)
set_option maxRecDepth 20000 in
theorem gX2_doTick_X2_letArrive : GoodIn wsX2_doTick (wsV RX2 167 RX2 yX2_letArrive wsX2_letArrive) := goodIn_app (goodIn_of _ (by decide +kernel)) ggX2_doTick_X2_letArrive
set_option maxRecDepth 20000 in
theorem ggX2_doTick_X2_letComeBack : GoodIn wsX2_doTick wsX2_letComeBack := goodIn_r _ [67, 12, 13, 44, 45, 46, 8, 47, 2, 48, 16, 49, 50, 51, 52, 53, 54, 55, 56, 57, 58, 11, 34, 28, 35, 36, 31, 32, 59, 60, 61, 62, 63, 118, 119, 120, 121, 122, 123, 124, 125, 126, 127, 128, 129, 130, 131, 132, 133, 134, 135, 136, 137, 138, 139, 140, 141, 142, 143, 144, 145, 146, 147, 148, 149, 150, 151, 152] (by decide +kernel) (by decide +kernel)
set_option maxRecDepth 20000 in
theorem gX2_doTick_X2_letComeBack : GoodIn wsX2_doTick (wsV RX2 170 RX2 yX2_letComeBack wsX2_letComeBack) := goodIn_app (goodIn_of _ (by decide +kernel)) ggX2_doTick_X2_letComeBack
set_option maxRecDepth 20000 in
theorem ggX2_doTick_X2_makeWay : GoodIn wsX2_doTick wsX2_makeWay := goodIn_r _ [71, 3, 11, 72, 73, 74, 8, 75, 76, 28, 77, 78, 31, 32, 118, 119, 120, 121, 122, 123, 124, 125, 126, 127, 128, 129, 130, 131, 132, 133, 134, 135, 136, 137, 138, 139, 140, 141, 142, 143, 144, 145, 146, 147, 148, 149, 150, 151, 152] (by decide +kernel) (by decide +kernel)
set_option maxRecDepth 20000 in
theorem gX2_doTick_X2_makeWay : GoodIn wsX2_doTick (wsV RX2 173 RX2 yX2_makeWay wsX2_makeWay) := goodIn_app (goodIn_of _ (by decide +kernel)) ggX2_doTick_X2_makeWay
set_option maxRecDepth 20000 in
theorem ggX2_doTick_X2_switchToFirst : GoodIn wsX2_doTick wsX2_switchToFirst := goodIn_r _ [82, 14, 11, 13, 83, 28, 84, 85, 31, 32, 86, 87, 88, 8, 89, 12, 90, 91, 92, 93, 2, 94, 95, 3, 96, 16, 97, 98, 21, 99, 22, 100, 101, 118, 119, 120, 121, 122, 123, 124, 125, 126, 127, 128, 129, 149, 150, 151, 152, 130, 131, 132, 133, 134, 135, 136, 137, 138, 139, 140, 141, 142, 143, 144, 145, 146, 147, 148] (by decide +kernel) (by decide +kernel)
set_option maxRecDepth 20000 in
theorem gX2_doTick_X2_switchToFirst : GoodIn wsX2_doTick (wsV RX2 176 RX2 yX2_switchToFirst wsX2_switchToFirst) := goodIn_app (goodIn_of _ (by decide +kernel)) ggX2_doTick_X2_switchToFirst
set_option maxRecDepth 20000 in
theorem ggX2_doTick_X2_countWaiting : GoodIn wsX2_doTick wsX2_countWaiting := goodIn_r _ [105, 12, 13, 118, 119, 120, 121, 122, 123, 124, 125, 126, 127, 128, 129, 130, 131, 132, 133, 134, 135, 136, 137, 138, 139, 140, 141, 142, 143, 144, 145, 146, 147, 148] (by decide +kernel) (by decide +kernel)
set_option maxRecDepth 20000 in
theorem gX2_doTick_X2_countWaiting : GoodIn wsX2_doTick (wsV RX2 179 RX2 yX2_countWaiting wsX2_countWaiting) := goodIn_app (goodIn_of _ (by decide +kernel)) ggX2_doTick_X2_countWaiting
set_option maxRecDepth 20000 in
theorem ggX2_doTick_X2_useTick : GoodIn wsX2_doTick wsX2_useTick := goodIn_r _ [109, 3, 110, 111, 112, 8, 113, 2, 48, 16, 49, 50, 51, 52, 53, 54, 59, 60, 61, 62, 63, 114, 115, 116, 117, 14, 11, 55, 56, 57, 58, 34, 28, 35, 36, 31, 32, 130, 131, 132, 133, 134, 135, 136, 137, 138, 139, 140, 141, 142, 143, 144, 145, 146, 147, 148, 118, 119, 120, 121, 122, 123, 124, 125, 126, 127, 128, 129, 149, 150, 151, 152] (by decide +kernel) (by decide +kernel)
set_option maxRecDepth 20000 in
theorem gX2_doTick_X2_useTick : GoodIn wsX2_doTick (wsV RX2 182 RX2 yX2_useTick wsX2_useTick) := goodIn_app (goodIn_of _ (by decide +kernel)) ggX2_doTick_X2_useTick
theorem dX2_doTick_0 : decode cX2_doTick 0 = .ok (.aload_n 0, 1) := by decide +kernel
theorem dX2_doTick_1 : decode cX2_doTick 1 = .ok (.getfield 32, 3) := by decide +kernel
theorem dX2_doTick_4 : decode cX2_doTick 4 = .ok (.ifCond .eq 26, 3) := by decide +kernel
theorem dX2_doTick_7 : decode cX2_doTick 7 = .ok (.aload_n 0, 1) := by decide +kernel
theorem dX2_doTick_8 : decode cX2_doTick 8 = .ok (.getfield 35, 3) := by decide +kernel
theorem dX2_doTick_11 : decode cX2_doTick 11 = .ok (.ifCond .le 19, 3) := by decide +kernel
theorem dX2_doTick_14 : decode cX2_doTick 14 = .ok (.aload_n 0, 1) := by decide +kernel
theorem dX2_doTick_15 : decode cX2_doTick 15 = .ok (.getfield 35, 3) := by decide +kernel
theorem dX2_doTick_18 : decode cX2_doTick 18 = .ok (.aload_n 0, 1) := by decide +kernel
theorem dX2_doTick_19 : decode cX2_doTick 19 = .ok (.getfield 32, 3) := by decide +kernel
theorem dX2_doTick_22 : decode cX2_doTick 22 = .ok (.irem, 1) := by decide +kernel
theorem dX2_doTick_23 : decode cX2_doTick 23 = .ok (.ifCond .ne 7, 3) := by decide +kernel
theorem dX2_doTick_26 : decode cX2_doTick 26 = .ok (.aload_n 0, 1) := by decide +kernel
theorem dX2_doTick_27 : decode cX2_doTick 27 = .ok (.invokevirtual 164, 3) := by decide +kernel
theorem dX2_doTick_30 : decode cX2_doTick 30 = .ok (.aload_n 0, 1) := by decide +kernel
theorem dX2_doTick_31 : decode cX2_doTick 31 = .ok (.invokevirtual 167, 3) := by decide +kernel
theorem dX2_doTick_34 : decode cX2_doTick 34 = .ok (.aload_n 0, 1) := by decide +kernel
theorem dX2_doTick_35 : decode cX2_doTick 35 = .ok (.invokevirtual 170, 3) := by decide +kernel
theorem dX2_doTick_38 : decode cX2_doTick 38 = .ok (.aload_n 0, 1) := by decide +kernel
theorem dX2_doTick_39 : decode cX2_doTick 39 = .ok (.invokevirtual 173, 3) := by decide +kernel
theorem dX2_doTick_42 : decode cX2_doTick 42 = .ok (.aload_n 0, 1) := by decide +kernel
theorem dX2_doTick_43 : decode cX2_doTick 43 = .ok (.getfield 38, 3) := by decide +kernel
theorem dX2_doTick_46 : decode cX2_doTick 46 = .ok (.ifnonnull 7, 3) := by decide +kernel
theorem dX2_doTick_49 : decode cX2_doTick 49 = .ok (.aload_n 0, 1) := by decide +kernel
theorem dX2_doTick_50 : decode cX2_doTick 50 = .ok (.invokevirtual 176, 3) := by decide +kernel
theorem dX2_doTick_53 : decode cX2_doTick 53 = .ok (.aload_n 0, 1) := by decide +kernel
theorem dX2_doTick_54 : decode cX2_doTick 54 = .ok (.invokevirtual 179, 3) := by decide +kernel
theorem dX2_doTick_57 : decode cX2_doTick 57 = .ok (.aload_n 0, 1) := by decide +kernel
theorem dX2_doTick_58 : decode cX2_doTick 58 = .ok (.getfield 38, 3) := by decide +kernel
theorem dX2_doTick_61 : decode cX2_doTick 61 = .ok (.ifnonnull 16, 3) := by decide +kernel
theorem dX2_doTick_64 : decode cX2_doTick 64 = .ok (.aload_n 0, 1) := by decide +kernel
theorem dX2_doTick_65 : decode cX2_doTick 65 = .ok (.dup, 1) := by decide +kernel
theorem dX2_doTick_66 : decode cX2_doTick 66 = .ok (.getfield 45, 3) := by decide +kernel
theorem dX2_doTick_69 : decode cX2_doTick 69 = .ok (.iconst 1, 1) := by decide +kernel
theorem dX2_doTick_70 : decode cX2_doTick 70 = .ok (.iadd, 1) := by decide +kernel
theorem dX2_doTick_71 : decode cX2_doTick 71 = .ok (.putfield 45, 3) := by decide +kernel
theorem dX2_doTick_74 : decode cX2_doTick 74 = .ok (.goto 11, 3) := by decide +kernel
theorem dX2_doTick_77 : decode cX2_doTick 77 = .ok (.aload_n 0, 1) := by decide +kernel
theorem dX2_doTick_78 : decode cX2_doTick 78 = .ok (.aload_n 0, 1) := by decide +kernel
theorem dX2_doTick_79 : decode cX2_doTick 79 = .ok (.getfield 38, 3) := by decide +kernel
theorem dX2_doTick_82 : decode cX2_doTick 82 = .ok (.invokevirtual 182, 3) := by decide +kernel
theorem dX2_doTick_85 : decode cX2_doTick 85 = .ok (.aload_n 0, 1) := by decide +kernel
theorem dX2_doTick_86 : decode cX2_doTick 86 = .ok (.dup, 1) := by decide +kernel
theorem dX2_doTick_87 : decode cX2_doTick 87 = .ok (.getfield 35, 3) := by decide +kernel
theorem dX2_doTick_90 : decode cX2_doTick 90 = .ok (.iconst 1, 1) := by decide +kernel
theorem dX2_doTick_91 : decode cX2_doTick 91 = .ok (.iadd, 1) := by decide +kernel
theorem dX2_doTick_92 : decode cX2_doTick 92 = .ok (.putfield 35, 3) := by decide +kernel
theorem dX2_doTick_95 : decode cX2_doTick 95 = .ok (.return_, 1) := by decide +kernel
set_option maxRecDepth 20000 in
theorem ggX2_bringAllUp_X1_comeUp : GoodIn wsX2_bringAllUp wsX1_comeUp := goodIn_r _ [9, 10, 11, 12, 13, 14, 15, 16, 17, 43, 44, 45, 46, 47, 48, 49, 50, 51, 52, 53, 54, 55, 56, 57, 58, 59, 60, 61] (by decide +kernel) (by decide +kernel)
set_option maxRecDepth 20000 in
theorem gX2_bringAllUp_X1_comeUp_n186 : GoodIn wsX2_bringAllUp (wsX1_comeUp) := ggX2_bringAllUp_X1_comeUp
set_option maxRecDepth 20000 in
theorem ggX2_bringAllUp_X0_addAllOf : GoodIn wsX2_bringAllUp wsX0_addAllOf := goodIn_r _ [21, 22, 23, 24, 25, 26, 19, 27, 62, 63, 64, 65] (by decide +kernel) (by decide +kernel)
set_option maxRecDepth 20000 in
theorem gX2_bringAllUp_X0_addAllOf_n190 : GoodIn wsX2_bringAllUp (wsX0_addAllOf) := ggX2_bringAllUp_X0_addAllOf
set_option maxRecDepth 20000 in
theorem ggX2_bringAllUp_X0_clear : GoodIn wsX2_bringAllUp wsX0_clear := goodIn_r _ [30, 22, 62, 63, 64, 65] (by decide +kernel) (by decide +kernel)
set_option maxRecDepth 20000 in
theorem gX2_bringAllUp_X0_clear_n160 : GoodIn wsX2_bringAllUp (wsX0_clear) := ggX2_bringAllUp_X0_clear
theorem dX2_bringAllUp_0 : decode cX2_bringAllUp 0 = .ok (.aload_n 0, 1) := by decide +kernel
theorem dX2_bringAllUp_1 : decode cX2_bringAllUp 1 = .ok (.dup, 1) := by decide +kernel
theorem dX2_bringAllUp_2 : decode cX2_bringAllUp 2 = .ok (.getfield 48, 3) := by decide +kernel
theorem dX2_bringAllUp_5 : decode cX2_bringAllUp 5 = .ok (.iconst 1, 1) := by decide +kernel
theorem dX2_bringAllUp_6 : decode cX2_bringAllUp 6 = .ok (.iadd, 1) := by decide +kernel
theorem dX2_bringAllUp_7 : decode cX2_bringAllUp 7 = .ok (.putfield 48, 3) := by decide +kernel
theorem dX2_bringAllUp_10 : decode cX2_bringAllUp 10 = .ok (.aload_n 0, 1) := by decide +kernel
theorem dX2_bringAllUp_11 : decode cX2_bringAllUp 11 = .ok (.getfield 11, 3) := by decide +kernel
theorem dX2_bringAllUp_14 : decode cX2_bringAllUp 14 = .ok (.iconst 0, 1) := by decide +kernel
theorem dX2_bringAllUp_15 : decode cX2_bringAllUp 15 = .ok (.aaload, 1) := by decide +kernel
theorem dX2_bringAllUp_16 : decode cX2_bringAllUp 16 = .ok (.astore_n 1, 1) := by decide +kernel
theorem dX2_bringAllUp_17 : decode cX2_bringAllUp 17 = .ok (.iconst 0, 1) := by decide +kernel
theorem dX2_bringAllUp_18 : decode cX2_bringAllUp 18 = .ok (.istore_n 2, 1) := by decide +kernel
theorem dX2_bringAllUp_19 : decode cX2_bringAllUp 19 = .ok (.iload_n 2, 1) := by decide +kernel
theorem dX2_bringAllUp_20 : decode cX2_bringAllUp 20 = .ok (.aload_n 0, 1) := by decide +kernel
theorem dX2_bringAllUp_21 : decode cX2_bringAllUp 21 = .ok (.getfield 29, 3) := by decide +kernel
theorem dX2_bringAllUp_24 : decode cX2_bringAllUp 24 = .ok (.if_icmp .ge 51, 3) := by decide +kernel
theorem dX2_bringAllUp_27 : decode cX2_bringAllUp 27 = .ok (.aload_n 0, 1) := by decide +kernel
theorem dX2_bringAllUp_28 : decode cX2_bringAllUp 28 = .ok (.getfield 17, 3) := by decide +kernel
theorem dX2_bringAllUp_31 : decode cX2_bringAllUp 31 = .ok (.iload_n 2, 1) := by decide +kernel
theorem dX2_bringAllUp_32 : decode cX2_bringAllUp 32 = .ok (.aaload, 1) := by decide +kernel
theorem dX2_bringAllUp_33 : decode cX2_bringAllUp 33 = .ok (.getfield 118, 3) := by decide +kernel
theorem dX2_bringAllUp_36 : decode cX2_bringAllUp 36 = .ok (.ifCond .eq 33, 3) := by decide +kernel
theorem dX2_bringAllUp_39 : decode cX2_bringAllUp 39 = .ok (.aload_n 0, 1) := by decide +kernel
theorem dX2_bringAllUp_40 : decode cX2_bringAllUp 40 = .ok (.getfield 17, 3) := by decide +kernel
theorem dX2_bringAllUp_43 : decode cX2_bringAllUp 43 = .ok (.iload_n 2, 1) := by decide +kernel
theorem dX2_bringAllUp_44 : decode cX2_bringAllUp 44 = .ok (.aaload, 1) := by decide +kernel
theorem dX2_bringAllUp_45 : decode cX2_bringAllUp 45 = .ok (.getfield 118, 3) := by decide +kernel
theorem dX2_bringAllUp_48 : decode cX2_bringAllUp 48 = .ok (.iconst 4, 1) := by decide +kernel
theorem dX2_bringAllUp_49 : decode cX2_bringAllUp 49 = .ok (.if_icmp .eq 20, 3) := by decide +kernel
theorem dX2_bringAllUp_52 : decode cX2_bringAllUp 52 = .ok (.aload_n 0, 1) := by decide +kernel
theorem dX2_bringAllUp_53 : decode cX2_bringAllUp 53 = .ok (.getfield 17, 3) := by decide +kernel
theorem dX2_bringAllUp_56 : decode cX2_bringAllUp 56 = .ok (.iload_n 2, 1) := by decide +kernel
theorem dX2_bringAllUp_57 : decode cX2_bringAllUp 57 = .ok (.aaload, 1) := by decide +kernel
theorem dX2_bringAllUp_58 : decode cX2_bringAllUp 58 = .ok (.aload_n 1, 1) := by decide +kernel
theorem dX2_bringAllUp_59 : decode cX2_bringAllUp 59 = .ok (.getfield 65, 3) := by decide +kernel
theorem dX2_bringAllUp_62 : decode cX2_bringAllUp 62 = .ok (.aload_n 1, 1) := by decide +kernel
theorem dX2_bringAllUp_63 : decode cX2_bringAllUp 63 = .ok (.getfield 68, 3) := by decide +kernel
theorem dX2_bringAllUp_66 : decode cX2_bringAllUp 66 = .ok (.invokevirtual 186, 3) := by decide +kernel
theorem dX2_bringAllUp_69 : decode cX2_bringAllUp 69 = .ok (.iinc 2 1, 3) := by decide +kernel
theorem dX2_bringAllUp_72 : decode cX2_bringAllUp 72 = .ok (.goto (-53), 3) := by decide +kernel
theorem dX2_bringAllUp_75 : decode cX2_bringAllUp 75 = .ok (.iconst 1, 1) := by decide +kernel
theorem dX2_bringAllUp_76 : decode cX2_bringAllUp 76 = .ok (.istore_n 2, 1) := by decide +kernel
theorem dX2_bringAllUp_77 : decode cX2_bringAllUp 77 = .ok (.iload_n 2, 1) := by decide +kernel
theorem dX2_bringAllUp_78 : decode cX2_bringAllUp 78 = .ok (.aload_n 0, 1) := by decide +kernel
theorem dX2_bringAllUp_79 : decode cX2_bringAllUp 79 = .ok (.getfield 25, 3) := by decide +kernel
theorem dX2_bringAllUp_82 : decode cX2_bringAllUp 82 = .ok (.if_icmp .ge 28, 3) := by decide +kernel
theorem dX2_bringAllUp_85 : decode cX2_bringAllUp 85 = .ok (.aload_n 1, 1) := by decide +kernel
theorem dX2_bringAllUp_86 : decode cX2_bringAllUp 86 = .ok (.aload_n 0, 1) := by decide +kernel
theorem dX2_bringAllUp_87 : decode cX2_bringAllUp 87 = .ok (.getfield 11, 3) := by decide +kernel
theorem dX2_bringAllUp_90 : decode cX2_bringAllUp 90 = .ok (.iload_n 2, 1) := by decide +kernel
theorem dX2_bringAllUp_91 : decode cX2_bringAllUp 91 = .ok (.aaload, 1) := by decide +kernel
theorem dX2_bringAllUp_92 : decode cX2_bringAllUp 92 = .ok (.invokevirtual 190, 3) := by decide +kernel
theorem dX2_bringAllUp_95 : decode cX2_bringAllUp 95 = .ok (.aload_n 0, 1) := by decide +kernel
theorem dX2_bringAllUp_96 : decode cX2_bringAllUp 96 = .ok (.getfield 11, 3) := by decide +kernel
theorem dX2_bringAllUp_99 : decode cX2_bringAllUp 99 = .ok (.iload_n 2, 1) := by decide +kernel
theorem dX2_bringAllUp_100 : decode cX2_bringAllUp 100 = .ok (.aaload, 1) := by decide +kernel
theorem dX2_bringAllUp_101 : decode cX2_bringAllUp 101 = .ok (.invokevirtual 160, 3) := by decide +kernel
theorem dX2_bringAllUp_104 : decode cX2_bringAllUp 104 = .ok (.iinc 2 1, 3) := by decide +kernel
theorem dX2_bringAllUp_107 : decode cX2_bringAllUp 107 = .ok (.goto (-30), 3) := by decide +kernel
theorem dX2_bringAllUp_110 : decode cX2_bringAllUp 110 = .ok (.return_, 1) := by decide +kernel
set_option maxRecDepth 20000 in
theorem ggX2_letArrive_X2_goOnOrEnd : GoodIn wsX2_letArrive wsX2_goOnOrEnd := goodIn_r _ [9, 3, 10, 11, 12, 13, 14, 15, 16, 17, 18, 19, 20, 8, 21, 4, 22, 23, 24, 25, 26, 27, 28, 29, 30, 31, 32, 33, 34, 35, 36, 37, 38, 39, 40, 41, 42, 43, 44, 45, 46, 47, 48, 49, 50, 51, 52, 53, 54, 55, 56, 57, 58, 59, 60, 61, 62, 63, 64, 65, 66, 67] (by decide +kernel) (by decide +kernel)
set_option maxRecDepth 20000 in
theorem gX2_letArrive_X2_goOnOrEnd : GoodIn wsX2_letArrive (wsV RX2 200 RX2 yX2_goOnOrEnd wsX2_goOnOrEnd) := goodIn_app (goodIn_of _ (by decide +kernel)) ggX2_letArrive_X2_goOnOrEnd
theorem dX2_letArrive_0 : decode cX2_letArrive 0 = .ok (.iconst 0, 1) := by decide +kernel
theorem dX2_letArrive_1 : decode cX2_letArrive 1 = .ok (.istore_n 1, 1) := by decide +kernel
theorem dX2_letArrive_2 : decode cX2_letArrive 2 = .ok (.iload_n 1, 1) := by decide +kernel
theorem dX2_letArrive_3 : decode cX2_letArrive 3 = .ok (.aload_n 0, 1) := by decide +kernel
theorem dX2_letArrive_4 : decode cX2_letArrive 4 = .ok (.getfield 29, 3) := by decide +kernel
theorem dX2_letArrive_7 : decode cX2_letArrive 7 = .ok (.if_icmp .ge 52, 3) := by decide +kernel
theorem dX2_letArrive_10 : decode cX2_letArrive 10 = .ok (.aload_n 0, 1) := by decide +kernel
theorem dX2_letArrive_11 : decode cX2_letArrive 11 = .ok (.getfield 17, 3) := by decide +kernel
theorem dX2_letArrive_14 : decode cX2_letArrive 14 = .ok (.iload_n 1, 1) := by decide +kernel
theorem dX2_letArrive_15 : decode cX2_letArrive 15 = .ok (.aaload, 1) := by decide +kernel
theorem dX2_letArrive_16 : decode cX2_letArrive 16 = .ok (.astore_n 2, 1) := by decide +kernel
theorem dX2_letArrive_17 : decode cX2_letArrive 17 = .ok (.aload_n 2, 1) := by decide +kernel
theorem dX2_letArrive_18 : decode cX2_letArrive 18 = .ok (.getfield 118, 3) := by decide +kernel
theorem dX2_letArrive_21 : decode cX2_letArrive 21 = .ok (.ifCond .ne 32, 3) := by decide +kernel
theorem dX2_letArrive_24 : decode cX2_letArrive 24 = .ok (.aload_n 2, 1) := by decide +kernel
theorem dX2_letArrive_25 : decode cX2_letArrive 25 = .ok (.getfield 194, 3) := by decide +kernel
theorem dX2_letArrive_28 : decode cX2_letArrive 28 = .ok (.aload_n 0, 1) := by decide +kernel
theorem dX2_letArrive_29 : decode cX2_letArrive 29 = .ok (.getfield 35, 3) := by decide +kernel
theorem dX2_letArrive_32 : decode cX2_letArrive 32 = .ok (.if_icmp .ne 21, 3) := by decide +kernel
theorem dX2_letArrive_35 : decode cX2_letArrive 35 = .ok (.aload_n 2, 1) := by decide +kernel
theorem dX2_letArrive_36 : decode cX2_letArrive 36 = .ok (.aload_n 0, 1) := by decide +kernel
theorem dX2_letArrive_37 : decode cX2_letArrive 37 = .ok (.getfield 11, 3) := by decide +kernel
theorem dX2_letArrive_40 : decode cX2_letArrive 40 = .ok (.iconst 0, 1) := by decide +kernel
theorem dX2_letArrive_41 : decode cX2_letArrive 41 = .ok (.aaload, 1) := by decide +kernel
theorem dX2_letArrive_42 : decode cX2_letArrive 42 = .ok (.getfield 68, 3) := by decide +kernel
theorem dX2_letArrive_45 : decode cX2_letArrive 45 = .ok (.putfield 197, 3) := by decide +kernel
theorem dX2_letArrive_48 : decode cX2_letArrive 48 = .ok (.aload_n 0, 1) := by decide +kernel
theorem dX2_letArrive_49 : decode cX2_letArrive 49 = .ok (.aload_n 2, 1) := by decide +kernel
theorem dX2_letArrive_50 : decode cX2_letArrive 50 = .ok (.invokevirtual 200, 3) := by decide +kernel
theorem dX2_letArrive_53 : decode cX2_letArrive 53 = .ok (.iinc 1 1, 3) := by decide +kernel
theorem dX2_letArrive_56 : decode cX2_letArrive 56 = .ok (.goto (-54), 3) := by decide +kernel
theorem dX2_letArrive_59 : decode cX2_letArrive 59 = .ok (.return_, 1) := by decide +kernel
set_option maxRecDepth 20000 in
theorem ggX2_letComeBack_X2_goOnOrEnd : GoodIn wsX2_letComeBack wsX2_goOnOrEnd := goodIn_r _ [7, 8, 9, 10, 11, 12, 13, 14, 15, 16, 17, 18, 19, 6, 20, 21, 22, 23, 24, 25, 26, 27, 28, 29, 30, 31, 32, 33, 34, 35, 36, 37, 38, 39, 40, 41, 42, 43, 44, 45, 46, 47, 48, 49, 50, 51, 52, 53, 54, 55, 56, 57, 58, 59, 60, 61, 62, 63, 64, 65, 66, 67] (by decide +kernel) (by decide +kernel)
set_option maxRecDepth 20000 in
theorem gX2_letComeBack_X2_goOnOrEnd : GoodIn wsX2_letComeBack (wsV RX2 200 RX2 yX2_goOnOrEnd wsX2_goOnOrEnd) := goodIn_app (goodIn_of _ (by decide +kernel)) ggX2_letComeBack_X2_goOnOrEnd
theorem dX2_letComeBack_0 : decode cX2_letComeBack 0 = .ok (.iconst 0, 1) := by decide +kernel
theorem dX2_letComeBack_1 : decode cX2_letComeBack 1 = .ok (.istore_n 1, 1) := by decide +kernel
theorem dX2_letComeBack_2 : decode cX2_letComeBack 2 = .ok (.iload_n 1, 1) := by decide +kernel
theorem dX2_letComeBack_3 : decode cX2_letComeBack 3 = .ok (.aload_n 0, 1) := by decide +kernel
theorem dX2_letComeBack_4 : decode cX2_letComeBack 4 = .ok (.getfield 29, 3) := by decide +kernel
theorem dX2_letComeBack_7 : decode cX2_letComeBack 7 = .ok (.if_icmp .ge 36, 3) := by decide +kernel
theorem dX2_letComeBack_10 : decode cX2_letComeBack 10 = .ok (.aload_n 0, 1) := by decide +kernel
theorem dX2_letComeBack_11 : decode cX2_letComeBack 11 = .ok (.getfield 17, 3) := by decide +kernel
theorem dX2_letComeBack_14 : decode cX2_letComeBack 14 = .ok (.iload_n 1, 1) := by decide +kernel
theorem dX2_letComeBack_15 : decode cX2_letComeBack 15 = .ok (.aaload, 1) := by decide +kernel
theorem dX2_letComeBack_16 : decode cX2_letComeBack 16 = .ok (.astore_n 2, 1) := by decide +kernel
theorem dX2_letComeBack_17 : decode cX2_letComeBack 17 = .ok (.aload_n 2, 1) := by decide +kernel
theorem dX2_letComeBack_18 : decode cX2_letComeBack 18 = .ok (.getfield 118, 3) := by decide +kernel
theorem dX2_letComeBack_21 : decode cX2_letComeBack 21 = .ok (.iconst 3, 1) := by decide +kernel
theorem dX2_letComeBack_22 : decode cX2_letComeBack 22 = .ok (.if_icmp .ne 15, 3) := by decide +kernel
theorem dX2_letComeBack_25 : decode cX2_letComeBack 25 = .ok (.aload_n 2, 1) := by decide +kernel
theorem dX2_letComeBack_26 : decode cX2_letComeBack 26 = .ok (.getfield 203, 3) := by decide +kernel
theorem dX2_letComeBack_29 : decode cX2_letComeBack 29 = .ok (.ifCond .ne 8, 3) := by decide +kernel
theorem dX2_letComeBack_32 : decode cX2_letComeBack 32 = .ok (.aload_n 0, 1) := by decide +kernel
theorem dX2_letComeBack_33 : decode cX2_letComeBack 33 = .ok (.aload_n 2, 1) := by decide +kernel
theorem dX2_letComeBack_34 : decode cX2_letComeBack 34 = .ok (.invokevirtual 200, 3) := by decide +kernel
theorem dX2_letComeBack_37 : decode cX2_letComeBack 37 = .ok (.iinc 1 1, 3) := by decide +kernel
theorem dX2_letComeBack_40 : decode cX2_letComeBack 40 = .ok (.goto (-38), 3) := by decide +kernel
theorem dX2_letComeBack_43 : decode cX2_letComeBack 43 = .ok (.return_, 1) := by decide +kernel
set_option maxRecDepth 20000 in
theorem ggX2_goOnOrEnd_X1_beginBurst : GoodIn wsX2_goOnOrEnd wsX1_beginBurst := goodIn_r _ [5, 6, 7, 8, 9, 39, 40, 41, 42, 43, 44, 45, 46, 47, 48, 49, 50, 51, 52, 53, 54, 55, 56, 57] (by decide +kernel) (by decide +kernel)
set_option maxRecDepth 20000 in
theorem gX2_goOnOrEnd_X1_beginBurst_n206 : GoodIn wsX2_goOnOrEnd (wsX1_beginBurst) := ggX2_goOnOrEnd_X1_beginBurst
set_option maxRecDepth 20000 in
theorem ggX2_goOnOrEnd_X2_standAtEnd : GoodIn wsX2_goOnOrEnd wsX2_standAtEnd := goodIn_r _ [14, 15, 16, 17, 18, 19, 20, 21, 39, 40, 41, 42, 43, 44, 45, 46, 47, 48, 49, 50, 51, 52, 53, 54, 55, 56, 57, 27, 28, 29, 30, 31, 32, 33, 34, 35, 36, 37, 38, 58, 59, 60, 61] (by decide +kernel) (by decide +kernel)
set_option maxRecDepth 20000 in
theorem gX2_goOnOrEnd_X2_standAtEnd : GoodIn wsX2_goOnOrEnd (wsV RX2 210 RX2 yX2_standAtEnd wsX2_standAtEnd) := goodIn_app (goodIn_of _ (by decide +kernel)) ggX2_goOnOrEnd_X2_standAtEnd
set_option maxRecDepth 20000 in
theorem ggX2_goOnOrEnd_X2_endTask : GoodIn wsX2_goOnOrEnd wsX2_endTask := goodIn_r _ [25, 26, 39, 40, 41, 42, 43, 44, 45, 46, 47, 48, 49, 50, 51, 52, 53, 54, 55, 56, 57, 27, 28, 29, 30, 31, 32, 33, 34, 35, 36, 37, 38] (by decide +kernel) (by decide +kernel)
set_option maxRecDepth 20000 in
theorem gX2_goOnOrEnd_X2_endTask : GoodIn wsX2_goOnOrEnd (wsV RX2 213 RX2 yX2_endTask wsX2_endTask) := goodIn_app (goodIn_of _ (by decide +kernel)) ggX2_goOnOrEnd_X2_endTask
theorem dX2_goOnOrEnd_0 : decode cX2_goOnOrEnd 0 = .ok (.aload_n 1, 1) := by decide +kernel
theorem dX2_goOnOrEnd_1 : decode cX2_goOnOrEnd 1 = .ok (.invokevirtual 206, 3) := by decide +kernel
theorem dX2_goOnOrEnd_4 : decode cX2_goOnOrEnd 4 = .ok (.ifCond .eq 11, 3) := by decide +kernel
theorem dX2_goOnOrEnd_7 : decode cX2_goOnOrEnd 7 = .ok (.aload_n 0, 1) := by decide +kernel
theorem dX2_goOnOrEnd_8 : decode cX2_goOnOrEnd 8 = .ok (.aload_n 1, 1) := by decide +kernel
theorem dX2_goOnOrEnd_9 : decode cX2_goOnOrEnd 9 = .ok (.invokevirtual 210, 3) := by decide +kernel
theorem dX2_goOnOrEnd_12 : decode cX2_goOnOrEnd 12 = .ok (.goto 12, 3) := by decide +kernel
theorem dX2_goOnOrEnd_15 : decode cX2_goOnOrEnd 15 = .ok (.aload_n 0, 1) := by decide +kernel
theorem dX2_goOnOrEnd_16 : decode cX2_goOnOrEnd 16 = .ok (.aload_n 1, 1) := by decide +kernel
theorem dX2_goOnOrEnd_17 : decode cX2_goOnOrEnd 17 = .ok (.aload_n 0, 1) := by decide +kernel
theorem dX2_goOnOrEnd_18 : decode cX2_goOnOrEnd 18 = .ok (.getfield 35, 3) := by decide +kernel
theorem dX2_goOnOrEnd_21 : decode cX2_goOnOrEnd 21 = .ok (.invokevirtual 213, 3) := by decide +kernel
theorem dX2_goOnOrEnd_24 : decode cX2_goOnOrEnd 24 = .ok (.return_, 1) := by decide +kernel
set_option maxRecDepth 20000 in
theorem ggX2_makeWay_X2_isOneReadyAbove : GoodIn wsX2_makeWay wsX2_isOneReadyAbove := goodIn_r _ [7, 2, 14, 15, 16, 17, 18, 19, 20, 21, 22, 23, 24, 25, 45, 46, 47, 48] (by decide +kernel) (by decide +kernel)
set_option maxRecDepth 20000 in
theorem gX2_makeWay_X2_isOneReadyAbove : GoodIn wsX2_makeWay (wsV RX2 217 RX2 yX2_isOneReadyAbove wsX2_isOneReadyAbove) := goodIn_app (goodIn_of _ (by decide +kernel)) ggX2_makeWay_X2_isOneReadyAbove
set_option maxRecDepth 20000 in
theorem ggX2_makeWay_X0_addFirst : GoodIn wsX2_makeWay wsX0_addFirst := goodIn_r _ [11, 12, 13, 45, 46, 47, 48] (by decide +kernel) (by decide +kernel)
set_option maxRecDepth 20000 in
theorem gX2_makeWay_X0_addFirst_n224 : GoodIn wsX2_makeWay (wsX0_addFirst) := ggX2_makeWay_X0_addFirst
theorem dX2_makeWay_0 : decode cX2_makeWay 0 = .ok (.aload_n 0, 1) := by decide +kernel
theorem dX2_makeWay_1 : decode cX2_makeWay 1 = .ok (.getfield 38, 3) := by decide +kernel
theorem dX2_makeWay_4 : decode cX2_makeWay 4 = .ok (.ifnull 17, 3) := by decide +kernel
theorem dX2_makeWay_7 : decode cX2_makeWay 7 = .ok (.aload_n 0, 1) := by decide +kernel
theorem dX2_makeWay_8 : decode cX2_makeWay 8 = .ok (.aload_n 0, 1) := by decide +kernel
theorem dX2_makeWay_9 : decode cX2_makeWay 9 = .ok (.getfield 38, 3) := by decide +kernel
theorem dX2_makeWay_12 : decode cX2_makeWay 12 = .ok (.getfield 121, 3) := by decide +kernel
theorem dX2_makeWay_15 : decode cX2_makeWay 15 = .ok (.invokevirtual 217, 3) := by decide +kernel
theorem dX2_makeWay_18 : decode cX2_makeWay 18 = .ok (.ifCond .ne 4, 3) := by decide +kernel
theorem dX2_makeWay_21 : decode cX2_makeWay 21 = .ok (.return_, 1) := by decide +kernel
theorem dX2_makeWay_22 : decode cX2_makeWay 22 = .ok (.aload_n 0, 1) := by decide +kernel
theorem dX2_makeWay_23 : decode cX2_makeWay 23 = .ok (.getfield 38, 3) := by decide +kernel
theorem dX2_makeWay_26 : decode cX2_makeWay 26 = .ok (.iconst 1, 1) := by decide +kernel
theorem dX2_makeWay_27 : decode cX2_makeWay 27 = .ok (.putfield 118, 3) := by decide +kernel
theorem dX2_makeWay_30 : decode cX2_makeWay 30 = .ok (.aload_n 0, 1) := by decide +kernel
theorem dX2_makeWay_31 : decode cX2_makeWay 31 = .ok (.getfield 38, 3) := by decide +kernel
theorem dX2_makeWay_34 : decode cX2_makeWay 34 = .ok (.iconst 1, 1) := by decide +kernel
theorem dX2_makeWay_35 : decode cX2_makeWay 35 = .ok (.putfield 220, 3) := by decide +kernel
theorem dX2_makeWay_38 : decode cX2_makeWay 38 = .ok (.aload_n 0, 1) := by decide +kernel
theorem dX2_makeWay_39 : decode cX2_makeWay 39 = .ok (.getfield 38, 3) := by decide +kernel
theorem dX2_makeWay_42 : decode cX2_makeWay 42 = .ok (.dup, 1) := by decide +kernel
theorem dX2_makeWay_43 : decode cX2_makeWay 43 = .ok (.getfield 145, 3) := by decide +kernel
theorem dX2_makeWay_46 : decode cX2_makeWay 46 = .ok (.iconst 1, 1) := by decide +kernel
theorem dX2_makeWay_47 : decode cX2_makeWay 47 = .ok (.iadd, 1) := by decide +kernel
theorem dX2_makeWay_48 : decode cX2_makeWay 48 = .ok (.putfield 145, 3) := by decide +kernel
theorem dX2_makeWay_51 : decode cX2_makeWay 51 = .ok (.aload_n 0, 1) := by decide +kernel
theorem dX2_makeWay_52 : decode cX2_makeWay 52 = .ok (.getfield 11, 3) := by decide +kernel
theorem dX2_makeWay_55 : decode cX2_makeWay 55 = .ok (.aload_n 0, 1) := by decide +kernel
theorem dX2_makeWay_56 : decode cX2_makeWay 56 = .ok (.getfield 38, 3) := by decide +kernel
theorem dX2_makeWay_59 : decode cX2_makeWay 59 = .ok (.getfield 121, 3) := by decide +kernel
theorem dX2_makeWay_62 : decode cX2_makeWay 62 = .ok (.aaload, 1) := by decide +kernel
theorem dX2_makeWay_63 : decode cX2_makeWay 63 = .ok (.aload_n 0, 1) := by decide +kernel
theorem dX2_makeWay_64 : decode cX2_makeWay 64 = .ok (.getfield 38, 3) := by decide +kernel
theorem dX2_makeWay_67 : decode cX2_makeWay 67 = .ok (.getfield 150, 3) := by decide +kernel
theorem dX2_makeWay_70 : decode cX2_makeWay 70 = .ok (.invokevirtual 224, 3) := by decide +kernel
theorem dX2_makeWay_73 : decode cX2_makeWay 73 = .ok (.aload_n 0, 1) := by decide +kernel
theorem dX2_makeWay_74 : decode cX2_makeWay 74 = .ok (.aconst_null, 1) := by decide +kernel
theorem dX2_makeWay_75 : decode cX2_makeWay 75 = .ok (.putfield 38, 3) := by decide +kernel
theorem dX2_makeWay_78 : decode cX2_makeWay 78 = .ok (.return_, 1) := by decide +kernel
theorem dX2_isOneReadyAbove_0 : decode cX2_isOneReadyAbove 0 = .ok (.iconst 0, 1) := by decide +kernel
theorem dX2_isOneReadyAbove_1 : decode cX2_isOneReadyAbove 1 = .ok (.istore_n 2, 1) := by decide +kernel
theorem dX2_isOneReadyAbove_2 : decode cX2_isOneReadyAbove 2 = .ok (.iload_n 2, 1) := by decide +kernel
theorem dX2_isOneReadyAbove_3 : decode cX2_isOneReadyAbove 3 = .ok (.iload_n 1, 1) := by decide +kernel
theorem dX2_isOneReadyAbove_4 : decode cX2_isOneReadyAbove 4 = .ok (.if_icmp .ge 23, 3) := by decide +kernel
theorem dX2_isOneReadyAbove_7 : decode cX2_isOneReadyAbove 7 = .ok (.aload_n 0, 1) := by decide +kernel
theorem dX2_isOneReadyAbove_8 : decode cX2_isOneReadyAbove 8 = .ok (.getfield 11, 3) := by decide +kernel
theorem dX2_isOneReadyAbove_11 : decode cX2_isOneReadyAbove 11 = .ok (.iload_n 2, 1) := by decide +kernel
theorem dX2_isOneReadyAbove_12 : decode cX2_isOneReadyAbove 12 = .ok (.aaload, 1) := by decide +kernel
theorem dX2_isOneReadyAbove_13 : decode cX2_isOneReadyAbove 13 = .ok (.getfield 227, 3) := by decide +kernel
theorem dX2_isOneReadyAbove_16 : decode cX2_isOneReadyAbove 16 = .ok (.ifCond .le 5, 3) := by decide +kernel
theorem dX2_isOneReadyAbove_19 : decode cX2_isOneReadyAbove 19 = .ok (.iconst 1, 1) := by decide +kernel
theorem dX2_isOneReadyAbove_20 : decode cX2_isOneReadyAbove 20 = .ok (.ireturn, 1) := by decide +kernel
theorem dX2_isOneReadyAbove_21 : decode cX2_isOneReadyAbove 21 = .ok (.iinc 2 1, 3) := by decide +kernel
theorem dX2_isOneReadyAbove_24 : decode cX2_isOneReadyAbove 24 = .ok (.goto (-22), 3) := by decide +kernel
theorem dX2_isOneReadyAbove_27 : decode cX2_isOneReadyAbove 27 = .ok (.iconst 0, 1) := by decide +kernel
theorem dX2_isOneReadyAbove_28 : decode cX2_isOneReadyAbove 28 = .ok (.ireturn, 1) := by decide +kernel
set_option maxRecDepth 20000 in
theorem ggX2_switchToFirst_X0_takeFirst : GoodIn wsX2_switchToFirst wsX0_takeFirst := goodIn_r _ [7, 8, 9, 45, 46, 47, 48] (by decide +kernel) (by decide +kernel)
set_option maxRecDepth 20000 in
theorem gX2_switchToFirst_X0_takeFirst_n230 : GoodIn wsX2_switchToFirst (wsX0_takeFirst) := ggX2_switchToFirst_X0_takeFirst
set_option maxRecDepth 20000 in
theorem ggX2_switchToFirst_X2_isTask : GoodIn wsX2_switchToFirst wsX2_isTask := goodIn_r _ [14, 15, 33, 34, 35, 36, 37, 38, 39, 40, 41, 42, 43, 44] (by decide +kernel) (by decide +kernel)
set_option maxRecDepth 20000 in
theorem gX2_switchToFirst_X2_isTask : GoodIn wsX2_switchToFirst (wsV RX2 99 RX2 yX2_isTask wsX2_isTask) := goodIn_app (goodIn_of _ (by decide +kernel)) ggX2_switchToFirst_X2_isTask
set_option maxRecDepth 20000 in
theorem ggX2_switchToFirst_X2_switchTo : GoodIn wsX2_switchToFirst wsX2_switchTo := goodIn_r _ [19, 20, 2, 21, 22, 23, 24, 25, 26, 27, 28, 29, 30, 31, 32, 33, 34, 35, 36, 37, 38, 39, 40, 41, 42, 43, 44, 49, 50, 51, 52, 53, 54, 55, 56, 57, 58, 59, 60, 61, 62, 63, 64, 65, 66, 67, 45, 46, 47, 48] (by decide +kernel) (by decide +kernel)
set_option maxRecDepth 20000 in
theorem gX2_switchToFirst_X2_switchTo : GoodIn wsX2_switchToFirst (wsV RX2 234 RX2 yX2_switchTo wsX2_switchTo) := goodIn_app (goodIn_of _ (by decide +kernel)) ggX2_switchToFirst_X2_switchTo
theorem dX2_switchToFirst_0 : decode cX2_switchToFirst 0 = .ok (.iconst 0, 1) := by decide +kernel
theorem dX2_switchToFirst_1 : decode cX2_switchToFirst 1 = .ok (.istore_n 1, 1) := by decide +kernel
theorem dX2_switchToFirst_2 : decode cX2_switchToFirst 2 = .ok (.iload_n 1, 1) := by decide +kernel
theorem dX2_switchToFirst_3 : decode cX2_switchToFirst 3 = .ok (.aload_n 0, 1) := by decide +kernel
theorem dX2_switchToFirst_4 : decode cX2_switchToFirst 4 = .ok (.getfield 25, 3) := by decide +kernel
theorem dX2_switchToFirst_7 : decode cX2_switchToFirst 7 = .ok (.if_icmp .ge 38, 3) := by decide +kernel
theorem dX2_switchToFirst_10 : decode cX2_switchToFirst 10 = .ok (.aload_n 0, 1) := by decide +kernel
theorem dX2_switchToFirst_11 : decode cX2_switchToFirst 11 = .ok (.getfield 11, 3) := by decide +kernel
theorem dX2_switchToFirst_14 : decode cX2_switchToFirst 14 = .ok (.iload_n 1, 1) := by decide +kernel
theorem dX2_switchToFirst_15 : decode cX2_switchToFirst 15 = .ok (.aaload, 1) := by decide +kernel
theorem dX2_switchToFirst_16 : decode cX2_switchToFirst 16 = .ok (.invokevirtual 230, 3) := by decide +kernel
theorem dX2_switchToFirst_19 : decode cX2_switchToFirst 19 = .ok (.istore_n 2, 1) := by decide +kernel
theorem dX2_switchToFirst_20 : decode cX2_switchToFirst 20 = .ok (.aload_n 0, 1) := by decide +kernel
theorem dX2_switchToFirst_21 : decode cX2_switchToFirst 21 = .ok (.iload_n 2, 1) := by decide +kernel
theorem dX2_switchToFirst_22 : decode cX2_switchToFirst 22 = .ok (.invokevirtual 99, 3) := by decide +kernel
theorem dX2_switchToFirst_25 : decode cX2_switchToFirst 25 = .ok (.ifCond .eq 14, 3) := by decide +kernel
theorem dX2_switchToFirst_28 : decode cX2_switchToFirst 28 = .ok (.aload_n 0, 1) := by decide +kernel
theorem dX2_switchToFirst_29 : decode cX2_switchToFirst 29 = .ok (.aload_n 0, 1) := by decide +kernel
theorem dX2_switchToFirst_30 : decode cX2_switchToFirst 30 = .ok (.getfield 17, 3) := by decide +kernel
theorem dX2_switchToFirst_33 : decode cX2_switchToFirst 33 = .ok (.iload_n 2, 1) := by decide +kernel
theorem dX2_switchToFirst_34 : decode cX2_switchToFirst 34 = .ok (.aaload, 1) := by decide +kernel
theorem dX2_switchToFirst_35 : decode cX2_switchToFirst 35 = .ok (.invokevirtual 234, 3) := by decide +kernel
theorem dX2_switchToFirst_38 : decode cX2_switchToFirst 38 = .ok (.return_, 1) := by decide +kernel
theorem dX2_switchToFirst_39 : decode cX2_switchToFirst 39 = .ok (.iinc 1 1, 3) := by decide +kernel
theorem dX2_switchToFirst_42 : decode cX2_switchToFirst 42 = .ok (.goto (-40), 3) := by decide +kernel
theorem dX2_switchToFirst_45 : decode cX2_switchToFirst 45 = .ok (.return_, 1) := by decide +kernel
set_option maxRecDepth 20000 in
theorem ggX2_switchTo_X1_beginRunning : GoodIn wsX2_switchTo wsX1_beginRunning := goodIn_r _ [9, 10, 11, 12, 13, 14, 27, 28, 29, 30, 31, 32, 33, 34, 35, 36, 37, 38, 39, 40, 41, 42, 43, 44, 45] (by decide +kernel) (by decide +kernel)
set_option maxRecDepth 20000 in
theorem gX2_switchTo_X1_beginRunning_n237 : GoodIn wsX2_switchTo (wsX1_beginRunning) := ggX2_switchTo_X1_beginRunning
theorem dX2_switchTo_0 : decode cX2_switchTo 0 = .ok (.aload_n 1, 1) := by decide +kernel
theorem dX2_switchTo_1 : decode cX2_switchTo 1 = .ok (.aload_n 0, 1) := by decide +kernel
theorem dX2_switchTo_2 : decode cX2_switchTo 2 = .ok (.getfield 35, 3) := by decide +kernel
theorem dX2_switchTo_5 : decode cX2_switchTo 5 = .ok (.aload_n 0, 1) := by decide +kernel
theorem dX2_switchTo_6 : decode cX2_switchTo 6 = .ok (.getfield 11, 3) := by decide +kernel
theorem dX2_switchTo_9 : decode cX2_switchTo 9 = .ok (.aload_n 1, 1) := by decide +kernel
theorem dX2_switchTo_10 : decode cX2_switchTo 10 = .ok (.getfield 121, 3) := by decide +kernel
theorem dX2_switchTo_13 : decode cX2_switchTo 13 = .ok (.aaload, 1) := by decide +kernel
theorem dX2_switchTo_14 : decode cX2_switchTo 14 = .ok (.getfield 65, 3) := by decide +kernel
theorem dX2_switchTo_17 : decode cX2_switchTo 17 = .ok (.invokevirtual 237, 3) := by decide +kernel
theorem dX2_switchTo_20 : decode cX2_switchTo 20 = .ok (.aload_n 0, 1) := by decide +kernel
theorem dX2_switchTo_21 : decode cX2_switchTo 21 = .ok (.getfield 42, 3) := by decide +kernel
theorem dX2_switchTo_24 : decode cX2_switchTo 24 = .ok (.sipush 400, 3) := by decide +kernel
theorem dX2_switchTo_27 : decode cX2_switchTo 27 = .ok (.if_icmp .ge 24, 3) := by decide +kernel
theorem dX2_switchTo_30 : decode cX2_switchTo 30 = .ok (.aload_n 0, 1) := by decide +kernel
theorem dX2_switchTo_31 : decode cX2_switchTo 31 = .ok (.getfield 21, 3) := by decide +kernel
theorem dX2_switchTo_34 : decode cX2_switchTo 34 = .ok (.aload_n 0, 1) := by decide +kernel
theorem dX2_switchTo_35 : decode cX2_switchTo 35 = .ok (.getfield 42, 3) := by decide +kernel
theorem dX2_switchTo_38 : decode cX2_switchTo 38 = .ok (.bipush 16, 2) := by decide +kernel
theorem dX2_switchTo_40 : decode cX2_switchTo 40 = .ok (.aload_n 0, 1) := by decide +kernel
theorem dX2_switchTo_41 : decode cX2_switchTo 41 = .ok (.getfield 35, 3) := by decide +kernel
theorem dX2_switchTo_44 : decode cX2_switchTo 44 = .ok (.imul, 1) := by decide +kernel
theorem dX2_switchTo_45 : decode cX2_switchTo 45 = .ok (.aload_n 1, 1) := by decide +kernel
theorem dX2_switchTo_46 : decode cX2_switchTo 46 = .ok (.getfield 150, 3) := by decide +kernel
theorem dX2_switchTo_49 : decode cX2_switchTo 49 = .ok (.iadd, 1) := by decide +kernel
theorem dX2_switchTo_50 : decode cX2_switchTo 50 = .ok (.iastore, 1) := by decide +kernel
theorem dX2_switchTo_51 : decode cX2_switchTo 51 = .ok (.aload_n 0, 1) := by decide +kernel
theorem dX2_switchTo_52 : decode cX2_switchTo 52 = .ok (.dup, 1) := by decide +kernel
theorem dX2_switchTo_53 : decode cX2_switchTo 53 = .ok (.getfield 42, 3) := by decide +kernel
theorem dX2_switchTo_56 : decode cX2_switchTo 56 = .ok (.iconst 1, 1) := by decide +kernel
theorem dX2_switchTo_57 : decode cX2_switchTo 57 = .ok (.iadd, 1) := by decide +kernel
theorem dX2_switchTo_58 : decode cX2_switchTo 58 = .ok (.putfield 42, 3) := by decide +kernel
theorem dX2_switchTo_61 : decode cX2_switchTo 61 = .ok (.aload_n 0, 1) := by decide +kernel
theorem dX2_switchTo_62 : decode cX2_switchTo 62 = .ok (.aload_n 1, 1) := by decide +kernel
theorem dX2_switchTo_63 : decode cX2_switchTo 63 = .ok (.putfield 38, 3) := by decide +kernel
theorem dX2_switchTo_66 : decode cX2_switchTo 66 = .ok (.return_, 1) := by decide +kernel
theorem dX2_countWaiting_0 : decode cX2_countWaiting 0 = .ok (.iconst 0, 1) := by decide +kernel
theorem dX2_countWaiting_1 : decode cX2_countWaiting 1 = .ok (.istore_n 1, 1) := by decide +kernel
theorem dX2_countWaiting_2 : decode cX2_countWaiting 2 = .ok (.iload_n 1, 1) := by decide +kernel
theorem dX2_countWaiting_3 : decode cX2_countWaiting 3 = .ok (.aload_n 0, 1) := by decide +kernel
theorem dX2_countWaiting_4 : decode cX2_countWaiting 4 = .ok (.getfield 29, 3) := by decide +kernel
theorem dX2_countWaiting_7 : decode cX2_countWaiting 7 = .ok (.if_icmp .ge 65, 3) := by decide +kernel
theorem dX2_countWaiting_10 : decode cX2_countWaiting 10 = .ok (.aload_n 0, 1) := by decide +kernel
theorem dX2_countWaiting_11 : decode cX2_countWaiting 11 = .ok (.getfield 17, 3) := by decide +kernel
theorem dX2_countWaiting_14 : decode cX2_countWaiting 14 = .ok (.iload_n 1, 1) := by decide +kernel
theorem dX2_countWaiting_15 : decode cX2_countWaiting 15 = .ok (.aaload, 1) := by decide +kernel
theorem dX2_countWaiting_16 : decode cX2_countWaiting 16 = .ok (.astore_n 2, 1) := by decide +kernel
theorem dX2_countWaiting_17 : decode cX2_countWaiting 17 = .ok (.aload_n 2, 1) := by decide +kernel
theorem dX2_countWaiting_18 : decode cX2_countWaiting 18 = .ok (.getfield 118, 3) := by decide +kernel
theorem dX2_countWaiting_21 : decode cX2_countWaiting 21 = .ok (.iconst 1, 1) := by decide +kernel
theorem dX2_countWaiting_22 : decode cX2_countWaiting 22 = .ok (.if_icmp .ne 16, 3) := by decide +kernel
theorem dX2_countWaiting_25 : decode cX2_countWaiting 25 = .ok (.aload_n 2, 1) := by decide +kernel
theorem dX2_countWaiting_26 : decode cX2_countWaiting 26 = .ok (.dup, 1) := by decide +kernel
theorem dX2_countWaiting_27 : decode cX2_countWaiting 27 = .ok (.getfield 127, 3) := by decide +kernel
theorem dX2_countWaiting_30 : decode cX2_countWaiting 30 = .ok (.iconst 1, 1) := by decide +kernel
theorem dX2_countWaiting_31 : decode cX2_countWaiting 31 = .ok (.iadd, 1) := by decide +kernel
theorem dX2_countWaiting_32 : decode cX2_countWaiting 32 = .ok (.putfield 127, 3) := by decide +kernel
theorem dX2_countWaiting_35 : decode cX2_countWaiting 35 = .ok (.goto 31, 3) := by decide +kernel
theorem dX2_countWaiting_38 : decode cX2_countWaiting 38 = .ok (.aload_n 2, 1) := by decide +kernel
theorem dX2_countWaiting_39 : decode cX2_countWaiting 39 = .ok (.getfield 118, 3) := by decide +kernel
theorem dX2_countWaiting_42 : decode cX2_countWaiting 42 = .ok (.iconst 3, 1) := by decide +kernel
theorem dX2_countWaiting_43 : decode cX2_countWaiting 43 = .ok (.if_icmp .ne 23, 3) := by decide +kernel
theorem dX2_countWaiting_46 : decode cX2_countWaiting 46 = .ok (.aload_n 2, 1) := by decide +kernel
theorem dX2_countWaiting_47 : decode cX2_countWaiting 47 = .ok (.dup, 1) := by decide +kernel
theorem dX2_countWaiting_48 : decode cX2_countWaiting 48 = .ok (.getfield 130, 3) := by decide +kernel
theorem dX2_countWaiting_51 : decode cX2_countWaiting 51 = .ok (.iconst 1, 1) := by decide +kernel
theorem dX2_countWaiting_52 : decode cX2_countWaiting 52 = .ok (.iadd, 1) := by decide +kernel
theorem dX2_countWaiting_53 : decode cX2_countWaiting 53 = .ok (.putfield 130, 3) := by decide +kernel
theorem dX2_countWaiting_56 : decode cX2_countWaiting 56 = .ok (.aload_n 2, 1) := by decide +kernel
theorem dX2_countWaiting_57 : decode cX2_countWaiting 57 = .ok (.dup, 1) := by decide +kernel
theorem dX2_countWaiting_58 : decode cX2_countWaiting 58 = .ok (.getfield 203, 3) := by decide +kernel
theorem dX2_countWaiting_61 : decode cX2_countWaiting 61 = .ok (.iconst 1, 1) := by decide +kernel
theorem dX2_countWaiting_62 : decode cX2_countWaiting 62 = .ok (.isub, 1) := by decide +kernel
theorem dX2_countWaiting_63 : decode cX2_countWaiting 63 = .ok (.putfield 203, 3) := by decide +kernel
theorem dX2_countWaiting_66 : decode cX2_countWaiting 66 = .ok (.iinc 1 1, 3) := by decide +kernel
theorem dX2_countWaiting_69 : decode cX2_countWaiting 69 = .ok (.goto (-67), 3) := by decide +kernel
theorem dX2_countWaiting_72 : decode cX2_countWaiting 72 = .ok (.return_, 1) := by decide +kernel
set_option maxRecDepth 20000 in
theorem ggX2_useTick_X2_blockOrEnd : GoodIn wsX2_useTick wsX2_blockOrEnd := goodIn_r _ [6, 7, 8, 9, 10, 11, 12, 13, 14, 15, 16, 17, 18, 5, 19, 20, 37, 38, 39, 40, 41, 42, 43, 44, 45, 46, 47, 48, 49, 50, 51, 52, 53, 54, 55, 56, 57, 58, 59, 60, 61, 62, 63, 64, 65, 66, 67] (by decide +kernel) (by decide +kernel)
set_option maxRecDepth 20000 in
theorem gX2_useTick_X2_blockOrEnd : GoodIn wsX2_useTick (wsV RX2 243 RX2 yX2_blockOrEnd wsX2_blockOrEnd) := goodIn_app (goodIn_of _ (by decide +kernel)) ggX2_useTick_X2_blockOrEnd
set_option maxRecDepth 20000 in
theorem ggX2_useTick_X2_sendDown : GoodIn wsX2_useTick wsX2_sendDown := goodIn_r _ [24, 25, 26, 27, 28, 29, 5, 30, 31, 32, 33, 34, 35, 36, 37, 38, 39, 40, 41, 42, 43, 44, 45, 46, 47, 48, 49, 50, 51, 52, 53, 54, 55, 56, 57, 58, 59, 60, 61, 62, 63, 64, 65, 66, 67, 68, 69, 70, 71] (by decide +kernel) (by decide +kernel)
set_option maxRecDepth 20000 in
theorem gX2_useTick_X2_sendDown : GoodIn wsX2_useTick (wsV RX2 246 RX2 yX2_sendDown wsX2_sendDown) := goodIn_app (goodIn_of _ (by decide +kernel)) ggX2_useTick_X2_sendDown
set_option maxRecDepth 20000 in
theorem ggX2_useTick_X2_standAtEnd : GoodIn wsX2_useTick wsX2_standAtEnd := goodIn_r _ [30, 26, 31, 32, 33, 34, 35, 36, 37, 38, 39, 40, 41, 42, 43, 44, 45, 46, 47, 48, 49, 50, 51, 52, 53, 54, 55, 56, 57, 58, 59, 60, 61, 62, 63, 64, 65, 66, 67, 68, 69, 70, 71] (by decide +kernel) (by decide +kernel)
set_option maxRecDepth 20000 in
theorem gX2_useTick_X2_standAtEnd : GoodIn wsX2_useTick (wsV RX2 210 RX2 yX2_standAtEnd wsX2_standAtEnd) := goodIn_app (goodIn_of _ (by decide +kernel)) ggX2_useTick_X2_standAtEnd
theorem dX2_useTick_0 : decode cX2_useTick 0 = .ok (.aload_n 1, 1) := by decide +kernel
theorem dX2_useTick_1 : decode cX2_useTick 1 = .ok (.dup, 1) := by decide +kernel
theorem dX2_useTick_2 : decode cX2_useTick 2 = .ok (.getfield 124, 3) := by decide +kernel
theorem dX2_useTick_5 : decode cX2_useTick 5 = .ok (.iconst 1, 1) := by decide +kernel
theorem dX2_useTick_6 : decode cX2_useTick 6 = .ok (.iadd, 1) := by decide +kernel
theorem dX2_useTick_7 : decode cX2_useTick 7 = .ok (.putfield 124, 3) := by decide +kernel
theorem dX2_useTick_10 : decode cX2_useTick 10 = .ok (.aload_n 1, 1) := by decide +kernel
theorem dX2_useTick_11 : decode cX2_useTick 11 = .ok (.dup, 1) := by decide +kernel
theorem dX2_useTick_12 : decode cX2_useTick 12 = .ok (.getfield 203, 3) := by decide +kernel
theorem dX2_useTick_15 : decode cX2_useTick 15 = .ok (.iconst 1, 1) := by decide +kernel
theorem dX2_useTick_16 : decode cX2_useTick 16 = .ok (.isub, 1) := by decide +kernel
theorem dX2_useTick_17 : decode cX2_useTick 17 = .ok (.putfield 203, 3) := by decide +kernel
theorem dX2_useTick_20 : decode cX2_useTick 20 = .ok (.aload_n 1, 1) := by decide +kernel
theorem dX2_useTick_21 : decode cX2_useTick 21 = .ok (.dup, 1) := by decide +kernel
theorem dX2_useTick_22 : decode cX2_useTick 22 = .ok (.getfield 240, 3) := by decide +kernel
theorem dX2_useTick_25 : decode cX2_useTick 25 = .ok (.iconst 1, 1) := by decide +kernel
theorem dX2_useTick_26 : decode cX2_useTick 26 = .ok (.isub, 1) := by decide +kernel
theorem dX2_useTick_27 : decode cX2_useTick 27 = .ok (.putfield 240, 3) := by decide +kernel
theorem dX2_useTick_30 : decode cX2_useTick 30 = .ok (.aload_n 1, 1) := by decide +kernel
theorem dX2_useTick_31 : decode cX2_useTick 31 = .ok (.dup, 1) := by decide +kernel
theorem dX2_useTick_32 : decode cX2_useTick 32 = .ok (.getfield 197, 3) := by decide +kernel
theorem dX2_useTick_35 : decode cX2_useTick 35 = .ok (.iconst 1, 1) := by decide +kernel
theorem dX2_useTick_36 : decode cX2_useTick 36 = .ok (.isub, 1) := by decide +kernel
theorem dX2_useTick_37 : decode cX2_useTick 37 = .ok (.putfield 197, 3) := by decide +kernel
theorem dX2_useTick_40 : decode cX2_useTick 40 = .ok (.aload_n 1, 1) := by decide +kernel
theorem dX2_useTick_41 : decode cX2_useTick 41 = .ok (.getfield 203, 3) := by decide +kernel
theorem dX2_useTick_44 : decode cX2_useTick 44 = .ok (.ifCond .ne 11, 3) := by decide +kernel
theorem dX2_useTick_47 : decode cX2_useTick 47 = .ok (.aload_n 0, 1) := by decide +kernel
theorem dX2_useTick_48 : decode cX2_useTick 48 = .ok (.aload_n 1, 1) := by decide +kernel
theorem dX2_useTick_49 : decode cX2_useTick 49 = .ok (.invokevirtual 243, 3) := by decide +kernel
theorem dX2_useTick_52 : decode cX2_useTick 52 = .ok (.goto 34, 3) := by decide +kernel
theorem dX2_useTick_55 : decode cX2_useTick 55 = .ok (.aload_n 1, 1) := by decide +kernel
theorem dX2_useTick_56 : decode cX2_useTick 56 = .ok (.getfield 197, 3) := by decide +kernel
theorem dX2_useTick_59 : decode cX2_useTick 59 = .ok (.ifCond .gt 11, 3) := by decide +kernel
theorem dX2_useTick_62 : decode cX2_useTick 62 = .ok (.aload_n 0, 1) := by decide +kernel
theorem dX2_useTick_63 : decode cX2_useTick 63 = .ok (.aload_n 1, 1) := by decide +kernel
theorem dX2_useTick_64 : decode cX2_useTick 64 = .ok (.invokevirtual 246, 3) := by decide +kernel
theorem dX2_useTick_67 : decode cX2_useTick 67 = .ok (.goto 19, 3) := by decide +kernel
theorem dX2_useTick_70 : decode cX2_useTick 70 = .ok (.aload_n 1, 1) := by decide +kernel
theorem dX2_useTick_71 : decode cX2_useTick 71 = .ok (.getfield 240, 3) := by decide +kernel
theorem dX2_useTick_74 : decode cX2_useTick 74 = .ok (.ifCond .ne 11, 3) := by decide +kernel
theorem dX2_useTick_77 : decode cX2_useTick 77 = .ok (.aload_n 0, 1) := by decide +kernel
theorem dX2_useTick_78 : decode cX2_useTick 78 = .ok (.aload_n 1, 1) := by decide +kernel
theorem dX2_useTick_79 : decode cX2_useTick 79 = .ok (.invokevirtual 210, 3) := by decide +kernel
theorem dX2_useTick_82 : decode cX2_useTick 82 = .ok (.goto 4, 3) := by decide +kernel
theorem dX2_useTick_85 : decode cX2_useTick 85 = .ok (.return_, 1) := by decide +kernel
theorem dX2_useTick_86 : decode cX2_useTick 86 = .ok (.aload_n 0, 1) := by decide +kernel
theorem dX2_useTick_87 : decode cX2_useTick 87 = .ok (.aconst_null, 1) := by decide +kernel
theorem dX2_useTick_88 : decode cX2_useTick 88 = .ok (.putfield 38, 3) := by decide +kernel
theorem dX2_useTick_91 : decode cX2_useTick 91 = .ok (.return_, 1) := by decide +kernel
set_option maxRecDepth 20000 in
theorem ggX2_blockOrEnd_X1_beginBurst : GoodIn wsX2_blockOrEnd wsX1_beginBurst := goodIn_r _ [5, 6, 7, 8, 9, 16, 17, 18, 19, 20, 21, 22, 23, 24, 25, 26, 27, 28, 29, 30, 31, 32, 33, 34] (by decide +kernel) (by decide +kernel)
set_option maxRecDepth 20000 in
theorem gX2_blockOrEnd_X1_beginBurst_n206 : GoodIn wsX2_blockOrEnd (wsX1_beginBurst) := ggX2_blockOrEnd_X1_beginBurst
set_option maxRecDepth 20000 in
theorem ggX2_blockOrEnd_X2_endTask : GoodIn wsX2_blockOrEnd wsX2_endTask := goodIn_r _ [14, 15, 16, 17, 18, 19, 20, 21, 22, 23, 24, 25, 26, 27, 28, 29, 30, 31, 32, 33, 34, 35, 36, 37, 38, 39, 40, 41, 42, 43, 44, 45, 46] (by decide +kernel) (by decide +kernel)
set_option maxRecDepth 20000 in
theorem gX2_blockOrEnd_X2_endTask : GoodIn wsX2_blockOrEnd (wsV RX2 213 RX2 yX2_endTask wsX2_endTask) := goodIn_app (goodIn_of _ (by decide +kernel)) ggX2_blockOrEnd_X2_endTask
theorem dX2_blockOrEnd_0 : decode cX2_blockOrEnd 0 = .ok (.aload_n 1, 1) := by decide +kernel
theorem dX2_blockOrEnd_1 : decode cX2_blockOrEnd 1 = .ok (.invokevirtual 206, 3) := by decide +kernel
theorem dX2_blockOrEnd_4 : decode cX2_blockOrEnd 4 = .ok (.ifCond .eq 11, 3) := by decide +kernel
theorem dX2_blockOrEnd_7 : decode cX2_blockOrEnd 7 = .ok (.aload_n 1, 1) := by decide +kernel
theorem dX2_blockOrEnd_8 : decode cX2_blockOrEnd 8 = .ok (.iconst 3, 1) := by decide +kernel
theorem dX2_blockOrEnd_9 : decode cX2_blockOrEnd 9 = .ok (.putfield 118, 3) := by decide +kernel
theorem dX2_blockOrEnd_12 : decode cX2_blockOrEnd 12 = .ok (.goto 14, 3) := by decide +kernel
theorem dX2_blockOrEnd_15 : decode cX2_blockOrEnd 15 = .ok (.aload_n 0, 1) := by decide +kernel
theorem dX2_blockOrEnd_16 : decode cX2_blockOrEnd 16 = .ok (.aload_n 1, 1) := by decide +kernel
theorem dX2_blockOrEnd_17 : decode cX2_blockOrEnd 17 = .ok (.aload_n 0, 1) := by decide +kernel
theorem dX2_blockOrEnd_18 : decode cX2_blockOrEnd 18 = .ok (.getfield 35, 3) := by decide +kernel
theorem dX2_blockOrEnd_21 : decode cX2_blockOrEnd 21 = .ok (.iconst 1, 1) := by decide +kernel
theorem dX2_blockOrEnd_22 : decode cX2_blockOrEnd 22 = .ok (.iadd, 1) := by decide +kernel
theorem dX2_blockOrEnd_23 : decode cX2_blockOrEnd 23 = .ok (.invokevirtual 213, 3) := by decide +kernel
theorem dX2_blockOrEnd_26 : decode cX2_blockOrEnd 26 = .ok (.return_, 1) := by decide +kernel
set_option maxRecDepth 20000 in
theorem ggX2_sendDown_X2_standAtEnd : GoodIn wsX2_sendDown wsX2_standAtEnd := goodIn_r _ [7, 2, 8, 9, 10, 11, 12, 13, 14, 15, 16, 17, 18, 19, 20, 21, 22, 23, 24, 25, 26, 27, 28, 29, 30, 31, 32, 33, 34, 35, 36, 37, 38, 39, 40, 41, 42, 43, 44, 45, 46, 47, 48] (by decide +kernel) (by decide +kernel)
set_option maxRecDepth 20000 in
theorem gX2_sendDown_X2_standAtEnd : GoodIn wsX2_sendDown (wsV RX2 210 RX2 yX2_standAtEnd wsX2_standAtEnd) := goodIn_app (goodIn_of _ (by decide +kernel)) ggX2_sendDown_X2_standAtEnd
theorem dX2_sendDown_0 : decode cX2_sendDown 0 = .ok (.aload_n 1, 1) := by decide +kernel
theorem dX2_sendDown_1 : decode cX2_sendDown 1 = .ok (.getfield 121, 3) := by decide +kernel
theorem dX2_sendDown_4 : decode cX2_sendDown 4 = .ok (.aload_n 0, 1) := by decide +kernel
theorem dX2_sendDown_5 : decode cX2_sendDown 5 = .ok (.getfield 25, 3) := by decide +kernel
theorem dX2_sendDown_8 : decode cX2_sendDown 8 = .ok (.iconst 1, 1) := by decide +kernel
theorem dX2_sendDown_9 : decode cX2_sendDown 9 = .ok (.isub, 1) := by decide +kernel
theorem dX2_sendDown_10 : decode cX2_sendDown 10 = .ok (.if_icmp .ge 23, 3) := by decide +kernel
theorem dX2_sendDown_13 : decode cX2_sendDown 13 = .ok (.aload_n 1, 1) := by decide +kernel
theorem dX2_sendDown_14 : decode cX2_sendDown 14 = .ok (.dup, 1) := by decide +kernel
theorem dX2_sendDown_15 : decode cX2_sendDown 15 = .ok (.getfield 121, 3) := by decide +kernel
theorem dX2_sendDown_18 : decode cX2_sendDown 18 = .ok (.iconst 1, 1) := by decide +kernel
theorem dX2_sendDown_19 : decode cX2_sendDown 19 = .ok (.iadd, 1) := by decide +kernel
theorem dX2_sendDown_20 : decode cX2_sendDown 20 = .ok (.putfield 121, 3) := by decide +kernel
theorem dX2_sendDown_23 : decode cX2_sendDown 23 = .ok (.aload_n 1, 1) := by decide +kernel
theorem dX2_sendDown_24 : decode cX2_sendDown 24 = .ok (.dup, 1) := by decide +kernel
theorem dX2_sendDown_25 : decode cX2_sendDown 25 = .ok (.getfield 142, 3) := by decide +kernel
theorem dX2_sendDown_28 : decode cX2_sendDown 28 = .ok (.iconst 1, 1) := by decide +kernel
theorem dX2_sendDown_29 : decode cX2_sendDown 29 = .ok (.iadd, 1) := by decide +kernel
theorem dX2_sendDown_30 : decode cX2_sendDown 30 = .ok (.putfield 142, 3) := by decide +kernel
theorem dX2_sendDown_33 : decode cX2_sendDown 33 = .ok (.aload_n 1, 1) := by decide +kernel
theorem dX2_sendDown_34 : decode cX2_sendDown 34 = .ok (.aload_n 0, 1) := by decide +kernel
theorem dX2_sendDown_35 : decode cX2_sendDown 35 = .ok (.getfield 11, 3) := by decide +kernel
theorem dX2_sendDown_38 : decode cX2_sendDown 38 = .ok (.aload_n 1, 1) := by decide +kernel
theorem dX2_sendDown_39 : decode cX2_sendDown 39 = .ok (.getfield 121, 3) := by decide +kernel
theorem dX2_sendDown_42 : decode cX2_sendDown 42 = .ok (.aaload, 1) := by decide +kernel
theorem dX2_sendDown_43 : decode cX2_sendDown 43 = .ok (.getfield 68, 3) := by decide +kernel
theorem dX2_sendDown_46 : decode cX2_sendDown 46 = .ok (.putfield 197, 3) := by decide +kernel
theorem dX2_sendDown_49 : decode cX2_sendDown 49 = .ok (.aload_n 0, 1) := by decide +kernel
theorem dX2_sendDown_50 : decode cX2_sendDown 50 = .ok (.aload_n 1, 1) := by decide +kernel
theorem dX2_sendDown_51 : decode cX2_sendDown 51 = .ok (.invokevirtual 210, 3) := by decide +kernel
theorem dX2_sendDown_54 : decode cX2_sendDown 54 = .ok (.return_, 1) := by decide +kernel
set_option maxRecDepth 20000 in
theorem ggX2_standAtEnd_X0_addLast : GoodIn wsX2_standAtEnd wsX0_addLast := goodIn_r _ [5, 6, 7, 39, 40, 41, 42] (by decide +kernel) (by decide +kernel)
set_option maxRecDepth 20000 in
theorem gX2_standAtEnd_X0_addLast_n249 : GoodIn wsX2_standAtEnd (wsX0_addLast) := ggX2_standAtEnd_X0_addLast
theorem dX2_standAtEnd_0 : decode cX2_standAtEnd 0 = .ok (.aload_n 1, 1) := by decide +kernel
theorem dX2_standAtEnd_1 : decode cX2_standAtEnd 1 = .ok (.iconst 1, 1) := by decide +kernel
theorem dX2_standAtEnd_2 : decode cX2_standAtEnd 2 = .ok (.putfield 118, 3) := by decide +kernel
theorem dX2_standAtEnd_5 : decode cX2_standAtEnd 5 = .ok (.aload_n 0, 1) := by decide +kernel
theorem dX2_standAtEnd_6 : decode cX2_standAtEnd 6 = .ok (.getfield 11, 3) := by decide +kernel
theorem dX2_standAtEnd_9 : decode cX2_standAtEnd 9 = .ok (.aload_n 1, 1) := by decide +kernel
theorem dX2_standAtEnd_10 : decode cX2_standAtEnd 10 = .ok (.getfield 121, 3) := by decide +kernel
theorem dX2_standAtEnd_13 : decode cX2_standAtEnd 13 = .ok (.aaload, 1) := by decide +kernel
theorem dX2_standAtEnd_14 : decode cX2_standAtEnd 14 = .ok (.aload_n 1, 1) := by decide +kernel
theorem dX2_standAtEnd_15 : decode cX2_standAtEnd 15 = .ok (.getfield 150, 3) := by decide +kernel
theorem dX2_standAtEnd_18 : decode cX2_standAtEnd 18 = .ok (.invokevirtual 249, 3) := by decide +kernel
theorem dX2_standAtEnd_21 : decode cX2_standAtEnd 21 = .ok (.return_, 1) := by decide +kernel
theorem dX2_endTask_0 : decode cX2_endTask 0 = .ok (.aload_n 1, 1) := by decide +kernel
theorem dX2_endTask_1 : decode cX2_endTask 1 = .ok (.iconst 4, 1) := by decide +kernel
theorem dX2_endTask_2 : decode cX2_endTask 2 = .ok (.putfield 118, 3) := by decide +kernel
theorem dX2_endTask_5 : decode cX2_endTask 5 = .ok (.aload_n 1, 1) := by decide +kernel
theorem dX2_endTask_6 : decode cX2_endTask 6 = .ok (.iload_n 2, 1) := by decide +kernel
theorem dX2_endTask_7 : decode cX2_endTask 7 = .ok (.putfield 136, 3) := by decide +kernel
theorem dX2_endTask_10 : decode cX2_endTask 10 = .ok (.aload_n 0, 1) := by decide +kernel
theorem dX2_endTask_11 : decode cX2_endTask 11 = .ok (.dup, 1) := by decide +kernel
theorem dX2_endTask_12 : decode cX2_endTask 12 = .ok (.getfield 51, 3) := by decide +kernel
theorem dX2_endTask_15 : decode cX2_endTask 15 = .ok (.iconst 1, 1) := by decide +kernel
theorem dX2_endTask_16 : decode cX2_endTask 16 = .ok (.iadd, 1) := by decide +kernel
theorem dX2_endTask_17 : decode cX2_endTask 17 = .ok (.putfield 51, 3) := by decide +kernel
theorem dX2_endTask_20 : decode cX2_endTask 20 = .ok (.return_, 1) := by decide +kernel
set_option maxRecDepth 20000 in
theorem ggX3_init_X3_set : GoodIn wsX3_init wsX3_set := goodIn_r _ [28, 29, 5, 6, 30, 31, 32, 33, 27, 34, 35, 36, 22, 21, 10, 11, 12, 17, 19, 37, 38, 39, 40, 41, 42, 43, 44, 45, 46, 47, 48, 49, 50, 51, 52, 53, 54, 55, 56, 57, 58, 59, 60] (by decide +kernel) (by decide +kernel)
set_option maxRecDepth 20000 in
theorem gX3_init_X3_set : GoodIn wsX3_init (wsV RX3 65 RX3 yX3_set wsX3_set) := goodIn_app (goodIn_of _ (by decide +kernel)) ggX3_init_X3_set
theorem dX3_init_0 : decode cX3_init 0 = .ok (.aload_n 0, 1) := by decide +kernel
theorem dX3_init_1 : decode cX3_init 1 = .ok (.invokespecial 1, 3) := by decide +kernel
theorem dX3_init_4 : decode cX3_init 4 = .ok (.aload_n 0, 1) := by decide +kernel
theorem dX3_init_5 : decode cX3_init 5 = .ok (.bipush 6, 2) := by decide +kernel
theorem dX3_init_7 : decode cX3_init 7 = .ok (.newarray .int, 2) := by decide +kernel
theorem dX3_init_9 : decode cX3_init 9 = .ok (.putfield 7, 3) := by decide +kernel
theorem dX3_init_12 : decode cX3_init 12 = .ok (.aload_n 0, 1) := by decide +kernel
theorem dX3_init_13 : decode cX3_init 13 = .ok (.bipush 6, 2) := by decide +kernel
theorem dX3_init_15 : decode cX3_init 15 = .ok (.newarray .int, 2) := by decide +kernel
theorem dX3_init_17 : decode cX3_init 17 = .ok (.putfield 13, 3) := by decide +kernel
theorem dX3_init_20 : decode cX3_init 20 = .ok (.aload_n 0, 1) := by decide +kernel
theorem dX3_init_21 : decode cX3_init 21 = .ok (.bipush 16, 2) := by decide +kernel
theorem dX3_init_23 : decode cX3_init 23 = .ok (.newarray .int, 2) := by decide +kernel
theorem dX3_init_25 : decode cX3_init 25 = .ok (.putfield 16, 3) := by decide +kernel
theorem dX3_init_28 : decode cX3_init 28 = .ok (.aload_n 0, 1) := by decide +kernel
theorem dX3_init_29 : decode cX3_init 29 = .ok (.bipush 16, 2) := by decide +kernel
theorem dX3_init_31 : decode cX3_init 31 = .ok (.newarray .int, 2) := by decide +kernel
theorem dX3_init_33 : decode cX3_init 33 = .ok (.putfield 19, 3) := by decide +kernel
theorem dX3_init_36 : decode cX3_init 36 = .ok (.aload_n 0, 1) := by decide +kernel
theorem dX3_init_37 : decode cX3_init 37 = .ok (.sipush 192, 3) := by decide +kernel
theorem dX3_init_40 : decode cX3_init 40 = .ok (.newarray .int, 2) := by decide +kernel
theorem dX3_init_42 : decode cX3_init 42 = .ok (.putfield 22, 3) := by decide +kernel
theorem dX3_init_45 : decode cX3_init 45 = .ok (.aload_n 0, 1) := by decide +kernel
theorem dX3_init_46 : decode cX3_init 46 = .ok (.bipush 16, 2) := by decide +kernel
theorem dX3_init_48 : decode cX3_init 48 = .ok (.newarray .int, 2) := by decide +kernel
theorem dX3_init_50 : decode cX3_init 50 = .ok (.putfield 25, 3) := by decide +kernel
theorem dX3_init_53 : decode cX3_init 53 = .ok (.aload_n 0, 1) := by decide +kernel
theorem dX3_init_54 : decode cX3_init 54 = .ok (.bipush 16, 2) := by decide +kernel
theorem dX3_init_56 : decode cX3_init 56 = .ok (.newarray .int, 2) := by decide +kernel
theorem dX3_init_58 : decode cX3_init 58 = .ok (.putfield 28, 3) := by decide +kernel
theorem dX3_init_61 : decode cX3_init 61 = .ok (.aload_n 0, 1) := by decide +kernel
theorem dX3_init_62 : decode cX3_init 62 = .ok (.bipush 16, 2) := by decide +kernel
theorem dX3_init_64 : decode cX3_init 64 = .ok (.newarray .int, 2) := by decide +kernel
theorem dX3_init_66 : decode cX3_init 66 = .ok (.putfield 31, 3) := by decide +kernel
theorem dX3_init_69 : decode cX3_init 69 = .ok (.aload_n 0, 1) := by decide +kernel
theorem dX3_init_70 : decode cX3_init 70 = .ok (.bipush 16, 2) := by decide +kernel
theorem dX3_init_72 : decode cX3_init 72 = .ok (.newarray .int, 2) := by decide +kernel
theorem dX3_init_74 : decode cX3_init 74 = .ok (.putfield 34, 3) := by decide +kernel
theorem dX3_init_77 : decode cX3_init 77 = .ok (.aload_n 0, 1) := by decide +kernel
theorem dX3_init_78 : decode cX3_init 78 = .ok (.bipush 16, 2) := by decide +kernel
theorem dX3_init_80 : decode cX3_init 80 = .ok (.newarray .int, 2) := by decide +kernel
theorem dX3_init_82 : decode cX3_init 82 = .ok (.putfield 37, 3) := by decide +kernel
theorem dX3_init_85 : decode cX3_init 85 = .ok (.aload_n 0, 1) := by decide +kernel
theorem dX3_init_86 : decode cX3_init 86 = .ok (.bipush 16, 2) := by decide +kernel
theorem dX3_init_88 : decode cX3_init 88 = .ok (.newarray .int, 2) := by decide +kernel
theorem dX3_init_90 : decode cX3_init 90 = .ok (.putfield 40, 3) := by decide +kernel
theorem dX3_init_93 : decode cX3_init 93 = .ok (.aload_n 0, 1) := by decide +kernel
theorem dX3_init_94 : decode cX3_init 94 = .ok (.bipush 16, 2) := by decide +kernel
theorem dX3_init_96 : decode cX3_init 96 = .ok (.newarray .boolean, 2) := by decide +kernel
theorem dX3_init_98 : decode cX3_init 98 = .ok (.putfield 43, 3) := by decide +kernel
theorem dX3_init_101 : decode cX3_init 101 = .ok (.aload_n 0, 1) := by decide +kernel
theorem dX3_init_102 : decode cX3_init 102 = .ok (.bipush 16, 2) := by decide +kernel
theorem dX3_init_104 : decode cX3_init 104 = .ok (.newarray .int, 2) := by decide +kernel
theorem dX3_init_106 : decode cX3_init 106 = .ok (.putfield 47, 3) := by decide +kernel
theorem dX3_init_109 : decode cX3_init 109 = .ok (.aload_n 0, 1) := by decide +kernel
theorem dX3_init_110 : decode cX3_init 110 = .ok (.sipush 160, 3) := by decide +kernel
theorem dX3_init_113 : decode cX3_init 113 = .ok (.newarray .int, 2) := by decide +kernel
theorem dX3_init_115 : decode cX3_init 115 = .ok (.putfield 50, 3) := by decide +kernel
theorem dX3_init_118 : decode cX3_init 118 = .ok (.aload_n 0, 1) := by decide +kernel
theorem dX3_init_119 : decode cX3_init 119 = .ok (.bipush 96, 2) := by decide +kernel
theorem dX3_init_121 : decode cX3_init 121 = .ok (.newarray .int, 2) := by decide +kernel
theorem dX3_init_123 : decode cX3_init 123 = .ok (.putfield 53, 3) := by decide +kernel
theorem dX3_init_126 : decode cX3_init 126 = .ok (.aload_n 0, 1) := by decide +kernel
theorem dX3_init_127 : decode cX3_init 127 = .ok (.bipush 6, 2) := by decide +kernel
theorem dX3_init_129 : decode cX3_init 129 = .ok (.newarray .int, 2) := by decide +kernel
theorem dX3_init_131 : decode cX3_init 131 = .ok (.putfield 56, 3) := by decide +kernel
theorem dX3_init_134 : decode cX3_init 134 = .ok (.aload_n 0, 1) := by decide +kernel
theorem dX3_init_135 : decode cX3_init 135 = .ok (.iconst 4, 1) := by decide +kernel
theorem dX3_init_136 : decode cX3_init 136 = .ok (.newarray .int, 2) := by decide +kernel
theorem dX3_init_138 : decode cX3_init 138 = .ok (.putfield 59, 3) := by decide +kernel
theorem dX3_init_141 : decode cX3_init 141 = .ok (.aload_n 0, 1) := by decide +kernel
theorem dX3_init_142 : decode cX3_init 142 = .ok (.sipush 400, 3) := by decide +kernel
theorem dX3_init_145 : decode cX3_init 145 = .ok (.newarray .int, 2) := by decide +kernel
theorem dX3_init_147 : decode cX3_init 147 = .ok (.putfield 62, 3) := by decide +kernel
theorem dX3_init_150 : decode cX3_init 150 = .ok (.aload_n 0, 1) := by decide +kernel
theorem dX3_init_151 : decode cX3_init 151 = .ok (.iconst 1, 1) := by decide +kernel
theorem dX3_init_152 : decode cX3_init 152 = .ok (.invokevirtual 65, 3) := by decide +kernel
theorem dX3_init_155 : decode cX3_init 155 = .ok (.return_, 1) := by decide +kernel
theorem dX3_thrown_0 : decode cX3_thrown 0 = .ok (.aload_n 0, 1) := by decide +kernel
theorem dX3_thrown_1 : decode cX3_thrown 1 = .ok (.getfield 69, 3) := by decide +kernel
theorem dX3_thrown_4 : decode cX3_thrown 4 = .ok (.ireturn, 1) := by decide +kernel
set_option maxRecDepth 20000 in
theorem ggX3_set_X3_begin : GoodIn wsX3_set wsX3_begin := goodIn_r _ [9, 10, 11, 12, 13, 14, 15, 16, 17, 18, 19, 20, 21, 22, 23, 24, 25, 26, 27, 28, 29, 30, 31, 32, 33, 34, 35, 36, 37, 38, 39, 40, 41, 42] (by decide +kernel) (by decide +kernel)
set_option maxRecDepth 20000 in
theorem gX3_set_X3_begin : GoodIn wsX3_set (wsV RX3 79 RX3 yX3_begin wsX3_begin) := goodIn_app (goodIn_of _ (by decide +kernel)) ggX3_set_X3_begin
theorem dX3_set_0 : decode cX3_set 0 = .ok (.aload_n 0, 1) := by decide +kernel
theorem dX3_set_1 : decode cX3_set 1 = .ok (.iload_n 1, 1) := by decide +kernel
theorem dX3_set_2 : decode cX3_set 2 = .ok (.putfield 73, 3) := by decide +kernel
theorem dX3_set_5 : decode cX3_set 5 = .ok (.iconst 0, 1) := by decide +kernel
theorem dX3_set_6 : decode cX3_set 6 = .ok (.istore_n 2, 1) := by decide +kernel
theorem dX3_set_7 : decode cX3_set 7 = .ok (.iload_n 2, 1) := by decide +kernel
theorem dX3_set_8 : decode cX3_set 8 = .ok (.bipush 6, 2) := by decide +kernel
theorem dX3_set_10 : decode cX3_set 10 = .ok (.if_icmp .ge 23, 3) := by decide +kernel
theorem dX3_set_13 : decode cX3_set 13 = .ok (.aload_n 0, 1) := by decide +kernel
theorem dX3_set_14 : decode cX3_set 14 = .ok (.getfield 7, 3) := by decide +kernel
theorem dX3_set_17 : decode cX3_set 17 = .ok (.iload_n 2, 1) := by decide +kernel
theorem dX3_set_18 : decode cX3_set 18 = .ok (.iconst 1, 1) := by decide +kernel
theorem dX3_set_19 : decode cX3_set 19 = .ok (.iastore, 1) := by decide +kernel
theorem dX3_set_20 : decode cX3_set 20 = .ok (.aload_n 0, 1) := by decide +kernel
theorem dX3_set_21 : decode cX3_set 21 = .ok (.getfield 13, 3) := by decide +kernel
theorem dX3_set_24 : decode cX3_set 24 = .ok (.iload_n 2, 1) := by decide +kernel
theorem dX3_set_25 : decode cX3_set 25 = .ok (.iconst 1, 1) := by decide +kernel
theorem dX3_set_26 : decode cX3_set 26 = .ok (.iastore, 1) := by decide +kernel
theorem dX3_set_27 : decode cX3_set 27 = .ok (.iinc 2 1, 3) := by decide +kernel
theorem dX3_set_30 : decode cX3_set 30 = .ok (.goto (-23), 3) := by decide +kernel
theorem dX3_set_33 : decode cX3_set 33 = .ok (.aload_n 0, 1) := by decide +kernel
theorem dX3_set_34 : decode cX3_set 34 = .ok (.iconst 0, 1) := by decide +kernel
theorem dX3_set_35 : decode cX3_set 35 = .ok (.putfield 76, 3) := by decide +kernel
theorem dX3_set_38 : decode cX3_set 38 = .ok (.aload_n 0, 1) := by decide +kernel
theorem dX3_set_39 : decode cX3_set 39 = .ok (.invokevirtual 79, 3) := by decide +kernel
theorem dX3_set_42 : decode cX3_set 42 = .ok (.return_, 1) := by decide +kernel
theorem dX3_begin_0 : decode cX3_begin 0 = .ok (.aload_n 0, 1) := by decide +kernel
theorem dX3_begin_1 : decode cX3_begin 1 = .ok (.iconst 0, 1) := by decide +kernel
theorem dX3_begin_2 : decode cX3_begin 2 = .ok (.putfield 82, 3) := by decide +kernel
theorem dX3_begin_5 : decode cX3_begin 5 = .ok (.aload_n 0, 1) := by decide +kernel
theorem dX3_begin_6 : decode cX3_begin 6 = .ok (.iconst (-1), 1) := by decide +kernel
theorem dX3_begin_7 : decode cX3_begin 7 = .ok (.putfield 85, 3) := by decide +kernel
theorem dX3_begin_10 : decode cX3_begin 10 = .ok (.iconst 0, 1) := by decide +kernel
theorem dX3_begin_11 : decode cX3_begin 11 = .ok (.istore_n 1, 1) := by decide +kernel
theorem dX3_begin_12 : decode cX3_begin 12 = .ok (.iload_n 1, 1) := by decide +kernel
theorem dX3_begin_13 : decode cX3_begin 13 = .ok (.iconst 4, 1) := by decide +kernel
theorem dX3_begin_14 : decode cX3_begin 14 = .ok (.if_icmp .ge 16, 3) := by decide +kernel
theorem dX3_begin_17 : decode cX3_begin 17 = .ok (.aload_n 0, 1) := by decide +kernel
theorem dX3_begin_18 : decode cX3_begin 18 = .ok (.getfield 59, 3) := by decide +kernel
theorem dX3_begin_21 : decode cX3_begin 21 = .ok (.iload_n 1, 1) := by decide +kernel
theorem dX3_begin_22 : decode cX3_begin 22 = .ok (.iconst 0, 1) := by decide +kernel
theorem dX3_begin_23 : decode cX3_begin 23 = .ok (.iastore, 1) := by decide +kernel
theorem dX3_begin_24 : decode cX3_begin 24 = .ok (.iinc 1 1, 3) := by decide +kernel
theorem dX3_begin_27 : decode cX3_begin 27 = .ok (.goto (-15), 3) := by decide +kernel
theorem dX3_begin_30 : decode cX3_begin 30 = .ok (.iconst 0, 1) := by decide +kernel
theorem dX3_begin_31 : decode cX3_begin 31 = .ok (.istore_n 1, 1) := by decide +kernel
theorem dX3_begin_32 : decode cX3_begin 32 = .ok (.iload_n 1, 1) := by decide +kernel
theorem dX3_begin_33 : decode cX3_begin 33 = .ok (.bipush 6, 2) := by decide +kernel
theorem dX3_begin_35 : decode cX3_begin 35 = .ok (.if_icmp .ge 16, 3) := by decide +kernel
theorem dX3_begin_38 : decode cX3_begin 38 = .ok (.aload_n 0, 1) := by decide +kernel
theorem dX3_begin_39 : decode cX3_begin 39 = .ok (.getfield 56, 3) := by decide +kernel
theorem dX3_begin_42 : decode cX3_begin 42 = .ok (.iload_n 1, 1) := by decide +kernel
theorem dX3_begin_43 : decode cX3_begin 43 = .ok (.iconst 0, 1) := by decide +kernel
theorem dX3_begin_44 : decode cX3_begin 44 = .ok (.iastore, 1) := by decide +kernel
theorem dX3_begin_45 : decode cX3_begin 45 = .ok (.iinc 1 1, 3) := by decide +kernel
theorem dX3_begin_48 : decode cX3_begin 48 = .ok (.goto (-16), 3) := by decide +kernel
theorem dX3_begin_51 : decode cX3_begin 51 = .ok (.iconst 0, 1) := by decide +kernel
theorem dX3_begin_52 : decode cX3_begin 52 = .ok (.istore_n 1, 1) := by decide +kernel
theorem dX3_begin_53 : decode cX3_begin 53 = .ok (.iload_n 1, 1) := by decide +kernel
theorem dX3_begin_54 : decode cX3_begin 54 = .ok (.bipush 16, 2) := by decide +kernel
theorem dX3_begin_56 : decode cX3_begin 56 = .ok (.if_icmp .ge 78, 3) := by decide +kernel
theorem dX3_begin_59 : decode cX3_begin 59 = .ok (.aload_n 0, 1) := by decide +kernel
theorem dX3_begin_60 : decode cX3_begin 60 = .ok (.getfield 25, 3) := by decide +kernel
theorem dX3_begin_63 : decode cX3_begin 63 = .ok (.iload_n 1, 1) := by decide +kernel
theorem dX3_begin_64 : decode cX3_begin 64 = .ok (.iconst 0, 1) := by decide +kernel
theorem dX3_begin_65 : decode cX3_begin 65 = .ok (.iastore, 1) := by decide +kernel
theorem dX3_begin_66 : decode cX3_begin 66 = .ok (.aload_n 0, 1) := by decide +kernel
theorem dX3_begin_67 : decode cX3_begin 67 = .ok (.getfield 28, 3) := by decide +kernel
theorem dX3_begin_70 : decode cX3_begin 70 = .ok (.iload_n 1, 1) := by decide +kernel
theorem dX3_begin_71 : decode cX3_begin 71 = .ok (.iconst 0, 1) := by decide +kernel
theorem dX3_begin_72 : decode cX3_begin 72 = .ok (.iastore, 1) := by decide +kernel
theorem dX3_begin_73 : decode cX3_begin 73 = .ok (.aload_n 0, 1) := by decide +kernel
theorem dX3_begin_74 : decode cX3_begin 74 = .ok (.getfield 31, 3) := by decide +kernel
theorem dX3_begin_77 : decode cX3_begin 77 = .ok (.iload_n 1, 1) := by decide +kernel
theorem dX3_begin_78 : decode cX3_begin 78 = .ok (.iconst 0, 1) := by decide +kernel
theorem dX3_begin_79 : decode cX3_begin 79 = .ok (.iastore, 1) := by decide +kernel
theorem dX3_begin_80 : decode cX3_begin 80 = .ok (.aload_n 0, 1) := by decide +kernel
theorem dX3_begin_81 : decode cX3_begin 81 = .ok (.getfield 43, 3) := by decide +kernel
theorem dX3_begin_84 : decode cX3_begin 84 = .ok (.iload_n 1, 1) := by decide +kernel
theorem dX3_begin_85 : decode cX3_begin 85 = .ok (.iconst 0, 1) := by decide +kernel
theorem dX3_begin_86 : decode cX3_begin 86 = .ok (.bastore, 1) := by decide +kernel
theorem dX3_begin_87 : decode cX3_begin 87 = .ok (.iconst 0, 1) := by decide +kernel
theorem dX3_begin_88 : decode cX3_begin 88 = .ok (.istore_n 2, 1) := by decide +kernel
theorem dX3_begin_89 : decode cX3_begin 89 = .ok (.iload_n 2, 1) := by decide +kernel
theorem dX3_begin_90 : decode cX3_begin 90 = .ok (.bipush 10, 2) := by decide +kernel
theorem dX3_begin_92 : decode cX3_begin 92 = .ok (.if_icmp .ge 36, 3) := by decide +kernel
theorem dX3_begin_95 : decode cX3_begin 95 = .ok (.aload_n 0, 1) := by decide +kernel
theorem dX3_begin_96 : decode cX3_begin 96 = .ok (.getfield 50, 3) := by decide +kernel
theorem dX3_begin_99 : decode cX3_begin 99 = .ok (.bipush 10, 2) := by decide +kernel
theorem dX3_begin_101 : decode cX3_begin 101 = .ok (.iload_n 1, 1) := by decide +kernel
theorem dX3_begin_102 : decode cX3_begin 102 = .ok (.imul, 1) := by decide +kernel
theorem dX3_begin_103 : decode cX3_begin 103 = .ok (.iload_n 2, 1) := by decide +kernel
theorem dX3_begin_104 : decode cX3_begin 104 = .ok (.iadd, 1) := by decide +kernel
theorem dX3_begin_105 : decode cX3_begin 105 = .ok (.iload_n 2, 1) := by decide +kernel
theorem dX3_begin_106 : decode cX3_begin 106 = .ok (.iconst 5, 1) := by decide +kernel
theorem dX3_begin_107 : decode cX3_begin 107 = .ok (.if_icmp .eq 9, 3) := by decide +kernel
theorem dX3_begin_110 : decode cX3_begin 110 = .ok (.iload_n 2, 1) := by decide +kernel
theorem dX3_begin_111 : decode cX3_begin 111 = .ok (.bipush 6, 2) := by decide +kernel
theorem dX3_begin_113 : decode cX3_begin 113 = .ok (.if_icmp .ne 7, 3) := by decide +kernel
theorem dX3_begin_116 : decode cX3_begin 116 = .ok (.iconst (-1), 1) := by decide +kernel
theorem dX3_begin_117 : decode cX3_begin 117 = .ok (.goto 4, 3) := by decide +kernel
theorem dX3_begin_120 : decode cX3_begin 120 = .ok (.iconst 0, 1) := by decide +kernel
theorem dX3_begin_121 : decode cX3_begin 121 = .ok (.iastore, 1) := by decide +kernel
theorem dX3_begin_122 : decode cX3_begin 122 = .ok (.iinc 2 1, 3) := by decide +kernel
theorem dX3_begin_125 : decode cX3_begin 125 = .ok (.goto (-36), 3) := by decide +kernel
theorem dX3_begin_128 : decode cX3_begin 128 = .ok (.iinc 1 1, 3) := by decide +kernel
theorem dX3_begin_131 : decode cX3_begin 131 = .ok (.goto (-78), 3) := by decide +kernel
theorem dX3_begin_134 : decode cX3_begin 134 = .ok (.return_, 1) := by decide +kernel
set_option maxRecDepth 20000 in
theorem ggX3_levels_X3_set : GoodIn wsX3_levels wsX3_set := goodIn_r _ [6, 7, 8, 9, 10, 11, 12, 13, 5, 14, 15, 16, 17, 18, 19, 20, 21, 22, 23, 24, 25, 26, 27, 28, 29, 30, 31, 32, 33, 34, 35, 36, 37, 38, 39, 40, 41, 42, 43, 44, 45, 46, 47] (by decide +kernel) (by decide +kernel)
set_option maxRecDepth 20000 in
theorem gX3_levels_X3_set : GoodIn wsX3_levels (wsV RX3 65 RX3 yX3_set wsX3_set) := goodIn_app (goodIn_of _ (by decide +kernel)) ggX3_levels_X3_set
theorem dX3_levels_0 : decode cX3_levels 0 = .ok (.aload_n 0, 1) := by decide +kernel
theorem dX3_levels_1 : decode cX3_levels 1 = .ok (.iload_n 1, 1) := by decide +kernel
theorem dX3_levels_2 : decode cX3_levels 2 = .ok (.iconst 1, 1) := by decide +kernel
theorem dX3_levels_3 : decode cX3_levels 3 = .ok (.if_icmp .lt 9, 3) := by decide +kernel
theorem dX3_levels_6 : decode cX3_levels 6 = .ok (.iload_n 1, 1) := by decide +kernel
theorem dX3_levels_7 : decode cX3_levels 7 = .ok (.bipush 6, 2) := by decide +kernel
theorem dX3_levels_9 : decode cX3_levels 9 = .ok (.if_icmp .le 7, 3) := by decide +kernel
theorem dX3_levels_12 : decode cX3_levels 12 = .ok (.iconst 1, 1) := by decide +kernel
theorem dX3_levels_13 : decode cX3_levels 13 = .ok (.goto 4, 3) := by decide +kernel
theorem dX3_levels_16 : decode cX3_levels 16 = .ok (.iconst 0, 1) := by decide +kernel
theorem dX3_levels_17 : decode cX3_levels 17 = .ok (.putfield 69, 3) := by decide +kernel
theorem dX3_levels_20 : decode cX3_levels 20 = .ok (.aload_n 0, 1) := by decide +kernel
theorem dX3_levels_21 : decode cX3_levels 21 = .ok (.getfield 69, 3) := by decide +kernel
theorem dX3_levels_24 : decode cX3_levels 24 = .ok (.ifCond .ne 8, 3) := by decide +kernel
theorem dX3_levels_27 : decode cX3_levels 27 = .ok (.aload_n 0, 1) := by decide +kernel
theorem dX3_levels_28 : decode cX3_levels 28 = .ok (.iload_n 1, 1) := by decide +kernel
theorem dX3_levels_29 : decode cX3_levels 29 = .ok (.invokevirtual 65, 3) := by decide +kernel
theorem dX3_levels_32 : decode cX3_levels 32 = .ok (.return_, 1) := by decide +kernel
theorem dX3_level_0 : decode cX3_level 0 = .ok (.aload_n 0, 1) := by decide +kernel
theorem dX3_level_1 : decode cX3_level 1 = .ok (.iload_n 1, 1) := by decide +kernel
theorem dX3_level_2 : decode cX3_level 2 = .ok (.ifCond .lt 11, 3) := by decide +kernel
theorem dX3_level_5 : decode cX3_level 5 = .ok (.iload_n 1, 1) := by decide +kernel
theorem dX3_level_6 : decode cX3_level 6 = .ok (.aload_n 0, 1) := by decide +kernel
theorem dX3_level_7 : decode cX3_level 7 = .ok (.getfield 73, 3) := by decide +kernel
theorem dX3_level_10 : decode cX3_level 10 = .ok (.if_icmp .lt 7, 3) := by decide +kernel
theorem dX3_level_13 : decode cX3_level 13 = .ok (.iconst 1, 1) := by decide +kernel
theorem dX3_level_14 : decode cX3_level 14 = .ok (.goto 42, 3) := by decide +kernel
theorem dX3_level_17 : decode cX3_level 17 = .ok (.iload_n 2, 1) := by decide +kernel
theorem dX3_level_18 : decode cX3_level 18 = .ok (.iconst 1, 1) := by decide +kernel
theorem dX3_level_19 : decode cX3_level 19 = .ok (.if_icmp .lt 21, 3) := by decide +kernel
theorem dX3_level_22 : decode cX3_level 22 = .ok (.iload_n 2, 1) := by decide +kernel
theorem dX3_level_23 : decode cX3_level 23 = .ok (.bipush 100, 2) := by decide +kernel
theorem dX3_level_25 : decode cX3_level 25 = .ok (.if_icmp .gt 15, 3) := by decide +kernel
theorem dX3_level_28 : decode cX3_level 28 = .ok (.iload_n 3, 1) := by decide +kernel
theorem dX3_level_29 : decode cX3_level 29 = .ok (.iconst 1, 1) := by decide +kernel
theorem dX3_level_30 : decode cX3_level 30 = .ok (.if_icmp .lt 10, 3) := by decide +kernel
theorem dX3_level_33 : decode cX3_level 33 = .ok (.iload_n 3, 1) := by decide +kernel
theorem dX3_level_34 : decode cX3_level 34 = .ok (.sipush 1000, 3) := by decide +kernel
theorem dX3_level_37 : decode cX3_level 37 = .ok (.if_icmp .le 7, 3) := by decide +kernel
theorem dX3_level_40 : decode cX3_level 40 = .ok (.iconst 2, 1) := by decide +kernel
theorem dX3_level_41 : decode cX3_level 41 = .ok (.goto 15, 3) := by decide +kernel
theorem dX3_level_44 : decode cX3_level 44 = .ok (.aload_n 0, 1) := by decide +kernel
theorem dX3_level_45 : decode cX3_level 45 = .ok (.getfield 82, 3) := by decide +kernel
theorem dX3_level_48 : decode cX3_level 48 = .ok (.ifCond .le 7, 3) := by decide +kernel
theorem dX3_level_51 : decode cX3_level 51 = .ok (.iconst 3, 1) := by decide +kernel
theorem dX3_level_52 : decode cX3_level 52 = .ok (.goto 4, 3) := by decide +kernel
theorem dX3_level_55 : decode cX3_level 55 = .ok (.iconst 0, 1) := by decide +kernel
theorem dX3_level_56 : decode cX3_level 56 = .ok (.putfield 69, 3) := by decide +kernel
theorem dX3_level_59 : decode cX3_level 59 = .ok (.aload_n 0, 1) := by decide +kernel
theorem dX3_level_60 : decode cX3_level 60 = .ok (.getfield 69, 3) := by decide +kernel
theorem dX3_level_63 : decode cX3_level 63 = .ok (.ifCond .ne 17, 3) := by decide +kernel
theorem dX3_level_66 : decode cX3_level 66 = .ok (.aload_n 0, 1) := by decide +kernel
theorem dX3_level_67 : decode cX3_level 67 = .ok (.getfield 7, 3) := by decide +kernel
theorem dX3_level_70 : decode cX3_level 70 = .ok (.iload_n 1, 1) := by decide +kernel
theorem dX3_level_71 : decode cX3_level 71 = .ok (.iload_n 2, 1) := by decide +kernel
theorem dX3_level_72 : decode cX3_level 72 = .ok (.iastore, 1) := by decide +kernel
theorem dX3_level_73 : decode cX3_level 73 = .ok (.aload_n 0, 1) := by decide +kernel
theorem dX3_level_74 : decode cX3_level 74 = .ok (.getfield 13, 3) := by decide +kernel
theorem dX3_level_77 : decode cX3_level 77 = .ok (.iload_n 1, 1) := by decide +kernel
theorem dX3_level_78 : decode cX3_level 78 = .ok (.iload_n 3, 1) := by decide +kernel
theorem dX3_level_79 : decode cX3_level 79 = .ok (.iastore, 1) := by decide +kernel
theorem dX3_level_80 : decode cX3_level 80 = .ok (.return_, 1) := by decide +kernel
theorem dX3_period_0 : decode cX3_period 0 = .ok (.aload_n 0, 1) := by decide +kernel
theorem dX3_period_1 : decode cX3_period 1 = .ok (.iload_n 1, 1) := by decide +kernel
theorem dX3_period_2 : decode cX3_period 2 = .ok (.ifCond .lt 10, 3) := by decide +kernel
theorem dX3_period_5 : decode cX3_period 5 = .ok (.iload_n 1, 1) := by decide +kernel
theorem dX3_period_6 : decode cX3_period 6 = .ok (.sipush 10000, 3) := by decide +kernel
theorem dX3_period_9 : decode cX3_period 9 = .ok (.if_icmp .le 7, 3) := by decide +kernel
theorem dX3_period_12 : decode cX3_period 12 = .ok (.iconst 1, 1) := by decide +kernel
theorem dX3_period_13 : decode cX3_period 13 = .ok (.goto 15, 3) := by decide +kernel
theorem dX3_period_16 : decode cX3_period 16 = .ok (.aload_n 0, 1) := by decide +kernel
theorem dX3_period_17 : decode cX3_period 17 = .ok (.getfield 82, 3) := by decide +kernel
theorem dX3_period_20 : decode cX3_period 20 = .ok (.ifCond .le 7, 3) := by decide +kernel
theorem dX3_period_23 : decode cX3_period 23 = .ok (.iconst 2, 1) := by decide +kernel
theorem dX3_period_24 : decode cX3_period 24 = .ok (.goto 4, 3) := by decide +kernel
theorem dX3_period_27 : decode cX3_period 27 = .ok (.iconst 0, 1) := by decide +kernel
theorem dX3_period_28 : decode cX3_period 28 = .ok (.putfield 69, 3) := by decide +kernel
theorem dX3_period_31 : decode cX3_period 31 = .ok (.aload_n 0, 1) := by decide +kernel
theorem dX3_period_32 : decode cX3_period 32 = .ok (.getfield 69, 3) := by decide +kernel
theorem dX3_period_35 : decode cX3_period 35 = .ok (.ifCond .ne 8, 3) := by decide +kernel
theorem dX3_period_38 : decode cX3_period 38 = .ok (.aload_n 0, 1) := by decide +kernel
theorem dX3_period_39 : decode cX3_period 39 = .ok (.iload_n 1, 1) := by decide +kernel
theorem dX3_period_40 : decode cX3_period 40 = .ok (.putfield 88, 3) := by decide +kernel
theorem dX3_period_43 : decode cX3_period 43 = .ok (.return_, 1) := by decide +kernel
theorem dX3_process_0 : decode cX3_process 0 = .ok (.aload_n 0, 1) := by decide +kernel
theorem dX3_process_1 : decode cX3_process 1 = .ok (.iload_n 1, 1) := by decide +kernel
theorem dX3_process_2 : decode cX3_process 2 = .ok (.ifCond .lt 10, 3) := by decide +kernel
theorem dX3_process_5 : decode cX3_process 5 = .ok (.iload_n 1, 1) := by decide +kernel
theorem dX3_process_6 : decode cX3_process 6 = .ok (.sipush 20000, 3) := by decide +kernel
theorem dX3_process_9 : decode cX3_process 9 = .ok (.if_icmp .le 7, 3) := by decide +kernel
theorem dX3_process_12 : decode cX3_process 12 = .ok (.iconst 1, 1) := by decide +kernel
theorem dX3_process_13 : decode cX3_process 13 = .ok (.goto 15, 3) := by decide +kernel
theorem dX3_process_16 : decode cX3_process 16 = .ok (.aload_n 0, 1) := by decide +kernel
theorem dX3_process_17 : decode cX3_process 17 = .ok (.getfield 82, 3) := by decide +kernel
theorem dX3_process_20 : decode cX3_process 20 = .ok (.ifCond .le 7, 3) := by decide +kernel
theorem dX3_process_23 : decode cX3_process 23 = .ok (.iconst 2, 1) := by decide +kernel
theorem dX3_process_24 : decode cX3_process 24 = .ok (.goto 4, 3) := by decide +kernel
theorem dX3_process_27 : decode cX3_process 27 = .ok (.iconst 0, 1) := by decide +kernel
theorem dX3_process_28 : decode cX3_process 28 = .ok (.putfield 69, 3) := by decide +kernel
theorem dX3_process_31 : decode cX3_process 31 = .ok (.aload_n 0, 1) := by decide +kernel
theorem dX3_process_32 : decode cX3_process 32 = .ok (.getfield 69, 3) := by decide +kernel
theorem dX3_process_35 : decode cX3_process 35 = .ok (.ifCond .le 5, 3) := by decide +kernel
theorem dX3_process_38 : decode cX3_process 38 = .ok (.iconst 0, 1) := by decide +kernel
theorem dX3_process_39 : decode cX3_process 39 = .ok (.ireturn, 1) := by decide +kernel
theorem dX3_process_40 : decode cX3_process 40 = .ok (.aload_n 0, 1) := by decide +kernel
theorem dX3_process_41 : decode cX3_process 41 = .ok (.getfield 76, 3) := by decide +kernel
theorem dX3_process_44 : decode cX3_process 44 = .ok (.bipush 16, 2) := by decide +kernel
theorem dX3_process_46 : decode cX3_process 46 = .ok (.if_icmp .ne 5, 3) := by decide +kernel
theorem dX3_process_49 : decode cX3_process 49 = .ok (.iconst (-1), 1) := by decide +kernel
theorem dX3_process_50 : decode cX3_process 50 = .ok (.ireturn, 1) := by decide +kernel
theorem dX3_process_51 : decode cX3_process 51 = .ok (.aload_n 0, 1) := by decide +kernel
theorem dX3_process_52 : decode cX3_process 52 = .ok (.getfield 16, 3) := by decide +kernel
theorem dX3_process_55 : decode cX3_process 55 = .ok (.aload_n 0, 1) := by decide +kernel
theorem dX3_process_56 : decode cX3_process 56 = .ok (.getfield 76, 3) := by decide +kernel
theorem dX3_process_59 : decode cX3_process 59 = .ok (.iload_n 1, 1) := by decide +kernel
theorem dX3_process_60 : decode cX3_process 60 = .ok (.iastore, 1) := by decide +kernel
theorem dX3_process_61 : decode cX3_process 61 = .ok (.aload_n 0, 1) := by decide +kernel
theorem dX3_process_62 : decode cX3_process 62 = .ok (.getfield 19, 3) := by decide +kernel
theorem dX3_process_65 : decode cX3_process 65 = .ok (.aload_n 0, 1) := by decide +kernel
theorem dX3_process_66 : decode cX3_process 66 = .ok (.getfield 76, 3) := by decide +kernel
theorem dX3_process_69 : decode cX3_process 69 = .ok (.iconst 0, 1) := by decide +kernel
theorem dX3_process_70 : decode cX3_process 70 = .ok (.iastore, 1) := by decide +kernel
theorem dX3_process_71 : decode cX3_process 71 = .ok (.aload_n 0, 1) := by decide +kernel
theorem dX3_process_72 : decode cX3_process 72 = .ok (.dup, 1) := by decide +kernel
theorem dX3_process_73 : decode cX3_process 73 = .ok (.getfield 76, 3) := by decide +kernel
theorem dX3_process_76 : decode cX3_process 76 = .ok (.iconst 1, 1) := by decide +kernel
theorem dX3_process_77 : decode cX3_process 77 = .ok (.iadd, 1) := by decide +kernel
theorem dX3_process_78 : decode cX3_process 78 = .ok (.putfield 76, 3) := by decide +kernel
theorem dX3_process_81 : decode cX3_process 81 = .ok (.aload_n 0, 1) := by decide +kernel
theorem dX3_process_82 : decode cX3_process 82 = .ok (.getfield 76, 3) := by decide +kernel
theorem dX3_process_85 : decode cX3_process 85 = .ok (.iconst 1, 1) := by decide +kernel
theorem dX3_process_86 : decode cX3_process 86 = .ok (.isub, 1) := by decide +kernel
theorem dX3_process_87 : decode cX3_process 87 = .ok (.ireturn, 1) := by decide +kernel
theorem dX3_noProcess_0 : decode cX3_noProcess 0 = .ok (.iload_n 1, 1) := by decide +kernel
theorem dX3_noProcess_1 : decode cX3_noProcess 1 = .ok (.ifCond .lt 11, 3) := by decide +kernel
theorem dX3_noProcess_4 : decode cX3_noProcess 4 = .ok (.iload_n 1, 1) := by decide +kernel
theorem dX3_noProcess_5 : decode cX3_noProcess 5 = .ok (.aload_n 0, 1) := by decide +kernel
theorem dX3_noProcess_6 : decode cX3_noProcess 6 = .ok (.getfield 76, 3) := by decide +kernel
theorem dX3_noProcess_9 : decode cX3_noProcess 9 = .ok (.if_icmp .lt 7, 3) := by decide +kernel
theorem dX3_noProcess_12 : decode cX3_noProcess 12 = .ok (.iconst 1, 1) := by decide +kernel
theorem dX3_noProcess_13 : decode cX3_noProcess 13 = .ok (.goto 4, 3) := by decide +kernel
theorem dX3_noProcess_16 : decode cX3_noProcess 16 = .ok (.iconst 0, 1) := by decide +kernel
theorem dX3_noProcess_17 : decode cX3_noProcess 17 = .ok (.ireturn, 1) := by decide +kernel
set_option maxRecDepth 20000 in
theorem ggX3_burst_X3_noProcess : GoodIn wsX3_burst wsX3_noProcess := goodIn_r _ [9, 10, 11, 12, 13, 14, 15, 16, 17, 18, 19, 20, 21, 22, 23, 24, 25, 26, 27, 28, 29, 30, 31, 32, 33, 34] (by decide +kernel) (by decide +kernel)
set_option maxRecDepth 20000 in
theorem gX3_burst_X3_noProcess : GoodIn wsX3_burst (wsV RX3 91 RX3 yX3_noProcess wsX3_noProcess) := goodIn_app (goodIn_of _ (by decide +kernel)) ggX3_burst_X3_noProcess
theorem dX3_burst_0 : decode cX3_burst 0 = .ok (.aload_n 0, 1) := by decide +kernel
theorem dX3_burst_1 : decode cX3_burst 1 = .ok (.aload_n 0, 1) := by decide +kernel
theorem dX3_burst_2 : decode cX3_burst 2 = .ok (.iload_n 1, 1) := by decide +kernel
theorem dX3_burst_3 : decode cX3_burst 3 = .ok (.invokevirtual 91, 3) := by decide +kernel
theorem dX3_burst_6 : decode cX3_burst 6 = .ok (.ifCond .eq 7, 3) := by decide +kernel
theorem dX3_burst_9 : decode cX3_burst 9 = .ok (.iconst 1, 1) := by decide +kernel
theorem dX3_burst_10 : decode cX3_burst 10 = .ok (.goto 31, 3) := by decide +kernel
theorem dX3_burst_13 : decode cX3_burst 13 = .ok (.iload_n 2, 1) := by decide +kernel
theorem dX3_burst_14 : decode cX3_burst 14 = .ok (.iconst 1, 1) := by decide +kernel
theorem dX3_burst_15 : decode cX3_burst 15 = .ok (.if_icmp .lt 10, 3) := by decide +kernel
theorem dX3_burst_18 : decode cX3_burst 18 = .ok (.iload_n 2, 1) := by decide +kernel
theorem dX3_burst_19 : decode cX3_burst 19 = .ok (.sipush 5000, 3) := by decide +kernel
theorem dX3_burst_22 : decode cX3_burst 22 = .ok (.if_icmp .le 7, 3) := by decide +kernel
theorem dX3_burst_25 : decode cX3_burst 25 = .ok (.iconst 2, 1) := by decide +kernel
theorem dX3_burst_26 : decode cX3_burst 26 = .ok (.goto 15, 3) := by decide +kernel
theorem dX3_burst_29 : decode cX3_burst 29 = .ok (.aload_n 0, 1) := by decide +kernel
theorem dX3_burst_30 : decode cX3_burst 30 = .ok (.getfield 82, 3) := by decide +kernel
theorem dX3_burst_33 : decode cX3_burst 33 = .ok (.ifCond .le 7, 3) := by decide +kernel
theorem dX3_burst_36 : decode cX3_burst 36 = .ok (.iconst 3, 1) := by decide +kernel
theorem dX3_burst_37 : decode cX3_burst 37 = .ok (.goto 4, 3) := by decide +kernel
theorem dX3_burst_40 : decode cX3_burst 40 = .ok (.iconst 0, 1) := by decide +kernel
theorem dX3_burst_41 : decode cX3_burst 41 = .ok (.putfield 69, 3) := by decide +kernel
theorem dX3_burst_44 : decode cX3_burst 44 = .ok (.aload_n 0, 1) := by decide +kernel
theorem dX3_burst_45 : decode cX3_burst 45 = .ok (.getfield 69, 3) := by decide +kernel
theorem dX3_burst_48 : decode cX3_burst 48 = .ok (.ifCond .le 5, 3) := by decide +kernel
theorem dX3_burst_51 : decode cX3_burst 51 = .ok (.iconst 0, 1) := by decide +kernel
theorem dX3_burst_52 : decode cX3_burst 52 = .ok (.ireturn, 1) := by decide +kernel
theorem dX3_burst_53 : decode cX3_burst 53 = .ok (.aload_n 0, 1) := by decide +kernel
theorem dX3_burst_54 : decode cX3_burst 54 = .ok (.getfield 19, 3) := by decide +kernel
theorem dX3_burst_57 : decode cX3_burst 57 = .ok (.iload_n 1, 1) := by decide +kernel
theorem dX3_burst_58 : decode cX3_burst 58 = .ok (.iaload, 1) := by decide +kernel
theorem dX3_burst_59 : decode cX3_burst 59 = .ok (.bipush 12, 2) := by decide +kernel
theorem dX3_burst_61 : decode cX3_burst 61 = .ok (.if_icmp .ne 5, 3) := by decide +kernel
theorem dX3_burst_64 : decode cX3_burst 64 = .ok (.iconst (-1), 1) := by decide +kernel
theorem dX3_burst_65 : decode cX3_burst 65 = .ok (.ireturn, 1) := by decide +kernel
theorem dX3_burst_66 : decode cX3_burst 66 = .ok (.aload_n 0, 1) := by decide +kernel
theorem dX3_burst_67 : decode cX3_burst 67 = .ok (.getfield 22, 3) := by decide +kernel
theorem dX3_burst_70 : decode cX3_burst 70 = .ok (.bipush 12, 2) := by decide +kernel
theorem dX3_burst_72 : decode cX3_burst 72 = .ok (.iload_n 1, 1) := by decide +kernel
theorem dX3_burst_73 : decode cX3_burst 73 = .ok (.imul, 1) := by decide +kernel
theorem dX3_burst_74 : decode cX3_burst 74 = .ok (.aload_n 0, 1) := by decide +kernel
theorem dX3_burst_75 : decode cX3_burst 75 = .ok (.getfield 19, 3) := by decide +kernel
theorem dX3_burst_78 : decode cX3_burst 78 = .ok (.iload_n 1, 1) := by decide +kernel
theorem dX3_burst_79 : decode cX3_burst 79 = .ok (.iaload, 1) := by decide +kernel
theorem dX3_burst_80 : decode cX3_burst 80 = .ok (.iadd, 1) := by decide +kernel
theorem dX3_burst_81 : decode cX3_burst 81 = .ok (.iload_n 2, 1) := by decide +kernel
theorem dX3_burst_82 : decode cX3_burst 82 = .ok (.iastore, 1) := by decide +kernel
theorem dX3_burst_83 : decode cX3_burst 83 = .ok (.aload_n 0, 1) := by decide +kernel
theorem dX3_burst_84 : decode cX3_burst 84 = .ok (.getfield 19, 3) := by decide +kernel
theorem dX3_burst_87 : decode cX3_burst 87 = .ok (.iload_n 1, 1) := by decide +kernel
theorem dX3_burst_88 : decode cX3_burst 88 = .ok (.dup2, 1) := by decide +kernel
theorem dX3_burst_89 : decode cX3_burst 89 = .ok (.iaload, 1) := by decide +kernel
theorem dX3_burst_90 : decode cX3_burst 90 = .ok (.iconst 1, 1) := by decide +kernel
theorem dX3_burst_91 : decode cX3_burst 91 = .ok (.iadd, 1) := by decide +kernel
theorem dX3_burst_92 : decode cX3_burst 92 = .ok (.iastore, 1) := by decide +kernel
theorem dX3_burst_93 : decode cX3_burst 93 = .ok (.aload_n 0, 1) := by decide +kernel
theorem dX3_burst_94 : decode cX3_burst 94 = .ok (.getfield 19, 3) := by decide +kernel
theorem dX3_burst_97 : decode cX3_burst 97 = .ok (.iload_n 1, 1) := by decide +kernel
theorem dX3_burst_98 : decode cX3_burst 98 = .ok (.iaload, 1) := by decide +kernel
theorem dX3_burst_99 : decode cX3_burst 99 = .ok (.ireturn, 1) := by decide +kernel
theorem dX3_toEnd_0 : decode cX3_toEnd 0 = .ok (.aload_n 0, 1) := by decide +kernel
theorem dX3_toEnd_1 : decode cX3_toEnd 1 = .ok (.getfield 53, 3) := by decide +kernel
theorem dX3_toEnd_4 : decode cX3_toEnd 4 = .ok (.bipush 16, 2) := by decide +kernel
theorem dX3_toEnd_6 : decode cX3_toEnd 6 = .ok (.iload_n 1, 1) := by decide +kernel
theorem dX3_toEnd_7 : decode cX3_toEnd 7 = .ok (.imul, 1) := by decide +kernel
theorem dX3_toEnd_8 : decode cX3_toEnd 8 = .ok (.aload_n 0, 1) := by decide +kernel
theorem dX3_toEnd_9 : decode cX3_toEnd 9 = .ok (.getfield 56, 3) := by decide +kernel
theorem dX3_toEnd_12 : decode cX3_toEnd 12 = .ok (.iload_n 1, 1) := by decide +kernel
theorem dX3_toEnd_13 : decode cX3_toEnd 13 = .ok (.iaload, 1) := by decide +kernel
theorem dX3_toEnd_14 : decode cX3_toEnd 14 = .ok (.iadd, 1) := by decide +kernel
theorem dX3_toEnd_15 : decode cX3_toEnd 15 = .ok (.iload_n 2, 1) := by decide +kernel
theorem dX3_toEnd_16 : decode cX3_toEnd 16 = .ok (.iastore, 1) := by decide +kernel
theorem dX3_toEnd_17 : decode cX3_toEnd 17 = .ok (.aload_n 0, 1) := by decide +kernel
theorem dX3_toEnd_18 : decode cX3_toEnd 18 = .ok (.getfield 56, 3) := by decide +kernel
theorem dX3_toEnd_21 : decode cX3_toEnd 21 = .ok (.iload_n 1, 1) := by decide +kernel
theorem dX3_toEnd_22 : decode cX3_toEnd 22 = .ok (.dup2, 1) := by decide +kernel
theorem dX3_toEnd_23 : decode cX3_toEnd 23 = .ok (.iaload, 1) := by decide +kernel
theorem dX3_toEnd_24 : decode cX3_toEnd 24 = .ok (.iconst 1, 1) := by decide +kernel
theorem dX3_toEnd_25 : decode cX3_toEnd 25 = .ok (.iadd, 1) := by decide +kernel
theorem dX3_toEnd_26 : decode cX3_toEnd 26 = .ok (.iastore, 1) := by decide +kernel
theorem dX3_toEnd_27 : decode cX3_toEnd 27 = .ok (.aload_n 0, 1) := by decide +kernel
theorem dX3_toEnd_28 : decode cX3_toEnd 28 = .ok (.getfield 25, 3) := by decide +kernel
theorem dX3_toEnd_31 : decode cX3_toEnd 31 = .ok (.iload_n 2, 1) := by decide +kernel
theorem dX3_toEnd_32 : decode cX3_toEnd 32 = .ok (.iconst 1, 1) := by decide +kernel
theorem dX3_toEnd_33 : decode cX3_toEnd 33 = .ok (.iastore, 1) := by decide +kernel
theorem dX3_toEnd_34 : decode cX3_toEnd 34 = .ok (.return_, 1) := by decide +kernel
theorem dX3_toFront_0 : decode cX3_toFront 0 = .ok (.aload_n 0, 1) := by decide +kernel
theorem dX3_toFront_1 : decode cX3_toFront 1 = .ok (.getfield 56, 3) := by decide +kernel
theorem dX3_toFront_4 : decode cX3_toFront 4 = .ok (.iload_n 1, 1) := by decide +kernel
theorem dX3_toFront_5 : decode cX3_toFront 5 = .ok (.iaload, 1) := by decide +kernel
theorem dX3_toFront_6 : decode cX3_toFront 6 = .ok (.istore_n 3, 1) := by decide +kernel
theorem dX3_toFront_7 : decode cX3_toFront 7 = .ok (.iload_n 3, 1) := by decide +kernel
theorem dX3_toFront_8 : decode cX3_toFront 8 = .ok (.ifCond .le 33, 3) := by decide +kernel
theorem dX3_toFront_11 : decode cX3_toFront 11 = .ok (.aload_n 0, 1) := by decide +kernel
theorem dX3_toFront_12 : decode cX3_toFront 12 = .ok (.getfield 53, 3) := by decide +kernel
theorem dX3_toFront_15 : decode cX3_toFront 15 = .ok (.bipush 16, 2) := by decide +kernel
theorem dX3_toFront_17 : decode cX3_toFront 17 = .ok (.iload_n 1, 1) := by decide +kernel
theorem dX3_toFront_18 : decode cX3_toFront 18 = .ok (.imul, 1) := by decide +kernel
theorem dX3_toFront_19 : decode cX3_toFront 19 = .ok (.iload_n 3, 1) := by decide +kernel
theorem dX3_toFront_20 : decode cX3_toFront 20 = .ok (.iadd, 1) := by decide +kernel
theorem dX3_toFront_21 : decode cX3_toFront 21 = .ok (.aload_n 0, 1) := by decide +kernel
theorem dX3_toFront_22 : decode cX3_toFront 22 = .ok (.getfield 53, 3) := by decide +kernel
theorem dX3_toFront_25 : decode cX3_toFront 25 = .ok (.bipush 16, 2) := by decide +kernel
theorem dX3_toFront_27 : decode cX3_toFront 27 = .ok (.iload_n 1, 1) := by decide +kernel
theorem dX3_toFront_28 : decode cX3_toFront 28 = .ok (.imul, 1) := by decide +kernel
theorem dX3_toFront_29 : decode cX3_toFront 29 = .ok (.iload_n 3, 1) := by decide +kernel
theorem dX3_toFront_30 : decode cX3_toFront 30 = .ok (.iadd, 1) := by decide +kernel
theorem dX3_toFront_31 : decode cX3_toFront 31 = .ok (.iconst 1, 1) := by decide +kernel
theorem dX3_toFront_32 : decode cX3_toFront 32 = .ok (.isub, 1) := by decide +kernel
theorem dX3_toFront_33 : decode cX3_toFront 33 = .ok (.iaload, 1) := by decide +kernel
theorem dX3_toFront_34 : decode cX3_toFront 34 = .ok (.iastore, 1) := by decide +kernel
theorem dX3_toFront_35 : decode cX3_toFront 35 = .ok (.iinc 3 (-1), 3) := by decide +kernel
theorem dX3_toFront_38 : decode cX3_toFront 38 = .ok (.goto (-31), 3) := by decide +kernel
theorem dX3_toFront_41 : decode cX3_toFront 41 = .ok (.aload_n 0, 1) := by decide +kernel
theorem dX3_toFront_42 : decode cX3_toFront 42 = .ok (.getfield 53, 3) := by decide +kernel
theorem dX3_toFront_45 : decode cX3_toFront 45 = .ok (.bipush 16, 2) := by decide +kernel
theorem dX3_toFront_47 : decode cX3_toFront 47 = .ok (.iload_n 1, 1) := by decide +kernel
theorem dX3_toFront_48 : decode cX3_toFront 48 = .ok (.imul, 1) := by decide +kernel
theorem dX3_toFront_49 : decode cX3_toFront 49 = .ok (.iload_n 2, 1) := by decide +kernel
theorem dX3_toFront_50 : decode cX3_toFront 50 = .ok (.iastore, 1) := by decide +kernel
theorem dX3_toFront_51 : decode cX3_toFront 51 = .ok (.aload_n 0, 1) := by decide +kernel
theorem dX3_toFront_52 : decode cX3_toFront 52 = .ok (.getfield 56, 3) := by decide +kernel
theorem dX3_toFront_55 : decode cX3_toFront 55 = .ok (.iload_n 1, 1) := by decide +kernel
theorem dX3_toFront_56 : decode cX3_toFront 56 = .ok (.dup2, 1) := by decide +kernel
theorem dX3_toFront_57 : decode cX3_toFront 57 = .ok (.iaload, 1) := by decide +kernel
theorem dX3_toFront_58 : decode cX3_toFront 58 = .ok (.iconst 1, 1) := by decide +kernel
theorem dX3_toFront_59 : decode cX3_toFront 59 = .ok (.iadd, 1) := by decide +kernel
theorem dX3_toFront_60 : decode cX3_toFront 60 = .ok (.iastore, 1) := by decide +kernel
theorem dX3_toFront_61 : decode cX3_toFront 61 = .ok (.aload_n 0, 1) := by decide +kernel
theorem dX3_toFront_62 : decode cX3_toFront 62 = .ok (.getfield 25, 3) := by decide +kernel
theorem dX3_toFront_65 : decode cX3_toFront 65 = .ok (.iload_n 2, 1) := by decide +kernel
theorem dX3_toFront_66 : decode cX3_toFront 66 = .ok (.iconst 1, 1) := by decide +kernel
theorem dX3_toFront_67 : decode cX3_toFront 67 = .ok (.iastore, 1) := by decide +kernel
theorem dX3_toFront_68 : decode cX3_toFront 68 = .ok (.return_, 1) := by decide +kernel
theorem dX3_takeFirst_0 : decode cX3_takeFirst 0 = .ok (.aload_n 0, 1) := by decide +kernel
theorem dX3_takeFirst_1 : decode cX3_takeFirst 1 = .ok (.getfield 53, 3) := by decide +kernel
theorem dX3_takeFirst_4 : decode cX3_takeFirst 4 = .ok (.bipush 16, 2) := by decide +kernel
theorem dX3_takeFirst_6 : decode cX3_takeFirst 6 = .ok (.iload_n 1, 1) := by decide +kernel
theorem dX3_takeFirst_7 : decode cX3_takeFirst 7 = .ok (.imul, 1) := by decide +kernel
theorem dX3_takeFirst_8 : decode cX3_takeFirst 8 = .ok (.iaload, 1) := by decide +kernel
theorem dX3_takeFirst_9 : decode cX3_takeFirst 9 = .ok (.istore_n 2, 1) := by decide +kernel
theorem dX3_takeFirst_10 : decode cX3_takeFirst 10 = .ok (.aload_n 0, 1) := by decide +kernel
theorem dX3_takeFirst_11 : decode cX3_takeFirst 11 = .ok (.getfield 56, 3) := by decide +kernel
theorem dX3_takeFirst_14 : decode cX3_takeFirst 14 = .ok (.iload_n 1, 1) := by decide +kernel
theorem dX3_takeFirst_15 : decode cX3_takeFirst 15 = .ok (.dup2, 1) := by decide +kernel
theorem dX3_takeFirst_16 : decode cX3_takeFirst 16 = .ok (.iaload, 1) := by decide +kernel
theorem dX3_takeFirst_17 : decode cX3_takeFirst 17 = .ok (.iconst 1, 1) := by decide +kernel
theorem dX3_takeFirst_18 : decode cX3_takeFirst 18 = .ok (.isub, 1) := by decide +kernel
theorem dX3_takeFirst_19 : decode cX3_takeFirst 19 = .ok (.iastore, 1) := by decide +kernel
theorem dX3_takeFirst_20 : decode cX3_takeFirst 20 = .ok (.iconst 0, 1) := by decide +kernel
theorem dX3_takeFirst_21 : decode cX3_takeFirst 21 = .ok (.istore_n 3, 1) := by decide +kernel
theorem dX3_takeFirst_22 : decode cX3_takeFirst 22 = .ok (.iload_n 3, 1) := by decide +kernel
theorem dX3_takeFirst_23 : decode cX3_takeFirst 23 = .ok (.aload_n 0, 1) := by decide +kernel
theorem dX3_takeFirst_24 : decode cX3_takeFirst 24 = .ok (.getfield 56, 3) := by decide +kernel
theorem dX3_takeFirst_27 : decode cX3_takeFirst 27 = .ok (.iload_n 1, 1) := by decide +kernel
theorem dX3_takeFirst_28 : decode cX3_takeFirst 28 = .ok (.iaload, 1) := by decide +kernel
theorem dX3_takeFirst_29 : decode cX3_takeFirst 29 = .ok (.if_icmp .ge 33, 3) := by decide +kernel
theorem dX3_takeFirst_32 : decode cX3_takeFirst 32 = .ok (.aload_n 0, 1) := by decide +kernel
theorem dX3_takeFirst_33 : decode cX3_takeFirst 33 = .ok (.getfield 53, 3) := by decide +kernel
theorem dX3_takeFirst_36 : decode cX3_takeFirst 36 = .ok (.bipush 16, 2) := by decide +kernel
theorem dX3_takeFirst_38 : decode cX3_takeFirst 38 = .ok (.iload_n 1, 1) := by decide +kernel
theorem dX3_takeFirst_39 : decode cX3_takeFirst 39 = .ok (.imul, 1) := by decide +kernel
theorem dX3_takeFirst_40 : decode cX3_takeFirst 40 = .ok (.iload_n 3, 1) := by decide +kernel
theorem dX3_takeFirst_41 : decode cX3_takeFirst 41 = .ok (.iadd, 1) := by decide +kernel
theorem dX3_takeFirst_42 : decode cX3_takeFirst 42 = .ok (.aload_n 0, 1) := by decide +kernel
theorem dX3_takeFirst_43 : decode cX3_takeFirst 43 = .ok (.getfield 53, 3) := by decide +kernel
theorem dX3_takeFirst_46 : decode cX3_takeFirst 46 = .ok (.bipush 16, 2) := by decide +kernel
theorem dX3_takeFirst_48 : decode cX3_takeFirst 48 = .ok (.iload_n 1, 1) := by decide +kernel
theorem dX3_takeFirst_49 : decode cX3_takeFirst 49 = .ok (.imul, 1) := by decide +kernel
theorem dX3_takeFirst_50 : decode cX3_takeFirst 50 = .ok (.iload_n 3, 1) := by decide +kernel
theorem dX3_takeFirst_51 : decode cX3_takeFirst 51 = .ok (.iadd, 1) := by decide +kernel
theorem dX3_takeFirst_52 : decode cX3_takeFirst 52 = .ok (.iconst 1, 1) := by decide +kernel
theorem dX3_takeFirst_53 : decode cX3_takeFirst 53 = .ok (.iadd, 1) := by decide +kernel
theorem dX3_takeFirst_54 : decode cX3_takeFirst 54 = .ok (.iaload, 1) := by decide +kernel
theorem dX3_takeFirst_55 : decode cX3_takeFirst 55 = .ok (.iastore, 1) := by decide +kernel
theorem dX3_takeFirst_56 : decode cX3_takeFirst 56 = .ok (.iinc 3 1, 3) := by decide +kernel
theorem dX3_takeFirst_59 : decode cX3_takeFirst 59 = .ok (.goto (-37), 3) := by decide +kernel
theorem dX3_takeFirst_62 : decode cX3_takeFirst 62 = .ok (.iload_n 2, 1) := by decide +kernel
theorem dX3_takeFirst_63 : decode cX3_takeFirst 63 = .ok (.ireturn, 1) := by decide +kernel
set_option maxRecDepth 20000 in
theorem ggX3_allUp_X3_takeFirst : GoodIn wsX3_allUp wsX3_takeFirst := goodIn_r _ [17, 18, 3, 23, 24, 25, 26, 27, 28, 29, 30, 31, 32, 33, 34, 35, 36, 37, 38, 39, 40, 41, 42, 43, 44, 45, 46] (by decide +kernel) (by decide +kernel)
set_option maxRecDepth 20000 in
theorem gX3_allUp_X3_takeFirst : GoodIn wsX3_allUp (wsV RX3 95 RX3 yX3_takeFirst wsX3_takeFirst) := goodIn_app (goodIn_of _ (by decide +kernel)) ggX3_allUp_X3_takeFirst
set_option maxRecDepth 20000 in
theorem ggX3_allUp_X3_toEnd : GoodIn wsX3_allUp wsX3_toEnd := goodIn_r _ [22, 18, 3, 5, 23, 24, 25, 26, 27, 28, 29, 30, 31, 32, 33, 34, 35, 36, 37, 38, 39, 40, 41, 42, 43, 44, 45, 46] (by decide +kernel) (by decide +kernel)
set_option maxRecDepth 20000 in
theorem gX3_allUp_X3_toEnd : GoodIn wsX3_allUp (wsV RX3 99 RX3 yX3_toEnd wsX3_toEnd) := goodIn_app (goodIn_of _ (by decide +kernel)) ggX3_allUp_X3_toEnd
theorem dX3_allUp_0 : decode cX3_allUp 0 = .ok (.aload_n 0, 1) := by decide +kernel
theorem dX3_allUp_1 : decode cX3_allUp 1 = .ok (.getfield 59, 3) := by decide +kernel
theorem dX3_allUp_4 : decode cX3_allUp 4 = .ok (.iconst 2, 1) := by decide +kernel
theorem dX3_allUp_5 : decode cX3_allUp 5 = .ok (.dup2, 1) := by decide +kernel
theorem dX3_allUp_6 : decode cX3_allUp 6 = .ok (.iaload, 1) := by decide +kernel
theorem dX3_allUp_7 : decode cX3_allUp 7 = .ok (.iconst 1, 1) := by decide +kernel
theorem dX3_allUp_8 : decode cX3_allUp 8 = .ok (.iadd, 1) := by decide +kernel
theorem dX3_allUp_9 : decode cX3_allUp 9 = .ok (.iastore, 1) := by decide +kernel
theorem dX3_allUp_10 : decode cX3_allUp 10 = .ok (.iconst 1, 1) := by decide +kernel
theorem dX3_allUp_11 : decode cX3_allUp 11 = .ok (.istore_n 1, 1) := by decide +kernel
theorem dX3_allUp_12 : decode cX3_allUp 12 = .ok (.iload_n 1, 1) := by decide +kernel
theorem dX3_allUp_13 : decode cX3_allUp 13 = .ok (.aload_n 0, 1) := by decide +kernel
theorem dX3_allUp_14 : decode cX3_allUp 14 = .ok (.getfield 73, 3) := by decide +kernel
theorem dX3_allUp_17 : decode cX3_allUp 17 = .ok (.if_icmp .ge 31, 3) := by decide +kernel
theorem dX3_allUp_20 : decode cX3_allUp 20 = .ok (.aload_n 0, 1) := by decide +kernel
theorem dX3_allUp_21 : decode cX3_allUp 21 = .ok (.getfield 56, 3) := by decide +kernel
theorem dX3_allUp_24 : decode cX3_allUp 24 = .ok (.iload_n 1, 1) := by decide +kernel
theorem dX3_allUp_25 : decode cX3_allUp 25 = .ok (.iaload, 1) := by decide +kernel
theorem dX3_allUp_26 : decode cX3_allUp 26 = .ok (.ifCond .le 16, 3) := by decide +kernel
theorem dX3_allUp_29 : decode cX3_allUp 29 = .ok (.aload_n 0, 1) := by decide +kernel
theorem dX3_allUp_30 : decode cX3_allUp 30 = .ok (.iconst 0, 1) := by decide +kernel
theorem dX3_allUp_31 : decode cX3_allUp 31 = .ok (.aload_n 0, 1) := by decide +kernel
theorem dX3_allUp_32 : decode cX3_allUp 32 = .ok (.iload_n 1, 1) := by decide +kernel
theorem dX3_allUp_33 : decode cX3_allUp 33 = .ok (.invokevirtual 95, 3) := by decide +kernel
theorem dX3_allUp_36 : decode cX3_allUp 36 = .ok (.invokevirtual 99, 3) := by decide +kernel
theorem dX3_allUp_39 : decode cX3_allUp 39 = .ok (.goto (-19), 3) := by decide +kernel
theorem dX3_allUp_42 : decode cX3_allUp 42 = .ok (.iinc 1 1, 3) := by decide +kernel
theorem dX3_allUp_45 : decode cX3_allUp 45 = .ok (.goto (-33), 3) := by decide +kernel
theorem dX3_allUp_48 : decode cX3_allUp 48 = .ok (.iconst 0, 1) := by decide +kernel
theorem dX3_allUp_49 : decode cX3_allUp 49 = .ok (.istore_n 1, 1) := by decide +kernel
theorem dX3_allUp_50 : decode cX3_allUp 50 = .ok (.iload_n 1, 1) := by decide +kernel
theorem dX3_allUp_51 : decode cX3_allUp 51 = .ok (.aload_n 0, 1) := by decide +kernel
theorem dX3_allUp_52 : decode cX3_allUp 52 = .ok (.getfield 76, 3) := by decide +kernel
theorem dX3_allUp_55 : decode cX3_allUp 55 = .ok (.if_icmp .ge 83, 3) := by decide +kernel
theorem dX3_allUp_58 : decode cX3_allUp 58 = .ok (.aload_n 0, 1) := by decide +kernel
theorem dX3_allUp_59 : decode cX3_allUp 59 = .ok (.getfield 25, 3) := by decide +kernel
theorem dX3_allUp_62 : decode cX3_allUp 62 = .ok (.iload_n 1, 1) := by decide +kernel
theorem dX3_allUp_63 : decode cX3_allUp 63 = .ok (.iaload, 1) := by decide +kernel
theorem dX3_allUp_64 : decode cX3_allUp 64 = .ok (.ifCond .eq 68, 3) := by decide +kernel
theorem dX3_allUp_67 : decode cX3_allUp 67 = .ok (.aload_n 0, 1) := by decide +kernel
theorem dX3_allUp_68 : decode cX3_allUp 68 = .ok (.getfield 25, 3) := by decide +kernel
theorem dX3_allUp_71 : decode cX3_allUp 71 = .ok (.iload_n 1, 1) := by decide +kernel
theorem dX3_allUp_72 : decode cX3_allUp 72 = .ok (.iaload, 1) := by decide +kernel
theorem dX3_allUp_73 : decode cX3_allUp 73 = .ok (.iconst 4, 1) := by decide +kernel
theorem dX3_allUp_74 : decode cX3_allUp 74 = .ok (.if_icmp .eq 58, 3) := by decide +kernel
theorem dX3_allUp_77 : decode cX3_allUp 77 = .ok (.aload_n 0, 1) := by decide +kernel
theorem dX3_allUp_78 : decode cX3_allUp 78 = .ok (.getfield 28, 3) := by decide +kernel
theorem dX3_allUp_81 : decode cX3_allUp 81 = .ok (.iload_n 1, 1) := by decide +kernel
theorem dX3_allUp_82 : decode cX3_allUp 82 = .ok (.iconst 0, 1) := by decide +kernel
theorem dX3_allUp_83 : decode cX3_allUp 83 = .ok (.iastore, 1) := by decide +kernel
theorem dX3_allUp_84 : decode cX3_allUp 84 = .ok (.aload_n 0, 1) := by decide +kernel
theorem dX3_allUp_85 : decode cX3_allUp 85 = .ok (.getfield 40, 3) := by decide +kernel
theorem dX3_allUp_88 : decode cX3_allUp 88 = .ok (.iload_n 1, 1) := by decide +kernel
theorem dX3_allUp_89 : decode cX3_allUp 89 = .ok (.aload_n 0, 1) := by decide +kernel
theorem dX3_allUp_90 : decode cX3_allUp 90 = .ok (.getfield 13, 3) := by decide +kernel
theorem dX3_allUp_93 : decode cX3_allUp 93 = .ok (.iconst 0, 1) := by decide +kernel
theorem dX3_allUp_94 : decode cX3_allUp 94 = .ok (.iaload, 1) := by decide +kernel
theorem dX3_allUp_95 : decode cX3_allUp 95 = .ok (.iastore, 1) := by decide +kernel
theorem dX3_allUp_96 : decode cX3_allUp 96 = .ok (.aload_n 0, 1) := by decide +kernel
theorem dX3_allUp_97 : decode cX3_allUp 97 = .ok (.getfield 43, 3) := by decide +kernel
theorem dX3_allUp_100 : decode cX3_allUp 100 = .ok (.iload_n 1, 1) := by decide +kernel
theorem dX3_allUp_101 : decode cX3_allUp 101 = .ok (.baload, 1) := by decide +kernel
theorem dX3_allUp_102 : decode cX3_allUp 102 = .ok (.ifCond .eq 30, 3) := by decide +kernel
theorem dX3_allUp_105 : decode cX3_allUp 105 = .ok (.aload_n 0, 1) := by decide +kernel
theorem dX3_allUp_106 : decode cX3_allUp 106 = .ok (.getfield 37, 3) := by decide +kernel
theorem dX3_allUp_109 : decode cX3_allUp 109 = .ok (.iload_n 1, 1) := by decide +kernel
theorem dX3_allUp_110 : decode cX3_allUp 110 = .ok (.iaload, 1) := by decide +kernel
theorem dX3_allUp_111 : decode cX3_allUp 111 = .ok (.aload_n 0, 1) := by decide +kernel
theorem dX3_allUp_112 : decode cX3_allUp 112 = .ok (.getfield 7, 3) := by decide +kernel
theorem dX3_allUp_115 : decode cX3_allUp 115 = .ok (.iconst 0, 1) := by decide +kernel
theorem dX3_allUp_116 : decode cX3_allUp 116 = .ok (.iaload, 1) := by decide +kernel
theorem dX3_allUp_117 : decode cX3_allUp 117 = .ok (.if_icmp .le 15, 3) := by decide +kernel
theorem dX3_allUp_120 : decode cX3_allUp 120 = .ok (.aload_n 0, 1) := by decide +kernel
theorem dX3_allUp_121 : decode cX3_allUp 121 = .ok (.getfield 37, 3) := by decide +kernel
theorem dX3_allUp_124 : decode cX3_allUp 124 = .ok (.iload_n 1, 1) := by decide +kernel
theorem dX3_allUp_125 : decode cX3_allUp 125 = .ok (.aload_n 0, 1) := by decide +kernel
theorem dX3_allUp_126 : decode cX3_allUp 126 = .ok (.getfield 7, 3) := by decide +kernel
theorem dX3_allUp_129 : decode cX3_allUp 129 = .ok (.iconst 0, 1) := by decide +kernel
theorem dX3_allUp_130 : decode cX3_allUp 130 = .ok (.iaload, 1) := by decide +kernel
theorem dX3_allUp_131 : decode cX3_allUp 131 = .ok (.iastore, 1) := by decide +kernel
theorem dX3_allUp_132 : decode cX3_allUp 132 = .ok (.iinc 1 1, 3) := by decide +kernel
theorem dX3_allUp_135 : decode cX3_allUp 135 = .ok (.goto (-85), 3) := by decide +kernel
theorem dX3_allUp_138 : decode cX3_allUp 138 = .ok (.aload_n 0, 1) := by decide +kernel
theorem dX3_allUp_139 : decode cX3_allUp 139 = .ok (.getfield 85, 3) := by decide +kernel
theorem dX3_allUp_142 : decode cX3_allUp 142 = .ok (.ifCond .lt 18, 3) := by decide +kernel
theorem dX3_allUp_145 : decode cX3_allUp 145 = .ok (.aload_n 0, 1) := by decide +kernel
theorem dX3_allUp_146 : decode cX3_allUp 146 = .ok (.getfield 37, 3) := by decide +kernel
theorem dX3_allUp_149 : decode cX3_allUp 149 = .ok (.aload_n 0, 1) := by decide +kernel
theorem dX3_allUp_150 : decode cX3_allUp 150 = .ok (.getfield 85, 3) := by decide +kernel
theorem dX3_allUp_153 : decode cX3_allUp 153 = .ok (.aload_n 0, 1) := by decide +kernel
theorem dX3_allUp_154 : decode cX3_allUp 154 = .ok (.getfield 7, 3) := by decide +kernel
theorem dX3_allUp_157 : decode cX3_allUp 157 = .ok (.iconst 0, 1) := by decide +kernel
theorem dX3_allUp_158 : decode cX3_allUp 158 = .ok (.iaload, 1) := by decide +kernel
theorem dX3_allUp_159 : decode cX3_allUp 159 = .ok (.iastore, 1) := by decide +kernel
theorem dX3_allUp_160 : decode cX3_allUp 160 = .ok (.return_, 1) := by decide +kernel
theorem dX3_end_0 : decode cX3_end 0 = .ok (.aload_n 0, 1) := by decide +kernel
theorem dX3_end_1 : decode cX3_end 1 = .ok (.getfield 25, 3) := by decide +kernel
theorem dX3_end_4 : decode cX3_end 4 = .ok (.iload_n 1, 1) := by decide +kernel
theorem dX3_end_5 : decode cX3_end 5 = .ok (.iconst 4, 1) := by decide +kernel
theorem dX3_end_6 : decode cX3_end 6 = .ok (.iastore, 1) := by decide +kernel
theorem dX3_end_7 : decode cX3_end 7 = .ok (.aload_n 0, 1) := by decide +kernel
theorem dX3_end_8 : decode cX3_end 8 = .ok (.getfield 50, 3) := by decide +kernel
theorem dX3_end_11 : decode cX3_end 11 = .ok (.bipush 10, 2) := by decide +kernel
theorem dX3_end_13 : decode cX3_end 13 = .ok (.iload_n 1, 1) := by decide +kernel
theorem dX3_end_14 : decode cX3_end 14 = .ok (.imul, 1) := by decide +kernel
theorem dX3_end_15 : decode cX3_end 15 = .ok (.bipush 6, 2) := by decide +kernel
theorem dX3_end_17 : decode cX3_end 17 = .ok (.iadd, 1) := by decide +kernel
theorem dX3_end_18 : decode cX3_end 18 = .ok (.iload_n 2, 1) := by decide +kernel
theorem dX3_end_19 : decode cX3_end 19 = .ok (.iastore, 1) := by decide +kernel
theorem dX3_end_20 : decode cX3_end 20 = .ok (.aload_n 0, 1) := by decide +kernel
theorem dX3_end_21 : decode cX3_end 21 = .ok (.getfield 59, 3) := by decide +kernel
theorem dX3_end_24 : decode cX3_end 24 = .ok (.iconst 3, 1) := by decide +kernel
theorem dX3_end_25 : decode cX3_end 25 = .ok (.dup2, 1) := by decide +kernel
theorem dX3_end_26 : decode cX3_end 26 = .ok (.iaload, 1) := by decide +kernel
theorem dX3_end_27 : decode cX3_end 27 = .ok (.iconst 1, 1) := by decide +kernel
theorem dX3_end_28 : decode cX3_end 28 = .ok (.iadd, 1) := by decide +kernel
theorem dX3_end_29 : decode cX3_end 29 = .ok (.iastore, 1) := by decide +kernel
theorem dX3_end_30 : decode cX3_end 30 = .ok (.return_, 1) := by decide +kernel
set_option maxRecDepth 20000 in
theorem ggX3_come_X3_end : GoodIn wsX3_come wsX3_end := goodIn_r _ [13, 14, 15, 16, 23, 24, 25, 26, 27, 28, 29, 30, 31, 32, 33, 34, 35, 36, 37, 38, 39, 40, 41, 42, 43, 44, 45, 46] (by decide +kernel) (by decide +kernel)
set_option maxRecDepth 20000 in
theorem gX3_come_X3_end : GoodIn wsX3_come (wsV RX3 103 RX3 yX3_end wsX3_end) := goodIn_app (goodIn_of _ (by decide +kernel)) ggX3_come_X3_end
set_option maxRecDepth 20000 in
theorem ggX3_come_X3_toEnd : GoodIn wsX3_come wsX3_toEnd := goodIn_r _ [20, 21, 22, 14, 23, 24, 25, 26, 27, 28, 29, 30, 31, 32, 33, 34, 35, 36, 37, 38, 39, 40, 41, 42, 43, 44, 45, 46] (by decide +kernel) (by decide +kernel)
set_option maxRecDepth 20000 in
theorem gX3_come_X3_toEnd : GoodIn wsX3_come (wsV RX3 99 RX3 yX3_toEnd wsX3_toEnd) := goodIn_app (goodIn_of _ (by decide +kernel)) ggX3_come_X3_toEnd
theorem dX3_come_0 : decode cX3_come 0 = .ok (.iconst 0, 1) := by decide +kernel
theorem dX3_come_1 : decode cX3_come 1 = .ok (.istore_n 2, 1) := by decide +kernel
theorem dX3_come_2 : decode cX3_come 2 = .ok (.iload_n 2, 1) := by decide +kernel
theorem dX3_come_3 : decode cX3_come 3 = .ok (.aload_n 0, 1) := by decide +kernel
theorem dX3_come_4 : decode cX3_come 4 = .ok (.getfield 76, 3) := by decide +kernel
theorem dX3_come_7 : decode cX3_come 7 = .ok (.if_icmp .ge 87, 3) := by decide +kernel
theorem dX3_come_10 : decode cX3_come 10 = .ok (.aload_n 0, 1) := by decide +kernel
theorem dX3_come_11 : decode cX3_come 11 = .ok (.getfield 16, 3) := by decide +kernel
theorem dX3_come_14 : decode cX3_come 14 = .ok (.iload_n 2, 1) := by decide +kernel
theorem dX3_come_15 : decode cX3_come 15 = .ok (.iaload, 1) := by decide +kernel
theorem dX3_come_16 : decode cX3_come 16 = .ok (.iload_n 1, 1) := by decide +kernel
theorem dX3_come_17 : decode cX3_come 17 = .ok (.if_icmp .ne 21, 3) := by decide +kernel
theorem dX3_come_20 : decode cX3_come 20 = .ok (.aload_n 0, 1) := by decide +kernel
theorem dX3_come_21 : decode cX3_come 21 = .ok (.getfield 19, 3) := by decide +kernel
theorem dX3_come_24 : decode cX3_come 24 = .ok (.iload_n 2, 1) := by decide +kernel
theorem dX3_come_25 : decode cX3_come 25 = .ok (.iaload, 1) := by decide +kernel
theorem dX3_come_26 : decode cX3_come 26 = .ok (.ifCond .ne 12, 3) := by decide +kernel
theorem dX3_come_29 : decode cX3_come 29 = .ok (.aload_n 0, 1) := by decide +kernel
theorem dX3_come_30 : decode cX3_come 30 = .ok (.iload_n 2, 1) := by decide +kernel
theorem dX3_come_31 : decode cX3_come 31 = .ok (.iload_n 1, 1) := by decide +kernel
theorem dX3_come_32 : decode cX3_come 32 = .ok (.invokevirtual 103, 3) := by decide +kernel
theorem dX3_come_35 : decode cX3_come 35 = .ok (.goto 53, 3) := by decide +kernel
theorem dX3_come_38 : decode cX3_come 38 = .ok (.aload_n 0, 1) := by decide +kernel
theorem dX3_come_39 : decode cX3_come 39 = .ok (.getfield 16, 3) := by decide +kernel
theorem dX3_come_42 : decode cX3_come 42 = .ok (.iload_n 2, 1) := by decide +kernel
theorem dX3_come_43 : decode cX3_come 43 = .ok (.iaload, 1) := by decide +kernel
theorem dX3_come_44 : decode cX3_come 44 = .ok (.iload_n 1, 1) := by decide +kernel
theorem dX3_come_45 : decode cX3_come 45 = .ok (.if_icmp .ne 43, 3) := by decide +kernel
theorem dX3_come_48 : decode cX3_come 48 = .ok (.aload_n 0, 1) := by decide +kernel
theorem dX3_come_49 : decode cX3_come 49 = .ok (.getfield 28, 3) := by decide +kernel
theorem dX3_come_52 : decode cX3_come 52 = .ok (.iload_n 2, 1) := by decide +kernel
theorem dX3_come_53 : decode cX3_come 53 = .ok (.iconst 0, 1) := by decide +kernel
theorem dX3_come_54 : decode cX3_come 54 = .ok (.iastore, 1) := by decide +kernel
theorem dX3_come_55 : decode cX3_come 55 = .ok (.aload_n 0, 1) := by decide +kernel
theorem dX3_come_56 : decode cX3_come 56 = .ok (.getfield 40, 3) := by decide +kernel
theorem dX3_come_59 : decode cX3_come 59 = .ok (.iload_n 2, 1) := by decide +kernel
theorem dX3_come_60 : decode cX3_come 60 = .ok (.aload_n 0, 1) := by decide +kernel
theorem dX3_come_61 : decode cX3_come 61 = .ok (.getfield 13, 3) := by decide +kernel
theorem dX3_come_64 : decode cX3_come 64 = .ok (.iconst 0, 1) := by decide +kernel
theorem dX3_come_65 : decode cX3_come 65 = .ok (.iaload, 1) := by decide +kernel
theorem dX3_come_66 : decode cX3_come 66 = .ok (.iastore, 1) := by decide +kernel
theorem dX3_come_67 : decode cX3_come 67 = .ok (.aload_n 0, 1) := by decide +kernel
theorem dX3_come_68 : decode cX3_come 68 = .ok (.getfield 34, 3) := by decide +kernel
theorem dX3_come_71 : decode cX3_come 71 = .ok (.iload_n 2, 1) := by decide +kernel
theorem dX3_come_72 : decode cX3_come 72 = .ok (.aload_n 0, 1) := by decide +kernel
theorem dX3_come_73 : decode cX3_come 73 = .ok (.getfield 22, 3) := by decide +kernel
theorem dX3_come_76 : decode cX3_come 76 = .ok (.bipush 12, 2) := by decide +kernel
theorem dX3_come_78 : decode cX3_come 78 = .ok (.iload_n 2, 1) := by decide +kernel
theorem dX3_come_79 : decode cX3_come 79 = .ok (.imul, 1) := by decide +kernel
theorem dX3_come_80 : decode cX3_come 80 = .ok (.iaload, 1) := by decide +kernel
theorem dX3_come_81 : decode cX3_come 81 = .ok (.iastore, 1) := by decide +kernel
theorem dX3_come_82 : decode cX3_come 82 = .ok (.aload_n 0, 1) := by decide +kernel
theorem dX3_come_83 : decode cX3_come 83 = .ok (.iconst 0, 1) := by decide +kernel
theorem dX3_come_84 : decode cX3_come 84 = .ok (.iload_n 2, 1) := by decide +kernel
theorem dX3_come_85 : decode cX3_come 85 = .ok (.invokevirtual 99, 3) := by decide +kernel
theorem dX3_come_88 : decode cX3_come 88 = .ok (.iinc 2 1, 3) := by decide +kernel
theorem dX3_come_91 : decode cX3_come 91 = .ok (.goto (-89), 3) := by decide +kernel
theorem dX3_come_94 : decode cX3_come 94 = .ok (.return_, 1) := by decide +kernel
set_option maxRecDepth 20000 in
theorem ggX3_comeBack_X3_end : GoodIn wsX3_comeBack wsX3_end := goodIn_r _ [13, 2, 14, 15, 22, 23, 24, 25, 26, 27, 28, 29, 30, 31, 32, 33, 34, 35, 36, 37, 38, 39, 40, 41, 42, 43, 44, 45] (by decide +kernel) (by decide +kernel)
set_option maxRecDepth 20000 in
theorem gX3_comeBack_X3_end : GoodIn wsX3_comeBack (wsV RX3 103 RX3 yX3_end wsX3_end) := goodIn_app (goodIn_of _ (by decide +kernel)) ggX3_comeBack_X3_end
set_option maxRecDepth 20000 in
theorem ggX3_comeBack_X3_toEnd : GoodIn wsX3_comeBack wsX3_toEnd := goodIn_r _ [19, 20, 21, 2, 22, 23, 24, 25, 26, 27, 28, 29, 30, 31, 32, 33, 34, 35, 36, 37, 38, 39, 40, 41, 42, 43, 44, 45] (by decide +kernel) (by decide +kernel)
set_option maxRecDepth 20000 in
theorem gX3_comeBack_X3_toEnd : GoodIn wsX3_comeBack (wsV RX3 99 RX3 yX3_toEnd wsX3_toEnd) := goodIn_app (goodIn_of _ (by decide +kernel)) ggX3_comeBack_X3_toEnd
theorem dX3_comeBack_0 : decode cX3_comeBack 0 = .ok (.iconst 0, 1) := by decide +kernel
theorem dX3_comeBack_1 : decode cX3_comeBack 1 = .ok (.istore_n 2, 1) := by decide +kernel
theorem dX3_comeBack_2 : decode cX3_comeBack 2 = .ok (.iload_n 2, 1) := by decide +kernel
theorem dX3_comeBack_3 : decode cX3_comeBack 3 = .ok (.aload_n 0, 1) := by decide +kernel
theorem dX3_comeBack_4 : decode cX3_comeBack 4 = .ok (.getfield 76, 3) := by decide +kernel
theorem dX3_comeBack_7 : decode cX3_comeBack 7 = .ok (.if_icmp .ge 96, 3) := by decide +kernel
theorem dX3_comeBack_10 : decode cX3_comeBack 10 = .ok (.aload_n 0, 1) := by decide +kernel
theorem dX3_comeBack_11 : decode cX3_comeBack 11 = .ok (.getfield 25, 3) := by decide +kernel
theorem dX3_comeBack_14 : decode cX3_comeBack 14 = .ok (.iload_n 2, 1) := by decide +kernel
theorem dX3_comeBack_15 : decode cX3_comeBack 15 = .ok (.iaload, 1) := by decide +kernel
theorem dX3_comeBack_16 : decode cX3_comeBack 16 = .ok (.iconst 3, 1) := by decide +kernel
theorem dX3_comeBack_17 : decode cX3_comeBack 17 = .ok (.if_icmp .ne 80, 3) := by decide +kernel
theorem dX3_comeBack_20 : decode cX3_comeBack 20 = .ok (.aload_n 0, 1) := by decide +kernel
theorem dX3_comeBack_21 : decode cX3_comeBack 21 = .ok (.getfield 47, 3) := by decide +kernel
theorem dX3_comeBack_24 : decode cX3_comeBack 24 = .ok (.iload_n 2, 1) := by decide +kernel
theorem dX3_comeBack_25 : decode cX3_comeBack 25 = .ok (.iaload, 1) := by decide +kernel
theorem dX3_comeBack_26 : decode cX3_comeBack 26 = .ok (.iload_n 1, 1) := by decide +kernel
theorem dX3_comeBack_27 : decode cX3_comeBack 27 = .ok (.if_icmp .ne 70, 3) := by decide +kernel
theorem dX3_comeBack_30 : decode cX3_comeBack 30 = .ok (.aload_n 0, 1) := by decide +kernel
theorem dX3_comeBack_31 : decode cX3_comeBack 31 = .ok (.getfield 31, 3) := by decide +kernel
theorem dX3_comeBack_34 : decode cX3_comeBack 34 = .ok (.iload_n 2, 1) := by decide +kernel
theorem dX3_comeBack_35 : decode cX3_comeBack 35 = .ok (.dup2, 1) := by decide +kernel
theorem dX3_comeBack_36 : decode cX3_comeBack 36 = .ok (.iaload, 1) := by decide +kernel
theorem dX3_comeBack_37 : decode cX3_comeBack 37 = .ok (.iconst 1, 1) := by decide +kernel
theorem dX3_comeBack_38 : decode cX3_comeBack 38 = .ok (.iadd, 1) := by decide +kernel
theorem dX3_comeBack_39 : decode cX3_comeBack 39 = .ok (.iastore, 1) := by decide +kernel
theorem dX3_comeBack_40 : decode cX3_comeBack 40 = .ok (.aload_n 0, 1) := by decide +kernel
theorem dX3_comeBack_41 : decode cX3_comeBack 41 = .ok (.getfield 31, 3) := by decide +kernel
theorem dX3_comeBack_44 : decode cX3_comeBack 44 = .ok (.iload_n 2, 1) := by decide +kernel
theorem dX3_comeBack_45 : decode cX3_comeBack 45 = .ok (.iaload, 1) := by decide +kernel
theorem dX3_comeBack_46 : decode cX3_comeBack 46 = .ok (.aload_n 0, 1) := by decide +kernel
theorem dX3_comeBack_47 : decode cX3_comeBack 47 = .ok (.getfield 19, 3) := by decide +kernel
theorem dX3_comeBack_50 : decode cX3_comeBack 50 = .ok (.iload_n 2, 1) := by decide +kernel
theorem dX3_comeBack_51 : decode cX3_comeBack 51 = .ok (.iaload, 1) := by decide +kernel
theorem dX3_comeBack_52 : decode cX3_comeBack 52 = .ok (.if_icmp .ne 12, 3) := by decide +kernel
theorem dX3_comeBack_55 : decode cX3_comeBack 55 = .ok (.aload_n 0, 1) := by decide +kernel
theorem dX3_comeBack_56 : decode cX3_comeBack 56 = .ok (.iload_n 2, 1) := by decide +kernel
theorem dX3_comeBack_57 : decode cX3_comeBack 57 = .ok (.iload_n 1, 1) := by decide +kernel
theorem dX3_comeBack_58 : decode cX3_comeBack 58 = .ok (.invokevirtual 103, 3) := by decide +kernel
theorem dX3_comeBack_61 : decode cX3_comeBack 61 = .ok (.goto 36, 3) := by decide +kernel
theorem dX3_comeBack_64 : decode cX3_comeBack 64 = .ok (.aload_n 0, 1) := by decide +kernel
theorem dX3_comeBack_65 : decode cX3_comeBack 65 = .ok (.getfield 34, 3) := by decide +kernel
theorem dX3_comeBack_68 : decode cX3_comeBack 68 = .ok (.iload_n 2, 1) := by decide +kernel
theorem dX3_comeBack_69 : decode cX3_comeBack 69 = .ok (.aload_n 0, 1) := by decide +kernel
theorem dX3_comeBack_70 : decode cX3_comeBack 70 = .ok (.getfield 22, 3) := by decide +kernel
theorem dX3_comeBack_73 : decode cX3_comeBack 73 = .ok (.bipush 12, 2) := by decide +kernel
theorem dX3_comeBack_75 : decode cX3_comeBack 75 = .ok (.iload_n 2, 1) := by decide +kernel
theorem dX3_comeBack_76 : decode cX3_comeBack 76 = .ok (.imul, 1) := by decide +kernel
theorem dX3_comeBack_77 : decode cX3_comeBack 77 = .ok (.aload_n 0, 1) := by decide +kernel
theorem dX3_comeBack_78 : decode cX3_comeBack 78 = .ok (.getfield 31, 3) := by decide +kernel
theorem dX3_comeBack_81 : decode cX3_comeBack 81 = .ok (.iload_n 2, 1) := by decide +kernel
theorem dX3_comeBack_82 : decode cX3_comeBack 82 = .ok (.iaload, 1) := by decide +kernel
theorem dX3_comeBack_83 : decode cX3_comeBack 83 = .ok (.iadd, 1) := by decide +kernel
theorem dX3_comeBack_84 : decode cX3_comeBack 84 = .ok (.iaload, 1) := by decide +kernel
theorem dX3_comeBack_85 : decode cX3_comeBack 85 = .ok (.iastore, 1) := by decide +kernel
theorem dX3_comeBack_86 : decode cX3_comeBack 86 = .ok (.aload_n 0, 1) := by decide +kernel
theorem dX3_comeBack_87 : decode cX3_comeBack 87 = .ok (.aload_n 0, 1) := by decide +kernel
theorem dX3_comeBack_88 : decode cX3_comeBack 88 = .ok (.getfield 28, 3) := by decide +kernel
theorem dX3_comeBack_91 : decode cX3_comeBack 91 = .ok (.iload_n 2, 1) := by decide +kernel
theorem dX3_comeBack_92 : decode cX3_comeBack 92 = .ok (.iaload, 1) := by decide +kernel
theorem dX3_comeBack_93 : decode cX3_comeBack 93 = .ok (.iload_n 2, 1) := by decide +kernel
theorem dX3_comeBack_94 : decode cX3_comeBack 94 = .ok (.invokevirtual 99, 3) := by decide +kernel
theorem dX3_comeBack_97 : decode cX3_comeBack 97 = .ok (.iinc 2 1, 3) := by decide +kernel
theorem dX3_comeBack_100 : decode cX3_comeBack 100 = .ok (.goto (-98), 3) := by decide +kernel
theorem dX3_comeBack_103 : decode cX3_comeBack 103 = .ok (.return_, 1) := by decide +kernel
theorem dX3_firstLevel_0 : decode cX3_firstLevel 0 = .ok (.iconst 0, 1) := by decide +kernel
theorem dX3_firstLevel_1 : decode cX3_firstLevel 1 = .ok (.istore_n 1, 1) := by decide +kernel
theorem dX3_firstLevel_2 : decode cX3_firstLevel 2 = .ok (.iload_n 1, 1) := by decide +kernel
theorem dX3_firstLevel_3 : decode cX3_firstLevel 3 = .ok (.aload_n 0, 1) := by decide +kernel
theorem dX3_firstLevel_4 : decode cX3_firstLevel 4 = .ok (.getfield 73, 3) := by decide +kernel
theorem dX3_firstLevel_7 : decode cX3_firstLevel 7 = .ok (.if_icmp .ge 20, 3) := by decide +kernel
theorem dX3_firstLevel_10 : decode cX3_firstLevel 10 = .ok (.aload_n 0, 1) := by decide +kernel
theorem dX3_firstLevel_11 : decode cX3_firstLevel 11 = .ok (.getfield 56, 3) := by decide +kernel
theorem dX3_firstLevel_14 : decode cX3_firstLevel 14 = .ok (.iload_n 1, 1) := by decide +kernel
theorem dX3_firstLevel_15 : decode cX3_firstLevel 15 = .ok (.iaload, 1) := by decide +kernel
theorem dX3_firstLevel_16 : decode cX3_firstLevel 16 = .ok (.ifCond .le 5, 3) := by decide +kernel
theorem dX3_firstLevel_19 : decode cX3_firstLevel 19 = .ok (.iload_n 1, 1) := by decide +kernel
theorem dX3_firstLevel_20 : decode cX3_firstLevel 20 = .ok (.ireturn, 1) := by decide +kernel
theorem dX3_firstLevel_21 : decode cX3_firstLevel 21 = .ok (.iinc 1 1, 3) := by decide +kernel
theorem dX3_firstLevel_24 : decode cX3_firstLevel 24 = .ok (.goto (-22), 3) := by decide +kernel
theorem dX3_firstLevel_27 : decode cX3_firstLevel 27 = .ok (.iconst (-1), 1) := by decide +kernel
theorem dX3_firstLevel_28 : decode cX3_firstLevel 28 = .ok (.ireturn, 1) := by decide +kernel
set_option maxRecDepth 20000 in
theorem ggX3_choose_X3_firstLevel : GoodIn wsX3_choose wsX3_firstLevel := goodIn_r _ [14, 15, 16, 26, 27, 28, 29, 30, 31, 32, 33, 34, 35, 36, 37, 38, 39, 40, 41, 42, 43, 44, 45, 46, 47, 48, 49] (by decide +kernel) (by decide +kernel)
set_option maxRecDepth 20000 in
theorem gX3_choose_X3_firstLevel : GoodIn wsX3_choose (wsV RX3 106 RX3 yX3_firstLevel wsX3_firstLevel) := goodIn_app (goodIn_of _ (by decide +kernel)) ggX3_choose_X3_firstLevel
set_option maxRecDepth 20000 in
theorem ggX3_choose_X3_toFront : GoodIn wsX3_choose wsX3_toFront := goodIn_r _ [20, 16, 21, 5, 26, 27, 28, 29, 30, 31, 32, 33, 34, 35, 36, 37, 38, 39, 40, 41, 42, 43, 44, 45, 46, 47, 48, 49] (by decide +kernel) (by decide +kernel)
set_option maxRecDepth 20000 in
theorem gX3_choose_X3_toFront : GoodIn wsX3_choose (wsV RX3 110 RX3 yX3_toFront wsX3_toFront) := goodIn_app (goodIn_of _ (by decide +kernel)) ggX3_choose_X3_toFront
set_option maxRecDepth 20000 in
theorem ggX3_choose_X3_takeFirst : GoodIn wsX3_choose wsX3_takeFirst := goodIn_r _ [25, 21, 16, 26, 27, 28, 29, 30, 31, 32, 33, 34, 35, 36, 37, 38, 39, 40, 41, 42, 43, 44, 45, 46, 47, 48, 49] (by decide +kernel) (by decide +kernel)
set_option maxRecDepth 20000 in
theorem gX3_choose_X3_takeFirst : GoodIn wsX3_choose (wsV RX3 95 RX3 yX3_takeFirst wsX3_takeFirst) := goodIn_app (goodIn_of _ (by decide +kernel)) ggX3_choose_X3_takeFirst
theorem dX3_choose_0 : decode cX3_choose 0 = .ok (.aload_n 0, 1) := by decide +kernel
theorem dX3_choose_1 : decode cX3_choose 1 = .ok (.invokevirtual 106, 3) := by decide +kernel
theorem dX3_choose_4 : decode cX3_choose 4 = .ok (.istore_n 2, 1) := by decide +kernel
theorem dX3_choose_5 : decode cX3_choose 5 = .ok (.aload_n 0, 1) := by decide +kernel
theorem dX3_choose_6 : decode cX3_choose 6 = .ok (.getfield 85, 3) := by decide +kernel
theorem dX3_choose_9 : decode cX3_choose 9 = .ok (.ifCond .lt 71, 3) := by decide +kernel
theorem dX3_choose_12 : decode cX3_choose 12 = .ok (.iload_n 2, 1) := by decide +kernel
theorem dX3_choose_13 : decode cX3_choose 13 = .ok (.ifCond .lt 67, 3) := by decide +kernel
theorem dX3_choose_16 : decode cX3_choose 16 = .ok (.iload_n 2, 1) := by decide +kernel
theorem dX3_choose_17 : decode cX3_choose 17 = .ok (.aload_n 0, 1) := by decide +kernel
theorem dX3_choose_18 : decode cX3_choose 18 = .ok (.getfield 28, 3) := by decide +kernel
theorem dX3_choose_21 : decode cX3_choose 21 = .ok (.aload_n 0, 1) := by decide +kernel
theorem dX3_choose_22 : decode cX3_choose 22 = .ok (.getfield 85, 3) := by decide +kernel
theorem dX3_choose_25 : decode cX3_choose 25 = .ok (.iaload, 1) := by decide +kernel
theorem dX3_choose_26 : decode cX3_choose 26 = .ok (.if_icmp .ge 54, 3) := by decide +kernel
theorem dX3_choose_29 : decode cX3_choose 29 = .ok (.aload_n 0, 1) := by decide +kernel
theorem dX3_choose_30 : decode cX3_choose 30 = .ok (.getfield 43, 3) := by decide +kernel
theorem dX3_choose_33 : decode cX3_choose 33 = .ok (.aload_n 0, 1) := by decide +kernel
theorem dX3_choose_34 : decode cX3_choose 34 = .ok (.getfield 85, 3) := by decide +kernel
theorem dX3_choose_37 : decode cX3_choose 37 = .ok (.iconst 1, 1) := by decide +kernel
theorem dX3_choose_38 : decode cX3_choose 38 = .ok (.bastore, 1) := by decide +kernel
theorem dX3_choose_39 : decode cX3_choose 39 = .ok (.aload_n 0, 1) := by decide +kernel
theorem dX3_choose_40 : decode cX3_choose 40 = .ok (.getfield 50, 3) := by decide +kernel
theorem dX3_choose_43 : decode cX3_choose 43 = .ok (.bipush 10, 2) := by decide +kernel
theorem dX3_choose_45 : decode cX3_choose 45 = .ok (.aload_n 0, 1) := by decide +kernel
theorem dX3_choose_46 : decode cX3_choose 46 = .ok (.getfield 85, 3) := by decide +kernel
theorem dX3_choose_49 : decode cX3_choose 49 = .ok (.imul, 1) := by decide +kernel
theorem dX3_choose_50 : decode cX3_choose 50 = .ok (.bipush 9, 2) := by decide +kernel
theorem dX3_choose_52 : decode cX3_choose 52 = .ok (.iadd, 1) := by decide +kernel
theorem dX3_choose_53 : decode cX3_choose 53 = .ok (.dup2, 1) := by decide +kernel
theorem dX3_choose_54 : decode cX3_choose 54 = .ok (.iaload, 1) := by decide +kernel
theorem dX3_choose_55 : decode cX3_choose 55 = .ok (.iconst 1, 1) := by decide +kernel
theorem dX3_choose_56 : decode cX3_choose 56 = .ok (.iadd, 1) := by decide +kernel
theorem dX3_choose_57 : decode cX3_choose 57 = .ok (.iastore, 1) := by decide +kernel
theorem dX3_choose_58 : decode cX3_choose 58 = .ok (.aload_n 0, 1) := by decide +kernel
theorem dX3_choose_59 : decode cX3_choose 59 = .ok (.aload_n 0, 1) := by decide +kernel
theorem dX3_choose_60 : decode cX3_choose 60 = .ok (.getfield 28, 3) := by decide +kernel
theorem dX3_choose_63 : decode cX3_choose 63 = .ok (.aload_n 0, 1) := by decide +kernel
theorem dX3_choose_64 : decode cX3_choose 64 = .ok (.getfield 85, 3) := by decide +kernel
theorem dX3_choose_67 : decode cX3_choose 67 = .ok (.iaload, 1) := by decide +kernel
theorem dX3_choose_68 : decode cX3_choose 68 = .ok (.aload_n 0, 1) := by decide +kernel
theorem dX3_choose_69 : decode cX3_choose 69 = .ok (.getfield 85, 3) := by decide +kernel
theorem dX3_choose_72 : decode cX3_choose 72 = .ok (.invokevirtual 110, 3) := by decide +kernel
theorem dX3_choose_75 : decode cX3_choose 75 = .ok (.aload_n 0, 1) := by decide +kernel
theorem dX3_choose_76 : decode cX3_choose 76 = .ok (.iconst (-1), 1) := by decide +kernel
theorem dX3_choose_77 : decode cX3_choose 77 = .ok (.putfield 85, 3) := by decide +kernel
theorem dX3_choose_80 : decode cX3_choose 80 = .ok (.aload_n 0, 1) := by decide +kernel
theorem dX3_choose_81 : decode cX3_choose 81 = .ok (.getfield 85, 3) := by decide +kernel
theorem dX3_choose_84 : decode cX3_choose 84 = .ok (.ifCond .ge 7, 3) := by decide +kernel
theorem dX3_choose_87 : decode cX3_choose 87 = .ok (.iload_n 2, 1) := by decide +kernel
theorem dX3_choose_88 : decode cX3_choose 88 = .ok (.ifCond .ge 4, 3) := by decide +kernel
theorem dX3_choose_91 : decode cX3_choose 91 = .ok (.return_, 1) := by decide +kernel
theorem dX3_choose_92 : decode cX3_choose 92 = .ok (.aload_n 0, 1) := by decide +kernel
theorem dX3_choose_93 : decode cX3_choose 93 = .ok (.iload_n 2, 1) := by decide +kernel
theorem dX3_choose_94 : decode cX3_choose 94 = .ok (.invokevirtual 95, 3) := by decide +kernel
theorem dX3_choose_97 : decode cX3_choose 97 = .ok (.istore_n 3, 1) := by decide +kernel
theorem dX3_choose_98 : decode cX3_choose 98 = .ok (.aload_n 0, 1) := by decide +kernel
theorem dX3_choose_99 : decode cX3_choose 99 = .ok (.iload_n 3, 1) := by decide +kernel
theorem dX3_choose_100 : decode cX3_choose 100 = .ok (.putfield 85, 3) := by decide +kernel
theorem dX3_choose_103 : decode cX3_choose 103 = .ok (.aload_n 0, 1) := by decide +kernel
theorem dX3_choose_104 : decode cX3_choose 104 = .ok (.getfield 25, 3) := by decide +kernel
theorem dX3_choose_107 : decode cX3_choose 107 = .ok (.iload_n 3, 1) := by decide +kernel
theorem dX3_choose_108 : decode cX3_choose 108 = .ok (.iconst 2, 1) := by decide +kernel
theorem dX3_choose_109 : decode cX3_choose 109 = .ok (.iastore, 1) := by decide +kernel
theorem dX3_choose_110 : decode cX3_choose 110 = .ok (.aload_n 0, 1) := by decide +kernel
theorem dX3_choose_111 : decode cX3_choose 111 = .ok (.getfield 37, 3) := by decide +kernel
theorem dX3_choose_114 : decode cX3_choose 114 = .ok (.iload_n 3, 1) := by decide +kernel
theorem dX3_choose_115 : decode cX3_choose 115 = .ok (.aload_n 0, 1) := by decide +kernel
theorem dX3_choose_116 : decode cX3_choose 116 = .ok (.getfield 43, 3) := by decide +kernel
theorem dX3_choose_119 : decode cX3_choose 119 = .ok (.iload_n 3, 1) := by decide +kernel
theorem dX3_choose_120 : decode cX3_choose 120 = .ok (.baload, 1) := by decide +kernel
theorem dX3_choose_121 : decode cX3_choose 121 = .ok (.ifCond .eq 12, 3) := by decide +kernel
theorem dX3_choose_124 : decode cX3_choose 124 = .ok (.aload_n 0, 1) := by decide +kernel
theorem dX3_choose_125 : decode cX3_choose 125 = .ok (.getfield 37, 3) := by decide +kernel
theorem dX3_choose_128 : decode cX3_choose 128 = .ok (.iload_n 3, 1) := by decide +kernel
theorem dX3_choose_129 : decode cX3_choose 129 = .ok (.iaload, 1) := by decide +kernel
theorem dX3_choose_130 : decode cX3_choose 130 = .ok (.goto 14, 3) := by decide +kernel
theorem dX3_choose_133 : decode cX3_choose 133 = .ok (.aload_n 0, 1) := by decide +kernel
theorem dX3_choose_134 : decode cX3_choose 134 = .ok (.getfield 7, 3) := by decide +kernel
theorem dX3_choose_137 : decode cX3_choose 137 = .ok (.aload_n 0, 1) := by decide +kernel
theorem dX3_choose_138 : decode cX3_choose 138 = .ok (.getfield 28, 3) := by decide +kernel
theorem dX3_choose_141 : decode cX3_choose 141 = .ok (.iload_n 3, 1) := by decide +kernel
theorem dX3_choose_142 : decode cX3_choose 142 = .ok (.iaload, 1) := by decide +kernel
theorem dX3_choose_143 : decode cX3_choose 143 = .ok (.iaload, 1) := by decide +kernel
theorem dX3_choose_144 : decode cX3_choose 144 = .ok (.iastore, 1) := by decide +kernel
theorem dX3_choose_145 : decode cX3_choose 145 = .ok (.aload_n 0, 1) := by decide +kernel
theorem dX3_choose_146 : decode cX3_choose 146 = .ok (.getfield 43, 3) := by decide +kernel
theorem dX3_choose_149 : decode cX3_choose 149 = .ok (.iload_n 3, 1) := by decide +kernel
theorem dX3_choose_150 : decode cX3_choose 150 = .ok (.iconst 0, 1) := by decide +kernel
theorem dX3_choose_151 : decode cX3_choose 151 = .ok (.bastore, 1) := by decide +kernel
theorem dX3_choose_152 : decode cX3_choose 152 = .ok (.aload_n 0, 1) := by decide +kernel
theorem dX3_choose_153 : decode cX3_choose 153 = .ok (.getfield 50, 3) := by decide +kernel
theorem dX3_choose_156 : decode cX3_choose 156 = .ok (.bipush 10, 2) := by decide +kernel
theorem dX3_choose_158 : decode cX3_choose 158 = .ok (.iload_n 3, 1) := by decide +kernel
theorem dX3_choose_159 : decode cX3_choose 159 = .ok (.imul, 1) := by decide +kernel
theorem dX3_choose_160 : decode cX3_choose 160 = .ok (.bipush 7, 2) := by decide +kernel
theorem dX3_choose_162 : decode cX3_choose 162 = .ok (.iadd, 1) := by decide +kernel
theorem dX3_choose_163 : decode cX3_choose 163 = .ok (.dup2, 1) := by decide +kernel
theorem dX3_choose_164 : decode cX3_choose 164 = .ok (.iaload, 1) := by decide +kernel
theorem dX3_choose_165 : decode cX3_choose 165 = .ok (.iconst 1, 1) := by decide +kernel
theorem dX3_choose_166 : decode cX3_choose 166 = .ok (.iadd, 1) := by decide +kernel
theorem dX3_choose_167 : decode cX3_choose 167 = .ok (.iastore, 1) := by decide +kernel
theorem dX3_choose_168 : decode cX3_choose 168 = .ok (.aload_n 0, 1) := by decide +kernel
theorem dX3_choose_169 : decode cX3_choose 169 = .ok (.getfield 50, 3) := by decide +kernel
theorem dX3_choose_172 : decode cX3_choose 172 = .ok (.bipush 10, 2) := by decide +kernel
theorem dX3_choose_174 : decode cX3_choose 174 = .ok (.iload_n 3, 1) := by decide +kernel
theorem dX3_choose_175 : decode cX3_choose 175 = .ok (.imul, 1) := by decide +kernel
theorem dX3_choose_176 : decode cX3_choose 176 = .ok (.iconst 5, 1) := by decide +kernel
theorem dX3_choose_177 : decode cX3_choose 177 = .ok (.iadd, 1) := by decide +kernel
theorem dX3_choose_178 : decode cX3_choose 178 = .ok (.aload_n 0, 1) := by decide +kernel
theorem dX3_choose_179 : decode cX3_choose 179 = .ok (.getfield 50, 3) := by decide +kernel
theorem dX3_choose_182 : decode cX3_choose 182 = .ok (.bipush 10, 2) := by decide +kernel
theorem dX3_choose_184 : decode cX3_choose 184 = .ok (.iload_n 3, 1) := by decide +kernel
theorem dX3_choose_185 : decode cX3_choose 185 = .ok (.imul, 1) := by decide +kernel
theorem dX3_choose_186 : decode cX3_choose 186 = .ok (.iconst 5, 1) := by decide +kernel
theorem dX3_choose_187 : decode cX3_choose 187 = .ok (.iadd, 1) := by decide +kernel
theorem dX3_choose_188 : decode cX3_choose 188 = .ok (.iaload, 1) := by decide +kernel
theorem dX3_choose_189 : decode cX3_choose 189 = .ok (.ifCond .ge 7, 3) := by decide +kernel
theorem dX3_choose_192 : decode cX3_choose 192 = .ok (.iload_n 1, 1) := by decide +kernel
theorem dX3_choose_193 : decode cX3_choose 193 = .ok (.goto 14, 3) := by decide +kernel
theorem dX3_choose_196 : decode cX3_choose 196 = .ok (.aload_n 0, 1) := by decide +kernel
theorem dX3_choose_197 : decode cX3_choose 197 = .ok (.getfield 50, 3) := by decide +kernel
theorem dX3_choose_200 : decode cX3_choose 200 = .ok (.bipush 10, 2) := by decide +kernel
theorem dX3_choose_202 : decode cX3_choose 202 = .ok (.iload_n 3, 1) := by decide +kernel
theorem dX3_choose_203 : decode cX3_choose 203 = .ok (.imul, 1) := by decide +kernel
theorem dX3_choose_204 : decode cX3_choose 204 = .ok (.iconst 5, 1) := by decide +kernel
theorem dX3_choose_205 : decode cX3_choose 205 = .ok (.iadd, 1) := by decide +kernel
theorem dX3_choose_206 : decode cX3_choose 206 = .ok (.iaload, 1) := by decide +kernel
theorem dX3_choose_207 : decode cX3_choose 207 = .ok (.iastore, 1) := by decide +kernel
theorem dX3_choose_208 : decode cX3_choose 208 = .ok (.aload_n 0, 1) := by decide +kernel
theorem dX3_choose_209 : decode cX3_choose 209 = .ok (.getfield 59, 3) := by decide +kernel
theorem dX3_choose_212 : decode cX3_choose 212 = .ok (.iconst 0, 1) := by decide +kernel
theorem dX3_choose_213 : decode cX3_choose 213 = .ok (.iaload, 1) := by decide +kernel
theorem dX3_choose_214 : decode cX3_choose 214 = .ok (.sipush 400, 3) := by decide +kernel
theorem dX3_choose_217 : decode cX3_choose 217 = .ok (.if_icmp .ge 20, 3) := by decide +kernel
theorem dX3_choose_220 : decode cX3_choose 220 = .ok (.aload_n 0, 1) := by decide +kernel
theorem dX3_choose_221 : decode cX3_choose 221 = .ok (.getfield 62, 3) := by decide +kernel
theorem dX3_choose_224 : decode cX3_choose 224 = .ok (.aload_n 0, 1) := by decide +kernel
theorem dX3_choose_225 : decode cX3_choose 225 = .ok (.getfield 59, 3) := by decide +kernel
theorem dX3_choose_228 : decode cX3_choose 228 = .ok (.iconst 0, 1) := by decide +kernel
theorem dX3_choose_229 : decode cX3_choose 229 = .ok (.iaload, 1) := by decide +kernel
theorem dX3_choose_230 : decode cX3_choose 230 = .ok (.bipush 16, 2) := by decide +kernel
theorem dX3_choose_232 : decode cX3_choose 232 = .ok (.iload_n 1, 1) := by decide +kernel
theorem dX3_choose_233 : decode cX3_choose 233 = .ok (.imul, 1) := by decide +kernel
theorem dX3_choose_234 : decode cX3_choose 234 = .ok (.iload_n 3, 1) := by decide +kernel
theorem dX3_choose_235 : decode cX3_choose 235 = .ok (.iadd, 1) := by decide +kernel
theorem dX3_choose_236 : decode cX3_choose 236 = .ok (.iastore, 1) := by decide +kernel
theorem dX3_choose_237 : decode cX3_choose 237 = .ok (.aload_n 0, 1) := by decide +kernel
theorem dX3_choose_238 : decode cX3_choose 238 = .ok (.getfield 59, 3) := by decide +kernel
theorem dX3_choose_241 : decode cX3_choose 241 = .ok (.iconst 0, 1) := by decide +kernel
theorem dX3_choose_242 : decode cX3_choose 242 = .ok (.dup2, 1) := by decide +kernel
theorem dX3_choose_243 : decode cX3_choose 243 = .ok (.iaload, 1) := by decide +kernel
theorem dX3_choose_244 : decode cX3_choose 244 = .ok (.iconst 1, 1) := by decide +kernel
theorem dX3_choose_245 : decode cX3_choose 245 = .ok (.iadd, 1) := by decide +kernel
theorem dX3_choose_246 : decode cX3_choose 246 = .ok (.iastore, 1) := by decide +kernel
theorem dX3_choose_247 : decode cX3_choose 247 = .ok (.return_, 1) := by decide +kernel
set_option maxRecDepth 20000 in
theorem ggX3_work_X3_end : GoodIn wsX3_work wsX3_end := goodIn_r _ [18, 8, 2, 19, 26, 27, 28, 29, 30, 31, 32, 33, 34, 35, 36, 37, 38, 39, 40, 41, 42, 43, 44, 45, 46, 47, 48, 49] (by decide +kernel) (by decide +kernel)
set_option maxRecDepth 20000 in
theorem gX3_work_X3_end : GoodIn wsX3_work (wsV RX3 103 RX3 yX3_end wsX3_end) := goodIn_app (goodIn_of _ (by decide +kernel)) ggX3_work_X3_end
set_option maxRecDepth 20000 in
theorem ggX3_work_X3_toEnd : GoodIn wsX3_work wsX3_toEnd := goodIn_r _ [23, 24, 25, 8, 26, 27, 28, 29, 30, 31, 32, 33, 34, 35, 36, 37, 38, 39, 40, 41, 42, 43, 44, 45, 46, 47, 48, 49] (by decide +kernel) (by decide +kernel)
set_option maxRecDepth 20000 in
theorem gX3_work_X3_toEnd : GoodIn wsX3_work (wsV RX3 99 RX3 yX3_toEnd wsX3_toEnd) := goodIn_app (goodIn_of _ (by decide +kernel)) ggX3_work_X3_toEnd
theorem dX3_work_0 : decode cX3_work 0 = .ok (.aload_n 0, 1) := by decide +kernel
theorem dX3_work_1 : decode cX3_work 1 = .ok (.getfield 85, 3) := by decide +kernel
theorem dX3_work_4 : decode cX3_work 4 = .ok (.istore_n 2, 1) := by decide +kernel
theorem dX3_work_5 : decode cX3_work 5 = .ok (.aload_n 0, 1) := by decide +kernel
theorem dX3_work_6 : decode cX3_work 6 = .ok (.getfield 50, 3) := by decide +kernel
theorem dX3_work_9 : decode cX3_work 9 = .ok (.bipush 10, 2) := by decide +kernel
theorem dX3_work_11 : decode cX3_work 11 = .ok (.iload_n 2, 1) := by decide +kernel
theorem dX3_work_12 : decode cX3_work 12 = .ok (.imul, 1) := by decide +kernel
theorem dX3_work_13 : decode cX3_work 13 = .ok (.iconst 2, 1) := by decide +kernel
theorem dX3_work_14 : decode cX3_work 14 = .ok (.iadd, 1) := by decide +kernel
theorem dX3_work_15 : decode cX3_work 15 = .ok (.dup2, 1) := by decide +kernel
theorem dX3_work_16 : decode cX3_work 16 = .ok (.iaload, 1) := by decide +kernel
theorem dX3_work_17 : decode cX3_work 17 = .ok (.iconst 1, 1) := by decide +kernel
theorem dX3_work_18 : decode cX3_work 18 = .ok (.iadd, 1) := by decide +kernel
theorem dX3_work_19 : decode cX3_work 19 = .ok (.iastore, 1) := by decide +kernel
theorem dX3_work_20 : decode cX3_work 20 = .ok (.aload_n 0, 1) := by decide +kernel
theorem dX3_work_21 : decode cX3_work 21 = .ok (.getfield 34, 3) := by decide +kernel
theorem dX3_work_24 : decode cX3_work 24 = .ok (.iload_n 2, 1) := by decide +kernel
theorem dX3_work_25 : decode cX3_work 25 = .ok (.dup2, 1) := by decide +kernel
theorem dX3_work_26 : decode cX3_work 26 = .ok (.iaload, 1) := by decide +kernel
theorem dX3_work_27 : decode cX3_work 27 = .ok (.iconst 1, 1) := by decide +kernel
theorem dX3_work_28 : decode cX3_work 28 = .ok (.isub, 1) := by decide +kernel
theorem dX3_work_29 : decode cX3_work 29 = .ok (.iastore, 1) := by decide +kernel
theorem dX3_work_30 : decode cX3_work 30 = .ok (.aload_n 0, 1) := by decide +kernel
theorem dX3_work_31 : decode cX3_work 31 = .ok (.getfield 37, 3) := by decide +kernel
theorem dX3_work_34 : decode cX3_work 34 = .ok (.iload_n 2, 1) := by decide +kernel
theorem dX3_work_35 : decode cX3_work 35 = .ok (.dup2, 1) := by decide +kernel
theorem dX3_work_36 : decode cX3_work 36 = .ok (.iaload, 1) := by decide +kernel
theorem dX3_work_37 : decode cX3_work 37 = .ok (.iconst 1, 1) := by decide +kernel
theorem dX3_work_38 : decode cX3_work 38 = .ok (.isub, 1) := by decide +kernel
theorem dX3_work_39 : decode cX3_work 39 = .ok (.iastore, 1) := by decide +kernel
theorem dX3_work_40 : decode cX3_work 40 = .ok (.aload_n 0, 1) := by decide +kernel
theorem dX3_work_41 : decode cX3_work 41 = .ok (.getfield 40, 3) := by decide +kernel
theorem dX3_work_44 : decode cX3_work 44 = .ok (.iload_n 2, 1) := by decide +kernel
theorem dX3_work_45 : decode cX3_work 45 = .ok (.dup2, 1) := by decide +kernel
theorem dX3_work_46 : decode cX3_work 46 = .ok (.iaload, 1) := by decide +kernel
theorem dX3_work_47 : decode cX3_work 47 = .ok (.iconst 1, 1) := by decide +kernel
theorem dX3_work_48 : decode cX3_work 48 = .ok (.isub, 1) := by decide +kernel
theorem dX3_work_49 : decode cX3_work 49 = .ok (.iastore, 1) := by decide +kernel
theorem dX3_work_50 : decode cX3_work 50 = .ok (.aload_n 0, 1) := by decide +kernel
theorem dX3_work_51 : decode cX3_work 51 = .ok (.getfield 34, 3) := by decide +kernel
theorem dX3_work_54 : decode cX3_work 54 = .ok (.iload_n 2, 1) := by decide +kernel
theorem dX3_work_55 : decode cX3_work 55 = .ok (.iaload, 1) := by decide +kernel
theorem dX3_work_56 : decode cX3_work 56 = .ok (.ifCond .ne 80, 3) := by decide +kernel
theorem dX3_work_59 : decode cX3_work 59 = .ok (.aload_n 0, 1) := by decide +kernel
theorem dX3_work_60 : decode cX3_work 60 = .ok (.iconst (-1), 1) := by decide +kernel
theorem dX3_work_61 : decode cX3_work 61 = .ok (.putfield 85, 3) := by decide +kernel
theorem dX3_work_64 : decode cX3_work 64 = .ok (.aload_n 0, 1) := by decide +kernel
theorem dX3_work_65 : decode cX3_work 65 = .ok (.getfield 31, 3) := by decide +kernel
theorem dX3_work_68 : decode cX3_work 68 = .ok (.iload_n 2, 1) := by decide +kernel
theorem dX3_work_69 : decode cX3_work 69 = .ok (.dup2, 1) := by decide +kernel
theorem dX3_work_70 : decode cX3_work 70 = .ok (.iaload, 1) := by decide +kernel
theorem dX3_work_71 : decode cX3_work 71 = .ok (.iconst 1, 1) := by decide +kernel
theorem dX3_work_72 : decode cX3_work 72 = .ok (.iadd, 1) := by decide +kernel
theorem dX3_work_73 : decode cX3_work 73 = .ok (.iastore, 1) := by decide +kernel
theorem dX3_work_74 : decode cX3_work 74 = .ok (.aload_n 0, 1) := by decide +kernel
theorem dX3_work_75 : decode cX3_work 75 = .ok (.getfield 31, 3) := by decide +kernel
theorem dX3_work_78 : decode cX3_work 78 = .ok (.iload_n 2, 1) := by decide +kernel
theorem dX3_work_79 : decode cX3_work 79 = .ok (.iaload, 1) := by decide +kernel
theorem dX3_work_80 : decode cX3_work 80 = .ok (.aload_n 0, 1) := by decide +kernel
theorem dX3_work_81 : decode cX3_work 81 = .ok (.getfield 19, 3) := by decide +kernel
theorem dX3_work_84 : decode cX3_work 84 = .ok (.iload_n 2, 1) := by decide +kernel
theorem dX3_work_85 : decode cX3_work 85 = .ok (.iaload, 1) := by decide +kernel
theorem dX3_work_86 : decode cX3_work 86 = .ok (.if_icmp .ne 14, 3) := by decide +kernel
theorem dX3_work_89 : decode cX3_work 89 = .ok (.aload_n 0, 1) := by decide +kernel
theorem dX3_work_90 : decode cX3_work 90 = .ok (.iload_n 2, 1) := by decide +kernel
theorem dX3_work_91 : decode cX3_work 91 = .ok (.iload_n 1, 1) := by decide +kernel
theorem dX3_work_92 : decode cX3_work 92 = .ok (.iconst 1, 1) := by decide +kernel
theorem dX3_work_93 : decode cX3_work 93 = .ok (.iadd, 1) := by decide +kernel
theorem dX3_work_94 : decode cX3_work 94 = .ok (.invokevirtual 103, 3) := by decide +kernel
theorem dX3_work_97 : decode cX3_work 97 = .ok (.goto 150, 3) := by decide +kernel
theorem dX3_work_100 : decode cX3_work 100 = .ok (.aload_n 0, 1) := by decide +kernel
theorem dX3_work_101 : decode cX3_work 101 = .ok (.getfield 25, 3) := by decide +kernel
theorem dX3_work_104 : decode cX3_work 104 = .ok (.iload_n 2, 1) := by decide +kernel
theorem dX3_work_105 : decode cX3_work 105 = .ok (.iconst 3, 1) := by decide +kernel
theorem dX3_work_106 : decode cX3_work 106 = .ok (.iastore, 1) := by decide +kernel
theorem dX3_work_107 : decode cX3_work 107 = .ok (.aload_n 0, 1) := by decide +kernel
theorem dX3_work_108 : decode cX3_work 108 = .ok (.getfield 47, 3) := by decide +kernel
theorem dX3_work_111 : decode cX3_work 111 = .ok (.iload_n 2, 1) := by decide +kernel
theorem dX3_work_112 : decode cX3_work 112 = .ok (.iload_n 1, 1) := by decide +kernel
theorem dX3_work_113 : decode cX3_work 113 = .ok (.iconst 1, 1) := by decide +kernel
theorem dX3_work_114 : decode cX3_work 114 = .ok (.iadd, 1) := by decide +kernel
theorem dX3_work_115 : decode cX3_work 115 = .ok (.aload_n 0, 1) := by decide +kernel
theorem dX3_work_116 : decode cX3_work 116 = .ok (.getfield 22, 3) := by decide +kernel
theorem dX3_work_119 : decode cX3_work 119 = .ok (.bipush 12, 2) := by decide +kernel
theorem dX3_work_121 : decode cX3_work 121 = .ok (.iload_n 2, 1) := by decide +kernel
theorem dX3_work_122 : decode cX3_work 122 = .ok (.imul, 1) := by decide +kernel
theorem dX3_work_123 : decode cX3_work 123 = .ok (.aload_n 0, 1) := by decide +kernel
theorem dX3_work_124 : decode cX3_work 124 = .ok (.getfield 31, 3) := by decide +kernel
theorem dX3_work_127 : decode cX3_work 127 = .ok (.iload_n 2, 1) := by decide +kernel
theorem dX3_work_128 : decode cX3_work 128 = .ok (.iaload, 1) := by decide +kernel
theorem dX3_work_129 : decode cX3_work 129 = .ok (.iadd, 1) := by decide +kernel
theorem dX3_work_130 : decode cX3_work 130 = .ok (.iaload, 1) := by decide +kernel
theorem dX3_work_131 : decode cX3_work 131 = .ok (.iadd, 1) := by decide +kernel
theorem dX3_work_132 : decode cX3_work 132 = .ok (.iastore, 1) := by decide +kernel
theorem dX3_work_133 : decode cX3_work 133 = .ok (.goto 114, 3) := by decide +kernel
theorem dX3_work_136 : decode cX3_work 136 = .ok (.aload_n 0, 1) := by decide +kernel
theorem dX3_work_137 : decode cX3_work 137 = .ok (.getfield 40, 3) := by decide +kernel
theorem dX3_work_140 : decode cX3_work 140 = .ok (.iload_n 2, 1) := by decide +kernel
theorem dX3_work_141 : decode cX3_work 141 = .ok (.iaload, 1) := by decide +kernel
theorem dX3_work_142 : decode cX3_work 142 = .ok (.ifCond .gt 80, 3) := by decide +kernel
theorem dX3_work_145 : decode cX3_work 145 = .ok (.aload_n 0, 1) := by decide +kernel
theorem dX3_work_146 : decode cX3_work 146 = .ok (.iconst (-1), 1) := by decide +kernel
theorem dX3_work_147 : decode cX3_work 147 = .ok (.putfield 85, 3) := by decide +kernel
theorem dX3_work_150 : decode cX3_work 150 = .ok (.aload_n 0, 1) := by decide +kernel
theorem dX3_work_151 : decode cX3_work 151 = .ok (.getfield 28, 3) := by decide +kernel
theorem dX3_work_154 : decode cX3_work 154 = .ok (.iload_n 2, 1) := by decide +kernel
theorem dX3_work_155 : decode cX3_work 155 = .ok (.iaload, 1) := by decide +kernel
theorem dX3_work_156 : decode cX3_work 156 = .ok (.aload_n 0, 1) := by decide +kernel
theorem dX3_work_157 : decode cX3_work 157 = .ok (.getfield 73, 3) := by decide +kernel
theorem dX3_work_160 : decode cX3_work 160 = .ok (.iconst 1, 1) := by decide +kernel
theorem dX3_work_161 : decode cX3_work 161 = .ok (.isub, 1) := by decide +kernel
theorem dX3_work_162 : decode cX3_work 162 = .ok (.if_icmp .ge 29, 3) := by decide +kernel
theorem dX3_work_165 : decode cX3_work 165 = .ok (.aload_n 0, 1) := by decide +kernel
theorem dX3_work_166 : decode cX3_work 166 = .ok (.getfield 28, 3) := by decide +kernel
theorem dX3_work_169 : decode cX3_work 169 = .ok (.iload_n 2, 1) := by decide +kernel
theorem dX3_work_170 : decode cX3_work 170 = .ok (.dup2, 1) := by decide +kernel
theorem dX3_work_171 : decode cX3_work 171 = .ok (.iaload, 1) := by decide +kernel
theorem dX3_work_172 : decode cX3_work 172 = .ok (.iconst 1, 1) := by decide +kernel
theorem dX3_work_173 : decode cX3_work 173 = .ok (.iadd, 1) := by decide +kernel
theorem dX3_work_174 : decode cX3_work 174 = .ok (.iastore, 1) := by decide +kernel
theorem dX3_work_175 : decode cX3_work 175 = .ok (.aload_n 0, 1) := by decide +kernel
theorem dX3_work_176 : decode cX3_work 176 = .ok (.getfield 50, 3) := by decide +kernel
theorem dX3_work_179 : decode cX3_work 179 = .ok (.bipush 10, 2) := by decide +kernel
theorem dX3_work_181 : decode cX3_work 181 = .ok (.iload_n 2, 1) := by decide +kernel
theorem dX3_work_182 : decode cX3_work 182 = .ok (.imul, 1) := by decide +kernel
theorem dX3_work_183 : decode cX3_work 183 = .ok (.bipush 8, 2) := by decide +kernel
theorem dX3_work_185 : decode cX3_work 185 = .ok (.iadd, 1) := by decide +kernel
theorem dX3_work_186 : decode cX3_work 186 = .ok (.dup2, 1) := by decide +kernel
theorem dX3_work_187 : decode cX3_work 187 = .ok (.iaload, 1) := by decide +kernel
theorem dX3_work_188 : decode cX3_work 188 = .ok (.iconst 1, 1) := by decide +kernel
theorem dX3_work_189 : decode cX3_work 189 = .ok (.iadd, 1) := by decide +kernel
theorem dX3_work_190 : decode cX3_work 190 = .ok (.iastore, 1) := by decide +kernel
theorem dX3_work_191 : decode cX3_work 191 = .ok (.aload_n 0, 1) := by decide +kernel
theorem dX3_work_192 : decode cX3_work 192 = .ok (.getfield 40, 3) := by decide +kernel
theorem dX3_work_195 : decode cX3_work 195 = .ok (.iload_n 2, 1) := by decide +kernel
theorem dX3_work_196 : decode cX3_work 196 = .ok (.aload_n 0, 1) := by decide +kernel
theorem dX3_work_197 : decode cX3_work 197 = .ok (.getfield 13, 3) := by decide +kernel
theorem dX3_work_200 : decode cX3_work 200 = .ok (.aload_n 0, 1) := by decide +kernel
theorem dX3_work_201 : decode cX3_work 201 = .ok (.getfield 28, 3) := by decide +kernel
theorem dX3_work_204 : decode cX3_work 204 = .ok (.iload_n 2, 1) := by decide +kernel
theorem dX3_work_205 : decode cX3_work 205 = .ok (.iaload, 1) := by decide +kernel
theorem dX3_work_206 : decode cX3_work 206 = .ok (.iaload, 1) := by decide +kernel
theorem dX3_work_207 : decode cX3_work 207 = .ok (.iastore, 1) := by decide +kernel
theorem dX3_work_208 : decode cX3_work 208 = .ok (.aload_n 0, 1) := by decide +kernel
theorem dX3_work_209 : decode cX3_work 209 = .ok (.aload_n 0, 1) := by decide +kernel
theorem dX3_work_210 : decode cX3_work 210 = .ok (.getfield 28, 3) := by decide +kernel
theorem dX3_work_213 : decode cX3_work 213 = .ok (.iload_n 2, 1) := by decide +kernel
theorem dX3_work_214 : decode cX3_work 214 = .ok (.iaload, 1) := by decide +kernel
theorem dX3_work_215 : decode cX3_work 215 = .ok (.iload_n 2, 1) := by decide +kernel
theorem dX3_work_216 : decode cX3_work 216 = .ok (.invokevirtual 99, 3) := by decide +kernel
theorem dX3_work_219 : decode cX3_work 219 = .ok (.goto 28, 3) := by decide +kernel
theorem dX3_work_222 : decode cX3_work 222 = .ok (.aload_n 0, 1) := by decide +kernel
theorem dX3_work_223 : decode cX3_work 223 = .ok (.getfield 37, 3) := by decide +kernel
theorem dX3_work_226 : decode cX3_work 226 = .ok (.iload_n 2, 1) := by decide +kernel
theorem dX3_work_227 : decode cX3_work 227 = .ok (.iaload, 1) := by decide +kernel
theorem dX3_work_228 : decode cX3_work 228 = .ok (.ifCond .ne 19, 3) := by decide +kernel
theorem dX3_work_231 : decode cX3_work 231 = .ok (.aload_n 0, 1) := by decide +kernel
theorem dX3_work_232 : decode cX3_work 232 = .ok (.iconst (-1), 1) := by decide +kernel
theorem dX3_work_233 : decode cX3_work 233 = .ok (.putfield 85, 3) := by decide +kernel
theorem dX3_work_236 : decode cX3_work 236 = .ok (.aload_n 0, 1) := by decide +kernel
theorem dX3_work_237 : decode cX3_work 237 = .ok (.aload_n 0, 1) := by decide +kernel
theorem dX3_work_238 : decode cX3_work 238 = .ok (.getfield 28, 3) := by decide +kernel
theorem dX3_work_241 : decode cX3_work 241 = .ok (.iload_n 2, 1) := by decide +kernel
theorem dX3_work_242 : decode cX3_work 242 = .ok (.iaload, 1) := by decide +kernel
theorem dX3_work_243 : decode cX3_work 243 = .ok (.iload_n 2, 1) := by decide +kernel
theorem dX3_work_244 : decode cX3_work 244 = .ok (.invokevirtual 99, 3) := by decide +kernel
theorem dX3_work_247 : decode cX3_work 247 = .ok (.return_, 1) := by decide +kernel
theorem dX3_count_0 : decode cX3_count 0 = .ok (.iconst 0, 1) := by decide +kernel
theorem dX3_count_1 : decode cX3_count 1 = .ok (.istore_n 1, 1) := by decide +kernel
theorem dX3_count_2 : decode cX3_count 2 = .ok (.iload_n 1, 1) := by decide +kernel
theorem dX3_count_3 : decode cX3_count 3 = .ok (.aload_n 0, 1) := by decide +kernel
theorem dX3_count_4 : decode cX3_count 4 = .ok (.getfield 76, 3) := by decide +kernel
theorem dX3_count_7 : decode cX3_count 7 = .ok (.if_icmp .ge 62, 3) := by decide +kernel
theorem dX3_count_10 : decode cX3_count 10 = .ok (.aload_n 0, 1) := by decide +kernel
theorem dX3_count_11 : decode cX3_count 11 = .ok (.getfield 25, 3) := by decide +kernel
theorem dX3_count_14 : decode cX3_count 14 = .ok (.iload_n 1, 1) := by decide +kernel
theorem dX3_count_15 : decode cX3_count 15 = .ok (.iaload, 1) := by decide +kernel
theorem dX3_count_16 : decode cX3_count 16 = .ok (.iconst 1, 1) := by decide +kernel
theorem dX3_count_17 : decode cX3_count 17 = .ok (.if_icmp .ne 21, 3) := by decide +kernel
theorem dX3_count_20 : decode cX3_count 20 = .ok (.aload_n 0, 1) := by decide +kernel
theorem dX3_count_21 : decode cX3_count 21 = .ok (.getfield 50, 3) := by decide +kernel
theorem dX3_count_24 : decode cX3_count 24 = .ok (.bipush 10, 2) := by decide +kernel
theorem dX3_count_26 : decode cX3_count 26 = .ok (.iload_n 1, 1) := by decide +kernel
theorem dX3_count_27 : decode cX3_count 27 = .ok (.imul, 1) := by decide +kernel
theorem dX3_count_28 : decode cX3_count 28 = .ok (.iconst 3, 1) := by decide +kernel
theorem dX3_count_29 : decode cX3_count 29 = .ok (.iadd, 1) := by decide +kernel
theorem dX3_count_30 : decode cX3_count 30 = .ok (.dup2, 1) := by decide +kernel
theorem dX3_count_31 : decode cX3_count 31 = .ok (.iaload, 1) := by decide +kernel
theorem dX3_count_32 : decode cX3_count 32 = .ok (.iconst 1, 1) := by decide +kernel
theorem dX3_count_33 : decode cX3_count 33 = .ok (.iadd, 1) := by decide +kernel
theorem dX3_count_34 : decode cX3_count 34 = .ok (.iastore, 1) := by decide +kernel
theorem dX3_count_35 : decode cX3_count 35 = .ok (.goto 28, 3) := by decide +kernel
theorem dX3_count_38 : decode cX3_count 38 = .ok (.aload_n 0, 1) := by decide +kernel
theorem dX3_count_39 : decode cX3_count 39 = .ok (.getfield 25, 3) := by decide +kernel
theorem dX3_count_42 : decode cX3_count 42 = .ok (.iload_n 1, 1) := by decide +kernel
theorem dX3_count_43 : decode cX3_count 43 = .ok (.iaload, 1) := by decide +kernel
theorem dX3_count_44 : decode cX3_count 44 = .ok (.iconst 3, 1) := by decide +kernel
theorem dX3_count_45 : decode cX3_count 45 = .ok (.if_icmp .ne 18, 3) := by decide +kernel
theorem dX3_count_48 : decode cX3_count 48 = .ok (.aload_n 0, 1) := by decide +kernel
theorem dX3_count_49 : decode cX3_count 49 = .ok (.getfield 50, 3) := by decide +kernel
theorem dX3_count_52 : decode cX3_count 52 = .ok (.bipush 10, 2) := by decide +kernel
theorem dX3_count_54 : decode cX3_count 54 = .ok (.iload_n 1, 1) := by decide +kernel
theorem dX3_count_55 : decode cX3_count 55 = .ok (.imul, 1) := by decide +kernel
theorem dX3_count_56 : decode cX3_count 56 = .ok (.iconst 4, 1) := by decide +kernel
theorem dX3_count_57 : decode cX3_count 57 = .ok (.iadd, 1) := by decide +kernel
theorem dX3_count_58 : decode cX3_count 58 = .ok (.dup2, 1) := by decide +kernel
theorem dX3_count_59 : decode cX3_count 59 = .ok (.iaload, 1) := by decide +kernel
theorem dX3_count_60 : decode cX3_count 60 = .ok (.iconst 1, 1) := by decide +kernel
theorem dX3_count_61 : decode cX3_count 61 = .ok (.iadd, 1) := by decide +kernel
theorem dX3_count_62 : decode cX3_count 62 = .ok (.iastore, 1) := by decide +kernel
theorem dX3_count_63 : decode cX3_count 63 = .ok (.iinc 1 1, 3) := by decide +kernel
theorem dX3_count_66 : decode cX3_count 66 = .ok (.goto (-64), 3) := by decide +kernel
theorem dX3_count_69 : decode cX3_count 69 = .ok (.return_, 1) := by decide +kernel
set_option maxRecDepth 20000 in
theorem ggX3_run_X3_allUp : GoodIn wsX3_run wsX3_allUp := goodIn_r _ [11, 6, 12, 13, 14, 15, 16, 17, 18, 19, 20, 21, 5, 22, 23, 24, 10, 25, 26, 27, 28, 29, 30, 71, 72, 73, 74, 75, 76, 77, 78, 79, 80, 81, 82, 83, 84, 85, 86, 87, 88, 89, 90, 91, 92, 93, 94] (by decide +kernel) (by decide +kernel)
set_option maxRecDepth 20000 in
theorem gX3_run_X3_allUp : GoodIn wsX3_run (wsV RX3 114 RX3 yX3_allUp wsX3_allUp) := goodIn_app (goodIn_of _ (by decide +kernel)) ggX3_run_X3_allUp
set_option maxRecDepth 20000 in
theorem ggX3_run_X3_come : GoodIn wsX3_run wsX3_come := goodIn_r _ [34, 14, 35, 36, 16, 17, 18, 37, 38, 39, 40, 41, 10, 42, 15, 43, 6, 27, 28, 29, 30, 26, 13, 71, 72, 73, 74, 75, 76, 77, 78, 79, 80, 81, 82, 83, 84, 85, 86, 87, 88, 89, 90, 91, 92, 93, 94] (by decide +kernel) (by decide +kernel)
set_option maxRecDepth 20000 in
theorem gX3_run_X3_come : GoodIn wsX3_run (wsV RX3 117 RX3 yX3_come wsX3_come) := goodIn_app (goodIn_of _ (by decide +kernel)) ggX3_run_X3_come
set_option maxRecDepth 20000 in
theorem ggX3_run_X3_comeBack : GoodIn wsX3_run wsX3_comeBack := goodIn_r _ [47, 14, 15, 48, 49, 36, 37, 38, 16, 39, 40, 41, 10, 42, 43, 6, 27, 28, 29, 30, 26, 13, 71, 72, 73, 74, 75, 76, 77, 78, 79, 80, 81, 82, 83, 84, 85, 86, 87, 88, 89, 90, 91, 92, 93, 94] (by decide +kernel) (by decide +kernel)
set_option maxRecDepth 20000 in
theorem gX3_run_X3_comeBack : GoodIn wsX3_run (wsV RX3 120 RX3 yX3_comeBack wsX3_comeBack) := goodIn_app (goodIn_of _ (by decide +kernel)) ggX3_run_X3_comeBack
set_option maxRecDepth 20000 in
theorem ggX3_run_X3_choose : GoodIn wsX3_run wsX3_choose := goodIn_r _ [53, 5, 16, 19, 43, 15, 20, 21, 6, 54, 55, 56, 57, 10, 58, 12, 13, 59, 60, 61, 62, 26, 22, 23, 24, 25, 71, 72, 73, 74, 75, 76, 77, 78, 79, 80, 81, 82, 83, 84, 85, 86, 87, 88, 89, 90, 91, 92, 93, 94] (by decide +kernel) (by decide +kernel)
set_option maxRecDepth 20000 in
theorem gX3_run_X3_choose : GoodIn wsX3_run (wsV RX3 123 RX3 yX3_choose wsX3_choose) := goodIn_app (goodIn_of _ (by decide +kernel)) ggX3_run_X3_choose
set_option maxRecDepth 20000 in
theorem ggX3_run_X3_count : GoodIn wsX3_run wsX3_count := goodIn_r _ [66, 14, 15, 43, 71, 72, 73, 74, 75, 76, 77, 78, 79, 80, 81, 82, 83, 84, 85, 86, 87, 88, 89, 90, 91, 92, 93, 94] (by decide +kernel) (by decide +kernel)
set_option maxRecDepth 20000 in
theorem gX3_run_X3_count : GoodIn wsX3_run (wsV RX3 126 RX3 yX3_count wsX3_count) := goodIn_app (goodIn_of _ (by decide +kernel)) ggX3_run_X3_count
set_option maxRecDepth 20000 in
theorem ggX3_run_X3_work : GoodIn wsX3_run wsX3_work := goodIn_r _ [70, 5, 43, 37, 20, 17, 49, 36, 15, 48, 38, 16, 12, 18, 39, 40, 41, 10, 42, 6, 27, 28, 29, 30, 26, 13, 71, 72, 73, 74, 75, 76, 77, 78, 79, 80, 81, 82, 83, 84, 85, 86, 87, 88, 89, 90, 91, 92, 93, 94] (by decide +kernel) (by decide +kernel)
set_option maxRecDepth 20000 in
theorem gX3_run_X3_work : GoodIn wsX3_run (wsV RX3 129 RX3 yX3_work wsX3_work) := goodIn_app (goodIn_of _ (by decide +kernel)) ggX3_run_X3_work
theorem dX3_run_0 : decode cX3_run 0 = .ok (.aload_n 0, 1) := by decide +kernel
theorem dX3_run_1 : decode cX3_run 1 = .ok (.iload_n 1, 1) := by decide +kernel
theorem dX3_run_2 : decode cX3_run 2 = .ok (.ifCond .lt 21, 3) := by decide +kernel
theorem dX3_run_5 : decode cX3_run 5 = .ok (.iload_n 1, 1) := by decide +kernel
theorem dX3_run_6 : decode cX3_run 6 = .ok (.sipush 30000, 3) := by decide +kernel
theorem dX3_run_9 : decode cX3_run 9 = .ok (.if_icmp .gt 14, 3) := by decide +kernel
theorem dX3_run_12 : decode cX3_run 12 = .ok (.aload_n 0, 1) := by decide +kernel
theorem dX3_run_13 : decode cX3_run 13 = .ok (.getfield 82, 3) := by decide +kernel
theorem dX3_run_16 : decode cX3_run 16 = .ok (.iload_n 1, 1) := by decide +kernel
theorem dX3_run_17 : decode cX3_run 17 = .ok (.iadd, 1) := by decide +kernel
theorem dX3_run_18 : decode cX3_run 18 = .ok (.ldc 113, 2) := by decide +kernel
theorem dX3_run_20 : decode cX3_run 20 = .ok (.if_icmp .le 7, 3) := by decide +kernel
theorem dX3_run_23 : decode cX3_run 23 = .ok (.iconst 1, 1) := by decide +kernel
theorem dX3_run_24 : decode cX3_run 24 = .ok (.goto 4, 3) := by decide +kernel
theorem dX3_run_27 : decode cX3_run 27 = .ok (.iconst 0, 1) := by decide +kernel
theorem dX3_run_28 : decode cX3_run 28 = .ok (.putfield 69, 3) := by decide +kernel
theorem dX3_run_31 : decode cX3_run 31 = .ok (.iconst 0, 1) := by decide +kernel
theorem dX3_run_32 : decode cX3_run 32 = .ok (.istore_n 2, 1) := by decide +kernel
theorem dX3_run_33 : decode cX3_run 33 = .ok (.iconst 0, 1) := by decide +kernel
theorem dX3_run_34 : decode cX3_run 34 = .ok (.istore_n 3, 1) := by decide +kernel
theorem dX3_run_35 : decode cX3_run 35 = .ok (.iload_n 3, 1) := by decide +kernel
theorem dX3_run_36 : decode cX3_run 36 = .ok (.iload_n 1, 1) := by decide +kernel
theorem dX3_run_37 : decode cX3_run 37 = .ok (.if_icmp .ge 109, 3) := by decide +kernel
theorem dX3_run_40 : decode cX3_run 40 = .ok (.aload_n 0, 1) := by decide +kernel
theorem dX3_run_41 : decode cX3_run 41 = .ok (.getfield 69, 3) := by decide +kernel
theorem dX3_run_44 : decode cX3_run 44 = .ok (.ifCond .ne 102, 3) := by decide +kernel
theorem dX3_run_47 : decode cX3_run 47 = .ok (.aload_n 0, 1) := by decide +kernel
theorem dX3_run_48 : decode cX3_run 48 = .ok (.getfield 82, 3) := by decide +kernel
theorem dX3_run_51 : decode cX3_run 51 = .ok (.istore 4, 2) := by decide +kernel
theorem dX3_run_53 : decode cX3_run 53 = .ok (.aload_n 0, 1) := by decide +kernel
theorem dX3_run_54 : decode cX3_run 54 = .ok (.getfield 88, 3) := by decide +kernel
theorem dX3_run_57 : decode cX3_run 57 = .ok (.ifCond .le 22, 3) := by decide +kernel
theorem dX3_run_60 : decode cX3_run 60 = .ok (.iload 4, 2) := by decide +kernel
theorem dX3_run_62 : decode cX3_run 62 = .ok (.ifCond .le 17, 3) := by decide +kernel
theorem dX3_run_65 : decode cX3_run 65 = .ok (.iload 4, 2) := by decide +kernel
theorem dX3_run_67 : decode cX3_run 67 = .ok (.aload_n 0, 1) := by decide +kernel
theorem dX3_run_68 : decode cX3_run 68 = .ok (.getfield 88, 3) := by decide +kernel
theorem dX3_run_71 : decode cX3_run 71 = .ok (.irem, 1) := by decide +kernel
theorem dX3_run_72 : decode cX3_run 72 = .ok (.ifCond .ne 7, 3) := by decide +kernel
theorem dX3_run_75 : decode cX3_run 75 = .ok (.aload_n 0, 1) := by decide +kernel
theorem dX3_run_76 : decode cX3_run 76 = .ok (.invokevirtual 114, 3) := by decide +kernel
theorem dX3_run_79 : decode cX3_run 79 = .ok (.aload_n 0, 1) := by decide +kernel
theorem dX3_run_80 : decode cX3_run 80 = .ok (.iload 4, 2) := by decide +kernel
theorem dX3_run_82 : decode cX3_run 82 = .ok (.invokevirtual 117, 3) := by decide +kernel
theorem dX3_run_85 : decode cX3_run 85 = .ok (.aload_n 0, 1) := by decide +kernel
theorem dX3_run_86 : decode cX3_run 86 = .ok (.iload 4, 2) := by decide +kernel
theorem dX3_run_88 : decode cX3_run 88 = .ok (.invokevirtual 120, 3) := by decide +kernel
theorem dX3_run_91 : decode cX3_run 91 = .ok (.aload_n 0, 1) := by decide +kernel
theorem dX3_run_92 : decode cX3_run 92 = .ok (.iload 4, 2) := by decide +kernel
theorem dX3_run_94 : decode cX3_run 94 = .ok (.invokevirtual 123, 3) := by decide +kernel
theorem dX3_run_97 : decode cX3_run 97 = .ok (.aload_n 0, 1) := by decide +kernel
theorem dX3_run_98 : decode cX3_run 98 = .ok (.invokevirtual 126, 3) := by decide +kernel
theorem dX3_run_101 : decode cX3_run 101 = .ok (.aload_n 0, 1) := by decide +kernel
theorem dX3_run_102 : decode cX3_run 102 = .ok (.getfield 85, 3) := by decide +kernel
theorem dX3_run_105 : decode cX3_run 105 = .ok (.ifCond .lt 12, 3) := by decide +kernel
theorem dX3_run_108 : decode cX3_run 108 = .ok (.aload_n 0, 1) := by decide +kernel
theorem dX3_run_109 : decode cX3_run 109 = .ok (.iload 4, 2) := by decide +kernel
theorem dX3_run_111 : decode cX3_run 111 = .ok (.invokevirtual 129, 3) := by decide +kernel
theorem dX3_run_114 : decode cX3_run 114 = .ok (.goto 16, 3) := by decide +kernel
theorem dX3_run_117 : decode cX3_run 117 = .ok (.iinc 2 1, 3) := by decide +kernel
theorem dX3_run_120 : decode cX3_run 120 = .ok (.aload_n 0, 1) := by decide +kernel
theorem dX3_run_121 : decode cX3_run 121 = .ok (.getfield 59, 3) := by decide +kernel
theorem dX3_run_124 : decode cX3_run 124 = .ok (.iconst 1, 1) := by decide +kernel
theorem dX3_run_125 : decode cX3_run 125 = .ok (.dup2, 1) := by decide +kernel
theorem dX3_run_126 : decode cX3_run 126 = .ok (.iaload, 1) := by decide +kernel
theorem dX3_run_127 : decode cX3_run 127 = .ok (.iconst 1, 1) := by decide +kernel
theorem dX3_run_128 : decode cX3_run 128 = .ok (.iadd, 1) := by decide +kernel
theorem dX3_run_129 : decode cX3_run 129 = .ok (.iastore, 1) := by decide +kernel
theorem dX3_run_130 : decode cX3_run 130 = .ok (.aload_n 0, 1) := by decide +kernel
theorem dX3_run_131 : decode cX3_run 131 = .ok (.dup, 1) := by decide +kernel
theorem dX3_run_132 : decode cX3_run 132 = .ok (.getfield 82, 3) := by decide +kernel
theorem dX3_run_135 : decode cX3_run 135 = .ok (.iconst 1, 1) := by decide +kernel
theorem dX3_run_136 : decode cX3_run 136 = .ok (.iadd, 1) := by decide +kernel
theorem dX3_run_137 : decode cX3_run 137 = .ok (.putfield 82, 3) := by decide +kernel
theorem dX3_run_140 : decode cX3_run 140 = .ok (.iinc 3 1, 3) := by decide +kernel
theorem dX3_run_143 : decode cX3_run 143 = .ok (.goto (-108), 3) := by decide +kernel
theorem dX3_run_146 : decode cX3_run 146 = .ok (.iload_n 2, 1) := by decide +kernel
theorem dX3_run_147 : decode cX3_run 147 = .ok (.ireturn, 1) := by decide +kernel
set_option maxRecDepth 20000 in
theorem ggX3_restart_X3_begin : GoodIn wsX3_restart wsX3_begin := goodIn_r _ [6, 7, 8, 9, 10, 11, 12, 13, 14, 15, 16, 17, 18, 19, 20, 21, 22, 23, 24, 25, 26, 27, 28, 29, 30, 31, 32, 33, 34, 35, 36, 37, 38, 39] (by decide +kernel) (by decide +kernel)
set_option maxRecDepth 20000 in
theorem gX3_restart_X3_begin : GoodIn wsX3_restart (wsV RX3 79 RX3 yX3_begin wsX3_begin) := goodIn_app (goodIn_of _ (by decide +kernel)) ggX3_restart_X3_begin
theorem dX3_restart_0 : decode cX3_restart 0 = .ok (.aload_n 0, 1) := by decide +kernel
theorem dX3_restart_1 : decode cX3_restart 1 = .ok (.iconst 0, 1) := by decide +kernel
theorem dX3_restart_2 : decode cX3_restart 2 = .ok (.putfield 69, 3) := by decide +kernel
theorem dX3_restart_5 : decode cX3_restart 5 = .ok (.aload_n 0, 1) := by decide +kernel
theorem dX3_restart_6 : decode cX3_restart 6 = .ok (.invokevirtual 79, 3) := by decide +kernel
theorem dX3_restart_9 : decode cX3_restart 9 = .ok (.return_, 1) := by decide +kernel
theorem dX3_time_0 : decode cX3_time 0 = .ok (.aload_n 0, 1) := by decide +kernel
theorem dX3_time_1 : decode cX3_time 1 = .ok (.iconst 0, 1) := by decide +kernel
theorem dX3_time_2 : decode cX3_time 2 = .ok (.putfield 69, 3) := by decide +kernel
theorem dX3_time_5 : decode cX3_time 5 = .ok (.aload_n 0, 1) := by decide +kernel
theorem dX3_time_6 : decode cX3_time 6 = .ok (.getfield 82, 3) := by decide +kernel
theorem dX3_time_9 : decode cX3_time 9 = .ok (.ireturn, 1) := by decide +kernel
set_option maxRecDepth 20000 in
theorem ggX3_told_X3_noProcess : GoodIn wsX3_told wsX3_noProcess := goodIn_r _ [9, 10, 11, 12, 13, 14, 15, 16, 17, 18, 19, 20, 21, 22, 23, 24, 25, 26, 27, 28, 29, 30, 31, 32, 33, 34] (by decide +kernel) (by decide +kernel)
set_option maxRecDepth 20000 in
theorem gX3_told_X3_noProcess : GoodIn wsX3_told (wsV RX3 91 RX3 yX3_noProcess wsX3_noProcess) := goodIn_app (goodIn_of _ (by decide +kernel)) ggX3_told_X3_noProcess
theorem dX3_told_0 : decode cX3_told 0 = .ok (.aload_n 0, 1) := by decide +kernel
theorem dX3_told_1 : decode cX3_told 1 = .ok (.aload_n 0, 1) := by decide +kernel
theorem dX3_told_2 : decode cX3_told 2 = .ok (.iload_n 1, 1) := by decide +kernel
theorem dX3_told_3 : decode cX3_told 3 = .ok (.invokevirtual 91, 3) := by decide +kernel
theorem dX3_told_6 : decode cX3_told 6 = .ok (.ifCond .eq 7, 3) := by decide +kernel
theorem dX3_told_9 : decode cX3_told 9 = .ok (.iconst 1, 1) := by decide +kernel
theorem dX3_told_10 : decode cX3_told 10 = .ok (.goto 18, 3) := by decide +kernel
theorem dX3_told_13 : decode cX3_told 13 = .ok (.iload_n 2, 1) := by decide +kernel
theorem dX3_told_14 : decode cX3_told 14 = .ok (.ifCond .lt 9, 3) := by decide +kernel
theorem dX3_told_17 : decode cX3_told 17 = .ok (.iload_n 2, 1) := by decide +kernel
theorem dX3_told_18 : decode cX3_told 18 = .ok (.bipush 9, 2) := by decide +kernel
theorem dX3_told_20 : decode cX3_told 20 = .ok (.if_icmp .le 7, 3) := by decide +kernel
theorem dX3_told_23 : decode cX3_told 23 = .ok (.iconst 2, 1) := by decide +kernel
theorem dX3_told_24 : decode cX3_told 24 = .ok (.goto 4, 3) := by decide +kernel
theorem dX3_told_27 : decode cX3_told 27 = .ok (.iconst 0, 1) := by decide +kernel
theorem dX3_told_28 : decode cX3_told 28 = .ok (.putfield 69, 3) := by decide +kernel
theorem dX3_told_31 : decode cX3_told 31 = .ok (.aload_n 0, 1) := by decide +kernel
theorem dX3_told_32 : decode cX3_told 32 = .ok (.getfield 69, 3) := by decide +kernel
theorem dX3_told_35 : decode cX3_told 35 = .ok (.ifCond .le 5, 3) := by decide +kernel
theorem dX3_told_38 : decode cX3_told 38 = .ok (.iconst 0, 1) := by decide +kernel
theorem dX3_told_39 : decode cX3_told 39 = .ok (.ireturn, 1) := by decide +kernel
theorem dX3_told_40 : decode cX3_told 40 = .ok (.iload_n 2, 1) := by decide +kernel
theorem dX3_told_41 : decode cX3_told 41 = .ok (.ifCond .ne 12, 3) := by decide +kernel
theorem dX3_told_44 : decode cX3_told 44 = .ok (.aload_n 0, 1) := by decide +kernel
theorem dX3_told_45 : decode cX3_told 45 = .ok (.getfield 25, 3) := by decide +kernel
theorem dX3_told_48 : decode cX3_told 48 = .ok (.iload_n 1, 1) := by decide +kernel
theorem dX3_told_49 : decode cX3_told 49 = .ok (.iaload, 1) := by decide +kernel
theorem dX3_told_50 : decode cX3_told 50 = .ok (.goto 28, 3) := by decide +kernel
theorem dX3_told_53 : decode cX3_told 53 = .ok (.iload_n 2, 1) := by decide +kernel
theorem dX3_told_54 : decode cX3_told 54 = .ok (.iconst 1, 1) := by decide +kernel
theorem dX3_told_55 : decode cX3_told 55 = .ok (.if_icmp .ne 12, 3) := by decide +kernel
theorem dX3_told_58 : decode cX3_told 58 = .ok (.aload_n 0, 1) := by decide +kernel
theorem dX3_told_59 : decode cX3_told 59 = .ok (.getfield 28, 3) := by decide +kernel
theorem dX3_told_62 : decode cX3_told 62 = .ok (.iload_n 1, 1) := by decide +kernel
theorem dX3_told_63 : decode cX3_told 63 = .ok (.iaload, 1) := by decide +kernel
theorem dX3_told_64 : decode cX3_told 64 = .ok (.goto 14, 3) := by decide +kernel
theorem dX3_told_67 : decode cX3_told 67 = .ok (.aload_n 0, 1) := by decide +kernel
theorem dX3_told_68 : decode cX3_told 68 = .ok (.getfield 50, 3) := by decide +kernel
theorem dX3_told_71 : decode cX3_told 71 = .ok (.bipush 10, 2) := by decide +kernel
theorem dX3_told_73 : decode cX3_told 73 = .ok (.iload_n 1, 1) := by decide +kernel
theorem dX3_told_74 : decode cX3_told 74 = .ok (.imul, 1) := by decide +kernel
theorem dX3_told_75 : decode cX3_told 75 = .ok (.iload_n 2, 1) := by decide +kernel
theorem dX3_told_76 : decode cX3_told 76 = .ok (.iadd, 1) := by decide +kernel
theorem dX3_told_77 : decode cX3_told 77 = .ok (.iaload, 1) := by decide +kernel
theorem dX3_told_78 : decode cX3_told 78 = .ok (.ireturn, 1) := by decide +kernel
theorem dX3_running_0 : decode cX3_running 0 = .ok (.aload_n 0, 1) := by decide +kernel
theorem dX3_running_1 : decode cX3_running 1 = .ok (.iconst 0, 1) := by decide +kernel
theorem dX3_running_2 : decode cX3_running 2 = .ok (.putfield 69, 3) := by decide +kernel
theorem dX3_running_5 : decode cX3_running 5 = .ok (.aload_n 0, 1) := by decide +kernel
theorem dX3_running_6 : decode cX3_running 6 = .ok (.getfield 85, 3) := by decide +kernel
theorem dX3_running_9 : decode cX3_running 9 = .ok (.ireturn, 1) := by decide +kernel
theorem dX3_queued_0 : decode cX3_queued 0 = .ok (.aload_n 0, 1) := by decide +kernel
theorem dX3_queued_1 : decode cX3_queued 1 = .ok (.iload_n 1, 1) := by decide +kernel
theorem dX3_queued_2 : decode cX3_queued 2 = .ok (.ifCond .lt 11, 3) := by decide +kernel
theorem dX3_queued_5 : decode cX3_queued 5 = .ok (.iload_n 1, 1) := by decide +kernel
theorem dX3_queued_6 : decode cX3_queued 6 = .ok (.aload_n 0, 1) := by decide +kernel
theorem dX3_queued_7 : decode cX3_queued 7 = .ok (.getfield 73, 3) := by decide +kernel
theorem dX3_queued_10 : decode cX3_queued 10 = .ok (.if_icmp .lt 7, 3) := by decide +kernel
theorem dX3_queued_13 : decode cX3_queued 13 = .ok (.iconst 1, 1) := by decide +kernel
theorem dX3_queued_14 : decode cX3_queued 14 = .ok (.goto 4, 3) := by decide +kernel
theorem dX3_queued_17 : decode cX3_queued 17 = .ok (.iconst 0, 1) := by decide +kernel
theorem dX3_queued_18 : decode cX3_queued 18 = .ok (.putfield 69, 3) := by decide +kernel
theorem dX3_queued_21 : decode cX3_queued 21 = .ok (.aload_n 0, 1) := by decide +kernel
theorem dX3_queued_22 : decode cX3_queued 22 = .ok (.getfield 69, 3) := by decide +kernel
theorem dX3_queued_25 : decode cX3_queued 25 = .ok (.ifCond .le 5, 3) := by decide +kernel
theorem dX3_queued_28 : decode cX3_queued 28 = .ok (.iconst 0, 1) := by decide +kernel
theorem dX3_queued_29 : decode cX3_queued 29 = .ok (.ireturn, 1) := by decide +kernel
theorem dX3_queued_30 : decode cX3_queued 30 = .ok (.iload_n 2, 1) := by decide +kernel
theorem dX3_queued_31 : decode cX3_queued 31 = .ok (.ifCond .lt 13, 3) := by decide +kernel
theorem dX3_queued_34 : decode cX3_queued 34 = .ok (.iload_n 2, 1) := by decide +kernel
theorem dX3_queued_35 : decode cX3_queued 35 = .ok (.aload_n 0, 1) := by decide +kernel
theorem dX3_queued_36 : decode cX3_queued 36 = .ok (.getfield 56, 3) := by decide +kernel
theorem dX3_queued_39 : decode cX3_queued 39 = .ok (.iload_n 1, 1) := by decide +kernel
theorem dX3_queued_40 : decode cX3_queued 40 = .ok (.iaload, 1) := by decide +kernel
theorem dX3_queued_41 : decode cX3_queued 41 = .ok (.if_icmp .lt 7, 3) := by decide +kernel
theorem dX3_queued_44 : decode cX3_queued 44 = .ok (.iconst (-1), 1) := by decide +kernel
theorem dX3_queued_45 : decode cX3_queued 45 = .ok (.goto 14, 3) := by decide +kernel
theorem dX3_queued_48 : decode cX3_queued 48 = .ok (.aload_n 0, 1) := by decide +kernel
theorem dX3_queued_49 : decode cX3_queued 49 = .ok (.getfield 53, 3) := by decide +kernel
theorem dX3_queued_52 : decode cX3_queued 52 = .ok (.bipush 16, 2) := by decide +kernel
theorem dX3_queued_54 : decode cX3_queued 54 = .ok (.iload_n 1, 1) := by decide +kernel
theorem dX3_queued_55 : decode cX3_queued 55 = .ok (.imul, 1) := by decide +kernel
theorem dX3_queued_56 : decode cX3_queued 56 = .ok (.iload_n 2, 1) := by decide +kernel
theorem dX3_queued_57 : decode cX3_queued 57 = .ok (.iadd, 1) := by decide +kernel
theorem dX3_queued_58 : decode cX3_queued 58 = .ok (.iaload, 1) := by decide +kernel
theorem dX3_queued_59 : decode cX3_queued 59 = .ok (.ireturn, 1) := by decide +kernel
theorem dX3_all_0 : decode cX3_all 0 = .ok (.aload_n 0, 1) := by decide +kernel
theorem dX3_all_1 : decode cX3_all 1 = .ok (.iload_n 1, 1) := by decide +kernel
theorem dX3_all_2 : decode cX3_all 2 = .ok (.ifCond .lt 8, 3) := by decide +kernel
theorem dX3_all_5 : decode cX3_all 5 = .ok (.iload_n 1, 1) := by decide +kernel
theorem dX3_all_6 : decode cX3_all 6 = .ok (.iconst 3, 1) := by decide +kernel
theorem dX3_all_7 : decode cX3_all 7 = .ok (.if_icmp .le 7, 3) := by decide +kernel
theorem dX3_all_10 : decode cX3_all 10 = .ok (.iconst 1, 1) := by decide +kernel
theorem dX3_all_11 : decode cX3_all 11 = .ok (.goto 4, 3) := by decide +kernel
theorem dX3_all_14 : decode cX3_all 14 = .ok (.iconst 0, 1) := by decide +kernel
theorem dX3_all_15 : decode cX3_all 15 = .ok (.putfield 69, 3) := by decide +kernel
theorem dX3_all_18 : decode cX3_all 18 = .ok (.aload_n 0, 1) := by decide +kernel
theorem dX3_all_19 : decode cX3_all 19 = .ok (.getfield 69, 3) := by decide +kernel
theorem dX3_all_22 : decode cX3_all 22 = .ok (.ifCond .le 7, 3) := by decide +kernel
theorem dX3_all_25 : decode cX3_all 25 = .ok (.iconst 0, 1) := by decide +kernel
theorem dX3_all_26 : decode cX3_all 26 = .ok (.goto 9, 3) := by decide +kernel
theorem dX3_all_29 : decode cX3_all 29 = .ok (.aload_n 0, 1) := by decide +kernel
theorem dX3_all_30 : decode cX3_all 30 = .ok (.getfield 59, 3) := by decide +kernel
theorem dX3_all_33 : decode cX3_all 33 = .ok (.iload_n 1, 1) := by decide +kernel
theorem dX3_all_34 : decode cX3_all 34 = .ok (.iaload, 1) := by decide +kernel
theorem dX3_all_35 : decode cX3_all 35 = .ok (.ireturn, 1) := by decide +kernel
theorem dX3_switched_0 : decode cX3_switched 0 = .ok (.aload_n 0, 1) := by decide +kernel
theorem dX3_switched_1 : decode cX3_switched 1 = .ok (.iload_n 1, 1) := by decide +kernel
theorem dX3_switched_2 : decode cX3_switched 2 = .ok (.ifCond .lt 20, 3) := by decide +kernel
theorem dX3_switched_5 : decode cX3_switched 5 = .ok (.iload_n 1, 1) := by decide +kernel
theorem dX3_switched_6 : decode cX3_switched 6 = .ok (.aload_n 0, 1) := by decide +kernel
theorem dX3_switched_7 : decode cX3_switched 7 = .ok (.getfield 59, 3) := by decide +kernel
theorem dX3_switched_10 : decode cX3_switched 10 = .ok (.iconst 0, 1) := by decide +kernel
theorem dX3_switched_11 : decode cX3_switched 11 = .ok (.iaload, 1) := by decide +kernel
theorem dX3_switched_12 : decode cX3_switched 12 = .ok (.if_icmp .ge 10, 3) := by decide +kernel
theorem dX3_switched_15 : decode cX3_switched 15 = .ok (.iload_n 1, 1) := by decide +kernel
theorem dX3_switched_16 : decode cX3_switched 16 = .ok (.sipush 400, 3) := by decide +kernel
theorem dX3_switched_19 : decode cX3_switched 19 = .ok (.if_icmp .lt 7, 3) := by decide +kernel
theorem dX3_switched_22 : decode cX3_switched 22 = .ok (.iconst 1, 1) := by decide +kernel
theorem dX3_switched_23 : decode cX3_switched 23 = .ok (.goto 4, 3) := by decide +kernel
theorem dX3_switched_26 : decode cX3_switched 26 = .ok (.iconst 0, 1) := by decide +kernel
theorem dX3_switched_27 : decode cX3_switched 27 = .ok (.putfield 69, 3) := by decide +kernel
theorem dX3_switched_30 : decode cX3_switched 30 = .ok (.aload_n 0, 1) := by decide +kernel
theorem dX3_switched_31 : decode cX3_switched 31 = .ok (.getfield 69, 3) := by decide +kernel
theorem dX3_switched_34 : decode cX3_switched 34 = .ok (.ifCond .le 7, 3) := by decide +kernel
theorem dX3_switched_37 : decode cX3_switched 37 = .ok (.iconst 0, 1) := by decide +kernel
theorem dX3_switched_38 : decode cX3_switched 38 = .ok (.goto 9, 3) := by decide +kernel
theorem dX3_switched_41 : decode cX3_switched 41 = .ok (.aload_n 0, 1) := by decide +kernel
theorem dX3_switched_42 : decode cX3_switched 42 = .ok (.getfield 62, 3) := by decide +kernel
theorem dX3_switched_45 : decode cX3_switched 45 = .ok (.iload_n 1, 1) := by decide +kernel
theorem dX3_switched_46 : decode cX3_switched 46 = .ok (.iaload, 1) := by decide +kernel
theorem dX3_switched_47 : decode cX3_switched 47 = .ok (.ireturn, 1) := by decide +kernel
theorem dJ9_min_7cf53_0 : decode cJ9_min_7cf53 0 = .ok (.iload_n 0, 1) := by decide +kernel
theorem dJ9_min_7cf53_1 : decode cJ9_min_7cf53 1 = .ok (.iload_n 1, 1) := by decide +kernel
theorem dJ9_min_7cf53_2 : decode cJ9_min_7cf53 2 = .ok (.if_icmp .gt 7, 3) := by decide +kernel
theorem dJ9_min_7cf53_5 : decode cJ9_min_7cf53 5 = .ok (.iload_n 0, 1) := by decide +kernel
theorem dJ9_min_7cf53_6 : decode cJ9_min_7cf53 6 = .ok (.goto 4, 3) := by decide +kernel
theorem dJ9_min_7cf53_9 : decode cJ9_min_7cf53 9 = .ok (.iload_n 1, 1) := by decide +kernel
theorem dJ9_min_7cf53_10 : decode cJ9_min_7cf53 10 = .ok (.ireturn, 1) := by decide +kernel
set_option maxRecDepth 20000 in
theorem ggL_levels_X2_levels : GoodIn wsL_levels wsX2_levels := goodIn_ca (goodIn_r _ [6, 7, 8, 9, 10, 11, 12, 13, 14, 5, 15, 16, 17, 18, 19, 20, 21, 22, 23, 24, 25, 26, 27, 28, 29, 30, 31, 32, 33, 34, 35, 36, 37, 38, 39, 40, 41, 42, 43, 44, 45, 46, 47, 48, 49, 50, 51, 52, 53, 54, 55, 56, 57, 58, 59, 60, 61, 62, 63, 64, 65, 66, 67, 68, 69, 70, 71, 72, 73, 74, 75, 76, 77, 78, 79, 80, 81] (by decide +kernel) (by decide +kernel)) (goodIn_sub (fun _ h => List.mem_cons_of_mem _ (List.mem_append_right _ h)) (by decide +kernel))
set_option maxRecDepth 20000 in
theorem gL_levels_X2_levels : GoodIn wsL_levels (wsV RL 7 RX2 yX2_levels wsX2_levels) := goodIn_app (goodIn_of _ (by decide +kernel)) ggL_levels_X2_levels
theorem dL_levels_0 : decode cL_levels 0 = .ok (.aload_n 0, 1) := by decide +kernel
theorem dL_levels_1 : decode cL_levels 1 = .ok (.iload_n 1, 1) := by decide +kernel
theorem dL_levels_2 : decode cL_levels 2 = .ok (.invokevirtual 7, 3) := by decide +kernel
theorem dL_levels_5 : decode cL_levels 5 = .ok (.goto 6, 3) := by decide +kernel
theorem dL_levels_8 : decode cL_levels 8 = .ok (.astore_n 2, 1) := by decide +kernel
theorem dL_levels_9 : decode cL_levels 9 = .ok (.iconst 1, 1) := by decide +kernel
theorem dL_levels_10 : decode cL_levels 10 = .ok (.ireturn, 1) := by decide +kernel
theorem dL_levels_11 : decode cL_levels 11 = .ok (.iconst 0, 1) := by decide +kernel
theorem dL_levels_12 : decode cL_levels 12 = .ok (.ireturn, 1) := by decide +kernel
set_option maxRecDepth 20000 in
theorem ggL_level_X2_level : GoodIn wsL_level wsX2_level := goodIn_ca (goodIn_ca (goodIn_ca (goodIn_r _ [8, 9, 10, 11, 12, 13, 14, 15, 16, 17, 18, 19, 7, 20, 21, 22, 23, 24, 25, 26, 27, 28, 29, 30, 31, 32, 33, 34, 35, 36, 37] (by decide +kernel) (by decide +kernel)) (goodIn_sub (fun _ h => List.mem_cons_of_mem _ (List.mem_append_left _ (List.mem_append_left _ (List.mem_append_right _ h)))) (by decide +kernel))) (goodIn_sub (fun _ h => List.mem_cons_of_mem _ (List.mem_append_left _ (List.mem_append_right _ h))) (by decide +kernel))) (goodIn_sub (fun _ h => List.mem_cons_of_mem _ (List.mem_append_right _ h)) (by decide +kernel))
set_option maxRecDepth 20000 in
theorem gL_level_X2_level : GoodIn wsL_level (wsV RL 15 RX2 yX2_level wsX2_level) := goodIn_app (goodIn_of _ (by decide +kernel)) ggL_level_X2_level
theorem dL_level_0 : decode cL_level 0 = .ok (.aload_n 0, 1) := by decide +kernel
theorem dL_level_1 : decode cL_level 1 = .ok (.iload_n 1, 1) := by decide +kernel
theorem dL_level_2 : decode cL_level 2 = .ok (.iload_n 2, 1) := by decide +kernel
theorem dL_level_3 : decode cL_level 3 = .ok (.iload_n 3, 1) := by decide +kernel
theorem dL_level_4 : decode cL_level 4 = .ok (.invokevirtual 15, 3) := by decide +kernel
theorem dL_level_7 : decode cL_level 7 = .ok (.goto 15, 3) := by decide +kernel
theorem dL_level_10 : decode cL_level 10 = .ok (.astore 4, 2) := by decide +kernel
theorem dL_level_12 : decode cL_level 12 = .ok (.iconst 1, 1) := by decide +kernel
theorem dL_level_13 : decode cL_level 13 = .ok (.ireturn, 1) := by decide +kernel
theorem dL_level_14 : decode cL_level 14 = .ok (.astore 4, 2) := by decide +kernel
theorem dL_level_16 : decode cL_level 16 = .ok (.iconst 2, 1) := by decide +kernel
theorem dL_level_17 : decode cL_level 17 = .ok (.ireturn, 1) := by decide +kernel
theorem dL_level_18 : decode cL_level 18 = .ok (.astore 4, 2) := by decide +kernel
theorem dL_level_20 : decode cL_level 20 = .ok (.iconst 3, 1) := by decide +kernel
theorem dL_level_21 : decode cL_level 21 = .ok (.ireturn, 1) := by decide +kernel
theorem dL_level_22 : decode cL_level 22 = .ok (.iconst 0, 1) := by decide +kernel
theorem dL_level_23 : decode cL_level 23 = .ok (.ireturn, 1) := by decide +kernel
set_option maxRecDepth 20000 in
theorem ggL_period_X2_period : GoodIn wsL_period wsX2_period := goodIn_ca (goodIn_ca (goodIn_r _ [7, 8, 9, 10, 11, 12, 13, 14, 15, 16, 17, 18, 19, 20, 21, 22, 23, 24, 25] (by decide +kernel) (by decide +kernel)) (goodIn_sub (fun _ h => List.mem_cons_of_mem _ (List.mem_append_left _ (List.mem_append_right _ h))) (by decide +kernel))) (goodIn_sub (fun _ h => List.mem_cons_of_mem _ (List.mem_append_right _ h)) (by decide +kernel))
set_option maxRecDepth 20000 in
theorem gL_period_X2_period : GoodIn wsL_period (wsV RL 23 RX2 yX2_period wsX2_period) := goodIn_app (goodIn_of _ (by decide +kernel)) ggL_period_X2_period
theorem dL_period_0 : decode cL_period 0 = .ok (.aload_n 0, 1) := by decide +kernel
theorem dL_period_1 : decode cL_period 1 = .ok (.iload_n 1, 1) := by decide +kernel
theorem dL_period_2 : decode cL_period 2 = .ok (.invokevirtual 23, 3) := by decide +kernel
theorem dL_period_5 : decode cL_period 5 = .ok (.goto 9, 3) := by decide +kernel
theorem dL_period_8 : decode cL_period 8 = .ok (.astore_n 2, 1) := by decide +kernel
theorem dL_period_9 : decode cL_period 9 = .ok (.iconst 1, 1) := by decide +kernel
theorem dL_period_10 : decode cL_period 10 = .ok (.ireturn, 1) := by decide +kernel
theorem dL_period_11 : decode cL_period 11 = .ok (.astore_n 2, 1) := by decide +kernel
theorem dL_period_12 : decode cL_period 12 = .ok (.iconst 2, 1) := by decide +kernel
theorem dL_period_13 : decode cL_period 13 = .ok (.ireturn, 1) := by decide +kernel
theorem dL_period_14 : decode cL_period 14 = .ok (.iconst 0, 1) := by decide +kernel
theorem dL_period_15 : decode cL_period 15 = .ok (.ireturn, 1) := by decide +kernel
set_option maxRecDepth 20000 in
theorem ggL_process_X2_process : GoodIn wsL_process wsX2_process := goodIn_ca (goodIn_ca (goodIn_r _ [7, 8, 9, 10, 11, 12, 13, 14, 15, 16, 17, 18, 19, 20, 21, 22, 23, 24, 25, 26, 27, 28, 29, 30, 31, 32, 33, 34, 35, 36, 37, 38, 39, 40, 41, 42, 43, 44, 45, 46, 47, 48, 49, 50, 51] (by decide +kernel) (by decide +kernel)) (goodIn_sub (fun _ h => List.mem_cons_of_mem _ (List.mem_append_left _ (List.mem_append_right _ h))) (by decide +kernel))) (goodIn_sub (fun _ h => List.mem_cons_of_mem _ (List.mem_append_right _ h)) (by decide +kernel))
set_option maxRecDepth 20000 in
theorem gL_process_X2_process : GoodIn wsL_process (wsV RL 26 RX2 yX2_process wsX2_process) := goodIn_app (goodIn_of _ (by decide +kernel)) ggL_process_X2_process
theorem dL_process_0 : decode cL_process 0 = .ok (.aload_n 2, 1) := by decide +kernel
theorem dL_process_1 : decode cL_process 1 = .ok (.iconst 0, 1) := by decide +kernel
theorem dL_process_2 : decode cL_process 2 = .ok (.aload_n 0, 1) := by decide +kernel
theorem dL_process_3 : decode cL_process 3 = .ok (.iload_n 1, 1) := by decide +kernel
theorem dL_process_4 : decode cL_process 4 = .ok (.invokevirtual 26, 3) := by decide +kernel
theorem dL_process_7 : decode cL_process 7 = .ok (.i2l, 1) := by decide +kernel
theorem dL_process_8 : decode cL_process 8 = .ok (.lastore, 1) := by decide +kernel
theorem dL_process_9 : decode cL_process 9 = .ok (.goto 9, 3) := by decide +kernel
theorem dL_process_12 : decode cL_process 12 = .ok (.astore_n 3, 1) := by decide +kernel
theorem dL_process_13 : decode cL_process 13 = .ok (.iconst 1, 1) := by decide +kernel
theorem dL_process_14 : decode cL_process 14 = .ok (.ireturn, 1) := by decide +kernel
theorem dL_process_15 : decode cL_process 15 = .ok (.astore_n 3, 1) := by decide +kernel
theorem dL_process_16 : decode cL_process 16 = .ok (.iconst 2, 1) := by decide +kernel
theorem dL_process_17 : decode cL_process 17 = .ok (.ireturn, 1) := by decide +kernel
theorem dL_process_18 : decode cL_process 18 = .ok (.iconst 0, 1) := by decide +kernel
theorem dL_process_19 : decode cL_process 19 = .ok (.ireturn, 1) := by decide +kernel
set_option maxRecDepth 20000 in
theorem ggL_burst_X2_burst : GoodIn wsL_burst wsX2_burst := goodIn_ca (goodIn_ca (goodIn_ca (goodIn_r _ [8, 9, 10, 11, 12, 13, 14, 15, 16, 17, 18, 19, 7, 20, 21, 22, 23, 24, 25, 26, 27, 28, 29, 30, 31, 32, 33, 34, 35, 36, 37, 38, 39, 40, 41, 42, 43, 44, 45, 46, 47, 48, 49, 50, 51, 52, 53, 54, 55, 56, 57, 58] (by decide +kernel) (by decide +kernel)) (goodIn_sub (fun _ h => List.mem_cons_of_mem _ (List.mem_append_left _ (List.mem_append_left _ (List.mem_append_right _ h)))) (by decide +kernel))) (goodIn_sub (fun _ h => List.mem_cons_of_mem _ (List.mem_append_left _ (List.mem_append_right _ h))) (by decide +kernel))) (goodIn_sub (fun _ h => List.mem_cons_of_mem _ (List.mem_append_right _ h)) (by decide +kernel))
set_option maxRecDepth 20000 in
theorem gL_burst_X2_burst : GoodIn wsL_burst (wsV RL 30 RX2 yX2_burst wsX2_burst) := goodIn_app (goodIn_of _ (by decide +kernel)) ggL_burst_X2_burst
theorem dL_burst_0 : decode cL_burst 0 = .ok (.aload_n 3, 1) := by decide +kernel
theorem dL_burst_1 : decode cL_burst 1 = .ok (.iconst 0, 1) := by decide +kernel
theorem dL_burst_2 : decode cL_burst 2 = .ok (.aload_n 0, 1) := by decide +kernel
theorem dL_burst_3 : decode cL_burst 3 = .ok (.iload_n 1, 1) := by decide +kernel
theorem dL_burst_4 : decode cL_burst 4 = .ok (.iload_n 2, 1) := by decide +kernel
theorem dL_burst_5 : decode cL_burst 5 = .ok (.invokevirtual 30, 3) := by decide +kernel
theorem dL_burst_8 : decode cL_burst 8 = .ok (.i2l, 1) := by decide +kernel
theorem dL_burst_9 : decode cL_burst 9 = .ok (.lastore, 1) := by decide +kernel
theorem dL_burst_10 : decode cL_burst 10 = .ok (.goto 15, 3) := by decide +kernel
theorem dL_burst_13 : decode cL_burst 13 = .ok (.astore 4, 2) := by decide +kernel
theorem dL_burst_15 : decode cL_burst 15 = .ok (.iconst 1, 1) := by decide +kernel
theorem dL_burst_16 : decode cL_burst 16 = .ok (.ireturn, 1) := by decide +kernel
theorem dL_burst_17 : decode cL_burst 17 = .ok (.astore 4, 2) := by decide +kernel
theorem dL_burst_19 : decode cL_burst 19 = .ok (.iconst 2, 1) := by decide +kernel
theorem dL_burst_20 : decode cL_burst 20 = .ok (.ireturn, 1) := by decide +kernel
theorem dL_burst_21 : decode cL_burst 21 = .ok (.astore 4, 2) := by decide +kernel
theorem dL_burst_23 : decode cL_burst 23 = .ok (.iconst 3, 1) := by decide +kernel
theorem dL_burst_24 : decode cL_burst 24 = .ok (.ireturn, 1) := by decide +kernel
theorem dL_burst_25 : decode cL_burst 25 = .ok (.iconst 0, 1) := by decide +kernel
theorem dL_burst_26 : decode cL_burst 26 = .ok (.ireturn, 1) := by decide +kernel
set_option maxRecDepth 20000 in
theorem ggL_run_X2_run : GoodIn wsL_run wsX2_run := goodIn_ca (goodIn_r _ [6, 7, 8, 9, 10, 11, 12, 13, 14, 5, 15, 16, 17, 18, 19, 20, 21, 22, 23, 24, 25, 26, 27, 28, 29, 30, 31, 32, 33, 34, 35, 36, 37, 38, 39, 40, 41, 42, 43, 44, 45, 46, 47, 48, 49, 50, 51, 52, 53, 54, 55, 56, 57, 58, 59, 60, 61, 62, 63, 64, 65, 66, 67, 68, 69, 70, 71, 72, 73, 74, 75, 76, 77, 78, 79, 80, 81, 82, 83, 84, 85, 86, 87, 88, 89, 90, 91, 92, 93, 94, 95, 96, 97, 98, 99, 100, 101, 102, 103, 104, 105, 106, 107, 108, 109, 110, 111, 112, 113, 114, 115, 116, 117, 118, 119, 120, 121, 122, 123, 124, 125, 126, 127, 128, 129, 130, 131, 132, 133, 134, 135, 136, 137, 138, 139, 140, 141, 142, 143, 144, 145, 146, 147, 148, 149, 150, 151, 152, 153, 154, 155, 156, 157, 158, 159, 160, 161, 162, 163, 164] (by decide +kernel) (by decide +kernel)) (goodIn_sub (fun _ h => List.mem_cons_of_mem _ (List.mem_append_right _ h)) (by decide +kernel))
set_option maxRecDepth 20000 in
theorem gL_run_X2_run : GoodIn wsL_run (wsV RL 34 RX2 yX2_run wsX2_run) := goodIn_app (goodIn_of _ (by decide +kernel)) ggL_run_X2_run
theorem dL_run_0 : decode cL_run 0 = .ok (.aload_n 2, 1) := by decide +kernel
theorem dL_run_1 : decode cL_run 1 = .ok (.iconst 0, 1) := by decide +kernel
theorem dL_run_2 : decode cL_run 2 = .ok (.aload_n 0, 1) := by decide +kernel
theorem dL_run_3 : decode cL_run 3 = .ok (.iload_n 1, 1) := by decide +kernel
theorem dL_run_4 : decode cL_run 4 = .ok (.invokevirtual 34, 3) := by decide +kernel
theorem dL_run_7 : decode cL_run 7 = .ok (.i2l, 1) := by decide +kernel
theorem dL_run_8 : decode cL_run 8 = .ok (.lastore, 1) := by decide +kernel
theorem dL_run_9 : decode cL_run 9 = .ok (.goto 6, 3) := by decide +kernel
theorem dL_run_12 : decode cL_run 12 = .ok (.astore_n 3, 1) := by decide +kernel
theorem dL_run_13 : decode cL_run 13 = .ok (.iconst 1, 1) := by decide +kernel
theorem dL_run_14 : decode cL_run 14 = .ok (.ireturn, 1) := by decide +kernel
theorem dL_run_15 : decode cL_run 15 = .ok (.iconst 0, 1) := by decide +kernel
theorem dL_run_16 : decode cL_run 16 = .ok (.ireturn, 1) := by decide +kernel
set_option maxRecDepth 20000 in
theorem ggL_told_X2_told : GoodIn wsL_told wsX2_told := goodIn_ca (goodIn_ca (goodIn_r _ [7, 8, 9, 10, 11, 12, 13, 14, 15, 6, 16, 17, 18, 19, 20, 21, 22, 23, 24, 25, 26, 27, 28, 29, 30, 31, 32, 33, 34, 35, 36, 37, 38, 39, 40, 41, 42, 43, 44, 45, 46, 47, 48] (by decide +kernel) (by decide +kernel)) (goodIn_sub (fun _ h => List.mem_cons_of_mem _ (List.mem_append_left _ (List.mem_append_right _ h))) (by decide +kernel))) (goodIn_sub (fun _ h => List.mem_cons_of_mem _ (List.mem_append_right _ h)) (by decide +kernel))
set_option maxRecDepth 20000 in
theorem gL_told_X2_told : GoodIn wsL_told (wsV RL 37 RX2 yX2_told wsX2_told) := goodIn_app (goodIn_of _ (by decide +kernel)) ggL_told_X2_told
theorem dL_told_0 : decode cL_told 0 = .ok (.aload_n 3, 1) := by decide +kernel
theorem dL_told_1 : decode cL_told 1 = .ok (.iconst 0, 1) := by decide +kernel
theorem dL_told_2 : decode cL_told 2 = .ok (.aload_n 0, 1) := by decide +kernel
theorem dL_told_3 : decode cL_told 3 = .ok (.iload_n 1, 1) := by decide +kernel
theorem dL_told_4 : decode cL_told 4 = .ok (.iload_n 2, 1) := by decide +kernel
theorem dL_told_5 : decode cL_told 5 = .ok (.invokevirtual 37, 3) := by decide +kernel
theorem dL_told_8 : decode cL_told 8 = .ok (.i2l, 1) := by decide +kernel
theorem dL_told_9 : decode cL_told 9 = .ok (.lastore, 1) := by decide +kernel
theorem dL_told_10 : decode cL_told 10 = .ok (.goto 11, 3) := by decide +kernel
theorem dL_told_13 : decode cL_told 13 = .ok (.astore 4, 2) := by decide +kernel
theorem dL_told_15 : decode cL_told 15 = .ok (.iconst 1, 1) := by decide +kernel
theorem dL_told_16 : decode cL_told 16 = .ok (.ireturn, 1) := by decide +kernel
theorem dL_told_17 : decode cL_told 17 = .ok (.astore 4, 2) := by decide +kernel
theorem dL_told_19 : decode cL_told 19 = .ok (.iconst 2, 1) := by decide +kernel
theorem dL_told_20 : decode cL_told 20 = .ok (.ireturn, 1) := by decide +kernel
theorem dL_told_21 : decode cL_told 21 = .ok (.iconst 0, 1) := by decide +kernel
theorem dL_told_22 : decode cL_told 22 = .ok (.ireturn, 1) := by decide +kernel
set_option maxRecDepth 20000 in
theorem ggL_queued_X2_queued : GoodIn wsL_queued wsX2_queued := goodIn_ca (goodIn_r _ [6, 7, 8, 9, 10, 11, 12, 5, 13, 14, 15, 16, 17, 18, 19, 20, 21, 22, 23, 24, 25, 26, 27, 28, 29, 30, 31, 32, 33, 34, 35, 36] (by decide +kernel) (by decide +kernel)) (goodIn_sub (fun _ h => List.mem_cons_of_mem _ (List.mem_append_right _ h)) (by decide +kernel))
set_option maxRecDepth 20000 in
theorem gL_queued_X2_queued : GoodIn wsL_queued (wsV RL 40 RX2 yX2_queued wsX2_queued) := goodIn_app (goodIn_of _ (by decide +kernel)) ggL_queued_X2_queued
theorem dL_queued_0 : decode cL_queued 0 = .ok (.aload_n 3, 1) := by decide +kernel
theorem dL_queued_1 : decode cL_queued 1 = .ok (.iconst 0, 1) := by decide +kernel
theorem dL_queued_2 : decode cL_queued 2 = .ok (.aload_n 0, 1) := by decide +kernel
theorem dL_queued_3 : decode cL_queued 3 = .ok (.iload_n 1, 1) := by decide +kernel
theorem dL_queued_4 : decode cL_queued 4 = .ok (.iload_n 2, 1) := by decide +kernel
theorem dL_queued_5 : decode cL_queued 5 = .ok (.invokevirtual 40, 3) := by decide +kernel
theorem dL_queued_8 : decode cL_queued 8 = .ok (.i2l, 1) := by decide +kernel
theorem dL_queued_9 : decode cL_queued 9 = .ok (.lastore, 1) := by decide +kernel
theorem dL_queued_10 : decode cL_queued 10 = .ok (.goto 7, 3) := by decide +kernel
theorem dL_queued_13 : decode cL_queued 13 = .ok (.astore 4, 2) := by decide +kernel
theorem dL_queued_15 : decode cL_queued 15 = .ok (.iconst 1, 1) := by decide +kernel
theorem dL_queued_16 : decode cL_queued 16 = .ok (.ireturn, 1) := by decide +kernel
theorem dL_queued_17 : decode cL_queued 17 = .ok (.iconst 0, 1) := by decide +kernel
theorem dL_queued_18 : decode cL_queued 18 = .ok (.ireturn, 1) := by decide +kernel
set_option maxRecDepth 20000 in
theorem ggL_all_X2_all : GoodIn wsL_all wsX2_all := goodIn_ca (goodIn_r _ [6, 7, 8, 9, 10, 11, 12, 13, 14, 15, 16, 17, 18, 19, 20, 21, 22, 23, 24] (by decide +kernel) (by decide +kernel)) (goodIn_sub (fun _ h => List.mem_cons_of_mem _ (List.mem_append_right _ h)) (by decide +kernel))
set_option maxRecDepth 20000 in
theorem gL_all_X2_all : GoodIn wsL_all (wsV RL 43 RX2 yX2_all wsX2_all) := goodIn_app (goodIn_of _ (by decide +kernel)) ggL_all_X2_all
theorem dL_all_0 : decode cL_all 0 = .ok (.aload_n 2, 1) := by decide +kernel
theorem dL_all_1 : decode cL_all 1 = .ok (.iconst 0, 1) := by decide +kernel
theorem dL_all_2 : decode cL_all 2 = .ok (.aload_n 0, 1) := by decide +kernel
theorem dL_all_3 : decode cL_all 3 = .ok (.iload_n 1, 1) := by decide +kernel
theorem dL_all_4 : decode cL_all 4 = .ok (.invokevirtual 43, 3) := by decide +kernel
theorem dL_all_7 : decode cL_all 7 = .ok (.i2l, 1) := by decide +kernel
theorem dL_all_8 : decode cL_all 8 = .ok (.lastore, 1) := by decide +kernel
theorem dL_all_9 : decode cL_all 9 = .ok (.goto 6, 3) := by decide +kernel
theorem dL_all_12 : decode cL_all 12 = .ok (.astore_n 3, 1) := by decide +kernel
theorem dL_all_13 : decode cL_all 13 = .ok (.iconst 1, 1) := by decide +kernel
theorem dL_all_14 : decode cL_all 14 = .ok (.ireturn, 1) := by decide +kernel
theorem dL_all_15 : decode cL_all 15 = .ok (.iconst 0, 1) := by decide +kernel
theorem dL_all_16 : decode cL_all 16 = .ok (.ireturn, 1) := by decide +kernel
set_option maxRecDepth 20000 in
theorem ggL_switched_X2_switched : GoodIn wsL_switched wsX2_switched := goodIn_ca (goodIn_r _ [6, 7, 8, 9, 10, 11, 12, 13, 14, 15, 16, 17, 18, 19, 20, 21, 22] (by decide +kernel) (by decide +kernel)) (goodIn_sub (fun _ h => List.mem_cons_of_mem _ (List.mem_append_right _ h)) (by decide +kernel))
set_option maxRecDepth 20000 in
theorem gL_switched_X2_switched : GoodIn wsL_switched (wsV RL 46 RX2 yX2_switched wsX2_switched) := goodIn_app (goodIn_of _ (by decide +kernel)) ggL_switched_X2_switched
theorem dL_switched_0 : decode cL_switched 0 = .ok (.aload_n 2, 1) := by decide +kernel
theorem dL_switched_1 : decode cL_switched 1 = .ok (.iconst 0, 1) := by decide +kernel
theorem dL_switched_2 : decode cL_switched 2 = .ok (.aload_n 0, 1) := by decide +kernel
theorem dL_switched_3 : decode cL_switched 3 = .ok (.iload_n 1, 1) := by decide +kernel
theorem dL_switched_4 : decode cL_switched 4 = .ok (.invokevirtual 46, 3) := by decide +kernel
theorem dL_switched_7 : decode cL_switched 7 = .ok (.i2l, 1) := by decide +kernel
theorem dL_switched_8 : decode cL_switched 8 = .ok (.lastore, 1) := by decide +kernel
theorem dL_switched_9 : decode cL_switched 9 = .ok (.goto 6, 3) := by decide +kernel
theorem dL_switched_12 : decode cL_switched 12 = .ok (.astore_n 3, 1) := by decide +kernel
theorem dL_switched_13 : decode cL_switched 13 = .ok (.iconst 1, 1) := by decide +kernel
theorem dL_switched_14 : decode cL_switched 14 = .ok (.ireturn, 1) := by decide +kernel
theorem dL_switched_15 : decode cL_switched 15 = .ok (.iconst 0, 1) := by decide +kernel
theorem dL_switched_16 : decode cL_switched 16 = .ok (.ireturn, 1) := by decide +kernel
set_option maxRecDepth 20000 in
theorem ggL_law_X2_init : GoodIn wsL_law wsX2_init := goodIn_r _ [9, 10, 11, 12, 13, 14, 15, 16, 17, 18, 19, 20, 21, 22, 23, 24, 25, 26, 27, 28, 29, 30, 31, 32, 33, 34, 35, 36, 37, 38, 39, 40, 41, 42, 43, 44, 45, 46, 47, 48, 49, 50, 51, 52, 53, 54, 55, 56, 57, 58, 59, 60, 409, 410, 411, 412, 413, 414, 415, 416, 417, 418, 419, 420, 445, 446, 447, 448, 449, 450, 451, 452, 453, 454, 455, 456, 457, 458, 459, 460, 461, 462, 463, 464, 465, 466, 467] (by decide +kernel) (by decide +kernel)
set_option maxRecDepth 20000 in
theorem gL_law_X2_init : GoodIn wsL_law (wsX2_init) := ggL_law_X2_init
set_option maxRecDepth 20000 in
theorem ggL_law_X3_init : GoodIn wsL_law wsX3_init := goodIn_r _ [63, 64, 11, 12, 17, 65, 66, 67, 68, 69, 70, 71, 72, 73, 74, 75, 76, 77, 78, 79, 80, 81, 82, 83, 84, 85, 86, 5, 87, 88, 89, 90, 91, 92, 93, 94, 95, 421, 422, 423, 424, 425, 426, 427, 428, 429, 430, 431, 432, 433, 434, 435, 436, 437, 438, 439, 440, 441, 442, 443, 444] (by decide +kernel) (by decide +kernel)
set_option maxRecDepth 20000 in
theorem gL_law_X3_init : GoodIn wsL_law (wsX3_init) := ggL_law_X3_init
set_option maxRecDepth 20000 in
theorem ggL_law_L_levels : GoodIn wsL_law wsL_levels := goodIn_ca (goodIn_r _ [99, 100, 101, 102, 103, 2, 104, 105, 106, 19, 14, 20, 107, 108, 109, 110, 22, 23, 24, 25, 26, 27, 16, 111, 29, 112, 113, 38, 114, 31, 115, 116, 45, 46, 47, 48, 49, 50, 51, 52, 53, 54, 55, 56, 57, 58, 59, 409, 410, 411, 412, 413, 414, 415, 416, 417, 418, 419, 420, 445, 446, 447, 448, 449, 450, 451, 452, 453, 454, 455, 456, 457, 458, 459, 460, 461, 462, 463, 464, 465, 466, 467] (by decide +kernel) (by decide +kernel)) (goodIn_sub (fun _ h => List.mem_append_left _ (List.mem_append_left _ (List.mem_append_right _ h))) (by decide +kernel))
set_option maxRecDepth 20000 in
theorem gL_law_L_levels : GoodIn wsL_law (va_wsS RL 53 yL_levels wsL_levels) := goodIn_app (goodIn_of _ (by decide +kernel)) ggL_law_L_levels
set_option maxRecDepth 20000 in
theorem ggL_law_X3_levels : GoodIn wsL_law wsX3_levels := goodIn_r _ [120, 121, 84, 85, 86, 5, 87, 88, 65, 66, 89, 90, 91, 92, 93, 94, 95, 82, 81, 70, 71, 72, 77, 79, 421, 422, 423, 424, 425, 426, 427, 428, 429, 430, 431, 432, 433, 434, 435, 436, 437, 438, 439, 440, 441, 442, 443, 444] (by decide +kernel) (by decide +kernel)
set_option maxRecDepth 20000 in
theorem gL_law_X3_levels : GoodIn wsL_law (wsV RL 58 RX3 yX3_levels wsX3_levels) := goodIn_app (goodIn_of _ (by decide +kernel)) ggL_law_X3_levels
set_option maxRecDepth 20000 in
theorem ggL_law_X3_thrown : GoodIn wsL_law wsX3_thrown := goodIn_r _ [125, 121, 421, 422, 423, 424, 425, 426, 427, 428, 429, 430, 431, 432, 433, 434, 435, 436, 437, 438, 439, 440, 441, 442, 443, 444] (by decide +kernel) (by decide +kernel)
set_option maxRecDepth 20000 in
theorem gL_law_X3_thrown : GoodIn wsL_law (wsV RL 59 RX3 yX3_thrown wsX3_thrown) := goodIn_app (goodIn_of _ (by decide +kernel)) ggL_law_X3_thrown
set_option maxRecDepth 20000 in
theorem ggL_law_L_level : GoodIn wsL_law wsL_level := goodIn_ca (goodIn_ca (goodIn_ca (goodIn_r _ [128, 129, 100, 130, 131, 132, 133, 2, 134, 135, 136, 105, 106, 137, 138, 22, 14, 139, 140, 141, 142, 19, 409, 410, 411, 412, 413, 414, 415, 416, 417, 418, 419, 420, 445, 446, 447, 448] (by decide +kernel) (by decide +kernel)) (goodIn_sub (fun _ h => List.mem_append_left _ (List.mem_append_right _ h)) (by decide +kernel))) (goodIn_sub (fun _ h => List.mem_append_left _ (List.mem_append_left _ (List.mem_append_right _ h))) (by decide +kernel))) (goodIn_sub (fun _ h => List.mem_append_right _ h) (by decide +kernel))
set_option maxRecDepth 20000 in
theorem gL_law_L_level : GoodIn wsL_law (va_wsS RL 63 yL_level wsL_level) := goodIn_app (goodIn_of _ (by decide +kernel)) ggL_law_L_level
set_option maxRecDepth 20000 in
theorem ggL_law_X3_level : GoodIn wsL_law wsX3_level := goodIn_r _ [146, 88, 94, 121, 65, 66, 421, 422, 423, 424, 425, 426, 427, 428, 429, 430, 431, 432, 433, 434, 435, 436, 437, 438, 439, 440, 441, 442, 443, 444] (by decide +kernel) (by decide +kernel)
set_option maxRecDepth 20000 in
theorem gL_law_X3_level : GoodIn wsL_law (wsV RL 66 RX3 yX3_level wsX3_level) := goodIn_app (goodIn_of _ (by decide +kernel)) ggL_law_X3_level
set_option maxRecDepth 20000 in
theorem ggL_law_L_period : GoodIn wsL_law wsL_period := goodIn_ca (goodIn_ca (goodIn_r _ [149, 100, 130, 150, 151, 152, 2, 153, 105, 106, 137, 138, 22, 21, 409, 410, 411, 412, 413, 414, 415, 416, 417, 418, 419, 420] (by decide +kernel) (by decide +kernel)) (goodIn_sub (fun _ h => List.mem_append_left _ (List.mem_append_left _ (List.mem_append_right _ h))) (by decide +kernel))) (goodIn_sub (fun _ h => List.mem_append_right _ h) (by decide +kernel))
set_option maxRecDepth 20000 in
theorem gL_law_L_period : GoodIn wsL_law (va_wsS RL 67 yL_period wsL_period) := goodIn_app (goodIn_of _ (by decide +kernel)) ggL_law_L_period
set_option maxRecDepth 20000 in
theorem ggL_law_X3_period : GoodIn wsL_law wsX3_period := goodIn_r _ [157, 94, 121, 158, 421, 422, 423, 424, 425, 426, 427, 428, 429, 430, 431, 432, 433, 434, 435, 436, 437, 438, 439, 440, 441, 442, 443, 444] (by decide +kernel) (by decide +kernel)
set_option maxRecDepth 20000 in
theorem gL_law_X3_period : GoodIn wsL_law (wsV RL 69 RX3 yX3_period wsX3_period) := goodIn_app (goodIn_of _ (by decide +kernel)) ggL_law_X3_period
set_option maxRecDepth 20000 in
theorem ggL_law_L_process : GoodIn wsL_law wsL_process := goodIn_ca (goodIn_ca (goodIn_r _ [161, 100, 130, 162, 163, 164, 2, 165, 105, 106, 137, 138, 22, 20, 16, 166, 31, 167, 168, 42, 44, 409, 410, 411, 412, 413, 414, 415, 416, 417, 418, 419, 420, 449, 450, 451, 452, 453, 454, 455, 456, 457, 458, 459, 460, 461, 462, 463, 464, 465, 466, 467] (by decide +kernel) (by decide +kernel)) (goodIn_sub (fun _ h => List.mem_append_left _ (List.mem_append_left _ (List.mem_append_right _ h))) (by decide +kernel))) (goodIn_sub (fun _ h => List.mem_append_right _ h) (by decide +kernel))
set_option maxRecDepth 20000 in
theorem gL_law_L_process : GoodIn wsL_law (va_wsS RL 70 yL_process wsL_process) := goodIn_app (goodIn_of _ (by decide +kernel)) ggL_law_L_process
set_option maxRecDepth 20000 in
theorem ggL_law_X3_process : GoodIn wsL_law wsX3_process := goodIn_r _ [172, 94, 121, 89, 67, 68, 421, 422, 423, 424, 425, 426, 427, 428, 429, 430, 431, 432, 433, 434, 435, 436, 437, 438, 439, 440, 441, 442, 443, 444] (by decide +kernel) (by decide +kernel)
set_option maxRecDepth 20000 in
theorem gL_law_X3_process : GoodIn wsL_law (wsV RL 73 RX3 yX3_process wsX3_process) := goodIn_app (goodIn_of _ (by decide +kernel)) ggL_law_X3_process
set_option maxRecDepth 20000 in
theorem ggL_law_L_burst : GoodIn wsL_law wsL_burst := goodIn_ca (goodIn_ca (goodIn_ca (goodIn_r _ [175, 129, 100, 130, 176, 177, 178, 2, 179, 135, 136, 105, 106, 137, 138, 22, 16, 180, 181, 182, 183, 20, 184, 31, 185, 186, 44, 43, 409, 410, 411, 412, 413, 414, 415, 416, 417, 418, 419, 420, 449, 450, 451, 452, 453, 454, 455, 456, 457, 458, 459, 460, 461, 462, 463, 464, 465, 466, 467] (by decide +kernel) (by decide +kernel)) (goodIn_sub (fun _ h => List.mem_append_left _ (List.mem_append_right _ h)) (by decide +kernel))) (goodIn_sub (fun _ h => List.mem_append_left _ (List.mem_append_left _ (List.mem_append_right _ h))) (by decide +kernel))) (goodIn_sub (fun _ h => List.mem_append_right _ h) (by decide +kernel))
set_option maxRecDepth 20000 in
theorem gL_law_L_burst : GoodIn wsL_law (va_wsS RL 74 yL_burst wsL_burst) := goodIn_app (goodIn_of _ (by decide +kernel)) ggL_law_L_burst
set_option maxRecDepth 20000 in
theorem ggL_law_X3_burst : GoodIn wsL_law wsX3_burst := goodIn_r _ [190, 94, 121, 68, 69, 191, 192, 193, 5, 194, 89, 421, 422, 423, 424, 425, 426, 427, 428, 429, 430, 431, 432, 433, 434, 435, 436, 437, 438, 439, 440, 441, 442, 443, 444] (by decide +kernel) (by decide +kernel)
set_option maxRecDepth 20000 in
theorem gL_law_X3_burst : GoodIn wsL_law (wsV RL 77 RX3 yX3_burst wsX3_burst) := goodIn_app (goodIn_of _ (by decide +kernel)) ggL_law_X3_burst
set_option maxRecDepth 20000 in
theorem ggL_law_L_run : GoodIn wsL_law wsL_run := goodIn_ca (goodIn_r _ [197, 100, 198, 199, 200, 2, 201, 105, 106, 22, 202, 25, 203, 204, 205, 206, 21, 23, 207, 208, 209, 210, 26, 14, 20, 16, 19, 211, 31, 212, 213, 46, 50, 45, 49, 214, 215, 216, 217, 218, 29, 219, 220, 38, 37, 221, 222, 223, 224, 111, 112, 113, 225, 226, 227, 228, 229, 230, 231, 232, 233, 234, 235, 47, 44, 43, 48, 236, 237, 238, 239, 240, 241, 242, 243, 27, 244, 245, 246, 247, 248, 249, 250, 251, 252, 253, 254, 255, 256, 257, 258, 259, 260, 261, 262, 263, 264, 265, 180, 181, 182, 183, 266, 267, 268, 269, 24, 18, 270, 271, 272, 51, 57, 55, 273, 274, 275, 276, 277, 278, 279, 280, 281, 282, 283, 284, 285, 286, 287, 288, 409, 410, 411, 412, 413, 414, 415, 416, 417, 418, 419, 420, 449, 450, 451, 452, 453, 454, 455, 456, 457, 458, 459, 460, 461, 462, 463, 464, 465, 466, 467, 445, 446, 447, 448] (by decide +kernel) (by decide +kernel)) (goodIn_sub (fun _ h => List.mem_append_left _ (List.mem_append_left _ (List.mem_append_right _ h))) (by decide +kernel))
set_option maxRecDepth 20000 in
theorem gL_law_L_run : GoodIn wsL_law (va_wsS RL 78 yL_run wsL_run) := goodIn_app (goodIn_of _ (by decide +kernel)) ggL_law_L_run
set_option maxRecDepth 20000 in
theorem ggL_law_X3_run : GoodIn wsL_law wsX3_run := goodIn_r _ [292, 94, 293, 121, 158, 95, 82, 294, 295, 296, 5, 297, 88, 81, 89, 70, 71, 75, 66, 77, 74, 65, 298, 299, 300, 301, 80, 302, 303, 304, 305, 306, 307, 308, 309, 67, 68, 73, 69, 310, 311, 312, 313, 79, 314, 315, 316, 317, 78, 72, 318, 319, 320, 321, 83, 322, 323, 324, 325, 326, 327, 328, 329, 330, 331, 332, 333, 334, 335, 336, 337, 421, 422, 423, 424, 425, 426, 427, 428, 429, 430, 431, 432, 433, 434, 435, 436, 437, 438, 439, 440, 441, 442, 443, 444] (by decide +kernel) (by decide +kernel)
set_option maxRecDepth 20000 in
theorem gL_law_X3_run : GoodIn wsL_law (wsV RL 80 RX3 yX3_run wsX3_run) := goodIn_app (goodIn_of _ (by decide +kernel)) ggL_law_X3_run
set_option maxRecDepth 20000 in
theorem ggL_law_X2_restart : GoodIn wsL_law wsX2_restart := goodIn_r _ [341, 107, 108, 109, 2, 110, 22, 23, 24, 25, 26, 27, 14, 16, 111, 29, 112, 113, 38, 114, 31, 115, 116, 45, 46, 47, 48, 49, 50, 51, 52, 53, 54, 55, 56, 57, 58, 59, 409, 410, 411, 412, 413, 414, 415, 416, 417, 418, 419, 420, 445, 446, 447, 448, 449, 450, 451, 452, 453, 454, 455, 456, 457, 458, 459, 460, 461, 462, 463, 464, 465, 466, 467] (by decide +kernel) (by decide +kernel)
set_option maxRecDepth 20000 in
theorem gL_law_X2_restart : GoodIn wsL_law (wsV RL 81 RX2 yX2_restart wsX2_restart) := goodIn_app (goodIn_of _ (by decide +kernel)) ggL_law_X2_restart
set_option maxRecDepth 20000 in
theorem ggL_law_X3_restart : GoodIn wsL_law wsX3_restart := goodIn_r _ [345, 121, 90, 91, 92, 5, 93, 94, 95, 82, 81, 70, 71, 72, 77, 79, 421, 422, 423, 424, 425, 426, 427, 428, 429, 430, 431, 432, 433, 434, 435, 436, 437, 438, 439, 440, 441, 442, 443, 444] (by decide +kernel) (by decide +kernel)
set_option maxRecDepth 20000 in
theorem gL_law_X3_restart : GoodIn wsL_law (wsV RL 84 RX3 yX3_restart wsX3_restart) := goodIn_app (goodIn_of _ (by decide +kernel)) ggL_law_X3_restart
set_option maxRecDepth 20000 in
theorem ggL_law_X2_time : GoodIn wsL_law wsX2_time := goodIn_r _ [349, 22, 409, 410, 411, 412, 413, 414, 415, 416, 417, 418, 419, 420] (by decide +kernel) (by decide +kernel)
set_option maxRecDepth 20000 in
theorem gL_law_X2_time : GoodIn wsL_law (wsV RL 85 RX2 yX2_time wsX2_time) := goodIn_app (goodIn_of _ (by decide +kernel)) ggL_law_X2_time
set_option maxRecDepth 20000 in
theorem ggL_law_X3_time : GoodIn wsL_law wsX3_time := goodIn_r _ [353, 121, 94, 421, 422, 423, 424, 425, 426, 427, 428, 429, 430, 431, 432, 433, 434, 435, 436, 437, 438, 439, 440, 441, 442, 443, 444] (by decide +kernel) (by decide +kernel)
set_option maxRecDepth 20000 in
theorem gL_law_X3_time : GoodIn wsL_law (wsV RL 88 RX3 yX3_time wsX3_time) := goodIn_app (goodIn_of _ (by decide +kernel)) ggL_law_X3_time
set_option maxRecDepth 20000 in
theorem ggL_law_L_told : GoodIn wsL_law wsL_told := goodIn_ca (goodIn_ca (goodIn_r _ [356, 129, 100, 357, 358, 359, 2, 360, 135, 136, 105, 106, 16, 180, 181, 182, 183, 20, 409, 410, 411, 412, 413, 414, 415, 416, 417, 418, 419, 420, 449, 450, 451, 452, 453, 454, 455, 456, 457, 458, 459, 460, 461, 462, 463, 464, 465, 466, 467] (by decide +kernel) (by decide +kernel)) (goodIn_sub (fun _ h => List.mem_append_left _ (List.mem_append_right _ h)) (by decide +kernel))) (goodIn_sub (fun _ h => List.mem_append_left _ (List.mem_append_left _ (List.mem_append_right _ h))) (by decide +kernel))
set_option maxRecDepth 20000 in
theorem gL_law_L_told : GoodIn wsL_law (va_wsS RL 89 yL_told wsL_told) := goodIn_app (goodIn_of _ (by decide +kernel)) ggL_law_L_told
set_option maxRecDepth 20000 in
theorem ggL_law_X3_told : GoodIn wsL_law wsX3_told := goodIn_r _ [364, 121, 70, 71, 79, 191, 192, 193, 5, 194, 89, 421, 422, 423, 424, 425, 426, 427, 428, 429, 430, 431, 432, 433, 434, 435, 436, 437, 438, 439, 440, 441, 442, 443, 444] (by decide +kernel) (by decide +kernel)
set_option maxRecDepth 20000 in
theorem gL_law_X3_told : GoodIn wsL_law (wsV RL 91 RX3 yX3_told wsX3_told) := goodIn_app (goodIn_of _ (by decide +kernel)) ggL_law_X3_told
set_option maxRecDepth 20000 in
theorem ggL_law_X2_running : GoodIn wsL_law wsX2_running := goodIn_r _ [368, 23, 409, 410, 411, 412, 413, 414, 415, 416, 417, 418, 419, 420, 449, 450, 451, 452, 453, 454, 455, 456, 457, 458, 459, 460, 461, 462, 463, 464, 465, 466, 467] (by decide +kernel) (by decide +kernel)
set_option maxRecDepth 20000 in
theorem gL_law_X2_running : GoodIn wsL_law (wsV RL 92 RX2 yX2_running wsX2_running) := goodIn_app (goodIn_of _ (by decide +kernel)) ggL_law_X2_running
set_option maxRecDepth 20000 in
theorem ggL_law_X3_running : GoodIn wsL_law wsX3_running := goodIn_r _ [372, 121, 95, 421, 422, 423, 424, 425, 426, 427, 428, 429, 430, 431, 432, 433, 434, 435, 436, 437, 438, 439, 440, 441, 442, 443, 444] (by decide +kernel) (by decide +kernel)
set_option maxRecDepth 20000 in
theorem gL_law_X3_running : GoodIn wsL_law (wsV RL 95 RX3 yX3_running wsX3_running) := goodIn_app (goodIn_of _ (by decide +kernel)) ggL_law_X3_running
set_option maxRecDepth 20000 in
theorem ggL_law_L_queued : GoodIn wsL_law wsL_queued := goodIn_ca (goodIn_r _ [375, 129, 376, 377, 378, 2, 379, 135, 136, 14, 139, 140, 141, 142, 19, 380, 29, 381, 382, 38, 37, 409, 410, 411, 412, 413, 414, 415, 416, 417, 418, 419, 420, 445, 446, 447, 448] (by decide +kernel) (by decide +kernel)) (goodIn_sub (fun _ h => List.mem_append_left _ (List.mem_append_right _ h)) (by decide +kernel))
set_option maxRecDepth 20000 in
theorem gL_law_L_queued : GoodIn wsL_law (va_wsS RL 96 yL_queued wsL_queued) := goodIn_app (goodIn_of _ (by decide +kernel)) ggL_law_L_queued
set_option maxRecDepth 20000 in
theorem ggL_law_X3_queued : GoodIn wsL_law wsX3_queued := goodIn_r _ [386, 88, 121, 81, 80, 421, 422, 423, 424, 425, 426, 427, 428, 429, 430, 431, 432, 433, 434, 435, 436, 437, 438, 439, 440, 441, 442, 443, 444] (by decide +kernel) (by decide +kernel)
set_option maxRecDepth 20000 in
theorem gL_law_X3_queued : GoodIn wsL_law (wsV RL 98 RX3 yX3_queued wsX3_queued) := goodIn_app (goodIn_of _ (by decide +kernel)) ggL_law_X3_queued
set_option maxRecDepth 20000 in
theorem ggL_law_L_all : GoodIn wsL_law wsL_all := goodIn_ca (goodIn_r _ [389, 100, 390, 391, 392, 2, 393, 105, 106, 24, 25, 26, 27, 409, 410, 411, 412, 413, 414, 415, 416, 417, 418, 419, 420] (by decide +kernel) (by decide +kernel)) (goodIn_sub (fun _ h => List.mem_append_left _ (List.mem_append_left _ (List.mem_append_right _ h))) (by decide +kernel))
set_option maxRecDepth 20000 in
theorem gL_law_L_all : GoodIn wsL_law (va_wsS RL 99 yL_all wsL_all) := goodIn_app (goodIn_of _ (by decide +kernel)) ggL_law_L_all
set_option maxRecDepth 20000 in
theorem ggL_law_X3_all : GoodIn wsL_law wsX3_all := goodIn_r _ [397, 121, 82, 421, 422, 423, 424, 425, 426, 427, 428, 429, 430, 431, 432, 433, 434, 435, 436, 437, 438, 439, 440, 441, 442, 443, 444] (by decide +kernel) (by decide +kernel)
set_option maxRecDepth 20000 in
theorem gL_law_X3_all : GoodIn wsL_law (wsV RL 101 RX3 yX3_all wsX3_all) := goodIn_app (goodIn_of _ (by decide +kernel)) ggL_law_X3_all
set_option maxRecDepth 20000 in
theorem ggL_law_L_switched : GoodIn wsL_law wsL_switched := goodIn_ca (goodIn_r _ [400, 129, 401, 402, 403, 2, 404, 135, 136, 24, 18, 409, 410, 411, 412, 413, 414, 415, 416, 417, 418, 419, 420] (by decide +kernel) (by decide +kernel)) (goodIn_sub (fun _ h => List.mem_append_left _ (List.mem_append_right _ h)) (by decide +kernel))
set_option maxRecDepth 20000 in
theorem gL_law_L_switched : GoodIn wsL_law (va_wsS RL 102 yL_switched wsL_switched) := goodIn_app (goodIn_of _ (by decide +kernel)) ggL_law_L_switched
set_option maxRecDepth 20000 in
theorem ggL_law_X3_switched : GoodIn wsL_law wsX3_switched := goodIn_r _ [408, 82, 121, 83, 421, 422, 423, 424, 425, 426, 427, 428, 429, 430, 431, 432, 433, 434, 435, 436, 437, 438, 439, 440, 441, 442, 443, 444] (by decide +kernel) (by decide +kernel)
set_option maxRecDepth 20000 in
theorem gL_law_X3_switched : GoodIn wsL_law (wsV RL 104 RX3 yX3_switched wsX3_switched) := goodIn_app (goodIn_of _ (by decide +kernel)) ggL_law_X3_switched
theorem dL_law_0 : decode cL_law 0 = .ok (.new 8, 3) := by decide +kernel
theorem dL_law_3 : decode cL_law 3 = .ok (.dup, 1) := by decide +kernel
theorem dL_law_4 : decode cL_law 4 = .ok (.invokespecial 49, 3) := by decide +kernel
theorem dL_law_7 : decode cL_law 7 = .ok (.astore_n 1, 1) := by decide +kernel
theorem dL_law_8 : decode cL_law 8 = .ok (.new 50, 3) := by decide +kernel
theorem dL_law_11 : decode cL_law 11 = .ok (.dup, 1) := by decide +kernel
theorem dL_law_12 : decode cL_law 12 = .ok (.invokespecial 52, 3) := by decide +kernel
theorem dL_law_15 : decode cL_law 15 = .ok (.astore_n 2, 1) := by decide +kernel
theorem dL_law_16 : decode cL_law 16 = .ok (.iconst 1, 1) := by decide +kernel
theorem dL_law_17 : decode cL_law 17 = .ok (.newarray .long, 2) := by decide +kernel
theorem dL_law_19 : decode cL_law 19 = .ok (.astore_n 3, 1) := by decide +kernel
theorem dL_law_20 : decode cL_law 20 = .ok (.iconst 0, 1) := by decide +kernel
theorem dL_law_21 : decode cL_law 21 = .ok (.istore 4, 2) := by decide +kernel
theorem dL_law_23 : decode cL_law 23 = .ok (.iload 4, 2) := by decide +kernel
theorem dL_law_25 : decode cL_law 25 = .ok (.aload_n 0, 1) := by decide +kernel
theorem dL_law_26 : decode cL_law 26 = .ok (.arraylength, 1) := by decide +kernel
theorem dL_law_27 : decode cL_law 27 = .ok (.iconst 4, 1) := by decide +kernel
theorem dL_law_28 : decode cL_law 28 = .ok (.isub, 1) := by decide +kernel
theorem dL_law_29 : decode cL_law 29 = .ok (.if_icmp .gt 678, 3) := by decide +kernel
theorem dL_law_32 : decode cL_law 32 = .ok (.aload_n 0, 1) := by decide +kernel
theorem dL_law_33 : decode cL_law 33 = .ok (.iload 4, 2) := by decide +kernel
theorem dL_law_35 : decode cL_law 35 = .ok (.iaload, 1) := by decide +kernel
theorem dL_law_36 : decode cL_law 36 = .ok (.bipush 15, 2) := by decide +kernel
theorem dL_law_38 : decode cL_law 38 = .ok (.iand, 1) := by decide +kernel
theorem dL_law_39 : decode cL_law 39 = .ok (.tableswitch 662 0 12 #[65, 101, 161, 197, 253, 321, 377, 388, 401, 469, 482, 550, 606], 65) := by decide +kernel
theorem dL_law_104 : decode cL_law 104 = .ok (.aload_n 1, 1) := by decide +kernel
theorem dL_law_105 : decode cL_law 105 = .ok (.aload_n 0, 1) := by decide +kernel
theorem dL_law_106 : decode cL_law 106 = .ok (.iload 4, 2) := by decide +kernel
theorem dL_law_108 : decode cL_law 108 = .ok (.iconst 1, 1) := by decide +kernel
theorem dL_law_109 : decode cL_law 109 = .ok (.iadd, 1) := by decide +kernel
theorem dL_law_110 : decode cL_law 110 = .ok (.iaload, 1) := by decide +kernel
theorem dL_law_111 : decode cL_law 111 = .ok (.invokestatic 53, 3) := by decide +kernel
theorem dL_law_114 : decode cL_law 114 = .ok (.istore 5, 2) := by decide +kernel
theorem dL_law_116 : decode cL_law 116 = .ok (.aload_n 2, 1) := by decide +kernel
theorem dL_law_117 : decode cL_law 117 = .ok (.aload_n 0, 1) := by decide +kernel
theorem dL_law_118 : decode cL_law 118 = .ok (.iload 4, 2) := by decide +kernel
theorem dL_law_120 : decode cL_law 120 = .ok (.iconst 1, 1) := by decide +kernel
theorem dL_law_121 : decode cL_law 121 = .ok (.iadd, 1) := by decide +kernel
theorem dL_law_122 : decode cL_law 122 = .ok (.iaload, 1) := by decide +kernel
theorem dL_law_123 : decode cL_law 123 = .ok (.invokevirtual 58, 3) := by decide +kernel
theorem dL_law_126 : decode cL_law 126 = .ok (.aload_n 2, 1) := by decide +kernel
theorem dL_law_127 : decode cL_law 127 = .ok (.invokevirtual 59, 3) := by decide +kernel
theorem dL_law_130 : decode cL_law 130 = .ok (.iload 5, 2) := by decide +kernel
theorem dL_law_132 : decode cL_law 132 = .ok (.if_icmp .eq 5, 3) := by decide +kernel
theorem dL_law_135 : decode cL_law 135 = .ok (.iconst 0, 1) := by decide +kernel
theorem dL_law_136 : decode cL_law 136 = .ok (.ireturn, 1) := by decide +kernel
theorem dL_law_137 : decode cL_law 137 = .ok (.goto 564, 3) := by decide +kernel
theorem dL_law_140 : decode cL_law 140 = .ok (.aload_n 1, 1) := by decide +kernel
theorem dL_law_141 : decode cL_law 141 = .ok (.aload_n 0, 1) := by decide +kernel
theorem dL_law_142 : decode cL_law 142 = .ok (.iload 4, 2) := by decide +kernel
theorem dL_law_144 : decode cL_law 144 = .ok (.iconst 1, 1) := by decide +kernel
theorem dL_law_145 : decode cL_law 145 = .ok (.iadd, 1) := by decide +kernel
theorem dL_law_146 : decode cL_law 146 = .ok (.iaload, 1) := by decide +kernel
theorem dL_law_147 : decode cL_law 147 = .ok (.aload_n 0, 1) := by decide +kernel
theorem dL_law_148 : decode cL_law 148 = .ok (.iload 4, 2) := by decide +kernel
theorem dL_law_150 : decode cL_law 150 = .ok (.iconst 2, 1) := by decide +kernel
theorem dL_law_151 : decode cL_law 151 = .ok (.iadd, 1) := by decide +kernel
theorem dL_law_152 : decode cL_law 152 = .ok (.iaload, 1) := by decide +kernel
theorem dL_law_153 : decode cL_law 153 = .ok (.aload_n 0, 1) := by decide +kernel
theorem dL_law_154 : decode cL_law 154 = .ok (.iload 4, 2) := by decide +kernel
theorem dL_law_156 : decode cL_law 156 = .ok (.iconst 3, 1) := by decide +kernel
theorem dL_law_157 : decode cL_law 157 = .ok (.iadd, 1) := by decide +kernel
theorem dL_law_158 : decode cL_law 158 = .ok (.iaload, 1) := by decide +kernel
theorem dL_law_159 : decode cL_law 159 = .ok (.invokestatic 63, 3) := by decide +kernel
theorem dL_law_162 : decode cL_law 162 = .ok (.istore 5, 2) := by decide +kernel
theorem dL_law_164 : decode cL_law 164 = .ok (.aload_n 2, 1) := by decide +kernel
theorem dL_law_165 : decode cL_law 165 = .ok (.aload_n 0, 1) := by decide +kernel
theorem dL_law_166 : decode cL_law 166 = .ok (.iload 4, 2) := by decide +kernel
theorem dL_law_168 : decode cL_law 168 = .ok (.iconst 1, 1) := by decide +kernel
theorem dL_law_169 : decode cL_law 169 = .ok (.iadd, 1) := by decide +kernel
theorem dL_law_170 : decode cL_law 170 = .ok (.iaload, 1) := by decide +kernel
theorem dL_law_171 : decode cL_law 171 = .ok (.aload_n 0, 1) := by decide +kernel
theorem dL_law_172 : decode cL_law 172 = .ok (.iload 4, 2) := by decide +kernel
theorem dL_law_174 : decode cL_law 174 = .ok (.iconst 2, 1) := by decide +kernel
theorem dL_law_175 : decode cL_law 175 = .ok (.iadd, 1) := by decide +kernel
theorem dL_law_176 : decode cL_law 176 = .ok (.iaload, 1) := by decide +kernel
theorem dL_law_177 : decode cL_law 177 = .ok (.aload_n 0, 1) := by decide +kernel
theorem dL_law_178 : decode cL_law 178 = .ok (.iload 4, 2) := by decide +kernel
theorem dL_law_180 : decode cL_law 180 = .ok (.iconst 3, 1) := by decide +kernel
theorem dL_law_181 : decode cL_law 181 = .ok (.iadd, 1) := by decide +kernel
theorem dL_law_182 : decode cL_law 182 = .ok (.iaload, 1) := by decide +kernel
theorem dL_law_183 : decode cL_law 183 = .ok (.invokevirtual 66, 3) := by decide +kernel
theorem dL_law_186 : decode cL_law 186 = .ok (.aload_n 2, 1) := by decide +kernel
theorem dL_law_187 : decode cL_law 187 = .ok (.invokevirtual 59, 3) := by decide +kernel
theorem dL_law_190 : decode cL_law 190 = .ok (.iload 5, 2) := by decide +kernel
theorem dL_law_192 : decode cL_law 192 = .ok (.if_icmp .eq 5, 3) := by decide +kernel
theorem dL_law_195 : decode cL_law 195 = .ok (.iconst 0, 1) := by decide +kernel
theorem dL_law_196 : decode cL_law 196 = .ok (.ireturn, 1) := by decide +kernel
theorem dL_law_197 : decode cL_law 197 = .ok (.goto 504, 3) := by decide +kernel
theorem dL_law_200 : decode cL_law 200 = .ok (.aload_n 1, 1) := by decide +kernel
theorem dL_law_201 : decode cL_law 201 = .ok (.aload_n 0, 1) := by decide +kernel
theorem dL_law_202 : decode cL_law 202 = .ok (.iload 4, 2) := by decide +kernel
theorem dL_law_204 : decode cL_law 204 = .ok (.iconst 1, 1) := by decide +kernel
theorem dL_law_205 : decode cL_law 205 = .ok (.iadd, 1) := by decide +kernel
theorem dL_law_206 : decode cL_law 206 = .ok (.iaload, 1) := by decide +kernel
theorem dL_law_207 : decode cL_law 207 = .ok (.invokestatic 67, 3) := by decide +kernel
theorem dL_law_210 : decode cL_law 210 = .ok (.istore 5, 2) := by decide +kernel
theorem dL_law_212 : decode cL_law 212 = .ok (.aload_n 2, 1) := by decide +kernel
theorem dL_law_213 : decode cL_law 213 = .ok (.aload_n 0, 1) := by decide +kernel
theorem dL_law_214 : decode cL_law 214 = .ok (.iload 4, 2) := by decide +kernel
theorem dL_law_216 : decode cL_law 216 = .ok (.iconst 1, 1) := by decide +kernel
theorem dL_law_217 : decode cL_law 217 = .ok (.iadd, 1) := by decide +kernel
theorem dL_law_218 : decode cL_law 218 = .ok (.iaload, 1) := by decide +kernel
theorem dL_law_219 : decode cL_law 219 = .ok (.invokevirtual 69, 3) := by decide +kernel
theorem dL_law_222 : decode cL_law 222 = .ok (.aload_n 2, 1) := by decide +kernel
theorem dL_law_223 : decode cL_law 223 = .ok (.invokevirtual 59, 3) := by decide +kernel
theorem dL_law_226 : decode cL_law 226 = .ok (.iload 5, 2) := by decide +kernel
theorem dL_law_228 : decode cL_law 228 = .ok (.if_icmp .eq 5, 3) := by decide +kernel
theorem dL_law_231 : decode cL_law 231 = .ok (.iconst 0, 1) := by decide +kernel
theorem dL_law_232 : decode cL_law 232 = .ok (.ireturn, 1) := by decide +kernel
theorem dL_law_233 : decode cL_law 233 = .ok (.goto 468, 3) := by decide +kernel
theorem dL_law_236 : decode cL_law 236 = .ok (.aload_n 1, 1) := by decide +kernel
theorem dL_law_237 : decode cL_law 237 = .ok (.aload_n 0, 1) := by decide +kernel
theorem dL_law_238 : decode cL_law 238 = .ok (.iload 4, 2) := by decide +kernel
theorem dL_law_240 : decode cL_law 240 = .ok (.iconst 1, 1) := by decide +kernel
theorem dL_law_241 : decode cL_law 241 = .ok (.iadd, 1) := by decide +kernel
theorem dL_law_242 : decode cL_law 242 = .ok (.iaload, 1) := by decide +kernel
theorem dL_law_243 : decode cL_law 243 = .ok (.aload_n 3, 1) := by decide +kernel
theorem dL_law_244 : decode cL_law 244 = .ok (.invokestatic 70, 3) := by decide +kernel
theorem dL_law_247 : decode cL_law 247 = .ok (.istore 5, 2) := by decide +kernel
theorem dL_law_249 : decode cL_law 249 = .ok (.aload_n 2, 1) := by decide +kernel
theorem dL_law_250 : decode cL_law 250 = .ok (.aload_n 0, 1) := by decide +kernel
theorem dL_law_251 : decode cL_law 251 = .ok (.iload 4, 2) := by decide +kernel
theorem dL_law_253 : decode cL_law 253 = .ok (.iconst 1, 1) := by decide +kernel
theorem dL_law_254 : decode cL_law 254 = .ok (.iadd, 1) := by decide +kernel
theorem dL_law_255 : decode cL_law 255 = .ok (.iaload, 1) := by decide +kernel
theorem dL_law_256 : decode cL_law 256 = .ok (.invokevirtual 73, 3) := by decide +kernel
theorem dL_law_259 : decode cL_law 259 = .ok (.istore 6, 2) := by decide +kernel
theorem dL_law_261 : decode cL_law 261 = .ok (.aload_n 2, 1) := by decide +kernel
theorem dL_law_262 : decode cL_law 262 = .ok (.invokevirtual 59, 3) := by decide +kernel
theorem dL_law_265 : decode cL_law 265 = .ok (.iload 5, 2) := by decide +kernel
theorem dL_law_267 : decode cL_law 267 = .ok (.if_icmp .eq 5, 3) := by decide +kernel
theorem dL_law_270 : decode cL_law 270 = .ok (.iconst 0, 1) := by decide +kernel
theorem dL_law_271 : decode cL_law 271 = .ok (.ireturn, 1) := by decide +kernel
theorem dL_law_272 : decode cL_law 272 = .ok (.iload 5, 2) := by decide +kernel
theorem dL_law_274 : decode cL_law 274 = .ok (.ifCond .ne 15, 3) := by decide +kernel
theorem dL_law_277 : decode cL_law 277 = .ok (.aload_n 3, 1) := by decide +kernel
theorem dL_law_278 : decode cL_law 278 = .ok (.iconst 0, 1) := by decide +kernel
theorem dL_law_279 : decode cL_law 279 = .ok (.laload, 1) := by decide +kernel
theorem dL_law_280 : decode cL_law 280 = .ok (.iload 6, 2) := by decide +kernel
theorem dL_law_282 : decode cL_law 282 = .ok (.i2l, 1) := by decide +kernel
theorem dL_law_283 : decode cL_law 283 = .ok (.lcmp, 1) := by decide +kernel
theorem dL_law_284 : decode cL_law 284 = .ok (.ifCond .eq 5, 3) := by decide +kernel
theorem dL_law_287 : decode cL_law 287 = .ok (.iconst 0, 1) := by decide +kernel
theorem dL_law_288 : decode cL_law 288 = .ok (.ireturn, 1) := by decide +kernel
theorem dL_law_289 : decode cL_law 289 = .ok (.goto 412, 3) := by decide +kernel
theorem dL_law_292 : decode cL_law 292 = .ok (.aload_n 1, 1) := by decide +kernel
theorem dL_law_293 : decode cL_law 293 = .ok (.aload_n 0, 1) := by decide +kernel
theorem dL_law_294 : decode cL_law 294 = .ok (.iload 4, 2) := by decide +kernel
theorem dL_law_296 : decode cL_law 296 = .ok (.iconst 1, 1) := by decide +kernel
theorem dL_law_297 : decode cL_law 297 = .ok (.iadd, 1) := by decide +kernel
theorem dL_law_298 : decode cL_law 298 = .ok (.iaload, 1) := by decide +kernel
theorem dL_law_299 : decode cL_law 299 = .ok (.aload_n 0, 1) := by decide +kernel
theorem dL_law_300 : decode cL_law 300 = .ok (.iload 4, 2) := by decide +kernel
theorem dL_law_302 : decode cL_law 302 = .ok (.iconst 2, 1) := by decide +kernel
theorem dL_law_303 : decode cL_law 303 = .ok (.iadd, 1) := by decide +kernel
theorem dL_law_304 : decode cL_law 304 = .ok (.iaload, 1) := by decide +kernel
theorem dL_law_305 : decode cL_law 305 = .ok (.aload_n 3, 1) := by decide +kernel
theorem dL_law_306 : decode cL_law 306 = .ok (.invokestatic 74, 3) := by decide +kernel
theorem dL_law_309 : decode cL_law 309 = .ok (.istore 5, 2) := by decide +kernel
theorem dL_law_311 : decode cL_law 311 = .ok (.aload_n 2, 1) := by decide +kernel
theorem dL_law_312 : decode cL_law 312 = .ok (.aload_n 0, 1) := by decide +kernel
theorem dL_law_313 : decode cL_law 313 = .ok (.iload 4, 2) := by decide +kernel
theorem dL_law_315 : decode cL_law 315 = .ok (.iconst 1, 1) := by decide +kernel
theorem dL_law_316 : decode cL_law 316 = .ok (.iadd, 1) := by decide +kernel
theorem dL_law_317 : decode cL_law 317 = .ok (.iaload, 1) := by decide +kernel
theorem dL_law_318 : decode cL_law 318 = .ok (.aload_n 0, 1) := by decide +kernel
theorem dL_law_319 : decode cL_law 319 = .ok (.iload 4, 2) := by decide +kernel
theorem dL_law_321 : decode cL_law 321 = .ok (.iconst 2, 1) := by decide +kernel
theorem dL_law_322 : decode cL_law 322 = .ok (.iadd, 1) := by decide +kernel
theorem dL_law_323 : decode cL_law 323 = .ok (.iaload, 1) := by decide +kernel
theorem dL_law_324 : decode cL_law 324 = .ok (.invokevirtual 77, 3) := by decide +kernel
theorem dL_law_327 : decode cL_law 327 = .ok (.istore 6, 2) := by decide +kernel
theorem dL_law_329 : decode cL_law 329 = .ok (.aload_n 2, 1) := by decide +kernel
theorem dL_law_330 : decode cL_law 330 = .ok (.invokevirtual 59, 3) := by decide +kernel
theorem dL_law_333 : decode cL_law 333 = .ok (.iload 5, 2) := by decide +kernel
theorem dL_law_335 : decode cL_law 335 = .ok (.if_icmp .eq 5, 3) := by decide +kernel
theorem dL_law_338 : decode cL_law 338 = .ok (.iconst 0, 1) := by decide +kernel
theorem dL_law_339 : decode cL_law 339 = .ok (.ireturn, 1) := by decide +kernel
theorem dL_law_340 : decode cL_law 340 = .ok (.iload 5, 2) := by decide +kernel
theorem dL_law_342 : decode cL_law 342 = .ok (.ifCond .ne 15, 3) := by decide +kernel
theorem dL_law_345 : decode cL_law 345 = .ok (.aload_n 3, 1) := by decide +kernel
theorem dL_law_346 : decode cL_law 346 = .ok (.iconst 0, 1) := by decide +kernel
theorem dL_law_347 : decode cL_law 347 = .ok (.laload, 1) := by decide +kernel
theorem dL_law_348 : decode cL_law 348 = .ok (.iload 6, 2) := by decide +kernel
theorem dL_law_350 : decode cL_law 350 = .ok (.i2l, 1) := by decide +kernel
theorem dL_law_351 : decode cL_law 351 = .ok (.lcmp, 1) := by decide +kernel
theorem dL_law_352 : decode cL_law 352 = .ok (.ifCond .eq 5, 3) := by decide +kernel
theorem dL_law_355 : decode cL_law 355 = .ok (.iconst 0, 1) := by decide +kernel
theorem dL_law_356 : decode cL_law 356 = .ok (.ireturn, 1) := by decide +kernel
theorem dL_law_357 : decode cL_law 357 = .ok (.goto 344, 3) := by decide +kernel
theorem dL_law_360 : decode cL_law 360 = .ok (.aload_n 1, 1) := by decide +kernel
theorem dL_law_361 : decode cL_law 361 = .ok (.aload_n 0, 1) := by decide +kernel
theorem dL_law_362 : decode cL_law 362 = .ok (.iload 4, 2) := by decide +kernel
theorem dL_law_364 : decode cL_law 364 = .ok (.iconst 1, 1) := by decide +kernel
theorem dL_law_365 : decode cL_law 365 = .ok (.iadd, 1) := by decide +kernel
theorem dL_law_366 : decode cL_law 366 = .ok (.iaload, 1) := by decide +kernel
theorem dL_law_367 : decode cL_law 367 = .ok (.aload_n 3, 1) := by decide +kernel
theorem dL_law_368 : decode cL_law 368 = .ok (.invokestatic 78, 3) := by decide +kernel
theorem dL_law_371 : decode cL_law 371 = .ok (.istore 5, 2) := by decide +kernel
theorem dL_law_373 : decode cL_law 373 = .ok (.aload_n 2, 1) := by decide +kernel
theorem dL_law_374 : decode cL_law 374 = .ok (.aload_n 0, 1) := by decide +kernel
theorem dL_law_375 : decode cL_law 375 = .ok (.iload 4, 2) := by decide +kernel
theorem dL_law_377 : decode cL_law 377 = .ok (.iconst 1, 1) := by decide +kernel
theorem dL_law_378 : decode cL_law 378 = .ok (.iadd, 1) := by decide +kernel
theorem dL_law_379 : decode cL_law 379 = .ok (.iaload, 1) := by decide +kernel
theorem dL_law_380 : decode cL_law 380 = .ok (.invokevirtual 80, 3) := by decide +kernel
theorem dL_law_383 : decode cL_law 383 = .ok (.istore 6, 2) := by decide +kernel
theorem dL_law_385 : decode cL_law 385 = .ok (.aload_n 2, 1) := by decide +kernel
theorem dL_law_386 : decode cL_law 386 = .ok (.invokevirtual 59, 3) := by decide +kernel
theorem dL_law_389 : decode cL_law 389 = .ok (.iload 5, 2) := by decide +kernel
theorem dL_law_391 : decode cL_law 391 = .ok (.if_icmp .eq 5, 3) := by decide +kernel
theorem dL_law_394 : decode cL_law 394 = .ok (.iconst 0, 1) := by decide +kernel
theorem dL_law_395 : decode cL_law 395 = .ok (.ireturn, 1) := by decide +kernel
theorem dL_law_396 : decode cL_law 396 = .ok (.iload 5, 2) := by decide +kernel
theorem dL_law_398 : decode cL_law 398 = .ok (.ifCond .ne 15, 3) := by decide +kernel
theorem dL_law_401 : decode cL_law 401 = .ok (.aload_n 3, 1) := by decide +kernel
theorem dL_law_402 : decode cL_law 402 = .ok (.iconst 0, 1) := by decide +kernel
theorem dL_law_403 : decode cL_law 403 = .ok (.laload, 1) := by decide +kernel
theorem dL_law_404 : decode cL_law 404 = .ok (.iload 6, 2) := by decide +kernel
theorem dL_law_406 : decode cL_law 406 = .ok (.i2l, 1) := by decide +kernel
theorem dL_law_407 : decode cL_law 407 = .ok (.lcmp, 1) := by decide +kernel
theorem dL_law_408 : decode cL_law 408 = .ok (.ifCond .eq 5, 3) := by decide +kernel
theorem dL_law_411 : decode cL_law 411 = .ok (.iconst 0, 1) := by decide +kernel
theorem dL_law_412 : decode cL_law 412 = .ok (.ireturn, 1) := by decide +kernel
theorem dL_law_413 : decode cL_law 413 = .ok (.goto 288, 3) := by decide +kernel
theorem dL_law_416 : decode cL_law 416 = .ok (.aload_n 1, 1) := by decide +kernel
theorem dL_law_417 : decode cL_law 417 = .ok (.invokevirtual 81, 3) := by decide +kernel
theorem dL_law_420 : decode cL_law 420 = .ok (.aload_n 2, 1) := by decide +kernel
theorem dL_law_421 : decode cL_law 421 = .ok (.invokevirtual 84, 3) := by decide +kernel
theorem dL_law_424 : decode cL_law 424 = .ok (.goto 277, 3) := by decide +kernel
theorem dL_law_427 : decode cL_law 427 = .ok (.aload_n 1, 1) := by decide +kernel
theorem dL_law_428 : decode cL_law 428 = .ok (.invokevirtual 85, 3) := by decide +kernel
theorem dL_law_431 : decode cL_law 431 = .ok (.aload_n 2, 1) := by decide +kernel
theorem dL_law_432 : decode cL_law 432 = .ok (.invokevirtual 88, 3) := by decide +kernel
theorem dL_law_435 : decode cL_law 435 = .ok (.if_icmp .eq 266, 3) := by decide +kernel
theorem dL_law_438 : decode cL_law 438 = .ok (.iconst 0, 1) := by decide +kernel
theorem dL_law_439 : decode cL_law 439 = .ok (.ireturn, 1) := by decide +kernel
theorem dL_law_440 : decode cL_law 440 = .ok (.aload_n 1, 1) := by decide +kernel
theorem dL_law_441 : decode cL_law 441 = .ok (.aload_n 0, 1) := by decide +kernel
theorem dL_law_442 : decode cL_law 442 = .ok (.iload 4, 2) := by decide +kernel
theorem dL_law_444 : decode cL_law 444 = .ok (.iconst 1, 1) := by decide +kernel
theorem dL_law_445 : decode cL_law 445 = .ok (.iadd, 1) := by decide +kernel
theorem dL_law_446 : decode cL_law 446 = .ok (.iaload, 1) := by decide +kernel
theorem dL_law_447 : decode cL_law 447 = .ok (.aload_n 0, 1) := by decide +kernel
theorem dL_law_448 : decode cL_law 448 = .ok (.iload 4, 2) := by decide +kernel
theorem dL_law_450 : decode cL_law 450 = .ok (.iconst 2, 1) := by decide +kernel
theorem dL_law_451 : decode cL_law 451 = .ok (.iadd, 1) := by decide +kernel
theorem dL_law_452 : decode cL_law 452 = .ok (.iaload, 1) := by decide +kernel
theorem dL_law_453 : decode cL_law 453 = .ok (.aload_n 3, 1) := by decide +kernel
theorem dL_law_454 : decode cL_law 454 = .ok (.invokestatic 89, 3) := by decide +kernel
theorem dL_law_457 : decode cL_law 457 = .ok (.istore 5, 2) := by decide +kernel
theorem dL_law_459 : decode cL_law 459 = .ok (.aload_n 2, 1) := by decide +kernel
theorem dL_law_460 : decode cL_law 460 = .ok (.aload_n 0, 1) := by decide +kernel
theorem dL_law_461 : decode cL_law 461 = .ok (.iload 4, 2) := by decide +kernel
theorem dL_law_463 : decode cL_law 463 = .ok (.iconst 1, 1) := by decide +kernel
theorem dL_law_464 : decode cL_law 464 = .ok (.iadd, 1) := by decide +kernel
theorem dL_law_465 : decode cL_law 465 = .ok (.iaload, 1) := by decide +kernel
theorem dL_law_466 : decode cL_law 466 = .ok (.aload_n 0, 1) := by decide +kernel
theorem dL_law_467 : decode cL_law 467 = .ok (.iload 4, 2) := by decide +kernel
theorem dL_law_469 : decode cL_law 469 = .ok (.iconst 2, 1) := by decide +kernel
theorem dL_law_470 : decode cL_law 470 = .ok (.iadd, 1) := by decide +kernel
theorem dL_law_471 : decode cL_law 471 = .ok (.iaload, 1) := by decide +kernel
theorem dL_law_472 : decode cL_law 472 = .ok (.invokevirtual 91, 3) := by decide +kernel
theorem dL_law_475 : decode cL_law 475 = .ok (.istore 6, 2) := by decide +kernel
theorem dL_law_477 : decode cL_law 477 = .ok (.aload_n 2, 1) := by decide +kernel
theorem dL_law_478 : decode cL_law 478 = .ok (.invokevirtual 59, 3) := by decide +kernel
theorem dL_law_481 : decode cL_law 481 = .ok (.iload 5, 2) := by decide +kernel
theorem dL_law_483 : decode cL_law 483 = .ok (.if_icmp .eq 5, 3) := by decide +kernel
theorem dL_law_486 : decode cL_law 486 = .ok (.iconst 0, 1) := by decide +kernel
theorem dL_law_487 : decode cL_law 487 = .ok (.ireturn, 1) := by decide +kernel
theorem dL_law_488 : decode cL_law 488 = .ok (.iload 5, 2) := by decide +kernel
theorem dL_law_490 : decode cL_law 490 = .ok (.ifCond .ne 15, 3) := by decide +kernel
theorem dL_law_493 : decode cL_law 493 = .ok (.aload_n 3, 1) := by decide +kernel
theorem dL_law_494 : decode cL_law 494 = .ok (.iconst 0, 1) := by decide +kernel
theorem dL_law_495 : decode cL_law 495 = .ok (.laload, 1) := by decide +kernel
theorem dL_law_496 : decode cL_law 496 = .ok (.iload 6, 2) := by decide +kernel
theorem dL_law_498 : decode cL_law 498 = .ok (.i2l, 1) := by decide +kernel
theorem dL_law_499 : decode cL_law 499 = .ok (.lcmp, 1) := by decide +kernel
theorem dL_law_500 : decode cL_law 500 = .ok (.ifCond .eq 5, 3) := by decide +kernel
theorem dL_law_503 : decode cL_law 503 = .ok (.iconst 0, 1) := by decide +kernel
theorem dL_law_504 : decode cL_law 504 = .ok (.ireturn, 1) := by decide +kernel
theorem dL_law_505 : decode cL_law 505 = .ok (.goto 196, 3) := by decide +kernel
theorem dL_law_508 : decode cL_law 508 = .ok (.aload_n 1, 1) := by decide +kernel
theorem dL_law_509 : decode cL_law 509 = .ok (.invokevirtual 92, 3) := by decide +kernel
theorem dL_law_512 : decode cL_law 512 = .ok (.aload_n 2, 1) := by decide +kernel
theorem dL_law_513 : decode cL_law 513 = .ok (.invokevirtual 95, 3) := by decide +kernel
theorem dL_law_516 : decode cL_law 516 = .ok (.if_icmp .eq 185, 3) := by decide +kernel
theorem dL_law_519 : decode cL_law 519 = .ok (.iconst 0, 1) := by decide +kernel
theorem dL_law_520 : decode cL_law 520 = .ok (.ireturn, 1) := by decide +kernel
theorem dL_law_521 : decode cL_law 521 = .ok (.aload_n 1, 1) := by decide +kernel
theorem dL_law_522 : decode cL_law 522 = .ok (.aload_n 0, 1) := by decide +kernel
theorem dL_law_523 : decode cL_law 523 = .ok (.iload 4, 2) := by decide +kernel
theorem dL_law_525 : decode cL_law 525 = .ok (.iconst 1, 1) := by decide +kernel
theorem dL_law_526 : decode cL_law 526 = .ok (.iadd, 1) := by decide +kernel
theorem dL_law_527 : decode cL_law 527 = .ok (.iaload, 1) := by decide +kernel
theorem dL_law_528 : decode cL_law 528 = .ok (.aload_n 0, 1) := by decide +kernel
theorem dL_law_529 : decode cL_law 529 = .ok (.iload 4, 2) := by decide +kernel
theorem dL_law_531 : decode cL_law 531 = .ok (.iconst 2, 1) := by decide +kernel
theorem dL_law_532 : decode cL_law 532 = .ok (.iadd, 1) := by decide +kernel
theorem dL_law_533 : decode cL_law 533 = .ok (.iaload, 1) := by decide +kernel
theorem dL_law_534 : decode cL_law 534 = .ok (.aload_n 3, 1) := by decide +kernel
theorem dL_law_535 : decode cL_law 535 = .ok (.invokestatic 96, 3) := by decide +kernel
theorem dL_law_538 : decode cL_law 538 = .ok (.istore 5, 2) := by decide +kernel
theorem dL_law_540 : decode cL_law 540 = .ok (.aload_n 2, 1) := by decide +kernel
theorem dL_law_541 : decode cL_law 541 = .ok (.aload_n 0, 1) := by decide +kernel
theorem dL_law_542 : decode cL_law 542 = .ok (.iload 4, 2) := by decide +kernel
theorem dL_law_544 : decode cL_law 544 = .ok (.iconst 1, 1) := by decide +kernel
theorem dL_law_545 : decode cL_law 545 = .ok (.iadd, 1) := by decide +kernel
theorem dL_law_546 : decode cL_law 546 = .ok (.iaload, 1) := by decide +kernel
theorem dL_law_547 : decode cL_law 547 = .ok (.aload_n 0, 1) := by decide +kernel
theorem dL_law_548 : decode cL_law 548 = .ok (.iload 4, 2) := by decide +kernel
theorem dL_law_550 : decode cL_law 550 = .ok (.iconst 2, 1) := by decide +kernel
theorem dL_law_551 : decode cL_law 551 = .ok (.iadd, 1) := by decide +kernel
theorem dL_law_552 : decode cL_law 552 = .ok (.iaload, 1) := by decide +kernel
theorem dL_law_553 : decode cL_law 553 = .ok (.invokevirtual 98, 3) := by decide +kernel
theorem dL_law_556 : decode cL_law 556 = .ok (.istore 6, 2) := by decide +kernel
theorem dL_law_558 : decode cL_law 558 = .ok (.aload_n 2, 1) := by decide +kernel
theorem dL_law_559 : decode cL_law 559 = .ok (.invokevirtual 59, 3) := by decide +kernel
theorem dL_law_562 : decode cL_law 562 = .ok (.iload 5, 2) := by decide +kernel
theorem dL_law_564 : decode cL_law 564 = .ok (.if_icmp .eq 5, 3) := by decide +kernel
theorem dL_law_567 : decode cL_law 567 = .ok (.iconst 0, 1) := by decide +kernel
theorem dL_law_568 : decode cL_law 568 = .ok (.ireturn, 1) := by decide +kernel
theorem dL_law_569 : decode cL_law 569 = .ok (.iload 5, 2) := by decide +kernel
theorem dL_law_571 : decode cL_law 571 = .ok (.ifCond .ne 15, 3) := by decide +kernel
theorem dL_law_574 : decode cL_law 574 = .ok (.aload_n 3, 1) := by decide +kernel
theorem dL_law_575 : decode cL_law 575 = .ok (.iconst 0, 1) := by decide +kernel
theorem dL_law_576 : decode cL_law 576 = .ok (.laload, 1) := by decide +kernel
theorem dL_law_577 : decode cL_law 577 = .ok (.iload 6, 2) := by decide +kernel
theorem dL_law_579 : decode cL_law 579 = .ok (.i2l, 1) := by decide +kernel
theorem dL_law_580 : decode cL_law 580 = .ok (.lcmp, 1) := by decide +kernel
theorem dL_law_581 : decode cL_law 581 = .ok (.ifCond .eq 5, 3) := by decide +kernel
theorem dL_law_584 : decode cL_law 584 = .ok (.iconst 0, 1) := by decide +kernel
theorem dL_law_585 : decode cL_law 585 = .ok (.ireturn, 1) := by decide +kernel
theorem dL_law_586 : decode cL_law 586 = .ok (.goto 115, 3) := by decide +kernel
theorem dL_law_589 : decode cL_law 589 = .ok (.aload_n 1, 1) := by decide +kernel
theorem dL_law_590 : decode cL_law 590 = .ok (.aload_n 0, 1) := by decide +kernel
theorem dL_law_591 : decode cL_law 591 = .ok (.iload 4, 2) := by decide +kernel
theorem dL_law_593 : decode cL_law 593 = .ok (.iconst 1, 1) := by decide +kernel
theorem dL_law_594 : decode cL_law 594 = .ok (.iadd, 1) := by decide +kernel
theorem dL_law_595 : decode cL_law 595 = .ok (.iaload, 1) := by decide +kernel
theorem dL_law_596 : decode cL_law 596 = .ok (.aload_n 3, 1) := by decide +kernel
theorem dL_law_597 : decode cL_law 597 = .ok (.invokestatic 99, 3) := by decide +kernel
theorem dL_law_600 : decode cL_law 600 = .ok (.istore 5, 2) := by decide +kernel
theorem dL_law_602 : decode cL_law 602 = .ok (.aload_n 2, 1) := by decide +kernel
theorem dL_law_603 : decode cL_law 603 = .ok (.aload_n 0, 1) := by decide +kernel
theorem dL_law_604 : decode cL_law 604 = .ok (.iload 4, 2) := by decide +kernel
theorem dL_law_606 : decode cL_law 606 = .ok (.iconst 1, 1) := by decide +kernel
theorem dL_law_607 : decode cL_law 607 = .ok (.iadd, 1) := by decide +kernel
theorem dL_law_608 : decode cL_law 608 = .ok (.iaload, 1) := by decide +kernel
theorem dL_law_609 : decode cL_law 609 = .ok (.invokevirtual 101, 3) := by decide +kernel
theorem dL_law_612 : decode cL_law 612 = .ok (.istore 6, 2) := by decide +kernel
theorem dL_law_614 : decode cL_law 614 = .ok (.aload_n 2, 1) := by decide +kernel
theorem dL_law_615 : decode cL_law 615 = .ok (.invokevirtual 59, 3) := by decide +kernel
theorem dL_law_618 : decode cL_law 618 = .ok (.iload 5, 2) := by decide +kernel
theorem dL_law_620 : decode cL_law 620 = .ok (.if_icmp .eq 5, 3) := by decide +kernel
theorem dL_law_623 : decode cL_law 623 = .ok (.iconst 0, 1) := by decide +kernel
theorem dL_law_624 : decode cL_law 624 = .ok (.ireturn, 1) := by decide +kernel
theorem dL_law_625 : decode cL_law 625 = .ok (.iload 5, 2) := by decide +kernel
theorem dL_law_627 : decode cL_law 627 = .ok (.ifCond .ne 15, 3) := by decide +kernel
theorem dL_law_630 : decode cL_law 630 = .ok (.aload_n 3, 1) := by decide +kernel
theorem dL_law_631 : decode cL_law 631 = .ok (.iconst 0, 1) := by decide +kernel
theorem dL_law_632 : decode cL_law 632 = .ok (.laload, 1) := by decide +kernel
theorem dL_law_633 : decode cL_law 633 = .ok (.iload 6, 2) := by decide +kernel
theorem dL_law_635 : decode cL_law 635 = .ok (.i2l, 1) := by decide +kernel
theorem dL_law_636 : decode cL_law 636 = .ok (.lcmp, 1) := by decide +kernel
theorem dL_law_637 : decode cL_law 637 = .ok (.ifCond .eq 5, 3) := by decide +kernel
theorem dL_law_640 : decode cL_law 640 = .ok (.iconst 0, 1) := by decide +kernel
theorem dL_law_641 : decode cL_law 641 = .ok (.ireturn, 1) := by decide +kernel
theorem dL_law_642 : decode cL_law 642 = .ok (.goto 59, 3) := by decide +kernel
theorem dL_law_645 : decode cL_law 645 = .ok (.aload_n 1, 1) := by decide +kernel
theorem dL_law_646 : decode cL_law 646 = .ok (.aload_n 0, 1) := by decide +kernel
theorem dL_law_647 : decode cL_law 647 = .ok (.iload 4, 2) := by decide +kernel
theorem dL_law_649 : decode cL_law 649 = .ok (.iconst 1, 1) := by decide +kernel
theorem dL_law_650 : decode cL_law 650 = .ok (.iadd, 1) := by decide +kernel
theorem dL_law_651 : decode cL_law 651 = .ok (.iaload, 1) := by decide +kernel
theorem dL_law_652 : decode cL_law 652 = .ok (.aload_n 3, 1) := by decide +kernel
theorem dL_law_653 : decode cL_law 653 = .ok (.invokestatic 102, 3) := by decide +kernel
theorem dL_law_656 : decode cL_law 656 = .ok (.istore 5, 2) := by decide +kernel
theorem dL_law_658 : decode cL_law 658 = .ok (.aload_n 2, 1) := by decide +kernel
theorem dL_law_659 : decode cL_law 659 = .ok (.aload_n 0, 1) := by decide +kernel
theorem dL_law_660 : decode cL_law 660 = .ok (.iload 4, 2) := by decide +kernel
theorem dL_law_662 : decode cL_law 662 = .ok (.iconst 1, 1) := by decide +kernel
theorem dL_law_663 : decode cL_law 663 = .ok (.iadd, 1) := by decide +kernel
theorem dL_law_664 : decode cL_law 664 = .ok (.iaload, 1) := by decide +kernel
theorem dL_law_665 : decode cL_law 665 = .ok (.invokevirtual 104, 3) := by decide +kernel
theorem dL_law_668 : decode cL_law 668 = .ok (.istore 6, 2) := by decide +kernel
theorem dL_law_670 : decode cL_law 670 = .ok (.aload_n 2, 1) := by decide +kernel
theorem dL_law_671 : decode cL_law 671 = .ok (.invokevirtual 59, 3) := by decide +kernel
theorem dL_law_674 : decode cL_law 674 = .ok (.iload 5, 2) := by decide +kernel
theorem dL_law_676 : decode cL_law 676 = .ok (.if_icmp .eq 5, 3) := by decide +kernel
theorem dL_law_679 : decode cL_law 679 = .ok (.iconst 0, 1) := by decide +kernel
theorem dL_law_680 : decode cL_law 680 = .ok (.ireturn, 1) := by decide +kernel
theorem dL_law_681 : decode cL_law 681 = .ok (.iload 5, 2) := by decide +kernel
theorem dL_law_683 : decode cL_law 683 = .ok (.ifCond .ne 15, 3) := by decide +kernel
theorem dL_law_686 : decode cL_law 686 = .ok (.aload_n 3, 1) := by decide +kernel
theorem dL_law_687 : decode cL_law 687 = .ok (.iconst 0, 1) := by decide +kernel
theorem dL_law_688 : decode cL_law 688 = .ok (.laload, 1) := by decide +kernel
theorem dL_law_689 : decode cL_law 689 = .ok (.iload 6, 2) := by decide +kernel
theorem dL_law_691 : decode cL_law 691 = .ok (.i2l, 1) := by decide +kernel
theorem dL_law_692 : decode cL_law 692 = .ok (.lcmp, 1) := by decide +kernel
theorem dL_law_693 : decode cL_law 693 = .ok (.ifCond .eq 5, 3) := by decide +kernel
theorem dL_law_696 : decode cL_law 696 = .ok (.iconst 0, 1) := by decide +kernel
theorem dL_law_697 : decode cL_law 697 = .ok (.ireturn, 1) := by decide +kernel
theorem dL_law_698 : decode cL_law 698 = .ok (.goto 3, 3) := by decide +kernel
theorem dL_law_701 : decode cL_law 701 = .ok (.iinc 4 4, 3) := by decide +kernel
theorem dL_law_704 : decode cL_law 704 = .ok (.goto (-681), 3) := by decide +kernel
theorem dL_law_707 : decode cL_law 707 = .ok (.iconst 1, 1) := by decide +kernel
theorem dL_law_708 : decode cL_law 708 = .ok (.ireturn, 1) := by decide +kernel
abbrev vwCl : List vw_C := [(RX0, TX0, 4), (RX1, TX1, 19), (RX2, TX2, 12), (RX3, TX3, 24)]
/-- the objects of FeedbackQueues$Level, kind 0: what each holds, by its address -/
structure wK_O_Level where
  f_quantum : Nat → Int32
  f_share : Nat → Int32
  f_queue : Nat → Option Nat
  f_size : Nat → Int32
/-- the objects of FeedbackQueues$Task, kind 1: what each holds, by its address -/
structure wK_O_Task where
  f_number : Nat → Int32
  f_arrival : Nat → Int32
  f_bursts : Nat → Option Nat
  f_burstCount : Nat → Int32
  f_state : Nat → Int32
  f_level : Nat → Int32
  f_burstsBegun : Nat → Int32
  f_burstLeft : Nat → Int32
  f_quantumLeft : Nat → Int32
  f_shareLeft : Nat → Int32
  f_keepsQuantum : Nat → Int32
  f_ticksRun : Nat → Int32
  f_ticksReady : Nat → Int32
  f_ticksBlocked : Nat → Int32
  f_firstRun : Nat → Int32
  f_endedAt : Nat → Int32
  f_timesSwitchedTo : Nat → Int32
  f_timesDown : Nat → Int32
  f_timesToFront : Nat → Int32
/-- the objects of FeedbackQueues, kind 2: what each holds, by its address -/
structure wK_O_FeedbackQueues where
  f_levelRows : Nat → Option Nat
  f_tasks : Nat → Option Nat
  f_switchesKept : Nat → Option Nat
  f_levelCount : Nat → Int32
  f_taskCount : Nat → Int32
  f_periodTicks : Nat → Int32
  f_now : Nat → Int32
  f_onProcessor : Nat → Option Nat
  f_switchCount : Nat → Int32
  f_idleCount : Nat → Int32
  f_comeUpCount : Nat → Int32
  f_endedCount : Nat → Int32
/-- the objects of FeedbackQueuesModel, kind 3: what each holds, by its address -/
structure wK_O_FeedbackQueuesModel where
  f_thrown : Nat → Int32
  f_levels : Nat → Int32
  f_quanta : Nat → Option Nat
  f_shares : Nat → Option Nat
  f_period : Nat → Int32
  f_processes : Nat → Int32
  f_arrivals : Nat → Option Nat
  f_bursts : Nat → Option Nat
  f_ticks : Nat → Option Nat
  f_time : Nat → Int32
  f_running : Nat → Int32
  f_state : Nat → Option Nat
  f_level : Nat → Option Nat
  f_at : Nat → Option Nat
  f_left : Nat → Option Nat
  f_quantum : Nat → Option Nat
  f_share : Nat → Option Nat
  f_kept : Nat → Option Nat
  f_until : Nat → Option Nat
  f_counts : Nat → Option Nat
  f_queue : Nat → Option Nat
  f_size : Nat → Option Nat
  f_all : Nat → Option Nat
  f_switches : Nat → Option Nat
/-- the arrays of kind 4: what each holds, by its address -/
structure wK_R_I where
  len : Nat → Nat
  row : Nat → Nat → Int32
/-- the arrays of kind 5: what each holds, by its address -/
structure wK_R_Z where
  len : Nat → Nat
  row : Nat → Nat → Int32
/-- the arrays of kind 6: what each holds, by its address -/
structure wK_R_Level where
  len : Nat → Nat
  row : Nat → Nat → Option Nat
/-- the arrays of kind 7: what each holds, by its address -/
structure wK_R_Task where
  len : Nat → Nat
  row : Nat → Nat → Option Nat
/-- the pool: the addresses, the kind of each, and the kinds -/
structure wPS where
  L : List Nat
  K : Nat → Nat
  O_Level : wK_O_Level
  O_Task : wK_O_Task
  O_FeedbackQueues : wK_O_FeedbackQueues
  O_FeedbackQueuesModel : wK_O_FeedbackQueuesModel
  R_I : wK_R_I
  R_Z : wK_R_Z
  R_Level : wK_R_Level
  R_Task : wK_R_Task
/-- the empty pool -/
abbrev wP0 : wPS := { L := [], K := (fun _ => 0), O_Level := { f_quantum := (fun _ => 0), f_share := (fun _ => 0), f_queue := (fun _ => none), f_size := (fun _ => 0) }, O_Task := { f_number := (fun _ => 0), f_arrival := (fun _ => 0), f_bursts := (fun _ => none), f_burstCount := (fun _ => 0), f_state := (fun _ => 0), f_level := (fun _ => 0), f_burstsBegun := (fun _ => 0), f_burstLeft := (fun _ => 0), f_quantumLeft := (fun _ => 0), f_shareLeft := (fun _ => 0), f_keepsQuantum := (fun _ => 0), f_ticksRun := (fun _ => 0), f_ticksReady := (fun _ => 0), f_ticksBlocked := (fun _ => 0), f_firstRun := (fun _ => 0), f_endedAt := (fun _ => 0), f_timesSwitchedTo := (fun _ => 0), f_timesDown := (fun _ => 0), f_timesToFront := (fun _ => 0) }, O_FeedbackQueues := { f_levelRows := (fun _ => none), f_tasks := (fun _ => none), f_switchesKept := (fun _ => none), f_levelCount := (fun _ => 0), f_taskCount := (fun _ => 0), f_periodTicks := (fun _ => 0), f_now := (fun _ => 0), f_onProcessor := (fun _ => none), f_switchCount := (fun _ => 0), f_idleCount := (fun _ => 0), f_comeUpCount := (fun _ => 0), f_endedCount := (fun _ => 0) }, O_FeedbackQueuesModel := { f_thrown := (fun _ => 0), f_levels := (fun _ => 0), f_quanta := (fun _ => none), f_shares := (fun _ => none), f_period := (fun _ => 0), f_processes := (fun _ => 0), f_arrivals := (fun _ => none), f_bursts := (fun _ => none), f_ticks := (fun _ => none), f_time := (fun _ => 0), f_running := (fun _ => 0), f_state := (fun _ => none), f_level := (fun _ => none), f_at := (fun _ => none), f_left := (fun _ => none), f_quantum := (fun _ => none), f_share := (fun _ => none), f_kept := (fun _ => none), f_until := (fun _ => none), f_counts := (fun _ => none), f_queue := (fun _ => none), f_size := (fun _ => none), f_all := (fun _ => none), f_switches := (fun _ => none) }, R_I := { len := (fun _ => 0), row := (fun _ _ => 0) }, R_Z := { len := (fun _ => 0), row := (fun _ _ => 0) }, R_Level := { len := (fun _ => 0), row := (fun _ _ => none) }, R_Task := { len := (fun _ => 0), row := (fun _ _ => none) } }
/-- the pool's rows by their kinds -/
abbrev wPF (cyI : ClassId) (cyZ : ClassId) (cyO1ad9c : ClassId) (cyO4b0d4 : ClassId) (S : wPS) : Nat → va_E := fun a => if S.K a = 0 then .inr (0, [.int (S.O_Level.f_quantum a), .int (S.O_Level.f_share a), va_rf (S.O_Level.f_queue a), .int (S.O_Level.f_size a)]) else if S.K a = 1 then .inr (1, [.int (S.O_Task.f_number a), .int (S.O_Task.f_arrival a), va_rf (S.O_Task.f_bursts a), .int (S.O_Task.f_burstCount a), .int (S.O_Task.f_state a), .int (S.O_Task.f_level a), .int (S.O_Task.f_burstsBegun a), .int (S.O_Task.f_burstLeft a), .int (S.O_Task.f_quantumLeft a), .int (S.O_Task.f_shareLeft a), .int (S.O_Task.f_keepsQuantum a), .int (S.O_Task.f_ticksRun a), .int (S.O_Task.f_ticksReady a), .int (S.O_Task.f_ticksBlocked a), .int (S.O_Task.f_firstRun a), .int (S.O_Task.f_endedAt a), .int (S.O_Task.f_timesSwitchedTo a), .int (S.O_Task.f_timesDown a), .int (S.O_Task.f_timesToFront a)]) else if S.K a = 2 then .inr (2, [va_rf (S.O_FeedbackQueues.f_levelRows a), va_rf (S.O_FeedbackQueues.f_tasks a), va_rf (S.O_FeedbackQueues.f_switchesKept a), .int (S.O_FeedbackQueues.f_levelCount a), .int (S.O_FeedbackQueues.f_taskCount a), .int (S.O_FeedbackQueues.f_periodTicks a), .int (S.O_FeedbackQueues.f_now a), va_rf (S.O_FeedbackQueues.f_onProcessor a), .int (S.O_FeedbackQueues.f_switchCount a), .int (S.O_FeedbackQueues.f_idleCount a), .int (S.O_FeedbackQueues.f_comeUpCount a), .int (S.O_FeedbackQueues.f_endedCount a)]) else if S.K a = 3 then .inr (3, [.int (S.O_FeedbackQueuesModel.f_thrown a), .int (S.O_FeedbackQueuesModel.f_levels a), va_rf (S.O_FeedbackQueuesModel.f_quanta a), va_rf (S.O_FeedbackQueuesModel.f_shares a), .int (S.O_FeedbackQueuesModel.f_period a), .int (S.O_FeedbackQueuesModel.f_processes a), va_rf (S.O_FeedbackQueuesModel.f_arrivals a), va_rf (S.O_FeedbackQueuesModel.f_bursts a), va_rf (S.O_FeedbackQueuesModel.f_ticks a), .int (S.O_FeedbackQueuesModel.f_time a), .int (S.O_FeedbackQueuesModel.f_running a), va_rf (S.O_FeedbackQueuesModel.f_state a), va_rf (S.O_FeedbackQueuesModel.f_level a), va_rf (S.O_FeedbackQueuesModel.f_at a), va_rf (S.O_FeedbackQueuesModel.f_left a), va_rf (S.O_FeedbackQueuesModel.f_quantum a), va_rf (S.O_FeedbackQueuesModel.f_share a), va_rf (S.O_FeedbackQueuesModel.f_kept a), va_rf (S.O_FeedbackQueuesModel.f_until a), va_rf (S.O_FeedbackQueuesModel.f_counts a), va_rf (S.O_FeedbackQueuesModel.f_queue a), va_rf (S.O_FeedbackQueuesModel.f_size a), va_rf (S.O_FeedbackQueuesModel.f_all a), va_rf (S.O_FeedbackQueuesModel.f_switches a)]) else if S.K a = 4 then .inl (cyI, S.R_I.len a, .inl (S.R_I.row a)) else if S.K a = 5 then .inl (cyZ, S.R_Z.len a, .inl (S.R_Z.row a)) else if S.K a = 6 then .inl (cyO1ad9c, S.R_Level.len a, .inr (.inr (.inr (.inr (S.R_Level.row a))))) else .inl (cyO4b0d4, S.R_Task.len a, .inr (.inr (.inr (.inr (S.R_Task.row a)))))
theorem wAt_O_Level (cyI : ClassId) (cyZ : ClassId) (cyO1ad9c : ClassId) (cyO4b0d4 : ClassId) (S : wPS) {a : Nat} (h : S.K a = 0) : wPF cyI cyZ cyO1ad9c cyO4b0d4 S a = .inr (0, [.int (S.O_Level.f_quantum a), .int (S.O_Level.f_share a), va_rf (S.O_Level.f_queue a), .int (S.O_Level.f_size a)]) := by simp [wPF, h]
theorem wGt_O_Level (cyI : ClassId) (cyZ : ClassId) (cyO1ad9c : ClassId) (cyO4b0d4 : ClassId) (X : va_W) (S : wPS) {a : Nat} (hL : a ∈ S.L) (h : S.K a = 0) : ∃ k : Nat, (X ++ va_pl S.L (wPF cyI cyZ cyO1ad9c cyO4b0d4 S))[k]? = some (a, wPF cyI cyZ cyO1ad9c cyO4b0d4 S a) ∧ (X ++ va_pl S.L (wPF cyI cyZ cyO1ad9c cyO4b0d4 S))[k]? = some (a, .inr (0, [.int (S.O_Level.f_quantum a), .int (S.O_Level.f_share a), va_rf (S.O_Level.f_queue a), .int (S.O_Level.f_size a)])) := by
  obtain ⟨k, hk⟩ := va_pl_get (X := X) (f := wPF cyI cyZ cyO1ad9c cyO4b0d4 S) hL
  exact ⟨k, hk, hk.trans (congrArg (fun e => some (a, e)) (wAt_O_Level cyI cyZ cyO1ad9c cyO4b0d4 S h))⟩
theorem wSt_O_Level_f_quantum (cyI : ClassId) (cyZ : ClassId) (cyO1ad9c : ClassId) (cyO4b0d4 : ClassId) (S : wPS) {a : Nat} (h : S.K a = 0) (v : Int32) (b : Nat) : va_up (wPF cyI cyZ cyO1ad9c cyO4b0d4 S) a (.inr (0, [.int v, .int (S.O_Level.f_share a), va_rf (S.O_Level.f_queue a), .int (S.O_Level.f_size a)])) b = wPF cyI cyZ cyO1ad9c cyO4b0d4 { S with O_Level := { S.O_Level with f_quantum := va_up S.O_Level.f_quantum a v } } b := by by_cases hb : b = a <;> first | (simp only [wPF, va_up_ne _ _ hb]; done) | (simp only [wPF, va_up, if_neg hb]; done) | simp [wPF, va_re, va_up, va_rf, hb, h]
theorem wPu_O_Level_f_quantum (cyI : ClassId) (cyZ : ClassId) (cyO1ad9c : ClassId) (cyO4b0d4 : ClassId) (X : va_W) (S : wPS) {A : Nat → Prop} {a k : Nat} (hD : va_D A (X ++ va_pl S.L (wPF cyI cyZ cyO1ad9c cyO4b0d4 S))) (hL : a ∈ S.L) (h : S.K a = 0) (hk : (X ++ va_pl S.L (wPF cyI cyZ cyO1ad9c cyO4b0d4 S))[k]? = some (a, wPF cyI cyZ cyO1ad9c cyO4b0d4 S a)) (v : Int32) : (X ++ va_pl S.L (wPF cyI cyZ cyO1ad9c cyO4b0d4 S)).set k (a, .inr (0, [.int v, .int (S.O_Level.f_share a), va_rf (S.O_Level.f_queue a), .int (S.O_Level.f_size a)])) = X ++ va_pl S.L (wPF cyI cyZ cyO1ad9c cyO4b0d4 { S with O_Level := { S.O_Level with f_quantum := va_up S.O_Level.f_quantum a v } }) := by
  rw [va_pl_set hD hL hk]
  exact congrArg (fun l => X ++ l) (va_pl_congr (wSt_O_Level_f_quantum cyI cyZ cyO1ad9c cyO4b0d4 S h v))
theorem wSt_O_Level_f_share (cyI : ClassId) (cyZ : ClassId) (cyO1ad9c : ClassId) (cyO4b0d4 : ClassId) (S : wPS) {a : Nat} (h : S.K a = 0) (v : Int32) (b : Nat) : va_up (wPF cyI cyZ cyO1ad9c cyO4b0d4 S) a (.inr (0, [.int (S.O_Level.f_quantum a), .int v, va_rf (S.O_Level.f_queue a), .int (S.O_Level.f_size a)])) b = wPF cyI cyZ cyO1ad9c cyO4b0d4 { S with O_Level := { S.O_Level with f_share := va_up S.O_Level.f_share a v } } b := by by_cases hb : b = a <;> first | (simp only [wPF, va_up_ne _ _ hb]; done) | (simp only [wPF, va_up, if_neg hb]; done) | simp [wPF, va_re, va_up, va_rf, hb, h]
theorem wPu_O_Level_f_share (cyI : ClassId) (cyZ : ClassId) (cyO1ad9c : ClassId) (cyO4b0d4 : ClassId) (X : va_W) (S : wPS) {A : Nat → Prop} {a k : Nat} (hD : va_D A (X ++ va_pl S.L (wPF cyI cyZ cyO1ad9c cyO4b0d4 S))) (hL : a ∈ S.L) (h : S.K a = 0) (hk : (X ++ va_pl S.L (wPF cyI cyZ cyO1ad9c cyO4b0d4 S))[k]? = some (a, wPF cyI cyZ cyO1ad9c cyO4b0d4 S a)) (v : Int32) : (X ++ va_pl S.L (wPF cyI cyZ cyO1ad9c cyO4b0d4 S)).set k (a, .inr (0, [.int (S.O_Level.f_quantum a), .int v, va_rf (S.O_Level.f_queue a), .int (S.O_Level.f_size a)])) = X ++ va_pl S.L (wPF cyI cyZ cyO1ad9c cyO4b0d4 { S with O_Level := { S.O_Level with f_share := va_up S.O_Level.f_share a v } }) := by
  rw [va_pl_set hD hL hk]
  exact congrArg (fun l => X ++ l) (va_pl_congr (wSt_O_Level_f_share cyI cyZ cyO1ad9c cyO4b0d4 S h v))
theorem wSt_O_Level_f_queue (cyI : ClassId) (cyZ : ClassId) (cyO1ad9c : ClassId) (cyO4b0d4 : ClassId) (S : wPS) {a : Nat} (h : S.K a = 0) (v : Option Nat) (b : Nat) : va_up (wPF cyI cyZ cyO1ad9c cyO4b0d4 S) a (.inr (0, [.int (S.O_Level.f_quantum a), .int (S.O_Level.f_share a), va_rf v, .int (S.O_Level.f_size a)])) b = wPF cyI cyZ cyO1ad9c cyO4b0d4 { S with O_Level := { S.O_Level with f_queue := va_up S.O_Level.f_queue a v } } b := by by_cases hb : b = a <;> first | (simp only [wPF, va_up_ne _ _ hb]; done) | (simp only [wPF, va_up, if_neg hb]; done) | simp [wPF, va_re, va_up, va_rf, hb, h]
theorem wPu_O_Level_f_queue (cyI : ClassId) (cyZ : ClassId) (cyO1ad9c : ClassId) (cyO4b0d4 : ClassId) (X : va_W) (S : wPS) {A : Nat → Prop} {a k : Nat} (hD : va_D A (X ++ va_pl S.L (wPF cyI cyZ cyO1ad9c cyO4b0d4 S))) (hL : a ∈ S.L) (h : S.K a = 0) (hk : (X ++ va_pl S.L (wPF cyI cyZ cyO1ad9c cyO4b0d4 S))[k]? = some (a, wPF cyI cyZ cyO1ad9c cyO4b0d4 S a)) (v : Option Nat) : (X ++ va_pl S.L (wPF cyI cyZ cyO1ad9c cyO4b0d4 S)).set k (a, .inr (0, [.int (S.O_Level.f_quantum a), .int (S.O_Level.f_share a), va_rf v, .int (S.O_Level.f_size a)])) = X ++ va_pl S.L (wPF cyI cyZ cyO1ad9c cyO4b0d4 { S with O_Level := { S.O_Level with f_queue := va_up S.O_Level.f_queue a v } }) := by
  rw [va_pl_set hD hL hk]
  exact congrArg (fun l => X ++ l) (va_pl_congr (wSt_O_Level_f_queue cyI cyZ cyO1ad9c cyO4b0d4 S h v))
theorem wSt_O_Level_f_size (cyI : ClassId) (cyZ : ClassId) (cyO1ad9c : ClassId) (cyO4b0d4 : ClassId) (S : wPS) {a : Nat} (h : S.K a = 0) (v : Int32) (b : Nat) : va_up (wPF cyI cyZ cyO1ad9c cyO4b0d4 S) a (.inr (0, [.int (S.O_Level.f_quantum a), .int (S.O_Level.f_share a), va_rf (S.O_Level.f_queue a), .int v])) b = wPF cyI cyZ cyO1ad9c cyO4b0d4 { S with O_Level := { S.O_Level with f_size := va_up S.O_Level.f_size a v } } b := by by_cases hb : b = a <;> first | (simp only [wPF, va_up_ne _ _ hb]; done) | (simp only [wPF, va_up, if_neg hb]; done) | simp [wPF, va_re, va_up, va_rf, hb, h]
theorem wPu_O_Level_f_size (cyI : ClassId) (cyZ : ClassId) (cyO1ad9c : ClassId) (cyO4b0d4 : ClassId) (X : va_W) (S : wPS) {A : Nat → Prop} {a k : Nat} (hD : va_D A (X ++ va_pl S.L (wPF cyI cyZ cyO1ad9c cyO4b0d4 S))) (hL : a ∈ S.L) (h : S.K a = 0) (hk : (X ++ va_pl S.L (wPF cyI cyZ cyO1ad9c cyO4b0d4 S))[k]? = some (a, wPF cyI cyZ cyO1ad9c cyO4b0d4 S a)) (v : Int32) : (X ++ va_pl S.L (wPF cyI cyZ cyO1ad9c cyO4b0d4 S)).set k (a, .inr (0, [.int (S.O_Level.f_quantum a), .int (S.O_Level.f_share a), va_rf (S.O_Level.f_queue a), .int v])) = X ++ va_pl S.L (wPF cyI cyZ cyO1ad9c cyO4b0d4 { S with O_Level := { S.O_Level with f_size := va_up S.O_Level.f_size a v } }) := by
  rw [va_pl_set hD hL hk]
  exact congrArg (fun l => X ++ l) (va_pl_congr (wSt_O_Level_f_size cyI cyZ cyO1ad9c cyO4b0d4 S h v))
theorem wNw_O_Level (cyI : ClassId) (cyZ : ClassId) (cyO1ad9c : ClassId) (cyO4b0d4 : ClassId) (S : wPS) (a b : Nat) : va_up (wPF cyI cyZ cyO1ad9c cyO4b0d4 S) a (.inr (0, [.int 0, .int 0, .null, .int 0])) b = wPF cyI cyZ cyO1ad9c cyO4b0d4 { S with L := S.L ++ [a], K := va_up S.K a 0, O_Level := { f_quantum := va_up S.O_Level.f_quantum a 0, f_share := va_up S.O_Level.f_share a 0, f_queue := va_up S.O_Level.f_queue a none, f_size := va_up S.O_Level.f_size a 0 } } b := by by_cases hb : b = a <;> first | (simp only [wPF, va_up_ne _ _ hb]; done) | (simp only [wPF, va_up, if_neg hb]; done) | simp [wPF, va_re, va_up, va_rf, hb]
theorem wPn_O_Level (cyI : ClassId) (cyZ : ClassId) (cyO1ad9c : ClassId) (cyO4b0d4 : ClassId) (X : va_W) (S : wPS) {a : Nat} (ha : a ∉ S.L) : (X ++ va_pl S.L (wPF cyI cyZ cyO1ad9c cyO4b0d4 S)) ++ [(a, .inr (0, [.int 0, .int 0, .null, .int 0]))] = X ++ va_pl (S.L ++ [a]) (wPF cyI cyZ cyO1ad9c cyO4b0d4 { S with L := S.L ++ [a], K := va_up S.K a 0, O_Level := { f_quantum := va_up S.O_Level.f_quantum a 0, f_share := va_up S.O_Level.f_share a 0, f_queue := va_up S.O_Level.f_queue a none, f_size := va_up S.O_Level.f_size a 0 } }) := by
  rw [List.append_assoc, va_pl_push ha]
  exact congrArg (fun l => X ++ l) (va_pl_congr (wNw_O_Level cyI cyZ cyO1ad9c cyO4b0d4 S a))
theorem wAt_O_Task (cyI : ClassId) (cyZ : ClassId) (cyO1ad9c : ClassId) (cyO4b0d4 : ClassId) (S : wPS) {a : Nat} (h : S.K a = 1) : wPF cyI cyZ cyO1ad9c cyO4b0d4 S a = .inr (1, [.int (S.O_Task.f_number a), .int (S.O_Task.f_arrival a), va_rf (S.O_Task.f_bursts a), .int (S.O_Task.f_burstCount a), .int (S.O_Task.f_state a), .int (S.O_Task.f_level a), .int (S.O_Task.f_burstsBegun a), .int (S.O_Task.f_burstLeft a), .int (S.O_Task.f_quantumLeft a), .int (S.O_Task.f_shareLeft a), .int (S.O_Task.f_keepsQuantum a), .int (S.O_Task.f_ticksRun a), .int (S.O_Task.f_ticksReady a), .int (S.O_Task.f_ticksBlocked a), .int (S.O_Task.f_firstRun a), .int (S.O_Task.f_endedAt a), .int (S.O_Task.f_timesSwitchedTo a), .int (S.O_Task.f_timesDown a), .int (S.O_Task.f_timesToFront a)]) := by simp [wPF, h]
theorem wGt_O_Task (cyI : ClassId) (cyZ : ClassId) (cyO1ad9c : ClassId) (cyO4b0d4 : ClassId) (X : va_W) (S : wPS) {a : Nat} (hL : a ∈ S.L) (h : S.K a = 1) : ∃ k : Nat, (X ++ va_pl S.L (wPF cyI cyZ cyO1ad9c cyO4b0d4 S))[k]? = some (a, wPF cyI cyZ cyO1ad9c cyO4b0d4 S a) ∧ (X ++ va_pl S.L (wPF cyI cyZ cyO1ad9c cyO4b0d4 S))[k]? = some (a, .inr (1, [.int (S.O_Task.f_number a), .int (S.O_Task.f_arrival a), va_rf (S.O_Task.f_bursts a), .int (S.O_Task.f_burstCount a), .int (S.O_Task.f_state a), .int (S.O_Task.f_level a), .int (S.O_Task.f_burstsBegun a), .int (S.O_Task.f_burstLeft a), .int (S.O_Task.f_quantumLeft a), .int (S.O_Task.f_shareLeft a), .int (S.O_Task.f_keepsQuantum a), .int (S.O_Task.f_ticksRun a), .int (S.O_Task.f_ticksReady a), .int (S.O_Task.f_ticksBlocked a), .int (S.O_Task.f_firstRun a), .int (S.O_Task.f_endedAt a), .int (S.O_Task.f_timesSwitchedTo a), .int (S.O_Task.f_timesDown a), .int (S.O_Task.f_timesToFront a)])) := by
  obtain ⟨k, hk⟩ := va_pl_get (X := X) (f := wPF cyI cyZ cyO1ad9c cyO4b0d4 S) hL
  exact ⟨k, hk, hk.trans (congrArg (fun e => some (a, e)) (wAt_O_Task cyI cyZ cyO1ad9c cyO4b0d4 S h))⟩
theorem wSt_O_Task_f_number (cyI : ClassId) (cyZ : ClassId) (cyO1ad9c : ClassId) (cyO4b0d4 : ClassId) (S : wPS) {a : Nat} (h : S.K a = 1) (v : Int32) (b : Nat) : va_up (wPF cyI cyZ cyO1ad9c cyO4b0d4 S) a (.inr (1, [.int v, .int (S.O_Task.f_arrival a), va_rf (S.O_Task.f_bursts a), .int (S.O_Task.f_burstCount a), .int (S.O_Task.f_state a), .int (S.O_Task.f_level a), .int (S.O_Task.f_burstsBegun a), .int (S.O_Task.f_burstLeft a), .int (S.O_Task.f_quantumLeft a), .int (S.O_Task.f_shareLeft a), .int (S.O_Task.f_keepsQuantum a), .int (S.O_Task.f_ticksRun a), .int (S.O_Task.f_ticksReady a), .int (S.O_Task.f_ticksBlocked a), .int (S.O_Task.f_firstRun a), .int (S.O_Task.f_endedAt a), .int (S.O_Task.f_timesSwitchedTo a), .int (S.O_Task.f_timesDown a), .int (S.O_Task.f_timesToFront a)])) b = wPF cyI cyZ cyO1ad9c cyO4b0d4 { S with O_Task := { S.O_Task with f_number := va_up S.O_Task.f_number a v } } b := by by_cases hb : b = a <;> first | (simp only [wPF, va_up_ne _ _ hb]; done) | (simp only [wPF, va_up, if_neg hb]; done) | simp [wPF, va_re, va_up, va_rf, hb, h]
theorem wPu_O_Task_f_number (cyI : ClassId) (cyZ : ClassId) (cyO1ad9c : ClassId) (cyO4b0d4 : ClassId) (X : va_W) (S : wPS) {A : Nat → Prop} {a k : Nat} (hD : va_D A (X ++ va_pl S.L (wPF cyI cyZ cyO1ad9c cyO4b0d4 S))) (hL : a ∈ S.L) (h : S.K a = 1) (hk : (X ++ va_pl S.L (wPF cyI cyZ cyO1ad9c cyO4b0d4 S))[k]? = some (a, wPF cyI cyZ cyO1ad9c cyO4b0d4 S a)) (v : Int32) : (X ++ va_pl S.L (wPF cyI cyZ cyO1ad9c cyO4b0d4 S)).set k (a, .inr (1, [.int v, .int (S.O_Task.f_arrival a), va_rf (S.O_Task.f_bursts a), .int (S.O_Task.f_burstCount a), .int (S.O_Task.f_state a), .int (S.O_Task.f_level a), .int (S.O_Task.f_burstsBegun a), .int (S.O_Task.f_burstLeft a), .int (S.O_Task.f_quantumLeft a), .int (S.O_Task.f_shareLeft a), .int (S.O_Task.f_keepsQuantum a), .int (S.O_Task.f_ticksRun a), .int (S.O_Task.f_ticksReady a), .int (S.O_Task.f_ticksBlocked a), .int (S.O_Task.f_firstRun a), .int (S.O_Task.f_endedAt a), .int (S.O_Task.f_timesSwitchedTo a), .int (S.O_Task.f_timesDown a), .int (S.O_Task.f_timesToFront a)])) = X ++ va_pl S.L (wPF cyI cyZ cyO1ad9c cyO4b0d4 { S with O_Task := { S.O_Task with f_number := va_up S.O_Task.f_number a v } }) := by
  rw [va_pl_set hD hL hk]
  exact congrArg (fun l => X ++ l) (va_pl_congr (wSt_O_Task_f_number cyI cyZ cyO1ad9c cyO4b0d4 S h v))
theorem wSt_O_Task_f_arrival (cyI : ClassId) (cyZ : ClassId) (cyO1ad9c : ClassId) (cyO4b0d4 : ClassId) (S : wPS) {a : Nat} (h : S.K a = 1) (v : Int32) (b : Nat) : va_up (wPF cyI cyZ cyO1ad9c cyO4b0d4 S) a (.inr (1, [.int (S.O_Task.f_number a), .int v, va_rf (S.O_Task.f_bursts a), .int (S.O_Task.f_burstCount a), .int (S.O_Task.f_state a), .int (S.O_Task.f_level a), .int (S.O_Task.f_burstsBegun a), .int (S.O_Task.f_burstLeft a), .int (S.O_Task.f_quantumLeft a), .int (S.O_Task.f_shareLeft a), .int (S.O_Task.f_keepsQuantum a), .int (S.O_Task.f_ticksRun a), .int (S.O_Task.f_ticksReady a), .int (S.O_Task.f_ticksBlocked a), .int (S.O_Task.f_firstRun a), .int (S.O_Task.f_endedAt a), .int (S.O_Task.f_timesSwitchedTo a), .int (S.O_Task.f_timesDown a), .int (S.O_Task.f_timesToFront a)])) b = wPF cyI cyZ cyO1ad9c cyO4b0d4 { S with O_Task := { S.O_Task with f_arrival := va_up S.O_Task.f_arrival a v } } b := by by_cases hb : b = a <;> first | (simp only [wPF, va_up_ne _ _ hb]; done) | (simp only [wPF, va_up, if_neg hb]; done) | simp [wPF, va_re, va_up, va_rf, hb, h]
theorem wPu_O_Task_f_arrival (cyI : ClassId) (cyZ : ClassId) (cyO1ad9c : ClassId) (cyO4b0d4 : ClassId) (X : va_W) (S : wPS) {A : Nat → Prop} {a k : Nat} (hD : va_D A (X ++ va_pl S.L (wPF cyI cyZ cyO1ad9c cyO4b0d4 S))) (hL : a ∈ S.L) (h : S.K a = 1) (hk : (X ++ va_pl S.L (wPF cyI cyZ cyO1ad9c cyO4b0d4 S))[k]? = some (a, wPF cyI cyZ cyO1ad9c cyO4b0d4 S a)) (v : Int32) : (X ++ va_pl S.L (wPF cyI cyZ cyO1ad9c cyO4b0d4 S)).set k (a, .inr (1, [.int (S.O_Task.f_number a), .int v, va_rf (S.O_Task.f_bursts a), .int (S.O_Task.f_burstCount a), .int (S.O_Task.f_state a), .int (S.O_Task.f_level a), .int (S.O_Task.f_burstsBegun a), .int (S.O_Task.f_burstLeft a), .int (S.O_Task.f_quantumLeft a), .int (S.O_Task.f_shareLeft a), .int (S.O_Task.f_keepsQuantum a), .int (S.O_Task.f_ticksRun a), .int (S.O_Task.f_ticksReady a), .int (S.O_Task.f_ticksBlocked a), .int (S.O_Task.f_firstRun a), .int (S.O_Task.f_endedAt a), .int (S.O_Task.f_timesSwitchedTo a), .int (S.O_Task.f_timesDown a), .int (S.O_Task.f_timesToFront a)])) = X ++ va_pl S.L (wPF cyI cyZ cyO1ad9c cyO4b0d4 { S with O_Task := { S.O_Task with f_arrival := va_up S.O_Task.f_arrival a v } }) := by
  rw [va_pl_set hD hL hk]
  exact congrArg (fun l => X ++ l) (va_pl_congr (wSt_O_Task_f_arrival cyI cyZ cyO1ad9c cyO4b0d4 S h v))
theorem wSt_O_Task_f_bursts (cyI : ClassId) (cyZ : ClassId) (cyO1ad9c : ClassId) (cyO4b0d4 : ClassId) (S : wPS) {a : Nat} (h : S.K a = 1) (v : Option Nat) (b : Nat) : va_up (wPF cyI cyZ cyO1ad9c cyO4b0d4 S) a (.inr (1, [.int (S.O_Task.f_number a), .int (S.O_Task.f_arrival a), va_rf v, .int (S.O_Task.f_burstCount a), .int (S.O_Task.f_state a), .int (S.O_Task.f_level a), .int (S.O_Task.f_burstsBegun a), .int (S.O_Task.f_burstLeft a), .int (S.O_Task.f_quantumLeft a), .int (S.O_Task.f_shareLeft a), .int (S.O_Task.f_keepsQuantum a), .int (S.O_Task.f_ticksRun a), .int (S.O_Task.f_ticksReady a), .int (S.O_Task.f_ticksBlocked a), .int (S.O_Task.f_firstRun a), .int (S.O_Task.f_endedAt a), .int (S.O_Task.f_timesSwitchedTo a), .int (S.O_Task.f_timesDown a), .int (S.O_Task.f_timesToFront a)])) b = wPF cyI cyZ cyO1ad9c cyO4b0d4 { S with O_Task := { S.O_Task with f_bursts := va_up S.O_Task.f_bursts a v } } b := by by_cases hb : b = a <;> first | (simp only [wPF, va_up_ne _ _ hb]; done) | (simp only [wPF, va_up, if_neg hb]; done) | simp [wPF, va_re, va_up, va_rf, hb, h]
theorem wPu_O_Task_f_bursts (cyI : ClassId) (cyZ : ClassId) (cyO1ad9c : ClassId) (cyO4b0d4 : ClassId) (X : va_W) (S : wPS) {A : Nat → Prop} {a k : Nat} (hD : va_D A (X ++ va_pl S.L (wPF cyI cyZ cyO1ad9c cyO4b0d4 S))) (hL : a ∈ S.L) (h : S.K a = 1) (hk : (X ++ va_pl S.L (wPF cyI cyZ cyO1ad9c cyO4b0d4 S))[k]? = some (a, wPF cyI cyZ cyO1ad9c cyO4b0d4 S a)) (v : Option Nat) : (X ++ va_pl S.L (wPF cyI cyZ cyO1ad9c cyO4b0d4 S)).set k (a, .inr (1, [.int (S.O_Task.f_number a), .int (S.O_Task.f_arrival a), va_rf v, .int (S.O_Task.f_burstCount a), .int (S.O_Task.f_state a), .int (S.O_Task.f_level a), .int (S.O_Task.f_burstsBegun a), .int (S.O_Task.f_burstLeft a), .int (S.O_Task.f_quantumLeft a), .int (S.O_Task.f_shareLeft a), .int (S.O_Task.f_keepsQuantum a), .int (S.O_Task.f_ticksRun a), .int (S.O_Task.f_ticksReady a), .int (S.O_Task.f_ticksBlocked a), .int (S.O_Task.f_firstRun a), .int (S.O_Task.f_endedAt a), .int (S.O_Task.f_timesSwitchedTo a), .int (S.O_Task.f_timesDown a), .int (S.O_Task.f_timesToFront a)])) = X ++ va_pl S.L (wPF cyI cyZ cyO1ad9c cyO4b0d4 { S with O_Task := { S.O_Task with f_bursts := va_up S.O_Task.f_bursts a v } }) := by
  rw [va_pl_set hD hL hk]
  exact congrArg (fun l => X ++ l) (va_pl_congr (wSt_O_Task_f_bursts cyI cyZ cyO1ad9c cyO4b0d4 S h v))
theorem wSt_O_Task_f_burstCount (cyI : ClassId) (cyZ : ClassId) (cyO1ad9c : ClassId) (cyO4b0d4 : ClassId) (S : wPS) {a : Nat} (h : S.K a = 1) (v : Int32) (b : Nat) : va_up (wPF cyI cyZ cyO1ad9c cyO4b0d4 S) a (.inr (1, [.int (S.O_Task.f_number a), .int (S.O_Task.f_arrival a), va_rf (S.O_Task.f_bursts a), .int v, .int (S.O_Task.f_state a), .int (S.O_Task.f_level a), .int (S.O_Task.f_burstsBegun a), .int (S.O_Task.f_burstLeft a), .int (S.O_Task.f_quantumLeft a), .int (S.O_Task.f_shareLeft a), .int (S.O_Task.f_keepsQuantum a), .int (S.O_Task.f_ticksRun a), .int (S.O_Task.f_ticksReady a), .int (S.O_Task.f_ticksBlocked a), .int (S.O_Task.f_firstRun a), .int (S.O_Task.f_endedAt a), .int (S.O_Task.f_timesSwitchedTo a), .int (S.O_Task.f_timesDown a), .int (S.O_Task.f_timesToFront a)])) b = wPF cyI cyZ cyO1ad9c cyO4b0d4 { S with O_Task := { S.O_Task with f_burstCount := va_up S.O_Task.f_burstCount a v } } b := by by_cases hb : b = a <;> first | (simp only [wPF, va_up_ne _ _ hb]; done) | (simp only [wPF, va_up, if_neg hb]; done) | simp [wPF, va_re, va_up, va_rf, hb, h]
theorem wPu_O_Task_f_burstCount (cyI : ClassId) (cyZ : ClassId) (cyO1ad9c : ClassId) (cyO4b0d4 : ClassId) (X : va_W) (S : wPS) {A : Nat → Prop} {a k : Nat} (hD : va_D A (X ++ va_pl S.L (wPF cyI cyZ cyO1ad9c cyO4b0d4 S))) (hL : a ∈ S.L) (h : S.K a = 1) (hk : (X ++ va_pl S.L (wPF cyI cyZ cyO1ad9c cyO4b0d4 S))[k]? = some (a, wPF cyI cyZ cyO1ad9c cyO4b0d4 S a)) (v : Int32) : (X ++ va_pl S.L (wPF cyI cyZ cyO1ad9c cyO4b0d4 S)).set k (a, .inr (1, [.int (S.O_Task.f_number a), .int (S.O_Task.f_arrival a), va_rf (S.O_Task.f_bursts a), .int v, .int (S.O_Task.f_state a), .int (S.O_Task.f_level a), .int (S.O_Task.f_burstsBegun a), .int (S.O_Task.f_burstLeft a), .int (S.O_Task.f_quantumLeft a), .int (S.O_Task.f_shareLeft a), .int (S.O_Task.f_keepsQuantum a), .int (S.O_Task.f_ticksRun a), .int (S.O_Task.f_ticksReady a), .int (S.O_Task.f_ticksBlocked a), .int (S.O_Task.f_firstRun a), .int (S.O_Task.f_endedAt a), .int (S.O_Task.f_timesSwitchedTo a), .int (S.O_Task.f_timesDown a), .int (S.O_Task.f_timesToFront a)])) = X ++ va_pl S.L (wPF cyI cyZ cyO1ad9c cyO4b0d4 { S with O_Task := { S.O_Task with f_burstCount := va_up S.O_Task.f_burstCount a v } }) := by
  rw [va_pl_set hD hL hk]
  exact congrArg (fun l => X ++ l) (va_pl_congr (wSt_O_Task_f_burstCount cyI cyZ cyO1ad9c cyO4b0d4 S h v))
theorem wSt_O_Task_f_state (cyI : ClassId) (cyZ : ClassId) (cyO1ad9c : ClassId) (cyO4b0d4 : ClassId) (S : wPS) {a : Nat} (h : S.K a = 1) (v : Int32) (b : Nat) : va_up (wPF cyI cyZ cyO1ad9c cyO4b0d4 S) a (.inr (1, [.int (S.O_Task.f_number a), .int (S.O_Task.f_arrival a), va_rf (S.O_Task.f_bursts a), .int (S.O_Task.f_burstCount a), .int v, .int (S.O_Task.f_level a), .int (S.O_Task.f_burstsBegun a), .int (S.O_Task.f_burstLeft a), .int (S.O_Task.f_quantumLeft a), .int (S.O_Task.f_shareLeft a), .int (S.O_Task.f_keepsQuantum a), .int (S.O_Task.f_ticksRun a), .int (S.O_Task.f_ticksReady a), .int (S.O_Task.f_ticksBlocked a), .int (S.O_Task.f_firstRun a), .int (S.O_Task.f_endedAt a), .int (S.O_Task.f_timesSwitchedTo a), .int (S.O_Task.f_timesDown a), .int (S.O_Task.f_timesToFront a)])) b = wPF cyI cyZ cyO1ad9c cyO4b0d4 { S with O_Task := { S.O_Task with f_state := va_up S.O_Task.f_state a v } } b := by by_cases hb : b = a <;> first | (simp only [wPF, va_up_ne _ _ hb]; done) | (simp only [wPF, va_up, if_neg hb]; done) | simp [wPF, va_re, va_up, va_rf, hb, h]
theorem wPu_O_Task_f_state (cyI : ClassId) (cyZ : ClassId) (cyO1ad9c : ClassId) (cyO4b0d4 : ClassId) (X : va_W) (S : wPS) {A : Nat → Prop} {a k : Nat} (hD : va_D A (X ++ va_pl S.L (wPF cyI cyZ cyO1ad9c cyO4b0d4 S))) (hL : a ∈ S.L) (h : S.K a = 1) (hk : (X ++ va_pl S.L (wPF cyI cyZ cyO1ad9c cyO4b0d4 S))[k]? = some (a, wPF cyI cyZ cyO1ad9c cyO4b0d4 S a)) (v : Int32) : (X ++ va_pl S.L (wPF cyI cyZ cyO1ad9c cyO4b0d4 S)).set k (a, .inr (1, [.int (S.O_Task.f_number a), .int (S.O_Task.f_arrival a), va_rf (S.O_Task.f_bursts a), .int (S.O_Task.f_burstCount a), .int v, .int (S.O_Task.f_level a), .int (S.O_Task.f_burstsBegun a), .int (S.O_Task.f_burstLeft a), .int (S.O_Task.f_quantumLeft a), .int (S.O_Task.f_shareLeft a), .int (S.O_Task.f_keepsQuantum a), .int (S.O_Task.f_ticksRun a), .int (S.O_Task.f_ticksReady a), .int (S.O_Task.f_ticksBlocked a), .int (S.O_Task.f_firstRun a), .int (S.O_Task.f_endedAt a), .int (S.O_Task.f_timesSwitchedTo a), .int (S.O_Task.f_timesDown a), .int (S.O_Task.f_timesToFront a)])) = X ++ va_pl S.L (wPF cyI cyZ cyO1ad9c cyO4b0d4 { S with O_Task := { S.O_Task with f_state := va_up S.O_Task.f_state a v } }) := by
  rw [va_pl_set hD hL hk]
  exact congrArg (fun l => X ++ l) (va_pl_congr (wSt_O_Task_f_state cyI cyZ cyO1ad9c cyO4b0d4 S h v))
theorem wSt_O_Task_f_level (cyI : ClassId) (cyZ : ClassId) (cyO1ad9c : ClassId) (cyO4b0d4 : ClassId) (S : wPS) {a : Nat} (h : S.K a = 1) (v : Int32) (b : Nat) : va_up (wPF cyI cyZ cyO1ad9c cyO4b0d4 S) a (.inr (1, [.int (S.O_Task.f_number a), .int (S.O_Task.f_arrival a), va_rf (S.O_Task.f_bursts a), .int (S.O_Task.f_burstCount a), .int (S.O_Task.f_state a), .int v, .int (S.O_Task.f_burstsBegun a), .int (S.O_Task.f_burstLeft a), .int (S.O_Task.f_quantumLeft a), .int (S.O_Task.f_shareLeft a), .int (S.O_Task.f_keepsQuantum a), .int (S.O_Task.f_ticksRun a), .int (S.O_Task.f_ticksReady a), .int (S.O_Task.f_ticksBlocked a), .int (S.O_Task.f_firstRun a), .int (S.O_Task.f_endedAt a), .int (S.O_Task.f_timesSwitchedTo a), .int (S.O_Task.f_timesDown a), .int (S.O_Task.f_timesToFront a)])) b = wPF cyI cyZ cyO1ad9c cyO4b0d4 { S with O_Task := { S.O_Task with f_level := va_up S.O_Task.f_level a v } } b := by by_cases hb : b = a <;> first | (simp only [wPF, va_up_ne _ _ hb]; done) | (simp only [wPF, va_up, if_neg hb]; done) | simp [wPF, va_re, va_up, va_rf, hb, h]
theorem wPu_O_Task_f_level (cyI : ClassId) (cyZ : ClassId) (cyO1ad9c : ClassId) (cyO4b0d4 : ClassId) (X : va_W) (S : wPS) {A : Nat → Prop} {a k : Nat} (hD : va_D A (X ++ va_pl S.L (wPF cyI cyZ cyO1ad9c cyO4b0d4 S))) (hL : a ∈ S.L) (h : S.K a = 1) (hk : (X ++ va_pl S.L (wPF cyI cyZ cyO1ad9c cyO4b0d4 S))[k]? = some (a, wPF cyI cyZ cyO1ad9c cyO4b0d4 S a)) (v : Int32) : (X ++ va_pl S.L (wPF cyI cyZ cyO1ad9c cyO4b0d4 S)).set k (a, .inr (1, [.int (S.O_Task.f_number a), .int (S.O_Task.f_arrival a), va_rf (S.O_Task.f_bursts a), .int (S.O_Task.f_burstCount a), .int (S.O_Task.f_state a), .int v, .int (S.O_Task.f_burstsBegun a), .int (S.O_Task.f_burstLeft a), .int (S.O_Task.f_quantumLeft a), .int (S.O_Task.f_shareLeft a), .int (S.O_Task.f_keepsQuantum a), .int (S.O_Task.f_ticksRun a), .int (S.O_Task.f_ticksReady a), .int (S.O_Task.f_ticksBlocked a), .int (S.O_Task.f_firstRun a), .int (S.O_Task.f_endedAt a), .int (S.O_Task.f_timesSwitchedTo a), .int (S.O_Task.f_timesDown a), .int (S.O_Task.f_timesToFront a)])) = X ++ va_pl S.L (wPF cyI cyZ cyO1ad9c cyO4b0d4 { S with O_Task := { S.O_Task with f_level := va_up S.O_Task.f_level a v } }) := by
  rw [va_pl_set hD hL hk]
  exact congrArg (fun l => X ++ l) (va_pl_congr (wSt_O_Task_f_level cyI cyZ cyO1ad9c cyO4b0d4 S h v))
theorem wSt_O_Task_f_burstsBegun (cyI : ClassId) (cyZ : ClassId) (cyO1ad9c : ClassId) (cyO4b0d4 : ClassId) (S : wPS) {a : Nat} (h : S.K a = 1) (v : Int32) (b : Nat) : va_up (wPF cyI cyZ cyO1ad9c cyO4b0d4 S) a (.inr (1, [.int (S.O_Task.f_number a), .int (S.O_Task.f_arrival a), va_rf (S.O_Task.f_bursts a), .int (S.O_Task.f_burstCount a), .int (S.O_Task.f_state a), .int (S.O_Task.f_level a), .int v, .int (S.O_Task.f_burstLeft a), .int (S.O_Task.f_quantumLeft a), .int (S.O_Task.f_shareLeft a), .int (S.O_Task.f_keepsQuantum a), .int (S.O_Task.f_ticksRun a), .int (S.O_Task.f_ticksReady a), .int (S.O_Task.f_ticksBlocked a), .int (S.O_Task.f_firstRun a), .int (S.O_Task.f_endedAt a), .int (S.O_Task.f_timesSwitchedTo a), .int (S.O_Task.f_timesDown a), .int (S.O_Task.f_timesToFront a)])) b = wPF cyI cyZ cyO1ad9c cyO4b0d4 { S with O_Task := { S.O_Task with f_burstsBegun := va_up S.O_Task.f_burstsBegun a v } } b := by by_cases hb : b = a <;> first | (simp only [wPF, va_up_ne _ _ hb]; done) | (simp only [wPF, va_up, if_neg hb]; done) | simp [wPF, va_re, va_up, va_rf, hb, h]
theorem wPu_O_Task_f_burstsBegun (cyI : ClassId) (cyZ : ClassId) (cyO1ad9c : ClassId) (cyO4b0d4 : ClassId) (X : va_W) (S : wPS) {A : Nat → Prop} {a k : Nat} (hD : va_D A (X ++ va_pl S.L (wPF cyI cyZ cyO1ad9c cyO4b0d4 S))) (hL : a ∈ S.L) (h : S.K a = 1) (hk : (X ++ va_pl S.L (wPF cyI cyZ cyO1ad9c cyO4b0d4 S))[k]? = some (a, wPF cyI cyZ cyO1ad9c cyO4b0d4 S a)) (v : Int32) : (X ++ va_pl S.L (wPF cyI cyZ cyO1ad9c cyO4b0d4 S)).set k (a, .inr (1, [.int (S.O_Task.f_number a), .int (S.O_Task.f_arrival a), va_rf (S.O_Task.f_bursts a), .int (S.O_Task.f_burstCount a), .int (S.O_Task.f_state a), .int (S.O_Task.f_level a), .int v, .int (S.O_Task.f_burstLeft a), .int (S.O_Task.f_quantumLeft a), .int (S.O_Task.f_shareLeft a), .int (S.O_Task.f_keepsQuantum a), .int (S.O_Task.f_ticksRun a), .int (S.O_Task.f_ticksReady a), .int (S.O_Task.f_ticksBlocked a), .int (S.O_Task.f_firstRun a), .int (S.O_Task.f_endedAt a), .int (S.O_Task.f_timesSwitchedTo a), .int (S.O_Task.f_timesDown a), .int (S.O_Task.f_timesToFront a)])) = X ++ va_pl S.L (wPF cyI cyZ cyO1ad9c cyO4b0d4 { S with O_Task := { S.O_Task with f_burstsBegun := va_up S.O_Task.f_burstsBegun a v } }) := by
  rw [va_pl_set hD hL hk]
  exact congrArg (fun l => X ++ l) (va_pl_congr (wSt_O_Task_f_burstsBegun cyI cyZ cyO1ad9c cyO4b0d4 S h v))
theorem wSt_O_Task_f_burstLeft (cyI : ClassId) (cyZ : ClassId) (cyO1ad9c : ClassId) (cyO4b0d4 : ClassId) (S : wPS) {a : Nat} (h : S.K a = 1) (v : Int32) (b : Nat) : va_up (wPF cyI cyZ cyO1ad9c cyO4b0d4 S) a (.inr (1, [.int (S.O_Task.f_number a), .int (S.O_Task.f_arrival a), va_rf (S.O_Task.f_bursts a), .int (S.O_Task.f_burstCount a), .int (S.O_Task.f_state a), .int (S.O_Task.f_level a), .int (S.O_Task.f_burstsBegun a), .int v, .int (S.O_Task.f_quantumLeft a), .int (S.O_Task.f_shareLeft a), .int (S.O_Task.f_keepsQuantum a), .int (S.O_Task.f_ticksRun a), .int (S.O_Task.f_ticksReady a), .int (S.O_Task.f_ticksBlocked a), .int (S.O_Task.f_firstRun a), .int (S.O_Task.f_endedAt a), .int (S.O_Task.f_timesSwitchedTo a), .int (S.O_Task.f_timesDown a), .int (S.O_Task.f_timesToFront a)])) b = wPF cyI cyZ cyO1ad9c cyO4b0d4 { S with O_Task := { S.O_Task with f_burstLeft := va_up S.O_Task.f_burstLeft a v } } b := by by_cases hb : b = a <;> first | (simp only [wPF, va_up_ne _ _ hb]; done) | (simp only [wPF, va_up, if_neg hb]; done) | simp [wPF, va_re, va_up, va_rf, hb, h]
theorem wPu_O_Task_f_burstLeft (cyI : ClassId) (cyZ : ClassId) (cyO1ad9c : ClassId) (cyO4b0d4 : ClassId) (X : va_W) (S : wPS) {A : Nat → Prop} {a k : Nat} (hD : va_D A (X ++ va_pl S.L (wPF cyI cyZ cyO1ad9c cyO4b0d4 S))) (hL : a ∈ S.L) (h : S.K a = 1) (hk : (X ++ va_pl S.L (wPF cyI cyZ cyO1ad9c cyO4b0d4 S))[k]? = some (a, wPF cyI cyZ cyO1ad9c cyO4b0d4 S a)) (v : Int32) : (X ++ va_pl S.L (wPF cyI cyZ cyO1ad9c cyO4b0d4 S)).set k (a, .inr (1, [.int (S.O_Task.f_number a), .int (S.O_Task.f_arrival a), va_rf (S.O_Task.f_bursts a), .int (S.O_Task.f_burstCount a), .int (S.O_Task.f_state a), .int (S.O_Task.f_level a), .int (S.O_Task.f_burstsBegun a), .int v, .int (S.O_Task.f_quantumLeft a), .int (S.O_Task.f_shareLeft a), .int (S.O_Task.f_keepsQuantum a), .int (S.O_Task.f_ticksRun a), .int (S.O_Task.f_ticksReady a), .int (S.O_Task.f_ticksBlocked a), .int (S.O_Task.f_firstRun a), .int (S.O_Task.f_endedAt a), .int (S.O_Task.f_timesSwitchedTo a), .int (S.O_Task.f_timesDown a), .int (S.O_Task.f_timesToFront a)])) = X ++ va_pl S.L (wPF cyI cyZ cyO1ad9c cyO4b0d4 { S with O_Task := { S.O_Task with f_burstLeft := va_up S.O_Task.f_burstLeft a v } }) := by
  rw [va_pl_set hD hL hk]
  exact congrArg (fun l => X ++ l) (va_pl_congr (wSt_O_Task_f_burstLeft cyI cyZ cyO1ad9c cyO4b0d4 S h v))
theorem wSt_O_Task_f_quantumLeft (cyI : ClassId) (cyZ : ClassId) (cyO1ad9c : ClassId) (cyO4b0d4 : ClassId) (S : wPS) {a : Nat} (h : S.K a = 1) (v : Int32) (b : Nat) : va_up (wPF cyI cyZ cyO1ad9c cyO4b0d4 S) a (.inr (1, [.int (S.O_Task.f_number a), .int (S.O_Task.f_arrival a), va_rf (S.O_Task.f_bursts a), .int (S.O_Task.f_burstCount a), .int (S.O_Task.f_state a), .int (S.O_Task.f_level a), .int (S.O_Task.f_burstsBegun a), .int (S.O_Task.f_burstLeft a), .int v, .int (S.O_Task.f_shareLeft a), .int (S.O_Task.f_keepsQuantum a), .int (S.O_Task.f_ticksRun a), .int (S.O_Task.f_ticksReady a), .int (S.O_Task.f_ticksBlocked a), .int (S.O_Task.f_firstRun a), .int (S.O_Task.f_endedAt a), .int (S.O_Task.f_timesSwitchedTo a), .int (S.O_Task.f_timesDown a), .int (S.O_Task.f_timesToFront a)])) b = wPF cyI cyZ cyO1ad9c cyO4b0d4 { S with O_Task := { S.O_Task with f_quantumLeft := va_up S.O_Task.f_quantumLeft a v } } b := by by_cases hb : b = a <;> first | (simp only [wPF, va_up_ne _ _ hb]; done) | (simp only [wPF, va_up, if_neg hb]; done) | simp [wPF, va_re, va_up, va_rf, hb, h]
theorem wPu_O_Task_f_quantumLeft (cyI : ClassId) (cyZ : ClassId) (cyO1ad9c : ClassId) (cyO4b0d4 : ClassId) (X : va_W) (S : wPS) {A : Nat → Prop} {a k : Nat} (hD : va_D A (X ++ va_pl S.L (wPF cyI cyZ cyO1ad9c cyO4b0d4 S))) (hL : a ∈ S.L) (h : S.K a = 1) (hk : (X ++ va_pl S.L (wPF cyI cyZ cyO1ad9c cyO4b0d4 S))[k]? = some (a, wPF cyI cyZ cyO1ad9c cyO4b0d4 S a)) (v : Int32) : (X ++ va_pl S.L (wPF cyI cyZ cyO1ad9c cyO4b0d4 S)).set k (a, .inr (1, [.int (S.O_Task.f_number a), .int (S.O_Task.f_arrival a), va_rf (S.O_Task.f_bursts a), .int (S.O_Task.f_burstCount a), .int (S.O_Task.f_state a), .int (S.O_Task.f_level a), .int (S.O_Task.f_burstsBegun a), .int (S.O_Task.f_burstLeft a), .int v, .int (S.O_Task.f_shareLeft a), .int (S.O_Task.f_keepsQuantum a), .int (S.O_Task.f_ticksRun a), .int (S.O_Task.f_ticksReady a), .int (S.O_Task.f_ticksBlocked a), .int (S.O_Task.f_firstRun a), .int (S.O_Task.f_endedAt a), .int (S.O_Task.f_timesSwitchedTo a), .int (S.O_Task.f_timesDown a), .int (S.O_Task.f_timesToFront a)])) = X ++ va_pl S.L (wPF cyI cyZ cyO1ad9c cyO4b0d4 { S with O_Task := { S.O_Task with f_quantumLeft := va_up S.O_Task.f_quantumLeft a v } }) := by
  rw [va_pl_set hD hL hk]
  exact congrArg (fun l => X ++ l) (va_pl_congr (wSt_O_Task_f_quantumLeft cyI cyZ cyO1ad9c cyO4b0d4 S h v))
theorem wSt_O_Task_f_shareLeft (cyI : ClassId) (cyZ : ClassId) (cyO1ad9c : ClassId) (cyO4b0d4 : ClassId) (S : wPS) {a : Nat} (h : S.K a = 1) (v : Int32) (b : Nat) : va_up (wPF cyI cyZ cyO1ad9c cyO4b0d4 S) a (.inr (1, [.int (S.O_Task.f_number a), .int (S.O_Task.f_arrival a), va_rf (S.O_Task.f_bursts a), .int (S.O_Task.f_burstCount a), .int (S.O_Task.f_state a), .int (S.O_Task.f_level a), .int (S.O_Task.f_burstsBegun a), .int (S.O_Task.f_burstLeft a), .int (S.O_Task.f_quantumLeft a), .int v, .int (S.O_Task.f_keepsQuantum a), .int (S.O_Task.f_ticksRun a), .int (S.O_Task.f_ticksReady a), .int (S.O_Task.f_ticksBlocked a), .int (S.O_Task.f_firstRun a), .int (S.O_Task.f_endedAt a), .int (S.O_Task.f_timesSwitchedTo a), .int (S.O_Task.f_timesDown a), .int (S.O_Task.f_timesToFront a)])) b = wPF cyI cyZ cyO1ad9c cyO4b0d4 { S with O_Task := { S.O_Task with f_shareLeft := va_up S.O_Task.f_shareLeft a v } } b := by by_cases hb : b = a <;> first | (simp only [wPF, va_up_ne _ _ hb]; done) | (simp only [wPF, va_up, if_neg hb]; done) | simp [wPF, va_re, va_up, va_rf, hb, h]
theorem wPu_O_Task_f_shareLeft (cyI : ClassId) (cyZ : ClassId) (cyO1ad9c : ClassId) (cyO4b0d4 : ClassId) (X : va_W) (S : wPS) {A : Nat → Prop} {a k : Nat} (hD : va_D A (X ++ va_pl S.L (wPF cyI cyZ cyO1ad9c cyO4b0d4 S))) (hL : a ∈ S.L) (h : S.K a = 1) (hk : (X ++ va_pl S.L (wPF cyI cyZ cyO1ad9c cyO4b0d4 S))[k]? = some (a, wPF cyI cyZ cyO1ad9c cyO4b0d4 S a)) (v : Int32) : (X ++ va_pl S.L (wPF cyI cyZ cyO1ad9c cyO4b0d4 S)).set k (a, .inr (1, [.int (S.O_Task.f_number a), .int (S.O_Task.f_arrival a), va_rf (S.O_Task.f_bursts a), .int (S.O_Task.f_burstCount a), .int (S.O_Task.f_state a), .int (S.O_Task.f_level a), .int (S.O_Task.f_burstsBegun a), .int (S.O_Task.f_burstLeft a), .int (S.O_Task.f_quantumLeft a), .int v, .int (S.O_Task.f_keepsQuantum a), .int (S.O_Task.f_ticksRun a), .int (S.O_Task.f_ticksReady a), .int (S.O_Task.f_ticksBlocked a), .int (S.O_Task.f_firstRun a), .int (S.O_Task.f_endedAt a), .int (S.O_Task.f_timesSwitchedTo a), .int (S.O_Task.f_timesDown a), .int (S.O_Task.f_timesToFront a)])) = X ++ va_pl S.L (wPF cyI cyZ cyO1ad9c cyO4b0d4 { S with O_Task := { S.O_Task with f_shareLeft := va_up S.O_Task.f_shareLeft a v } }) := by
  rw [va_pl_set hD hL hk]
  exact congrArg (fun l => X ++ l) (va_pl_congr (wSt_O_Task_f_shareLeft cyI cyZ cyO1ad9c cyO4b0d4 S h v))
theorem wSt_O_Task_f_keepsQuantum (cyI : ClassId) (cyZ : ClassId) (cyO1ad9c : ClassId) (cyO4b0d4 : ClassId) (S : wPS) {a : Nat} (h : S.K a = 1) (v : Int32) (b : Nat) : va_up (wPF cyI cyZ cyO1ad9c cyO4b0d4 S) a (.inr (1, [.int (S.O_Task.f_number a), .int (S.O_Task.f_arrival a), va_rf (S.O_Task.f_bursts a), .int (S.O_Task.f_burstCount a), .int (S.O_Task.f_state a), .int (S.O_Task.f_level a), .int (S.O_Task.f_burstsBegun a), .int (S.O_Task.f_burstLeft a), .int (S.O_Task.f_quantumLeft a), .int (S.O_Task.f_shareLeft a), .int v, .int (S.O_Task.f_ticksRun a), .int (S.O_Task.f_ticksReady a), .int (S.O_Task.f_ticksBlocked a), .int (S.O_Task.f_firstRun a), .int (S.O_Task.f_endedAt a), .int (S.O_Task.f_timesSwitchedTo a), .int (S.O_Task.f_timesDown a), .int (S.O_Task.f_timesToFront a)])) b = wPF cyI cyZ cyO1ad9c cyO4b0d4 { S with O_Task := { S.O_Task with f_keepsQuantum := va_up S.O_Task.f_keepsQuantum a v } } b := by by_cases hb : b = a <;> first | (simp only [wPF, va_up_ne _ _ hb]; done) | (simp only [wPF, va_up, if_neg hb]; done) | simp [wPF, va_re, va_up, va_rf, hb, h]
theorem wPu_O_Task_f_keepsQuantum (cyI : ClassId) (cyZ : ClassId) (cyO1ad9c : ClassId) (cyO4b0d4 : ClassId) (X : va_W) (S : wPS) {A : Nat → Prop} {a k : Nat} (hD : va_D A (X ++ va_pl S.L (wPF cyI cyZ cyO1ad9c cyO4b0d4 S))) (hL : a ∈ S.L) (h : S.K a = 1) (hk : (X ++ va_pl S.L (wPF cyI cyZ cyO1ad9c cyO4b0d4 S))[k]? = some (a, wPF cyI cyZ cyO1ad9c cyO4b0d4 S a)) (v : Int32) : (X ++ va_pl S.L (wPF cyI cyZ cyO1ad9c cyO4b0d4 S)).set k (a, .inr (1, [.int (S.O_Task.f_number a), .int (S.O_Task.f_arrival a), va_rf (S.O_Task.f_bursts a), .int (S.O_Task.f_burstCount a), .int (S.O_Task.f_state a), .int (S.O_Task.f_level a), .int (S.O_Task.f_burstsBegun a), .int (S.O_Task.f_burstLeft a), .int (S.O_Task.f_quantumLeft a), .int (S.O_Task.f_shareLeft a), .int v, .int (S.O_Task.f_ticksRun a), .int (S.O_Task.f_ticksReady a), .int (S.O_Task.f_ticksBlocked a), .int (S.O_Task.f_firstRun a), .int (S.O_Task.f_endedAt a), .int (S.O_Task.f_timesSwitchedTo a), .int (S.O_Task.f_timesDown a), .int (S.O_Task.f_timesToFront a)])) = X ++ va_pl S.L (wPF cyI cyZ cyO1ad9c cyO4b0d4 { S with O_Task := { S.O_Task with f_keepsQuantum := va_up S.O_Task.f_keepsQuantum a v } }) := by
  rw [va_pl_set hD hL hk]
  exact congrArg (fun l => X ++ l) (va_pl_congr (wSt_O_Task_f_keepsQuantum cyI cyZ cyO1ad9c cyO4b0d4 S h v))
theorem wSt_O_Task_f_ticksRun (cyI : ClassId) (cyZ : ClassId) (cyO1ad9c : ClassId) (cyO4b0d4 : ClassId) (S : wPS) {a : Nat} (h : S.K a = 1) (v : Int32) (b : Nat) : va_up (wPF cyI cyZ cyO1ad9c cyO4b0d4 S) a (.inr (1, [.int (S.O_Task.f_number a), .int (S.O_Task.f_arrival a), va_rf (S.O_Task.f_bursts a), .int (S.O_Task.f_burstCount a), .int (S.O_Task.f_state a), .int (S.O_Task.f_level a), .int (S.O_Task.f_burstsBegun a), .int (S.O_Task.f_burstLeft a), .int (S.O_Task.f_quantumLeft a), .int (S.O_Task.f_shareLeft a), .int (S.O_Task.f_keepsQuantum a), .int v, .int (S.O_Task.f_ticksReady a), .int (S.O_Task.f_ticksBlocked a), .int (S.O_Task.f_firstRun a), .int (S.O_Task.f_endedAt a), .int (S.O_Task.f_timesSwitchedTo a), .int (S.O_Task.f_timesDown a), .int (S.O_Task.f_timesToFront a)])) b = wPF cyI cyZ cyO1ad9c cyO4b0d4 { S with O_Task := { S.O_Task with f_ticksRun := va_up S.O_Task.f_ticksRun a v } } b := by by_cases hb : b = a <;> first | (simp only [wPF, va_up_ne _ _ hb]; done) | (simp only [wPF, va_up, if_neg hb]; done) | simp [wPF, va_re, va_up, va_rf, hb, h]
theorem wPu_O_Task_f_ticksRun (cyI : ClassId) (cyZ : ClassId) (cyO1ad9c : ClassId) (cyO4b0d4 : ClassId) (X : va_W) (S : wPS) {A : Nat → Prop} {a k : Nat} (hD : va_D A (X ++ va_pl S.L (wPF cyI cyZ cyO1ad9c cyO4b0d4 S))) (hL : a ∈ S.L) (h : S.K a = 1) (hk : (X ++ va_pl S.L (wPF cyI cyZ cyO1ad9c cyO4b0d4 S))[k]? = some (a, wPF cyI cyZ cyO1ad9c cyO4b0d4 S a)) (v : Int32) : (X ++ va_pl S.L (wPF cyI cyZ cyO1ad9c cyO4b0d4 S)).set k (a, .inr (1, [.int (S.O_Task.f_number a), .int (S.O_Task.f_arrival a), va_rf (S.O_Task.f_bursts a), .int (S.O_Task.f_burstCount a), .int (S.O_Task.f_state a), .int (S.O_Task.f_level a), .int (S.O_Task.f_burstsBegun a), .int (S.O_Task.f_burstLeft a), .int (S.O_Task.f_quantumLeft a), .int (S.O_Task.f_shareLeft a), .int (S.O_Task.f_keepsQuantum a), .int v, .int (S.O_Task.f_ticksReady a), .int (S.O_Task.f_ticksBlocked a), .int (S.O_Task.f_firstRun a), .int (S.O_Task.f_endedAt a), .int (S.O_Task.f_timesSwitchedTo a), .int (S.O_Task.f_timesDown a), .int (S.O_Task.f_timesToFront a)])) = X ++ va_pl S.L (wPF cyI cyZ cyO1ad9c cyO4b0d4 { S with O_Task := { S.O_Task with f_ticksRun := va_up S.O_Task.f_ticksRun a v } }) := by
  rw [va_pl_set hD hL hk]
  exact congrArg (fun l => X ++ l) (va_pl_congr (wSt_O_Task_f_ticksRun cyI cyZ cyO1ad9c cyO4b0d4 S h v))
theorem wSt_O_Task_f_ticksReady (cyI : ClassId) (cyZ : ClassId) (cyO1ad9c : ClassId) (cyO4b0d4 : ClassId) (S : wPS) {a : Nat} (h : S.K a = 1) (v : Int32) (b : Nat) : va_up (wPF cyI cyZ cyO1ad9c cyO4b0d4 S) a (.inr (1, [.int (S.O_Task.f_number a), .int (S.O_Task.f_arrival a), va_rf (S.O_Task.f_bursts a), .int (S.O_Task.f_burstCount a), .int (S.O_Task.f_state a), .int (S.O_Task.f_level a), .int (S.O_Task.f_burstsBegun a), .int (S.O_Task.f_burstLeft a), .int (S.O_Task.f_quantumLeft a), .int (S.O_Task.f_shareLeft a), .int (S.O_Task.f_keepsQuantum a), .int (S.O_Task.f_ticksRun a), .int v, .int (S.O_Task.f_ticksBlocked a), .int (S.O_Task.f_firstRun a), .int (S.O_Task.f_endedAt a), .int (S.O_Task.f_timesSwitchedTo a), .int (S.O_Task.f_timesDown a), .int (S.O_Task.f_timesToFront a)])) b = wPF cyI cyZ cyO1ad9c cyO4b0d4 { S with O_Task := { S.O_Task with f_ticksReady := va_up S.O_Task.f_ticksReady a v } } b := by by_cases hb : b = a <;> first | (simp only [wPF, va_up_ne _ _ hb]; done) | (simp only [wPF, va_up, if_neg hb]; done) | simp [wPF, va_re, va_up, va_rf, hb, h]
theorem wPu_O_Task_f_ticksReady (cyI : ClassId) (cyZ : ClassId) (cyO1ad9c : ClassId) (cyO4b0d4 : ClassId) (X : va_W) (S : wPS) {A : Nat → Prop} {a k : Nat} (hD : va_D A (X ++ va_pl S.L (wPF cyI cyZ cyO1ad9c cyO4b0d4 S))) (hL : a ∈ S.L) (h : S.K a = 1) (hk : (X ++ va_pl S.L (wPF cyI cyZ cyO1ad9c cyO4b0d4 S))[k]? = some (a, wPF cyI cyZ cyO1ad9c cyO4b0d4 S a)) (v : Int32) : (X ++ va_pl S.L (wPF cyI cyZ cyO1ad9c cyO4b0d4 S)).set k (a, .inr (1, [.int (S.O_Task.f_number a), .int (S.O_Task.f_arrival a), va_rf (S.O_Task.f_bursts a), .int (S.O_Task.f_burstCount a), .int (S.O_Task.f_state a), .int (S.O_Task.f_level a), .int (S.O_Task.f_burstsBegun a), .int (S.O_Task.f_burstLeft a), .int (S.O_Task.f_quantumLeft a), .int (S.O_Task.f_shareLeft a), .int (S.O_Task.f_keepsQuantum a), .int (S.O_Task.f_ticksRun a), .int v, .int (S.O_Task.f_ticksBlocked a), .int (S.O_Task.f_firstRun a), .int (S.O_Task.f_endedAt a), .int (S.O_Task.f_timesSwitchedTo a), .int (S.O_Task.f_timesDown a), .int (S.O_Task.f_timesToFront a)])) = X ++ va_pl S.L (wPF cyI cyZ cyO1ad9c cyO4b0d4 { S with O_Task := { S.O_Task with f_ticksReady := va_up S.O_Task.f_ticksReady a v } }) := by
  rw [va_pl_set hD hL hk]
  exact congrArg (fun l => X ++ l) (va_pl_congr (wSt_O_Task_f_ticksReady cyI cyZ cyO1ad9c cyO4b0d4 S h v))
theorem wSt_O_Task_f_ticksBlocked (cyI : ClassId) (cyZ : ClassId) (cyO1ad9c : ClassId) (cyO4b0d4 : ClassId) (S : wPS) {a : Nat} (h : S.K a = 1) (v : Int32) (b : Nat) : va_up (wPF cyI cyZ cyO1ad9c cyO4b0d4 S) a (.inr (1, [.int (S.O_Task.f_number a), .int (S.O_Task.f_arrival a), va_rf (S.O_Task.f_bursts a), .int (S.O_Task.f_burstCount a), .int (S.O_Task.f_state a), .int (S.O_Task.f_level a), .int (S.O_Task.f_burstsBegun a), .int (S.O_Task.f_burstLeft a), .int (S.O_Task.f_quantumLeft a), .int (S.O_Task.f_shareLeft a), .int (S.O_Task.f_keepsQuantum a), .int (S.O_Task.f_ticksRun a), .int (S.O_Task.f_ticksReady a), .int v, .int (S.O_Task.f_firstRun a), .int (S.O_Task.f_endedAt a), .int (S.O_Task.f_timesSwitchedTo a), .int (S.O_Task.f_timesDown a), .int (S.O_Task.f_timesToFront a)])) b = wPF cyI cyZ cyO1ad9c cyO4b0d4 { S with O_Task := { S.O_Task with f_ticksBlocked := va_up S.O_Task.f_ticksBlocked a v } } b := by by_cases hb : b = a <;> first | (simp only [wPF, va_up_ne _ _ hb]; done) | (simp only [wPF, va_up, if_neg hb]; done) | simp [wPF, va_re, va_up, va_rf, hb, h]
theorem wPu_O_Task_f_ticksBlocked (cyI : ClassId) (cyZ : ClassId) (cyO1ad9c : ClassId) (cyO4b0d4 : ClassId) (X : va_W) (S : wPS) {A : Nat → Prop} {a k : Nat} (hD : va_D A (X ++ va_pl S.L (wPF cyI cyZ cyO1ad9c cyO4b0d4 S))) (hL : a ∈ S.L) (h : S.K a = 1) (hk : (X ++ va_pl S.L (wPF cyI cyZ cyO1ad9c cyO4b0d4 S))[k]? = some (a, wPF cyI cyZ cyO1ad9c cyO4b0d4 S a)) (v : Int32) : (X ++ va_pl S.L (wPF cyI cyZ cyO1ad9c cyO4b0d4 S)).set k (a, .inr (1, [.int (S.O_Task.f_number a), .int (S.O_Task.f_arrival a), va_rf (S.O_Task.f_bursts a), .int (S.O_Task.f_burstCount a), .int (S.O_Task.f_state a), .int (S.O_Task.f_level a), .int (S.O_Task.f_burstsBegun a), .int (S.O_Task.f_burstLeft a), .int (S.O_Task.f_quantumLeft a), .int (S.O_Task.f_shareLeft a), .int (S.O_Task.f_keepsQuantum a), .int (S.O_Task.f_ticksRun a), .int (S.O_Task.f_ticksReady a), .int v, .int (S.O_Task.f_firstRun a), .int (S.O_Task.f_endedAt a), .int (S.O_Task.f_timesSwitchedTo a), .int (S.O_Task.f_timesDown a), .int (S.O_Task.f_timesToFront a)])) = X ++ va_pl S.L (wPF cyI cyZ cyO1ad9c cyO4b0d4 { S with O_Task := { S.O_Task with f_ticksBlocked := va_up S.O_Task.f_ticksBlocked a v } }) := by
  rw [va_pl_set hD hL hk]
  exact congrArg (fun l => X ++ l) (va_pl_congr (wSt_O_Task_f_ticksBlocked cyI cyZ cyO1ad9c cyO4b0d4 S h v))
theorem wSt_O_Task_f_firstRun (cyI : ClassId) (cyZ : ClassId) (cyO1ad9c : ClassId) (cyO4b0d4 : ClassId) (S : wPS) {a : Nat} (h : S.K a = 1) (v : Int32) (b : Nat) : va_up (wPF cyI cyZ cyO1ad9c cyO4b0d4 S) a (.inr (1, [.int (S.O_Task.f_number a), .int (S.O_Task.f_arrival a), va_rf (S.O_Task.f_bursts a), .int (S.O_Task.f_burstCount a), .int (S.O_Task.f_state a), .int (S.O_Task.f_level a), .int (S.O_Task.f_burstsBegun a), .int (S.O_Task.f_burstLeft a), .int (S.O_Task.f_quantumLeft a), .int (S.O_Task.f_shareLeft a), .int (S.O_Task.f_keepsQuantum a), .int (S.O_Task.f_ticksRun a), .int (S.O_Task.f_ticksReady a), .int (S.O_Task.f_ticksBlocked a), .int v, .int (S.O_Task.f_endedAt a), .int (S.O_Task.f_timesSwitchedTo a), .int (S.O_Task.f_timesDown a), .int (S.O_Task.f_timesToFront a)])) b = wPF cyI cyZ cyO1ad9c cyO4b0d4 { S with O_Task := { S.O_Task with f_firstRun := va_up S.O_Task.f_firstRun a v } } b := by by_cases hb : b = a <;> first | (simp only [wPF, va_up_ne _ _ hb]; done) | (simp only [wPF, va_up, if_neg hb]; done) | simp [wPF, va_re, va_up, va_rf, hb, h]
theorem wPu_O_Task_f_firstRun (cyI : ClassId) (cyZ : ClassId) (cyO1ad9c : ClassId) (cyO4b0d4 : ClassId) (X : va_W) (S : wPS) {A : Nat → Prop} {a k : Nat} (hD : va_D A (X ++ va_pl S.L (wPF cyI cyZ cyO1ad9c cyO4b0d4 S))) (hL : a ∈ S.L) (h : S.K a = 1) (hk : (X ++ va_pl S.L (wPF cyI cyZ cyO1ad9c cyO4b0d4 S))[k]? = some (a, wPF cyI cyZ cyO1ad9c cyO4b0d4 S a)) (v : Int32) : (X ++ va_pl S.L (wPF cyI cyZ cyO1ad9c cyO4b0d4 S)).set k (a, .inr (1, [.int (S.O_Task.f_number a), .int (S.O_Task.f_arrival a), va_rf (S.O_Task.f_bursts a), .int (S.O_Task.f_burstCount a), .int (S.O_Task.f_state a), .int (S.O_Task.f_level a), .int (S.O_Task.f_burstsBegun a), .int (S.O_Task.f_burstLeft a), .int (S.O_Task.f_quantumLeft a), .int (S.O_Task.f_shareLeft a), .int (S.O_Task.f_keepsQuantum a), .int (S.O_Task.f_ticksRun a), .int (S.O_Task.f_ticksReady a), .int (S.O_Task.f_ticksBlocked a), .int v, .int (S.O_Task.f_endedAt a), .int (S.O_Task.f_timesSwitchedTo a), .int (S.O_Task.f_timesDown a), .int (S.O_Task.f_timesToFront a)])) = X ++ va_pl S.L (wPF cyI cyZ cyO1ad9c cyO4b0d4 { S with O_Task := { S.O_Task with f_firstRun := va_up S.O_Task.f_firstRun a v } }) := by
  rw [va_pl_set hD hL hk]
  exact congrArg (fun l => X ++ l) (va_pl_congr (wSt_O_Task_f_firstRun cyI cyZ cyO1ad9c cyO4b0d4 S h v))
theorem wSt_O_Task_f_endedAt (cyI : ClassId) (cyZ : ClassId) (cyO1ad9c : ClassId) (cyO4b0d4 : ClassId) (S : wPS) {a : Nat} (h : S.K a = 1) (v : Int32) (b : Nat) : va_up (wPF cyI cyZ cyO1ad9c cyO4b0d4 S) a (.inr (1, [.int (S.O_Task.f_number a), .int (S.O_Task.f_arrival a), va_rf (S.O_Task.f_bursts a), .int (S.O_Task.f_burstCount a), .int (S.O_Task.f_state a), .int (S.O_Task.f_level a), .int (S.O_Task.f_burstsBegun a), .int (S.O_Task.f_burstLeft a), .int (S.O_Task.f_quantumLeft a), .int (S.O_Task.f_shareLeft a), .int (S.O_Task.f_keepsQuantum a), .int (S.O_Task.f_ticksRun a), .int (S.O_Task.f_ticksReady a), .int (S.O_Task.f_ticksBlocked a), .int (S.O_Task.f_firstRun a), .int v, .int (S.O_Task.f_timesSwitchedTo a), .int (S.O_Task.f_timesDown a), .int (S.O_Task.f_timesToFront a)])) b = wPF cyI cyZ cyO1ad9c cyO4b0d4 { S with O_Task := { S.O_Task with f_endedAt := va_up S.O_Task.f_endedAt a v } } b := by by_cases hb : b = a <;> first | (simp only [wPF, va_up_ne _ _ hb]; done) | (simp only [wPF, va_up, if_neg hb]; done) | simp [wPF, va_re, va_up, va_rf, hb, h]
theorem wPu_O_Task_f_endedAt (cyI : ClassId) (cyZ : ClassId) (cyO1ad9c : ClassId) (cyO4b0d4 : ClassId) (X : va_W) (S : wPS) {A : Nat → Prop} {a k : Nat} (hD : va_D A (X ++ va_pl S.L (wPF cyI cyZ cyO1ad9c cyO4b0d4 S))) (hL : a ∈ S.L) (h : S.K a = 1) (hk : (X ++ va_pl S.L (wPF cyI cyZ cyO1ad9c cyO4b0d4 S))[k]? = some (a, wPF cyI cyZ cyO1ad9c cyO4b0d4 S a)) (v : Int32) : (X ++ va_pl S.L (wPF cyI cyZ cyO1ad9c cyO4b0d4 S)).set k (a, .inr (1, [.int (S.O_Task.f_number a), .int (S.O_Task.f_arrival a), va_rf (S.O_Task.f_bursts a), .int (S.O_Task.f_burstCount a), .int (S.O_Task.f_state a), .int (S.O_Task.f_level a), .int (S.O_Task.f_burstsBegun a), .int (S.O_Task.f_burstLeft a), .int (S.O_Task.f_quantumLeft a), .int (S.O_Task.f_shareLeft a), .int (S.O_Task.f_keepsQuantum a), .int (S.O_Task.f_ticksRun a), .int (S.O_Task.f_ticksReady a), .int (S.O_Task.f_ticksBlocked a), .int (S.O_Task.f_firstRun a), .int v, .int (S.O_Task.f_timesSwitchedTo a), .int (S.O_Task.f_timesDown a), .int (S.O_Task.f_timesToFront a)])) = X ++ va_pl S.L (wPF cyI cyZ cyO1ad9c cyO4b0d4 { S with O_Task := { S.O_Task with f_endedAt := va_up S.O_Task.f_endedAt a v } }) := by
  rw [va_pl_set hD hL hk]
  exact congrArg (fun l => X ++ l) (va_pl_congr (wSt_O_Task_f_endedAt cyI cyZ cyO1ad9c cyO4b0d4 S h v))
theorem wSt_O_Task_f_timesSwitchedTo (cyI : ClassId) (cyZ : ClassId) (cyO1ad9c : ClassId) (cyO4b0d4 : ClassId) (S : wPS) {a : Nat} (h : S.K a = 1) (v : Int32) (b : Nat) : va_up (wPF cyI cyZ cyO1ad9c cyO4b0d4 S) a (.inr (1, [.int (S.O_Task.f_number a), .int (S.O_Task.f_arrival a), va_rf (S.O_Task.f_bursts a), .int (S.O_Task.f_burstCount a), .int (S.O_Task.f_state a), .int (S.O_Task.f_level a), .int (S.O_Task.f_burstsBegun a), .int (S.O_Task.f_burstLeft a), .int (S.O_Task.f_quantumLeft a), .int (S.O_Task.f_shareLeft a), .int (S.O_Task.f_keepsQuantum a), .int (S.O_Task.f_ticksRun a), .int (S.O_Task.f_ticksReady a), .int (S.O_Task.f_ticksBlocked a), .int (S.O_Task.f_firstRun a), .int (S.O_Task.f_endedAt a), .int v, .int (S.O_Task.f_timesDown a), .int (S.O_Task.f_timesToFront a)])) b = wPF cyI cyZ cyO1ad9c cyO4b0d4 { S with O_Task := { S.O_Task with f_timesSwitchedTo := va_up S.O_Task.f_timesSwitchedTo a v } } b := by by_cases hb : b = a <;> first | (simp only [wPF, va_up_ne _ _ hb]; done) | (simp only [wPF, va_up, if_neg hb]; done) | simp [wPF, va_re, va_up, va_rf, hb, h]
theorem wPu_O_Task_f_timesSwitchedTo (cyI : ClassId) (cyZ : ClassId) (cyO1ad9c : ClassId) (cyO4b0d4 : ClassId) (X : va_W) (S : wPS) {A : Nat → Prop} {a k : Nat} (hD : va_D A (X ++ va_pl S.L (wPF cyI cyZ cyO1ad9c cyO4b0d4 S))) (hL : a ∈ S.L) (h : S.K a = 1) (hk : (X ++ va_pl S.L (wPF cyI cyZ cyO1ad9c cyO4b0d4 S))[k]? = some (a, wPF cyI cyZ cyO1ad9c cyO4b0d4 S a)) (v : Int32) : (X ++ va_pl S.L (wPF cyI cyZ cyO1ad9c cyO4b0d4 S)).set k (a, .inr (1, [.int (S.O_Task.f_number a), .int (S.O_Task.f_arrival a), va_rf (S.O_Task.f_bursts a), .int (S.O_Task.f_burstCount a), .int (S.O_Task.f_state a), .int (S.O_Task.f_level a), .int (S.O_Task.f_burstsBegun a), .int (S.O_Task.f_burstLeft a), .int (S.O_Task.f_quantumLeft a), .int (S.O_Task.f_shareLeft a), .int (S.O_Task.f_keepsQuantum a), .int (S.O_Task.f_ticksRun a), .int (S.O_Task.f_ticksReady a), .int (S.O_Task.f_ticksBlocked a), .int (S.O_Task.f_firstRun a), .int (S.O_Task.f_endedAt a), .int v, .int (S.O_Task.f_timesDown a), .int (S.O_Task.f_timesToFront a)])) = X ++ va_pl S.L (wPF cyI cyZ cyO1ad9c cyO4b0d4 { S with O_Task := { S.O_Task with f_timesSwitchedTo := va_up S.O_Task.f_timesSwitchedTo a v } }) := by
  rw [va_pl_set hD hL hk]
  exact congrArg (fun l => X ++ l) (va_pl_congr (wSt_O_Task_f_timesSwitchedTo cyI cyZ cyO1ad9c cyO4b0d4 S h v))
theorem wSt_O_Task_f_timesDown (cyI : ClassId) (cyZ : ClassId) (cyO1ad9c : ClassId) (cyO4b0d4 : ClassId) (S : wPS) {a : Nat} (h : S.K a = 1) (v : Int32) (b : Nat) : va_up (wPF cyI cyZ cyO1ad9c cyO4b0d4 S) a (.inr (1, [.int (S.O_Task.f_number a), .int (S.O_Task.f_arrival a), va_rf (S.O_Task.f_bursts a), .int (S.O_Task.f_burstCount a), .int (S.O_Task.f_state a), .int (S.O_Task.f_level a), .int (S.O_Task.f_burstsBegun a), .int (S.O_Task.f_burstLeft a), .int (S.O_Task.f_quantumLeft a), .int (S.O_Task.f_shareLeft a), .int (S.O_Task.f_keepsQuantum a), .int (S.O_Task.f_ticksRun a), .int (S.O_Task.f_ticksReady a), .int (S.O_Task.f_ticksBlocked a), .int (S.O_Task.f_firstRun a), .int (S.O_Task.f_endedAt a), .int (S.O_Task.f_timesSwitchedTo a), .int v, .int (S.O_Task.f_timesToFront a)])) b = wPF cyI cyZ cyO1ad9c cyO4b0d4 { S with O_Task := { S.O_Task with f_timesDown := va_up S.O_Task.f_timesDown a v } } b := by by_cases hb : b = a <;> first | (simp only [wPF, va_up_ne _ _ hb]; done) | (simp only [wPF, va_up, if_neg hb]; done) | simp [wPF, va_re, va_up, va_rf, hb, h]
theorem wPu_O_Task_f_timesDown (cyI : ClassId) (cyZ : ClassId) (cyO1ad9c : ClassId) (cyO4b0d4 : ClassId) (X : va_W) (S : wPS) {A : Nat → Prop} {a k : Nat} (hD : va_D A (X ++ va_pl S.L (wPF cyI cyZ cyO1ad9c cyO4b0d4 S))) (hL : a ∈ S.L) (h : S.K a = 1) (hk : (X ++ va_pl S.L (wPF cyI cyZ cyO1ad9c cyO4b0d4 S))[k]? = some (a, wPF cyI cyZ cyO1ad9c cyO4b0d4 S a)) (v : Int32) : (X ++ va_pl S.L (wPF cyI cyZ cyO1ad9c cyO4b0d4 S)).set k (a, .inr (1, [.int (S.O_Task.f_number a), .int (S.O_Task.f_arrival a), va_rf (S.O_Task.f_bursts a), .int (S.O_Task.f_burstCount a), .int (S.O_Task.f_state a), .int (S.O_Task.f_level a), .int (S.O_Task.f_burstsBegun a), .int (S.O_Task.f_burstLeft a), .int (S.O_Task.f_quantumLeft a), .int (S.O_Task.f_shareLeft a), .int (S.O_Task.f_keepsQuantum a), .int (S.O_Task.f_ticksRun a), .int (S.O_Task.f_ticksReady a), .int (S.O_Task.f_ticksBlocked a), .int (S.O_Task.f_firstRun a), .int (S.O_Task.f_endedAt a), .int (S.O_Task.f_timesSwitchedTo a), .int v, .int (S.O_Task.f_timesToFront a)])) = X ++ va_pl S.L (wPF cyI cyZ cyO1ad9c cyO4b0d4 { S with O_Task := { S.O_Task with f_timesDown := va_up S.O_Task.f_timesDown a v } }) := by
  rw [va_pl_set hD hL hk]
  exact congrArg (fun l => X ++ l) (va_pl_congr (wSt_O_Task_f_timesDown cyI cyZ cyO1ad9c cyO4b0d4 S h v))
theorem wSt_O_Task_f_timesToFront (cyI : ClassId) (cyZ : ClassId) (cyO1ad9c : ClassId) (cyO4b0d4 : ClassId) (S : wPS) {a : Nat} (h : S.K a = 1) (v : Int32) (b : Nat) : va_up (wPF cyI cyZ cyO1ad9c cyO4b0d4 S) a (.inr (1, [.int (S.O_Task.f_number a), .int (S.O_Task.f_arrival a), va_rf (S.O_Task.f_bursts a), .int (S.O_Task.f_burstCount a), .int (S.O_Task.f_state a), .int (S.O_Task.f_level a), .int (S.O_Task.f_burstsBegun a), .int (S.O_Task.f_burstLeft a), .int (S.O_Task.f_quantumLeft a), .int (S.O_Task.f_shareLeft a), .int (S.O_Task.f_keepsQuantum a), .int (S.O_Task.f_ticksRun a), .int (S.O_Task.f_ticksReady a), .int (S.O_Task.f_ticksBlocked a), .int (S.O_Task.f_firstRun a), .int (S.O_Task.f_endedAt a), .int (S.O_Task.f_timesSwitchedTo a), .int (S.O_Task.f_timesDown a), .int v])) b = wPF cyI cyZ cyO1ad9c cyO4b0d4 { S with O_Task := { S.O_Task with f_timesToFront := va_up S.O_Task.f_timesToFront a v } } b := by by_cases hb : b = a <;> first | (simp only [wPF, va_up_ne _ _ hb]; done) | (simp only [wPF, va_up, if_neg hb]; done) | simp [wPF, va_re, va_up, va_rf, hb, h]
theorem wPu_O_Task_f_timesToFront (cyI : ClassId) (cyZ : ClassId) (cyO1ad9c : ClassId) (cyO4b0d4 : ClassId) (X : va_W) (S : wPS) {A : Nat → Prop} {a k : Nat} (hD : va_D A (X ++ va_pl S.L (wPF cyI cyZ cyO1ad9c cyO4b0d4 S))) (hL : a ∈ S.L) (h : S.K a = 1) (hk : (X ++ va_pl S.L (wPF cyI cyZ cyO1ad9c cyO4b0d4 S))[k]? = some (a, wPF cyI cyZ cyO1ad9c cyO4b0d4 S a)) (v : Int32) : (X ++ va_pl S.L (wPF cyI cyZ cyO1ad9c cyO4b0d4 S)).set k (a, .inr (1, [.int (S.O_Task.f_number a), .int (S.O_Task.f_arrival a), va_rf (S.O_Task.f_bursts a), .int (S.O_Task.f_burstCount a), .int (S.O_Task.f_state a), .int (S.O_Task.f_level a), .int (S.O_Task.f_burstsBegun a), .int (S.O_Task.f_burstLeft a), .int (S.O_Task.f_quantumLeft a), .int (S.O_Task.f_shareLeft a), .int (S.O_Task.f_keepsQuantum a), .int (S.O_Task.f_ticksRun a), .int (S.O_Task.f_ticksReady a), .int (S.O_Task.f_ticksBlocked a), .int (S.O_Task.f_firstRun a), .int (S.O_Task.f_endedAt a), .int (S.O_Task.f_timesSwitchedTo a), .int (S.O_Task.f_timesDown a), .int v])) = X ++ va_pl S.L (wPF cyI cyZ cyO1ad9c cyO4b0d4 { S with O_Task := { S.O_Task with f_timesToFront := va_up S.O_Task.f_timesToFront a v } }) := by
  rw [va_pl_set hD hL hk]
  exact congrArg (fun l => X ++ l) (va_pl_congr (wSt_O_Task_f_timesToFront cyI cyZ cyO1ad9c cyO4b0d4 S h v))
theorem wNw_O_Task (cyI : ClassId) (cyZ : ClassId) (cyO1ad9c : ClassId) (cyO4b0d4 : ClassId) (S : wPS) (a b : Nat) : va_up (wPF cyI cyZ cyO1ad9c cyO4b0d4 S) a (.inr (1, [.int 0, .int 0, .null, .int 0, .int 0, .int 0, .int 0, .int 0, .int 0, .int 0, .int 0, .int 0, .int 0, .int 0, .int 0, .int 0, .int 0, .int 0, .int 0])) b = wPF cyI cyZ cyO1ad9c cyO4b0d4 { S with L := S.L ++ [a], K := va_up S.K a 1, O_Task := { f_number := va_up S.O_Task.f_number a 0, f_arrival := va_up S.O_Task.f_arrival a 0, f_bursts := va_up S.O_Task.f_bursts a none, f_burstCount := va_up S.O_Task.f_burstCount a 0, f_state := va_up S.O_Task.f_state a 0, f_level := va_up S.O_Task.f_level a 0, f_burstsBegun := va_up S.O_Task.f_burstsBegun a 0, f_burstLeft := va_up S.O_Task.f_burstLeft a 0, f_quantumLeft := va_up S.O_Task.f_quantumLeft a 0, f_shareLeft := va_up S.O_Task.f_shareLeft a 0, f_keepsQuantum := va_up S.O_Task.f_keepsQuantum a 0, f_ticksRun := va_up S.O_Task.f_ticksRun a 0, f_ticksReady := va_up S.O_Task.f_ticksReady a 0, f_ticksBlocked := va_up S.O_Task.f_ticksBlocked a 0, f_firstRun := va_up S.O_Task.f_firstRun a 0, f_endedAt := va_up S.O_Task.f_endedAt a 0, f_timesSwitchedTo := va_up S.O_Task.f_timesSwitchedTo a 0, f_timesDown := va_up S.O_Task.f_timesDown a 0, f_timesToFront := va_up S.O_Task.f_timesToFront a 0 } } b := by by_cases hb : b = a <;> first | (simp only [wPF, va_up_ne _ _ hb]; done) | (simp only [wPF, va_up, if_neg hb]; done) | simp [wPF, va_re, va_up, va_rf, hb]
theorem wPn_O_Task (cyI : ClassId) (cyZ : ClassId) (cyO1ad9c : ClassId) (cyO4b0d4 : ClassId) (X : va_W) (S : wPS) {a : Nat} (ha : a ∉ S.L) : (X ++ va_pl S.L (wPF cyI cyZ cyO1ad9c cyO4b0d4 S)) ++ [(a, .inr (1, [.int 0, .int 0, .null, .int 0, .int 0, .int 0, .int 0, .int 0, .int 0, .int 0, .int 0, .int 0, .int 0, .int 0, .int 0, .int 0, .int 0, .int 0, .int 0]))] = X ++ va_pl (S.L ++ [a]) (wPF cyI cyZ cyO1ad9c cyO4b0d4 { S with L := S.L ++ [a], K := va_up S.K a 1, O_Task := { f_number := va_up S.O_Task.f_number a 0, f_arrival := va_up S.O_Task.f_arrival a 0, f_bursts := va_up S.O_Task.f_bursts a none, f_burstCount := va_up S.O_Task.f_burstCount a 0, f_state := va_up S.O_Task.f_state a 0, f_level := va_up S.O_Task.f_level a 0, f_burstsBegun := va_up S.O_Task.f_burstsBegun a 0, f_burstLeft := va_up S.O_Task.f_burstLeft a 0, f_quantumLeft := va_up S.O_Task.f_quantumLeft a 0, f_shareLeft := va_up S.O_Task.f_shareLeft a 0, f_keepsQuantum := va_up S.O_Task.f_keepsQuantum a 0, f_ticksRun := va_up S.O_Task.f_ticksRun a 0, f_ticksReady := va_up S.O_Task.f_ticksReady a 0, f_ticksBlocked := va_up S.O_Task.f_ticksBlocked a 0, f_firstRun := va_up S.O_Task.f_firstRun a 0, f_endedAt := va_up S.O_Task.f_endedAt a 0, f_timesSwitchedTo := va_up S.O_Task.f_timesSwitchedTo a 0, f_timesDown := va_up S.O_Task.f_timesDown a 0, f_timesToFront := va_up S.O_Task.f_timesToFront a 0 } }) := by
  rw [List.append_assoc, va_pl_push ha]
  exact congrArg (fun l => X ++ l) (va_pl_congr (wNw_O_Task cyI cyZ cyO1ad9c cyO4b0d4 S a))
theorem wAt_O_FeedbackQueues (cyI : ClassId) (cyZ : ClassId) (cyO1ad9c : ClassId) (cyO4b0d4 : ClassId) (S : wPS) {a : Nat} (h : S.K a = 2) : wPF cyI cyZ cyO1ad9c cyO4b0d4 S a = .inr (2, [va_rf (S.O_FeedbackQueues.f_levelRows a), va_rf (S.O_FeedbackQueues.f_tasks a), va_rf (S.O_FeedbackQueues.f_switchesKept a), .int (S.O_FeedbackQueues.f_levelCount a), .int (S.O_FeedbackQueues.f_taskCount a), .int (S.O_FeedbackQueues.f_periodTicks a), .int (S.O_FeedbackQueues.f_now a), va_rf (S.O_FeedbackQueues.f_onProcessor a), .int (S.O_FeedbackQueues.f_switchCount a), .int (S.O_FeedbackQueues.f_idleCount a), .int (S.O_FeedbackQueues.f_comeUpCount a), .int (S.O_FeedbackQueues.f_endedCount a)]) := by simp [wPF, h]
theorem wGt_O_FeedbackQueues (cyI : ClassId) (cyZ : ClassId) (cyO1ad9c : ClassId) (cyO4b0d4 : ClassId) (X : va_W) (S : wPS) {a : Nat} (hL : a ∈ S.L) (h : S.K a = 2) : ∃ k : Nat, (X ++ va_pl S.L (wPF cyI cyZ cyO1ad9c cyO4b0d4 S))[k]? = some (a, wPF cyI cyZ cyO1ad9c cyO4b0d4 S a) ∧ (X ++ va_pl S.L (wPF cyI cyZ cyO1ad9c cyO4b0d4 S))[k]? = some (a, .inr (2, [va_rf (S.O_FeedbackQueues.f_levelRows a), va_rf (S.O_FeedbackQueues.f_tasks a), va_rf (S.O_FeedbackQueues.f_switchesKept a), .int (S.O_FeedbackQueues.f_levelCount a), .int (S.O_FeedbackQueues.f_taskCount a), .int (S.O_FeedbackQueues.f_periodTicks a), .int (S.O_FeedbackQueues.f_now a), va_rf (S.O_FeedbackQueues.f_onProcessor a), .int (S.O_FeedbackQueues.f_switchCount a), .int (S.O_FeedbackQueues.f_idleCount a), .int (S.O_FeedbackQueues.f_comeUpCount a), .int (S.O_FeedbackQueues.f_endedCount a)])) := by
  obtain ⟨k, hk⟩ := va_pl_get (X := X) (f := wPF cyI cyZ cyO1ad9c cyO4b0d4 S) hL
  exact ⟨k, hk, hk.trans (congrArg (fun e => some (a, e)) (wAt_O_FeedbackQueues cyI cyZ cyO1ad9c cyO4b0d4 S h))⟩
theorem wSt_O_FeedbackQueues_f_levelRows (cyI : ClassId) (cyZ : ClassId) (cyO1ad9c : ClassId) (cyO4b0d4 : ClassId) (S : wPS) {a : Nat} (h : S.K a = 2) (v : Option Nat) (b : Nat) : va_up (wPF cyI cyZ cyO1ad9c cyO4b0d4 S) a (.inr (2, [va_rf v, va_rf (S.O_FeedbackQueues.f_tasks a), va_rf (S.O_FeedbackQueues.f_switchesKept a), .int (S.O_FeedbackQueues.f_levelCount a), .int (S.O_FeedbackQueues.f_taskCount a), .int (S.O_FeedbackQueues.f_periodTicks a), .int (S.O_FeedbackQueues.f_now a), va_rf (S.O_FeedbackQueues.f_onProcessor a), .int (S.O_FeedbackQueues.f_switchCount a), .int (S.O_FeedbackQueues.f_idleCount a), .int (S.O_FeedbackQueues.f_comeUpCount a), .int (S.O_FeedbackQueues.f_endedCount a)])) b = wPF cyI cyZ cyO1ad9c cyO4b0d4 { S with O_FeedbackQueues := { S.O_FeedbackQueues with f_levelRows := va_up S.O_FeedbackQueues.f_levelRows a v } } b := by by_cases hb : b = a <;> first | (simp only [wPF, va_up_ne _ _ hb]; done) | (simp only [wPF, va_up, if_neg hb]; done) | simp [wPF, va_re, va_up, va_rf, hb, h]
theorem wPu_O_FeedbackQueues_f_levelRows (cyI : ClassId) (cyZ : ClassId) (cyO1ad9c : ClassId) (cyO4b0d4 : ClassId) (X : va_W) (S : wPS) {A : Nat → Prop} {a k : Nat} (hD : va_D A (X ++ va_pl S.L (wPF cyI cyZ cyO1ad9c cyO4b0d4 S))) (hL : a ∈ S.L) (h : S.K a = 2) (hk : (X ++ va_pl S.L (wPF cyI cyZ cyO1ad9c cyO4b0d4 S))[k]? = some (a, wPF cyI cyZ cyO1ad9c cyO4b0d4 S a)) (v : Option Nat) : (X ++ va_pl S.L (wPF cyI cyZ cyO1ad9c cyO4b0d4 S)).set k (a, .inr (2, [va_rf v, va_rf (S.O_FeedbackQueues.f_tasks a), va_rf (S.O_FeedbackQueues.f_switchesKept a), .int (S.O_FeedbackQueues.f_levelCount a), .int (S.O_FeedbackQueues.f_taskCount a), .int (S.O_FeedbackQueues.f_periodTicks a), .int (S.O_FeedbackQueues.f_now a), va_rf (S.O_FeedbackQueues.f_onProcessor a), .int (S.O_FeedbackQueues.f_switchCount a), .int (S.O_FeedbackQueues.f_idleCount a), .int (S.O_FeedbackQueues.f_comeUpCount a), .int (S.O_FeedbackQueues.f_endedCount a)])) = X ++ va_pl S.L (wPF cyI cyZ cyO1ad9c cyO4b0d4 { S with O_FeedbackQueues := { S.O_FeedbackQueues with f_levelRows := va_up S.O_FeedbackQueues.f_levelRows a v } }) := by
  rw [va_pl_set hD hL hk]
  exact congrArg (fun l => X ++ l) (va_pl_congr (wSt_O_FeedbackQueues_f_levelRows cyI cyZ cyO1ad9c cyO4b0d4 S h v))
theorem wSt_O_FeedbackQueues_f_tasks (cyI : ClassId) (cyZ : ClassId) (cyO1ad9c : ClassId) (cyO4b0d4 : ClassId) (S : wPS) {a : Nat} (h : S.K a = 2) (v : Option Nat) (b : Nat) : va_up (wPF cyI cyZ cyO1ad9c cyO4b0d4 S) a (.inr (2, [va_rf (S.O_FeedbackQueues.f_levelRows a), va_rf v, va_rf (S.O_FeedbackQueues.f_switchesKept a), .int (S.O_FeedbackQueues.f_levelCount a), .int (S.O_FeedbackQueues.f_taskCount a), .int (S.O_FeedbackQueues.f_periodTicks a), .int (S.O_FeedbackQueues.f_now a), va_rf (S.O_FeedbackQueues.f_onProcessor a), .int (S.O_FeedbackQueues.f_switchCount a), .int (S.O_FeedbackQueues.f_idleCount a), .int (S.O_FeedbackQueues.f_comeUpCount a), .int (S.O_FeedbackQueues.f_endedCount a)])) b = wPF cyI cyZ cyO1ad9c cyO4b0d4 { S with O_FeedbackQueues := { S.O_FeedbackQueues with f_tasks := va_up S.O_FeedbackQueues.f_tasks a v } } b := by by_cases hb : b = a <;> first | (simp only [wPF, va_up_ne _ _ hb]; done) | (simp only [wPF, va_up, if_neg hb]; done) | simp [wPF, va_re, va_up, va_rf, hb, h]
theorem wPu_O_FeedbackQueues_f_tasks (cyI : ClassId) (cyZ : ClassId) (cyO1ad9c : ClassId) (cyO4b0d4 : ClassId) (X : va_W) (S : wPS) {A : Nat → Prop} {a k : Nat} (hD : va_D A (X ++ va_pl S.L (wPF cyI cyZ cyO1ad9c cyO4b0d4 S))) (hL : a ∈ S.L) (h : S.K a = 2) (hk : (X ++ va_pl S.L (wPF cyI cyZ cyO1ad9c cyO4b0d4 S))[k]? = some (a, wPF cyI cyZ cyO1ad9c cyO4b0d4 S a)) (v : Option Nat) : (X ++ va_pl S.L (wPF cyI cyZ cyO1ad9c cyO4b0d4 S)).set k (a, .inr (2, [va_rf (S.O_FeedbackQueues.f_levelRows a), va_rf v, va_rf (S.O_FeedbackQueues.f_switchesKept a), .int (S.O_FeedbackQueues.f_levelCount a), .int (S.O_FeedbackQueues.f_taskCount a), .int (S.O_FeedbackQueues.f_periodTicks a), .int (S.O_FeedbackQueues.f_now a), va_rf (S.O_FeedbackQueues.f_onProcessor a), .int (S.O_FeedbackQueues.f_switchCount a), .int (S.O_FeedbackQueues.f_idleCount a), .int (S.O_FeedbackQueues.f_comeUpCount a), .int (S.O_FeedbackQueues.f_endedCount a)])) = X ++ va_pl S.L (wPF cyI cyZ cyO1ad9c cyO4b0d4 { S with O_FeedbackQueues := { S.O_FeedbackQueues with f_tasks := va_up S.O_FeedbackQueues.f_tasks a v } }) := by
  rw [va_pl_set hD hL hk]
  exact congrArg (fun l => X ++ l) (va_pl_congr (wSt_O_FeedbackQueues_f_tasks cyI cyZ cyO1ad9c cyO4b0d4 S h v))
theorem wSt_O_FeedbackQueues_f_switchesKept (cyI : ClassId) (cyZ : ClassId) (cyO1ad9c : ClassId) (cyO4b0d4 : ClassId) (S : wPS) {a : Nat} (h : S.K a = 2) (v : Option Nat) (b : Nat) : va_up (wPF cyI cyZ cyO1ad9c cyO4b0d4 S) a (.inr (2, [va_rf (S.O_FeedbackQueues.f_levelRows a), va_rf (S.O_FeedbackQueues.f_tasks a), va_rf v, .int (S.O_FeedbackQueues.f_levelCount a), .int (S.O_FeedbackQueues.f_taskCount a), .int (S.O_FeedbackQueues.f_periodTicks a), .int (S.O_FeedbackQueues.f_now a), va_rf (S.O_FeedbackQueues.f_onProcessor a), .int (S.O_FeedbackQueues.f_switchCount a), .int (S.O_FeedbackQueues.f_idleCount a), .int (S.O_FeedbackQueues.f_comeUpCount a), .int (S.O_FeedbackQueues.f_endedCount a)])) b = wPF cyI cyZ cyO1ad9c cyO4b0d4 { S with O_FeedbackQueues := { S.O_FeedbackQueues with f_switchesKept := va_up S.O_FeedbackQueues.f_switchesKept a v } } b := by by_cases hb : b = a <;> first | (simp only [wPF, va_up_ne _ _ hb]; done) | (simp only [wPF, va_up, if_neg hb]; done) | simp [wPF, va_re, va_up, va_rf, hb, h]
theorem wPu_O_FeedbackQueues_f_switchesKept (cyI : ClassId) (cyZ : ClassId) (cyO1ad9c : ClassId) (cyO4b0d4 : ClassId) (X : va_W) (S : wPS) {A : Nat → Prop} {a k : Nat} (hD : va_D A (X ++ va_pl S.L (wPF cyI cyZ cyO1ad9c cyO4b0d4 S))) (hL : a ∈ S.L) (h : S.K a = 2) (hk : (X ++ va_pl S.L (wPF cyI cyZ cyO1ad9c cyO4b0d4 S))[k]? = some (a, wPF cyI cyZ cyO1ad9c cyO4b0d4 S a)) (v : Option Nat) : (X ++ va_pl S.L (wPF cyI cyZ cyO1ad9c cyO4b0d4 S)).set k (a, .inr (2, [va_rf (S.O_FeedbackQueues.f_levelRows a), va_rf (S.O_FeedbackQueues.f_tasks a), va_rf v, .int (S.O_FeedbackQueues.f_levelCount a), .int (S.O_FeedbackQueues.f_taskCount a), .int (S.O_FeedbackQueues.f_periodTicks a), .int (S.O_FeedbackQueues.f_now a), va_rf (S.O_FeedbackQueues.f_onProcessor a), .int (S.O_FeedbackQueues.f_switchCount a), .int (S.O_FeedbackQueues.f_idleCount a), .int (S.O_FeedbackQueues.f_comeUpCount a), .int (S.O_FeedbackQueues.f_endedCount a)])) = X ++ va_pl S.L (wPF cyI cyZ cyO1ad9c cyO4b0d4 { S with O_FeedbackQueues := { S.O_FeedbackQueues with f_switchesKept := va_up S.O_FeedbackQueues.f_switchesKept a v } }) := by
  rw [va_pl_set hD hL hk]
  exact congrArg (fun l => X ++ l) (va_pl_congr (wSt_O_FeedbackQueues_f_switchesKept cyI cyZ cyO1ad9c cyO4b0d4 S h v))
theorem wSt_O_FeedbackQueues_f_levelCount (cyI : ClassId) (cyZ : ClassId) (cyO1ad9c : ClassId) (cyO4b0d4 : ClassId) (S : wPS) {a : Nat} (h : S.K a = 2) (v : Int32) (b : Nat) : va_up (wPF cyI cyZ cyO1ad9c cyO4b0d4 S) a (.inr (2, [va_rf (S.O_FeedbackQueues.f_levelRows a), va_rf (S.O_FeedbackQueues.f_tasks a), va_rf (S.O_FeedbackQueues.f_switchesKept a), .int v, .int (S.O_FeedbackQueues.f_taskCount a), .int (S.O_FeedbackQueues.f_periodTicks a), .int (S.O_FeedbackQueues.f_now a), va_rf (S.O_FeedbackQueues.f_onProcessor a), .int (S.O_FeedbackQueues.f_switchCount a), .int (S.O_FeedbackQueues.f_idleCount a), .int (S.O_FeedbackQueues.f_comeUpCount a), .int (S.O_FeedbackQueues.f_endedCount a)])) b = wPF cyI cyZ cyO1ad9c cyO4b0d4 { S with O_FeedbackQueues := { S.O_FeedbackQueues with f_levelCount := va_up S.O_FeedbackQueues.f_levelCount a v } } b := by by_cases hb : b = a <;> first | (simp only [wPF, va_up_ne _ _ hb]; done) | (simp only [wPF, va_up, if_neg hb]; done) | simp [wPF, va_re, va_up, va_rf, hb, h]
theorem wPu_O_FeedbackQueues_f_levelCount (cyI : ClassId) (cyZ : ClassId) (cyO1ad9c : ClassId) (cyO4b0d4 : ClassId) (X : va_W) (S : wPS) {A : Nat → Prop} {a k : Nat} (hD : va_D A (X ++ va_pl S.L (wPF cyI cyZ cyO1ad9c cyO4b0d4 S))) (hL : a ∈ S.L) (h : S.K a = 2) (hk : (X ++ va_pl S.L (wPF cyI cyZ cyO1ad9c cyO4b0d4 S))[k]? = some (a, wPF cyI cyZ cyO1ad9c cyO4b0d4 S a)) (v : Int32) : (X ++ va_pl S.L (wPF cyI cyZ cyO1ad9c cyO4b0d4 S)).set k (a, .inr (2, [va_rf (S.O_FeedbackQueues.f_levelRows a), va_rf (S.O_FeedbackQueues.f_tasks a), va_rf (S.O_FeedbackQueues.f_switchesKept a), .int v, .int (S.O_FeedbackQueues.f_taskCount a), .int (S.O_FeedbackQueues.f_periodTicks a), .int (S.O_FeedbackQueues.f_now a), va_rf (S.O_FeedbackQueues.f_onProcessor a), .int (S.O_FeedbackQueues.f_switchCount a), .int (S.O_FeedbackQueues.f_idleCount a), .int (S.O_FeedbackQueues.f_comeUpCount a), .int (S.O_FeedbackQueues.f_endedCount a)])) = X ++ va_pl S.L (wPF cyI cyZ cyO1ad9c cyO4b0d4 { S with O_FeedbackQueues := { S.O_FeedbackQueues with f_levelCount := va_up S.O_FeedbackQueues.f_levelCount a v } }) := by
  rw [va_pl_set hD hL hk]
  exact congrArg (fun l => X ++ l) (va_pl_congr (wSt_O_FeedbackQueues_f_levelCount cyI cyZ cyO1ad9c cyO4b0d4 S h v))
theorem wSt_O_FeedbackQueues_f_taskCount (cyI : ClassId) (cyZ : ClassId) (cyO1ad9c : ClassId) (cyO4b0d4 : ClassId) (S : wPS) {a : Nat} (h : S.K a = 2) (v : Int32) (b : Nat) : va_up (wPF cyI cyZ cyO1ad9c cyO4b0d4 S) a (.inr (2, [va_rf (S.O_FeedbackQueues.f_levelRows a), va_rf (S.O_FeedbackQueues.f_tasks a), va_rf (S.O_FeedbackQueues.f_switchesKept a), .int (S.O_FeedbackQueues.f_levelCount a), .int v, .int (S.O_FeedbackQueues.f_periodTicks a), .int (S.O_FeedbackQueues.f_now a), va_rf (S.O_FeedbackQueues.f_onProcessor a), .int (S.O_FeedbackQueues.f_switchCount a), .int (S.O_FeedbackQueues.f_idleCount a), .int (S.O_FeedbackQueues.f_comeUpCount a), .int (S.O_FeedbackQueues.f_endedCount a)])) b = wPF cyI cyZ cyO1ad9c cyO4b0d4 { S with O_FeedbackQueues := { S.O_FeedbackQueues with f_taskCount := va_up S.O_FeedbackQueues.f_taskCount a v } } b := by by_cases hb : b = a <;> first | (simp only [wPF, va_up_ne _ _ hb]; done) | (simp only [wPF, va_up, if_neg hb]; done) | simp [wPF, va_re, va_up, va_rf, hb, h]
theorem wPu_O_FeedbackQueues_f_taskCount (cyI : ClassId) (cyZ : ClassId) (cyO1ad9c : ClassId) (cyO4b0d4 : ClassId) (X : va_W) (S : wPS) {A : Nat → Prop} {a k : Nat} (hD : va_D A (X ++ va_pl S.L (wPF cyI cyZ cyO1ad9c cyO4b0d4 S))) (hL : a ∈ S.L) (h : S.K a = 2) (hk : (X ++ va_pl S.L (wPF cyI cyZ cyO1ad9c cyO4b0d4 S))[k]? = some (a, wPF cyI cyZ cyO1ad9c cyO4b0d4 S a)) (v : Int32) : (X ++ va_pl S.L (wPF cyI cyZ cyO1ad9c cyO4b0d4 S)).set k (a, .inr (2, [va_rf (S.O_FeedbackQueues.f_levelRows a), va_rf (S.O_FeedbackQueues.f_tasks a), va_rf (S.O_FeedbackQueues.f_switchesKept a), .int (S.O_FeedbackQueues.f_levelCount a), .int v, .int (S.O_FeedbackQueues.f_periodTicks a), .int (S.O_FeedbackQueues.f_now a), va_rf (S.O_FeedbackQueues.f_onProcessor a), .int (S.O_FeedbackQueues.f_switchCount a), .int (S.O_FeedbackQueues.f_idleCount a), .int (S.O_FeedbackQueues.f_comeUpCount a), .int (S.O_FeedbackQueues.f_endedCount a)])) = X ++ va_pl S.L (wPF cyI cyZ cyO1ad9c cyO4b0d4 { S with O_FeedbackQueues := { S.O_FeedbackQueues with f_taskCount := va_up S.O_FeedbackQueues.f_taskCount a v } }) := by
  rw [va_pl_set hD hL hk]
  exact congrArg (fun l => X ++ l) (va_pl_congr (wSt_O_FeedbackQueues_f_taskCount cyI cyZ cyO1ad9c cyO4b0d4 S h v))
theorem wSt_O_FeedbackQueues_f_periodTicks (cyI : ClassId) (cyZ : ClassId) (cyO1ad9c : ClassId) (cyO4b0d4 : ClassId) (S : wPS) {a : Nat} (h : S.K a = 2) (v : Int32) (b : Nat) : va_up (wPF cyI cyZ cyO1ad9c cyO4b0d4 S) a (.inr (2, [va_rf (S.O_FeedbackQueues.f_levelRows a), va_rf (S.O_FeedbackQueues.f_tasks a), va_rf (S.O_FeedbackQueues.f_switchesKept a), .int (S.O_FeedbackQueues.f_levelCount a), .int (S.O_FeedbackQueues.f_taskCount a), .int v, .int (S.O_FeedbackQueues.f_now a), va_rf (S.O_FeedbackQueues.f_onProcessor a), .int (S.O_FeedbackQueues.f_switchCount a), .int (S.O_FeedbackQueues.f_idleCount a), .int (S.O_FeedbackQueues.f_comeUpCount a), .int (S.O_FeedbackQueues.f_endedCount a)])) b = wPF cyI cyZ cyO1ad9c cyO4b0d4 { S with O_FeedbackQueues := { S.O_FeedbackQueues with f_periodTicks := va_up S.O_FeedbackQueues.f_periodTicks a v } } b := by by_cases hb : b = a <;> first | (simp only [wPF, va_up_ne _ _ hb]; done) | (simp only [wPF, va_up, if_neg hb]; done) | simp [wPF, va_re, va_up, va_rf, hb, h]
theorem wPu_O_FeedbackQueues_f_periodTicks (cyI : ClassId) (cyZ : ClassId) (cyO1ad9c : ClassId) (cyO4b0d4 : ClassId) (X : va_W) (S : wPS) {A : Nat → Prop} {a k : Nat} (hD : va_D A (X ++ va_pl S.L (wPF cyI cyZ cyO1ad9c cyO4b0d4 S))) (hL : a ∈ S.L) (h : S.K a = 2) (hk : (X ++ va_pl S.L (wPF cyI cyZ cyO1ad9c cyO4b0d4 S))[k]? = some (a, wPF cyI cyZ cyO1ad9c cyO4b0d4 S a)) (v : Int32) : (X ++ va_pl S.L (wPF cyI cyZ cyO1ad9c cyO4b0d4 S)).set k (a, .inr (2, [va_rf (S.O_FeedbackQueues.f_levelRows a), va_rf (S.O_FeedbackQueues.f_tasks a), va_rf (S.O_FeedbackQueues.f_switchesKept a), .int (S.O_FeedbackQueues.f_levelCount a), .int (S.O_FeedbackQueues.f_taskCount a), .int v, .int (S.O_FeedbackQueues.f_now a), va_rf (S.O_FeedbackQueues.f_onProcessor a), .int (S.O_FeedbackQueues.f_switchCount a), .int (S.O_FeedbackQueues.f_idleCount a), .int (S.O_FeedbackQueues.f_comeUpCount a), .int (S.O_FeedbackQueues.f_endedCount a)])) = X ++ va_pl S.L (wPF cyI cyZ cyO1ad9c cyO4b0d4 { S with O_FeedbackQueues := { S.O_FeedbackQueues with f_periodTicks := va_up S.O_FeedbackQueues.f_periodTicks a v } }) := by
  rw [va_pl_set hD hL hk]
  exact congrArg (fun l => X ++ l) (va_pl_congr (wSt_O_FeedbackQueues_f_periodTicks cyI cyZ cyO1ad9c cyO4b0d4 S h v))
theorem wSt_O_FeedbackQueues_f_now (cyI : ClassId) (cyZ : ClassId) (cyO1ad9c : ClassId) (cyO4b0d4 : ClassId) (S : wPS) {a : Nat} (h : S.K a = 2) (v : Int32) (b : Nat) : va_up (wPF cyI cyZ cyO1ad9c cyO4b0d4 S) a (.inr (2, [va_rf (S.O_FeedbackQueues.f_levelRows a), va_rf (S.O_FeedbackQueues.f_tasks a), va_rf (S.O_FeedbackQueues.f_switchesKept a), .int (S.O_FeedbackQueues.f_levelCount a), .int (S.O_FeedbackQueues.f_taskCount a), .int (S.O_FeedbackQueues.f_periodTicks a), .int v, va_rf (S.O_FeedbackQueues.f_onProcessor a), .int (S.O_FeedbackQueues.f_switchCount a), .int (S.O_FeedbackQueues.f_idleCount a), .int (S.O_FeedbackQueues.f_comeUpCount a), .int (S.O_FeedbackQueues.f_endedCount a)])) b = wPF cyI cyZ cyO1ad9c cyO4b0d4 { S with O_FeedbackQueues := { S.O_FeedbackQueues with f_now := va_up S.O_FeedbackQueues.f_now a v } } b := by by_cases hb : b = a <;> first | (simp only [wPF, va_up_ne _ _ hb]; done) | (simp only [wPF, va_up, if_neg hb]; done) | simp [wPF, va_re, va_up, va_rf, hb, h]
theorem wPu_O_FeedbackQueues_f_now (cyI : ClassId) (cyZ : ClassId) (cyO1ad9c : ClassId) (cyO4b0d4 : ClassId) (X : va_W) (S : wPS) {A : Nat → Prop} {a k : Nat} (hD : va_D A (X ++ va_pl S.L (wPF cyI cyZ cyO1ad9c cyO4b0d4 S))) (hL : a ∈ S.L) (h : S.K a = 2) (hk : (X ++ va_pl S.L (wPF cyI cyZ cyO1ad9c cyO4b0d4 S))[k]? = some (a, wPF cyI cyZ cyO1ad9c cyO4b0d4 S a)) (v : Int32) : (X ++ va_pl S.L (wPF cyI cyZ cyO1ad9c cyO4b0d4 S)).set k (a, .inr (2, [va_rf (S.O_FeedbackQueues.f_levelRows a), va_rf (S.O_FeedbackQueues.f_tasks a), va_rf (S.O_FeedbackQueues.f_switchesKept a), .int (S.O_FeedbackQueues.f_levelCount a), .int (S.O_FeedbackQueues.f_taskCount a), .int (S.O_FeedbackQueues.f_periodTicks a), .int v, va_rf (S.O_FeedbackQueues.f_onProcessor a), .int (S.O_FeedbackQueues.f_switchCount a), .int (S.O_FeedbackQueues.f_idleCount a), .int (S.O_FeedbackQueues.f_comeUpCount a), .int (S.O_FeedbackQueues.f_endedCount a)])) = X ++ va_pl S.L (wPF cyI cyZ cyO1ad9c cyO4b0d4 { S with O_FeedbackQueues := { S.O_FeedbackQueues with f_now := va_up S.O_FeedbackQueues.f_now a v } }) := by
  rw [va_pl_set hD hL hk]
  exact congrArg (fun l => X ++ l) (va_pl_congr (wSt_O_FeedbackQueues_f_now cyI cyZ cyO1ad9c cyO4b0d4 S h v))
theorem wSt_O_FeedbackQueues_f_onProcessor (cyI : ClassId) (cyZ : ClassId) (cyO1ad9c : ClassId) (cyO4b0d4 : ClassId) (S : wPS) {a : Nat} (h : S.K a = 2) (v : Option Nat) (b : Nat) : va_up (wPF cyI cyZ cyO1ad9c cyO4b0d4 S) a (.inr (2, [va_rf (S.O_FeedbackQueues.f_levelRows a), va_rf (S.O_FeedbackQueues.f_tasks a), va_rf (S.O_FeedbackQueues.f_switchesKept a), .int (S.O_FeedbackQueues.f_levelCount a), .int (S.O_FeedbackQueues.f_taskCount a), .int (S.O_FeedbackQueues.f_periodTicks a), .int (S.O_FeedbackQueues.f_now a), va_rf v, .int (S.O_FeedbackQueues.f_switchCount a), .int (S.O_FeedbackQueues.f_idleCount a), .int (S.O_FeedbackQueues.f_comeUpCount a), .int (S.O_FeedbackQueues.f_endedCount a)])) b = wPF cyI cyZ cyO1ad9c cyO4b0d4 { S with O_FeedbackQueues := { S.O_FeedbackQueues with f_onProcessor := va_up S.O_FeedbackQueues.f_onProcessor a v } } b := by by_cases hb : b = a <;> first | (simp only [wPF, va_up_ne _ _ hb]; done) | (simp only [wPF, va_up, if_neg hb]; done) | simp [wPF, va_re, va_up, va_rf, hb, h]
theorem wPu_O_FeedbackQueues_f_onProcessor (cyI : ClassId) (cyZ : ClassId) (cyO1ad9c : ClassId) (cyO4b0d4 : ClassId) (X : va_W) (S : wPS) {A : Nat → Prop} {a k : Nat} (hD : va_D A (X ++ va_pl S.L (wPF cyI cyZ cyO1ad9c cyO4b0d4 S))) (hL : a ∈ S.L) (h : S.K a = 2) (hk : (X ++ va_pl S.L (wPF cyI cyZ cyO1ad9c cyO4b0d4 S))[k]? = some (a, wPF cyI cyZ cyO1ad9c cyO4b0d4 S a)) (v : Option Nat) : (X ++ va_pl S.L (wPF cyI cyZ cyO1ad9c cyO4b0d4 S)).set k (a, .inr (2, [va_rf (S.O_FeedbackQueues.f_levelRows a), va_rf (S.O_FeedbackQueues.f_tasks a), va_rf (S.O_FeedbackQueues.f_switchesKept a), .int (S.O_FeedbackQueues.f_levelCount a), .int (S.O_FeedbackQueues.f_taskCount a), .int (S.O_FeedbackQueues.f_periodTicks a), .int (S.O_FeedbackQueues.f_now a), va_rf v, .int (S.O_FeedbackQueues.f_switchCount a), .int (S.O_FeedbackQueues.f_idleCount a), .int (S.O_FeedbackQueues.f_comeUpCount a), .int (S.O_FeedbackQueues.f_endedCount a)])) = X ++ va_pl S.L (wPF cyI cyZ cyO1ad9c cyO4b0d4 { S with O_FeedbackQueues := { S.O_FeedbackQueues with f_onProcessor := va_up S.O_FeedbackQueues.f_onProcessor a v } }) := by
  rw [va_pl_set hD hL hk]
  exact congrArg (fun l => X ++ l) (va_pl_congr (wSt_O_FeedbackQueues_f_onProcessor cyI cyZ cyO1ad9c cyO4b0d4 S h v))
theorem wSt_O_FeedbackQueues_f_switchCount (cyI : ClassId) (cyZ : ClassId) (cyO1ad9c : ClassId) (cyO4b0d4 : ClassId) (S : wPS) {a : Nat} (h : S.K a = 2) (v : Int32) (b : Nat) : va_up (wPF cyI cyZ cyO1ad9c cyO4b0d4 S) a (.inr (2, [va_rf (S.O_FeedbackQueues.f_levelRows a), va_rf (S.O_FeedbackQueues.f_tasks a), va_rf (S.O_FeedbackQueues.f_switchesKept a), .int (S.O_FeedbackQueues.f_levelCount a), .int (S.O_FeedbackQueues.f_taskCount a), .int (S.O_FeedbackQueues.f_periodTicks a), .int (S.O_FeedbackQueues.f_now a), va_rf (S.O_FeedbackQueues.f_onProcessor a), .int v, .int (S.O_FeedbackQueues.f_idleCount a), .int (S.O_FeedbackQueues.f_comeUpCount a), .int (S.O_FeedbackQueues.f_endedCount a)])) b = wPF cyI cyZ cyO1ad9c cyO4b0d4 { S with O_FeedbackQueues := { S.O_FeedbackQueues with f_switchCount := va_up S.O_FeedbackQueues.f_switchCount a v } } b := by by_cases hb : b = a <;> first | (simp only [wPF, va_up_ne _ _ hb]; done) | (simp only [wPF, va_up, if_neg hb]; done) | simp [wPF, va_re, va_up, va_rf, hb, h]
theorem wPu_O_FeedbackQueues_f_switchCount (cyI : ClassId) (cyZ : ClassId) (cyO1ad9c : ClassId) (cyO4b0d4 : ClassId) (X : va_W) (S : wPS) {A : Nat → Prop} {a k : Nat} (hD : va_D A (X ++ va_pl S.L (wPF cyI cyZ cyO1ad9c cyO4b0d4 S))) (hL : a ∈ S.L) (h : S.K a = 2) (hk : (X ++ va_pl S.L (wPF cyI cyZ cyO1ad9c cyO4b0d4 S))[k]? = some (a, wPF cyI cyZ cyO1ad9c cyO4b0d4 S a)) (v : Int32) : (X ++ va_pl S.L (wPF cyI cyZ cyO1ad9c cyO4b0d4 S)).set k (a, .inr (2, [va_rf (S.O_FeedbackQueues.f_levelRows a), va_rf (S.O_FeedbackQueues.f_tasks a), va_rf (S.O_FeedbackQueues.f_switchesKept a), .int (S.O_FeedbackQueues.f_levelCount a), .int (S.O_FeedbackQueues.f_taskCount a), .int (S.O_FeedbackQueues.f_periodTicks a), .int (S.O_FeedbackQueues.f_now a), va_rf (S.O_FeedbackQueues.f_onProcessor a), .int v, .int (S.O_FeedbackQueues.f_idleCount a), .int (S.O_FeedbackQueues.f_comeUpCount a), .int (S.O_FeedbackQueues.f_endedCount a)])) = X ++ va_pl S.L (wPF cyI cyZ cyO1ad9c cyO4b0d4 { S with O_FeedbackQueues := { S.O_FeedbackQueues with f_switchCount := va_up S.O_FeedbackQueues.f_switchCount a v } }) := by
  rw [va_pl_set hD hL hk]
  exact congrArg (fun l => X ++ l) (va_pl_congr (wSt_O_FeedbackQueues_f_switchCount cyI cyZ cyO1ad9c cyO4b0d4 S h v))
theorem wSt_O_FeedbackQueues_f_idleCount (cyI : ClassId) (cyZ : ClassId) (cyO1ad9c : ClassId) (cyO4b0d4 : ClassId) (S : wPS) {a : Nat} (h : S.K a = 2) (v : Int32) (b : Nat) : va_up (wPF cyI cyZ cyO1ad9c cyO4b0d4 S) a (.inr (2, [va_rf (S.O_FeedbackQueues.f_levelRows a), va_rf (S.O_FeedbackQueues.f_tasks a), va_rf (S.O_FeedbackQueues.f_switchesKept a), .int (S.O_FeedbackQueues.f_levelCount a), .int (S.O_FeedbackQueues.f_taskCount a), .int (S.O_FeedbackQueues.f_periodTicks a), .int (S.O_FeedbackQueues.f_now a), va_rf (S.O_FeedbackQueues.f_onProcessor a), .int (S.O_FeedbackQueues.f_switchCount a), .int v, .int (S.O_FeedbackQueues.f_comeUpCount a), .int (S.O_FeedbackQueues.f_endedCount a)])) b = wPF cyI cyZ cyO1ad9c cyO4b0d4 { S with O_FeedbackQueues := { S.O_FeedbackQueues with f_idleCount := va_up S.O_FeedbackQueues.f_idleCount a v } } b := by by_cases hb : b = a <;> first | (simp only [wPF, va_up_ne _ _ hb]; done) | (simp only [wPF, va_up, if_neg hb]; done) | simp [wPF, va_re, va_up, va_rf, hb, h]
theorem wPu_O_FeedbackQueues_f_idleCount (cyI : ClassId) (cyZ : ClassId) (cyO1ad9c : ClassId) (cyO4b0d4 : ClassId) (X : va_W) (S : wPS) {A : Nat → Prop} {a k : Nat} (hD : va_D A (X ++ va_pl S.L (wPF cyI cyZ cyO1ad9c cyO4b0d4 S))) (hL : a ∈ S.L) (h : S.K a = 2) (hk : (X ++ va_pl S.L (wPF cyI cyZ cyO1ad9c cyO4b0d4 S))[k]? = some (a, wPF cyI cyZ cyO1ad9c cyO4b0d4 S a)) (v : Int32) : (X ++ va_pl S.L (wPF cyI cyZ cyO1ad9c cyO4b0d4 S)).set k (a, .inr (2, [va_rf (S.O_FeedbackQueues.f_levelRows a), va_rf (S.O_FeedbackQueues.f_tasks a), va_rf (S.O_FeedbackQueues.f_switchesKept a), .int (S.O_FeedbackQueues.f_levelCount a), .int (S.O_FeedbackQueues.f_taskCount a), .int (S.O_FeedbackQueues.f_periodTicks a), .int (S.O_FeedbackQueues.f_now a), va_rf (S.O_FeedbackQueues.f_onProcessor a), .int (S.O_FeedbackQueues.f_switchCount a), .int v, .int (S.O_FeedbackQueues.f_comeUpCount a), .int (S.O_FeedbackQueues.f_endedCount a)])) = X ++ va_pl S.L (wPF cyI cyZ cyO1ad9c cyO4b0d4 { S with O_FeedbackQueues := { S.O_FeedbackQueues with f_idleCount := va_up S.O_FeedbackQueues.f_idleCount a v } }) := by
  rw [va_pl_set hD hL hk]
  exact congrArg (fun l => X ++ l) (va_pl_congr (wSt_O_FeedbackQueues_f_idleCount cyI cyZ cyO1ad9c cyO4b0d4 S h v))
theorem wSt_O_FeedbackQueues_f_comeUpCount (cyI : ClassId) (cyZ : ClassId) (cyO1ad9c : ClassId) (cyO4b0d4 : ClassId) (S : wPS) {a : Nat} (h : S.K a = 2) (v : Int32) (b : Nat) : va_up (wPF cyI cyZ cyO1ad9c cyO4b0d4 S) a (.inr (2, [va_rf (S.O_FeedbackQueues.f_levelRows a), va_rf (S.O_FeedbackQueues.f_tasks a), va_rf (S.O_FeedbackQueues.f_switchesKept a), .int (S.O_FeedbackQueues.f_levelCount a), .int (S.O_FeedbackQueues.f_taskCount a), .int (S.O_FeedbackQueues.f_periodTicks a), .int (S.O_FeedbackQueues.f_now a), va_rf (S.O_FeedbackQueues.f_onProcessor a), .int (S.O_FeedbackQueues.f_switchCount a), .int (S.O_FeedbackQueues.f_idleCount a), .int v, .int (S.O_FeedbackQueues.f_endedCount a)])) b = wPF cyI cyZ cyO1ad9c cyO4b0d4 { S with O_FeedbackQueues := { S.O_FeedbackQueues with f_comeUpCount := va_up S.O_FeedbackQueues.f_comeUpCount a v } } b := by by_cases hb : b = a <;> first | (simp only [wPF, va_up_ne _ _ hb]; done) | (simp only [wPF, va_up, if_neg hb]; done) | simp [wPF, va_re, va_up, va_rf, hb, h]
theorem wPu_O_FeedbackQueues_f_comeUpCount (cyI : ClassId) (cyZ : ClassId) (cyO1ad9c : ClassId) (cyO4b0d4 : ClassId) (X : va_W) (S : wPS) {A : Nat → Prop} {a k : Nat} (hD : va_D A (X ++ va_pl S.L (wPF cyI cyZ cyO1ad9c cyO4b0d4 S))) (hL : a ∈ S.L) (h : S.K a = 2) (hk : (X ++ va_pl S.L (wPF cyI cyZ cyO1ad9c cyO4b0d4 S))[k]? = some (a, wPF cyI cyZ cyO1ad9c cyO4b0d4 S a)) (v : Int32) : (X ++ va_pl S.L (wPF cyI cyZ cyO1ad9c cyO4b0d4 S)).set k (a, .inr (2, [va_rf (S.O_FeedbackQueues.f_levelRows a), va_rf (S.O_FeedbackQueues.f_tasks a), va_rf (S.O_FeedbackQueues.f_switchesKept a), .int (S.O_FeedbackQueues.f_levelCount a), .int (S.O_FeedbackQueues.f_taskCount a), .int (S.O_FeedbackQueues.f_periodTicks a), .int (S.O_FeedbackQueues.f_now a), va_rf (S.O_FeedbackQueues.f_onProcessor a), .int (S.O_FeedbackQueues.f_switchCount a), .int (S.O_FeedbackQueues.f_idleCount a), .int v, .int (S.O_FeedbackQueues.f_endedCount a)])) = X ++ va_pl S.L (wPF cyI cyZ cyO1ad9c cyO4b0d4 { S with O_FeedbackQueues := { S.O_FeedbackQueues with f_comeUpCount := va_up S.O_FeedbackQueues.f_comeUpCount a v } }) := by
  rw [va_pl_set hD hL hk]
  exact congrArg (fun l => X ++ l) (va_pl_congr (wSt_O_FeedbackQueues_f_comeUpCount cyI cyZ cyO1ad9c cyO4b0d4 S h v))
theorem wSt_O_FeedbackQueues_f_endedCount (cyI : ClassId) (cyZ : ClassId) (cyO1ad9c : ClassId) (cyO4b0d4 : ClassId) (S : wPS) {a : Nat} (h : S.K a = 2) (v : Int32) (b : Nat) : va_up (wPF cyI cyZ cyO1ad9c cyO4b0d4 S) a (.inr (2, [va_rf (S.O_FeedbackQueues.f_levelRows a), va_rf (S.O_FeedbackQueues.f_tasks a), va_rf (S.O_FeedbackQueues.f_switchesKept a), .int (S.O_FeedbackQueues.f_levelCount a), .int (S.O_FeedbackQueues.f_taskCount a), .int (S.O_FeedbackQueues.f_periodTicks a), .int (S.O_FeedbackQueues.f_now a), va_rf (S.O_FeedbackQueues.f_onProcessor a), .int (S.O_FeedbackQueues.f_switchCount a), .int (S.O_FeedbackQueues.f_idleCount a), .int (S.O_FeedbackQueues.f_comeUpCount a), .int v])) b = wPF cyI cyZ cyO1ad9c cyO4b0d4 { S with O_FeedbackQueues := { S.O_FeedbackQueues with f_endedCount := va_up S.O_FeedbackQueues.f_endedCount a v } } b := by by_cases hb : b = a <;> first | (simp only [wPF, va_up_ne _ _ hb]; done) | (simp only [wPF, va_up, if_neg hb]; done) | simp [wPF, va_re, va_up, va_rf, hb, h]
theorem wPu_O_FeedbackQueues_f_endedCount (cyI : ClassId) (cyZ : ClassId) (cyO1ad9c : ClassId) (cyO4b0d4 : ClassId) (X : va_W) (S : wPS) {A : Nat → Prop} {a k : Nat} (hD : va_D A (X ++ va_pl S.L (wPF cyI cyZ cyO1ad9c cyO4b0d4 S))) (hL : a ∈ S.L) (h : S.K a = 2) (hk : (X ++ va_pl S.L (wPF cyI cyZ cyO1ad9c cyO4b0d4 S))[k]? = some (a, wPF cyI cyZ cyO1ad9c cyO4b0d4 S a)) (v : Int32) : (X ++ va_pl S.L (wPF cyI cyZ cyO1ad9c cyO4b0d4 S)).set k (a, .inr (2, [va_rf (S.O_FeedbackQueues.f_levelRows a), va_rf (S.O_FeedbackQueues.f_tasks a), va_rf (S.O_FeedbackQueues.f_switchesKept a), .int (S.O_FeedbackQueues.f_levelCount a), .int (S.O_FeedbackQueues.f_taskCount a), .int (S.O_FeedbackQueues.f_periodTicks a), .int (S.O_FeedbackQueues.f_now a), va_rf (S.O_FeedbackQueues.f_onProcessor a), .int (S.O_FeedbackQueues.f_switchCount a), .int (S.O_FeedbackQueues.f_idleCount a), .int (S.O_FeedbackQueues.f_comeUpCount a), .int v])) = X ++ va_pl S.L (wPF cyI cyZ cyO1ad9c cyO4b0d4 { S with O_FeedbackQueues := { S.O_FeedbackQueues with f_endedCount := va_up S.O_FeedbackQueues.f_endedCount a v } }) := by
  rw [va_pl_set hD hL hk]
  exact congrArg (fun l => X ++ l) (va_pl_congr (wSt_O_FeedbackQueues_f_endedCount cyI cyZ cyO1ad9c cyO4b0d4 S h v))
theorem wNw_O_FeedbackQueues (cyI : ClassId) (cyZ : ClassId) (cyO1ad9c : ClassId) (cyO4b0d4 : ClassId) (S : wPS) (a b : Nat) : va_up (wPF cyI cyZ cyO1ad9c cyO4b0d4 S) a (.inr (2, [.null, .null, .null, .int 0, .int 0, .int 0, .int 0, .null, .int 0, .int 0, .int 0, .int 0])) b = wPF cyI cyZ cyO1ad9c cyO4b0d4 { S with L := S.L ++ [a], K := va_up S.K a 2, O_FeedbackQueues := { f_levelRows := va_up S.O_FeedbackQueues.f_levelRows a none, f_tasks := va_up S.O_FeedbackQueues.f_tasks a none, f_switchesKept := va_up S.O_FeedbackQueues.f_switchesKept a none, f_levelCount := va_up S.O_FeedbackQueues.f_levelCount a 0, f_taskCount := va_up S.O_FeedbackQueues.f_taskCount a 0, f_periodTicks := va_up S.O_FeedbackQueues.f_periodTicks a 0, f_now := va_up S.O_FeedbackQueues.f_now a 0, f_onProcessor := va_up S.O_FeedbackQueues.f_onProcessor a none, f_switchCount := va_up S.O_FeedbackQueues.f_switchCount a 0, f_idleCount := va_up S.O_FeedbackQueues.f_idleCount a 0, f_comeUpCount := va_up S.O_FeedbackQueues.f_comeUpCount a 0, f_endedCount := va_up S.O_FeedbackQueues.f_endedCount a 0 } } b := by by_cases hb : b = a <;> first | (simp only [wPF, va_up_ne _ _ hb]; done) | (simp only [wPF, va_up, if_neg hb]; done) | simp [wPF, va_re, va_up, va_rf, hb]
theorem wPn_O_FeedbackQueues (cyI : ClassId) (cyZ : ClassId) (cyO1ad9c : ClassId) (cyO4b0d4 : ClassId) (X : va_W) (S : wPS) {a : Nat} (ha : a ∉ S.L) : (X ++ va_pl S.L (wPF cyI cyZ cyO1ad9c cyO4b0d4 S)) ++ [(a, .inr (2, [.null, .null, .null, .int 0, .int 0, .int 0, .int 0, .null, .int 0, .int 0, .int 0, .int 0]))] = X ++ va_pl (S.L ++ [a]) (wPF cyI cyZ cyO1ad9c cyO4b0d4 { S with L := S.L ++ [a], K := va_up S.K a 2, O_FeedbackQueues := { f_levelRows := va_up S.O_FeedbackQueues.f_levelRows a none, f_tasks := va_up S.O_FeedbackQueues.f_tasks a none, f_switchesKept := va_up S.O_FeedbackQueues.f_switchesKept a none, f_levelCount := va_up S.O_FeedbackQueues.f_levelCount a 0, f_taskCount := va_up S.O_FeedbackQueues.f_taskCount a 0, f_periodTicks := va_up S.O_FeedbackQueues.f_periodTicks a 0, f_now := va_up S.O_FeedbackQueues.f_now a 0, f_onProcessor := va_up S.O_FeedbackQueues.f_onProcessor a none, f_switchCount := va_up S.O_FeedbackQueues.f_switchCount a 0, f_idleCount := va_up S.O_FeedbackQueues.f_idleCount a 0, f_comeUpCount := va_up S.O_FeedbackQueues.f_comeUpCount a 0, f_endedCount := va_up S.O_FeedbackQueues.f_endedCount a 0 } }) := by
  rw [List.append_assoc, va_pl_push ha]
  exact congrArg (fun l => X ++ l) (va_pl_congr (wNw_O_FeedbackQueues cyI cyZ cyO1ad9c cyO4b0d4 S a))
theorem wAt_O_FeedbackQueuesModel (cyI : ClassId) (cyZ : ClassId) (cyO1ad9c : ClassId) (cyO4b0d4 : ClassId) (S : wPS) {a : Nat} (h : S.K a = 3) : wPF cyI cyZ cyO1ad9c cyO4b0d4 S a = .inr (3, [.int (S.O_FeedbackQueuesModel.f_thrown a), .int (S.O_FeedbackQueuesModel.f_levels a), va_rf (S.O_FeedbackQueuesModel.f_quanta a), va_rf (S.O_FeedbackQueuesModel.f_shares a), .int (S.O_FeedbackQueuesModel.f_period a), .int (S.O_FeedbackQueuesModel.f_processes a), va_rf (S.O_FeedbackQueuesModel.f_arrivals a), va_rf (S.O_FeedbackQueuesModel.f_bursts a), va_rf (S.O_FeedbackQueuesModel.f_ticks a), .int (S.O_FeedbackQueuesModel.f_time a), .int (S.O_FeedbackQueuesModel.f_running a), va_rf (S.O_FeedbackQueuesModel.f_state a), va_rf (S.O_FeedbackQueuesModel.f_level a), va_rf (S.O_FeedbackQueuesModel.f_at a), va_rf (S.O_FeedbackQueuesModel.f_left a), va_rf (S.O_FeedbackQueuesModel.f_quantum a), va_rf (S.O_FeedbackQueuesModel.f_share a), va_rf (S.O_FeedbackQueuesModel.f_kept a), va_rf (S.O_FeedbackQueuesModel.f_until a), va_rf (S.O_FeedbackQueuesModel.f_counts a), va_rf (S.O_FeedbackQueuesModel.f_queue a), va_rf (S.O_FeedbackQueuesModel.f_size a), va_rf (S.O_FeedbackQueuesModel.f_all a), va_rf (S.O_FeedbackQueuesModel.f_switches a)]) := by simp [wPF, h]
theorem wGt_O_FeedbackQueuesModel (cyI : ClassId) (cyZ : ClassId) (cyO1ad9c : ClassId) (cyO4b0d4 : ClassId) (X : va_W) (S : wPS) {a : Nat} (hL : a ∈ S.L) (h : S.K a = 3) : ∃ k : Nat, (X ++ va_pl S.L (wPF cyI cyZ cyO1ad9c cyO4b0d4 S))[k]? = some (a, wPF cyI cyZ cyO1ad9c cyO4b0d4 S a) ∧ (X ++ va_pl S.L (wPF cyI cyZ cyO1ad9c cyO4b0d4 S))[k]? = some (a, .inr (3, [.int (S.O_FeedbackQueuesModel.f_thrown a), .int (S.O_FeedbackQueuesModel.f_levels a), va_rf (S.O_FeedbackQueuesModel.f_quanta a), va_rf (S.O_FeedbackQueuesModel.f_shares a), .int (S.O_FeedbackQueuesModel.f_period a), .int (S.O_FeedbackQueuesModel.f_processes a), va_rf (S.O_FeedbackQueuesModel.f_arrivals a), va_rf (S.O_FeedbackQueuesModel.f_bursts a), va_rf (S.O_FeedbackQueuesModel.f_ticks a), .int (S.O_FeedbackQueuesModel.f_time a), .int (S.O_FeedbackQueuesModel.f_running a), va_rf (S.O_FeedbackQueuesModel.f_state a), va_rf (S.O_FeedbackQueuesModel.f_level a), va_rf (S.O_FeedbackQueuesModel.f_at a), va_rf (S.O_FeedbackQueuesModel.f_left a), va_rf (S.O_FeedbackQueuesModel.f_quantum a), va_rf (S.O_FeedbackQueuesModel.f_share a), va_rf (S.O_FeedbackQueuesModel.f_kept a), va_rf (S.O_FeedbackQueuesModel.f_until a), va_rf (S.O_FeedbackQueuesModel.f_counts a), va_rf (S.O_FeedbackQueuesModel.f_queue a), va_rf (S.O_FeedbackQueuesModel.f_size a), va_rf (S.O_FeedbackQueuesModel.f_all a), va_rf (S.O_FeedbackQueuesModel.f_switches a)])) := by
  obtain ⟨k, hk⟩ := va_pl_get (X := X) (f := wPF cyI cyZ cyO1ad9c cyO4b0d4 S) hL
  exact ⟨k, hk, hk.trans (congrArg (fun e => some (a, e)) (wAt_O_FeedbackQueuesModel cyI cyZ cyO1ad9c cyO4b0d4 S h))⟩
theorem wSt_O_FeedbackQueuesModel_f_thrown (cyI : ClassId) (cyZ : ClassId) (cyO1ad9c : ClassId) (cyO4b0d4 : ClassId) (S : wPS) {a : Nat} (h : S.K a = 3) (v : Int32) (b : Nat) : va_up (wPF cyI cyZ cyO1ad9c cyO4b0d4 S) a (.inr (3, [.int v, .int (S.O_FeedbackQueuesModel.f_levels a), va_rf (S.O_FeedbackQueuesModel.f_quanta a), va_rf (S.O_FeedbackQueuesModel.f_shares a), .int (S.O_FeedbackQueuesModel.f_period a), .int (S.O_FeedbackQueuesModel.f_processes a), va_rf (S.O_FeedbackQueuesModel.f_arrivals a), va_rf (S.O_FeedbackQueuesModel.f_bursts a), va_rf (S.O_FeedbackQueuesModel.f_ticks a), .int (S.O_FeedbackQueuesModel.f_time a), .int (S.O_FeedbackQueuesModel.f_running a), va_rf (S.O_FeedbackQueuesModel.f_state a), va_rf (S.O_FeedbackQueuesModel.f_level a), va_rf (S.O_FeedbackQueuesModel.f_at a), va_rf (S.O_FeedbackQueuesModel.f_left a), va_rf (S.O_FeedbackQueuesModel.f_quantum a), va_rf (S.O_FeedbackQueuesModel.f_share a), va_rf (S.O_FeedbackQueuesModel.f_kept a), va_rf (S.O_FeedbackQueuesModel.f_until a), va_rf (S.O_FeedbackQueuesModel.f_counts a), va_rf (S.O_FeedbackQueuesModel.f_queue a), va_rf (S.O_FeedbackQueuesModel.f_size a), va_rf (S.O_FeedbackQueuesModel.f_all a), va_rf (S.O_FeedbackQueuesModel.f_switches a)])) b = wPF cyI cyZ cyO1ad9c cyO4b0d4 { S with O_FeedbackQueuesModel := { S.O_FeedbackQueuesModel with f_thrown := va_up S.O_FeedbackQueuesModel.f_thrown a v } } b := by by_cases hb : b = a <;> first | (simp only [wPF, va_up_ne _ _ hb]; done) | (simp only [wPF, va_up, if_neg hb]; done) | simp [wPF, va_re, va_up, va_rf, hb, h]
theorem wPu_O_FeedbackQueuesModel_f_thrown (cyI : ClassId) (cyZ : ClassId) (cyO1ad9c : ClassId) (cyO4b0d4 : ClassId) (X : va_W) (S : wPS) {A : Nat → Prop} {a k : Nat} (hD : va_D A (X ++ va_pl S.L (wPF cyI cyZ cyO1ad9c cyO4b0d4 S))) (hL : a ∈ S.L) (h : S.K a = 3) (hk : (X ++ va_pl S.L (wPF cyI cyZ cyO1ad9c cyO4b0d4 S))[k]? = some (a, wPF cyI cyZ cyO1ad9c cyO4b0d4 S a)) (v : Int32) : (X ++ va_pl S.L (wPF cyI cyZ cyO1ad9c cyO4b0d4 S)).set k (a, .inr (3, [.int v, .int (S.O_FeedbackQueuesModel.f_levels a), va_rf (S.O_FeedbackQueuesModel.f_quanta a), va_rf (S.O_FeedbackQueuesModel.f_shares a), .int (S.O_FeedbackQueuesModel.f_period a), .int (S.O_FeedbackQueuesModel.f_processes a), va_rf (S.O_FeedbackQueuesModel.f_arrivals a), va_rf (S.O_FeedbackQueuesModel.f_bursts a), va_rf (S.O_FeedbackQueuesModel.f_ticks a), .int (S.O_FeedbackQueuesModel.f_time a), .int (S.O_FeedbackQueuesModel.f_running a), va_rf (S.O_FeedbackQueuesModel.f_state a), va_rf (S.O_FeedbackQueuesModel.f_level a), va_rf (S.O_FeedbackQueuesModel.f_at a), va_rf (S.O_FeedbackQueuesModel.f_left a), va_rf (S.O_FeedbackQueuesModel.f_quantum a), va_rf (S.O_FeedbackQueuesModel.f_share a), va_rf (S.O_FeedbackQueuesModel.f_kept a), va_rf (S.O_FeedbackQueuesModel.f_until a), va_rf (S.O_FeedbackQueuesModel.f_counts a), va_rf (S.O_FeedbackQueuesModel.f_queue a), va_rf (S.O_FeedbackQueuesModel.f_size a), va_rf (S.O_FeedbackQueuesModel.f_all a), va_rf (S.O_FeedbackQueuesModel.f_switches a)])) = X ++ va_pl S.L (wPF cyI cyZ cyO1ad9c cyO4b0d4 { S with O_FeedbackQueuesModel := { S.O_FeedbackQueuesModel with f_thrown := va_up S.O_FeedbackQueuesModel.f_thrown a v } }) := by
  rw [va_pl_set hD hL hk]
  exact congrArg (fun l => X ++ l) (va_pl_congr (wSt_O_FeedbackQueuesModel_f_thrown cyI cyZ cyO1ad9c cyO4b0d4 S h v))
theorem wSt_O_FeedbackQueuesModel_f_levels (cyI : ClassId) (cyZ : ClassId) (cyO1ad9c : ClassId) (cyO4b0d4 : ClassId) (S : wPS) {a : Nat} (h : S.K a = 3) (v : Int32) (b : Nat) : va_up (wPF cyI cyZ cyO1ad9c cyO4b0d4 S) a (.inr (3, [.int (S.O_FeedbackQueuesModel.f_thrown a), .int v, va_rf (S.O_FeedbackQueuesModel.f_quanta a), va_rf (S.O_FeedbackQueuesModel.f_shares a), .int (S.O_FeedbackQueuesModel.f_period a), .int (S.O_FeedbackQueuesModel.f_processes a), va_rf (S.O_FeedbackQueuesModel.f_arrivals a), va_rf (S.O_FeedbackQueuesModel.f_bursts a), va_rf (S.O_FeedbackQueuesModel.f_ticks a), .int (S.O_FeedbackQueuesModel.f_time a), .int (S.O_FeedbackQueuesModel.f_running a), va_rf (S.O_FeedbackQueuesModel.f_state a), va_rf (S.O_FeedbackQueuesModel.f_level a), va_rf (S.O_FeedbackQueuesModel.f_at a), va_rf (S.O_FeedbackQueuesModel.f_left a), va_rf (S.O_FeedbackQueuesModel.f_quantum a), va_rf (S.O_FeedbackQueuesModel.f_share a), va_rf (S.O_FeedbackQueuesModel.f_kept a), va_rf (S.O_FeedbackQueuesModel.f_until a), va_rf (S.O_FeedbackQueuesModel.f_counts a), va_rf (S.O_FeedbackQueuesModel.f_queue a), va_rf (S.O_FeedbackQueuesModel.f_size a), va_rf (S.O_FeedbackQueuesModel.f_all a), va_rf (S.O_FeedbackQueuesModel.f_switches a)])) b = wPF cyI cyZ cyO1ad9c cyO4b0d4 { S with O_FeedbackQueuesModel := { S.O_FeedbackQueuesModel with f_levels := va_up S.O_FeedbackQueuesModel.f_levels a v } } b := by by_cases hb : b = a <;> first | (simp only [wPF, va_up_ne _ _ hb]; done) | (simp only [wPF, va_up, if_neg hb]; done) | simp [wPF, va_re, va_up, va_rf, hb, h]
theorem wPu_O_FeedbackQueuesModel_f_levels (cyI : ClassId) (cyZ : ClassId) (cyO1ad9c : ClassId) (cyO4b0d4 : ClassId) (X : va_W) (S : wPS) {A : Nat → Prop} {a k : Nat} (hD : va_D A (X ++ va_pl S.L (wPF cyI cyZ cyO1ad9c cyO4b0d4 S))) (hL : a ∈ S.L) (h : S.K a = 3) (hk : (X ++ va_pl S.L (wPF cyI cyZ cyO1ad9c cyO4b0d4 S))[k]? = some (a, wPF cyI cyZ cyO1ad9c cyO4b0d4 S a)) (v : Int32) : (X ++ va_pl S.L (wPF cyI cyZ cyO1ad9c cyO4b0d4 S)).set k (a, .inr (3, [.int (S.O_FeedbackQueuesModel.f_thrown a), .int v, va_rf (S.O_FeedbackQueuesModel.f_quanta a), va_rf (S.O_FeedbackQueuesModel.f_shares a), .int (S.O_FeedbackQueuesModel.f_period a), .int (S.O_FeedbackQueuesModel.f_processes a), va_rf (S.O_FeedbackQueuesModel.f_arrivals a), va_rf (S.O_FeedbackQueuesModel.f_bursts a), va_rf (S.O_FeedbackQueuesModel.f_ticks a), .int (S.O_FeedbackQueuesModel.f_time a), .int (S.O_FeedbackQueuesModel.f_running a), va_rf (S.O_FeedbackQueuesModel.f_state a), va_rf (S.O_FeedbackQueuesModel.f_level a), va_rf (S.O_FeedbackQueuesModel.f_at a), va_rf (S.O_FeedbackQueuesModel.f_left a), va_rf (S.O_FeedbackQueuesModel.f_quantum a), va_rf (S.O_FeedbackQueuesModel.f_share a), va_rf (S.O_FeedbackQueuesModel.f_kept a), va_rf (S.O_FeedbackQueuesModel.f_until a), va_rf (S.O_FeedbackQueuesModel.f_counts a), va_rf (S.O_FeedbackQueuesModel.f_queue a), va_rf (S.O_FeedbackQueuesModel.f_size a), va_rf (S.O_FeedbackQueuesModel.f_all a), va_rf (S.O_FeedbackQueuesModel.f_switches a)])) = X ++ va_pl S.L (wPF cyI cyZ cyO1ad9c cyO4b0d4 { S with O_FeedbackQueuesModel := { S.O_FeedbackQueuesModel with f_levels := va_up S.O_FeedbackQueuesModel.f_levels a v } }) := by
  rw [va_pl_set hD hL hk]
  exact congrArg (fun l => X ++ l) (va_pl_congr (wSt_O_FeedbackQueuesModel_f_levels cyI cyZ cyO1ad9c cyO4b0d4 S h v))
theorem wSt_O_FeedbackQueuesModel_f_quanta (cyI : ClassId) (cyZ : ClassId) (cyO1ad9c : ClassId) (cyO4b0d4 : ClassId) (S : wPS) {a : Nat} (h : S.K a = 3) (v : Option Nat) (b : Nat) : va_up (wPF cyI cyZ cyO1ad9c cyO4b0d4 S) a (.inr (3, [.int (S.O_FeedbackQueuesModel.f_thrown a), .int (S.O_FeedbackQueuesModel.f_levels a), va_rf v, va_rf (S.O_FeedbackQueuesModel.f_shares a), .int (S.O_FeedbackQueuesModel.f_period a), .int (S.O_FeedbackQueuesModel.f_processes a), va_rf (S.O_FeedbackQueuesModel.f_arrivals a), va_rf (S.O_FeedbackQueuesModel.f_bursts a), va_rf (S.O_FeedbackQueuesModel.f_ticks a), .int (S.O_FeedbackQueuesModel.f_time a), .int (S.O_FeedbackQueuesModel.f_running a), va_rf (S.O_FeedbackQueuesModel.f_state a), va_rf (S.O_FeedbackQueuesModel.f_level a), va_rf (S.O_FeedbackQueuesModel.f_at a), va_rf (S.O_FeedbackQueuesModel.f_left a), va_rf (S.O_FeedbackQueuesModel.f_quantum a), va_rf (S.O_FeedbackQueuesModel.f_share a), va_rf (S.O_FeedbackQueuesModel.f_kept a), va_rf (S.O_FeedbackQueuesModel.f_until a), va_rf (S.O_FeedbackQueuesModel.f_counts a), va_rf (S.O_FeedbackQueuesModel.f_queue a), va_rf (S.O_FeedbackQueuesModel.f_size a), va_rf (S.O_FeedbackQueuesModel.f_all a), va_rf (S.O_FeedbackQueuesModel.f_switches a)])) b = wPF cyI cyZ cyO1ad9c cyO4b0d4 { S with O_FeedbackQueuesModel := { S.O_FeedbackQueuesModel with f_quanta := va_up S.O_FeedbackQueuesModel.f_quanta a v } } b := by by_cases hb : b = a <;> first | (simp only [wPF, va_up_ne _ _ hb]; done) | (simp only [wPF, va_up, if_neg hb]; done) | simp [wPF, va_re, va_up, va_rf, hb, h]
theorem wPu_O_FeedbackQueuesModel_f_quanta (cyI : ClassId) (cyZ : ClassId) (cyO1ad9c : ClassId) (cyO4b0d4 : ClassId) (X : va_W) (S : wPS) {A : Nat → Prop} {a k : Nat} (hD : va_D A (X ++ va_pl S.L (wPF cyI cyZ cyO1ad9c cyO4b0d4 S))) (hL : a ∈ S.L) (h : S.K a = 3) (hk : (X ++ va_pl S.L (wPF cyI cyZ cyO1ad9c cyO4b0d4 S))[k]? = some (a, wPF cyI cyZ cyO1ad9c cyO4b0d4 S a)) (v : Option Nat) : (X ++ va_pl S.L (wPF cyI cyZ cyO1ad9c cyO4b0d4 S)).set k (a, .inr (3, [.int (S.O_FeedbackQueuesModel.f_thrown a), .int (S.O_FeedbackQueuesModel.f_levels a), va_rf v, va_rf (S.O_FeedbackQueuesModel.f_shares a), .int (S.O_FeedbackQueuesModel.f_period a), .int (S.O_FeedbackQueuesModel.f_processes a), va_rf (S.O_FeedbackQueuesModel.f_arrivals a), va_rf (S.O_FeedbackQueuesModel.f_bursts a), va_rf (S.O_FeedbackQueuesModel.f_ticks a), .int (S.O_FeedbackQueuesModel.f_time a), .int (S.O_FeedbackQueuesModel.f_running a), va_rf (S.O_FeedbackQueuesModel.f_state a), va_rf (S.O_FeedbackQueuesModel.f_level a), va_rf (S.O_FeedbackQueuesModel.f_at a), va_rf (S.O_FeedbackQueuesModel.f_left a), va_rf (S.O_FeedbackQueuesModel.f_quantum a), va_rf (S.O_FeedbackQueuesModel.f_share a), va_rf (S.O_FeedbackQueuesModel.f_kept a), va_rf (S.O_FeedbackQueuesModel.f_until a), va_rf (S.O_FeedbackQueuesModel.f_counts a), va_rf (S.O_FeedbackQueuesModel.f_queue a), va_rf (S.O_FeedbackQueuesModel.f_size a), va_rf (S.O_FeedbackQueuesModel.f_all a), va_rf (S.O_FeedbackQueuesModel.f_switches a)])) = X ++ va_pl S.L (wPF cyI cyZ cyO1ad9c cyO4b0d4 { S with O_FeedbackQueuesModel := { S.O_FeedbackQueuesModel with f_quanta := va_up S.O_FeedbackQueuesModel.f_quanta a v } }) := by
  rw [va_pl_set hD hL hk]
  exact congrArg (fun l => X ++ l) (va_pl_congr (wSt_O_FeedbackQueuesModel_f_quanta cyI cyZ cyO1ad9c cyO4b0d4 S h v))
theorem wSt_O_FeedbackQueuesModel_f_shares (cyI : ClassId) (cyZ : ClassId) (cyO1ad9c : ClassId) (cyO4b0d4 : ClassId) (S : wPS) {a : Nat} (h : S.K a = 3) (v : Option Nat) (b : Nat) : va_up (wPF cyI cyZ cyO1ad9c cyO4b0d4 S) a (.inr (3, [.int (S.O_FeedbackQueuesModel.f_thrown a), .int (S.O_FeedbackQueuesModel.f_levels a), va_rf (S.O_FeedbackQueuesModel.f_quanta a), va_rf v, .int (S.O_FeedbackQueuesModel.f_period a), .int (S.O_FeedbackQueuesModel.f_processes a), va_rf (S.O_FeedbackQueuesModel.f_arrivals a), va_rf (S.O_FeedbackQueuesModel.f_bursts a), va_rf (S.O_FeedbackQueuesModel.f_ticks a), .int (S.O_FeedbackQueuesModel.f_time a), .int (S.O_FeedbackQueuesModel.f_running a), va_rf (S.O_FeedbackQueuesModel.f_state a), va_rf (S.O_FeedbackQueuesModel.f_level a), va_rf (S.O_FeedbackQueuesModel.f_at a), va_rf (S.O_FeedbackQueuesModel.f_left a), va_rf (S.O_FeedbackQueuesModel.f_quantum a), va_rf (S.O_FeedbackQueuesModel.f_share a), va_rf (S.O_FeedbackQueuesModel.f_kept a), va_rf (S.O_FeedbackQueuesModel.f_until a), va_rf (S.O_FeedbackQueuesModel.f_counts a), va_rf (S.O_FeedbackQueuesModel.f_queue a), va_rf (S.O_FeedbackQueuesModel.f_size a), va_rf (S.O_FeedbackQueuesModel.f_all a), va_rf (S.O_FeedbackQueuesModel.f_switches a)])) b = wPF cyI cyZ cyO1ad9c cyO4b0d4 { S with O_FeedbackQueuesModel := { S.O_FeedbackQueuesModel with f_shares := va_up S.O_FeedbackQueuesModel.f_shares a v } } b := by by_cases hb : b = a <;> first | (simp only [wPF, va_up_ne _ _ hb]; done) | (simp only [wPF, va_up, if_neg hb]; done) | simp [wPF, va_re, va_up, va_rf, hb, h]
theorem wPu_O_FeedbackQueuesModel_f_shares (cyI : ClassId) (cyZ : ClassId) (cyO1ad9c : ClassId) (cyO4b0d4 : ClassId) (X : va_W) (S : wPS) {A : Nat → Prop} {a k : Nat} (hD : va_D A (X ++ va_pl S.L (wPF cyI cyZ cyO1ad9c cyO4b0d4 S))) (hL : a ∈ S.L) (h : S.K a = 3) (hk : (X ++ va_pl S.L (wPF cyI cyZ cyO1ad9c cyO4b0d4 S))[k]? = some (a, wPF cyI cyZ cyO1ad9c cyO4b0d4 S a)) (v : Option Nat) : (X ++ va_pl S.L (wPF cyI cyZ cyO1ad9c cyO4b0d4 S)).set k (a, .inr (3, [.int (S.O_FeedbackQueuesModel.f_thrown a), .int (S.O_FeedbackQueuesModel.f_levels a), va_rf (S.O_FeedbackQueuesModel.f_quanta a), va_rf v, .int (S.O_FeedbackQueuesModel.f_period a), .int (S.O_FeedbackQueuesModel.f_processes a), va_rf (S.O_FeedbackQueuesModel.f_arrivals a), va_rf (S.O_FeedbackQueuesModel.f_bursts a), va_rf (S.O_FeedbackQueuesModel.f_ticks a), .int (S.O_FeedbackQueuesModel.f_time a), .int (S.O_FeedbackQueuesModel.f_running a), va_rf (S.O_FeedbackQueuesModel.f_state a), va_rf (S.O_FeedbackQueuesModel.f_level a), va_rf (S.O_FeedbackQueuesModel.f_at a), va_rf (S.O_FeedbackQueuesModel.f_left a), va_rf (S.O_FeedbackQueuesModel.f_quantum a), va_rf (S.O_FeedbackQueuesModel.f_share a), va_rf (S.O_FeedbackQueuesModel.f_kept a), va_rf (S.O_FeedbackQueuesModel.f_until a), va_rf (S.O_FeedbackQueuesModel.f_counts a), va_rf (S.O_FeedbackQueuesModel.f_queue a), va_rf (S.O_FeedbackQueuesModel.f_size a), va_rf (S.O_FeedbackQueuesModel.f_all a), va_rf (S.O_FeedbackQueuesModel.f_switches a)])) = X ++ va_pl S.L (wPF cyI cyZ cyO1ad9c cyO4b0d4 { S with O_FeedbackQueuesModel := { S.O_FeedbackQueuesModel with f_shares := va_up S.O_FeedbackQueuesModel.f_shares a v } }) := by
  rw [va_pl_set hD hL hk]
  exact congrArg (fun l => X ++ l) (va_pl_congr (wSt_O_FeedbackQueuesModel_f_shares cyI cyZ cyO1ad9c cyO4b0d4 S h v))
theorem wSt_O_FeedbackQueuesModel_f_period (cyI : ClassId) (cyZ : ClassId) (cyO1ad9c : ClassId) (cyO4b0d4 : ClassId) (S : wPS) {a : Nat} (h : S.K a = 3) (v : Int32) (b : Nat) : va_up (wPF cyI cyZ cyO1ad9c cyO4b0d4 S) a (.inr (3, [.int (S.O_FeedbackQueuesModel.f_thrown a), .int (S.O_FeedbackQueuesModel.f_levels a), va_rf (S.O_FeedbackQueuesModel.f_quanta a), va_rf (S.O_FeedbackQueuesModel.f_shares a), .int v, .int (S.O_FeedbackQueuesModel.f_processes a), va_rf (S.O_FeedbackQueuesModel.f_arrivals a), va_rf (S.O_FeedbackQueuesModel.f_bursts a), va_rf (S.O_FeedbackQueuesModel.f_ticks a), .int (S.O_FeedbackQueuesModel.f_time a), .int (S.O_FeedbackQueuesModel.f_running a), va_rf (S.O_FeedbackQueuesModel.f_state a), va_rf (S.O_FeedbackQueuesModel.f_level a), va_rf (S.O_FeedbackQueuesModel.f_at a), va_rf (S.O_FeedbackQueuesModel.f_left a), va_rf (S.O_FeedbackQueuesModel.f_quantum a), va_rf (S.O_FeedbackQueuesModel.f_share a), va_rf (S.O_FeedbackQueuesModel.f_kept a), va_rf (S.O_FeedbackQueuesModel.f_until a), va_rf (S.O_FeedbackQueuesModel.f_counts a), va_rf (S.O_FeedbackQueuesModel.f_queue a), va_rf (S.O_FeedbackQueuesModel.f_size a), va_rf (S.O_FeedbackQueuesModel.f_all a), va_rf (S.O_FeedbackQueuesModel.f_switches a)])) b = wPF cyI cyZ cyO1ad9c cyO4b0d4 { S with O_FeedbackQueuesModel := { S.O_FeedbackQueuesModel with f_period := va_up S.O_FeedbackQueuesModel.f_period a v } } b := by by_cases hb : b = a <;> first | (simp only [wPF, va_up_ne _ _ hb]; done) | (simp only [wPF, va_up, if_neg hb]; done) | simp [wPF, va_re, va_up, va_rf, hb, h]
theorem wPu_O_FeedbackQueuesModel_f_period (cyI : ClassId) (cyZ : ClassId) (cyO1ad9c : ClassId) (cyO4b0d4 : ClassId) (X : va_W) (S : wPS) {A : Nat → Prop} {a k : Nat} (hD : va_D A (X ++ va_pl S.L (wPF cyI cyZ cyO1ad9c cyO4b0d4 S))) (hL : a ∈ S.L) (h : S.K a = 3) (hk : (X ++ va_pl S.L (wPF cyI cyZ cyO1ad9c cyO4b0d4 S))[k]? = some (a, wPF cyI cyZ cyO1ad9c cyO4b0d4 S a)) (v : Int32) : (X ++ va_pl S.L (wPF cyI cyZ cyO1ad9c cyO4b0d4 S)).set k (a, .inr (3, [.int (S.O_FeedbackQueuesModel.f_thrown a), .int (S.O_FeedbackQueuesModel.f_levels a), va_rf (S.O_FeedbackQueuesModel.f_quanta a), va_rf (S.O_FeedbackQueuesModel.f_shares a), .int v, .int (S.O_FeedbackQueuesModel.f_processes a), va_rf (S.O_FeedbackQueuesModel.f_arrivals a), va_rf (S.O_FeedbackQueuesModel.f_bursts a), va_rf (S.O_FeedbackQueuesModel.f_ticks a), .int (S.O_FeedbackQueuesModel.f_time a), .int (S.O_FeedbackQueuesModel.f_running a), va_rf (S.O_FeedbackQueuesModel.f_state a), va_rf (S.O_FeedbackQueuesModel.f_level a), va_rf (S.O_FeedbackQueuesModel.f_at a), va_rf (S.O_FeedbackQueuesModel.f_left a), va_rf (S.O_FeedbackQueuesModel.f_quantum a), va_rf (S.O_FeedbackQueuesModel.f_share a), va_rf (S.O_FeedbackQueuesModel.f_kept a), va_rf (S.O_FeedbackQueuesModel.f_until a), va_rf (S.O_FeedbackQueuesModel.f_counts a), va_rf (S.O_FeedbackQueuesModel.f_queue a), va_rf (S.O_FeedbackQueuesModel.f_size a), va_rf (S.O_FeedbackQueuesModel.f_all a), va_rf (S.O_FeedbackQueuesModel.f_switches a)])) = X ++ va_pl S.L (wPF cyI cyZ cyO1ad9c cyO4b0d4 { S with O_FeedbackQueuesModel := { S.O_FeedbackQueuesModel with f_period := va_up S.O_FeedbackQueuesModel.f_period a v } }) := by
  rw [va_pl_set hD hL hk]
  exact congrArg (fun l => X ++ l) (va_pl_congr (wSt_O_FeedbackQueuesModel_f_period cyI cyZ cyO1ad9c cyO4b0d4 S h v))
theorem wSt_O_FeedbackQueuesModel_f_processes (cyI : ClassId) (cyZ : ClassId) (cyO1ad9c : ClassId) (cyO4b0d4 : ClassId) (S : wPS) {a : Nat} (h : S.K a = 3) (v : Int32) (b : Nat) : va_up (wPF cyI cyZ cyO1ad9c cyO4b0d4 S) a (.inr (3, [.int (S.O_FeedbackQueuesModel.f_thrown a), .int (S.O_FeedbackQueuesModel.f_levels a), va_rf (S.O_FeedbackQueuesModel.f_quanta a), va_rf (S.O_FeedbackQueuesModel.f_shares a), .int (S.O_FeedbackQueuesModel.f_period a), .int v, va_rf (S.O_FeedbackQueuesModel.f_arrivals a), va_rf (S.O_FeedbackQueuesModel.f_bursts a), va_rf (S.O_FeedbackQueuesModel.f_ticks a), .int (S.O_FeedbackQueuesModel.f_time a), .int (S.O_FeedbackQueuesModel.f_running a), va_rf (S.O_FeedbackQueuesModel.f_state a), va_rf (S.O_FeedbackQueuesModel.f_level a), va_rf (S.O_FeedbackQueuesModel.f_at a), va_rf (S.O_FeedbackQueuesModel.f_left a), va_rf (S.O_FeedbackQueuesModel.f_quantum a), va_rf (S.O_FeedbackQueuesModel.f_share a), va_rf (S.O_FeedbackQueuesModel.f_kept a), va_rf (S.O_FeedbackQueuesModel.f_until a), va_rf (S.O_FeedbackQueuesModel.f_counts a), va_rf (S.O_FeedbackQueuesModel.f_queue a), va_rf (S.O_FeedbackQueuesModel.f_size a), va_rf (S.O_FeedbackQueuesModel.f_all a), va_rf (S.O_FeedbackQueuesModel.f_switches a)])) b = wPF cyI cyZ cyO1ad9c cyO4b0d4 { S with O_FeedbackQueuesModel := { S.O_FeedbackQueuesModel with f_processes := va_up S.O_FeedbackQueuesModel.f_processes a v } } b := by by_cases hb : b = a <;> first | (simp only [wPF, va_up_ne _ _ hb]; done) | (simp only [wPF, va_up, if_neg hb]; done) | simp [wPF, va_re, va_up, va_rf, hb, h]
theorem wPu_O_FeedbackQueuesModel_f_processes (cyI : ClassId) (cyZ : ClassId) (cyO1ad9c : ClassId) (cyO4b0d4 : ClassId) (X : va_W) (S : wPS) {A : Nat → Prop} {a k : Nat} (hD : va_D A (X ++ va_pl S.L (wPF cyI cyZ cyO1ad9c cyO4b0d4 S))) (hL : a ∈ S.L) (h : S.K a = 3) (hk : (X ++ va_pl S.L (wPF cyI cyZ cyO1ad9c cyO4b0d4 S))[k]? = some (a, wPF cyI cyZ cyO1ad9c cyO4b0d4 S a)) (v : Int32) : (X ++ va_pl S.L (wPF cyI cyZ cyO1ad9c cyO4b0d4 S)).set k (a, .inr (3, [.int (S.O_FeedbackQueuesModel.f_thrown a), .int (S.O_FeedbackQueuesModel.f_levels a), va_rf (S.O_FeedbackQueuesModel.f_quanta a), va_rf (S.O_FeedbackQueuesModel.f_shares a), .int (S.O_FeedbackQueuesModel.f_period a), .int v, va_rf (S.O_FeedbackQueuesModel.f_arrivals a), va_rf (S.O_FeedbackQueuesModel.f_bursts a), va_rf (S.O_FeedbackQueuesModel.f_ticks a), .int (S.O_FeedbackQueuesModel.f_time a), .int (S.O_FeedbackQueuesModel.f_running a), va_rf (S.O_FeedbackQueuesModel.f_state a), va_rf (S.O_FeedbackQueuesModel.f_level a), va_rf (S.O_FeedbackQueuesModel.f_at a), va_rf (S.O_FeedbackQueuesModel.f_left a), va_rf (S.O_FeedbackQueuesModel.f_quantum a), va_rf (S.O_FeedbackQueuesModel.f_share a), va_rf (S.O_FeedbackQueuesModel.f_kept a), va_rf (S.O_FeedbackQueuesModel.f_until a), va_rf (S.O_FeedbackQueuesModel.f_counts a), va_rf (S.O_FeedbackQueuesModel.f_queue a), va_rf (S.O_FeedbackQueuesModel.f_size a), va_rf (S.O_FeedbackQueuesModel.f_all a), va_rf (S.O_FeedbackQueuesModel.f_switches a)])) = X ++ va_pl S.L (wPF cyI cyZ cyO1ad9c cyO4b0d4 { S with O_FeedbackQueuesModel := { S.O_FeedbackQueuesModel with f_processes := va_up S.O_FeedbackQueuesModel.f_processes a v } }) := by
  rw [va_pl_set hD hL hk]
  exact congrArg (fun l => X ++ l) (va_pl_congr (wSt_O_FeedbackQueuesModel_f_processes cyI cyZ cyO1ad9c cyO4b0d4 S h v))
theorem wSt_O_FeedbackQueuesModel_f_arrivals (cyI : ClassId) (cyZ : ClassId) (cyO1ad9c : ClassId) (cyO4b0d4 : ClassId) (S : wPS) {a : Nat} (h : S.K a = 3) (v : Option Nat) (b : Nat) : va_up (wPF cyI cyZ cyO1ad9c cyO4b0d4 S) a (.inr (3, [.int (S.O_FeedbackQueuesModel.f_thrown a), .int (S.O_FeedbackQueuesModel.f_levels a), va_rf (S.O_FeedbackQueuesModel.f_quanta a), va_rf (S.O_FeedbackQueuesModel.f_shares a), .int (S.O_FeedbackQueuesModel.f_period a), .int (S.O_FeedbackQueuesModel.f_processes a), va_rf v, va_rf (S.O_FeedbackQueuesModel.f_bursts a), va_rf (S.O_FeedbackQueuesModel.f_ticks a), .int (S.O_FeedbackQueuesModel.f_time a), .int (S.O_FeedbackQueuesModel.f_running a), va_rf (S.O_FeedbackQueuesModel.f_state a), va_rf (S.O_FeedbackQueuesModel.f_level a), va_rf (S.O_FeedbackQueuesModel.f_at a), va_rf (S.O_FeedbackQueuesModel.f_left a), va_rf (S.O_FeedbackQueuesModel.f_quantum a), va_rf (S.O_FeedbackQueuesModel.f_share a), va_rf (S.O_FeedbackQueuesModel.f_kept a), va_rf (S.O_FeedbackQueuesModel.f_until a), va_rf (S.O_FeedbackQueuesModel.f_counts a), va_rf (S.O_FeedbackQueuesModel.f_queue a), va_rf (S.O_FeedbackQueuesModel.f_size a), va_rf (S.O_FeedbackQueuesModel.f_all a), va_rf (S.O_FeedbackQueuesModel.f_switches a)])) b = wPF cyI cyZ cyO1ad9c cyO4b0d4 { S with O_FeedbackQueuesModel := { S.O_FeedbackQueuesModel with f_arrivals := va_up S.O_FeedbackQueuesModel.f_arrivals a v } } b := by by_cases hb : b = a <;> first | (simp only [wPF, va_up_ne _ _ hb]; done) | (simp only [wPF, va_up, if_neg hb]; done) | simp [wPF, va_re, va_up, va_rf, hb, h]
theorem wPu_O_FeedbackQueuesModel_f_arrivals (cyI : ClassId) (cyZ : ClassId) (cyO1ad9c : ClassId) (cyO4b0d4 : ClassId) (X : va_W) (S : wPS) {A : Nat → Prop} {a k : Nat} (hD : va_D A (X ++ va_pl S.L (wPF cyI cyZ cyO1ad9c cyO4b0d4 S))) (hL : a ∈ S.L) (h : S.K a = 3) (hk : (X ++ va_pl S.L (wPF cyI cyZ cyO1ad9c cyO4b0d4 S))[k]? = some (a, wPF cyI cyZ cyO1ad9c cyO4b0d4 S a)) (v : Option Nat) : (X ++ va_pl S.L (wPF cyI cyZ cyO1ad9c cyO4b0d4 S)).set k (a, .inr (3, [.int (S.O_FeedbackQueuesModel.f_thrown a), .int (S.O_FeedbackQueuesModel.f_levels a), va_rf (S.O_FeedbackQueuesModel.f_quanta a), va_rf (S.O_FeedbackQueuesModel.f_shares a), .int (S.O_FeedbackQueuesModel.f_period a), .int (S.O_FeedbackQueuesModel.f_processes a), va_rf v, va_rf (S.O_FeedbackQueuesModel.f_bursts a), va_rf (S.O_FeedbackQueuesModel.f_ticks a), .int (S.O_FeedbackQueuesModel.f_time a), .int (S.O_FeedbackQueuesModel.f_running a), va_rf (S.O_FeedbackQueuesModel.f_state a), va_rf (S.O_FeedbackQueuesModel.f_level a), va_rf (S.O_FeedbackQueuesModel.f_at a), va_rf (S.O_FeedbackQueuesModel.f_left a), va_rf (S.O_FeedbackQueuesModel.f_quantum a), va_rf (S.O_FeedbackQueuesModel.f_share a), va_rf (S.O_FeedbackQueuesModel.f_kept a), va_rf (S.O_FeedbackQueuesModel.f_until a), va_rf (S.O_FeedbackQueuesModel.f_counts a), va_rf (S.O_FeedbackQueuesModel.f_queue a), va_rf (S.O_FeedbackQueuesModel.f_size a), va_rf (S.O_FeedbackQueuesModel.f_all a), va_rf (S.O_FeedbackQueuesModel.f_switches a)])) = X ++ va_pl S.L (wPF cyI cyZ cyO1ad9c cyO4b0d4 { S with O_FeedbackQueuesModel := { S.O_FeedbackQueuesModel with f_arrivals := va_up S.O_FeedbackQueuesModel.f_arrivals a v } }) := by
  rw [va_pl_set hD hL hk]
  exact congrArg (fun l => X ++ l) (va_pl_congr (wSt_O_FeedbackQueuesModel_f_arrivals cyI cyZ cyO1ad9c cyO4b0d4 S h v))
theorem wSt_O_FeedbackQueuesModel_f_bursts (cyI : ClassId) (cyZ : ClassId) (cyO1ad9c : ClassId) (cyO4b0d4 : ClassId) (S : wPS) {a : Nat} (h : S.K a = 3) (v : Option Nat) (b : Nat) : va_up (wPF cyI cyZ cyO1ad9c cyO4b0d4 S) a (.inr (3, [.int (S.O_FeedbackQueuesModel.f_thrown a), .int (S.O_FeedbackQueuesModel.f_levels a), va_rf (S.O_FeedbackQueuesModel.f_quanta a), va_rf (S.O_FeedbackQueuesModel.f_shares a), .int (S.O_FeedbackQueuesModel.f_period a), .int (S.O_FeedbackQueuesModel.f_processes a), va_rf (S.O_FeedbackQueuesModel.f_arrivals a), va_rf v, va_rf (S.O_FeedbackQueuesModel.f_ticks a), .int (S.O_FeedbackQueuesModel.f_time a), .int (S.O_FeedbackQueuesModel.f_running a), va_rf (S.O_FeedbackQueuesModel.f_state a), va_rf (S.O_FeedbackQueuesModel.f_level a), va_rf (S.O_FeedbackQueuesModel.f_at a), va_rf (S.O_FeedbackQueuesModel.f_left a), va_rf (S.O_FeedbackQueuesModel.f_quantum a), va_rf (S.O_FeedbackQueuesModel.f_share a), va_rf (S.O_FeedbackQueuesModel.f_kept a), va_rf (S.O_FeedbackQueuesModel.f_until a), va_rf (S.O_FeedbackQueuesModel.f_counts a), va_rf (S.O_FeedbackQueuesModel.f_queue a), va_rf (S.O_FeedbackQueuesModel.f_size a), va_rf (S.O_FeedbackQueuesModel.f_all a), va_rf (S.O_FeedbackQueuesModel.f_switches a)])) b = wPF cyI cyZ cyO1ad9c cyO4b0d4 { S with O_FeedbackQueuesModel := { S.O_FeedbackQueuesModel with f_bursts := va_up S.O_FeedbackQueuesModel.f_bursts a v } } b := by by_cases hb : b = a <;> first | (simp only [wPF, va_up_ne _ _ hb]; done) | (simp only [wPF, va_up, if_neg hb]; done) | simp [wPF, va_re, va_up, va_rf, hb, h]
theorem wPu_O_FeedbackQueuesModel_f_bursts (cyI : ClassId) (cyZ : ClassId) (cyO1ad9c : ClassId) (cyO4b0d4 : ClassId) (X : va_W) (S : wPS) {A : Nat → Prop} {a k : Nat} (hD : va_D A (X ++ va_pl S.L (wPF cyI cyZ cyO1ad9c cyO4b0d4 S))) (hL : a ∈ S.L) (h : S.K a = 3) (hk : (X ++ va_pl S.L (wPF cyI cyZ cyO1ad9c cyO4b0d4 S))[k]? = some (a, wPF cyI cyZ cyO1ad9c cyO4b0d4 S a)) (v : Option Nat) : (X ++ va_pl S.L (wPF cyI cyZ cyO1ad9c cyO4b0d4 S)).set k (a, .inr (3, [.int (S.O_FeedbackQueuesModel.f_thrown a), .int (S.O_FeedbackQueuesModel.f_levels a), va_rf (S.O_FeedbackQueuesModel.f_quanta a), va_rf (S.O_FeedbackQueuesModel.f_shares a), .int (S.O_FeedbackQueuesModel.f_period a), .int (S.O_FeedbackQueuesModel.f_processes a), va_rf (S.O_FeedbackQueuesModel.f_arrivals a), va_rf v, va_rf (S.O_FeedbackQueuesModel.f_ticks a), .int (S.O_FeedbackQueuesModel.f_time a), .int (S.O_FeedbackQueuesModel.f_running a), va_rf (S.O_FeedbackQueuesModel.f_state a), va_rf (S.O_FeedbackQueuesModel.f_level a), va_rf (S.O_FeedbackQueuesModel.f_at a), va_rf (S.O_FeedbackQueuesModel.f_left a), va_rf (S.O_FeedbackQueuesModel.f_quantum a), va_rf (S.O_FeedbackQueuesModel.f_share a), va_rf (S.O_FeedbackQueuesModel.f_kept a), va_rf (S.O_FeedbackQueuesModel.f_until a), va_rf (S.O_FeedbackQueuesModel.f_counts a), va_rf (S.O_FeedbackQueuesModel.f_queue a), va_rf (S.O_FeedbackQueuesModel.f_size a), va_rf (S.O_FeedbackQueuesModel.f_all a), va_rf (S.O_FeedbackQueuesModel.f_switches a)])) = X ++ va_pl S.L (wPF cyI cyZ cyO1ad9c cyO4b0d4 { S with O_FeedbackQueuesModel := { S.O_FeedbackQueuesModel with f_bursts := va_up S.O_FeedbackQueuesModel.f_bursts a v } }) := by
  rw [va_pl_set hD hL hk]
  exact congrArg (fun l => X ++ l) (va_pl_congr (wSt_O_FeedbackQueuesModel_f_bursts cyI cyZ cyO1ad9c cyO4b0d4 S h v))
theorem wSt_O_FeedbackQueuesModel_f_ticks (cyI : ClassId) (cyZ : ClassId) (cyO1ad9c : ClassId) (cyO4b0d4 : ClassId) (S : wPS) {a : Nat} (h : S.K a = 3) (v : Option Nat) (b : Nat) : va_up (wPF cyI cyZ cyO1ad9c cyO4b0d4 S) a (.inr (3, [.int (S.O_FeedbackQueuesModel.f_thrown a), .int (S.O_FeedbackQueuesModel.f_levels a), va_rf (S.O_FeedbackQueuesModel.f_quanta a), va_rf (S.O_FeedbackQueuesModel.f_shares a), .int (S.O_FeedbackQueuesModel.f_period a), .int (S.O_FeedbackQueuesModel.f_processes a), va_rf (S.O_FeedbackQueuesModel.f_arrivals a), va_rf (S.O_FeedbackQueuesModel.f_bursts a), va_rf v, .int (S.O_FeedbackQueuesModel.f_time a), .int (S.O_FeedbackQueuesModel.f_running a), va_rf (S.O_FeedbackQueuesModel.f_state a), va_rf (S.O_FeedbackQueuesModel.f_level a), va_rf (S.O_FeedbackQueuesModel.f_at a), va_rf (S.O_FeedbackQueuesModel.f_left a), va_rf (S.O_FeedbackQueuesModel.f_quantum a), va_rf (S.O_FeedbackQueuesModel.f_share a), va_rf (S.O_FeedbackQueuesModel.f_kept a), va_rf (S.O_FeedbackQueuesModel.f_until a), va_rf (S.O_FeedbackQueuesModel.f_counts a), va_rf (S.O_FeedbackQueuesModel.f_queue a), va_rf (S.O_FeedbackQueuesModel.f_size a), va_rf (S.O_FeedbackQueuesModel.f_all a), va_rf (S.O_FeedbackQueuesModel.f_switches a)])) b = wPF cyI cyZ cyO1ad9c cyO4b0d4 { S with O_FeedbackQueuesModel := { S.O_FeedbackQueuesModel with f_ticks := va_up S.O_FeedbackQueuesModel.f_ticks a v } } b := by by_cases hb : b = a <;> first | (simp only [wPF, va_up_ne _ _ hb]; done) | (simp only [wPF, va_up, if_neg hb]; done) | simp [wPF, va_re, va_up, va_rf, hb, h]
theorem wPu_O_FeedbackQueuesModel_f_ticks (cyI : ClassId) (cyZ : ClassId) (cyO1ad9c : ClassId) (cyO4b0d4 : ClassId) (X : va_W) (S : wPS) {A : Nat → Prop} {a k : Nat} (hD : va_D A (X ++ va_pl S.L (wPF cyI cyZ cyO1ad9c cyO4b0d4 S))) (hL : a ∈ S.L) (h : S.K a = 3) (hk : (X ++ va_pl S.L (wPF cyI cyZ cyO1ad9c cyO4b0d4 S))[k]? = some (a, wPF cyI cyZ cyO1ad9c cyO4b0d4 S a)) (v : Option Nat) : (X ++ va_pl S.L (wPF cyI cyZ cyO1ad9c cyO4b0d4 S)).set k (a, .inr (3, [.int (S.O_FeedbackQueuesModel.f_thrown a), .int (S.O_FeedbackQueuesModel.f_levels a), va_rf (S.O_FeedbackQueuesModel.f_quanta a), va_rf (S.O_FeedbackQueuesModel.f_shares a), .int (S.O_FeedbackQueuesModel.f_period a), .int (S.O_FeedbackQueuesModel.f_processes a), va_rf (S.O_FeedbackQueuesModel.f_arrivals a), va_rf (S.O_FeedbackQueuesModel.f_bursts a), va_rf v, .int (S.O_FeedbackQueuesModel.f_time a), .int (S.O_FeedbackQueuesModel.f_running a), va_rf (S.O_FeedbackQueuesModel.f_state a), va_rf (S.O_FeedbackQueuesModel.f_level a), va_rf (S.O_FeedbackQueuesModel.f_at a), va_rf (S.O_FeedbackQueuesModel.f_left a), va_rf (S.O_FeedbackQueuesModel.f_quantum a), va_rf (S.O_FeedbackQueuesModel.f_share a), va_rf (S.O_FeedbackQueuesModel.f_kept a), va_rf (S.O_FeedbackQueuesModel.f_until a), va_rf (S.O_FeedbackQueuesModel.f_counts a), va_rf (S.O_FeedbackQueuesModel.f_queue a), va_rf (S.O_FeedbackQueuesModel.f_size a), va_rf (S.O_FeedbackQueuesModel.f_all a), va_rf (S.O_FeedbackQueuesModel.f_switches a)])) = X ++ va_pl S.L (wPF cyI cyZ cyO1ad9c cyO4b0d4 { S with O_FeedbackQueuesModel := { S.O_FeedbackQueuesModel with f_ticks := va_up S.O_FeedbackQueuesModel.f_ticks a v } }) := by
  rw [va_pl_set hD hL hk]
  exact congrArg (fun l => X ++ l) (va_pl_congr (wSt_O_FeedbackQueuesModel_f_ticks cyI cyZ cyO1ad9c cyO4b0d4 S h v))
theorem wSt_O_FeedbackQueuesModel_f_time (cyI : ClassId) (cyZ : ClassId) (cyO1ad9c : ClassId) (cyO4b0d4 : ClassId) (S : wPS) {a : Nat} (h : S.K a = 3) (v : Int32) (b : Nat) : va_up (wPF cyI cyZ cyO1ad9c cyO4b0d4 S) a (.inr (3, [.int (S.O_FeedbackQueuesModel.f_thrown a), .int (S.O_FeedbackQueuesModel.f_levels a), va_rf (S.O_FeedbackQueuesModel.f_quanta a), va_rf (S.O_FeedbackQueuesModel.f_shares a), .int (S.O_FeedbackQueuesModel.f_period a), .int (S.O_FeedbackQueuesModel.f_processes a), va_rf (S.O_FeedbackQueuesModel.f_arrivals a), va_rf (S.O_FeedbackQueuesModel.f_bursts a), va_rf (S.O_FeedbackQueuesModel.f_ticks a), .int v, .int (S.O_FeedbackQueuesModel.f_running a), va_rf (S.O_FeedbackQueuesModel.f_state a), va_rf (S.O_FeedbackQueuesModel.f_level a), va_rf (S.O_FeedbackQueuesModel.f_at a), va_rf (S.O_FeedbackQueuesModel.f_left a), va_rf (S.O_FeedbackQueuesModel.f_quantum a), va_rf (S.O_FeedbackQueuesModel.f_share a), va_rf (S.O_FeedbackQueuesModel.f_kept a), va_rf (S.O_FeedbackQueuesModel.f_until a), va_rf (S.O_FeedbackQueuesModel.f_counts a), va_rf (S.O_FeedbackQueuesModel.f_queue a), va_rf (S.O_FeedbackQueuesModel.f_size a), va_rf (S.O_FeedbackQueuesModel.f_all a), va_rf (S.O_FeedbackQueuesModel.f_switches a)])) b = wPF cyI cyZ cyO1ad9c cyO4b0d4 { S with O_FeedbackQueuesModel := { S.O_FeedbackQueuesModel with f_time := va_up S.O_FeedbackQueuesModel.f_time a v } } b := by by_cases hb : b = a <;> first | (simp only [wPF, va_up_ne _ _ hb]; done) | (simp only [wPF, va_up, if_neg hb]; done) | simp [wPF, va_re, va_up, va_rf, hb, h]
theorem wPu_O_FeedbackQueuesModel_f_time (cyI : ClassId) (cyZ : ClassId) (cyO1ad9c : ClassId) (cyO4b0d4 : ClassId) (X : va_W) (S : wPS) {A : Nat → Prop} {a k : Nat} (hD : va_D A (X ++ va_pl S.L (wPF cyI cyZ cyO1ad9c cyO4b0d4 S))) (hL : a ∈ S.L) (h : S.K a = 3) (hk : (X ++ va_pl S.L (wPF cyI cyZ cyO1ad9c cyO4b0d4 S))[k]? = some (a, wPF cyI cyZ cyO1ad9c cyO4b0d4 S a)) (v : Int32) : (X ++ va_pl S.L (wPF cyI cyZ cyO1ad9c cyO4b0d4 S)).set k (a, .inr (3, [.int (S.O_FeedbackQueuesModel.f_thrown a), .int (S.O_FeedbackQueuesModel.f_levels a), va_rf (S.O_FeedbackQueuesModel.f_quanta a), va_rf (S.O_FeedbackQueuesModel.f_shares a), .int (S.O_FeedbackQueuesModel.f_period a), .int (S.O_FeedbackQueuesModel.f_processes a), va_rf (S.O_FeedbackQueuesModel.f_arrivals a), va_rf (S.O_FeedbackQueuesModel.f_bursts a), va_rf (S.O_FeedbackQueuesModel.f_ticks a), .int v, .int (S.O_FeedbackQueuesModel.f_running a), va_rf (S.O_FeedbackQueuesModel.f_state a), va_rf (S.O_FeedbackQueuesModel.f_level a), va_rf (S.O_FeedbackQueuesModel.f_at a), va_rf (S.O_FeedbackQueuesModel.f_left a), va_rf (S.O_FeedbackQueuesModel.f_quantum a), va_rf (S.O_FeedbackQueuesModel.f_share a), va_rf (S.O_FeedbackQueuesModel.f_kept a), va_rf (S.O_FeedbackQueuesModel.f_until a), va_rf (S.O_FeedbackQueuesModel.f_counts a), va_rf (S.O_FeedbackQueuesModel.f_queue a), va_rf (S.O_FeedbackQueuesModel.f_size a), va_rf (S.O_FeedbackQueuesModel.f_all a), va_rf (S.O_FeedbackQueuesModel.f_switches a)])) = X ++ va_pl S.L (wPF cyI cyZ cyO1ad9c cyO4b0d4 { S with O_FeedbackQueuesModel := { S.O_FeedbackQueuesModel with f_time := va_up S.O_FeedbackQueuesModel.f_time a v } }) := by
  rw [va_pl_set hD hL hk]
  exact congrArg (fun l => X ++ l) (va_pl_congr (wSt_O_FeedbackQueuesModel_f_time cyI cyZ cyO1ad9c cyO4b0d4 S h v))
theorem wSt_O_FeedbackQueuesModel_f_running (cyI : ClassId) (cyZ : ClassId) (cyO1ad9c : ClassId) (cyO4b0d4 : ClassId) (S : wPS) {a : Nat} (h : S.K a = 3) (v : Int32) (b : Nat) : va_up (wPF cyI cyZ cyO1ad9c cyO4b0d4 S) a (.inr (3, [.int (S.O_FeedbackQueuesModel.f_thrown a), .int (S.O_FeedbackQueuesModel.f_levels a), va_rf (S.O_FeedbackQueuesModel.f_quanta a), va_rf (S.O_FeedbackQueuesModel.f_shares a), .int (S.O_FeedbackQueuesModel.f_period a), .int (S.O_FeedbackQueuesModel.f_processes a), va_rf (S.O_FeedbackQueuesModel.f_arrivals a), va_rf (S.O_FeedbackQueuesModel.f_bursts a), va_rf (S.O_FeedbackQueuesModel.f_ticks a), .int (S.O_FeedbackQueuesModel.f_time a), .int v, va_rf (S.O_FeedbackQueuesModel.f_state a), va_rf (S.O_FeedbackQueuesModel.f_level a), va_rf (S.O_FeedbackQueuesModel.f_at a), va_rf (S.O_FeedbackQueuesModel.f_left a), va_rf (S.O_FeedbackQueuesModel.f_quantum a), va_rf (S.O_FeedbackQueuesModel.f_share a), va_rf (S.O_FeedbackQueuesModel.f_kept a), va_rf (S.O_FeedbackQueuesModel.f_until a), va_rf (S.O_FeedbackQueuesModel.f_counts a), va_rf (S.O_FeedbackQueuesModel.f_queue a), va_rf (S.O_FeedbackQueuesModel.f_size a), va_rf (S.O_FeedbackQueuesModel.f_all a), va_rf (S.O_FeedbackQueuesModel.f_switches a)])) b = wPF cyI cyZ cyO1ad9c cyO4b0d4 { S with O_FeedbackQueuesModel := { S.O_FeedbackQueuesModel with f_running := va_up S.O_FeedbackQueuesModel.f_running a v } } b := by by_cases hb : b = a <;> first | (simp only [wPF, va_up_ne _ _ hb]; done) | (simp only [wPF, va_up, if_neg hb]; done) | simp [wPF, va_re, va_up, va_rf, hb, h]
theorem wPu_O_FeedbackQueuesModel_f_running (cyI : ClassId) (cyZ : ClassId) (cyO1ad9c : ClassId) (cyO4b0d4 : ClassId) (X : va_W) (S : wPS) {A : Nat → Prop} {a k : Nat} (hD : va_D A (X ++ va_pl S.L (wPF cyI cyZ cyO1ad9c cyO4b0d4 S))) (hL : a ∈ S.L) (h : S.K a = 3) (hk : (X ++ va_pl S.L (wPF cyI cyZ cyO1ad9c cyO4b0d4 S))[k]? = some (a, wPF cyI cyZ cyO1ad9c cyO4b0d4 S a)) (v : Int32) : (X ++ va_pl S.L (wPF cyI cyZ cyO1ad9c cyO4b0d4 S)).set k (a, .inr (3, [.int (S.O_FeedbackQueuesModel.f_thrown a), .int (S.O_FeedbackQueuesModel.f_levels a), va_rf (S.O_FeedbackQueuesModel.f_quanta a), va_rf (S.O_FeedbackQueuesModel.f_shares a), .int (S.O_FeedbackQueuesModel.f_period a), .int (S.O_FeedbackQueuesModel.f_processes a), va_rf (S.O_FeedbackQueuesModel.f_arrivals a), va_rf (S.O_FeedbackQueuesModel.f_bursts a), va_rf (S.O_FeedbackQueuesModel.f_ticks a), .int (S.O_FeedbackQueuesModel.f_time a), .int v, va_rf (S.O_FeedbackQueuesModel.f_state a), va_rf (S.O_FeedbackQueuesModel.f_level a), va_rf (S.O_FeedbackQueuesModel.f_at a), va_rf (S.O_FeedbackQueuesModel.f_left a), va_rf (S.O_FeedbackQueuesModel.f_quantum a), va_rf (S.O_FeedbackQueuesModel.f_share a), va_rf (S.O_FeedbackQueuesModel.f_kept a), va_rf (S.O_FeedbackQueuesModel.f_until a), va_rf (S.O_FeedbackQueuesModel.f_counts a), va_rf (S.O_FeedbackQueuesModel.f_queue a), va_rf (S.O_FeedbackQueuesModel.f_size a), va_rf (S.O_FeedbackQueuesModel.f_all a), va_rf (S.O_FeedbackQueuesModel.f_switches a)])) = X ++ va_pl S.L (wPF cyI cyZ cyO1ad9c cyO4b0d4 { S with O_FeedbackQueuesModel := { S.O_FeedbackQueuesModel with f_running := va_up S.O_FeedbackQueuesModel.f_running a v } }) := by
  rw [va_pl_set hD hL hk]
  exact congrArg (fun l => X ++ l) (va_pl_congr (wSt_O_FeedbackQueuesModel_f_running cyI cyZ cyO1ad9c cyO4b0d4 S h v))
theorem wSt_O_FeedbackQueuesModel_f_state (cyI : ClassId) (cyZ : ClassId) (cyO1ad9c : ClassId) (cyO4b0d4 : ClassId) (S : wPS) {a : Nat} (h : S.K a = 3) (v : Option Nat) (b : Nat) : va_up (wPF cyI cyZ cyO1ad9c cyO4b0d4 S) a (.inr (3, [.int (S.O_FeedbackQueuesModel.f_thrown a), .int (S.O_FeedbackQueuesModel.f_levels a), va_rf (S.O_FeedbackQueuesModel.f_quanta a), va_rf (S.O_FeedbackQueuesModel.f_shares a), .int (S.O_FeedbackQueuesModel.f_period a), .int (S.O_FeedbackQueuesModel.f_processes a), va_rf (S.O_FeedbackQueuesModel.f_arrivals a), va_rf (S.O_FeedbackQueuesModel.f_bursts a), va_rf (S.O_FeedbackQueuesModel.f_ticks a), .int (S.O_FeedbackQueuesModel.f_time a), .int (S.O_FeedbackQueuesModel.f_running a), va_rf v, va_rf (S.O_FeedbackQueuesModel.f_level a), va_rf (S.O_FeedbackQueuesModel.f_at a), va_rf (S.O_FeedbackQueuesModel.f_left a), va_rf (S.O_FeedbackQueuesModel.f_quantum a), va_rf (S.O_FeedbackQueuesModel.f_share a), va_rf (S.O_FeedbackQueuesModel.f_kept a), va_rf (S.O_FeedbackQueuesModel.f_until a), va_rf (S.O_FeedbackQueuesModel.f_counts a), va_rf (S.O_FeedbackQueuesModel.f_queue a), va_rf (S.O_FeedbackQueuesModel.f_size a), va_rf (S.O_FeedbackQueuesModel.f_all a), va_rf (S.O_FeedbackQueuesModel.f_switches a)])) b = wPF cyI cyZ cyO1ad9c cyO4b0d4 { S with O_FeedbackQueuesModel := { S.O_FeedbackQueuesModel with f_state := va_up S.O_FeedbackQueuesModel.f_state a v } } b := by by_cases hb : b = a <;> first | (simp only [wPF, va_up_ne _ _ hb]; done) | (simp only [wPF, va_up, if_neg hb]; done) | simp [wPF, va_re, va_up, va_rf, hb, h]
theorem wPu_O_FeedbackQueuesModel_f_state (cyI : ClassId) (cyZ : ClassId) (cyO1ad9c : ClassId) (cyO4b0d4 : ClassId) (X : va_W) (S : wPS) {A : Nat → Prop} {a k : Nat} (hD : va_D A (X ++ va_pl S.L (wPF cyI cyZ cyO1ad9c cyO4b0d4 S))) (hL : a ∈ S.L) (h : S.K a = 3) (hk : (X ++ va_pl S.L (wPF cyI cyZ cyO1ad9c cyO4b0d4 S))[k]? = some (a, wPF cyI cyZ cyO1ad9c cyO4b0d4 S a)) (v : Option Nat) : (X ++ va_pl S.L (wPF cyI cyZ cyO1ad9c cyO4b0d4 S)).set k (a, .inr (3, [.int (S.O_FeedbackQueuesModel.f_thrown a), .int (S.O_FeedbackQueuesModel.f_levels a), va_rf (S.O_FeedbackQueuesModel.f_quanta a), va_rf (S.O_FeedbackQueuesModel.f_shares a), .int (S.O_FeedbackQueuesModel.f_period a), .int (S.O_FeedbackQueuesModel.f_processes a), va_rf (S.O_FeedbackQueuesModel.f_arrivals a), va_rf (S.O_FeedbackQueuesModel.f_bursts a), va_rf (S.O_FeedbackQueuesModel.f_ticks a), .int (S.O_FeedbackQueuesModel.f_time a), .int (S.O_FeedbackQueuesModel.f_running a), va_rf v, va_rf (S.O_FeedbackQueuesModel.f_level a), va_rf (S.O_FeedbackQueuesModel.f_at a), va_rf (S.O_FeedbackQueuesModel.f_left a), va_rf (S.O_FeedbackQueuesModel.f_quantum a), va_rf (S.O_FeedbackQueuesModel.f_share a), va_rf (S.O_FeedbackQueuesModel.f_kept a), va_rf (S.O_FeedbackQueuesModel.f_until a), va_rf (S.O_FeedbackQueuesModel.f_counts a), va_rf (S.O_FeedbackQueuesModel.f_queue a), va_rf (S.O_FeedbackQueuesModel.f_size a), va_rf (S.O_FeedbackQueuesModel.f_all a), va_rf (S.O_FeedbackQueuesModel.f_switches a)])) = X ++ va_pl S.L (wPF cyI cyZ cyO1ad9c cyO4b0d4 { S with O_FeedbackQueuesModel := { S.O_FeedbackQueuesModel with f_state := va_up S.O_FeedbackQueuesModel.f_state a v } }) := by
  rw [va_pl_set hD hL hk]
  exact congrArg (fun l => X ++ l) (va_pl_congr (wSt_O_FeedbackQueuesModel_f_state cyI cyZ cyO1ad9c cyO4b0d4 S h v))
theorem wSt_O_FeedbackQueuesModel_f_level (cyI : ClassId) (cyZ : ClassId) (cyO1ad9c : ClassId) (cyO4b0d4 : ClassId) (S : wPS) {a : Nat} (h : S.K a = 3) (v : Option Nat) (b : Nat) : va_up (wPF cyI cyZ cyO1ad9c cyO4b0d4 S) a (.inr (3, [.int (S.O_FeedbackQueuesModel.f_thrown a), .int (S.O_FeedbackQueuesModel.f_levels a), va_rf (S.O_FeedbackQueuesModel.f_quanta a), va_rf (S.O_FeedbackQueuesModel.f_shares a), .int (S.O_FeedbackQueuesModel.f_period a), .int (S.O_FeedbackQueuesModel.f_processes a), va_rf (S.O_FeedbackQueuesModel.f_arrivals a), va_rf (S.O_FeedbackQueuesModel.f_bursts a), va_rf (S.O_FeedbackQueuesModel.f_ticks a), .int (S.O_FeedbackQueuesModel.f_time a), .int (S.O_FeedbackQueuesModel.f_running a), va_rf (S.O_FeedbackQueuesModel.f_state a), va_rf v, va_rf (S.O_FeedbackQueuesModel.f_at a), va_rf (S.O_FeedbackQueuesModel.f_left a), va_rf (S.O_FeedbackQueuesModel.f_quantum a), va_rf (S.O_FeedbackQueuesModel.f_share a), va_rf (S.O_FeedbackQueuesModel.f_kept a), va_rf (S.O_FeedbackQueuesModel.f_until a), va_rf (S.O_FeedbackQueuesModel.f_counts a), va_rf (S.O_FeedbackQueuesModel.f_queue a), va_rf (S.O_FeedbackQueuesModel.f_size a), va_rf (S.O_FeedbackQueuesModel.f_all a), va_rf (S.O_FeedbackQueuesModel.f_switches a)])) b = wPF cyI cyZ cyO1ad9c cyO4b0d4 { S with O_FeedbackQueuesModel := { S.O_FeedbackQueuesModel with f_level := va_up S.O_FeedbackQueuesModel.f_level a v } } b := by by_cases hb : b = a <;> first | (simp only [wPF, va_up_ne _ _ hb]; done) | (simp only [wPF, va_up, if_neg hb]; done) | simp [wPF, va_re, va_up, va_rf, hb, h]
theorem wPu_O_FeedbackQueuesModel_f_level (cyI : ClassId) (cyZ : ClassId) (cyO1ad9c : ClassId) (cyO4b0d4 : ClassId) (X : va_W) (S : wPS) {A : Nat → Prop} {a k : Nat} (hD : va_D A (X ++ va_pl S.L (wPF cyI cyZ cyO1ad9c cyO4b0d4 S))) (hL : a ∈ S.L) (h : S.K a = 3) (hk : (X ++ va_pl S.L (wPF cyI cyZ cyO1ad9c cyO4b0d4 S))[k]? = some (a, wPF cyI cyZ cyO1ad9c cyO4b0d4 S a)) (v : Option Nat) : (X ++ va_pl S.L (wPF cyI cyZ cyO1ad9c cyO4b0d4 S)).set k (a, .inr (3, [.int (S.O_FeedbackQueuesModel.f_thrown a), .int (S.O_FeedbackQueuesModel.f_levels a), va_rf (S.O_FeedbackQueuesModel.f_quanta a), va_rf (S.O_FeedbackQueuesModel.f_shares a), .int (S.O_FeedbackQueuesModel.f_period a), .int (S.O_FeedbackQueuesModel.f_processes a), va_rf (S.O_FeedbackQueuesModel.f_arrivals a), va_rf (S.O_FeedbackQueuesModel.f_bursts a), va_rf (S.O_FeedbackQueuesModel.f_ticks a), .int (S.O_FeedbackQueuesModel.f_time a), .int (S.O_FeedbackQueuesModel.f_running a), va_rf (S.O_FeedbackQueuesModel.f_state a), va_rf v, va_rf (S.O_FeedbackQueuesModel.f_at a), va_rf (S.O_FeedbackQueuesModel.f_left a), va_rf (S.O_FeedbackQueuesModel.f_quantum a), va_rf (S.O_FeedbackQueuesModel.f_share a), va_rf (S.O_FeedbackQueuesModel.f_kept a), va_rf (S.O_FeedbackQueuesModel.f_until a), va_rf (S.O_FeedbackQueuesModel.f_counts a), va_rf (S.O_FeedbackQueuesModel.f_queue a), va_rf (S.O_FeedbackQueuesModel.f_size a), va_rf (S.O_FeedbackQueuesModel.f_all a), va_rf (S.O_FeedbackQueuesModel.f_switches a)])) = X ++ va_pl S.L (wPF cyI cyZ cyO1ad9c cyO4b0d4 { S with O_FeedbackQueuesModel := { S.O_FeedbackQueuesModel with f_level := va_up S.O_FeedbackQueuesModel.f_level a v } }) := by
  rw [va_pl_set hD hL hk]
  exact congrArg (fun l => X ++ l) (va_pl_congr (wSt_O_FeedbackQueuesModel_f_level cyI cyZ cyO1ad9c cyO4b0d4 S h v))
theorem wSt_O_FeedbackQueuesModel_f_at (cyI : ClassId) (cyZ : ClassId) (cyO1ad9c : ClassId) (cyO4b0d4 : ClassId) (S : wPS) {a : Nat} (h : S.K a = 3) (v : Option Nat) (b : Nat) : va_up (wPF cyI cyZ cyO1ad9c cyO4b0d4 S) a (.inr (3, [.int (S.O_FeedbackQueuesModel.f_thrown a), .int (S.O_FeedbackQueuesModel.f_levels a), va_rf (S.O_FeedbackQueuesModel.f_quanta a), va_rf (S.O_FeedbackQueuesModel.f_shares a), .int (S.O_FeedbackQueuesModel.f_period a), .int (S.O_FeedbackQueuesModel.f_processes a), va_rf (S.O_FeedbackQueuesModel.f_arrivals a), va_rf (S.O_FeedbackQueuesModel.f_bursts a), va_rf (S.O_FeedbackQueuesModel.f_ticks a), .int (S.O_FeedbackQueuesModel.f_time a), .int (S.O_FeedbackQueuesModel.f_running a), va_rf (S.O_FeedbackQueuesModel.f_state a), va_rf (S.O_FeedbackQueuesModel.f_level a), va_rf v, va_rf (S.O_FeedbackQueuesModel.f_left a), va_rf (S.O_FeedbackQueuesModel.f_quantum a), va_rf (S.O_FeedbackQueuesModel.f_share a), va_rf (S.O_FeedbackQueuesModel.f_kept a), va_rf (S.O_FeedbackQueuesModel.f_until a), va_rf (S.O_FeedbackQueuesModel.f_counts a), va_rf (S.O_FeedbackQueuesModel.f_queue a), va_rf (S.O_FeedbackQueuesModel.f_size a), va_rf (S.O_FeedbackQueuesModel.f_all a), va_rf (S.O_FeedbackQueuesModel.f_switches a)])) b = wPF cyI cyZ cyO1ad9c cyO4b0d4 { S with O_FeedbackQueuesModel := { S.O_FeedbackQueuesModel with f_at := va_up S.O_FeedbackQueuesModel.f_at a v } } b := by by_cases hb : b = a <;> first | (simp only [wPF, va_up_ne _ _ hb]; done) | (simp only [wPF, va_up, if_neg hb]; done) | simp [wPF, va_re, va_up, va_rf, hb, h]
theorem wPu_O_FeedbackQueuesModel_f_at (cyI : ClassId) (cyZ : ClassId) (cyO1ad9c : ClassId) (cyO4b0d4 : ClassId) (X : va_W) (S : wPS) {A : Nat → Prop} {a k : Nat} (hD : va_D A (X ++ va_pl S.L (wPF cyI cyZ cyO1ad9c cyO4b0d4 S))) (hL : a ∈ S.L) (h : S.K a = 3) (hk : (X ++ va_pl S.L (wPF cyI cyZ cyO1ad9c cyO4b0d4 S))[k]? = some (a, wPF cyI cyZ cyO1ad9c cyO4b0d4 S a)) (v : Option Nat) : (X ++ va_pl S.L (wPF cyI cyZ cyO1ad9c cyO4b0d4 S)).set k (a, .inr (3, [.int (S.O_FeedbackQueuesModel.f_thrown a), .int (S.O_FeedbackQueuesModel.f_levels a), va_rf (S.O_FeedbackQueuesModel.f_quanta a), va_rf (S.O_FeedbackQueuesModel.f_shares a), .int (S.O_FeedbackQueuesModel.f_period a), .int (S.O_FeedbackQueuesModel.f_processes a), va_rf (S.O_FeedbackQueuesModel.f_arrivals a), va_rf (S.O_FeedbackQueuesModel.f_bursts a), va_rf (S.O_FeedbackQueuesModel.f_ticks a), .int (S.O_FeedbackQueuesModel.f_time a), .int (S.O_FeedbackQueuesModel.f_running a), va_rf (S.O_FeedbackQueuesModel.f_state a), va_rf (S.O_FeedbackQueuesModel.f_level a), va_rf v, va_rf (S.O_FeedbackQueuesModel.f_left a), va_rf (S.O_FeedbackQueuesModel.f_quantum a), va_rf (S.O_FeedbackQueuesModel.f_share a), va_rf (S.O_FeedbackQueuesModel.f_kept a), va_rf (S.O_FeedbackQueuesModel.f_until a), va_rf (S.O_FeedbackQueuesModel.f_counts a), va_rf (S.O_FeedbackQueuesModel.f_queue a), va_rf (S.O_FeedbackQueuesModel.f_size a), va_rf (S.O_FeedbackQueuesModel.f_all a), va_rf (S.O_FeedbackQueuesModel.f_switches a)])) = X ++ va_pl S.L (wPF cyI cyZ cyO1ad9c cyO4b0d4 { S with O_FeedbackQueuesModel := { S.O_FeedbackQueuesModel with f_at := va_up S.O_FeedbackQueuesModel.f_at a v } }) := by
  rw [va_pl_set hD hL hk]
  exact congrArg (fun l => X ++ l) (va_pl_congr (wSt_O_FeedbackQueuesModel_f_at cyI cyZ cyO1ad9c cyO4b0d4 S h v))
theorem wSt_O_FeedbackQueuesModel_f_left (cyI : ClassId) (cyZ : ClassId) (cyO1ad9c : ClassId) (cyO4b0d4 : ClassId) (S : wPS) {a : Nat} (h : S.K a = 3) (v : Option Nat) (b : Nat) : va_up (wPF cyI cyZ cyO1ad9c cyO4b0d4 S) a (.inr (3, [.int (S.O_FeedbackQueuesModel.f_thrown a), .int (S.O_FeedbackQueuesModel.f_levels a), va_rf (S.O_FeedbackQueuesModel.f_quanta a), va_rf (S.O_FeedbackQueuesModel.f_shares a), .int (S.O_FeedbackQueuesModel.f_period a), .int (S.O_FeedbackQueuesModel.f_processes a), va_rf (S.O_FeedbackQueuesModel.f_arrivals a), va_rf (S.O_FeedbackQueuesModel.f_bursts a), va_rf (S.O_FeedbackQueuesModel.f_ticks a), .int (S.O_FeedbackQueuesModel.f_time a), .int (S.O_FeedbackQueuesModel.f_running a), va_rf (S.O_FeedbackQueuesModel.f_state a), va_rf (S.O_FeedbackQueuesModel.f_level a), va_rf (S.O_FeedbackQueuesModel.f_at a), va_rf v, va_rf (S.O_FeedbackQueuesModel.f_quantum a), va_rf (S.O_FeedbackQueuesModel.f_share a), va_rf (S.O_FeedbackQueuesModel.f_kept a), va_rf (S.O_FeedbackQueuesModel.f_until a), va_rf (S.O_FeedbackQueuesModel.f_counts a), va_rf (S.O_FeedbackQueuesModel.f_queue a), va_rf (S.O_FeedbackQueuesModel.f_size a), va_rf (S.O_FeedbackQueuesModel.f_all a), va_rf (S.O_FeedbackQueuesModel.f_switches a)])) b = wPF cyI cyZ cyO1ad9c cyO4b0d4 { S with O_FeedbackQueuesModel := { S.O_FeedbackQueuesModel with f_left := va_up S.O_FeedbackQueuesModel.f_left a v } } b := by by_cases hb : b = a <;> first | (simp only [wPF, va_up_ne _ _ hb]; done) | (simp only [wPF, va_up, if_neg hb]; done) | simp [wPF, va_re, va_up, va_rf, hb, h]
theorem wPu_O_FeedbackQueuesModel_f_left (cyI : ClassId) (cyZ : ClassId) (cyO1ad9c : ClassId) (cyO4b0d4 : ClassId) (X : va_W) (S : wPS) {A : Nat → Prop} {a k : Nat} (hD : va_D A (X ++ va_pl S.L (wPF cyI cyZ cyO1ad9c cyO4b0d4 S))) (hL : a ∈ S.L) (h : S.K a = 3) (hk : (X ++ va_pl S.L (wPF cyI cyZ cyO1ad9c cyO4b0d4 S))[k]? = some (a, wPF cyI cyZ cyO1ad9c cyO4b0d4 S a)) (v : Option Nat) : (X ++ va_pl S.L (wPF cyI cyZ cyO1ad9c cyO4b0d4 S)).set k (a, .inr (3, [.int (S.O_FeedbackQueuesModel.f_thrown a), .int (S.O_FeedbackQueuesModel.f_levels a), va_rf (S.O_FeedbackQueuesModel.f_quanta a), va_rf (S.O_FeedbackQueuesModel.f_shares a), .int (S.O_FeedbackQueuesModel.f_period a), .int (S.O_FeedbackQueuesModel.f_processes a), va_rf (S.O_FeedbackQueuesModel.f_arrivals a), va_rf (S.O_FeedbackQueuesModel.f_bursts a), va_rf (S.O_FeedbackQueuesModel.f_ticks a), .int (S.O_FeedbackQueuesModel.f_time a), .int (S.O_FeedbackQueuesModel.f_running a), va_rf (S.O_FeedbackQueuesModel.f_state a), va_rf (S.O_FeedbackQueuesModel.f_level a), va_rf (S.O_FeedbackQueuesModel.f_at a), va_rf v, va_rf (S.O_FeedbackQueuesModel.f_quantum a), va_rf (S.O_FeedbackQueuesModel.f_share a), va_rf (S.O_FeedbackQueuesModel.f_kept a), va_rf (S.O_FeedbackQueuesModel.f_until a), va_rf (S.O_FeedbackQueuesModel.f_counts a), va_rf (S.O_FeedbackQueuesModel.f_queue a), va_rf (S.O_FeedbackQueuesModel.f_size a), va_rf (S.O_FeedbackQueuesModel.f_all a), va_rf (S.O_FeedbackQueuesModel.f_switches a)])) = X ++ va_pl S.L (wPF cyI cyZ cyO1ad9c cyO4b0d4 { S with O_FeedbackQueuesModel := { S.O_FeedbackQueuesModel with f_left := va_up S.O_FeedbackQueuesModel.f_left a v } }) := by
  rw [va_pl_set hD hL hk]
  exact congrArg (fun l => X ++ l) (va_pl_congr (wSt_O_FeedbackQueuesModel_f_left cyI cyZ cyO1ad9c cyO4b0d4 S h v))
theorem wSt_O_FeedbackQueuesModel_f_quantum (cyI : ClassId) (cyZ : ClassId) (cyO1ad9c : ClassId) (cyO4b0d4 : ClassId) (S : wPS) {a : Nat} (h : S.K a = 3) (v : Option Nat) (b : Nat) : va_up (wPF cyI cyZ cyO1ad9c cyO4b0d4 S) a (.inr (3, [.int (S.O_FeedbackQueuesModel.f_thrown a), .int (S.O_FeedbackQueuesModel.f_levels a), va_rf (S.O_FeedbackQueuesModel.f_quanta a), va_rf (S.O_FeedbackQueuesModel.f_shares a), .int (S.O_FeedbackQueuesModel.f_period a), .int (S.O_FeedbackQueuesModel.f_processes a), va_rf (S.O_FeedbackQueuesModel.f_arrivals a), va_rf (S.O_FeedbackQueuesModel.f_bursts a), va_rf (S.O_FeedbackQueuesModel.f_ticks a), .int (S.O_FeedbackQueuesModel.f_time a), .int (S.O_FeedbackQueuesModel.f_running a), va_rf (S.O_FeedbackQueuesModel.f_state a), va_rf (S.O_FeedbackQueuesModel.f_level a), va_rf (S.O_FeedbackQueuesModel.f_at a), va_rf (S.O_FeedbackQueuesModel.f_left a), va_rf v, va_rf (S.O_FeedbackQueuesModel.f_share a), va_rf (S.O_FeedbackQueuesModel.f_kept a), va_rf (S.O_FeedbackQueuesModel.f_until a), va_rf (S.O_FeedbackQueuesModel.f_counts a), va_rf (S.O_FeedbackQueuesModel.f_queue a), va_rf (S.O_FeedbackQueuesModel.f_size a), va_rf (S.O_FeedbackQueuesModel.f_all a), va_rf (S.O_FeedbackQueuesModel.f_switches a)])) b = wPF cyI cyZ cyO1ad9c cyO4b0d4 { S with O_FeedbackQueuesModel := { S.O_FeedbackQueuesModel with f_quantum := va_up S.O_FeedbackQueuesModel.f_quantum a v } } b := by by_cases hb : b = a <;> first | (simp only [wPF, va_up_ne _ _ hb]; done) | (simp only [wPF, va_up, if_neg hb]; done) | simp [wPF, va_re, va_up, va_rf, hb, h]
theorem wPu_O_FeedbackQueuesModel_f_quantum (cyI : ClassId) (cyZ : ClassId) (cyO1ad9c : ClassId) (cyO4b0d4 : ClassId) (X : va_W) (S : wPS) {A : Nat → Prop} {a k : Nat} (hD : va_D A (X ++ va_pl S.L (wPF cyI cyZ cyO1ad9c cyO4b0d4 S))) (hL : a ∈ S.L) (h : S.K a = 3) (hk : (X ++ va_pl S.L (wPF cyI cyZ cyO1ad9c cyO4b0d4 S))[k]? = some (a, wPF cyI cyZ cyO1ad9c cyO4b0d4 S a)) (v : Option Nat) : (X ++ va_pl S.L (wPF cyI cyZ cyO1ad9c cyO4b0d4 S)).set k (a, .inr (3, [.int (S.O_FeedbackQueuesModel.f_thrown a), .int (S.O_FeedbackQueuesModel.f_levels a), va_rf (S.O_FeedbackQueuesModel.f_quanta a), va_rf (S.O_FeedbackQueuesModel.f_shares a), .int (S.O_FeedbackQueuesModel.f_period a), .int (S.O_FeedbackQueuesModel.f_processes a), va_rf (S.O_FeedbackQueuesModel.f_arrivals a), va_rf (S.O_FeedbackQueuesModel.f_bursts a), va_rf (S.O_FeedbackQueuesModel.f_ticks a), .int (S.O_FeedbackQueuesModel.f_time a), .int (S.O_FeedbackQueuesModel.f_running a), va_rf (S.O_FeedbackQueuesModel.f_state a), va_rf (S.O_FeedbackQueuesModel.f_level a), va_rf (S.O_FeedbackQueuesModel.f_at a), va_rf (S.O_FeedbackQueuesModel.f_left a), va_rf v, va_rf (S.O_FeedbackQueuesModel.f_share a), va_rf (S.O_FeedbackQueuesModel.f_kept a), va_rf (S.O_FeedbackQueuesModel.f_until a), va_rf (S.O_FeedbackQueuesModel.f_counts a), va_rf (S.O_FeedbackQueuesModel.f_queue a), va_rf (S.O_FeedbackQueuesModel.f_size a), va_rf (S.O_FeedbackQueuesModel.f_all a), va_rf (S.O_FeedbackQueuesModel.f_switches a)])) = X ++ va_pl S.L (wPF cyI cyZ cyO1ad9c cyO4b0d4 { S with O_FeedbackQueuesModel := { S.O_FeedbackQueuesModel with f_quantum := va_up S.O_FeedbackQueuesModel.f_quantum a v } }) := by
  rw [va_pl_set hD hL hk]
  exact congrArg (fun l => X ++ l) (va_pl_congr (wSt_O_FeedbackQueuesModel_f_quantum cyI cyZ cyO1ad9c cyO4b0d4 S h v))
theorem wSt_O_FeedbackQueuesModel_f_share (cyI : ClassId) (cyZ : ClassId) (cyO1ad9c : ClassId) (cyO4b0d4 : ClassId) (S : wPS) {a : Nat} (h : S.K a = 3) (v : Option Nat) (b : Nat) : va_up (wPF cyI cyZ cyO1ad9c cyO4b0d4 S) a (.inr (3, [.int (S.O_FeedbackQueuesModel.f_thrown a), .int (S.O_FeedbackQueuesModel.f_levels a), va_rf (S.O_FeedbackQueuesModel.f_quanta a), va_rf (S.O_FeedbackQueuesModel.f_shares a), .int (S.O_FeedbackQueuesModel.f_period a), .int (S.O_FeedbackQueuesModel.f_processes a), va_rf (S.O_FeedbackQueuesModel.f_arrivals a), va_rf (S.O_FeedbackQueuesModel.f_bursts a), va_rf (S.O_FeedbackQueuesModel.f_ticks a), .int (S.O_FeedbackQueuesModel.f_time a), .int (S.O_FeedbackQueuesModel.f_running a), va_rf (S.O_FeedbackQueuesModel.f_state a), va_rf (S.O_FeedbackQueuesModel.f_level a), va_rf (S.O_FeedbackQueuesModel.f_at a), va_rf (S.O_FeedbackQueuesModel.f_left a), va_rf (S.O_FeedbackQueuesModel.f_quantum a), va_rf v, va_rf (S.O_FeedbackQueuesModel.f_kept a), va_rf (S.O_FeedbackQueuesModel.f_until a), va_rf (S.O_FeedbackQueuesModel.f_counts a), va_rf (S.O_FeedbackQueuesModel.f_queue a), va_rf (S.O_FeedbackQueuesModel.f_size a), va_rf (S.O_FeedbackQueuesModel.f_all a), va_rf (S.O_FeedbackQueuesModel.f_switches a)])) b = wPF cyI cyZ cyO1ad9c cyO4b0d4 { S with O_FeedbackQueuesModel := { S.O_FeedbackQueuesModel with f_share := va_up S.O_FeedbackQueuesModel.f_share a v } } b := by by_cases hb : b = a <;> first | (simp only [wPF, va_up_ne _ _ hb]; done) | (simp only [wPF, va_up, if_neg hb]; done) | simp [wPF, va_re, va_up, va_rf, hb, h]
theorem wPu_O_FeedbackQueuesModel_f_share (cyI : ClassId) (cyZ : ClassId) (cyO1ad9c : ClassId) (cyO4b0d4 : ClassId) (X : va_W) (S : wPS) {A : Nat → Prop} {a k : Nat} (hD : va_D A (X ++ va_pl S.L (wPF cyI cyZ cyO1ad9c cyO4b0d4 S))) (hL : a ∈ S.L) (h : S.K a = 3) (hk : (X ++ va_pl S.L (wPF cyI cyZ cyO1ad9c cyO4b0d4 S))[k]? = some (a, wPF cyI cyZ cyO1ad9c cyO4b0d4 S a)) (v : Option Nat) : (X ++ va_pl S.L (wPF cyI cyZ cyO1ad9c cyO4b0d4 S)).set k (a, .inr (3, [.int (S.O_FeedbackQueuesModel.f_thrown a), .int (S.O_FeedbackQueuesModel.f_levels a), va_rf (S.O_FeedbackQueuesModel.f_quanta a), va_rf (S.O_FeedbackQueuesModel.f_shares a), .int (S.O_FeedbackQueuesModel.f_period a), .int (S.O_FeedbackQueuesModel.f_processes a), va_rf (S.O_FeedbackQueuesModel.f_arrivals a), va_rf (S.O_FeedbackQueuesModel.f_bursts a), va_rf (S.O_FeedbackQueuesModel.f_ticks a), .int (S.O_FeedbackQueuesModel.f_time a), .int (S.O_FeedbackQueuesModel.f_running a), va_rf (S.O_FeedbackQueuesModel.f_state a), va_rf (S.O_FeedbackQueuesModel.f_level a), va_rf (S.O_FeedbackQueuesModel.f_at a), va_rf (S.O_FeedbackQueuesModel.f_left a), va_rf (S.O_FeedbackQueuesModel.f_quantum a), va_rf v, va_rf (S.O_FeedbackQueuesModel.f_kept a), va_rf (S.O_FeedbackQueuesModel.f_until a), va_rf (S.O_FeedbackQueuesModel.f_counts a), va_rf (S.O_FeedbackQueuesModel.f_queue a), va_rf (S.O_FeedbackQueuesModel.f_size a), va_rf (S.O_FeedbackQueuesModel.f_all a), va_rf (S.O_FeedbackQueuesModel.f_switches a)])) = X ++ va_pl S.L (wPF cyI cyZ cyO1ad9c cyO4b0d4 { S with O_FeedbackQueuesModel := { S.O_FeedbackQueuesModel with f_share := va_up S.O_FeedbackQueuesModel.f_share a v } }) := by
  rw [va_pl_set hD hL hk]
  exact congrArg (fun l => X ++ l) (va_pl_congr (wSt_O_FeedbackQueuesModel_f_share cyI cyZ cyO1ad9c cyO4b0d4 S h v))
theorem wSt_O_FeedbackQueuesModel_f_kept (cyI : ClassId) (cyZ : ClassId) (cyO1ad9c : ClassId) (cyO4b0d4 : ClassId) (S : wPS) {a : Nat} (h : S.K a = 3) (v : Option Nat) (b : Nat) : va_up (wPF cyI cyZ cyO1ad9c cyO4b0d4 S) a (.inr (3, [.int (S.O_FeedbackQueuesModel.f_thrown a), .int (S.O_FeedbackQueuesModel.f_levels a), va_rf (S.O_FeedbackQueuesModel.f_quanta a), va_rf (S.O_FeedbackQueuesModel.f_shares a), .int (S.O_FeedbackQueuesModel.f_period a), .int (S.O_FeedbackQueuesModel.f_processes a), va_rf (S.O_FeedbackQueuesModel.f_arrivals a), va_rf (S.O_FeedbackQueuesModel.f_bursts a), va_rf (S.O_FeedbackQueuesModel.f_ticks a), .int (S.O_FeedbackQueuesModel.f_time a), .int (S.O_FeedbackQueuesModel.f_running a), va_rf (S.O_FeedbackQueuesModel.f_state a), va_rf (S.O_FeedbackQueuesModel.f_level a), va_rf (S.O_FeedbackQueuesModel.f_at a), va_rf (S.O_FeedbackQueuesModel.f_left a), va_rf (S.O_FeedbackQueuesModel.f_quantum a), va_rf (S.O_FeedbackQueuesModel.f_share a), va_rf v, va_rf (S.O_FeedbackQueuesModel.f_until a), va_rf (S.O_FeedbackQueuesModel.f_counts a), va_rf (S.O_FeedbackQueuesModel.f_queue a), va_rf (S.O_FeedbackQueuesModel.f_size a), va_rf (S.O_FeedbackQueuesModel.f_all a), va_rf (S.O_FeedbackQueuesModel.f_switches a)])) b = wPF cyI cyZ cyO1ad9c cyO4b0d4 { S with O_FeedbackQueuesModel := { S.O_FeedbackQueuesModel with f_kept := va_up S.O_FeedbackQueuesModel.f_kept a v } } b := by by_cases hb : b = a <;> first | (simp only [wPF, va_up_ne _ _ hb]; done) | (simp only [wPF, va_up, if_neg hb]; done) | simp [wPF, va_re, va_up, va_rf, hb, h]
theorem wPu_O_FeedbackQueuesModel_f_kept (cyI : ClassId) (cyZ : ClassId) (cyO1ad9c : ClassId) (cyO4b0d4 : ClassId) (X : va_W) (S : wPS) {A : Nat → Prop} {a k : Nat} (hD : va_D A (X ++ va_pl S.L (wPF cyI cyZ cyO1ad9c cyO4b0d4 S))) (hL : a ∈ S.L) (h : S.K a = 3) (hk : (X ++ va_pl S.L (wPF cyI cyZ cyO1ad9c cyO4b0d4 S))[k]? = some (a, wPF cyI cyZ cyO1ad9c cyO4b0d4 S a)) (v : Option Nat) : (X ++ va_pl S.L (wPF cyI cyZ cyO1ad9c cyO4b0d4 S)).set k (a, .inr (3, [.int (S.O_FeedbackQueuesModel.f_thrown a), .int (S.O_FeedbackQueuesModel.f_levels a), va_rf (S.O_FeedbackQueuesModel.f_quanta a), va_rf (S.O_FeedbackQueuesModel.f_shares a), .int (S.O_FeedbackQueuesModel.f_period a), .int (S.O_FeedbackQueuesModel.f_processes a), va_rf (S.O_FeedbackQueuesModel.f_arrivals a), va_rf (S.O_FeedbackQueuesModel.f_bursts a), va_rf (S.O_FeedbackQueuesModel.f_ticks a), .int (S.O_FeedbackQueuesModel.f_time a), .int (S.O_FeedbackQueuesModel.f_running a), va_rf (S.O_FeedbackQueuesModel.f_state a), va_rf (S.O_FeedbackQueuesModel.f_level a), va_rf (S.O_FeedbackQueuesModel.f_at a), va_rf (S.O_FeedbackQueuesModel.f_left a), va_rf (S.O_FeedbackQueuesModel.f_quantum a), va_rf (S.O_FeedbackQueuesModel.f_share a), va_rf v, va_rf (S.O_FeedbackQueuesModel.f_until a), va_rf (S.O_FeedbackQueuesModel.f_counts a), va_rf (S.O_FeedbackQueuesModel.f_queue a), va_rf (S.O_FeedbackQueuesModel.f_size a), va_rf (S.O_FeedbackQueuesModel.f_all a), va_rf (S.O_FeedbackQueuesModel.f_switches a)])) = X ++ va_pl S.L (wPF cyI cyZ cyO1ad9c cyO4b0d4 { S with O_FeedbackQueuesModel := { S.O_FeedbackQueuesModel with f_kept := va_up S.O_FeedbackQueuesModel.f_kept a v } }) := by
  rw [va_pl_set hD hL hk]
  exact congrArg (fun l => X ++ l) (va_pl_congr (wSt_O_FeedbackQueuesModel_f_kept cyI cyZ cyO1ad9c cyO4b0d4 S h v))
theorem wSt_O_FeedbackQueuesModel_f_until (cyI : ClassId) (cyZ : ClassId) (cyO1ad9c : ClassId) (cyO4b0d4 : ClassId) (S : wPS) {a : Nat} (h : S.K a = 3) (v : Option Nat) (b : Nat) : va_up (wPF cyI cyZ cyO1ad9c cyO4b0d4 S) a (.inr (3, [.int (S.O_FeedbackQueuesModel.f_thrown a), .int (S.O_FeedbackQueuesModel.f_levels a), va_rf (S.O_FeedbackQueuesModel.f_quanta a), va_rf (S.O_FeedbackQueuesModel.f_shares a), .int (S.O_FeedbackQueuesModel.f_period a), .int (S.O_FeedbackQueuesModel.f_processes a), va_rf (S.O_FeedbackQueuesModel.f_arrivals a), va_rf (S.O_FeedbackQueuesModel.f_bursts a), va_rf (S.O_FeedbackQueuesModel.f_ticks a), .int (S.O_FeedbackQueuesModel.f_time a), .int (S.O_FeedbackQueuesModel.f_running a), va_rf (S.O_FeedbackQueuesModel.f_state a), va_rf (S.O_FeedbackQueuesModel.f_level a), va_rf (S.O_FeedbackQueuesModel.f_at a), va_rf (S.O_FeedbackQueuesModel.f_left a), va_rf (S.O_FeedbackQueuesModel.f_quantum a), va_rf (S.O_FeedbackQueuesModel.f_share a), va_rf (S.O_FeedbackQueuesModel.f_kept a), va_rf v, va_rf (S.O_FeedbackQueuesModel.f_counts a), va_rf (S.O_FeedbackQueuesModel.f_queue a), va_rf (S.O_FeedbackQueuesModel.f_size a), va_rf (S.O_FeedbackQueuesModel.f_all a), va_rf (S.O_FeedbackQueuesModel.f_switches a)])) b = wPF cyI cyZ cyO1ad9c cyO4b0d4 { S with O_FeedbackQueuesModel := { S.O_FeedbackQueuesModel with f_until := va_up S.O_FeedbackQueuesModel.f_until a v } } b := by by_cases hb : b = a <;> first | (simp only [wPF, va_up_ne _ _ hb]; done) | (simp only [wPF, va_up, if_neg hb]; done) | simp [wPF, va_re, va_up, va_rf, hb, h]
theorem wPu_O_FeedbackQueuesModel_f_until (cyI : ClassId) (cyZ : ClassId) (cyO1ad9c : ClassId) (cyO4b0d4 : ClassId) (X : va_W) (S : wPS) {A : Nat → Prop} {a k : Nat} (hD : va_D A (X ++ va_pl S.L (wPF cyI cyZ cyO1ad9c cyO4b0d4 S))) (hL : a ∈ S.L) (h : S.K a = 3) (hk : (X ++ va_pl S.L (wPF cyI cyZ cyO1ad9c cyO4b0d4 S))[k]? = some (a, wPF cyI cyZ cyO1ad9c cyO4b0d4 S a)) (v : Option Nat) : (X ++ va_pl S.L (wPF cyI cyZ cyO1ad9c cyO4b0d4 S)).set k (a, .inr (3, [.int (S.O_FeedbackQueuesModel.f_thrown a), .int (S.O_FeedbackQueuesModel.f_levels a), va_rf (S.O_FeedbackQueuesModel.f_quanta a), va_rf (S.O_FeedbackQueuesModel.f_shares a), .int (S.O_FeedbackQueuesModel.f_period a), .int (S.O_FeedbackQueuesModel.f_processes a), va_rf (S.O_FeedbackQueuesModel.f_arrivals a), va_rf (S.O_FeedbackQueuesModel.f_bursts a), va_rf (S.O_FeedbackQueuesModel.f_ticks a), .int (S.O_FeedbackQueuesModel.f_time a), .int (S.O_FeedbackQueuesModel.f_running a), va_rf (S.O_FeedbackQueuesModel.f_state a), va_rf (S.O_FeedbackQueuesModel.f_level a), va_rf (S.O_FeedbackQueuesModel.f_at a), va_rf (S.O_FeedbackQueuesModel.f_left a), va_rf (S.O_FeedbackQueuesModel.f_quantum a), va_rf (S.O_FeedbackQueuesModel.f_share a), va_rf (S.O_FeedbackQueuesModel.f_kept a), va_rf v, va_rf (S.O_FeedbackQueuesModel.f_counts a), va_rf (S.O_FeedbackQueuesModel.f_queue a), va_rf (S.O_FeedbackQueuesModel.f_size a), va_rf (S.O_FeedbackQueuesModel.f_all a), va_rf (S.O_FeedbackQueuesModel.f_switches a)])) = X ++ va_pl S.L (wPF cyI cyZ cyO1ad9c cyO4b0d4 { S with O_FeedbackQueuesModel := { S.O_FeedbackQueuesModel with f_until := va_up S.O_FeedbackQueuesModel.f_until a v } }) := by
  rw [va_pl_set hD hL hk]
  exact congrArg (fun l => X ++ l) (va_pl_congr (wSt_O_FeedbackQueuesModel_f_until cyI cyZ cyO1ad9c cyO4b0d4 S h v))
theorem wSt_O_FeedbackQueuesModel_f_counts (cyI : ClassId) (cyZ : ClassId) (cyO1ad9c : ClassId) (cyO4b0d4 : ClassId) (S : wPS) {a : Nat} (h : S.K a = 3) (v : Option Nat) (b : Nat) : va_up (wPF cyI cyZ cyO1ad9c cyO4b0d4 S) a (.inr (3, [.int (S.O_FeedbackQueuesModel.f_thrown a), .int (S.O_FeedbackQueuesModel.f_levels a), va_rf (S.O_FeedbackQueuesModel.f_quanta a), va_rf (S.O_FeedbackQueuesModel.f_shares a), .int (S.O_FeedbackQueuesModel.f_period a), .int (S.O_FeedbackQueuesModel.f_processes a), va_rf (S.O_FeedbackQueuesModel.f_arrivals a), va_rf (S.O_FeedbackQueuesModel.f_bursts a), va_rf (S.O_FeedbackQueuesModel.f_ticks a), .int (S.O_FeedbackQueuesModel.f_time a), .int (S.O_FeedbackQueuesModel.f_running a), va_rf (S.O_FeedbackQueuesModel.f_state a), va_rf (S.O_FeedbackQueuesModel.f_level a), va_rf (S.O_FeedbackQueuesModel.f_at a), va_rf (S.O_FeedbackQueuesModel.f_left a), va_rf (S.O_FeedbackQueuesModel.f_quantum a), va_rf (S.O_FeedbackQueuesModel.f_share a), va_rf (S.O_FeedbackQueuesModel.f_kept a), va_rf (S.O_FeedbackQueuesModel.f_until a), va_rf v, va_rf (S.O_FeedbackQueuesModel.f_queue a), va_rf (S.O_FeedbackQueuesModel.f_size a), va_rf (S.O_FeedbackQueuesModel.f_all a), va_rf (S.O_FeedbackQueuesModel.f_switches a)])) b = wPF cyI cyZ cyO1ad9c cyO4b0d4 { S with O_FeedbackQueuesModel := { S.O_FeedbackQueuesModel with f_counts := va_up S.O_FeedbackQueuesModel.f_counts a v } } b := by by_cases hb : b = a <;> first | (simp only [wPF, va_up_ne _ _ hb]; done) | (simp only [wPF, va_up, if_neg hb]; done) | simp [wPF, va_re, va_up, va_rf, hb, h]
theorem wPu_O_FeedbackQueuesModel_f_counts (cyI : ClassId) (cyZ : ClassId) (cyO1ad9c : ClassId) (cyO4b0d4 : ClassId) (X : va_W) (S : wPS) {A : Nat → Prop} {a k : Nat} (hD : va_D A (X ++ va_pl S.L (wPF cyI cyZ cyO1ad9c cyO4b0d4 S))) (hL : a ∈ S.L) (h : S.K a = 3) (hk : (X ++ va_pl S.L (wPF cyI cyZ cyO1ad9c cyO4b0d4 S))[k]? = some (a, wPF cyI cyZ cyO1ad9c cyO4b0d4 S a)) (v : Option Nat) : (X ++ va_pl S.L (wPF cyI cyZ cyO1ad9c cyO4b0d4 S)).set k (a, .inr (3, [.int (S.O_FeedbackQueuesModel.f_thrown a), .int (S.O_FeedbackQueuesModel.f_levels a), va_rf (S.O_FeedbackQueuesModel.f_quanta a), va_rf (S.O_FeedbackQueuesModel.f_shares a), .int (S.O_FeedbackQueuesModel.f_period a), .int (S.O_FeedbackQueuesModel.f_processes a), va_rf (S.O_FeedbackQueuesModel.f_arrivals a), va_rf (S.O_FeedbackQueuesModel.f_bursts a), va_rf (S.O_FeedbackQueuesModel.f_ticks a), .int (S.O_FeedbackQueuesModel.f_time a), .int (S.O_FeedbackQueuesModel.f_running a), va_rf (S.O_FeedbackQueuesModel.f_state a), va_rf (S.O_FeedbackQueuesModel.f_level a), va_rf (S.O_FeedbackQueuesModel.f_at a), va_rf (S.O_FeedbackQueuesModel.f_left a), va_rf (S.O_FeedbackQueuesModel.f_quantum a), va_rf (S.O_FeedbackQueuesModel.f_share a), va_rf (S.O_FeedbackQueuesModel.f_kept a), va_rf (S.O_FeedbackQueuesModel.f_until a), va_rf v, va_rf (S.O_FeedbackQueuesModel.f_queue a), va_rf (S.O_FeedbackQueuesModel.f_size a), va_rf (S.O_FeedbackQueuesModel.f_all a), va_rf (S.O_FeedbackQueuesModel.f_switches a)])) = X ++ va_pl S.L (wPF cyI cyZ cyO1ad9c cyO4b0d4 { S with O_FeedbackQueuesModel := { S.O_FeedbackQueuesModel with f_counts := va_up S.O_FeedbackQueuesModel.f_counts a v } }) := by
  rw [va_pl_set hD hL hk]
  exact congrArg (fun l => X ++ l) (va_pl_congr (wSt_O_FeedbackQueuesModel_f_counts cyI cyZ cyO1ad9c cyO4b0d4 S h v))
theorem wSt_O_FeedbackQueuesModel_f_queue (cyI : ClassId) (cyZ : ClassId) (cyO1ad9c : ClassId) (cyO4b0d4 : ClassId) (S : wPS) {a : Nat} (h : S.K a = 3) (v : Option Nat) (b : Nat) : va_up (wPF cyI cyZ cyO1ad9c cyO4b0d4 S) a (.inr (3, [.int (S.O_FeedbackQueuesModel.f_thrown a), .int (S.O_FeedbackQueuesModel.f_levels a), va_rf (S.O_FeedbackQueuesModel.f_quanta a), va_rf (S.O_FeedbackQueuesModel.f_shares a), .int (S.O_FeedbackQueuesModel.f_period a), .int (S.O_FeedbackQueuesModel.f_processes a), va_rf (S.O_FeedbackQueuesModel.f_arrivals a), va_rf (S.O_FeedbackQueuesModel.f_bursts a), va_rf (S.O_FeedbackQueuesModel.f_ticks a), .int (S.O_FeedbackQueuesModel.f_time a), .int (S.O_FeedbackQueuesModel.f_running a), va_rf (S.O_FeedbackQueuesModel.f_state a), va_rf (S.O_FeedbackQueuesModel.f_level a), va_rf (S.O_FeedbackQueuesModel.f_at a), va_rf (S.O_FeedbackQueuesModel.f_left a), va_rf (S.O_FeedbackQueuesModel.f_quantum a), va_rf (S.O_FeedbackQueuesModel.f_share a), va_rf (S.O_FeedbackQueuesModel.f_kept a), va_rf (S.O_FeedbackQueuesModel.f_until a), va_rf (S.O_FeedbackQueuesModel.f_counts a), va_rf v, va_rf (S.O_FeedbackQueuesModel.f_size a), va_rf (S.O_FeedbackQueuesModel.f_all a), va_rf (S.O_FeedbackQueuesModel.f_switches a)])) b = wPF cyI cyZ cyO1ad9c cyO4b0d4 { S with O_FeedbackQueuesModel := { S.O_FeedbackQueuesModel with f_queue := va_up S.O_FeedbackQueuesModel.f_queue a v } } b := by by_cases hb : b = a <;> first | (simp only [wPF, va_up_ne _ _ hb]; done) | (simp only [wPF, va_up, if_neg hb]; done) | simp [wPF, va_re, va_up, va_rf, hb, h]
theorem wPu_O_FeedbackQueuesModel_f_queue (cyI : ClassId) (cyZ : ClassId) (cyO1ad9c : ClassId) (cyO4b0d4 : ClassId) (X : va_W) (S : wPS) {A : Nat → Prop} {a k : Nat} (hD : va_D A (X ++ va_pl S.L (wPF cyI cyZ cyO1ad9c cyO4b0d4 S))) (hL : a ∈ S.L) (h : S.K a = 3) (hk : (X ++ va_pl S.L (wPF cyI cyZ cyO1ad9c cyO4b0d4 S))[k]? = some (a, wPF cyI cyZ cyO1ad9c cyO4b0d4 S a)) (v : Option Nat) : (X ++ va_pl S.L (wPF cyI cyZ cyO1ad9c cyO4b0d4 S)).set k (a, .inr (3, [.int (S.O_FeedbackQueuesModel.f_thrown a), .int (S.O_FeedbackQueuesModel.f_levels a), va_rf (S.O_FeedbackQueuesModel.f_quanta a), va_rf (S.O_FeedbackQueuesModel.f_shares a), .int (S.O_FeedbackQueuesModel.f_period a), .int (S.O_FeedbackQueuesModel.f_processes a), va_rf (S.O_FeedbackQueuesModel.f_arrivals a), va_rf (S.O_FeedbackQueuesModel.f_bursts a), va_rf (S.O_FeedbackQueuesModel.f_ticks a), .int (S.O_FeedbackQueuesModel.f_time a), .int (S.O_FeedbackQueuesModel.f_running a), va_rf (S.O_FeedbackQueuesModel.f_state a), va_rf (S.O_FeedbackQueuesModel.f_level a), va_rf (S.O_FeedbackQueuesModel.f_at a), va_rf (S.O_FeedbackQueuesModel.f_left a), va_rf (S.O_FeedbackQueuesModel.f_quantum a), va_rf (S.O_FeedbackQueuesModel.f_share a), va_rf (S.O_FeedbackQueuesModel.f_kept a), va_rf (S.O_FeedbackQueuesModel.f_until a), va_rf (S.O_FeedbackQueuesModel.f_counts a), va_rf v, va_rf (S.O_FeedbackQueuesModel.f_size a), va_rf (S.O_FeedbackQueuesModel.f_all a), va_rf (S.O_FeedbackQueuesModel.f_switches a)])) = X ++ va_pl S.L (wPF cyI cyZ cyO1ad9c cyO4b0d4 { S with O_FeedbackQueuesModel := { S.O_FeedbackQueuesModel with f_queue := va_up S.O_FeedbackQueuesModel.f_queue a v } }) := by
  rw [va_pl_set hD hL hk]
  exact congrArg (fun l => X ++ l) (va_pl_congr (wSt_O_FeedbackQueuesModel_f_queue cyI cyZ cyO1ad9c cyO4b0d4 S h v))
theorem wSt_O_FeedbackQueuesModel_f_size (cyI : ClassId) (cyZ : ClassId) (cyO1ad9c : ClassId) (cyO4b0d4 : ClassId) (S : wPS) {a : Nat} (h : S.K a = 3) (v : Option Nat) (b : Nat) : va_up (wPF cyI cyZ cyO1ad9c cyO4b0d4 S) a (.inr (3, [.int (S.O_FeedbackQueuesModel.f_thrown a), .int (S.O_FeedbackQueuesModel.f_levels a), va_rf (S.O_FeedbackQueuesModel.f_quanta a), va_rf (S.O_FeedbackQueuesModel.f_shares a), .int (S.O_FeedbackQueuesModel.f_period a), .int (S.O_FeedbackQueuesModel.f_processes a), va_rf (S.O_FeedbackQueuesModel.f_arrivals a), va_rf (S.O_FeedbackQueuesModel.f_bursts a), va_rf (S.O_FeedbackQueuesModel.f_ticks a), .int (S.O_FeedbackQueuesModel.f_time a), .int (S.O_FeedbackQueuesModel.f_running a), va_rf (S.O_FeedbackQueuesModel.f_state a), va_rf (S.O_FeedbackQueuesModel.f_level a), va_rf (S.O_FeedbackQueuesModel.f_at a), va_rf (S.O_FeedbackQueuesModel.f_left a), va_rf (S.O_FeedbackQueuesModel.f_quantum a), va_rf (S.O_FeedbackQueuesModel.f_share a), va_rf (S.O_FeedbackQueuesModel.f_kept a), va_rf (S.O_FeedbackQueuesModel.f_until a), va_rf (S.O_FeedbackQueuesModel.f_counts a), va_rf (S.O_FeedbackQueuesModel.f_queue a), va_rf v, va_rf (S.O_FeedbackQueuesModel.f_all a), va_rf (S.O_FeedbackQueuesModel.f_switches a)])) b = wPF cyI cyZ cyO1ad9c cyO4b0d4 { S with O_FeedbackQueuesModel := { S.O_FeedbackQueuesModel with f_size := va_up S.O_FeedbackQueuesModel.f_size a v } } b := by by_cases hb : b = a <;> first | (simp only [wPF, va_up_ne _ _ hb]; done) | (simp only [wPF, va_up, if_neg hb]; done) | simp [wPF, va_re, va_up, va_rf, hb, h]
theorem wPu_O_FeedbackQueuesModel_f_size (cyI : ClassId) (cyZ : ClassId) (cyO1ad9c : ClassId) (cyO4b0d4 : ClassId) (X : va_W) (S : wPS) {A : Nat → Prop} {a k : Nat} (hD : va_D A (X ++ va_pl S.L (wPF cyI cyZ cyO1ad9c cyO4b0d4 S))) (hL : a ∈ S.L) (h : S.K a = 3) (hk : (X ++ va_pl S.L (wPF cyI cyZ cyO1ad9c cyO4b0d4 S))[k]? = some (a, wPF cyI cyZ cyO1ad9c cyO4b0d4 S a)) (v : Option Nat) : (X ++ va_pl S.L (wPF cyI cyZ cyO1ad9c cyO4b0d4 S)).set k (a, .inr (3, [.int (S.O_FeedbackQueuesModel.f_thrown a), .int (S.O_FeedbackQueuesModel.f_levels a), va_rf (S.O_FeedbackQueuesModel.f_quanta a), va_rf (S.O_FeedbackQueuesModel.f_shares a), .int (S.O_FeedbackQueuesModel.f_period a), .int (S.O_FeedbackQueuesModel.f_processes a), va_rf (S.O_FeedbackQueuesModel.f_arrivals a), va_rf (S.O_FeedbackQueuesModel.f_bursts a), va_rf (S.O_FeedbackQueuesModel.f_ticks a), .int (S.O_FeedbackQueuesModel.f_time a), .int (S.O_FeedbackQueuesModel.f_running a), va_rf (S.O_FeedbackQueuesModel.f_state a), va_rf (S.O_FeedbackQueuesModel.f_level a), va_rf (S.O_FeedbackQueuesModel.f_at a), va_rf (S.O_FeedbackQueuesModel.f_left a), va_rf (S.O_FeedbackQueuesModel.f_quantum a), va_rf (S.O_FeedbackQueuesModel.f_share a), va_rf (S.O_FeedbackQueuesModel.f_kept a), va_rf (S.O_FeedbackQueuesModel.f_until a), va_rf (S.O_FeedbackQueuesModel.f_counts a), va_rf (S.O_FeedbackQueuesModel.f_queue a), va_rf v, va_rf (S.O_FeedbackQueuesModel.f_all a), va_rf (S.O_FeedbackQueuesModel.f_switches a)])) = X ++ va_pl S.L (wPF cyI cyZ cyO1ad9c cyO4b0d4 { S with O_FeedbackQueuesModel := { S.O_FeedbackQueuesModel with f_size := va_up S.O_FeedbackQueuesModel.f_size a v } }) := by
  rw [va_pl_set hD hL hk]
  exact congrArg (fun l => X ++ l) (va_pl_congr (wSt_O_FeedbackQueuesModel_f_size cyI cyZ cyO1ad9c cyO4b0d4 S h v))
theorem wSt_O_FeedbackQueuesModel_f_all (cyI : ClassId) (cyZ : ClassId) (cyO1ad9c : ClassId) (cyO4b0d4 : ClassId) (S : wPS) {a : Nat} (h : S.K a = 3) (v : Option Nat) (b : Nat) : va_up (wPF cyI cyZ cyO1ad9c cyO4b0d4 S) a (.inr (3, [.int (S.O_FeedbackQueuesModel.f_thrown a), .int (S.O_FeedbackQueuesModel.f_levels a), va_rf (S.O_FeedbackQueuesModel.f_quanta a), va_rf (S.O_FeedbackQueuesModel.f_shares a), .int (S.O_FeedbackQueuesModel.f_period a), .int (S.O_FeedbackQueuesModel.f_processes a), va_rf (S.O_FeedbackQueuesModel.f_arrivals a), va_rf (S.O_FeedbackQueuesModel.f_bursts a), va_rf (S.O_FeedbackQueuesModel.f_ticks a), .int (S.O_FeedbackQueuesModel.f_time a), .int (S.O_FeedbackQueuesModel.f_running a), va_rf (S.O_FeedbackQueuesModel.f_state a), va_rf (S.O_FeedbackQueuesModel.f_level a), va_rf (S.O_FeedbackQueuesModel.f_at a), va_rf (S.O_FeedbackQueuesModel.f_left a), va_rf (S.O_FeedbackQueuesModel.f_quantum a), va_rf (S.O_FeedbackQueuesModel.f_share a), va_rf (S.O_FeedbackQueuesModel.f_kept a), va_rf (S.O_FeedbackQueuesModel.f_until a), va_rf (S.O_FeedbackQueuesModel.f_counts a), va_rf (S.O_FeedbackQueuesModel.f_queue a), va_rf (S.O_FeedbackQueuesModel.f_size a), va_rf v, va_rf (S.O_FeedbackQueuesModel.f_switches a)])) b = wPF cyI cyZ cyO1ad9c cyO4b0d4 { S with O_FeedbackQueuesModel := { S.O_FeedbackQueuesModel with f_all := va_up S.O_FeedbackQueuesModel.f_all a v } } b := by by_cases hb : b = a <;> first | (simp only [wPF, va_up_ne _ _ hb]; done) | (simp only [wPF, va_up, if_neg hb]; done) | simp [wPF, va_re, va_up, va_rf, hb, h]
theorem wPu_O_FeedbackQueuesModel_f_all (cyI : ClassId) (cyZ : ClassId) (cyO1ad9c : ClassId) (cyO4b0d4 : ClassId) (X : va_W) (S : wPS) {A : Nat → Prop} {a k : Nat} (hD : va_D A (X ++ va_pl S.L (wPF cyI cyZ cyO1ad9c cyO4b0d4 S))) (hL : a ∈ S.L) (h : S.K a = 3) (hk : (X ++ va_pl S.L (wPF cyI cyZ cyO1ad9c cyO4b0d4 S))[k]? = some (a, wPF cyI cyZ cyO1ad9c cyO4b0d4 S a)) (v : Option Nat) : (X ++ va_pl S.L (wPF cyI cyZ cyO1ad9c cyO4b0d4 S)).set k (a, .inr (3, [.int (S.O_FeedbackQueuesModel.f_thrown a), .int (S.O_FeedbackQueuesModel.f_levels a), va_rf (S.O_FeedbackQueuesModel.f_quanta a), va_rf (S.O_FeedbackQueuesModel.f_shares a), .int (S.O_FeedbackQueuesModel.f_period a), .int (S.O_FeedbackQueuesModel.f_processes a), va_rf (S.O_FeedbackQueuesModel.f_arrivals a), va_rf (S.O_FeedbackQueuesModel.f_bursts a), va_rf (S.O_FeedbackQueuesModel.f_ticks a), .int (S.O_FeedbackQueuesModel.f_time a), .int (S.O_FeedbackQueuesModel.f_running a), va_rf (S.O_FeedbackQueuesModel.f_state a), va_rf (S.O_FeedbackQueuesModel.f_level a), va_rf (S.O_FeedbackQueuesModel.f_at a), va_rf (S.O_FeedbackQueuesModel.f_left a), va_rf (S.O_FeedbackQueuesModel.f_quantum a), va_rf (S.O_FeedbackQueuesModel.f_share a), va_rf (S.O_FeedbackQueuesModel.f_kept a), va_rf (S.O_FeedbackQueuesModel.f_until a), va_rf (S.O_FeedbackQueuesModel.f_counts a), va_rf (S.O_FeedbackQueuesModel.f_queue a), va_rf (S.O_FeedbackQueuesModel.f_size a), va_rf v, va_rf (S.O_FeedbackQueuesModel.f_switches a)])) = X ++ va_pl S.L (wPF cyI cyZ cyO1ad9c cyO4b0d4 { S with O_FeedbackQueuesModel := { S.O_FeedbackQueuesModel with f_all := va_up S.O_FeedbackQueuesModel.f_all a v } }) := by
  rw [va_pl_set hD hL hk]
  exact congrArg (fun l => X ++ l) (va_pl_congr (wSt_O_FeedbackQueuesModel_f_all cyI cyZ cyO1ad9c cyO4b0d4 S h v))
theorem wSt_O_FeedbackQueuesModel_f_switches (cyI : ClassId) (cyZ : ClassId) (cyO1ad9c : ClassId) (cyO4b0d4 : ClassId) (S : wPS) {a : Nat} (h : S.K a = 3) (v : Option Nat) (b : Nat) : va_up (wPF cyI cyZ cyO1ad9c cyO4b0d4 S) a (.inr (3, [.int (S.O_FeedbackQueuesModel.f_thrown a), .int (S.O_FeedbackQueuesModel.f_levels a), va_rf (S.O_FeedbackQueuesModel.f_quanta a), va_rf (S.O_FeedbackQueuesModel.f_shares a), .int (S.O_FeedbackQueuesModel.f_period a), .int (S.O_FeedbackQueuesModel.f_processes a), va_rf (S.O_FeedbackQueuesModel.f_arrivals a), va_rf (S.O_FeedbackQueuesModel.f_bursts a), va_rf (S.O_FeedbackQueuesModel.f_ticks a), .int (S.O_FeedbackQueuesModel.f_time a), .int (S.O_FeedbackQueuesModel.f_running a), va_rf (S.O_FeedbackQueuesModel.f_state a), va_rf (S.O_FeedbackQueuesModel.f_level a), va_rf (S.O_FeedbackQueuesModel.f_at a), va_rf (S.O_FeedbackQueuesModel.f_left a), va_rf (S.O_FeedbackQueuesModel.f_quantum a), va_rf (S.O_FeedbackQueuesModel.f_share a), va_rf (S.O_FeedbackQueuesModel.f_kept a), va_rf (S.O_FeedbackQueuesModel.f_until a), va_rf (S.O_FeedbackQueuesModel.f_counts a), va_rf (S.O_FeedbackQueuesModel.f_queue a), va_rf (S.O_FeedbackQueuesModel.f_size a), va_rf (S.O_FeedbackQueuesModel.f_all a), va_rf v])) b = wPF cyI cyZ cyO1ad9c cyO4b0d4 { S with O_FeedbackQueuesModel := { S.O_FeedbackQueuesModel with f_switches := va_up S.O_FeedbackQueuesModel.f_switches a v } } b := by by_cases hb : b = a <;> first | (simp only [wPF, va_up_ne _ _ hb]; done) | (simp only [wPF, va_up, if_neg hb]; done) | simp [wPF, va_re, va_up, va_rf, hb, h]
theorem wPu_O_FeedbackQueuesModel_f_switches (cyI : ClassId) (cyZ : ClassId) (cyO1ad9c : ClassId) (cyO4b0d4 : ClassId) (X : va_W) (S : wPS) {A : Nat → Prop} {a k : Nat} (hD : va_D A (X ++ va_pl S.L (wPF cyI cyZ cyO1ad9c cyO4b0d4 S))) (hL : a ∈ S.L) (h : S.K a = 3) (hk : (X ++ va_pl S.L (wPF cyI cyZ cyO1ad9c cyO4b0d4 S))[k]? = some (a, wPF cyI cyZ cyO1ad9c cyO4b0d4 S a)) (v : Option Nat) : (X ++ va_pl S.L (wPF cyI cyZ cyO1ad9c cyO4b0d4 S)).set k (a, .inr (3, [.int (S.O_FeedbackQueuesModel.f_thrown a), .int (S.O_FeedbackQueuesModel.f_levels a), va_rf (S.O_FeedbackQueuesModel.f_quanta a), va_rf (S.O_FeedbackQueuesModel.f_shares a), .int (S.O_FeedbackQueuesModel.f_period a), .int (S.O_FeedbackQueuesModel.f_processes a), va_rf (S.O_FeedbackQueuesModel.f_arrivals a), va_rf (S.O_FeedbackQueuesModel.f_bursts a), va_rf (S.O_FeedbackQueuesModel.f_ticks a), .int (S.O_FeedbackQueuesModel.f_time a), .int (S.O_FeedbackQueuesModel.f_running a), va_rf (S.O_FeedbackQueuesModel.f_state a), va_rf (S.O_FeedbackQueuesModel.f_level a), va_rf (S.O_FeedbackQueuesModel.f_at a), va_rf (S.O_FeedbackQueuesModel.f_left a), va_rf (S.O_FeedbackQueuesModel.f_quantum a), va_rf (S.O_FeedbackQueuesModel.f_share a), va_rf (S.O_FeedbackQueuesModel.f_kept a), va_rf (S.O_FeedbackQueuesModel.f_until a), va_rf (S.O_FeedbackQueuesModel.f_counts a), va_rf (S.O_FeedbackQueuesModel.f_queue a), va_rf (S.O_FeedbackQueuesModel.f_size a), va_rf (S.O_FeedbackQueuesModel.f_all a), va_rf v])) = X ++ va_pl S.L (wPF cyI cyZ cyO1ad9c cyO4b0d4 { S with O_FeedbackQueuesModel := { S.O_FeedbackQueuesModel with f_switches := va_up S.O_FeedbackQueuesModel.f_switches a v } }) := by
  rw [va_pl_set hD hL hk]
  exact congrArg (fun l => X ++ l) (va_pl_congr (wSt_O_FeedbackQueuesModel_f_switches cyI cyZ cyO1ad9c cyO4b0d4 S h v))
theorem wNw_O_FeedbackQueuesModel (cyI : ClassId) (cyZ : ClassId) (cyO1ad9c : ClassId) (cyO4b0d4 : ClassId) (S : wPS) (a b : Nat) : va_up (wPF cyI cyZ cyO1ad9c cyO4b0d4 S) a (.inr (3, [.int 0, .int 0, .null, .null, .int 0, .int 0, .null, .null, .null, .int 0, .int 0, .null, .null, .null, .null, .null, .null, .null, .null, .null, .null, .null, .null, .null])) b = wPF cyI cyZ cyO1ad9c cyO4b0d4 { S with L := S.L ++ [a], K := va_up S.K a 3, O_FeedbackQueuesModel := { f_thrown := va_up S.O_FeedbackQueuesModel.f_thrown a 0, f_levels := va_up S.O_FeedbackQueuesModel.f_levels a 0, f_quanta := va_up S.O_FeedbackQueuesModel.f_quanta a none, f_shares := va_up S.O_FeedbackQueuesModel.f_shares a none, f_period := va_up S.O_FeedbackQueuesModel.f_period a 0, f_processes := va_up S.O_FeedbackQueuesModel.f_processes a 0, f_arrivals := va_up S.O_FeedbackQueuesModel.f_arrivals a none, f_bursts := va_up S.O_FeedbackQueuesModel.f_bursts a none, f_ticks := va_up S.O_FeedbackQueuesModel.f_ticks a none, f_time := va_up S.O_FeedbackQueuesModel.f_time a 0, f_running := va_up S.O_FeedbackQueuesModel.f_running a 0, f_state := va_up S.O_FeedbackQueuesModel.f_state a none, f_level := va_up S.O_FeedbackQueuesModel.f_level a none, f_at := va_up S.O_FeedbackQueuesModel.f_at a none, f_left := va_up S.O_FeedbackQueuesModel.f_left a none, f_quantum := va_up S.O_FeedbackQueuesModel.f_quantum a none, f_share := va_up S.O_FeedbackQueuesModel.f_share a none, f_kept := va_up S.O_FeedbackQueuesModel.f_kept a none, f_until := va_up S.O_FeedbackQueuesModel.f_until a none, f_counts := va_up S.O_FeedbackQueuesModel.f_counts a none, f_queue := va_up S.O_FeedbackQueuesModel.f_queue a none, f_size := va_up S.O_FeedbackQueuesModel.f_size a none, f_all := va_up S.O_FeedbackQueuesModel.f_all a none, f_switches := va_up S.O_FeedbackQueuesModel.f_switches a none } } b := by by_cases hb : b = a <;> first | (simp only [wPF, va_up_ne _ _ hb]; done) | (simp only [wPF, va_up, if_neg hb]; done) | simp [wPF, va_re, va_up, va_rf, hb]
theorem wPn_O_FeedbackQueuesModel (cyI : ClassId) (cyZ : ClassId) (cyO1ad9c : ClassId) (cyO4b0d4 : ClassId) (X : va_W) (S : wPS) {a : Nat} (ha : a ∉ S.L) : (X ++ va_pl S.L (wPF cyI cyZ cyO1ad9c cyO4b0d4 S)) ++ [(a, .inr (3, [.int 0, .int 0, .null, .null, .int 0, .int 0, .null, .null, .null, .int 0, .int 0, .null, .null, .null, .null, .null, .null, .null, .null, .null, .null, .null, .null, .null]))] = X ++ va_pl (S.L ++ [a]) (wPF cyI cyZ cyO1ad9c cyO4b0d4 { S with L := S.L ++ [a], K := va_up S.K a 3, O_FeedbackQueuesModel := { f_thrown := va_up S.O_FeedbackQueuesModel.f_thrown a 0, f_levels := va_up S.O_FeedbackQueuesModel.f_levels a 0, f_quanta := va_up S.O_FeedbackQueuesModel.f_quanta a none, f_shares := va_up S.O_FeedbackQueuesModel.f_shares a none, f_period := va_up S.O_FeedbackQueuesModel.f_period a 0, f_processes := va_up S.O_FeedbackQueuesModel.f_processes a 0, f_arrivals := va_up S.O_FeedbackQueuesModel.f_arrivals a none, f_bursts := va_up S.O_FeedbackQueuesModel.f_bursts a none, f_ticks := va_up S.O_FeedbackQueuesModel.f_ticks a none, f_time := va_up S.O_FeedbackQueuesModel.f_time a 0, f_running := va_up S.O_FeedbackQueuesModel.f_running a 0, f_state := va_up S.O_FeedbackQueuesModel.f_state a none, f_level := va_up S.O_FeedbackQueuesModel.f_level a none, f_at := va_up S.O_FeedbackQueuesModel.f_at a none, f_left := va_up S.O_FeedbackQueuesModel.f_left a none, f_quantum := va_up S.O_FeedbackQueuesModel.f_quantum a none, f_share := va_up S.O_FeedbackQueuesModel.f_share a none, f_kept := va_up S.O_FeedbackQueuesModel.f_kept a none, f_until := va_up S.O_FeedbackQueuesModel.f_until a none, f_counts := va_up S.O_FeedbackQueuesModel.f_counts a none, f_queue := va_up S.O_FeedbackQueuesModel.f_queue a none, f_size := va_up S.O_FeedbackQueuesModel.f_size a none, f_all := va_up S.O_FeedbackQueuesModel.f_all a none, f_switches := va_up S.O_FeedbackQueuesModel.f_switches a none } }) := by
  rw [List.append_assoc, va_pl_push ha]
  exact congrArg (fun l => X ++ l) (va_pl_congr (wNw_O_FeedbackQueuesModel cyI cyZ cyO1ad9c cyO4b0d4 S a))
theorem wAt_R_I (cyI : ClassId) (cyZ : ClassId) (cyO1ad9c : ClassId) (cyO4b0d4 : ClassId) (S : wPS) {a : Nat} (h : S.K a = 4) : wPF cyI cyZ cyO1ad9c cyO4b0d4 S a = .inl (cyI, S.R_I.len a, .inl (S.R_I.row a)) := by simp [wPF, h]
theorem wGt_R_I (cyI : ClassId) (cyZ : ClassId) (cyO1ad9c : ClassId) (cyO4b0d4 : ClassId) (X : va_W) (S : wPS) {a : Nat} (hL : a ∈ S.L) (h : S.K a = 4) : ∃ k : Nat, (X ++ va_pl S.L (wPF cyI cyZ cyO1ad9c cyO4b0d4 S))[k]? = some (a, wPF cyI cyZ cyO1ad9c cyO4b0d4 S a) ∧ (X ++ va_pl S.L (wPF cyI cyZ cyO1ad9c cyO4b0d4 S))[k]? = some (a, .inl (cyI, S.R_I.len a, .inl (S.R_I.row a))) := by
  obtain ⟨k, hk⟩ := va_pl_get (X := X) (f := wPF cyI cyZ cyO1ad9c cyO4b0d4 S) hL
  exact ⟨k, hk, hk.trans (congrArg (fun e => some (a, e)) (wAt_R_I cyI cyZ cyO1ad9c cyO4b0d4 S h))⟩
theorem wSt_R_I_row (cyI : ClassId) (cyZ : ClassId) (cyO1ad9c : ClassId) (cyO4b0d4 : ClassId) (S : wPS) {a : Nat} (h : S.K a = 4) (v : Nat → Int32) (b : Nat) : va_up (wPF cyI cyZ cyO1ad9c cyO4b0d4 S) a (.inl (cyI, S.R_I.len a, .inl v)) b = wPF cyI cyZ cyO1ad9c cyO4b0d4 { S with R_I := { S.R_I with row := va_up S.R_I.row a v } } b := by by_cases hb : b = a <;> first | (simp only [wPF, va_up_ne _ _ hb]; done) | (simp only [wPF, va_up, if_neg hb]; done) | simp [wPF, va_re, va_up, va_rf, hb, h]
theorem wPu_R_I_row (cyI : ClassId) (cyZ : ClassId) (cyO1ad9c : ClassId) (cyO4b0d4 : ClassId) (X : va_W) (S : wPS) {A : Nat → Prop} {a k : Nat} (hD : va_D A (X ++ va_pl S.L (wPF cyI cyZ cyO1ad9c cyO4b0d4 S))) (hL : a ∈ S.L) (h : S.K a = 4) (hk : (X ++ va_pl S.L (wPF cyI cyZ cyO1ad9c cyO4b0d4 S))[k]? = some (a, wPF cyI cyZ cyO1ad9c cyO4b0d4 S a)) (v : Nat → Int32) : (X ++ va_pl S.L (wPF cyI cyZ cyO1ad9c cyO4b0d4 S)).set k (a, .inl (cyI, S.R_I.len a, .inl v)) = X ++ va_pl S.L (wPF cyI cyZ cyO1ad9c cyO4b0d4 { S with R_I := { S.R_I with row := va_up S.R_I.row a v } }) := by
  rw [va_pl_set hD hL hk]
  exact congrArg (fun l => X ++ l) (va_pl_congr (wSt_R_I_row cyI cyZ cyO1ad9c cyO4b0d4 S h v))
theorem wNw_R_I (cyI : ClassId) (cyZ : ClassId) (cyO1ad9c : ClassId) (cyO4b0d4 : ClassId) (S : wPS) (a : Nat) (z : Nat) (f : Nat → Int32) (b : Nat) : va_up (wPF cyI cyZ cyO1ad9c cyO4b0d4 S) a (.inl (cyI, z, .inl f)) b = wPF cyI cyZ cyO1ad9c cyO4b0d4 { S with L := S.L ++ [a], K := va_up S.K a 4, R_I := { len := va_up S.R_I.len a z, row := va_up S.R_I.row a f } } b := by by_cases hb : b = a <;> first | (simp only [wPF, va_up_ne _ _ hb]; done) | (simp only [wPF, va_up, if_neg hb]; done) | simp [wPF, va_re, va_up, va_rf, hb]
theorem wAt_R_Z (cyI : ClassId) (cyZ : ClassId) (cyO1ad9c : ClassId) (cyO4b0d4 : ClassId) (S : wPS) {a : Nat} (h : S.K a = 5) : wPF cyI cyZ cyO1ad9c cyO4b0d4 S a = .inl (cyZ, S.R_Z.len a, .inl (S.R_Z.row a)) := by simp [wPF, h]
theorem wGt_R_Z (cyI : ClassId) (cyZ : ClassId) (cyO1ad9c : ClassId) (cyO4b0d4 : ClassId) (X : va_W) (S : wPS) {a : Nat} (hL : a ∈ S.L) (h : S.K a = 5) : ∃ k : Nat, (X ++ va_pl S.L (wPF cyI cyZ cyO1ad9c cyO4b0d4 S))[k]? = some (a, wPF cyI cyZ cyO1ad9c cyO4b0d4 S a) ∧ (X ++ va_pl S.L (wPF cyI cyZ cyO1ad9c cyO4b0d4 S))[k]? = some (a, .inl (cyZ, S.R_Z.len a, .inl (S.R_Z.row a))) := by
  obtain ⟨k, hk⟩ := va_pl_get (X := X) (f := wPF cyI cyZ cyO1ad9c cyO4b0d4 S) hL
  exact ⟨k, hk, hk.trans (congrArg (fun e => some (a, e)) (wAt_R_Z cyI cyZ cyO1ad9c cyO4b0d4 S h))⟩
theorem wSt_R_Z_row (cyI : ClassId) (cyZ : ClassId) (cyO1ad9c : ClassId) (cyO4b0d4 : ClassId) (S : wPS) {a : Nat} (h : S.K a = 5) (v : Nat → Int32) (b : Nat) : va_up (wPF cyI cyZ cyO1ad9c cyO4b0d4 S) a (.inl (cyZ, S.R_Z.len a, .inl v)) b = wPF cyI cyZ cyO1ad9c cyO4b0d4 { S with R_Z := { S.R_Z with row := va_up S.R_Z.row a v } } b := by by_cases hb : b = a <;> first | (simp only [wPF, va_up_ne _ _ hb]; done) | (simp only [wPF, va_up, if_neg hb]; done) | simp [wPF, va_re, va_up, va_rf, hb, h]
theorem wPu_R_Z_row (cyI : ClassId) (cyZ : ClassId) (cyO1ad9c : ClassId) (cyO4b0d4 : ClassId) (X : va_W) (S : wPS) {A : Nat → Prop} {a k : Nat} (hD : va_D A (X ++ va_pl S.L (wPF cyI cyZ cyO1ad9c cyO4b0d4 S))) (hL : a ∈ S.L) (h : S.K a = 5) (hk : (X ++ va_pl S.L (wPF cyI cyZ cyO1ad9c cyO4b0d4 S))[k]? = some (a, wPF cyI cyZ cyO1ad9c cyO4b0d4 S a)) (v : Nat → Int32) : (X ++ va_pl S.L (wPF cyI cyZ cyO1ad9c cyO4b0d4 S)).set k (a, .inl (cyZ, S.R_Z.len a, .inl v)) = X ++ va_pl S.L (wPF cyI cyZ cyO1ad9c cyO4b0d4 { S with R_Z := { S.R_Z with row := va_up S.R_Z.row a v } }) := by
  rw [va_pl_set hD hL hk]
  exact congrArg (fun l => X ++ l) (va_pl_congr (wSt_R_Z_row cyI cyZ cyO1ad9c cyO4b0d4 S h v))
theorem wNw_R_Z (cyI : ClassId) (cyZ : ClassId) (cyO1ad9c : ClassId) (cyO4b0d4 : ClassId) (S : wPS) (a : Nat) (z : Nat) (f : Nat → Int32) (b : Nat) : va_up (wPF cyI cyZ cyO1ad9c cyO4b0d4 S) a (.inl (cyZ, z, .inl f)) b = wPF cyI cyZ cyO1ad9c cyO4b0d4 { S with L := S.L ++ [a], K := va_up S.K a 5, R_Z := { len := va_up S.R_Z.len a z, row := va_up S.R_Z.row a f } } b := by by_cases hb : b = a <;> first | (simp only [wPF, va_up_ne _ _ hb]; done) | (simp only [wPF, va_up, if_neg hb]; done) | simp [wPF, va_re, va_up, va_rf, hb]
theorem wAt_R_Level (cyI : ClassId) (cyZ : ClassId) (cyO1ad9c : ClassId) (cyO4b0d4 : ClassId) (S : wPS) {a : Nat} (h : S.K a = 6) : wPF cyI cyZ cyO1ad9c cyO4b0d4 S a = .inl (cyO1ad9c, S.R_Level.len a, .inr (.inr (.inr (.inr (S.R_Level.row a))))) := by simp [wPF, h]
theorem wGt_R_Level (cyI : ClassId) (cyZ : ClassId) (cyO1ad9c : ClassId) (cyO4b0d4 : ClassId) (X : va_W) (S : wPS) {a : Nat} (hL : a ∈ S.L) (h : S.K a = 6) : ∃ k : Nat, (X ++ va_pl S.L (wPF cyI cyZ cyO1ad9c cyO4b0d4 S))[k]? = some (a, wPF cyI cyZ cyO1ad9c cyO4b0d4 S a) ∧ (X ++ va_pl S.L (wPF cyI cyZ cyO1ad9c cyO4b0d4 S))[k]? = some (a, .inl (cyO1ad9c, S.R_Level.len a, .inr (.inr (.inr (.inr (S.R_Level.row a)))))) := by
  obtain ⟨k, hk⟩ := va_pl_get (X := X) (f := wPF cyI cyZ cyO1ad9c cyO4b0d4 S) hL
  exact ⟨k, hk, hk.trans (congrArg (fun e => some (a, e)) (wAt_R_Level cyI cyZ cyO1ad9c cyO4b0d4 S h))⟩
theorem wSt_R_Level_row (cyI : ClassId) (cyZ : ClassId) (cyO1ad9c : ClassId) (cyO4b0d4 : ClassId) (S : wPS) {a : Nat} (h : S.K a = 6) (v : Nat → Option Nat) (b : Nat) : va_up (wPF cyI cyZ cyO1ad9c cyO4b0d4 S) a (.inl (cyO1ad9c, S.R_Level.len a, .inr (.inr (.inr (.inr v))))) b = wPF cyI cyZ cyO1ad9c cyO4b0d4 { S with R_Level := { S.R_Level with row := va_up S.R_Level.row a v } } b := by by_cases hb : b = a <;> first | (simp only [wPF, va_up_ne _ _ hb]; done) | (simp only [wPF, va_up, if_neg hb]; done) | simp [wPF, va_re, va_up, va_rf, hb, h]
theorem wPu_R_Level_row (cyI : ClassId) (cyZ : ClassId) (cyO1ad9c : ClassId) (cyO4b0d4 : ClassId) (X : va_W) (S : wPS) {A : Nat → Prop} {a k : Nat} (hD : va_D A (X ++ va_pl S.L (wPF cyI cyZ cyO1ad9c cyO4b0d4 S))) (hL : a ∈ S.L) (h : S.K a = 6) (hk : (X ++ va_pl S.L (wPF cyI cyZ cyO1ad9c cyO4b0d4 S))[k]? = some (a, wPF cyI cyZ cyO1ad9c cyO4b0d4 S a)) (v : Nat → Option Nat) : (X ++ va_pl S.L (wPF cyI cyZ cyO1ad9c cyO4b0d4 S)).set k (a, .inl (cyO1ad9c, S.R_Level.len a, .inr (.inr (.inr (.inr v))))) = X ++ va_pl S.L (wPF cyI cyZ cyO1ad9c cyO4b0d4 { S with R_Level := { S.R_Level with row := va_up S.R_Level.row a v } }) := by
  rw [va_pl_set hD hL hk]
  exact congrArg (fun l => X ++ l) (va_pl_congr (wSt_R_Level_row cyI cyZ cyO1ad9c cyO4b0d4 S h v))
theorem wNw_R_Level (cyI : ClassId) (cyZ : ClassId) (cyO1ad9c : ClassId) (cyO4b0d4 : ClassId) (S : wPS) (a : Nat) (z : Nat) (f : Nat → Option Nat) (b : Nat) : va_up (wPF cyI cyZ cyO1ad9c cyO4b0d4 S) a (.inl (cyO1ad9c, z, .inr (.inr (.inr (.inr f))))) b = wPF cyI cyZ cyO1ad9c cyO4b0d4 { S with L := S.L ++ [a], K := va_up S.K a 6, R_Level := { len := va_up S.R_Level.len a z, row := va_up S.R_Level.row a f } } b := by by_cases hb : b = a <;> first | (simp only [wPF, va_up_ne _ _ hb]; done) | (simp only [wPF, va_up, if_neg hb]; done) | simp [wPF, va_re, va_up, va_rf, hb]
theorem wAt_R_Task (cyI : ClassId) (cyZ : ClassId) (cyO1ad9c : ClassId) (cyO4b0d4 : ClassId) (S : wPS) {a : Nat} (h : S.K a = 7) : wPF cyI cyZ cyO1ad9c cyO4b0d4 S a = .inl (cyO4b0d4, S.R_Task.len a, .inr (.inr (.inr (.inr (S.R_Task.row a))))) := by simp [wPF, h]
theorem wGt_R_Task (cyI : ClassId) (cyZ : ClassId) (cyO1ad9c : ClassId) (cyO4b0d4 : ClassId) (X : va_W) (S : wPS) {a : Nat} (hL : a ∈ S.L) (h : S.K a = 7) : ∃ k : Nat, (X ++ va_pl S.L (wPF cyI cyZ cyO1ad9c cyO4b0d4 S))[k]? = some (a, wPF cyI cyZ cyO1ad9c cyO4b0d4 S a) ∧ (X ++ va_pl S.L (wPF cyI cyZ cyO1ad9c cyO4b0d4 S))[k]? = some (a, .inl (cyO4b0d4, S.R_Task.len a, .inr (.inr (.inr (.inr (S.R_Task.row a)))))) := by
  obtain ⟨k, hk⟩ := va_pl_get (X := X) (f := wPF cyI cyZ cyO1ad9c cyO4b0d4 S) hL
  exact ⟨k, hk, hk.trans (congrArg (fun e => some (a, e)) (wAt_R_Task cyI cyZ cyO1ad9c cyO4b0d4 S h))⟩
theorem wSt_R_Task_row (cyI : ClassId) (cyZ : ClassId) (cyO1ad9c : ClassId) (cyO4b0d4 : ClassId) (S : wPS) {a : Nat} (h : S.K a = 7) (v : Nat → Option Nat) (b : Nat) : va_up (wPF cyI cyZ cyO1ad9c cyO4b0d4 S) a (.inl (cyO4b0d4, S.R_Task.len a, .inr (.inr (.inr (.inr v))))) b = wPF cyI cyZ cyO1ad9c cyO4b0d4 { S with R_Task := { S.R_Task with row := va_up S.R_Task.row a v } } b := by by_cases hb : b = a <;> first | (simp only [wPF, va_up_ne _ _ hb]; done) | (simp only [wPF, va_up, if_neg hb]; done) | simp [wPF, va_re, va_up, va_rf, hb, h]
theorem wPu_R_Task_row (cyI : ClassId) (cyZ : ClassId) (cyO1ad9c : ClassId) (cyO4b0d4 : ClassId) (X : va_W) (S : wPS) {A : Nat → Prop} {a k : Nat} (hD : va_D A (X ++ va_pl S.L (wPF cyI cyZ cyO1ad9c cyO4b0d4 S))) (hL : a ∈ S.L) (h : S.K a = 7) (hk : (X ++ va_pl S.L (wPF cyI cyZ cyO1ad9c cyO4b0d4 S))[k]? = some (a, wPF cyI cyZ cyO1ad9c cyO4b0d4 S a)) (v : Nat → Option Nat) : (X ++ va_pl S.L (wPF cyI cyZ cyO1ad9c cyO4b0d4 S)).set k (a, .inl (cyO4b0d4, S.R_Task.len a, .inr (.inr (.inr (.inr v))))) = X ++ va_pl S.L (wPF cyI cyZ cyO1ad9c cyO4b0d4 { S with R_Task := { S.R_Task with row := va_up S.R_Task.row a v } }) := by
  rw [va_pl_set hD hL hk]
  exact congrArg (fun l => X ++ l) (va_pl_congr (wSt_R_Task_row cyI cyZ cyO1ad9c cyO4b0d4 S h v))
theorem wNw_R_Task (cyI : ClassId) (cyZ : ClassId) (cyO1ad9c : ClassId) (cyO4b0d4 : ClassId) (S : wPS) (a : Nat) (z : Nat) (f : Nat → Option Nat) (b : Nat) : va_up (wPF cyI cyZ cyO1ad9c cyO4b0d4 S) a (.inl (cyO4b0d4, z, .inr (.inr (.inr (.inr f))))) b = wPF cyI cyZ cyO1ad9c cyO4b0d4 { S with L := S.L ++ [a], K := va_up S.K a 7, R_Task := { len := va_up S.R_Task.len a z, row := va_up S.R_Task.row a f } } b := by by_cases hb : b = a <;> first | (simp only [wPF, va_up_ne _ _ hb]; done) | (simp only [wPF, va_up, if_neg hb]; done) | simp [wPF, va_re, va_up, va_rf, hb]
/-! ===== END printed: names ===== -/
end
section
/-! A world of n cells: cell k, at the address ad k, holds E k -/
def gw (n : Nat) (ad : Nat → Nat) (E : Nat → va_E) : va_W := (List.range n).map (fun k => (ad k, E k))
theorem gw_get {n : Nat} {ad : Nat → Nat} {E : Nat → va_E} {k : Nat} (h : k < n) : (gw n ad E)[k]? = some (ad k, E k) := by
  simp [gw, h]
theorem gw_some {n : Nat} {ad : Nat → Nat} {E : Nat → va_E} {k : Nat} {q : Nat × va_E} (h : (gw n ad E)[k]? = some q) : k < n ∧ q = (ad k, E k) := by
  by_cases hk : k < n
  · rw [gw_get hk] at h
    exact ⟨hk, (Option.some.inj h).symm⟩
  · simp [gw, hk] at h
    omega
theorem gw_len (n : Nat) (ad : Nat → Nat) (E : Nat → va_E) : (gw n ad E).length = n := by simp [gw]
theorem gw_set {n : Nat} {ad : Nat → Nat} {E : Nat → va_E} (k : Nat) (e : va_E) : (gw n ad E).set k (ad k, e) = gw n ad (va_up E k e) := by
  apply List.ext_getElem?
  intro j
  by_cases hj : j < n
  · by_cases hjk : j = k
    · subst hjk
      rw [gw_get hj, List.getElem?_set_self (by rw [gw_len]; exact hj)]
      simp [va_up]
    · rw [gw_get hj, List.getElem?_set_ne (fun h => hjk h.symm), gw_get hj]
      simp [va_up, hjk]
  · rw [List.getElem?_eq_none (by rw [List.length_set, gw_len]; omega), List.getElem?_eq_none (by rw [gw_len]; omega)]
theorem gw_push {n : Nat} {ad : Nat → Nat} {E : Nat → va_E} (q : Nat) (e : va_E) : gw n ad E ++ [(q, e)] = gw (n + 1) (va_up ad n q) (va_up E n e) := by
  unfold gw
  rw [List.range_succ, List.map_append]
  congr 1
  · apply List.map_congr_left
    intro k hk
    have : k ≠ n := by have := List.mem_range.mp hk; omega
    simp [va_up, this]
  · simp [va_up]
/-- apart, and of a kind -/
def gw_ap (n : Nat) (ad : Nat → Nat) (A : Nat → Prop) : Prop := (∀ i j, i < n → j < n → ad i = ad j → i = j) ∧ ∀ k, k < n → A (ad k)
theorem gw_D {n : Nat} {ad : Nat → Nat} {A : Nat → Prop} (h : gw_ap n ad A) (E : Nat → va_E) : va_D A (gw n ad E) := by
  refine ⟨fun i j p q hi hj e => ?_, fun k q hk => ?_⟩
  · obtain ⟨h1, rfl⟩ := gw_some hi
    obtain ⟨h2, rfl⟩ := gw_some hj
    exact h.1 i j h1 h2 e
  · obtain ⟨h1, rfl⟩ := gw_some hk
    exact h.2 k h1
theorem gw_Dof {n : Nat} {ad : Nat → Nat} {A : Nat → Prop} {E : Nat → va_E} (h : va_D A (gw n ad E)) : gw_ap n ad A :=
  ⟨fun i j hi hj e => h.1 i j _ _ (gw_get hi) (gw_get hj) e, fun k hk => h.2 k _ (gw_get hk)⟩
/-- which cells a method over this world may change -/
def gA (n : Nat) (ad : Nat → Nat) (sz : Nat) : Nat → Prop := fun q => (∃ k, k < n ∧ q = ad k) ∨ sz ≤ q
theorem gA_in {n : Nat} {ad : Nat → Nat} {sz k : Nat} (h : k < n) : gA n ad sz (ad k) := Or.inl ⟨k, h, rfl⟩
theorem gw_self {n : Nat} {ad : Nat → Nat} {A : Nat → Prop} {sz : Nat} (h : gw_ap n ad A) : gw_ap n ad (gA n ad sz) := ⟨h.1, fun _ hk => gA_in hk⟩
theorem gA_free {n : Nat} {ad : Nat → Nat} {A : Nat → Prop} {H0 H : Heap} {locs : List Loc} (h : gw_ap n ad A) (hS : va_S A H0 H locs) (hA : ∀ q, H0.size ≤ q → A q) : ∀ q, gA n ad H.size q → A q := by
  intro q hq
  rcases hq with ⟨k, hk, rfl⟩ | hq
  · exact h.2 k hk
  · exact hA q (Nat.le_trans hS.1 hq)
/-- an index: k is its number -/
def ix (x : Int32) (k n : Nat) : Prop := ¬ x < 0 ∧ x.toNatClampNeg = k ∧ k < n
theorem ix.vp {x : Int32} {k n : Nat} (h : ix x k n) : vp_in x n := by
  obtain ⟨h0, h1, h2⟩ := h
  intro q
  rcases q with q | q
  · exact h0 q
  · omega
theorem ix_nI {k n : Nat} (h : k < n) (hn : n < 2 ^ 31) : ix (nI k) k n := ⟨nI_pos (by omega), nI_clamp (by omega), h⟩
theorem ix_lit {x : Int32} {k n : Nat} (hx : x = nI k) (h : k < n) (hn : n < 2 ^ 31) : ix x k n := by rw [hx]; exact ix_nI h hn
theorem ix.nI {x : Int32} {k n : Nat} (h : ix x k n) : x = nI k := by
  obtain ⟨h0, h1, h2⟩ := h
  obtain ⟨j, hj, rfl⟩ := nI_of h0
  rw [nI_clamp hj] at h1
  rw [h1]
end
