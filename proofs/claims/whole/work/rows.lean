section
-- ===== PART A: goes FIRST, ahead of the names: the tables' words, and 'selects' of the private methods out of them =====
/-- a private method of a class that the tables say can be made, by its rows of tables_1 -/
def lw_okq (q : MethodName × Nat) : Prop := (q.1.cls ≠ "java/lang/invoke/MethodHandle" ∧ q.1.cls ≠ "java/lang/invoke/VarHandle") ∧ Cond.instantiable q.1.cls q.2 ∈ tables_1 ∧ Cond.privateMethod q.1 ∈ tables_1 ∧ Cond.instanceMethod q.1 ∈ tables_1
theorem lw_p0 : lw_okq (⟨"FeedbackQueues", "startOver", "()V"⟩, 12) := ⟨⟨by decide +kernel, by decide +kernel⟩, List.mem_of_getElem? (i := 13) (by decide +kernel), List.mem_of_getElem? (i := 167) (by decide +kernel), List.mem_of_getElem? (i := 168) (by decide +kernel)⟩
theorem lw_p1 : lw_okq (⟨"FeedbackQueues$Level", "clear", "()V"⟩, 4) := ⟨⟨by decide +kernel, by decide +kernel⟩, List.mem_of_getElem? (i := 24) (by decide +kernel), List.mem_of_getElem? (i := 171) (by decide +kernel), List.mem_of_getElem? (i := 172) (by decide +kernel)⟩
theorem lw_p2 : lw_okq (⟨"FeedbackQueues$Task", "startOver", "()V"⟩, 19) := ⟨⟨by decide +kernel, by decide +kernel⟩, List.mem_of_getElem? (i := 46) (by decide +kernel), List.mem_of_getElem? (i := 175) (by decide +kernel), List.mem_of_getElem? (i := 176) (by decide +kernel)⟩
theorem lw_p3 : lw_okq (⟨"java/lang/Throwable", "fillInStackTrace", "(I)Ljava/lang/Throwable;"⟩, 6) := ⟨⟨by decide +kernel, by decide +kernel⟩, List.mem_of_getElem? (i := 233) (by decide +kernel), List.mem_of_getElem? (i := 231) (by decide +kernel), List.mem_of_getElem? (i := 232) (by decide +kernel)⟩
theorem lw_p4 : lw_okq (⟨"FeedbackQueues", "isLevel", "(I)Z"⟩, 12) := ⟨⟨by decide +kernel, by decide +kernel⟩, List.mem_of_getElem? (i := 13) (by decide +kernel), List.mem_of_getElem? (i := 272) (by decide +kernel), List.mem_of_getElem? (i := 273) (by decide +kernel)⟩
theorem lw_p5 : lw_okq (⟨"FeedbackQueues$Task", "tellArrival", "(I)V"⟩, 19) := ⟨⟨by decide +kernel, by decide +kernel⟩, List.mem_of_getElem? (i := 46) (by decide +kernel), List.mem_of_getElem? (i := 326) (by decide +kernel), List.mem_of_getElem? (i := 327) (by decide +kernel)⟩
theorem lw_p6 : lw_okq (⟨"FeedbackQueues", "isTask", "(I)Z"⟩, 12) := ⟨⟨by decide +kernel, by decide +kernel⟩, List.mem_of_getElem? (i := 13) (by decide +kernel), List.mem_of_getElem? (i := 337) (by decide +kernel), List.mem_of_getElem? (i := 338) (by decide +kernel)⟩
theorem lw_p7 : lw_okq (⟨"FeedbackQueues$Task", "tellBurst", "(I)I"⟩, 19) := ⟨⟨by decide +kernel, by decide +kernel⟩, List.mem_of_getElem? (i := 46) (by decide +kernel), List.mem_of_getElem? (i := 343) (by decide +kernel), List.mem_of_getElem? (i := 344) (by decide +kernel)⟩
theorem lw_p8 : lw_okq (⟨"FeedbackQueues", "doTick", "()V"⟩, 12) := ⟨⟨by decide +kernel, by decide +kernel⟩, List.mem_of_getElem? (i := 13) (by decide +kernel), List.mem_of_getElem? (i := 357) (by decide +kernel), List.mem_of_getElem? (i := 358) (by decide +kernel)⟩
theorem lw_p9 : lw_okq (⟨"FeedbackQueues", "bringAllUp", "()V"⟩, 12) := ⟨⟨by decide +kernel, by decide +kernel⟩, List.mem_of_getElem? (i := 13) (by decide +kernel), List.mem_of_getElem? (i := 361) (by decide +kernel), List.mem_of_getElem? (i := 362) (by decide +kernel)⟩
theorem lw_p10 : lw_okq (⟨"FeedbackQueues$Task", "comeUp", "(II)V"⟩, 19) := ⟨⟨by decide +kernel, by decide +kernel⟩, List.mem_of_getElem? (i := 46) (by decide +kernel), List.mem_of_getElem? (i := 365) (by decide +kernel), List.mem_of_getElem? (i := 366) (by decide +kernel)⟩
theorem lw_p11 : lw_okq (⟨"FeedbackQueues$Level", "addAllOf", "(LFeedbackQueues$Level;)V"⟩, 4) := ⟨⟨by decide +kernel, by decide +kernel⟩, List.mem_of_getElem? (i := 24) (by decide +kernel), List.mem_of_getElem? (i := 372) (by decide +kernel), List.mem_of_getElem? (i := 373) (by decide +kernel)⟩
theorem lw_p12 : lw_okq (⟨"FeedbackQueues$Level", "addLast", "(I)V"⟩, 4) := ⟨⟨by decide +kernel, by decide +kernel⟩, List.mem_of_getElem? (i := 24) (by decide +kernel), List.mem_of_getElem? (i := 376) (by decide +kernel), List.mem_of_getElem? (i := 377) (by decide +kernel)⟩
theorem lw_p13 : lw_okq (⟨"FeedbackQueues", "letArrive", "()V"⟩, 12) := ⟨⟨by decide +kernel, by decide +kernel⟩, List.mem_of_getElem? (i := 13) (by decide +kernel), List.mem_of_getElem? (i := 380) (by decide +kernel), List.mem_of_getElem? (i := 381) (by decide +kernel)⟩
theorem lw_p14 : lw_okq (⟨"FeedbackQueues", "goOnOrEnd", "(LFeedbackQueues$Task;)V"⟩, 12) := ⟨⟨by decide +kernel, by decide +kernel⟩, List.mem_of_getElem? (i := 13) (by decide +kernel), List.mem_of_getElem? (i := 384) (by decide +kernel), List.mem_of_getElem? (i := 385) (by decide +kernel)⟩
theorem lw_p15 : lw_okq (⟨"FeedbackQueues$Task", "beginBurst", "()Z"⟩, 19) := ⟨⟨by decide +kernel, by decide +kernel⟩, List.mem_of_getElem? (i := 46) (by decide +kernel), List.mem_of_getElem? (i := 388) (by decide +kernel), List.mem_of_getElem? (i := 389) (by decide +kernel)⟩
def lw_privs_1 : List (MethodName × Nat) := [(⟨"FeedbackQueues", "startOver", "()V"⟩, 12), (⟨"FeedbackQueues$Level", "clear", "()V"⟩, 4), (⟨"FeedbackQueues$Task", "startOver", "()V"⟩, 19), (⟨"java/lang/Throwable", "fillInStackTrace", "(I)Ljava/lang/Throwable;"⟩, 6), (⟨"FeedbackQueues", "isLevel", "(I)Z"⟩, 12), (⟨"FeedbackQueues$Task", "tellArrival", "(I)V"⟩, 19), (⟨"FeedbackQueues", "isTask", "(I)Z"⟩, 12), (⟨"FeedbackQueues$Task", "tellBurst", "(I)I"⟩, 19), (⟨"FeedbackQueues", "doTick", "()V"⟩, 12), (⟨"FeedbackQueues", "bringAllUp", "()V"⟩, 12), (⟨"FeedbackQueues$Task", "comeUp", "(II)V"⟩, 19), (⟨"FeedbackQueues$Level", "addAllOf", "(LFeedbackQueues$Level;)V"⟩, 4), (⟨"FeedbackQueues$Level", "addLast", "(I)V"⟩, 4), (⟨"FeedbackQueues", "letArrive", "()V"⟩, 12), (⟨"FeedbackQueues", "goOnOrEnd", "(LFeedbackQueues$Task;)V"⟩, 12), (⟨"FeedbackQueues$Task", "beginBurst", "()Z"⟩, 19)]
theorem lw_r1 : ∀ q ∈ lw_privs_1, lw_okq q := List.forall_mem_cons.mpr ⟨lw_p0, List.forall_mem_cons.mpr ⟨lw_p1, List.forall_mem_cons.mpr ⟨lw_p2, List.forall_mem_cons.mpr ⟨lw_p3, List.forall_mem_cons.mpr ⟨lw_p4, List.forall_mem_cons.mpr ⟨lw_p5, List.forall_mem_cons.mpr ⟨lw_p6, List.forall_mem_cons.mpr ⟨lw_p7, List.forall_mem_cons.mpr ⟨lw_p8, List.forall_mem_cons.mpr ⟨lw_p9, List.forall_mem_cons.mpr ⟨lw_p10, List.forall_mem_cons.mpr ⟨lw_p11, List.forall_mem_cons.mpr ⟨lw_p12, List.forall_mem_cons.mpr ⟨lw_p13, List.forall_mem_cons.mpr ⟨lw_p14, List.forall_mem_cons.mpr ⟨lw_p15, fun _ h => absurd h List.not_mem_nil⟩⟩⟩⟩⟩⟩⟩⟩⟩⟩⟩⟩⟩⟩⟩⟩
theorem lw_p16 : lw_okq (⟨"FeedbackQueues", "standAtEnd", "(LFeedbackQueues$Task;)V"⟩, 12) := ⟨⟨by decide +kernel, by decide +kernel⟩, List.mem_of_getElem? (i := 13) (by decide +kernel), List.mem_of_getElem? (i := 392) (by decide +kernel), List.mem_of_getElem? (i := 393) (by decide +kernel)⟩
theorem lw_p17 : lw_okq (⟨"FeedbackQueues", "endTask", "(LFeedbackQueues$Task;I)V"⟩, 12) := ⟨⟨by decide +kernel, by decide +kernel⟩, List.mem_of_getElem? (i := 13) (by decide +kernel), List.mem_of_getElem? (i := 397) (by decide +kernel), List.mem_of_getElem? (i := 398) (by decide +kernel)⟩
theorem lw_p18 : lw_okq (⟨"FeedbackQueues", "letComeBack", "()V"⟩, 12) := ⟨⟨by decide +kernel, by decide +kernel⟩, List.mem_of_getElem? (i := 13) (by decide +kernel), List.mem_of_getElem? (i := 401) (by decide +kernel), List.mem_of_getElem? (i := 402) (by decide +kernel)⟩
theorem lw_p19 : lw_okq (⟨"FeedbackQueues", "makeWay", "()V"⟩, 12) := ⟨⟨by decide +kernel, by decide +kernel⟩, List.mem_of_getElem? (i := 13) (by decide +kernel), List.mem_of_getElem? (i := 405) (by decide +kernel), List.mem_of_getElem? (i := 406) (by decide +kernel)⟩
theorem lw_p20 : lw_okq (⟨"FeedbackQueues", "isOneReadyAbove", "(I)Z"⟩, 12) := ⟨⟨by decide +kernel, by decide +kernel⟩, List.mem_of_getElem? (i := 13) (by decide +kernel), List.mem_of_getElem? (i := 409) (by decide +kernel), List.mem_of_getElem? (i := 410) (by decide +kernel)⟩
theorem lw_p21 : lw_okq (⟨"FeedbackQueues$Level", "addFirst", "(I)V"⟩, 4) := ⟨⟨by decide +kernel, by decide +kernel⟩, List.mem_of_getElem? (i := 24) (by decide +kernel), List.mem_of_getElem? (i := 413) (by decide +kernel), List.mem_of_getElem? (i := 414) (by decide +kernel)⟩
theorem lw_p22 : lw_okq (⟨"FeedbackQueues", "switchToFirst", "()V"⟩, 12) := ⟨⟨by decide +kernel, by decide +kernel⟩, List.mem_of_getElem? (i := 13) (by decide +kernel), List.mem_of_getElem? (i := 417) (by decide +kernel), List.mem_of_getElem? (i := 418) (by decide +kernel)⟩
theorem lw_p23 : lw_okq (⟨"FeedbackQueues$Level", "takeFirst", "()I"⟩, 4) := ⟨⟨by decide +kernel, by decide +kernel⟩, List.mem_of_getElem? (i := 24) (by decide +kernel), List.mem_of_getElem? (i := 421) (by decide +kernel), List.mem_of_getElem? (i := 422) (by decide +kernel)⟩
theorem lw_p24 : lw_okq (⟨"FeedbackQueues", "switchTo", "(LFeedbackQueues$Task;)V"⟩, 12) := ⟨⟨by decide +kernel, by decide +kernel⟩, List.mem_of_getElem? (i := 13) (by decide +kernel), List.mem_of_getElem? (i := 425) (by decide +kernel), List.mem_of_getElem? (i := 426) (by decide +kernel)⟩
theorem lw_p25 : lw_okq (⟨"FeedbackQueues$Task", "beginRunning", "(II)V"⟩, 19) := ⟨⟨by decide +kernel, by decide +kernel⟩, List.mem_of_getElem? (i := 46) (by decide +kernel), List.mem_of_getElem? (i := 429) (by decide +kernel), List.mem_of_getElem? (i := 430) (by decide +kernel)⟩
theorem lw_p26 : lw_okq (⟨"FeedbackQueues", "countWaiting", "()V"⟩, 12) := ⟨⟨by decide +kernel, by decide +kernel⟩, List.mem_of_getElem? (i := 13) (by decide +kernel), List.mem_of_getElem? (i := 433) (by decide +kernel), List.mem_of_getElem? (i := 434) (by decide +kernel)⟩
theorem lw_p27 : lw_okq (⟨"FeedbackQueues", "useTick", "(LFeedbackQueues$Task;)V"⟩, 12) := ⟨⟨by decide +kernel, by decide +kernel⟩, List.mem_of_getElem? (i := 13) (by decide +kernel), List.mem_of_getElem? (i := 437) (by decide +kernel), List.mem_of_getElem? (i := 438) (by decide +kernel)⟩
theorem lw_p28 : lw_okq (⟨"FeedbackQueues", "blockOrEnd", "(LFeedbackQueues$Task;)V"⟩, 12) := ⟨⟨by decide +kernel, by decide +kernel⟩, List.mem_of_getElem? (i := 13) (by decide +kernel), List.mem_of_getElem? (i := 441) (by decide +kernel), List.mem_of_getElem? (i := 442) (by decide +kernel)⟩
theorem lw_p29 : lw_okq (⟨"FeedbackQueues", "sendDown", "(LFeedbackQueues$Task;)V"⟩, 12) := ⟨⟨by decide +kernel, by decide +kernel⟩, List.mem_of_getElem? (i := 13) (by decide +kernel), List.mem_of_getElem? (i := 445) (by decide +kernel), List.mem_of_getElem? (i := 446) (by decide +kernel)⟩
theorem lw_p30 : lw_okq (⟨"FeedbackQueues$Level", "at", "(I)I"⟩, 4) := ⟨⟨by decide +kernel, by decide +kernel⟩, List.mem_of_getElem? (i := 24) (by decide +kernel), List.mem_of_getElem? (i := 464) (by decide +kernel), List.mem_of_getElem? (i := 465) (by decide +kernel)⟩
theorem lw_p31 : lw_okq (⟨"FeedbackQueuesModel", "set", "(I)V"⟩, 24) := ⟨⟨by decide +kernel, by decide +kernel⟩, List.mem_of_getElem? (i := 484) (by decide +kernel), List.mem_of_getElem? (i := 490) (by decide +kernel), List.mem_of_getElem? (i := 491) (by decide +kernel)⟩
def lw_privs_2 : List (MethodName × Nat) := [(⟨"FeedbackQueues", "standAtEnd", "(LFeedbackQueues$Task;)V"⟩, 12), (⟨"FeedbackQueues", "endTask", "(LFeedbackQueues$Task;I)V"⟩, 12), (⟨"FeedbackQueues", "letComeBack", "()V"⟩, 12), (⟨"FeedbackQueues", "makeWay", "()V"⟩, 12), (⟨"FeedbackQueues", "isOneReadyAbove", "(I)Z"⟩, 12), (⟨"FeedbackQueues$Level", "addFirst", "(I)V"⟩, 4), (⟨"FeedbackQueues", "switchToFirst", "()V"⟩, 12), (⟨"FeedbackQueues$Level", "takeFirst", "()I"⟩, 4), (⟨"FeedbackQueues", "switchTo", "(LFeedbackQueues$Task;)V"⟩, 12), (⟨"FeedbackQueues$Task", "beginRunning", "(II)V"⟩, 19), (⟨"FeedbackQueues", "countWaiting", "()V"⟩, 12), (⟨"FeedbackQueues", "useTick", "(LFeedbackQueues$Task;)V"⟩, 12), (⟨"FeedbackQueues", "blockOrEnd", "(LFeedbackQueues$Task;)V"⟩, 12), (⟨"FeedbackQueues", "sendDown", "(LFeedbackQueues$Task;)V"⟩, 12), (⟨"FeedbackQueues$Level", "at", "(I)I"⟩, 4), (⟨"FeedbackQueuesModel", "set", "(I)V"⟩, 24)]
theorem lw_r2 : ∀ q ∈ lw_privs_2, lw_okq q := List.forall_mem_cons.mpr ⟨lw_p16, List.forall_mem_cons.mpr ⟨lw_p17, List.forall_mem_cons.mpr ⟨lw_p18, List.forall_mem_cons.mpr ⟨lw_p19, List.forall_mem_cons.mpr ⟨lw_p20, List.forall_mem_cons.mpr ⟨lw_p21, List.forall_mem_cons.mpr ⟨lw_p22, List.forall_mem_cons.mpr ⟨lw_p23, List.forall_mem_cons.mpr ⟨lw_p24, List.forall_mem_cons.mpr ⟨lw_p25, List.forall_mem_cons.mpr ⟨lw_p26, List.forall_mem_cons.mpr ⟨lw_p27, List.forall_mem_cons.mpr ⟨lw_p28, List.forall_mem_cons.mpr ⟨lw_p29, List.forall_mem_cons.mpr ⟨lw_p30, List.forall_mem_cons.mpr ⟨lw_p31, fun _ h => absurd h List.not_mem_nil⟩⟩⟩⟩⟩⟩⟩⟩⟩⟩⟩⟩⟩⟩⟩⟩
theorem lw_p32 : lw_okq (⟨"FeedbackQueuesModel", "begin", "()V"⟩, 24) := ⟨⟨by decide +kernel, by decide +kernel⟩, List.mem_of_getElem? (i := 484) (by decide +kernel), List.mem_of_getElem? (i := 494) (by decide +kernel), List.mem_of_getElem? (i := 495) (by decide +kernel)⟩
theorem lw_p33 : lw_okq (⟨"FeedbackQueuesModel", "noProcess", "(I)Z"⟩, 24) := ⟨⟨by decide +kernel, by decide +kernel⟩, List.mem_of_getElem? (i := 484) (by decide +kernel), List.mem_of_getElem? (i := 596) (by decide +kernel), List.mem_of_getElem? (i := 597) (by decide +kernel)⟩
theorem lw_p34 : lw_okq (⟨"FeedbackQueuesModel", "allUp", "()V"⟩, 24) := ⟨⟨by decide +kernel, by decide +kernel⟩, List.mem_of_getElem? (i := 484) (by decide +kernel), List.mem_of_getElem? (i := 605) (by decide +kernel), List.mem_of_getElem? (i := 606) (by decide +kernel)⟩
theorem lw_p35 : lw_okq (⟨"FeedbackQueuesModel", "takeFirst", "(I)I"⟩, 24) := ⟨⟨by decide +kernel, by decide +kernel⟩, List.mem_of_getElem? (i := 484) (by decide +kernel), List.mem_of_getElem? (i := 609) (by decide +kernel), List.mem_of_getElem? (i := 610) (by decide +kernel)⟩
theorem lw_p36 : lw_okq (⟨"FeedbackQueuesModel", "toEnd", "(II)V"⟩, 24) := ⟨⟨by decide +kernel, by decide +kernel⟩, List.mem_of_getElem? (i := 484) (by decide +kernel), List.mem_of_getElem? (i := 613) (by decide +kernel), List.mem_of_getElem? (i := 614) (by decide +kernel)⟩
theorem lw_p37 : lw_okq (⟨"FeedbackQueuesModel", "come", "(I)V"⟩, 24) := ⟨⟨by decide +kernel, by decide +kernel⟩, List.mem_of_getElem? (i := 484) (by decide +kernel), List.mem_of_getElem? (i := 617) (by decide +kernel), List.mem_of_getElem? (i := 618) (by decide +kernel)⟩
theorem lw_p38 : lw_okq (⟨"FeedbackQueuesModel", "end", "(II)V"⟩, 24) := ⟨⟨by decide +kernel, by decide +kernel⟩, List.mem_of_getElem? (i := 484) (by decide +kernel), List.mem_of_getElem? (i := 621) (by decide +kernel), List.mem_of_getElem? (i := 622) (by decide +kernel)⟩
theorem lw_p39 : lw_okq (⟨"FeedbackQueuesModel", "comeBack", "(I)V"⟩, 24) := ⟨⟨by decide +kernel, by decide +kernel⟩, List.mem_of_getElem? (i := 484) (by decide +kernel), List.mem_of_getElem? (i := 625) (by decide +kernel), List.mem_of_getElem? (i := 626) (by decide +kernel)⟩
theorem lw_p40 : lw_okq (⟨"FeedbackQueuesModel", "choose", "(I)V"⟩, 24) := ⟨⟨by decide +kernel, by decide +kernel⟩, List.mem_of_getElem? (i := 484) (by decide +kernel), List.mem_of_getElem? (i := 629) (by decide +kernel), List.mem_of_getElem? (i := 630) (by decide +kernel)⟩
theorem lw_p41 : lw_okq (⟨"FeedbackQueuesModel", "firstLevel", "()I"⟩, 24) := ⟨⟨by decide +kernel, by decide +kernel⟩, List.mem_of_getElem? (i := 484) (by decide +kernel), List.mem_of_getElem? (i := 633) (by decide +kernel), List.mem_of_getElem? (i := 634) (by decide +kernel)⟩
theorem lw_p42 : lw_okq (⟨"FeedbackQueuesModel", "toFront", "(II)V"⟩, 24) := ⟨⟨by decide +kernel, by decide +kernel⟩, List.mem_of_getElem? (i := 484) (by decide +kernel), List.mem_of_getElem? (i := 637) (by decide +kernel), List.mem_of_getElem? (i := 638) (by decide +kernel)⟩
theorem lw_p43 : lw_okq (⟨"FeedbackQueuesModel", "count", "()V"⟩, 24) := ⟨⟨by decide +kernel, by decide +kernel⟩, List.mem_of_getElem? (i := 484) (by decide +kernel), List.mem_of_getElem? (i := 641) (by decide +kernel), List.mem_of_getElem? (i := 642) (by decide +kernel)⟩
theorem lw_p44 : lw_okq (⟨"FeedbackQueuesModel", "work", "(I)V"⟩, 24) := ⟨⟨by decide +kernel, by decide +kernel⟩, List.mem_of_getElem? (i := 484) (by decide +kernel), List.mem_of_getElem? (i := 645) (by decide +kernel), List.mem_of_getElem? (i := 646) (by decide +kernel)⟩
def lw_privs_3 : List (MethodName × Nat) := [(⟨"FeedbackQueuesModel", "begin", "()V"⟩, 24), (⟨"FeedbackQueuesModel", "noProcess", "(I)Z"⟩, 24), (⟨"FeedbackQueuesModel", "allUp", "()V"⟩, 24), (⟨"FeedbackQueuesModel", "takeFirst", "(I)I"⟩, 24), (⟨"FeedbackQueuesModel", "toEnd", "(II)V"⟩, 24), (⟨"FeedbackQueuesModel", "come", "(I)V"⟩, 24), (⟨"FeedbackQueuesModel", "end", "(II)V"⟩, 24), (⟨"FeedbackQueuesModel", "comeBack", "(I)V"⟩, 24), (⟨"FeedbackQueuesModel", "choose", "(I)V"⟩, 24), (⟨"FeedbackQueuesModel", "firstLevel", "()I"⟩, 24), (⟨"FeedbackQueuesModel", "toFront", "(II)V"⟩, 24), (⟨"FeedbackQueuesModel", "count", "()V"⟩, 24), (⟨"FeedbackQueuesModel", "work", "(I)V"⟩, 24)]
theorem lw_r3 : ∀ q ∈ lw_privs_3, lw_okq q := List.forall_mem_cons.mpr ⟨lw_p32, List.forall_mem_cons.mpr ⟨lw_p33, List.forall_mem_cons.mpr ⟨lw_p34, List.forall_mem_cons.mpr ⟨lw_p35, List.forall_mem_cons.mpr ⟨lw_p36, List.forall_mem_cons.mpr ⟨lw_p37, List.forall_mem_cons.mpr ⟨lw_p38, List.forall_mem_cons.mpr ⟨lw_p39, List.forall_mem_cons.mpr ⟨lw_p40, List.forall_mem_cons.mpr ⟨lw_p41, List.forall_mem_cons.mpr ⟨lw_p42, List.forall_mem_cons.mpr ⟨lw_p43, List.forall_mem_cons.mpr ⟨lw_p44, fun _ h => absurd h List.not_mem_nil⟩⟩⟩⟩⟩⟩⟩⟩⟩⟩⟩⟩⟩
def lw_privs : List (MethodName × Nat) := lw_privs_1 ++ (lw_privs_2 ++ (lw_privs_3))
def lw_tbl : List Cond := k2_sels lw_privs ++ tables_1
theorem lw_privs_ok : ∀ q ∈ lw_privs, lw_okq q := by
  show ∀ q ∈ lw_privs_1 ++ (lw_privs_2 ++ (lw_privs_3)), lw_okq q
  exact List.forall_mem_append.mpr ⟨lw_r1, List.forall_mem_append.mpr ⟨lw_r2, lw_r3⟩⟩
-- ===== end of PART A; then your names; then what follows =====
end
section
/-! ===== BEGIN words of one list among another's, by their places ===== -/
theorem goodIn_r {big : List Cond} (ws : List Cond) (ps : List Nat) (hp : ws = ps.filterMap (fun i => big[i]?)) (h : ws.all goodWord = true) : GoodIn big ws := by
  intro w hw
  have h1 := List.all_eq_true.mp h w hw
  rw [hp] at hw
  obtain ⟨i, -, hi⟩ := List.mem_filterMap.mp hw
  have hm : w ∈ big := by first | exact List.mem_of_getElem? hi | exact List.getElem?_mem hi
  exact ⟨hm, good_of_word h1⟩
theorem goodIn_app {big a b : List Cond} (ha : GoodIn big a) (hb : GoodIn big b) : GoodIn big (a ++ b) := fun w h => (List.mem_append.mp h).elim (ha w) (hb w)
theorem goodIn_ca {big a b : List Cond} {c : Cond} (ha : GoodIn big (c :: a)) (hb : GoodIn big b) : GoodIn big (c :: (a ++ b)) := fun w h => (List.mem_cons.mp h).elim (fun e => ha w (List.mem_cons.mpr (Or.inl e))) (fun h => (List.mem_append.mp h).elim (fun h => ha w (List.mem_cons.mpr (Or.inr h))) (hb w))
theorem goodIn_sub {big ws : List Cond} (hm : ∀ w ∈ ws, w ∈ big) (h : ws.all goodWord = true) : GoodIn big ws := fun w hw => ⟨hm w hw, good_of_word (List.all_eq_true.mp h w hw)⟩
/-! ===== END ===== -/

/-! ===== BEGIN exceptions that leave a method, and their catching by the caller (launches without stack traces) ===== -/
section VXA
/-! The laws vx_back, vx_callV, vx_callS, vx_callSW, vx_throw0, vx_throwS follow proofs of the library, with one case more: JvmDerived/Free/Laws.lean (Back.of_free), Shelf42/LK1.lean (callV, callS), Shelf/KitTraced.lean (throwNew0V, throwNewS). -/

/-- where a method has thrown q: the class by its name, the cell, what was written, the world -/
def vx_T (XC : String → State → State → Prop) (st : State) (q : Addr) (t : State) (mc ms : Nat) (free : Addr → Prop) : Prop :=
  ∃ (E : String) (ce : Cell) (L : List Loc), XC E st t ∧ t.heap[q]? = some ce ∧ ce.vm = .none ∧ st.vm.findClass E = some ce.cls ∧ st.WarmedH t.vm ∧ st.sameButNew ({ t with vm := st.vm } : State) L mc ms ∧ ∀ z ∈ L, free z.base
def vx_Q (Qc : Array Value → State → Outcome → State → Prop) (XC : String → State → State → Prop) (mc ms : Nat) (free : Addr → Prop) : Array Value → State → Outcome → State → Prop := fun a st o t =>
  (Qc a st o t ∧ ∃ L, FrameEnd st o t L mc ms ∧ ∀ q ∈ L, free q.base) ∨ ∃ q, o = .threw q ∧ vx_T XC st q t mc ms free
/-- a callee that returns or throws -/
def vx_Met (l : Launch) (y : MethodName) (ws : List Cond) (rm : Room) (Pc : Array Value → State → Prop) (Qc : Array Value → State → Outcome → State → Prop) (XC : String → State → State → Prop) (mc ms : Nat) (free : Addr → Prop) : Prop :=
  MetFree l y (headSpec ws rm) Pc (fun _ _ _ _ _ => True) (vx_Q Qc XC mc ms free)
def vx_Post (XC : String → State → State → Prop) (mc ms : Nat) (free : Addr → Prop) : Pt → Array Value → Addr → Pt → Prop := fun A a q B =>
  ∃ (g : JFrame) (mk : MethodId) (t : State) (L : List Loc) (E : String) (ce : Cell), B.U.heap = t.heap ∧ B.U.vm = t.vm ∧ XC E (A.U.calling g mk a) t ∧ t.heap[q]? = some ce ∧ ce.vm = .none ∧ A.U.vm.findClass E = some ce.cls ∧ B.locs = A.locs ++ L ∧ (∀ z ∈ L, free z.base) ∧ B.cells = A.cells + mc ∧ B.slots = A.slots + ms
def vx_Back (l : Launch) (R : Room) (p : Program) (e : Env) (below : List Frame) (s : State) (sargs : Array Value) (y : MethodName) (len W9 : Nat)
    (Pre : Pt → Array Value → Prop) (Post : Pt → Array Value → Option Value → Pt → Prop) (PostX : Pt → Array Value → Addr → Pt → Prop) : Prop :=
  ∀ (m : MethodId) (meth : Method) (c : Code) (A : Pt) (g : JFrame) (ig : Instr) (mk : MethodId) (a : Array Value),
    Stand p l e R s m sargs below meth c A.U A.locs A.cells A.slots → g.method = m → g.locals.size = c.maxLocals → decode c.code g.pc = .ok (ig, len) →
    2 * g.monitorRoom + (g.stack.map fun v => v.category).sum ≤ W9 → A.U.methodNamed? y = some mk → Pre A a →
    (∃ (v : Option Value) (B : Pt), Stand p l e R s m sargs below meth c B.U B.locs B.cells B.slots ∧ Post A a v B ∧
      Steps p.tables e below (doInvoke e (A.U.setTop g) [] mk a).1 (B.U.setTop { g with pc := g.pc + len, stack := v.toList ++ g.stack })) ∨
    (∃ (q : Addr) (B : Pt), Stand p l e R s m sargs below meth c B.U B.locs B.cells B.slots ∧ PostX A a q B ∧
      Steps p.tables e below (doInvoke e (A.U.setTop g) [] mk a).1 ((B.U.setTop g).pushFrame (.throwing q)))
section Payer
variable {l : Launch} {R : Room} {p : Program} {e : Env} {below : List Frame} {s : State} {sargs : Array Value} {y : MethodName} {len W9 : Nat}
theorem vx_back {ws : List Cond} {rm : Room} {Pc : Array Value → State → Prop} {Qc : Array Value → State → Outcome → State → Prop} {XC : String → State → State → Prop} {mc ms : Nat} {free : Addr → Prop} {bytes : ByteArray} {maxL : Nat} {ret : Option FieldType}
    (hM : vx_Met l y ws rm Pc Qc XC mc ms free) (hblind : FrameBlind Pc) (hrc : rm.cells = mc) (hrs : rm.slots = ms)
    (hframes : rm.frames + 1 ≤ R.frames) (hlocals : W9 + (maxL + 11) + rm.locals ≤ R.locals)
    (hws : ∀ w ∈ ws, ∀ a' U, s.WarmedH U.vm → w.before a' U = true) (hcode : Cond.code y bytes maxL ret ∈ ws) (hinit : ∀ a' U, s.WarmedH U.vm → (Cond.initialized y.cls).before a' U = true) :
    vx_Back l R p e below s sargs y len W9 (PreOf R mc ms Pc) (PostOf Qc mc ms free) (vx_Post XC mc ms free) := by
  intro m meth c A g ig mk a X hg hsize hdg hW hn hp
  have h1 : (headSpec ws rm).pre.before a A.U = true := atoms_intro fun w hw => hws w hw _ _ X.warmed
  have h2 : (Cond.code y bytes maxL ret).before a A.U = true := hws _ hcode _ _ X.warmed
  have h3 : (Cond.initialized y.cls).before a A.U = true := hinit _ _ X.warmed
  have h4 : A.cells + (headSpec ws rm).room.cells ≤ R.cells := by rw [show (headSpec ws rm).room.cells = mc from hrc]; exact hp.1
  have h5 : A.slots + (headSpec ws rm).room.slots ≤ R.slots := by rw [show (headSpec ws rm).room.slots = ms from hrs]; exact hp.2.1
  have hPc : Pc a (A.U.calling g mk a) := hblind _ _ _ _ hp.2.2
  obtain ⟨U, Ls, c0, s0⟩ := A
  dsimp only [Pt.U, Pt.locs, Pt.cells, Pt.slots] at h1 h2 h3 h4 h5 X hn hPc ⊢
  obtain ⟨methY, cY, hmY, hcY, -, hlY, -, -, -, -⟩ := Cond.code_spec hn h2
  obtain ⟨kY, hkY, -⟩ := className_of_methodNamed hn
  have hinitY : kY.init = .initialized := Cond.initialized_spec (findClass_of_methodNamed hn) hkY h3
  have h : At U g.method c below := by rw [hg]; exact X.here
  have hlocals9 : W9 + (maxL + 11) + (headSpec ws rm).room.locals ≤ R.locals := hlocals
  have happ : (headSpec ws rm).appliesLoose y e.platform (U.calling g mk a) = true :=
    Spec.appliesLoose_calling (g := g) h hdg hn hkY hinitY
      (X.room_calling (g := g) (R' := (headSpec ws rm).room) hsize hmY hcY hframes (by rw [hlY]; omega) h4 h5) h1
  obtain ⟨mid, hmid⟩ := h.above
  have hfr : (U.setTop g).frames = (.java g :: mid) ++ below := by rw [State.frames_setTop' g h.top, hmid]; rfl
  obtain ⟨o, s₂, hsteps, -, hend, hq⟩ := Steps.callFree hM p X.admits X.cas X.clock (acts := []) hfr happ hPc trivial
  have hq' : vx_Q Qc XC mc ms free a (U.calling g mk a) o s₂ := hq
  rw [State.frames_setTop' g h.top] at hend
  obtain ⟨g₀, hg0⟩ := Option.isSome_iff_exists.mp h.top
  obtain ⟨r, hr⟩ := State.topJava?_eq_some.mp hg0
  have hr' : (({ U with heap := s₂.heap, slotsUsed := s₂.slotsUsed } : State).setVm s₂.vm).frames = .java g₀ :: r := hr
  rcases hq' with ⟨hqc, L, hfe, hL⟩ | ⟨q, rfl, E, ce, L, hx, hce, hcv, hcl, hW₂, hsm, hL⟩
  · obtain ⟨⟨v, rfl⟩, hW₂, e2, q2, q3, q4, q5, q6⟩ := id hfe
    have e3 : s₂ = ({ (U.calling g mk a).setFrames s₂.frames with heap := s₂.heap, slotsUsed := s₂.slotsUsed } : State).setVm s₂.vm := by
      have : s₂ = ({ s₂ with vm := (U.calling g mk a).vm } : State).setVm s₂.vm := rfl
      rw [e2] at this
      exact this
    obtain ⟨c₂, i₂, len₂, hc₂, hd₂, hf₂⟩ := hend
    have hW' : U.WarmedH s₂.vm := hW₂
    have hcc : c₂ = c := by
      have h1 : s₂.code? g.method = U.code? g.method := by
        rw [State.code?_eq, State.code?_eq, hW'.alike.method?]
      exact Option.some.inj (hc₂.symm.trans (h1.trans h.code))
    subst hcc
    have hlen : len₂ = len := by rw [hdg] at hd₂; cases hd₂; rfl
    subst hlen
    have hs₂ : s₂ = (({ U with heap := s₂.heap, slotsUsed := s₂.slotsUsed } : State).setVm s₂.vm).setTop { g with pc := g.pc + len₂, stack := v.toList ++ g.stack } := by
      refine e3.trans ?_
      rw [hf₂, State.calling_eq h.top, State.setFrames_setFrames, State.setTop_of_frames _ hr', hr]
      rfl
    have hsame : U.sameButNew ({ U with heap := s₂.heap, slotsUsed := s₂.slotsUsed } : State) L mc ms := by
      refine ⟨?_, q2, q3, q4, q5, q6⟩
      obtain ⟨t, ht, -⟩ := State.frames_cons hr
      show ({ U with heap := s₂.heap, slotsUsed := s₂.slotsUsed } : State) = { U.setFrames U.frames with heap := s₂.heap, slotsUsed := s₂.slotsUsed }
      rw [State.setFrames_self ht]
    subst hg
    refine Or.inl ⟨v, ⟨(({ U with heap := s₂.heap, slotsUsed := s₂.slotsUsed } : State).setVm s₂.vm), Ls ++ L, c0 + mc, s0 + ms⟩,
      ⟨X.admits, X.cas, X.clock, X.frames, X.room, X.hears, X.method, X.code, (X.here.setHeapUsed s₂.heap s₂.slotsUsed).setVm hW'.alike, X.tail, State.WarmedH.trans X.warmed hW', X.limits, X.bytes, X.same.trans (hsame.setVm s.vm)⟩,
      ⟨g, mk, s₂, L, rfl, rfl, hqc, rfl, hL, rfl, rfl⟩, ?_⟩
    show Steps p.tables e below _ ((({ U with heap := s₂.heap, slotsUsed := s₂.slotsUsed } : State).setVm s₂.vm).setTop { g with pc := g.pc + len₂, stack := v.toList ++ g.stack })
    rw [← hs₂]
    exact hsteps
  · obtain ⟨e2, q2, q3, q4, q5, q6⟩ := id hsm
    have e3 : s₂ = ({ (U.calling g mk a).setFrames s₂.frames with heap := s₂.heap, slotsUsed := s₂.slotsUsed } : State).setVm s₂.vm := by
      have : s₂ = ({ s₂ with vm := (U.calling g mk a).vm } : State).setVm s₂.vm := rfl
      rw [e2] at this
      exact this
    have hf₂ : s₂.frames = .throwing q :: .java g :: U.frames.tail := hend
    have hW' : U.WarmedH s₂.vm := hW₂
    have hs₂ : s₂ = ((({ U with heap := s₂.heap, slotsUsed := s₂.slotsUsed } : State).setVm s₂.vm).setTop g).pushFrame (.throwing q) := by
      refine e3.trans ?_
      rw [hf₂, State.calling_eq h.top, State.setFrames_setFrames, State.pushFrame, State.frames_setTop _ hr', State.setTop_of_frames _ hr', State.setFrames_setFrames, hr]
      rfl
    have hsame : U.sameButNew ({ U with heap := s₂.heap, slotsUsed := s₂.slotsUsed } : State) L mc ms := by
      refine ⟨?_, q2, q3, q4, q5, q6⟩
      obtain ⟨t, ht, -⟩ := State.frames_cons hr
      show ({ U with heap := s₂.heap, slotsUsed := s₂.slotsUsed } : State) = { U.setFrames U.frames with heap := s₂.heap, slotsUsed := s₂.slotsUsed }
      rw [State.setFrames_self ht]
    subst hg
    refine Or.inr ⟨q, ⟨(({ U with heap := s₂.heap, slotsUsed := s₂.slotsUsed } : State).setVm s₂.vm), Ls ++ L, c0 + mc, s0 + ms⟩,
      ⟨X.admits, X.cas, X.clock, X.frames, X.room, X.hears, X.method, X.code, (X.here.setHeapUsed s₂.heap s₂.slotsUsed).setVm hW'.alike, X.tail, State.WarmedH.trans X.warmed hW', X.limits, X.bytes, X.same.trans (hsame.setVm s.vm)⟩,
      ⟨g, mk, s₂, L, E, ce, rfl, rfl, hx, hce, hcv, hcl, rfl, hL, rfl, rfl⟩, ?_⟩
    show Steps p.tables e below _ (((({ U with heap := s₂.heap, slotsUsed := s₂.slotsUsed } : State).setVm s₂.vm).setTop g).pushFrame (.throwing q))
    rw [← hs₂]
    exact hsteps
end Payer
section Calls
variable {p : Program} {l : Launch} {e : Env} {R : Room} {s : State} {m : MethodId} {args : Array Value} {below : List Frame} {meth : Method} {c : Code} {T : State} {locs : List Loc} {cells slots : Nat}
theorem vx_callV (X : Stand p l e R s m args below meth c T locs cells slots) (hexec : p.tables.exec = Jvm.exec) {own C : String} {index : Nat} {y : MethodName} {bytes : ByteArray} {maxL : Nat} {ret : Option FieldType}
    (hown : s.vm.findClass own = some m.cls) (hlink : (Cond.methodLink own index y).before args s = true) (hinst : (Cond.instanceMethod y).before args s = true) (hsel : (Cond.selects C y y).before args s = true)
    (hcode : (Cond.code y bytes maxL ret).before args s = true) (hy : y.cls ≠ "java/lang/invoke/MethodHandle" ∧ y.cls ≠ "java/lang/invoke/VarHandle")
    {W9 : Nat} {Pre : Pt → Array Value → Prop} {Post : Pt → Array Value → Option Value → Pt → Prop} {PostX : Pt → Array Value → Addr → Pt → Prop} (hK : vx_Back l R p e below s args y 3 W9 Pre Post PostX)
    {b : Addr} {cellB : Cell} (hcell : T.heap[b]? = some cellB) (hobj : cellB.vm.isStatics = false) (hcls : s.vm.findClass C = some cellB.cls)
    {g : JFrame} (hg : g.method = m) (hsize : g.locals.size = c.maxLocals) {argsL rest : List Value} (hlen : ∀ sig, parseMethodDescriptor y.desc = some sig → argsL.length = sig.parameters.length)
    (hstack : g.stack = argsL.reverse ++ .ref b :: rest) (hW : 2 * g.monitorRoom + (rest.map fun v => v.category).sum ≤ W9) (hdg : decode c.code g.pc = .ok (.invokevirtual index, 3))
    (hpre : ∀ vm₁, s.WarmedH vm₁ → Pre ⟨T.setVm vm₁, locs, cells, slots⟩ (Value.ref b :: argsL).toArray) :
    (∃ (v : Option Value) (vm₁ : Vm) (B : Pt), s.WarmedH vm₁ ∧ Stand p l e R s m args below meth c B.U B.locs B.cells B.slots ∧ Post ⟨T.setVm vm₁, locs, cells, slots⟩ (Value.ref b :: argsL).toArray v B ∧
      ∀ target, Steps p.tables e below (B.U.setTop { g with pc := g.pc + 3, stack := v.toList ++ rest }) target → Steps p.tables e below (T.setTop g) target) ∨
    (∃ (q : Addr) (vm₁ : Vm) (B : Pt), s.WarmedH vm₁ ∧ Stand p l e R s m args below meth c B.U B.locs B.cells B.slots ∧ PostX ⟨T.setVm vm₁, locs, cells, slots⟩ (Value.ref b :: argsL).toArray q B ∧
      Steps p.tables e below (T.setTop g) ((B.U.setTop { g with stack := rest }).pushFrame (.throwing q))) := by
  obtain ⟨mk, methM, hnamed, hmethM, hstM, habM⟩ := Cond.instanceMethod_spec hinst
  obtain ⟨methM', cM, hmethM', -, -, -, -, -, -, hsigM⟩ := Cond.code_spec hnamed hcode
  cases hmethM.symm.trans hmethM'
  obtain ⟨c2, r2, m2, q1, q2, q3, q4, kP, hkP, hkPi⟩ := Cond.selects_spec hsel
  cases hcls.symm.trans q1
  cases (State.methodFound?_of_named hnamed hy).symm.trans q2
  cases hnamed.symm.trans q3
  have hselP : selectMethod e.platform s.vm cellB.cls mk = .method mk := by rw [Launch.admits_selectMethod X.admits]; exact q4
  obtain ⟨vm₁, X₁, hstep₁⟩ := X.invokevirtual hexec hown hlink hnamed hmethM hstM hkP hkPi hy (a := b) (cell := cellB) hcell
    (fun z h => by rw [h] at hobj; cases hobj) hselP hmethM habM hkP hkPi (g := g) hg (argsL := argsL) (rest := rest) (hlen _ hsigM) hstack hdg
  rcases hK m meth c ⟨T.setVm vm₁, locs, cells, slots⟩ { g with stack := rest } (.invokevirtual index) mk (Value.ref b :: argsL).toArray X₁ hg hsize hdg hW (X₁.named hnamed) (hpre vm₁ X₁.warmed) with ⟨v, B, X', hpost, hsteps⟩ | ⟨q, B, X', hpost, hsteps⟩
  · exact Or.inl ⟨v, vm₁, B, X₁.warmed, X', hpost, fun target h => hstep₁ _ fun acts => by rw [doInvoke_state]; exact hsteps.trans h⟩
  · exact Or.inr ⟨q, vm₁, B, X₁.warmed, X', hpost, hstep₁ _ fun acts => by rw [doInvoke_state]; exact hsteps⟩
theorem vx_callS (X : Stand p l e R s m args below meth c T locs cells slots) (hexec : p.tables.exec = Jvm.exec) {own : String} {index : Nat} {y : MethodName} {bytes : ByteArray} {maxL : Nat} {ret : Option FieldType}
    (hown : s.vm.findClass own = some m.cls) (hlink : (Cond.methodLink own index y).before args s = true) (hstat : (Cond.static y).before args s = true) (hinit : (Cond.initialized y.cls).before args s = true)
    (hcode : (Cond.code y bytes maxL ret).before args s = true) (hy : y.cls ≠ "java/lang/invoke/MethodHandle" ∧ y.cls ≠ "java/lang/invoke/VarHandle")
    {W9 : Nat} {Pre : Pt → Array Value → Prop} {Post : Pt → Array Value → Option Value → Pt → Prop} {PostX : Pt → Array Value → Addr → Pt → Prop} (hK : vx_Back l R p e below s args y 3 W9 Pre Post PostX)
    {g : JFrame} (hg : g.method = m) (hsize : g.locals.size = c.maxLocals) {argsL rest : List Value} (hlen : ∀ sig, parseMethodDescriptor y.desc = some sig → argsL.length = sig.parameters.length)
    (hstack : g.stack = argsL.reverse ++ rest) (hW : 2 * g.monitorRoom + (rest.map fun v => v.category).sum ≤ W9) (hdg : decode c.code g.pc = .ok (.invokestatic index, 3))
    (hpre : ∀ vm₁, s.WarmedH vm₁ → Pre ⟨T.setVm vm₁, locs, cells, slots⟩ argsL.toArray) :
    (∃ (v : Option Value) (vm₁ : Vm) (B : Pt), s.WarmedH vm₁ ∧ Stand p l e R s m args below meth c B.U B.locs B.cells B.slots ∧ Post ⟨T.setVm vm₁, locs, cells, slots⟩ argsL.toArray v B ∧
      ∀ target, Steps p.tables e below (B.U.setTop { g with pc := g.pc + 3, stack := v.toList ++ rest }) target → Steps p.tables e below (T.setTop g) target) ∨
    (∃ (q : Addr) (vm₁ : Vm) (B : Pt), s.WarmedH vm₁ ∧ Stand p l e R s m args below meth c B.U B.locs B.cells B.slots ∧ PostX ⟨T.setVm vm₁, locs, cells, slots⟩ argsL.toArray q B ∧
      Steps p.tables e below (T.setTop g) ((B.U.setTop { g with stack := rest }).pushFrame (.throwing q))) := by
  obtain ⟨mk, hnamed⟩ := Cond.code_named hcode
  obtain ⟨methM, cM, hmethM, -, -, -, -, -, -, hsigM⟩ := Cond.code_spec hnamed hcode
  have hstatic : methM.isStatic = true := Cond.static_spec hnamed hmethM hstat
  obtain ⟨kP, hkP, -⟩ := className_of_methodNamed hnamed
  have hinitP : kP.init = .initialized := Cond.initialized_spec (findClass_of_methodNamed hnamed) hkP hinit
  obtain ⟨vm₁, X₁, hstep₁⟩ := X.invokestatic hexec hown hlink hnamed hmethM hstatic hkP hinitP hy (g := g) hg (argsL := argsL) (rest := rest) (hlen _ hsigM) hstack hdg
  rcases hK m meth c ⟨T.setVm vm₁, locs, cells, slots⟩ { g with stack := rest } (.invokestatic index) mk argsL.toArray X₁ hg hsize hdg hW (X₁.named hnamed) (hpre vm₁ X₁.warmed) with ⟨v, B, X', hpost, hsteps⟩ | ⟨q, B, X', hpost, hsteps⟩
  · exact Or.inl ⟨v, vm₁, B, X₁.warmed, X', hpost, fun target h => hstep₁ _ fun acts => by rw [doInvoke_state]; exact hsteps.trans h⟩
  · exact Or.inr ⟨q, vm₁, B, X₁.warmed, X', hpost, hstep₁ _ fun acts => by rw [doInvoke_state]; exact hsteps⟩
end Calls
theorem vx_cls {s : State} {T : State} {vm₁ : Vm} {E : String} {k : ClassId} (hW : s.WarmedH vm₁) (h : (T.setVm vm₁).vm.findClass E = some k) : s.vm.findClass E = some k := by
  have h1 : vm₁.findClass E = some k := h
  rw [hW.alike.findClass] at h1
  exact h1
/-- the method's frame g, with q thrown over it -/
def vx_W (p : Program) (l : Launch) (e : Env) (R : Room) (s : State) (m : MethodId) (args : Array Value) (below : List Frame) (meth : Method) (c : Code) (H : Heap) (locs : List Loc) (cells slots : Nat) (Q : State → Prop) (g : JFrame) (q : Addr) : Prop :=
  ∀ T : State, T.heap = H → Stand p l e R s m args below meth c T locs cells slots → ∃ t, Steps p.tables e below ((T.setTop g).pushFrame (.throwing q)) t ∧ Q t
def vx_Run (p : Program) (l : Launch) (e : Env) (R : Room) (s : State) (m : MethodId) (args : Array Value) (below : List Frame) (meth : Method) (c : Code) (H : Heap) (locs : List Loc) (cells slots mc ms : Nat) (g : JFrame) (rest : List Value) (Qa : State → Outcome → State → Prop) (XC : String → State → State → Prop) (free : Addr → Prop) : Prop :=
  ∀ T : State, T.heap = H → Stand p l e R s m args below meth c T locs cells slots →
    (∃ (v : Option Value) (st₀ t T' : State) (L : List Loc), st₀.heap = H ∧ Stand p l e R s m args below meth c T' (locs ++ L) (cells + mc) (slots + ms) ∧ (∀ q ∈ L, free q.base) ∧ T'.heap = t.heap ∧ T'.vm = t.vm ∧ Qa st₀ (.returned v) t ∧
      Goes p e below T g T' { g with pc := g.pc + 3, stack := v.toList ++ rest }) ∨
    (∃ (q : Addr) (st₀ t T' : State) (L : List Loc) (E : String) (ce : Cell), st₀.heap = H ∧ Stand p l e R s m args below meth c T' (locs ++ L) (cells + mc) (slots + ms) ∧ (∀ z ∈ L, free z.base) ∧ T'.heap = t.heap ∧ T'.vm = t.vm ∧ XC E st₀ t ∧ t.heap[q]? = some ce ∧ ce.vm = .none ∧ s.vm.findClass E = some ce.cls ∧
      Steps p.tables e below (T.setTop g) ((T'.setTop { g with stack := rest }).pushFrame (.throwing q)))
def vx_X {S : Type} (px : S → Prop) (B : String → S → State → Prop) (A : Nat → Prop) : String → State → State → Prop := fun E st t => ∃ u : S, px u ∧ B E u t ∧ va_F A st t
section Runs
variable {p : Program} {l : Launch} {e : Env} {R : Room} {s : State} {m : MethodId} {args : Array Value} {below : List Frame} {meth : Method} {c : Code} {H : Heap} {locs : List Loc} {cells slots : Nat}
variable {y : MethodName} {bytes cc : ByteArray} {maxL nL mc ms n index : Nat} {ret : Option FieldType} {ws : List Cond} {rm : Room} {Pc : Array Value → State → Prop} {Qc : Array Value → State → Outcome → State → Prop} {XC : String → State → State → Prop} {free : Addr → Prop} {Ts : List Cond} {own C : String} {b : Addr} {As rest : List Value} {g : JFrame}
theorem vx_callBack (cb : CallB R s args own index y bytes maxL ret ws rm mc ms n) (hM : vx_Met l y ws rm Pc Qc XC mc ms free) (hbl : FrameBlind Pc) : vx_Back l R p e below s args y 3 8 (PreOf R mc ms Pc) (PostOf Qc mc ms free) (vx_Post XC mc ms free) := by
  obtain ⟨hrc, hrs, hfr, hlo, hws, hcw, -, hini, -⟩ := cb
  exact vx_back (bytes := bytes) (maxL := maxL) (ret := ret) hM hbl hrc hrs hfr hlo hws hcw (fun a' U hW => word_at hW (Or.inl (by first | rfl | simp [Cond.onTables, Cond.keeps, Cond.steady])) hini)
theorem vx_runV (S : CallFix p m c cc nL s args Ts own) (hM : vx_Met l y ws rm Pc Qc XC mc ms free) (cw : CallW R s args own C index y bytes maxL ret ws rm mc ms n) (hp : PreV s H C b Pc As)
    (hg : g.method = m) (hn : As.length = n) (hsize : g.locals.size = nL) (hstack : g.stack = As.reverse ++ .ref b :: rest) (hW : 2 * g.monitorRoom + (rest.map fun v => v.category).sum ≤ 8) (hdg : decode cc g.pc = .ok (.invokevirtual index, 3)) (hf : cells + mc ≤ R.cells ∧ slots + ms ≤ R.slots) :
    vx_Run p l e R s m args below meth c H locs cells slots mc ms g rest (Qc (Value.ref b :: As).toArray) XC free := by
  have hK : vx_Back l R p e below s args y 3 8 (PreOf R mc ms Pc) (PostOf Qc mc ms free) (vx_Post XC mc ms free) := vx_callBack cw.1 hM hp.1
  obtain ⟨⟨-, -, -, -, -, -, hcode, -, hy, hlen, hl⟩, hin, hse⟩ := cw
  obtain ⟨hx, hb, hml, ho, -⟩ := S
  obtain ⟨-, ⟨cellB, hcB, hoB, hclB⟩, hPc⟩ := hp
  intro T hT X
  rcases vx_callV X hx (C := C) (bytes := bytes) (maxL := maxL) (ret := ret) ho hl hin hse hcode hy hK (by rw [hT]; exact hcB) hoB hclB hg (hsize.trans hml.symm) (argsL := As) (rest := rest) (fun sig h => hn.trans (hlen sig h)) hstack hW (by rw [hb]; exact hdg)
    (fun vm₁ hW₁ => ⟨hf.1, hf.2, hPc (T.setVm vm₁) hT hW₁⟩) with ⟨v, vm₁, ⟨U', l2, c2, s2⟩, hW₁, X', ⟨g', mk, t, L, e1, e2, hq, h1, hL, h2, h3⟩, st⟩ | ⟨q, vm₁, ⟨U', l2, c2, s2⟩, hW₁, X', ⟨g', mk, t, L, E, ce, e1, e2, hq, hce, hcv, hcl, h1, hL, h2, h3⟩, st⟩
  · dsimp only [Pt.U, Pt.locs, Pt.cells, Pt.slots] at X' e1 e2 h1 h2 h3 st
    subst h1; subst h2; subst h3
    exact Or.inl ⟨v, (T.setVm vm₁).calling g' mk (Value.ref b :: As).toArray, t, U', L, hT, X', hL, e1, e2, hq, st⟩
  · dsimp only [Pt.U, Pt.locs, Pt.cells, Pt.slots] at X' e1 e2 h1 h2 h3 st hcl
    subst h1; subst h2; subst h3
    exact Or.inr ⟨q, (T.setVm vm₁).calling g' mk (Value.ref b :: As).toArray, t, U', L, E, ce, hT, X', hL, e1, e2, hq, hce, hcv, vx_cls hW₁ hcl, st⟩
theorem vx_runS (S : CallFix p m c cc nL s args Ts own) (hM : vx_Met l y ws rm Pc Qc XC mc ms free) (cw : CallB R s args own index y bytes maxL ret ws rm mc ms n ∧ (Cond.static y).before args s = true) (hp : PreS s H Pc As)
    (hg : g.method = m) (hn : As.length = n) (hsize : g.locals.size = nL) (hstack : g.stack = As.reverse ++ rest) (hW : 2 * g.monitorRoom + (rest.map fun v => v.category).sum ≤ 8) (hdg : decode cc g.pc = .ok (.invokestatic index, 3)) (hf : cells + mc ≤ R.cells ∧ slots + ms ≤ R.slots) :
    vx_Run p l e R s m args below meth c H locs cells slots mc ms g rest (Qc As.toArray) XC free := by
  have hK : vx_Back l R p e below s args y 3 8 (PreOf R mc ms Pc) (PostOf Qc mc ms free) (vx_Post XC mc ms free) := vx_callBack cw.1 hM hp.1
  obtain ⟨⟨-, -, -, -, -, -, hcode, hini, hy, hlen, hl⟩, hstt⟩ := cw
  obtain ⟨hx, hb, hml, ho, -⟩ := S
  intro T hT X
  rcases vx_callS X hx (bytes := bytes) (maxL := maxL) (ret := ret) ho hl hstt hini hcode hy hK hg (hsize.trans hml.symm) (argsL := As) (rest := rest) (fun sig h => hn.trans (hlen sig h)) hstack hW (by rw [hb]; exact hdg)
    (fun vm₁ hW₁ => ⟨hf.1, hf.2, hp.2 (T.setVm vm₁) hT hW₁⟩) with ⟨v, vm₁, ⟨U', l2, c2, s2⟩, hW₁, X', ⟨g', mk, t, L, e1, e2, hq, h1, hL, h2, h3⟩, st⟩ | ⟨q, vm₁, ⟨U', l2, c2, s2⟩, hW₁, X', ⟨g', mk, t, L, E, ce, e1, e2, hq, hce, hcv, hcl, h1, hL, h2, h3⟩, st⟩
  · dsimp only [Pt.U, Pt.locs, Pt.cells, Pt.slots] at X' e1 e2 h1 h2 h3 st
    subst h1; subst h2; subst h3
    exact Or.inl ⟨v, (T.setVm vm₁).calling g' mk As.toArray, t, U', L, hT, X', hL, e1, e2, hq, st⟩
  · dsimp only [Pt.U, Pt.locs, Pt.cells, Pt.slots] at X' e1 e2 h1 h2 h3 st hcl
    subst h1; subst h2; subst h3
    exact Or.inr ⟨q, (T.setVm vm₁).calling g' mk As.toArray, t, U', L, E, ce, hT, X', hL, e1, e2, hq, hce, hcv, vx_cls hW₁ hcl, st⟩
end Runs
section Rows
variable {p : Program} {l : Launch} {e : Env} {R : Room} {s : State} {m : MethodId} {args : Array Value} {below : List Frame} {meth : Method} {c : Code} {H : Heap} {locs : List Loc} {cells slots : Nat} {Q : State → Prop}
variable {mc ms : Nat} {free : Addr → Prop} {A0 A1 : Nat → Prop} {H0 : Heap} {a : Array Value} {pc : Nat} {ls : Array Slot} {st0 rest : List Value}
theorem vx_keep {st₀ t T' : State} {L : List Loc} (h0 : st₀.heap = H) (e1 : T'.heap = t.heap) (hS : va_S A0 H0 H locs) (hA : ∀ q, q < H.size → A1 q → A0 q) (hf : ∀ q, free q → A0 q) (hL : ∀ q ∈ L, free q.base) (hF : va_F A1 st₀ t) :
    H.size ≤ T'.heap.size ∧ (∀ q : Nat, q < H.size → ¬ A1 q → T'.heap[q]? = H[q]?) ∧ va_S A0 H0 T'.heap (locs ++ L) := by
  obtain ⟨hz, hk⟩ := hF
  rw [h0] at hz hk
  exact ⟨by rw [e1]; exact hz, fun q h1 h2 => by rw [e1]; exact hk q h1 h2,
    ⟨Nat.le_trans hS.1 (by rw [e1]; exact hz), fun q h1 h2 => by rw [e1, hk q (Nat.lt_of_lt_of_le h1 hS.1) (fun z => h2 (hA q (Nat.lt_of_lt_of_le h1 hS.1) z))]; exact hS.2.1 q h1 h2, fun q hq => by
      rcases List.mem_append.mp hq with h | h
      · exact hS.2.2 q h
      · exact hf _ (hL q h)⟩⟩
theorem vx_calli {S SX : Type} {post : Int32 → S → Prop} {px : SX → Prop} {B : S → State → Prop} {BX : String → SX → State → Prop} {AX : Nat → Prop} (hr : vx_Run p l e R s m args below meth c H locs cells slots mc ms (F0 m pc ls st0) rest (va_Qi post B A1 a) (vx_X px BX AX) free) (hS : va_S A0 H0 H locs) (hA : ∀ q, q < H.size → A1 q → A0 q) (hf : ∀ q, free q → A0 q) (hAX : ∀ q, q < H.size → AX q → A0 q)
    (kx : ∀ (E : String) (ce : Cell) (q9 : Addr) (u : SX) (t : State) (H1 : Heap) (locs1 : List Loc), t.heap = H1 → s.vm.Alike t.vm → px u → BX E u t → H.size ≤ H1.size → (∀ q : Nat, q < H.size → ¬ AX q → H1[q]? = H[q]?) → va_S A0 H0 H1 locs1 → H1[q9]? = some ce → ce.vm = .none → s.vm.findClass E = some ce.cls → vx_W p l e R s m args below meth c H1 locs1 (cells + mc) (slots + ms) Q (F0 m pc ls rest) q9)
    (kk : ∀ (r : Int32) (u : S) (t : State) (H1 : Heap) (locs1 : List Loc), t.heap = H1 → s.vm.Alike t.vm → post r u → B u t → H.size ≤ H1.size → (∀ q : Nat, q < H.size → ¬ A1 q → H1[q]? = H[q]?) → va_S A0 H0 H1 locs1 → W p l e R s m args below meth c H1 locs1 (cells + mc) (slots + ms) Q (F0 m (pc + 3) ls (.int r :: rest))) : W p l e R s m args below meth c H locs cells slots Q (F0 m pc ls st0) := by
  intro T hT X
  rcases hr T hT X with ⟨v, st₀, t, T', L, h0, X', hL, e1, e2, ⟨⟨r, u, hv, hp, hb⟩, hF⟩, st⟩ | ⟨q, st₀, t, T', L, E, ce, h0, X', hL, e1, e2, ⟨u, hp, hb, hF⟩, hce, hcv, hcl, st⟩
  · cases hv
    obtain ⟨k1, k2, k3⟩ := vx_keep h0 e1 hS hA hf hL hF
    obtain ⟨t2, a1, b1⟩ := kk r u t T'.heap (locs ++ L) e1.symm (by rw [← e2]; exact X'.warmed.alike) hp hb k1 k2 k3 T' rfl X'
    exact ⟨t2, st t2 a1, b1⟩
  · obtain ⟨k1, k2, k3⟩ := vx_keep h0 e1 hS hAX hf hL hF
    obtain ⟨t2, a1, b1⟩ := kx E ce q u t T'.heap (locs ++ L) e1.symm (by rw [← e2]; exact X'.warmed.alike) hp hb k1 k2 k3 (by rw [e1]; exact hce) hcv hcl T' rfl X'
    exact ⟨t2, st.trans a1, b1⟩
theorem vx_calll {S SX : Type} {post : Int64 → S → Prop} {px : SX → Prop} {B : S → State → Prop} {BX : String → SX → State → Prop} {AX : Nat → Prop} (hr : vx_Run p l e R s m args below meth c H locs cells slots mc ms (F0 m pc ls st0) rest (va_Ql post B A1 a) (vx_X px BX AX) free) (hS : va_S A0 H0 H locs) (hA : ∀ q, q < H.size → A1 q → A0 q) (hf : ∀ q, free q → A0 q) (hAX : ∀ q, q < H.size → AX q → A0 q)
    (kx : ∀ (E : String) (ce : Cell) (q9 : Addr) (u : SX) (t : State) (H1 : Heap) (locs1 : List Loc), t.heap = H1 → s.vm.Alike t.vm → px u → BX E u t → H.size ≤ H1.size → (∀ q : Nat, q < H.size → ¬ AX q → H1[q]? = H[q]?) → va_S A0 H0 H1 locs1 → H1[q9]? = some ce → ce.vm = .none → s.vm.findClass E = some ce.cls → vx_W p l e R s m args below meth c H1 locs1 (cells + mc) (slots + ms) Q (F0 m pc ls rest) q9)
    (kk : ∀ (r : Int64) (u : S) (t : State) (H1 : Heap) (locs1 : List Loc), t.heap = H1 → s.vm.Alike t.vm → post r u → B u t → H.size ≤ H1.size → (∀ q : Nat, q < H.size → ¬ A1 q → H1[q]? = H[q]?) → va_S A0 H0 H1 locs1 → W p l e R s m args below meth c H1 locs1 (cells + mc) (slots + ms) Q (F0 m (pc + 3) ls (.long r :: rest))) : W p l e R s m args below meth c H locs cells slots Q (F0 m pc ls st0) := by
  intro T hT X
  rcases hr T hT X with ⟨v, st₀, t, T', L, h0, X', hL, e1, e2, ⟨⟨r, u, hv, hp, hb⟩, hF⟩, st⟩ | ⟨q, st₀, t, T', L, E, ce, h0, X', hL, e1, e2, ⟨u, hp, hb, hF⟩, hce, hcv, hcl, st⟩
  · cases hv
    obtain ⟨k1, k2, k3⟩ := vx_keep h0 e1 hS hA hf hL hF
    obtain ⟨t2, a1, b1⟩ := kk r u t T'.heap (locs ++ L) e1.symm (by rw [← e2]; exact X'.warmed.alike) hp hb k1 k2 k3 T' rfl X'
    exact ⟨t2, st t2 a1, b1⟩
  · obtain ⟨k1, k2, k3⟩ := vx_keep h0 e1 hS hAX hf hL hF
    obtain ⟨t2, a1, b1⟩ := kx E ce q u t T'.heap (locs ++ L) e1.symm (by rw [← e2]; exact X'.warmed.alike) hp hb k1 k2 k3 (by rw [e1]; exact hce) hcv hcl T' rfl X'
    exact ⟨t2, st.trans a1, b1⟩
theorem vx_callf {S SX : Type} {post : UInt32 → S → Prop} {px : SX → Prop} {B : S → State → Prop} {BX : String → SX → State → Prop} {AX : Nat → Prop} (hr : vx_Run p l e R s m args below meth c H locs cells slots mc ms (F0 m pc ls st0) rest (va_Qf post B A1 a) (vx_X px BX AX) free) (hS : va_S A0 H0 H locs) (hA : ∀ q, q < H.size → A1 q → A0 q) (hf : ∀ q, free q → A0 q) (hAX : ∀ q, q < H.size → AX q → A0 q)
    (kx : ∀ (E : String) (ce : Cell) (q9 : Addr) (u : SX) (t : State) (H1 : Heap) (locs1 : List Loc), t.heap = H1 → s.vm.Alike t.vm → px u → BX E u t → H.size ≤ H1.size → (∀ q : Nat, q < H.size → ¬ AX q → H1[q]? = H[q]?) → va_S A0 H0 H1 locs1 → H1[q9]? = some ce → ce.vm = .none → s.vm.findClass E = some ce.cls → vx_W p l e R s m args below meth c H1 locs1 (cells + mc) (slots + ms) Q (F0 m pc ls rest) q9)
    (kk : ∀ (r : UInt32) (u : S) (t : State) (H1 : Heap) (locs1 : List Loc), t.heap = H1 → s.vm.Alike t.vm → post r u → B u t → H.size ≤ H1.size → (∀ q : Nat, q < H.size → ¬ A1 q → H1[q]? = H[q]?) → va_S A0 H0 H1 locs1 → W p l e R s m args below meth c H1 locs1 (cells + mc) (slots + ms) Q (F0 m (pc + 3) ls (.float r :: rest))) : W p l e R s m args below meth c H locs cells slots Q (F0 m pc ls st0) := by
  intro T hT X
  rcases hr T hT X with ⟨v, st₀, t, T', L, h0, X', hL, e1, e2, ⟨⟨r, u, hv, hp, hb⟩, hF⟩, st⟩ | ⟨q, st₀, t, T', L, E, ce, h0, X', hL, e1, e2, ⟨u, hp, hb, hF⟩, hce, hcv, hcl, st⟩
  · cases hv
    obtain ⟨k1, k2, k3⟩ := vx_keep h0 e1 hS hA hf hL hF
    obtain ⟨t2, a1, b1⟩ := kk r u t T'.heap (locs ++ L) e1.symm (by rw [← e2]; exact X'.warmed.alike) hp hb k1 k2 k3 T' rfl X'
    exact ⟨t2, st t2 a1, b1⟩
  · obtain ⟨k1, k2, k3⟩ := vx_keep h0 e1 hS hAX hf hL hF
    obtain ⟨t2, a1, b1⟩ := kx E ce q u t T'.heap (locs ++ L) e1.symm (by rw [← e2]; exact X'.warmed.alike) hp hb k1 k2 k3 (by rw [e1]; exact hce) hcv hcl T' rfl X'
    exact ⟨t2, st.trans a1, b1⟩
theorem vx_calld {S SX : Type} {post : UInt64 → S → Prop} {px : SX → Prop} {B : S → State → Prop} {BX : String → SX → State → Prop} {AX : Nat → Prop} (hr : vx_Run p l e R s m args below meth c H locs cells slots mc ms (F0 m pc ls st0) rest (va_Qd post B A1 a) (vx_X px BX AX) free) (hS : va_S A0 H0 H locs) (hA : ∀ q, q < H.size → A1 q → A0 q) (hf : ∀ q, free q → A0 q) (hAX : ∀ q, q < H.size → AX q → A0 q)
    (kx : ∀ (E : String) (ce : Cell) (q9 : Addr) (u : SX) (t : State) (H1 : Heap) (locs1 : List Loc), t.heap = H1 → s.vm.Alike t.vm → px u → BX E u t → H.size ≤ H1.size → (∀ q : Nat, q < H.size → ¬ AX q → H1[q]? = H[q]?) → va_S A0 H0 H1 locs1 → H1[q9]? = some ce → ce.vm = .none → s.vm.findClass E = some ce.cls → vx_W p l e R s m args below meth c H1 locs1 (cells + mc) (slots + ms) Q (F0 m pc ls rest) q9)
    (kk : ∀ (r : UInt64) (u : S) (t : State) (H1 : Heap) (locs1 : List Loc), t.heap = H1 → s.vm.Alike t.vm → post r u → B u t → H.size ≤ H1.size → (∀ q : Nat, q < H.size → ¬ A1 q → H1[q]? = H[q]?) → va_S A0 H0 H1 locs1 → W p l e R s m args below meth c H1 locs1 (cells + mc) (slots + ms) Q (F0 m (pc + 3) ls (.double r :: rest))) : W p l e R s m args below meth c H locs cells slots Q (F0 m pc ls st0) := by
  intro T hT X
  rcases hr T hT X with ⟨v, st₀, t, T', L, h0, X', hL, e1, e2, ⟨⟨r, u, hv, hp, hb⟩, hF⟩, st⟩ | ⟨q, st₀, t, T', L, E, ce, h0, X', hL, e1, e2, ⟨u, hp, hb, hF⟩, hce, hcv, hcl, st⟩
  · cases hv
    obtain ⟨k1, k2, k3⟩ := vx_keep h0 e1 hS hA hf hL hF
    obtain ⟨t2, a1, b1⟩ := kk r u t T'.heap (locs ++ L) e1.symm (by rw [← e2]; exact X'.warmed.alike) hp hb k1 k2 k3 T' rfl X'
    exact ⟨t2, st t2 a1, b1⟩
  · obtain ⟨k1, k2, k3⟩ := vx_keep h0 e1 hS hAX hf hL hF
    obtain ⟨t2, a1, b1⟩ := kx E ce q u t T'.heap (locs ++ L) e1.symm (by rw [← e2]; exact X'.warmed.alike) hp hb k1 k2 k3 (by rw [e1]; exact hce) hcv hcl T' rfl X'
    exact ⟨t2, st.trans a1, b1⟩
theorem vx_callv {S SX : Type} {post : S → Prop} {px : SX → Prop} {B : S → State → Prop} {BX : String → SX → State → Prop} {AX : Nat → Prop} (hr : vx_Run p l e R s m args below meth c H locs cells slots mc ms (F0 m pc ls st0) rest (va_Qv post B A1 a) (vx_X px BX AX) free) (hS : va_S A0 H0 H locs) (hA : ∀ q, q < H.size → A1 q → A0 q) (hf : ∀ q, free q → A0 q) (hAX : ∀ q, q < H.size → AX q → A0 q)
    (kx : ∀ (E : String) (ce : Cell) (q9 : Addr) (u : SX) (t : State) (H1 : Heap) (locs1 : List Loc), t.heap = H1 → s.vm.Alike t.vm → px u → BX E u t → H.size ≤ H1.size → (∀ q : Nat, q < H.size → ¬ AX q → H1[q]? = H[q]?) → va_S A0 H0 H1 locs1 → H1[q9]? = some ce → ce.vm = .none → s.vm.findClass E = some ce.cls → vx_W p l e R s m args below meth c H1 locs1 (cells + mc) (slots + ms) Q (F0 m pc ls rest) q9)
    (kk : ∀ (u : S) (t : State) (H1 : Heap) (locs1 : List Loc), t.heap = H1 → s.vm.Alike t.vm → post u → B u t → H.size ≤ H1.size → (∀ q : Nat, q < H.size → ¬ A1 q → H1[q]? = H[q]?) → va_S A0 H0 H1 locs1 → W p l e R s m args below meth c H1 locs1 (cells + mc) (slots + ms) Q (F0 m (pc + 3) ls (rest))) : W p l e R s m args below meth c H locs cells slots Q (F0 m pc ls st0) := by
  intro T hT X
  rcases hr T hT X with ⟨v, st₀, t, T', L, h0, X', hL, e1, e2, ⟨⟨u, hv, hp, hb⟩, hF⟩, st⟩ | ⟨q, st₀, t, T', L, E, ce, h0, X', hL, e1, e2, ⟨u, hp, hb, hF⟩, hce, hcv, hcl, st⟩
  · cases hv
    obtain ⟨k1, k2, k3⟩ := vx_keep h0 e1 hS hA hf hL hF
    obtain ⟨t2, a1, b1⟩ := kk u t T'.heap (locs ++ L) e1.symm (by rw [← e2]; exact X'.warmed.alike) hp hb k1 k2 k3 T' rfl X'
    exact ⟨t2, st t2 a1, b1⟩
  · obtain ⟨k1, k2, k3⟩ := vx_keep h0 e1 hS hAX hf hL hF
    obtain ⟨t2, a1, b1⟩ := kx E ce q u t T'.heap (locs ++ L) e1.symm (by rw [← e2]; exact X'.warmed.alike) hp hb k1 k2 k3 (by rw [e1]; exact hce) hcv hcl T' rfl X'
    exact ⟨t2, st.trans a1, b1⟩
end Rows
section Ends
variable {p : Program} {l : Launch} {e : Env} {R : Room} {s : State} {m : MethodId} {args : Array Value} {below : List Frame} {meth : Method} {c : Code} {H : Heap} {locs : List Loc} {cells slots : Nat} {Q : State → Prop}
variable {mc ms : Nat} {free : Addr → Prop} {A0 A1 : Nat → Prop} {H0 : Heap} {a : Array Value} {ls : Array Slot} {st0 rest : List Value}
variable {Qc : Array Value → State → Outcome → State → Prop} {XC : String → State → State → Prop}
/-- what a body that may throw owes at its end -/
def vx_MQ (below : List Frame) (Qc : Array Value → State → Outcome → State → Prop) (XC : String → State → State → Prop) (a : Array Value) (s : State) (mc ms : Nat) (free : Addr → Prop) : State → Prop := fun t =>
  ∃ o, t.status = .running ∧ Ended t below o ∧ vx_Q Qc XC mc ms free a s o t
theorem vx_ret {g : JFrame} {mc ms : Nat} (k : W p l e R s m args below meth c H locs cells slots (MQ below Qc args s mc ms free) g) : W p l e R s m args below meth c H locs cells slots (vx_MQ below Qc XC args s mc ms free) g := by
  intro T hT X
  obtain ⟨t, a1, o, b1, b2, b3, b4⟩ := k T hT X
  exact ⟨t, a1, o, b1, b2, Or.inl ⟨b3, b4⟩⟩
/-- not caught here: it goes on to the caller -/
theorem vx_widen {g : JFrame} {q : Addr} {k n : Nat} (h1 : cells ≤ k) (h2 : slots ≤ n) (kk : vx_W p l e R s m args below meth c H locs k n Q g q) : vx_W p l e R s m args below meth c H locs cells slots Q g q := fun T hT X => kk T hT (stand_widen X h1 h2)
theorem vx_out {pc : Nat} {E : String} {ce : Cell} {q : Addr} {mc ms : Nat} (hout : ∀ x ∈ c.exceptionTable.toList, covers x pc = false) (hlocks : meth.locks = false) (hcell : H[q]? = some ce) (hv : ce.vm = .none) (hcl : s.vm.findClass E = some ce.cls)
    (hx : ∀ t : State, t.heap = H → s.vm.Alike t.vm → XC E s t) (hf : ∀ z ∈ locs, free z.base) (hc : cells ≤ mc) (hs : slots ≤ ms) :
    vx_W p l e R s m args below meth c H locs cells slots (vx_MQ below Qc XC args s mc ms free) (F0 m pc ls rest) q := by
  intro T hT X
  obtain ⟨st1, hrun, hend, hW, hsm⟩ := X.leaveThrown q (g := F0 m pc ls rest) rfl rfl rfl hout hlocks
  have hcell9 : (T.setFrames (.throwing q :: below)).heap[q]? = some ce := by
    show T.heap[q]? = some ce
    rw [hT]; exact hcell
  exact ⟨_, st1, .threw q, hrun, hend, Or.inr ⟨q, rfl, E, ce, locs, hx _ hT hW.alike, hcell9, hv, hcl, hW, hsm.mono hc hs, hf⟩⟩
theorem vx_frame {U : State} {k n : Nat} (h : s.sameButNew ({ U with vm := s.vm } : State) locs k n) : s.heap.size ≤ U.heap.size ∧ ∀ q : Nat, q < s.heap.size → (∀ z ∈ locs, z.base ≠ q) → U.heap[q]? = s.heap[q]? := by
  obtain ⟨-, h2, -, -, -, h6⟩ := h
  refine ⟨h2, fun q hq hz => ?_⟩
  obtain ⟨c9, e1, e2, e3, e4⟩ := h6 q _ (Array.getElem?_eq_getElem hq)
  have hs : c9.slots = (s.heap[q]).slots := Array.ext_getElem? fun i => e4 i fun hm => hz _ hm rfl
  have h9 : c9 = s.heap[q] := by
    rw [hs] at e2
    exact e2
  have e5 : U.heap[q]? = some c9 := e1
  rw [e5, h9, Array.getElem?_eq_getElem hq]
/-- the words of a throw but the four that speak of the heap -/
def vx_no (w : Cond) : Bool := decide (w ≠ .isRef (.static Bundle.tN "UNASSIGNED_STACK" Bundle.steD)) && decide (w ≠ .isRef (.static Bundle.tN "SUPPRESSED_SENTINEL" Bundle.listD)) && decide (w ≠ .laysStatic Bundle.tN "UNASSIGNED_STACK" Bundle.steD) && decide (w ≠ .laysStatic Bundle.tN "SUPPRESSED_SENTINEL" Bundle.listD)
def vx_at0 (own : String) (ic : Nat) (X : String) (names : List String) : List Cond := (Bundle.ownAtoms0 own ic X names).filter vx_no
def vx_atS (own : String) (ic : Nat) (X : String) (names : List String) : List Cond := (Bundle.ownAtoms own ic X names).filter vx_no
/-- a word that the tables alone decide, or a good one -/
def vx_ot (w : Cond) : Bool := w.onTables || goodWord w
theorem vx_ot_at {args a' : Array Value} {s U : State} {w : Cond} (hW : s.WarmedH U.vm) (hvm : s.vm = U.vm) (hg : vx_ot w = true) (h : w.before args s = true) : w.before a' U = true := by
  simp only [vx_ot, Bool.or_eq_true] at hg
  rcases hg with hg | hg
  · exact va_tabs hg hvm h
  · exact word_at hW (good_of_word hg) h
/-- a list's words: the good ones out of the method's own list, the others by premises of their own -/
theorem vx_hat {args : Array Value} {s : State} {L B : List Cond} (h1 : ∀ w ∈ L.filter goodWord, w.before args s = true) (h2 : ∀ w ∈ L.filter (fun w => !goodWord w), w ∈ B) (h3 : ∀ w ∈ B, w.before args s = true) : ∀ w ∈ L, w.before args s = true := by
  intro w hw
  by_cases g : goodWord w = true
  · exact h1 w (List.mem_filter.mpr ⟨hw, g⟩)
  · refine h3 w (h2 w (List.mem_filter.mpr ⟨hw, ?_⟩))
    show (!goodWord w) = true
    cases hgw : goodWord w
    · rfl
    · exact absurd hgw g
theorem vx_c {args : Array Value} {s : State} {w : Cond} {B : List Cond} (h : w.before args s = true) (t : ∀ w ∈ B, w.before args s = true) : ∀ w' ∈ w :: B, w'.before args s = true := fun w' h' => (List.mem_cons.mp h').elim (fun e => by rw [e]; exact h) (t w')
theorem vx_n {args : Array Value} {s : State} : ∀ w ∈ ([] : List Cond), w.before args s = true := fun _ h => nomatch h
theorem vx_own {args : Array Value} {s : State} {L : List Cond} (h1 : ∀ w ∈ L.filter vx_no, w.before args s = true)
    (hU : (Cond.isRef (.static Bundle.tN "UNASSIGNED_STACK" Bundle.steD)).before args s = true) (hN : (Cond.isRef (.static Bundle.tN "SUPPRESSED_SENTINEL" Bundle.listD)).before args s = true)
    (lU : (Cond.laysStatic Bundle.tN "UNASSIGNED_STACK" Bundle.steD).before args s = true) (lN : (Cond.laysStatic Bundle.tN "SUPPRESSED_SENTINEL" Bundle.listD).before args s = true) : ∀ w ∈ L, w.before args s = true := by
  intro w hw
  by_cases e1 : w = .isRef (.static Bundle.tN "UNASSIGNED_STACK" Bundle.steD)
  · rw [e1]; exact hU
  · by_cases e2 : w = .isRef (.static Bundle.tN "SUPPRESSED_SENTINEL" Bundle.listD)
    · rw [e2]; exact hN
    · by_cases e3 : w = .laysStatic Bundle.tN "UNASSIGNED_STACK" Bundle.steD
      · rw [e3]; exact lU
      · by_cases e4 : w = .laysStatic Bundle.tN "SUPPRESSED_SENTINEL" Bundle.listD
        · rw [e4]; exact lN
        · exact h1 w (List.mem_filter.mpr ⟨hw, by unfold vx_no; rw [decide_eq_true e1, decide_eq_true e2, decide_eq_true e3, decide_eq_true e4]; rfl⟩)
/-- where a static field lies, its class's statics cell in H -/
def vx_L (C n d : String) (A : Nat → Prop) (U : State) (H : Heap) : Prop := ∃ (c : ClassId) (k : Class) (i : Nat) (f : Field) (a : Nat) (cell : Cell), U.vm.findClass C = some c ∧ U.fieldFound? C n d = some (c, k, i, f) ∧ f.isStatic = true ∧ k.statics = some a ∧ H[a]? = some cell ∧ cell.vm.isStatics = true ∧ cell.cls = c ∧ f.slot < cell.slots.size ∧ k.staticTypes[f.slot]? = some f.type ∧ ¬ A a
theorem vx_L.moved {C n d : String} {A : Nat → Prop} {u U : State} {H : Heap} (hvm : u.vm.Alike U.vm) (h : vx_L C n d A u H) : vx_L C n d A U H := by
  obtain ⟨c, k, i, f, a, cell, h1, h2, h3, h4, h5, h6, h7, h8, h9, h10⟩ := h
  obtain ⟨k', hi', he⟩ := State.fieldFound?_setVm hvm h2
  exact ⟨c, k', i, f, a, cell, by rw [hvm.findClass]; exact h1, hi', h3, by rw [he]; exact h4, h5, h6, h7, h8, by rw [he]; exact h9, h10⟩
theorem vx_L.kept {C n d : String} {A : Nat → Prop} {U : State} {H H1 : Heap} (h : vx_L C n d A U H) (hq : ∀ a : Nat, a < H.size → ¬ A a → H1[a]? = H[a]?) : vx_L C n d A U H1 := by
  obtain ⟨c, k, i, f, a, cell, h1, h2, h3, h4, h5, h6, h7, h8, h9, h10⟩ := h
  exact ⟨c, k, i, f, a, cell, h1, h2, h3, h4, by rw [hq a (Array.getElem?_eq_some_iff.mp h5).1 h10]; exact h5, h6, h7, h8, h9, h10⟩
theorem vx_L.narrow {C n d : String} {A B : Nat → Prop} {U : State} {H : Heap} (h : vx_L C n d A U H) (hAB : ∀ q, B q → A q) : vx_L C n d B U H := by
  obtain ⟨c, k, i, f, a, cell, h1, h2, h3, h4, h5, h6, h7, h8, h9, h10⟩ := h
  exact ⟨c, k, i, f, a, cell, h1, h2, h3, h4, h5, h6, h7, h8, h9, fun z => h10 (hAB _ z)⟩
theorem vx_L.word {C n d : String} {A : Nat → Prop} {s : State} {args : Array Value} (h : vx_L C n d A s s.heap) : (Cond.laysStatic C n d).before args s = true := by
  obtain ⟨c, k, i, f, a, cell, h1, h2, h3, h4, h5, h6, h7, h8, h9, -⟩ := h
  show (Cond.laysStatic C n d).holds args s none s [] = true
  exact Cond.laysStatic_of h1 h2 h3 h4 h5 h6 h7 h8 h9
/-- .. and what it holds: null or some reference -/
def vx_Zq (C n d : String) (A : Nat → Prop) (U : State) (H : Heap) : Prop := va_Zq C n d A U H ∧ vx_L C n d A U H
theorem vx_Zq.moved {C n d : String} {A : Nat → Prop} {u U : State} {H : Heap} (hvm : u.vm.Alike U.vm) (h : vx_Zq C n d A u H) : vx_Zq C n d A U H := ⟨va_Zq.moved hvm h.1, vx_L.moved hvm h.2⟩
theorem vx_Zq.kept {C n d : String} {A : Nat → Prop} {U : State} {H H1 : Heap} (h : vx_Zq C n d A U H) (hq : ∀ a : Nat, a < H.size → ¬ A a → H1[a]? = H[a]?) : vx_Zq C n d A U H1 := ⟨va_Zq.kept h.1 hq, vx_L.kept h.2 hq⟩
theorem vx_Zq.narrow {C n d : String} {A B : Nat → Prop} {U : State} {H : Heap} (h : vx_Zq C n d A U H) (hAB : ∀ q, B q → A q) : vx_Zq C n d B U H := ⟨va_Zq.narrow h.1 hAB, vx_L.narrow h.2 hAB⟩
theorem vx_Zqof {args : Array Value} {s : State} {C n d : String} {A : Nat → Prop} (hl : (Cond.laysStatic C n d).before args s = true) (hini : (Cond.initialized C).before args s = true) (h : (Cond.isRef (.static C n d)).before args s = true) (hA : ∀ a : Nat, a < s.heap.size → ¬ A a) : vx_Zq C n d A s s.heap := by
  refine ⟨va_Zqof hl hini h hA, ?_⟩
  obtain ⟨c, k, i, f, a, cell, h1, h2, h3, h4, h5, h6, h7, h8, h9⟩ := Cond.laysStatic_spec hl
  exact ⟨c, k, i, f, a, cell, h1, h2, h3, h4, h5, h6, h7, h8, h9, hA a (Array.getElem?_eq_some_iff.mp h5).1⟩
theorem vx_isRef {C n d : String} {v : Value} {A : Nat → Prop} {s : State} {args : Array Value} (h : va_Z C n d v A s s.heap) (hv : v.isRef = true) : (Cond.isRef (.static C n d)).before args s = true := by
  obtain ⟨cf, kf, fi, f, a, cell, h1, h2, h3, h4, h5, h6, h7, -⟩ := h
  have he : (Term.static C n d).eval args s none [] s = some v := by
    simp [Term.eval, State.fieldNamed?, h1, h2, h4, h5, h6, h7]
  simp only [Cond.before, Cond.holds, Cond.value, he]
  cases v <;> simp_all [Value.isRef]
theorem vx_isRefq {C n d : String} {A : Nat → Prop} {s : State} {args : Array Value} (h : va_Zq C n d A s s.heap) : (Cond.isRef (.static C n d)).before args s = true := by
  rcases h with h | ⟨t, h⟩
  · exact vx_isRef h rfl
  · exact vx_isRef h rfl
/-- the same frame, seen from here: as if the method were called anew in this heap -/
theorem vx_rebase {T : State} (X : Stand p l e R s m args below meth c T locs cells slots) {R' : Room} (hf : R'.frames ≤ R.frames) (hl : R'.locals ≤ R.locals) (hc : cells + R'.cells ≤ R.cells) (hs : slots + R'.slots ≤ R.slots) :
    Stand p l e R' ((T.setVm s.vm).setFrames (.invoking m args :: below)) m args below meth c T [] 0 0 := by
  have htop : (T.setVm s.vm).topJava?.isSome := X.here.top
  have hF : ((T.setVm s.vm).setFrames (.invoking m args :: below)).frames = .invoking m args :: below := State.frames_setFrames _ (State.cur_lt_of_top htop)
  obtain ⟨g₀, hg0⟩ := Option.isSome_iff_exists.mp htop
  obtain ⟨r, hr⟩ := State.topJava?_eq_some.mp hg0
  have hl9 : e.platform.stackLimits (T.setVm s.vm).me = e.platform.stackLimits s.me := X.limits
  have hb9 : (T.setVm s.vm).me.stackBytes = s.me.stackBytes := X.bytes
  refine ⟨X.admits, X.cas, X.clock, hF, ?_, X.hears, X.method, X.code, X.here, X.tail, X.warmed, ?_, ?_, ?_⟩
  · have h := X.room
    have hU : ((T.setVm s.vm).setFrames (.invoking m args :: below)).localsInUse = s.localsInUse := by
      rw [State.localsInUse_invoking hF (meth := meth) (c := c) X.method X.code, State.localsInUse_invoking X.frames X.method X.code]
    simp only [State.hasRoom, Bool.and_eq_true, decide_eq_true_eq] at h ⊢
    obtain ⟨⟨⟨⟨h1, h2, h3, h4, h5, h6⟩, h7⟩, h8⟩, h9⟩ := h
    rw [X.frames, List.length_cons] at h2 h3
    have q1 := X.heapSize
    have q2 := X.used
    simp only [hF, hU, List.length_cons, State.stackLimits_setFrames, State.stackBytes_setFrames, hl9, hb9]
    refine ⟨⟨⟨⟨by omega, by omega, by omega, by omega, by omega, h6⟩, ?_⟩, ?_⟩, X.book⟩
    · show T.heap.size + R'.cells ≤ e.platform.maxCells
      omega
    · show T.slotsUsed + R'.slots ≤ e.platform.maxSlots
      omega
  · rw [State.stackLimits_setFrames]; rfl
  · rw [State.stackBytes_setFrames]; rfl
  · refine ⟨?_, Nat.le_refl _, Nat.le_refl _, ?_, ?_, fun a c9 h9 => ⟨c9, h9, rfl, rfl, fun _ _ => rfl⟩⟩
    · obtain ⟨t, ht, -⟩ := State.frames_cons hr
      show T.setVm s.vm = { ((T.setVm s.vm).setFrames (.invoking m args :: below)).setFrames (T.setVm s.vm).frames with heap := T.heap, slotsUsed := T.slotsUsed }
      rw [State.setFrames_setFrames, State.setFrames_self ht]
      rfl
    · show T.slotsUsed = T.slotsUsed + ((T.heap.toList.drop T.heap.size).map (·.slots.size)).sum
      rw [List.drop_eq_nil_of_le (Nat.le_of_eq Array.length_toList)]
      rfl
    · show ((T.heap.toList.drop T.heap.size).map (·.slots.size)).sum ≤ 0
      rw [List.drop_eq_nil_of_le (Nat.le_of_eq Array.length_toList)]
      exact Nat.le_refl _
/-- 'throw new E()': new; dup; invokespecial; athrow -/
theorem vx_throw0 {cc : ByteArray} {pc : Nat} (hexec : p.tables.exec = Jvm.exec) (hb : c.code = cc) (hl : l.stackTraces = false) {own cls : String} {names : List String} {ik ic mc ms : Nat} {A : Nat → Prop}
    (hown : s.vm.findClass own = some m.cls) (hcls : Bundle.fit cls = true) (hnames : ∀ n ∈ names, Bundle.fit n = true)
    (hk : (Cond.classLink own ik cls).before args s = true) (hini : (Cond.initialized cls).before args s = true) (hat : ∀ w ∈ vx_at0 own ic cls names, w.before args s = true)
    (hgood : ∀ w ∈ Cond.classLink own ik cls :: Cond.initialized cls :: vx_at0 own ic cls names, vx_ot w = true)
    (hU : vx_Zq Bundle.tN "UNASSIGNED_STACK" Bundle.steD A s s.heap) (hN : vx_Zq Bundle.tN "SUPPRESSED_SENTINEL" Bundle.listD A s s.heap) (hS : va_S A s.heap H locs) (hsize : ls.size = c.maxLocals)
    (d0 : decode cc pc = .ok (.new ik, 3)) (d3 : decode cc (pc + 3) = .ok (.dup, 1)) (d4 : decode cc (pc + 4) = .ok (.invokespecial ic, 3)) (d7 : decode cc (pc + 7) = .ok (.athrow, 1))
    (hout : ∀ x ∈ c.exceptionTable.toList, covers x (pc + 7) = false)
    (hRframes : names.length + 3 < R.frames) (hRlocals : (rest.map fun v => v.category).sum + (13 * (names.length + 1) + 42) ≤ R.locals) (hRcells : cells + 1 ≤ R.cells) (hRslots : slots + 6 ≤ R.slots) (hlocks : meth.locks = false)
    (hx : ∀ t : State, s.vm.Alike t.vm → H.size ≤ t.heap.size → (∀ q : Nat, q < H.size → t.heap[q]? = H[q]?) → XC cls s t)
    (hf : ∀ z ∈ locs, free z.base) (hc : cells + 1 ≤ mc) (hs : slots + 6 ≤ ms) :
    W p l e R s m args below meth c H locs cells slots (vx_MQ below Qc XC args s mc ms free) (F0 m pc ls rest) := by
  intro T hT X
  have htr : e.platform.stackTraces = false := (show e.platform.stackTraces = l.stackTraces by rw [X.admits.platform]).trans hl
  have Y := vx_rebase X (R' := { frames := R.frames, locals := R.locals, cells := 1, slots := 6 }) (Nat.le_refl _) (Nat.le_refl _) hRcells hRslots
  obtain ⟨s', hA⟩ : ∃ z, z = (T.setVm s.vm).setFrames (.invoking m args :: below) := ⟨_, rfl⟩
  rw [← hA] at Y
  have hvm : s'.vm = s.vm := by rw [hA]; rfl
  have hhp : s'.heap = H := by rw [hA]; exact hT
  have hW0 : s.WarmedH s'.vm := by rw [hvm]; exact State.WarmedH.refl s
  have hat' : ∀ w ∈ vx_at0 own ic cls names, w.before args s' = true := fun w hw => vx_ot_at hW0 hvm.symm (hgood w (List.mem_cons_of_mem _ (List.mem_cons_of_mem _ hw))) (hat w hw)
  have hk' : (Cond.classLink own ik cls).before args s' = true := vx_ot_at hW0 hvm.symm (hgood _ List.mem_cons_self) hk
  have hini' : (Cond.initialized cls).before args s' = true := vx_ot_at hW0 hvm.symm (hgood _ (List.mem_cons_of_mem _ List.mem_cons_self)) hini
  have hU' : vx_Zq Bundle.tN "UNASSIGNED_STACK" Bundle.steD A s' s'.heap := by rw [hhp]; exact vx_Zq.moved hW0.alike (hU.kept hS.2.1)
  have hN' : vx_Zq Bundle.tN "SUPPRESSED_SENTINEL" Bundle.listD A s' s'.heap := by rw [hhp]; exact vx_Zq.moved hW0.alike (hN.kept hS.2.1)
  have h : ∀ w ∈ Bundle.ownAtoms0 own ic cls names, w.before args s' = true := vx_own hat' (vx_isRefq hU'.1) (vx_isRefq hN'.1) hU'.2.word hN'.2.word
  have hown' : s'.vm.findClass own = some m.cls := by rw [hvm]; exact hown
  have hins : (Cond.instantiable cls 6).before args s' = true := h _ (by simp [Bundle.ownAtoms0])
  obtain ⟨vm₁, cX, kX, hfX, hkX, -, -, X₁, st1⟩ := Y.newCold hexec (own := own) (C := cls) (index := ik) (n := 6) hown' hk' hins hini'
    (g := F0 m pc ls rest) rfl (by rw [hb]; exact d0) (Nat.le_refl _) (Nat.le_refl _)
  generalize hT1 : (T.setVm vm₁).pushCell { cls := cX, slots := kX.instanceTypes.map defaultValue, vm := .none } = T1 at X₁ st1
  have hcat : (Value.ref T.heap.size).category = 1 := rfl
  have hcellA : T1.heap[T.heap.size]? = some (freshCell cX kX) := by rw [← hT1]; exact State.heap_pushCell_size _ _
  have d3' : decode c.code (pc + 3) = .ok (.dup, 1) := by rw [hb]; exact d3
  obtain ⟨U, hsteps, hrun, hend, hW, hsame, ce, hce, hO⟩ := X₁.ctorThrow0 hexec htr (own := own) (cls := cls) (names := names) (ic := ic) hown' hcls hnames h (fun x hx => nomatch hx) hfX hkX hcellA (by rw [hhp, hT]; exact Nat.le_refl _)
    (g := { method := m, pc := pc + 4, locals := ls, stack := .ref T.heap.size :: .ref T.heap.size :: rest, locked := none }) rfl hsize rfl rfl (rest := rest) rfl
    (by rw [hb]; exact d4) (by rw [hb]; exact d7) hout hRframes (by simp only [List.map_cons, List.sum_cons, hcat]; omega) hlocks
  obtain ⟨f1, f2⟩ := vx_frame hsame
  rw [hhp] at f1 f2
  have hWs : s.WarmedH U.vm := State.WarmedH.trans hW0 hW
  have hcl : s.vm.findClass cls = some ce.cls := by
    have h9 := hO.cls
    rw [hvm] at h9
    exact h9
  have hall : s.sameButNew ({ U with vm := s.vm } : State) locs mc ms := by
    subst hA
    obtain ⟨e1, e2⟩ := hsame
    rw [State.setFrames_setFrames] at e1
    have h2 : (T.setVm s.vm).sameButNew ({ U with vm := s.vm } : State) [] (0 + 1) (0 + 6) := ⟨e1, e2⟩
    have h3 := X.same.trans h2
    rw [List.append_nil] at h3
    exact h3.mono hc hs
  refine ⟨U, ?_, .threw T.heap.size, hrun, hend, Or.inr ⟨T.heap.size, rfl, cls, ce, locs, hx U hWs.alike f1 (fun q hq => f2 q hq (fun z hz => nomatch hz)), hce, hO.vm, hcl, hWs, hall, hf⟩⟩
  refine st1 _ ?_
  show Steps p.tables e below (T1.setTop { method := m, pc := pc + 3, locals := ls, stack := .ref T.heap.size :: rest, locked := none }) _
  jvm_step X₁.here [X₁.here.top, hexec, d3', Value.category]
  exact hsteps
/-- 'throw new E("text")': new; dup; ldc; invokespecial; athrow -/
theorem vx_throwS {cc : ByteArray} {pc : Nat} (hexec : p.tables.exec = Jvm.exec) (hb : c.code = cc) (hl : l.stackTraces = false) {own cls text : String} {names : List String} {ik is ic mc ms sa : Nat} {A : Nat → Prop}
    (hown : s.vm.findClass own = some m.cls) (hcls : Bundle.fit cls = true) (hnames : ∀ n ∈ names, Bundle.fit n = true)
    (hk : (Cond.classLink own ik cls).before args s = true) (hini : (Cond.initialized cls).before args s = true) (hstr : vk_R own is text sa s) (hat : ∀ w ∈ vx_atS own ic cls names, w.before args s = true)
    (hgood : ∀ w ∈ Cond.classLink own ik cls :: Cond.initialized cls :: vx_atS own ic cls names, vx_ot w = true)
    (hU : vx_Zq Bundle.tN "UNASSIGNED_STACK" Bundle.steD A s s.heap) (hN : vx_Zq Bundle.tN "SUPPRESSED_SENTINEL" Bundle.listD A s s.heap) (hS : va_S A s.heap H locs) (hsize : ls.size = c.maxLocals)
    (d0 : decode cc pc = .ok (.new ik, 3)) (d3 : decode cc (pc + 3) = .ok (.dup, 1)) (d4 : decode cc (pc + 4) = .ok (.ldc is, 2)) (d6 : decode cc (pc + 6) = .ok (.invokespecial ic, 3)) (d9 : decode cc (pc + 9) = .ok (.athrow, 1))
    (hout : ∀ x ∈ c.exceptionTable.toList, covers x (pc + 9) = false)
    (hRframes : names.length + 3 < R.frames) (hRlocals : (rest.map fun v => v.category).sum + (13 * (names.length + 1) + 43) ≤ R.locals) (hRcells : cells + 1 ≤ R.cells) (hRslots : slots + 6 ≤ R.slots) (hlocks : meth.locks = false)
    (hx : ∀ t : State, s.vm.Alike t.vm → H.size ≤ t.heap.size → (∀ q : Nat, q < H.size → t.heap[q]? = H[q]?) → XC cls s t)
    (hf : ∀ z ∈ locs, free z.base) (hc : cells + 1 ≤ mc) (hs : slots + 6 ≤ ms) :
    W p l e R s m args below meth c H locs cells slots (vx_MQ below Qc XC args s mc ms free) (F0 m pc ls rest) := by
  intro T hT X
  have htr : e.platform.stackTraces = false := (show e.platform.stackTraces = l.stackTraces by rw [X.admits.platform]).trans hl
  have Y := vx_rebase X (R' := { frames := R.frames, locals := R.locals, cells := 1, slots := 6 }) (Nat.le_refl _) (Nat.le_refl _) hRcells hRslots
  obtain ⟨s', hA⟩ : ∃ z, z = (T.setVm s.vm).setFrames (.invoking m args :: below) := ⟨_, rfl⟩
  rw [← hA] at Y
  have hvm : s'.vm = s.vm := by rw [hA]; rfl
  have hhp : s'.heap = H := by rw [hA]; exact hT
  have hW0 : s.WarmedH s'.vm := by rw [hvm]; exact State.WarmedH.refl s
  have hat' : ∀ w ∈ vx_atS own ic cls names, w.before args s' = true := fun w hw => vx_ot_at hW0 hvm.symm (hgood w (List.mem_cons_of_mem _ (List.mem_cons_of_mem _ hw))) (hat w hw)
  have hk' : (Cond.classLink own ik cls).before args s' = true := vx_ot_at hW0 hvm.symm (hgood _ List.mem_cons_self) hk
  have hini' : (Cond.initialized cls).before args s' = true := vx_ot_at hW0 hvm.symm (hgood _ (List.mem_cons_of_mem _ List.mem_cons_self)) hini
  have hU' : vx_Zq Bundle.tN "UNASSIGNED_STACK" Bundle.steD A s' s'.heap := by rw [hhp]; exact vx_Zq.moved hW0.alike (hU.kept hS.2.1)
  have hN' : vx_Zq Bundle.tN "SUPPRESSED_SENTINEL" Bundle.listD A s' s'.heap := by rw [hhp]; exact vx_Zq.moved hW0.alike (hN.kept hS.2.1)
  have h : ∀ w ∈ Bundle.ownAtoms own ic cls names, w.before args s' = true := vx_own hat' (vx_isRefq hU'.1) (vx_isRefq hN'.1) hU'.2.word hN'.2.word
  have hown' : s'.vm.findClass own = some m.cls := by rw [hvm]; exact hown
  have hins : (Cond.instantiable cls 6).before args s' = true := h _ (by simp [Bundle.ownAtoms])
  obtain ⟨vm₁, cX, kX, hfX, hkX, -, -, X₁, st1⟩ := Y.newCold hexec (own := own) (C := cls) (index := ik) (n := 6) hown' hk' hins hini'
    (g := F0 m pc ls rest) rfl (by rw [hb]; exact d0) (Nat.le_refl _) (Nat.le_refl _)
  generalize hT1 : (T.setVm vm₁).pushCell { cls := cX, slots := kX.instanceTypes.map defaultValue, vm := .none } = T1 at X₁ st1
  have hcat : (Value.ref T.heap.size).category = 1 := rfl
  have hcellA : T1.heap[T.heap.size]? = some (freshCell cX kX) := by rw [← hT1]; exact State.heap_pushCell_size _ _
  have d3' : decode c.code (pc + 3) = .ok (.dup, 1) := by rw [hb]; exact d3
  have d4' : decode c.code (pc + 4) = .ok (.ldc is, 2) := by rw [hb]; exact d4
  have hstr' : vk_R own is text sa s' := vk_R.warm hW0 hstr
  obtain ⟨U, hsteps, hrun, hend, hW, hsame, ce, hce, hO⟩ := X₁.ctorThrowS hexec htr (own := own) (cls := cls) (names := names) (ic := ic) hown' hcls hnames h (fun x hx => nomatch hx) hfX hkX hcellA (by rw [hhp, hT]; exact Nat.le_refl _) (msg := .ref sa) rfl
    (g := { method := m, pc := pc + 6, locals := ls, stack := .ref sa :: .ref T.heap.size :: .ref T.heap.size :: rest, locked := none }) rfl hsize rfl rfl (rest := rest) rfl
    (by rw [hb]; exact d6) (by rw [hb]; exact d9) hout hRframes (by simp only [List.map_cons, List.sum_cons, hcat]; omega) hlocks
  obtain ⟨f1, f2⟩ := vx_frame hsame
  rw [hhp] at f1 f2
  have hWs : s.WarmedH U.vm := State.WarmedH.trans hW0 hW
  have hcl : s.vm.findClass cls = some ce.cls := by
    have h9 := hO.cls
    rw [hvm] at h9
    exact h9
  have hall : s.sameButNew ({ U with vm := s.vm } : State) locs mc ms := by
    subst hA
    obtain ⟨e1, e2⟩ := hsame
    rw [State.setFrames_setFrames] at e1
    have h2 : (T.setVm s.vm).sameButNew ({ U with vm := s.vm } : State) [] (0 + 1) (0 + 6) := ⟨e1, e2⟩
    have h3 := X.same.trans h2
    rw [List.append_nil] at h3
    exact h3.mono hc hs
  refine ⟨U, ?_, .threw T.heap.size, hrun, hend, Or.inr ⟨T.heap.size, rfl, cls, ce, locs, hx U hWs.alike f1 (fun q hq => f2 q hq (fun z hz => nomatch hz)), hce, hO.vm, hcl, hWs, hall, hf⟩⟩
  refine st1 _ ?_
  show Steps p.tables e below (T1.setTop { method := m, pc := pc + 3, locals := ls, stack := .ref T.heap.size :: rest, locked := none }) _
  jvm_step X₁.here [X₁.here.top, hexec, d3', Value.category]
  exact X₁.ldcString hexec (own := own) (text := text) (index := is) (a := sa) hown' hstr'.1 hstr'.2
    (g := { method := m, pc := pc + 4, locals := ls, stack := .ref T.heap.size :: .ref T.heap.size :: rest, locked := none }) rfl d4' _ hsteps
/-- 'throw new E("text")', the text by a wide index -/
theorem vx_throwSW {cc : ByteArray} {pc : Nat} (hexec : p.tables.exec = Jvm.exec) (hb : c.code = cc) (hl : l.stackTraces = false) {own cls text : String} {names : List String} {ik is ic mc ms sa : Nat} {A : Nat → Prop}
    (hown : s.vm.findClass own = some m.cls) (hcls : Bundle.fit cls = true) (hnames : ∀ n ∈ names, Bundle.fit n = true)
    (hk : (Cond.classLink own ik cls).before args s = true) (hini : (Cond.initialized cls).before args s = true) (hstr : vk_R own is text sa s) (hat : ∀ w ∈ vx_atS own ic cls names, w.before args s = true)
    (hgood : ∀ w ∈ Cond.classLink own ik cls :: Cond.initialized cls :: vx_atS own ic cls names, vx_ot w = true)
    (hU : vx_Zq Bundle.tN "UNASSIGNED_STACK" Bundle.steD A s s.heap) (hN : vx_Zq Bundle.tN "SUPPRESSED_SENTINEL" Bundle.listD A s s.heap) (hS : va_S A s.heap H locs) (hsize : ls.size = c.maxLocals)
    (d0 : decode cc pc = .ok (.new ik, 3)) (d3 : decode cc (pc + 3) = .ok (.dup, 1)) (d4 : decode cc (pc + 4) = .ok (.ldc_w is, 3)) (d7 : decode cc (pc + 7) = .ok (.invokespecial ic, 3)) (d10 : decode cc (pc + 10) = .ok (.athrow, 1))
    (hout : ∀ x ∈ c.exceptionTable.toList, covers x (pc + 10) = false)
    (hRframes : names.length + 3 < R.frames) (hRlocals : (rest.map fun v => v.category).sum + (13 * (names.length + 1) + 43) ≤ R.locals) (hRcells : cells + 1 ≤ R.cells) (hRslots : slots + 6 ≤ R.slots) (hlocks : meth.locks = false)
    (hx : ∀ t : State, s.vm.Alike t.vm → H.size ≤ t.heap.size → (∀ q : Nat, q < H.size → t.heap[q]? = H[q]?) → XC cls s t)
    (hf : ∀ z ∈ locs, free z.base) (hc : cells + 1 ≤ mc) (hs : slots + 6 ≤ ms) :
    W p l e R s m args below meth c H locs cells slots (vx_MQ below Qc XC args s mc ms free) (F0 m pc ls rest) := by
  intro T hT X
  have htr : e.platform.stackTraces = false := (show e.platform.stackTraces = l.stackTraces by rw [X.admits.platform]).trans hl
  have Y := vx_rebase X (R' := { frames := R.frames, locals := R.locals, cells := 1, slots := 6 }) (Nat.le_refl _) (Nat.le_refl _) hRcells hRslots
  obtain ⟨s', hA⟩ : ∃ z, z = (T.setVm s.vm).setFrames (.invoking m args :: below) := ⟨_, rfl⟩
  rw [← hA] at Y
  have hvm : s'.vm = s.vm := by rw [hA]; rfl
  have hhp : s'.heap = H := by rw [hA]; exact hT
  have hW0 : s.WarmedH s'.vm := by rw [hvm]; exact State.WarmedH.refl s
  have hat' : ∀ w ∈ vx_atS own ic cls names, w.before args s' = true := fun w hw => vx_ot_at hW0 hvm.symm (hgood w (List.mem_cons_of_mem _ (List.mem_cons_of_mem _ hw))) (hat w hw)
  have hk' : (Cond.classLink own ik cls).before args s' = true := vx_ot_at hW0 hvm.symm (hgood _ List.mem_cons_self) hk
  have hini' : (Cond.initialized cls).before args s' = true := vx_ot_at hW0 hvm.symm (hgood _ (List.mem_cons_of_mem _ List.mem_cons_self)) hini
  have hU' : vx_Zq Bundle.tN "UNASSIGNED_STACK" Bundle.steD A s' s'.heap := by rw [hhp]; exact vx_Zq.moved hW0.alike (hU.kept hS.2.1)
  have hN' : vx_Zq Bundle.tN "SUPPRESSED_SENTINEL" Bundle.listD A s' s'.heap := by rw [hhp]; exact vx_Zq.moved hW0.alike (hN.kept hS.2.1)
  have h : ∀ w ∈ Bundle.ownAtoms own ic cls names, w.before args s' = true := vx_own hat' (vx_isRefq hU'.1) (vx_isRefq hN'.1) hU'.2.word hN'.2.word
  have hown' : s'.vm.findClass own = some m.cls := by rw [hvm]; exact hown
  have hins : (Cond.instantiable cls 6).before args s' = true := h _ (by simp [Bundle.ownAtoms])
  obtain ⟨vm₁, cX, kX, hfX, hkX, -, -, X₁, st1⟩ := Y.newCold hexec (own := own) (C := cls) (index := ik) (n := 6) hown' hk' hins hini'
    (g := F0 m pc ls rest) rfl (by rw [hb]; exact d0) (Nat.le_refl _) (Nat.le_refl _)
  generalize hT1 : (T.setVm vm₁).pushCell { cls := cX, slots := kX.instanceTypes.map defaultValue, vm := .none } = T1 at X₁ st1
  have hcat : (Value.ref T.heap.size).category = 1 := rfl
  have hcellA : T1.heap[T.heap.size]? = some (freshCell cX kX) := by rw [← hT1]; exact State.heap_pushCell_size _ _
  have d3' : decode c.code (pc + 3) = .ok (.dup, 1) := by rw [hb]; exact d3
  have d4' : decode c.code (pc + 4) = .ok (.ldc_w is, 3) := by rw [hb]; exact d4
  have hstr' : vk_R own is text sa s' := vk_R.warm hW0 hstr
  obtain ⟨U, hsteps, hrun, hend, hW, hsame, ce, hce, hO⟩ := X₁.ctorThrowS hexec htr (own := own) (cls := cls) (names := names) (ic := ic) hown' hcls hnames h (fun x hx => nomatch hx) hfX hkX hcellA (by rw [hhp, hT]; exact Nat.le_refl _) (msg := .ref sa) rfl
    (g := { method := m, pc := pc + 7, locals := ls, stack := .ref sa :: .ref T.heap.size :: .ref T.heap.size :: rest, locked := none }) rfl hsize rfl rfl (rest := rest) rfl
    (by rw [hb]; exact d7) (by rw [hb]; exact d10) hout hRframes (by simp only [List.map_cons, List.sum_cons, hcat]; omega) hlocks
  obtain ⟨f1, f2⟩ := vx_frame hsame
  rw [hhp] at f1 f2
  have hWs : s.WarmedH U.vm := State.WarmedH.trans hW0 hW
  have hcl : s.vm.findClass cls = some ce.cls := by
    have h9 := hO.cls
    rw [hvm] at h9
    exact h9
  have hall : s.sameButNew ({ U with vm := s.vm } : State) locs mc ms := by
    subst hA
    obtain ⟨e1, e2⟩ := hsame
    rw [State.setFrames_setFrames] at e1
    have h2 : (T.setVm s.vm).sameButNew ({ U with vm := s.vm } : State) [] (0 + 1) (0 + 6) := ⟨e1, e2⟩
    have h3 := X.same.trans h2
    rw [List.append_nil] at h3
    exact h3.mono hc hs
  refine ⟨U, ?_, .threw T.heap.size, hrun, hend, Or.inr ⟨T.heap.size, rfl, cls, ce, locs, hx U hWs.alike f1 (fun q hq => f2 q hq (fun z hz => nomatch hz)), hce, hO.vm, hcl, hWs, hall, hf⟩⟩
  refine st1 _ ?_
  show Steps p.tables e below (T1.setTop { method := m, pc := pc + 3, locals := ls, stack := .ref T.heap.size :: rest, locked := none }) _
  jvm_step X₁.here [X₁.here.top, hexec, d3', Value.category]
  exact X₁.ldcStringW hexec (own := own) (text := text) (index := is) (a := sa) hown' hstr'.1 hstr'.2
    (g := { method := m, pc := pc + 4, locals := ls, stack := .ref T.heap.size :: .ref T.heap.size :: rest, locked := none }) rfl d4' _ hsteps
end Ends
section Bodies
variable {l : Launch}
theorem vx_ofW {y : MethodName} {ws ws' : List Cond} {rm : Room} {Pc : Array Value → State → Prop} {Qc : Array Value → State → Outcome → State → Prop} {XC : String → State → State → Prop} {mc ms : Nat} {free : Addr → Prop} {cc : ByteArray} {maxL : Nat} {ret : Option FieldType}
    (hy : plainName y.cls = true) (hw : ws = Cond.code y cc maxL ret :: ws')
    (body : ∀ p e s m args below meth c s₁, BodyLoose p l y (headSpec ws rm) cc maxL ret e s m args below meth c s₁ → c.maxLocals = maxL → (∀ x ∈ c.exceptionTable.toList, False) → Pc args s →
      W p l e (headSpec ws rm).room s m args below meth c s.heap [] 0 0 (vx_MQ below Qc XC args s mc ms free) (entryFrame m args maxL)) : vx_Met l y ws rm Pc Qc XC mc ms free := by
  refine MetFree.of_bodyS (code := cc) (maxLocals := maxL) (ret := ret) hy ?_ ?_
  · intro args s m h hn
    obtain ⟨meth, c, h1, h2, h3, h4, h5, h6, -, -⟩ := Cond.code_spec hn (atoms_spec (ws := ws) h _ (by rw [hw]; exact List.mem_cons_self))
    exact ⟨meth, c, h1, h2, h3, h4, h5, h6⟩
  · intro p e s m args below meth c s₁ B hml hP _
    have hh0 : s₁.heap = s.heap := by rw [B.state]; rfl
    have ht : ∀ x ∈ c.exceptionTable.toList, False := by
      obtain ⟨meth9, c9, h1, h2, -, -, -, -, h7, -⟩ := Cond.code_spec B.named (atoms_spec (ws := ws) B.pre _ (by rw [hw]; exact List.mem_cons_self))
      cases Option.some.inj (h1.symm.trans B.method)
      cases Option.some.inj (h2.symm.trans (Stand.of_body B).code)
      intro x hx
      rw [Array.isEmpty_iff.mp h7] at hx
      cases hx
    obtain ⟨t, a1, o, b1, b2, b3⟩ := body p e s m args below meth c s₁ B hml ht hP s₁ hh0 (Stand.of_body B)
    exact ⟨t, o, a1, b1, b2, b3⟩
/-- the table of a body with handlers -/
theorem vx_table {p : Program} {x y : MethodName} {S : Spec} {cc bytes : ByteArray} {maxL maxL' : Nat} {ret ret' : Option FieldType} {e : Env} {s s₁ : State} {m : MethodId} {args : Array Value} {below : List Frame} {meth : Method} {c : Code} {hh : List (Nat × Nat × Nat × Nat)}
    (B : BodyLoose p l y S cc maxL ret e s m args below meth c s₁) (h : (Cond.codeWith y bytes maxL' ret' hh).before args s = true) : c.exceptionTable.toList = tableOf hh := by
  obtain ⟨m9, meth9, c9, hn9, h1, h2, -, -, h6, -⟩ := Cond.codeWith_spec h
  cases Option.some.inj (hn9.symm.trans B.named)
  cases Option.some.inj (h1.symm.trans B.method)
  cases Option.some.inj (h2.symm.trans (Stand.of_body B).code)
  rw [← h6, table_eq]
end Bodies
end VXA
/-! ===== END ===== -/
/-! ===== BEGIN a static call of a method with an exception table ===== -/
section VXS
variable {p : Program} {l : Launch} {e : Env} {R : Room} {s : State} {m : MethodId} {args : Array Value} {below : List Frame} {meth : Method} {c : Code} {T : State} {H : Heap} {locs : List Loc} {cells slots : Nat}
abbrev vx_CSW (R : Room) (s : State) (args : Array Value) (own : String) (index : Nat) (y : MethodName) (bytes : ByteArray) (maxL : Nat) (ret : Option FieldType) (hh : List (Nat × Nat × Nat × Nat)) (ws : List Cond) (rm : Room) (mc ms n : Nat) : Prop :=
  (rm.cells = mc ∧ rm.slots = ms ∧ rm.frames + 1 ≤ R.frames ∧ 8 + (maxL + 11) + rm.locals ≤ R.locals ∧ (∀ w ∈ ws, ∀ (a' : Array Value) (U : State), s.WarmedH U.vm → w.before a' U = true) ∧ Cond.codeWith y bytes maxL ret hh ∈ ws) ∧
  (Cond.codeWith y bytes maxL ret hh).before args s = true ∧ (Cond.initialized y.cls).before args s = true ∧ (y.cls ≠ "java/lang/invoke/MethodHandle" ∧ y.cls ≠ "java/lang/invoke/VarHandle") ∧
  (∀ sig, parseMethodDescriptor y.desc = some sig → n = sig.parameters.length) ∧ (Cond.methodLink own index y).before args s = true ∧ (Cond.static y).before args s = true
theorem vx_cwSW {own : String} {index maxL mc ms : Nat} {y : MethodName} {bytes : ByteArray} {ret : Option FieldType} {hh : List (Nat × Nat × Nat × Nat)} {Ts ws ws' : List Cond} {rm : Room} (n : Nat) (ht : ∀ w ∈ Ts, w.before args s = true) (hT : GoodIn Ts (va_wsS own index y ws)) (hw : ws = Cond.codeWith y bytes maxL ret hh :: ws') (hrc : rm.cells = mc) (hrs : rm.slots = ms)
    (hd : y.cls ≠ "java/lang/invoke/MethodHandle" ∧ y.cls ≠ "java/lang/invoke/VarHandle" ∧ (parseMethodDescriptor y.desc).map (fun d => d.parameters.length) = some n) (hR : rm.frames + 1 ≤ R.frames ∧ 8 + (maxL + 11) + rm.locals ≤ R.locals) :
    vx_CSW R s args own index y bytes maxL ret hh ws rm mc ms n := by
  have ok : ∀ w ∈ va_wsS own index y ws, w.before args s = true := fun w h => ht w (hT w h).1
  have hG : GoodIn Ts ws := fun w h => hT w (by unfold va_wsS; exact List.mem_append_right _ h)
  have hc : Cond.codeWith y bytes maxL ret hh ∈ ws := by rw [hw]; exact List.mem_cons_self
  refine ⟨⟨hrc, hrs, hR.1, hR.2, pay_in ht hG, hc⟩, ht _ (hG _ hc).1, ok _ (by simp [va_wsS]), ⟨hd.1, hd.2.1⟩, fun sig h => ?_, ok _ (by simp [va_wsS]), ok _ (by simp [va_wsS])⟩
  have h2 := hd.2.2
  rw [h] at h2
  exact (Option.some.inj h2).symm
theorem vx_callSW (X : Stand p l e R s m args below meth c T locs cells slots) (hexec : p.tables.exec = Jvm.exec) {own : String} {index : Nat} {y : MethodName} {bytes : ByteArray} {maxL : Nat} {ret : Option FieldType} {hh : List (Nat × Nat × Nat × Nat)}
    (hown : s.vm.findClass own = some m.cls) (hlink : (Cond.methodLink own index y).before args s = true) (hstat : (Cond.static y).before args s = true) (hinit : (Cond.initialized y.cls).before args s = true)
    (hcode : (Cond.codeWith y bytes maxL ret hh).before args s = true) (hy : y.cls ≠ "java/lang/invoke/MethodHandle" ∧ y.cls ≠ "java/lang/invoke/VarHandle")
    {W9 : Nat} {Pre : Pt → Array Value → Prop} {Post : Pt → Array Value → Option Value → Pt → Prop} (hK : Back l R p e below s args y 3 W9 Pre Post)
    {g : JFrame} (hg : g.method = m) (hsize : g.locals.size = c.maxLocals) {argsL rest : List Value} (hlen : ∀ sig, parseMethodDescriptor y.desc = some sig → argsL.length = sig.parameters.length)
    (hstack : g.stack = argsL.reverse ++ rest) (hW : 2 * g.monitorRoom + (rest.map fun v => v.category).sum ≤ W9) (hdg : decode c.code g.pc = .ok (.invokestatic index, 3))
    (hpre : ∀ vm₁, s.WarmedH vm₁ → Pre ⟨T.setVm vm₁, locs, cells, slots⟩ argsL.toArray) :
    ∃ (v : Option Value) (vm₁ : Vm) (B : Pt), s.WarmedH vm₁ ∧ Stand p l e R s m args below meth c B.U B.locs B.cells B.slots ∧ Post ⟨T.setVm vm₁, locs, cells, slots⟩ argsL.toArray v B ∧
      ∀ target, Steps p.tables e below (B.U.setTop { g with pc := g.pc + 3, stack := v.toList ++ rest }) target → Steps p.tables e below (T.setTop g) target := by
  obtain ⟨mk, methM, cM, hnamed, hmethM, -, -, -, -, -, -, hsigM⟩ := Cond.codeWith_spec hcode
  have hstatic : methM.isStatic = true := Cond.static_spec hnamed hmethM hstat
  obtain ⟨kP, hkP, -⟩ := className_of_methodNamed hnamed
  have hinitP : kP.init = .initialized := Cond.initialized_spec (findClass_of_methodNamed hnamed) hkP hinit
  obtain ⟨vm₁, X₁, hstep₁⟩ := X.invokestatic hexec hown hlink hnamed hmethM hstatic hkP hinitP hy (g := g) hg (argsL := argsL) (rest := rest) (hlen _ hsigM) hstack hdg
  obtain ⟨v, B, X', hpost, hsteps⟩ := hK m meth c ⟨T.setVm vm₁, locs, cells, slots⟩ { g with stack := rest } (.invokestatic index) mk argsL.toArray X₁ hg hsize hdg hW (X₁.named hnamed) (hpre vm₁ X₁.warmed)
  exact ⟨v, vm₁, B, X₁.warmed, X', hpost, fun target h => hstep₁ _ fun acts => by rw [doInvoke_state]; exact hsteps.trans h⟩
theorem vx_runSW {y : MethodName} {bytes cc : ByteArray} {maxL nL mc ms n index : Nat} {ret : Option FieldType} {hh : List (Nat × Nat × Nat × Nat)} {ws : List Cond} {rm : Room} {Pc : Array Value → State → Prop} {Qc : Array Value → State → Outcome → State → Prop} {free : Addr → Prop} {Ts : List Cond} {own : String} {As rest : List Value} {g : JFrame}
    (S : CallFix p m c cc nL s args Ts own) (hM : Met l y ws rm Pc Qc mc ms free) (cw : vx_CSW R s args own index y bytes maxL ret hh ws rm mc ms n) (hp : PreS s H Pc As)
    (hg : g.method = m) (hn : As.length = n) (hsize : g.locals.size = nL) (hstack : g.stack = As.reverse ++ rest) (hW : 2 * g.monitorRoom + (rest.map fun v => v.category).sum ≤ 8) (hdg : decode cc g.pc = .ok (.invokestatic index, 3)) (hf : cells + mc ≤ R.cells ∧ slots + ms ≤ R.slots) :
    va_Run p l e R s m args below meth c H locs cells slots mc ms g rest (Qc As.toArray) (free) := by
  obtain ⟨⟨hrc, hrs, hfr, hlo, hws, hcw⟩, hcode, hini, hy, hlen, hl, hstt⟩ := cw
  have hK : Back l R p e below s args y 3 8 (PreOf R mc ms Pc) (PostOf Qc mc ms free) := va_backW (hh := hh) (bytes := bytes) (maxL := maxL) (ret := ret) hM hp.1 hrc hrs hfr hlo hws hcw (fun a' U hW => word_at hW (Or.inl (by first | rfl | simp [Cond.onTables, Cond.keeps, Cond.steady])) hini)
  obtain ⟨hx, hb, hml, ho, -⟩ := S
  intro T hT X
  obtain ⟨v, vm₁, ⟨U', l2, c2, s2⟩, hW₁, X', ⟨g', mk, t, L, e1, e2, hq, h1, hL, h2, h3⟩, st⟩ := vx_callSW X hx (hh := hh) (bytes := bytes) (maxL := maxL) (ret := ret) ho hl hstt hini hcode hy hK hg (hsize.trans hml.symm) (argsL := As) (rest := rest) (fun sig h => hn.trans (hlen sig h)) hstack hW (by rw [hb]; exact hdg)
    (fun vm₁ hW₁ => ⟨hf.1, hf.2, hp.2 (T.setVm vm₁) hT hW₁⟩)
  dsimp only [Pt.U, Pt.locs, Pt.cells, Pt.slots] at X' e1 e2 h1 h2 h3 st
  subst h1; subst h2; subst h3
  exact ⟨v, (T.setVm vm₁).calling g' mk As.toArray, t, U', L, hT, X', hL, e1, e2, hq, st⟩
/-- a thing of a world lies in the heap -/
theorem vx_lt {D : va_G} {cl : List vw_C} {ws : va_W} {H1 : Heap} (h : va_P D cl ws H1) {k : Nat} {q : Nat × va_E} (hk : ws[k]? = some q) : q.1 < H1.size := (h k q hk).lt
end VXS
/-! ===== END ===== -/
/-! ===== BEGIN methods with a table of their own: called by a name, returning or throwing ===== -/
section VXH
/-! vx_backW, vx_callVX, vx_callSX, vx_callVW, vx_runVW, vx_runVX, vx_runSX, vx_ofWH follow the same proofs as their sisters above (Free/Laws.lean, Shelf42/LK1.lean); vx_outP calls Shelf42/NT130.lean (outThrough). -/
section
variable {l : Launch} {R : Room} {p : Program} {e : Env} {below : List Frame} {s : State} {sargs : Array Value} {y : MethodName} {len W9 : Nat}
theorem vx_backW {ws : List Cond} {rm : Room} {Pc : Array Value → State → Prop} {Qc : Array Value → State → Outcome → State → Prop} {XC : String → State → State → Prop} {mc ms : Nat} {free : Addr → Prop} {bytes : ByteArray} {maxL : Nat} {ret : Option FieldType} {hh : List (Nat × Nat × Nat × Nat)}
    (hM : vx_Met l y ws rm Pc Qc XC mc ms free) (hblind : FrameBlind Pc) (hrc : rm.cells = mc) (hrs : rm.slots = ms)
    (hframes : rm.frames + 1 ≤ R.frames) (hlocals : W9 + (maxL + 11) + rm.locals ≤ R.locals)
    (hws : ∀ w ∈ ws, ∀ a' U, s.WarmedH U.vm → w.before a' U = true) (hcode : Cond.codeWith y bytes maxL ret hh ∈ ws) (hinit : ∀ a' U, s.WarmedH U.vm → (Cond.initialized y.cls).before a' U = true) :
    vx_Back l R p e below s sargs y len W9 (PreOf R mc ms Pc) (PostOf Qc mc ms free) (vx_Post XC mc ms free) := by
  intro m meth c A g ig mk a X hg hsize hdg hW hn hp
  have h1 : (headSpec ws rm).pre.before a A.U = true := atoms_intro fun w hw => hws w hw _ _ X.warmed
  have h2 : (Cond.codeWith y bytes maxL ret hh).before a A.U = true := hws _ hcode _ _ X.warmed
  have h3 : (Cond.initialized y.cls).before a A.U = true := hinit _ _ X.warmed
  have h4 : A.cells + (headSpec ws rm).room.cells ≤ R.cells := by rw [show (headSpec ws rm).room.cells = mc from hrc]; exact hp.1
  have h5 : A.slots + (headSpec ws rm).room.slots ≤ R.slots := by rw [show (headSpec ws rm).room.slots = ms from hrs]; exact hp.2.1
  have hPc : Pc a (A.U.calling g mk a) := hblind _ _ _ _ hp.2.2
  obtain ⟨U, Ls, c0, s0⟩ := A
  dsimp only [Pt.U, Pt.locs, Pt.cells, Pt.slots] at h1 h2 h3 h4 h5 X hn hPc ⊢
  obtain ⟨m9, methY, cY, hn9, hmY, hcY, -, hlY, -⟩ := Cond.codeWith_spec h2
  cases Option.some.inj (hn9.symm.trans hn)
  obtain ⟨kY, hkY, -⟩ := className_of_methodNamed hn
  have hinitY : kY.init = .initialized := Cond.initialized_spec (findClass_of_methodNamed hn) hkY h3
  have h : At U g.method c below := by rw [hg]; exact X.here
  have hlocals9 : W9 + (maxL + 11) + (headSpec ws rm).room.locals ≤ R.locals := hlocals
  have happ : (headSpec ws rm).appliesLoose y e.platform (U.calling g mk a) = true :=
    Spec.appliesLoose_calling (g := g) h hdg hn hkY hinitY
      (X.room_calling (g := g) (R' := (headSpec ws rm).room) hsize hmY hcY hframes (by rw [hlY]; omega) h4 h5) h1
  obtain ⟨mid, hmid⟩ := h.above
  have hfr : (U.setTop g).frames = (.java g :: mid) ++ below := by rw [State.frames_setTop' g h.top, hmid]; rfl
  obtain ⟨o, s₂, hsteps, -, hend, hq⟩ := Steps.callFree hM p X.admits X.cas X.clock (acts := []) hfr happ hPc trivial
  have hq' : vx_Q Qc XC mc ms free a (U.calling g mk a) o s₂ := hq
  rw [State.frames_setTop' g h.top] at hend
  obtain ⟨g₀, hg0⟩ := Option.isSome_iff_exists.mp h.top
  obtain ⟨r, hr⟩ := State.topJava?_eq_some.mp hg0
  have hr' : (({ U with heap := s₂.heap, slotsUsed := s₂.slotsUsed } : State).setVm s₂.vm).frames = .java g₀ :: r := hr
  rcases hq' with ⟨hqc, L, hfe, hL⟩ | ⟨q, rfl, E, ce, L, hx, hce, hcv, hcl, hW₂, hsm, hL⟩
  · obtain ⟨⟨v, rfl⟩, hW₂, e2, q2, q3, q4, q5, q6⟩ := id hfe
    have e3 : s₂ = ({ (U.calling g mk a).setFrames s₂.frames with heap := s₂.heap, slotsUsed := s₂.slotsUsed } : State).setVm s₂.vm := by
      have : s₂ = ({ s₂ with vm := (U.calling g mk a).vm } : State).setVm s₂.vm := rfl
      rw [e2] at this
      exact this
    obtain ⟨c₂, i₂, len₂, hc₂, hd₂, hf₂⟩ := hend
    have hW' : U.WarmedH s₂.vm := hW₂
    have hcc : c₂ = c := by
      have h1 : s₂.code? g.method = U.code? g.method := by
        rw [State.code?_eq, State.code?_eq, hW'.alike.method?]
      exact Option.some.inj (hc₂.symm.trans (h1.trans h.code))
    subst hcc
    have hlen : len₂ = len := by rw [hdg] at hd₂; cases hd₂; rfl
    subst hlen
    have hs₂ : s₂ = (({ U with heap := s₂.heap, slotsUsed := s₂.slotsUsed } : State).setVm s₂.vm).setTop { g with pc := g.pc + len₂, stack := v.toList ++ g.stack } := by
      refine e3.trans ?_
      rw [hf₂, State.calling_eq h.top, State.setFrames_setFrames, State.setTop_of_frames _ hr', hr]
      rfl
    have hsame : U.sameButNew ({ U with heap := s₂.heap, slotsUsed := s₂.slotsUsed } : State) L mc ms := by
      refine ⟨?_, q2, q3, q4, q5, q6⟩
      obtain ⟨t, ht, -⟩ := State.frames_cons hr
      show ({ U with heap := s₂.heap, slotsUsed := s₂.slotsUsed } : State) = { U.setFrames U.frames with heap := s₂.heap, slotsUsed := s₂.slotsUsed }
      rw [State.setFrames_self ht]
    subst hg
    refine Or.inl ⟨v, ⟨(({ U with heap := s₂.heap, slotsUsed := s₂.slotsUsed } : State).setVm s₂.vm), Ls ++ L, c0 + mc, s0 + ms⟩,
      ⟨X.admits, X.cas, X.clock, X.frames, X.room, X.hears, X.method, X.code, (X.here.setHeapUsed s₂.heap s₂.slotsUsed).setVm hW'.alike, X.tail, State.WarmedH.trans X.warmed hW', X.limits, X.bytes, X.same.trans (hsame.setVm s.vm)⟩,
      ⟨g, mk, s₂, L, rfl, rfl, hqc, rfl, hL, rfl, rfl⟩, ?_⟩
    show Steps p.tables e below _ ((({ U with heap := s₂.heap, slotsUsed := s₂.slotsUsed } : State).setVm s₂.vm).setTop { g with pc := g.pc + len₂, stack := v.toList ++ g.stack })
    rw [← hs₂]
    exact hsteps
  · obtain ⟨e2, q2, q3, q4, q5, q6⟩ := id hsm
    have e3 : s₂ = ({ (U.calling g mk a).setFrames s₂.frames with heap := s₂.heap, slotsUsed := s₂.slotsUsed } : State).setVm s₂.vm := by
      have : s₂ = ({ s₂ with vm := (U.calling g mk a).vm } : State).setVm s₂.vm := rfl
      rw [e2] at this
      exact this
    have hf₂ : s₂.frames = .throwing q :: .java g :: U.frames.tail := hend
    have hW' : U.WarmedH s₂.vm := hW₂
    have hs₂ : s₂ = ((({ U with heap := s₂.heap, slotsUsed := s₂.slotsUsed } : State).setVm s₂.vm).setTop g).pushFrame (.throwing q) := by
      refine e3.trans ?_
      rw [hf₂, State.calling_eq h.top, State.setFrames_setFrames, State.pushFrame, State.frames_setTop _ hr', State.setTop_of_frames _ hr', State.setFrames_setFrames, hr]
      rfl
    have hsame : U.sameButNew ({ U with heap := s₂.heap, slotsUsed := s₂.slotsUsed } : State) L mc ms := by
      refine ⟨?_, q2, q3, q4, q5, q6⟩
      obtain ⟨t, ht, -⟩ := State.frames_cons hr
      show ({ U with heap := s₂.heap, slotsUsed := s₂.slotsUsed } : State) = { U.setFrames U.frames with heap := s₂.heap, slotsUsed := s₂.slotsUsed }
      rw [State.setFrames_self ht]
    subst hg
    refine Or.inr ⟨q, ⟨(({ U with heap := s₂.heap, slotsUsed := s₂.slotsUsed } : State).setVm s₂.vm), Ls ++ L, c0 + mc, s0 + ms⟩,
      ⟨X.admits, X.cas, X.clock, X.frames, X.room, X.hears, X.method, X.code, (X.here.setHeapUsed s₂.heap s₂.slotsUsed).setVm hW'.alike, X.tail, State.WarmedH.trans X.warmed hW', X.limits, X.bytes, X.same.trans (hsame.setVm s.vm)⟩,
      ⟨g, mk, s₂, L, E, ce, rfl, rfl, hx, hce, hcv, hcl, rfl, hL, rfl, rfl⟩, ?_⟩
    show Steps p.tables e below _ (((({ U with heap := s₂.heap, slotsUsed := s₂.slotsUsed } : State).setVm s₂.vm).setTop g).pushFrame (.throwing q))
    rw [← hs₂]
    exact hsteps
end
variable {p : Program} {l : Launch} {e : Env} {R : Room} {s : State} {m : MethodId} {args : Array Value} {below : List Frame} {meth : Method} {c : Code} {T : State} {H : Heap} {locs : List Loc} {cells slots : Nat}
theorem vx_callVX (X : Stand p l e R s m args below meth c T locs cells slots) (hexec : p.tables.exec = Jvm.exec) {own C : String} {index : Nat} {y : MethodName} {bytes : ByteArray} {maxL : Nat} {ret : Option FieldType} {hh : List (Nat × Nat × Nat × Nat)}
    (hown : s.vm.findClass own = some m.cls) (hlink : (Cond.methodLink own index y).before args s = true) (hinst : (Cond.instanceMethod y).before args s = true) (hsel : (Cond.selects C y y).before args s = true)
    (hcode : (Cond.codeWith y bytes maxL ret hh).before args s = true) (hy : y.cls ≠ "java/lang/invoke/MethodHandle" ∧ y.cls ≠ "java/lang/invoke/VarHandle")
    {W9 : Nat} {Pre : Pt → Array Value → Prop} {Post : Pt → Array Value → Option Value → Pt → Prop} {PostX : Pt → Array Value → Addr → Pt → Prop} (hK : vx_Back l R p e below s args y 3 W9 Pre Post PostX)
    {b : Addr} {cellB : Cell} (hcell : T.heap[b]? = some cellB) (hobj : cellB.vm.isStatics = false) (hcls : s.vm.findClass C = some cellB.cls)
    {g : JFrame} (hg : g.method = m) (hsize : g.locals.size = c.maxLocals) {argsL rest : List Value} (hlen : ∀ sig, parseMethodDescriptor y.desc = some sig → argsL.length = sig.parameters.length)
    (hstack : g.stack = argsL.reverse ++ .ref b :: rest) (hW : 2 * g.monitorRoom + (rest.map fun v => v.category).sum ≤ W9) (hdg : decode c.code g.pc = .ok (.invokevirtual index, 3))
    (hpre : ∀ vm₁, s.WarmedH vm₁ → Pre ⟨T.setVm vm₁, locs, cells, slots⟩ (Value.ref b :: argsL).toArray) :
    (∃ (v : Option Value) (vm₁ : Vm) (B : Pt), s.WarmedH vm₁ ∧ Stand p l e R s m args below meth c B.U B.locs B.cells B.slots ∧ Post ⟨T.setVm vm₁, locs, cells, slots⟩ (Value.ref b :: argsL).toArray v B ∧
      ∀ target, Steps p.tables e below (B.U.setTop { g with pc := g.pc + 3, stack := v.toList ++ rest }) target → Steps p.tables e below (T.setTop g) target) ∨
    (∃ (q : Addr) (vm₁ : Vm) (B : Pt), s.WarmedH vm₁ ∧ Stand p l e R s m args below meth c B.U B.locs B.cells B.slots ∧ PostX ⟨T.setVm vm₁, locs, cells, slots⟩ (Value.ref b :: argsL).toArray q B ∧
      Steps p.tables e below (T.setTop g) ((B.U.setTop { g with stack := rest }).pushFrame (.throwing q))) := by
  obtain ⟨mk, methM, hnamed, hmethM, hstM, habM⟩ := Cond.instanceMethod_spec hinst
  obtain ⟨m8, methM', cM, hn8, hmethM', -, -, -, -, -, -, hsigM⟩ := Cond.codeWith_spec hcode
  cases Option.some.inj (hn8.symm.trans hnamed)
  cases hmethM.symm.trans hmethM'
  obtain ⟨c2, r2, m2, q1, q2, q3, q4, kP, hkP, hkPi⟩ := Cond.selects_spec hsel
  cases hcls.symm.trans q1
  cases (State.methodFound?_of_named hnamed hy).symm.trans q2
  cases hnamed.symm.trans q3
  have hselP : selectMethod e.platform s.vm cellB.cls mk = .method mk := by rw [Launch.admits_selectMethod X.admits]; exact q4
  obtain ⟨vm₁, X₁, hstep₁⟩ := X.invokevirtual hexec hown hlink hnamed hmethM hstM hkP hkPi hy (a := b) (cell := cellB) hcell
    (fun z h => by rw [h] at hobj; cases hobj) hselP hmethM habM hkP hkPi (g := g) hg (argsL := argsL) (rest := rest) (hlen _ hsigM) hstack hdg
  rcases hK m meth c ⟨T.setVm vm₁, locs, cells, slots⟩ { g with stack := rest } (.invokevirtual index) mk (Value.ref b :: argsL).toArray X₁ hg hsize hdg hW (X₁.named hnamed) (hpre vm₁ X₁.warmed) with ⟨v, B, X', hpost, hsteps⟩ | ⟨q, B, X', hpost, hsteps⟩
  · exact Or.inl ⟨v, vm₁, B, X₁.warmed, X', hpost, fun target h => hstep₁ _ fun acts => by rw [doInvoke_state]; exact hsteps.trans h⟩
  · exact Or.inr ⟨q, vm₁, B, X₁.warmed, X', hpost, hstep₁ _ fun acts => by rw [doInvoke_state]; exact hsteps⟩
theorem vx_callSX (X : Stand p l e R s m args below meth c T locs cells slots) (hexec : p.tables.exec = Jvm.exec) {own : String} {index : Nat} {y : MethodName} {bytes : ByteArray} {maxL : Nat} {ret : Option FieldType} {hh : List (Nat × Nat × Nat × Nat)}
    (hown : s.vm.findClass own = some m.cls) (hlink : (Cond.methodLink own index y).before args s = true) (hstat : (Cond.static y).before args s = true) (hinit : (Cond.initialized y.cls).before args s = true)
    (hcode : (Cond.codeWith y bytes maxL ret hh).before args s = true) (hy : y.cls ≠ "java/lang/invoke/MethodHandle" ∧ y.cls ≠ "java/lang/invoke/VarHandle")
    {W9 : Nat} {Pre : Pt → Array Value → Prop} {Post : Pt → Array Value → Option Value → Pt → Prop} {PostX : Pt → Array Value → Addr → Pt → Prop} (hK : vx_Back l R p e below s args y 3 W9 Pre Post PostX)
    {g : JFrame} (hg : g.method = m) (hsize : g.locals.size = c.maxLocals) {argsL rest : List Value} (hlen : ∀ sig, parseMethodDescriptor y.desc = some sig → argsL.length = sig.parameters.length)
    (hstack : g.stack = argsL.reverse ++ rest) (hW : 2 * g.monitorRoom + (rest.map fun v => v.category).sum ≤ W9) (hdg : decode c.code g.pc = .ok (.invokestatic index, 3))
    (hpre : ∀ vm₁, s.WarmedH vm₁ → Pre ⟨T.setVm vm₁, locs, cells, slots⟩ argsL.toArray) :
    (∃ (v : Option Value) (vm₁ : Vm) (B : Pt), s.WarmedH vm₁ ∧ Stand p l e R s m args below meth c B.U B.locs B.cells B.slots ∧ Post ⟨T.setVm vm₁, locs, cells, slots⟩ argsL.toArray v B ∧
      ∀ target, Steps p.tables e below (B.U.setTop { g with pc := g.pc + 3, stack := v.toList ++ rest }) target → Steps p.tables e below (T.setTop g) target) ∨
    (∃ (q : Addr) (vm₁ : Vm) (B : Pt), s.WarmedH vm₁ ∧ Stand p l e R s m args below meth c B.U B.locs B.cells B.slots ∧ PostX ⟨T.setVm vm₁, locs, cells, slots⟩ argsL.toArray q B ∧
      Steps p.tables e below (T.setTop g) ((B.U.setTop { g with stack := rest }).pushFrame (.throwing q))) := by
  obtain ⟨mk, methM, cM, hnamed, hmethM, -, -, -, -, -, -, hsigM⟩ := Cond.codeWith_spec hcode
  have hstatic : methM.isStatic = true := Cond.static_spec hnamed hmethM hstat
  obtain ⟨kP, hkP, -⟩ := className_of_methodNamed hnamed
  have hinitP : kP.init = .initialized := Cond.initialized_spec (findClass_of_methodNamed hnamed) hkP hinit
  obtain ⟨vm₁, X₁, hstep₁⟩ := X.invokestatic hexec hown hlink hnamed hmethM hstatic hkP hinitP hy (g := g) hg (argsL := argsL) (rest := rest) (hlen _ hsigM) hstack hdg
  rcases hK m meth c ⟨T.setVm vm₁, locs, cells, slots⟩ { g with stack := rest } (.invokestatic index) mk argsL.toArray X₁ hg hsize hdg hW (X₁.named hnamed) (hpre vm₁ X₁.warmed) with ⟨v, B, X', hpost, hsteps⟩ | ⟨q, B, X', hpost, hsteps⟩
  · exact Or.inl ⟨v, vm₁, B, X₁.warmed, X', hpost, fun target h => hstep₁ _ fun acts => by rw [doInvoke_state]; exact hsteps.trans h⟩
  · exact Or.inr ⟨q, vm₁, B, X₁.warmed, X', hpost, hstep₁ _ fun acts => by rw [doInvoke_state]; exact hsteps⟩
theorem vx_callVW (X : Stand p l e R s m args below meth c T locs cells slots) (hexec : p.tables.exec = Jvm.exec) {own C : String} {index : Nat} {y : MethodName} {bytes : ByteArray} {maxL : Nat} {ret : Option FieldType} {hh : List (Nat × Nat × Nat × Nat)}
    (hown : s.vm.findClass own = some m.cls) (hlink : (Cond.methodLink own index y).before args s = true) (hinst : (Cond.instanceMethod y).before args s = true) (hsel : (Cond.selects C y y).before args s = true)
    (hcode : (Cond.codeWith y bytes maxL ret hh).before args s = true) (hy : y.cls ≠ "java/lang/invoke/MethodHandle" ∧ y.cls ≠ "java/lang/invoke/VarHandle")
    {W9 : Nat} {Pre : Pt → Array Value → Prop} {Post : Pt → Array Value → Option Value → Pt → Prop} (hK : Back l R p e below s args y 3 W9 Pre Post)
    {b : Addr} {cellB : Cell} (hcell : T.heap[b]? = some cellB) (hobj : cellB.vm.isStatics = false) (hcls : s.vm.findClass C = some cellB.cls)
    {g : JFrame} (hg : g.method = m) (hsize : g.locals.size = c.maxLocals) {argsL rest : List Value} (hlen : ∀ sig, parseMethodDescriptor y.desc = some sig → argsL.length = sig.parameters.length)
    (hstack : g.stack = argsL.reverse ++ .ref b :: rest) (hW : 2 * g.monitorRoom + (rest.map fun v => v.category).sum ≤ W9) (hdg : decode c.code g.pc = .ok (.invokevirtual index, 3))
    (hpre : ∀ vm₁, s.WarmedH vm₁ → Pre ⟨T.setVm vm₁, locs, cells, slots⟩ (Value.ref b :: argsL).toArray) :
    ∃ (v : Option Value) (vm₁ : Vm) (B : Pt), s.WarmedH vm₁ ∧ Stand p l e R s m args below meth c B.U B.locs B.cells B.slots ∧ Post ⟨T.setVm vm₁, locs, cells, slots⟩ (Value.ref b :: argsL).toArray v B ∧
      ∀ target, Steps p.tables e below (B.U.setTop { g with pc := g.pc + 3, stack := v.toList ++ rest }) target → Steps p.tables e below (T.setTop g) target := by
  obtain ⟨mk, methM, hnamed, hmethM, hstM, habM⟩ := Cond.instanceMethod_spec hinst
  obtain ⟨m8, methM', cM, hn8, hmethM', -, -, -, -, -, -, hsigM⟩ := Cond.codeWith_spec hcode
  cases Option.some.inj (hn8.symm.trans hnamed)
  cases hmethM.symm.trans hmethM'
  obtain ⟨c2, r2, m2, q1, q2, q3, q4, kP, hkP, hkPi⟩ := Cond.selects_spec hsel
  cases hcls.symm.trans q1
  cases (State.methodFound?_of_named hnamed hy).symm.trans q2
  cases hnamed.symm.trans q3
  have hselP : selectMethod e.platform s.vm cellB.cls mk = .method mk := by rw [Launch.admits_selectMethod X.admits]; exact q4
  obtain ⟨vm₁, X₁, hstep₁⟩ := X.invokevirtual hexec hown hlink hnamed hmethM hstM hkP hkPi hy (a := b) (cell := cellB) hcell
    (fun z h => by rw [h] at hobj; cases hobj) hselP hmethM habM hkP hkPi (g := g) hg (argsL := argsL) (rest := rest) (hlen _ hsigM) hstack hdg
  obtain ⟨v, B, X', hpost, hsteps⟩ := hK m meth c ⟨T.setVm vm₁, locs, cells, slots⟩ { g with stack := rest } (.invokevirtual index) mk (Value.ref b :: argsL).toArray X₁ hg hsize hdg hW (X₁.named hnamed) (hpre vm₁ X₁.warmed)
  exact ⟨v, vm₁, B, X₁.warmed, X', hpost, fun target h => hstep₁ _ fun acts => by rw [doInvoke_state]; exact hsteps.trans h⟩
abbrev vx_CVW (R : Room) (s : State) (args : Array Value) (own C : String) (index : Nat) (y : MethodName) (bytes : ByteArray) (maxL : Nat) (ret : Option FieldType) (hh : List (Nat × Nat × Nat × Nat)) (ws : List Cond) (rm : Room) (mc ms n : Nat) : Prop :=
  (rm.cells = mc ∧ rm.slots = ms ∧ rm.frames + 1 ≤ R.frames ∧ 8 + (maxL + 11) + rm.locals ≤ R.locals ∧ (∀ w ∈ ws, ∀ (a' : Array Value) (U : State), s.WarmedH U.vm → w.before a' U = true) ∧ Cond.codeWith y bytes maxL ret hh ∈ ws) ∧
  (Cond.codeWith y bytes maxL ret hh).before args s = true ∧ (Cond.initialized y.cls).before args s = true ∧ (y.cls ≠ "java/lang/invoke/MethodHandle" ∧ y.cls ≠ "java/lang/invoke/VarHandle") ∧
  (∀ sig, parseMethodDescriptor y.desc = some sig → n = sig.parameters.length) ∧ (Cond.methodLink own index y).before args s = true ∧ (Cond.instanceMethod y).before args s = true ∧ (Cond.selects C y y).before args s = true
theorem vx_cwVW {own C : String} {index maxL mc ms : Nat} {y : MethodName} {bytes : ByteArray} {ret : Option FieldType} {hh : List (Nat × Nat × Nat × Nat)} {Ts ws ws' : List Cond} {rm : Room} (n : Nat) (ht : ∀ w ∈ Ts, w.before args s = true) (hT : GoodIn Ts (wsV own index C y ws)) (hw : ws = Cond.codeWith y bytes maxL ret hh :: ws') (hrc : rm.cells = mc) (hrs : rm.slots = ms)
    (hd : y.cls = C ∧ y.cls ≠ "java/lang/invoke/MethodHandle" ∧ y.cls ≠ "java/lang/invoke/VarHandle" ∧ (parseMethodDescriptor y.desc).map (fun d => d.parameters.length) = some n) (hR : rm.frames + 1 ≤ R.frames ∧ 8 + (maxL + 11) + rm.locals ≤ R.locals) :
    vx_CVW R s args own C index y bytes maxL ret hh ws rm mc ms n := by
  obtain ⟨hC, hd⟩ := hd
  subst hC
  have ok : ∀ w ∈ wsV own index y.cls y ws, w.before args s = true := fun w h => ht w (hT w h).1
  have hG : GoodIn Ts ws := fun w h => hT w (by unfold wsV; exact List.mem_append_right _ h)
  have hc : Cond.codeWith y bytes maxL ret hh ∈ ws := by rw [hw]; exact List.mem_cons_self
  refine ⟨⟨hrc, hrs, hR.1, hR.2, pay_in ht hG, hc⟩, ht _ (hG _ hc).1, ok _ (by simp [wsV]), ⟨hd.1, hd.2.1⟩, fun sig h => ?_, ok _ (by simp [wsV]), ok _ (by simp [wsV]), ok _ (by simp [wsV])⟩
  have h2 := hd.2.2
  rw [h] at h2
  exact (Option.some.inj h2).symm
theorem vx_runVW {y : MethodName} {bytes cc : ByteArray} {maxL nL mc ms n index : Nat} {ret : Option FieldType} {hh : List (Nat × Nat × Nat × Nat)} {ws : List Cond} {rm : Room} {Pc : Array Value → State → Prop} {Qc : Array Value → State → Outcome → State → Prop} {free : Addr → Prop} {Ts : List Cond} {own C : String} {b : Addr} {As rest : List Value} {g : JFrame}
    (S : CallFix p m c cc nL s args Ts own) (hM : Met l y ws rm Pc Qc mc ms free) (cw : vx_CVW R s args own C index y bytes maxL ret hh ws rm mc ms n) (hp : PreV s H C b Pc As)
    (hg : g.method = m) (hn : As.length = n) (hsize : g.locals.size = nL) (hstack : g.stack = As.reverse ++ .ref b :: rest) (hW : 2 * g.monitorRoom + (rest.map fun v => v.category).sum ≤ 8) (hdg : decode cc g.pc = .ok (.invokevirtual index, 3)) (hf : cells + mc ≤ R.cells ∧ slots + ms ≤ R.slots) :
    va_Run p l e R s m args below meth c H locs cells slots mc ms g rest (Qc (Value.ref b :: As).toArray) free := by
  obtain ⟨⟨hrc, hrs, hfr, hlo, hws, hcw⟩, hcode, hini, hy, hlen, hl, hin, hse⟩ := cw
  have hK : Back l R p e below s args y 3 8 (PreOf R mc ms Pc) (PostOf Qc mc ms free) := va_backW (hh := hh) (bytes := bytes) (maxL := maxL) (ret := ret) hM hp.1 hrc hrs hfr hlo hws hcw (fun a' U hW => word_at hW (Or.inl (by first | rfl | simp [Cond.onTables, Cond.keeps, Cond.steady])) hini)
  obtain ⟨hx, hb, hml, ho, -⟩ := S
  obtain ⟨-, ⟨cellB, hcB, hoB, hclB⟩, hPc⟩ := hp
  intro T hT X
  obtain ⟨v, vm₁, ⟨U', l2, c2, s2⟩, hW₁, X', ⟨g', mk, t, L, e1, e2, hq, h1, hL, h2, h3⟩, st⟩ := vx_callVW X hx (C := C) (hh := hh) (bytes := bytes) (maxL := maxL) (ret := ret) ho hl hin hse hcode hy hK (by rw [hT]; exact hcB) hoB hclB hg (hsize.trans hml.symm) (argsL := As) (rest := rest) (fun sig h => hn.trans (hlen sig h)) hstack hW (by rw [hb]; exact hdg)
    (fun vm₁ hW₁ => ⟨hf.1, hf.2, hPc (T.setVm vm₁) hT hW₁⟩)
  dsimp only [Pt.U, Pt.locs, Pt.cells, Pt.slots] at X' e1 e2 h1 h2 h3 st
  subst h1; subst h2; subst h3
  exact ⟨v, (T.setVm vm₁).calling g' mk (Value.ref b :: As).toArray, t, U', L, hT, X', hL, e1, e2, hq, st⟩
section
variable {y : MethodName} {bytes cc : ByteArray} {maxL nL mc ms n index : Nat} {ret : Option FieldType} {ws : List Cond} {rm : Room} {Pc : Array Value → State → Prop} {Qc : Array Value → State → Outcome → State → Prop} {XC : String → State → State → Prop} {free : Addr → Prop} {Ts : List Cond} {own C : String} {b : Addr} {As rest : List Value} {g : JFrame}
theorem vx_runVX {hh : List (Nat × Nat × Nat × Nat)} (S : CallFix p m c cc nL s args Ts own) (hM : vx_Met l y ws rm Pc Qc XC mc ms free) (cw : vx_CVW R s args own C index y bytes maxL ret hh ws rm mc ms n) (hp : PreV s H C b Pc As)
    (hg : g.method = m) (hn : As.length = n) (hsize : g.locals.size = nL) (hstack : g.stack = As.reverse ++ .ref b :: rest) (hW : 2 * g.monitorRoom + (rest.map fun v => v.category).sum ≤ 8) (hdg : decode cc g.pc = .ok (.invokevirtual index, 3)) (hf : cells + mc ≤ R.cells ∧ slots + ms ≤ R.slots) :
    vx_Run p l e R s m args below meth c H locs cells slots mc ms g rest (Qc (Value.ref b :: As).toArray) XC free := by
  obtain ⟨⟨hrc, hrs, hfr, hlo, hws, hcw⟩, hcode, hini, hy, hlen, hl, hin, hse⟩ := cw
  have hK : vx_Back l R p e below s args y 3 8 (PreOf R mc ms Pc) (PostOf Qc mc ms free) (vx_Post XC mc ms free) := vx_backW (hh := hh) (bytes := bytes) (maxL := maxL) (ret := ret) hM hp.1 hrc hrs hfr hlo hws hcw (fun a' U hW => word_at hW (Or.inl (by first | rfl | simp [Cond.onTables, Cond.keeps, Cond.steady])) hini)
  obtain ⟨hx, hb, hml, ho, -⟩ := S
  obtain ⟨-, ⟨cellB, hcB, hoB, hclB⟩, hPc⟩ := hp
  intro T hT X
  rcases vx_callVX X hx (C := C) (hh := hh) (bytes := bytes) (maxL := maxL) (ret := ret) ho hl hin hse hcode hy hK (by rw [hT]; exact hcB) hoB hclB hg (hsize.trans hml.symm) (argsL := As) (rest := rest) (fun sig h => hn.trans (hlen sig h)) hstack hW (by rw [hb]; exact hdg)
    (fun vm₁ hW₁ => ⟨hf.1, hf.2, hPc (T.setVm vm₁) hT hW₁⟩) with ⟨v, vm₁, ⟨U', l2, c2, s2⟩, hW₁, X', ⟨g', mk, t, L, e1, e2, hq, h1, hL, h2, h3⟩, st⟩ | ⟨q, vm₁, ⟨U', l2, c2, s2⟩, hW₁, X', ⟨g', mk, t, L, E, ce, e1, e2, hq, hce, hcv, hcl, h1, hL, h2, h3⟩, st⟩
  · dsimp only [Pt.U, Pt.locs, Pt.cells, Pt.slots] at X' e1 e2 h1 h2 h3 st
    subst h1; subst h2; subst h3
    exact Or.inl ⟨v, (T.setVm vm₁).calling g' mk (Value.ref b :: As).toArray, t, U', L, hT, X', hL, e1, e2, hq, st⟩
  · dsimp only [Pt.U, Pt.locs, Pt.cells, Pt.slots] at X' e1 e2 h1 h2 h3 st hcl
    subst h1; subst h2; subst h3
    exact Or.inr ⟨q, (T.setVm vm₁).calling g' mk (Value.ref b :: As).toArray, t, U', L, E, ce, hT, X', hL, e1, e2, hq, hce, hcv, vx_cls hW₁ hcl, st⟩
theorem vx_runSX {hh : List (Nat × Nat × Nat × Nat)} (S : CallFix p m c cc nL s args Ts own) (hM : vx_Met l y ws rm Pc Qc XC mc ms free) (cw : vx_CSW R s args own index y bytes maxL ret hh ws rm mc ms n) (hp : PreS s H Pc As)
    (hg : g.method = m) (hn : As.length = n) (hsize : g.locals.size = nL) (hstack : g.stack = As.reverse ++ rest) (hW : 2 * g.monitorRoom + (rest.map fun v => v.category).sum ≤ 8) (hdg : decode cc g.pc = .ok (.invokestatic index, 3)) (hf : cells + mc ≤ R.cells ∧ slots + ms ≤ R.slots) :
    vx_Run p l e R s m args below meth c H locs cells slots mc ms g rest (Qc As.toArray) XC free := by
  obtain ⟨⟨hrc, hrs, hfr, hlo, hws, hcw⟩, hcode, hini, hy, hlen, hl, hstt⟩ := cw
  have hK : vx_Back l R p e below s args y 3 8 (PreOf R mc ms Pc) (PostOf Qc mc ms free) (vx_Post XC mc ms free) := vx_backW (hh := hh) (bytes := bytes) (maxL := maxL) (ret := ret) hM hp.1 hrc hrs hfr hlo hws hcw (fun a' U hW => word_at hW (Or.inl (by first | rfl | simp [Cond.onTables, Cond.keeps, Cond.steady])) hini)
  obtain ⟨hx, hb, hml, ho, -⟩ := S
  intro T hT X
  rcases vx_callSX X hx (hh := hh) (bytes := bytes) (maxL := maxL) (ret := ret) ho hl hstt hini hcode hy hK hg (hsize.trans hml.symm) (argsL := As) (rest := rest) (fun sig h => hn.trans (hlen sig h)) hstack hW (by rw [hb]; exact hdg)
    (fun vm₁ hW₁ => ⟨hf.1, hf.2, hp.2 (T.setVm vm₁) hT hW₁⟩) with ⟨v, vm₁, ⟨U', l2, c2, s2⟩, hW₁, X', ⟨g', mk, t, L, e1, e2, hq, h1, hL, h2, h3⟩, st⟩ | ⟨q, vm₁, ⟨U', l2, c2, s2⟩, hW₁, X', ⟨g', mk, t, L, E, ce, e1, e2, hq, hce, hcv, hcl, h1, hL, h2, h3⟩, st⟩
  · dsimp only [Pt.U, Pt.locs, Pt.cells, Pt.slots] at X' e1 e2 h1 h2 h3 st
    subst h1; subst h2; subst h3
    exact Or.inl ⟨v, (T.setVm vm₁).calling g' mk As.toArray, t, U', L, hT, X', hL, e1, e2, hq, st⟩
  · dsimp only [Pt.U, Pt.locs, Pt.cells, Pt.slots] at X' e1 e2 h1 h2 h3 st hcl
    subst h1; subst h2; subst h3
    exact Or.inr ⟨q, (T.setVm vm₁).calling g' mk As.toArray, t, U', L, E, ce, hT, X', hL, e1, e2, hq, hce, hcv, vx_cls hW₁ hcl, st⟩
end
end VXH
theorem vx_ofWH {l : Launch} {y : MethodName} {ws ws' : List Cond} {rm : Room} {Pc : Array Value → State → Prop} {Qc : Array Value → State → Outcome → State → Prop} {XC : String → State → State → Prop} {mc ms : Nat} {free : Addr → Prop} {cc : ByteArray} {maxL : Nat} {ret : Option FieldType} {hh : List (Nat × Nat × Nat × Nat)}
    (hy : plainName y.cls = true) (hw : ws = Cond.codeWith y cc maxL ret hh :: ws')
    (body : ∀ p e s m args below meth c s₁, BodyLoose p l y (headSpec ws rm) cc maxL ret e s m args below meth c s₁ → c.maxLocals = maxL → Pc args s →
      W p l e (headSpec ws rm).room s m args below meth c s.heap [] 0 0 (vx_MQ below Qc XC args s mc ms free) (entryFrame m args maxL)) : vx_Met l y ws rm Pc Qc XC mc ms free := by
  refine MetFree.of_bodyS (code := cc) (maxLocals := maxL) (ret := ret) hy ?_ ?_
  · intro args s m h hn
    obtain ⟨m9, meth, c, hn9, h1, h2, h3, h4, -, h5, h6, -⟩ := Cond.codeWith_spec (atoms_spec (ws := ws) h _ (by rw [hw]; exact List.mem_cons_self))
    cases hn.symm.trans hn9
    exact ⟨meth, c, h1, h2, h3, h4, h5, h6⟩
  · intro p e s m args below meth c s₁ B hml hP _
    have hh0 : s₁.heap = s.heap := by rw [B.state]; rfl
    obtain ⟨t, a1, o, b1, b2, b3⟩ := body p e s m args below meth c s₁ B hml hP s₁ hh0 (Stand.of_body B)
    exact ⟨t, o, a1, b1, b2, b3⟩
/-! ===== END ===== -/
end
section
/-! ===== BEGIN printed: names, fields, word lists, decode rows ===== -/
def RX0 : String := "FeedbackQueues$Level"
def TX0 : u_T := fun k => match k with
  | 0 => ("FeedbackQueues$Level", "quantum", "I", false)
  | 1 => ("FeedbackQueues$Level", "share", "I", false)
  | 2 => ("FeedbackQueues$Level", "queue", "[I", true)
  | _ => ("FeedbackQueues$Level", "size", "I", false)
def tyX0 : Nat → FieldType := fun k => match k with
  | 0 => .int
  | 1 => .int
  | 2 => .array .int
  | _ => .int
abbrev wsX00 : List Cond := u_ws RX0 TX0 4
theorem nmX0 : ∀ a, a < 4 → ∀ b, b < 4 → a ≠ b → (TX0 a).2.1 ≠ (TX0 b).2.1 := by decide +kernel
theorem tyX0_ok : ∀ k, k < 4 → parseFieldDescriptor (TX0 k).2.2.1 = some (tyX0 k) := by decide +kernel
abbrev cX0_init : ByteArray := prog_2_method_1_code
def yX0_init : MethodName := ⟨RX0, "<init>", "()V"⟩
abbrev cX0_clear : ByteArray := prog_2_method_2_code
def yX0_clear : MethodName := ⟨RX0, "clear", "()V"⟩
abbrev cX0_at : ByteArray := prog_2_method_3_code
def yX0_at : MethodName := ⟨RX0, "at", "(I)I"⟩
abbrev cX0_addLast : ByteArray := prog_2_method_4_code
def yX0_addLast : MethodName := ⟨RX0, "addLast", "(I)V"⟩
abbrev cX0_addFirst : ByteArray := prog_2_method_5_code
def yX0_addFirst : MethodName := ⟨RX0, "addFirst", "(I)V"⟩
abbrev cX0_takeFirst : ByteArray := prog_2_method_6_code
def yX0_takeFirst : MethodName := ⟨RX0, "takeFirst", "()I"⟩
abbrev cX0_addAllOf : ByteArray := prog_2_method_7_code
def yX0_addAllOf : MethodName := ⟨RX0, "addAllOf", "(LFeedbackQueues$Level;)V"⟩
def RX1 : String := "FeedbackQueues$Task"
def TX1 : u_T := fun k => match k with
  | 0 => ("FeedbackQueues$Task", "number", "I", true)
  | 1 => ("FeedbackQueues$Task", "arrival", "I", false)
  | 2 => ("FeedbackQueues$Task", "bursts", "[I", true)
  | 3 => ("FeedbackQueues$Task", "burstCount", "I", false)
  | 4 => ("FeedbackQueues$Task", "state", "I", false)
  | 5 => ("FeedbackQueues$Task", "level", "I", false)
  | 6 => ("FeedbackQueues$Task", "burstsBegun", "I", false)
  | 7 => ("FeedbackQueues$Task", "burstLeft", "I", false)
  | 8 => ("FeedbackQueues$Task", "quantumLeft", "I", false)
  | 9 => ("FeedbackQueues$Task", "shareLeft", "I", false)
  | 10 => ("FeedbackQueues$Task", "keepsQuantum", "Z", false)
  | 11 => ("FeedbackQueues$Task", "ticksRun", "I", false)
  | 12 => ("FeedbackQueues$Task", "ticksReady", "I", false)
  | 13 => ("FeedbackQueues$Task", "ticksBlocked", "I", false)
  | 14 => ("FeedbackQueues$Task", "firstRun", "I", false)
  | 15 => ("FeedbackQueues$Task", "endedAt", "I", false)
  | 16 => ("FeedbackQueues$Task", "timesSwitchedTo", "I", false)
  | 17 => ("FeedbackQueues$Task", "timesDown", "I", false)
  | _ => ("FeedbackQueues$Task", "timesToFront", "I", false)
def tyX1 : Nat → FieldType := fun k => match k with
  | 0 => .int
  | 1 => .int
  | 2 => .array .int
  | 3 => .int
  | 4 => .int
  | 5 => .int
  | 6 => .int
  | 7 => .int
  | 8 => .int
  | 9 => .int
  | 10 => .boolean
  | 11 => .int
  | 12 => .int
  | 13 => .int
  | 14 => .int
  | 15 => .int
  | 16 => .int
  | 17 => .int
  | _ => .int
abbrev wsX10 : List Cond := u_ws RX1 TX1 19
theorem nmX1 : ∀ a, a < 19 → ∀ b, b < 19 → a ≠ b → (TX1 a).2.1 ≠ (TX1 b).2.1 := by decide +kernel
theorem tyX1_ok : ∀ k, k < 19 → parseFieldDescriptor (TX1 k).2.2.1 = some (tyX1 k) := by decide +kernel
abbrev cX1_init : ByteArray := prog_3_method_1_code
def yX1_init : MethodName := ⟨RX1, "<init>", "(I)V"⟩
abbrev cX1_startOver : ByteArray := prog_3_method_2_code
def yX1_startOver : MethodName := ⟨RX1, "startOver", "()V"⟩
abbrev cX1_tellArrival : ByteArray := prog_3_method_3_code
def yX1_tellArrival : MethodName := ⟨RX1, "tellArrival", "(I)V"⟩
abbrev cX1_tellBurst : ByteArray := prog_3_method_4_code
def yX1_tellBurst : MethodName := ⟨RX1, "tellBurst", "(I)I"⟩
abbrev cX1_beginBurst : ByteArray := prog_3_method_5_code
def yX1_beginBurst : MethodName := ⟨RX1, "beginBurst", "()Z"⟩
abbrev cX1_beginRunning : ByteArray := prog_3_method_6_code
def yX1_beginRunning : MethodName := ⟨RX1, "beginRunning", "(II)V"⟩
abbrev cX1_comeUp : ByteArray := prog_3_method_7_code
def yX1_comeUp : MethodName := ⟨RX1, "comeUp", "(II)V"⟩
def RX2 : String := "FeedbackQueues"
def TX2 : u_T := fun k => match k with
  | 0 => ("FeedbackQueues", "levelRows", "[LFeedbackQueues$Level;", true)
  | 1 => ("FeedbackQueues", "tasks", "[LFeedbackQueues$Task;", true)
  | 2 => ("FeedbackQueues", "switchesKept", "[I", true)
  | 3 => ("FeedbackQueues", "levelCount", "I", false)
  | 4 => ("FeedbackQueues", "taskCount", "I", false)
  | 5 => ("FeedbackQueues", "periodTicks", "I", false)
  | 6 => ("FeedbackQueues", "now", "I", false)
  | 7 => ("FeedbackQueues", "onProcessor", "LFeedbackQueues$Task;", false)
  | 8 => ("FeedbackQueues", "switchCount", "I", false)
  | 9 => ("FeedbackQueues", "idleCount", "I", false)
  | 10 => ("FeedbackQueues", "comeUpCount", "I", false)
  | _ => ("FeedbackQueues", "endedCount", "I", false)
def tyX2 : Nat → FieldType := fun k => match k with
  | 0 => .array (.object "FeedbackQueues$Level")
  | 1 => .array (.object "FeedbackQueues$Task")
  | 2 => .array .int
  | 3 => .int
  | 4 => .int
  | 5 => .int
  | 6 => .int
  | 7 => .object "FeedbackQueues$Task"
  | 8 => .int
  | 9 => .int
  | 10 => .int
  | _ => .int
abbrev wsX20 : List Cond := u_ws RX2 TX2 12
theorem nmX2 : ∀ a, a < 12 → ∀ b, b < 12 → a ≠ b → (TX2 a).2.1 ≠ (TX2 b).2.1 := by decide +kernel
theorem tyX2_ok : ∀ k, k < 12 → parseFieldDescriptor (TX2 k).2.2.1 = some (tyX2 k) := by decide +kernel
abbrev cX2_init : ByteArray := prog_1_method_1_code
def yX2_init : MethodName := ⟨RX2, "<init>", "()V"⟩
abbrev cX2_levels : ByteArray := prog_1_method_2_code
def yX2_levels : MethodName := ⟨RX2, "levels", "(I)V"⟩
abbrev cX2_level : ByteArray := prog_1_method_3_code
def yX2_level : MethodName := ⟨RX2, "level", "(III)V"⟩
abbrev cX2_period : ByteArray := prog_1_method_4_code
def yX2_period : MethodName := ⟨RX2, "period", "(I)V"⟩
abbrev cX2_process : ByteArray := prog_1_method_5_code
def yX2_process : MethodName := ⟨RX2, "process", "(I)I"⟩
abbrev cX2_burst : ByteArray := prog_1_method_6_code
def yX2_burst : MethodName := ⟨RX2, "burst", "(II)I"⟩
abbrev cX2_run : ByteArray := prog_1_method_7_code
def yX2_run : MethodName := ⟨RX2, "run", "(I)I"⟩
abbrev cX2_restart : ByteArray := prog_1_method_8_code
def yX2_restart : MethodName := ⟨RX2, "restart", "()V"⟩
abbrev cX2_time : ByteArray := prog_1_method_9_code
def yX2_time : MethodName := ⟨RX2, "time", "()I"⟩
abbrev cX2_told : ByteArray := prog_1_method_10_code
def yX2_told : MethodName := ⟨RX2, "told", "(II)I"⟩
abbrev cX2_running : ByteArray := prog_1_method_11_code
def yX2_running : MethodName := ⟨RX2, "running", "()I"⟩
abbrev cX2_queued : ByteArray := prog_1_method_12_code
def yX2_queued : MethodName := ⟨RX2, "queued", "(II)I"⟩
abbrev cX2_all : ByteArray := prog_1_method_13_code
def yX2_all : MethodName := ⟨RX2, "all", "(I)I"⟩
abbrev cX2_switched : ByteArray := prog_1_method_14_code
def yX2_switched : MethodName := ⟨RX2, "switched", "(I)I"⟩
abbrev cX2_isLevel : ByteArray := prog_1_method_15_code
def yX2_isLevel : MethodName := ⟨RX2, "isLevel", "(I)Z"⟩
abbrev cX2_isTask : ByteArray := prog_1_method_16_code
def yX2_isTask : MethodName := ⟨RX2, "isTask", "(I)Z"⟩
abbrev cX2_startOver : ByteArray := prog_1_method_17_code
def yX2_startOver : MethodName := ⟨RX2, "startOver", "()V"⟩
abbrev cX2_doTick : ByteArray := prog_1_method_18_code
def yX2_doTick : MethodName := ⟨RX2, "doTick", "()V"⟩
abbrev cX2_bringAllUp : ByteArray := prog_1_method_19_code
def yX2_bringAllUp : MethodName := ⟨RX2, "bringAllUp", "()V"⟩
abbrev cX2_letArrive : ByteArray := prog_1_method_20_code
def yX2_letArrive : MethodName := ⟨RX2, "letArrive", "()V"⟩
abbrev cX2_letComeBack : ByteArray := prog_1_method_21_code
def yX2_letComeBack : MethodName := ⟨RX2, "letComeBack", "()V"⟩
abbrev cX2_goOnOrEnd : ByteArray := prog_1_method_22_code
def yX2_goOnOrEnd : MethodName := ⟨RX2, "goOnOrEnd", "(LFeedbackQueues$Task;)V"⟩
abbrev cX2_makeWay : ByteArray := prog_1_method_23_code
def yX2_makeWay : MethodName := ⟨RX2, "makeWay", "()V"⟩
abbrev cX2_isOneReadyAbove : ByteArray := prog_1_method_24_code
def yX2_isOneReadyAbove : MethodName := ⟨RX2, "isOneReadyAbove", "(I)Z"⟩
abbrev cX2_switchToFirst : ByteArray := prog_1_method_25_code
def yX2_switchToFirst : MethodName := ⟨RX2, "switchToFirst", "()V"⟩
abbrev cX2_switchTo : ByteArray := prog_1_method_26_code
def yX2_switchTo : MethodName := ⟨RX2, "switchTo", "(LFeedbackQueues$Task;)V"⟩
abbrev cX2_countWaiting : ByteArray := prog_1_method_27_code
def yX2_countWaiting : MethodName := ⟨RX2, "countWaiting", "()V"⟩
abbrev cX2_useTick : ByteArray := prog_1_method_28_code
def yX2_useTick : MethodName := ⟨RX2, "useTick", "(LFeedbackQueues$Task;)V"⟩
abbrev cX2_blockOrEnd : ByteArray := prog_1_method_29_code
def yX2_blockOrEnd : MethodName := ⟨RX2, "blockOrEnd", "(LFeedbackQueues$Task;)V"⟩
abbrev cX2_sendDown : ByteArray := prog_1_method_30_code
def yX2_sendDown : MethodName := ⟨RX2, "sendDown", "(LFeedbackQueues$Task;)V"⟩
abbrev cX2_standAtEnd : ByteArray := prog_1_method_31_code
def yX2_standAtEnd : MethodName := ⟨RX2, "standAtEnd", "(LFeedbackQueues$Task;)V"⟩
abbrev cX2_endTask : ByteArray := prog_1_method_32_code
def yX2_endTask : MethodName := ⟨RX2, "endTask", "(LFeedbackQueues$Task;I)V"⟩
def RX3 : String := "FeedbackQueuesModel"
def TX3 : u_T := fun k => match k with
  | 0 => ("FeedbackQueuesModel", "thrown", "I", false)
  | 1 => ("FeedbackQueuesModel", "levels", "I", false)
  | 2 => ("FeedbackQueuesModel", "quanta", "[I", true)
  | 3 => ("FeedbackQueuesModel", "shares", "[I", true)
  | 4 => ("FeedbackQueuesModel", "period", "I", false)
  | 5 => ("FeedbackQueuesModel", "processes", "I", false)
  | 6 => ("FeedbackQueuesModel", "arrivals", "[I", true)
  | 7 => ("FeedbackQueuesModel", "bursts", "[I", true)
  | 8 => ("FeedbackQueuesModel", "ticks", "[I", true)
  | 9 => ("FeedbackQueuesModel", "time", "I", false)
  | 10 => ("FeedbackQueuesModel", "running", "I", false)
  | 11 => ("FeedbackQueuesModel", "state", "[I", true)
  | 12 => ("FeedbackQueuesModel", "level", "[I", true)
  | 13 => ("FeedbackQueuesModel", "at", "[I", true)
  | 14 => ("FeedbackQueuesModel", "left", "[I", true)
  | 15 => ("FeedbackQueuesModel", "quantum", "[I", true)
  | 16 => ("FeedbackQueuesModel", "share", "[I", true)
  | 17 => ("FeedbackQueuesModel", "kept", "[Z", true)
  | 18 => ("FeedbackQueuesModel", "until", "[I", true)
  | 19 => ("FeedbackQueuesModel", "counts", "[I", true)
  | 20 => ("FeedbackQueuesModel", "queue", "[I", true)
  | 21 => ("FeedbackQueuesModel", "size", "[I", true)
  | 22 => ("FeedbackQueuesModel", "all", "[I", true)
  | _ => ("FeedbackQueuesModel", "switches", "[I", true)
def tyX3 : Nat → FieldType := fun k => match k with
  | 0 => .int
  | 1 => .int
  | 2 => .array .int
  | 3 => .array .int
  | 4 => .int
  | 5 => .int
  | 6 => .array .int
  | 7 => .array .int
  | 8 => .array .int
  | 9 => .int
  | 10 => .int
  | 11 => .array .int
  | 12 => .array .int
  | 13 => .array .int
  | 14 => .array .int
  | 15 => .array .int
  | 16 => .array .int
  | 17 => .array .boolean
  | 18 => .array .int
  | 19 => .array .int
  | 20 => .array .int
  | 21 => .array .int
  | 22 => .array .int
  | _ => .array .int
abbrev wsX30 : List Cond := u_ws RX3 TX3 24
theorem nmX3 : ∀ a, a < 24 → ∀ b, b < 24 → a ≠ b → (TX3 a).2.1 ≠ (TX3 b).2.1 := by decide +kernel
theorem tyX3_ok : ∀ k, k < 24 → parseFieldDescriptor (TX3 k).2.2.1 = some (tyX3 k) := by decide +kernel
abbrev cX3_init : ByteArray := prog_5_method_1_code
def yX3_init : MethodName := ⟨RX3, "<init>", "()V"⟩
abbrev cX3_thrown : ByteArray := prog_5_method_2_code
def yX3_thrown : MethodName := ⟨RX3, "thrown", "()I"⟩
abbrev cX3_set : ByteArray := prog_5_method_3_code
def yX3_set : MethodName := ⟨RX3, "set", "(I)V"⟩
abbrev cX3_begin : ByteArray := prog_5_method_4_code
def yX3_begin : MethodName := ⟨RX3, "begin", "()V"⟩
abbrev cX3_levels : ByteArray := prog_5_method_5_code
def yX3_levels : MethodName := ⟨RX3, "levels", "(I)V"⟩
abbrev cX3_level : ByteArray := prog_5_method_6_code
def yX3_level : MethodName := ⟨RX3, "level", "(III)V"⟩
abbrev cX3_period : ByteArray := prog_5_method_7_code
def yX3_period : MethodName := ⟨RX3, "period", "(I)V"⟩
abbrev cX3_process : ByteArray := prog_5_method_8_code
def yX3_process : MethodName := ⟨RX3, "process", "(I)I"⟩
abbrev cX3_noProcess : ByteArray := prog_5_method_9_code
def yX3_noProcess : MethodName := ⟨RX3, "noProcess", "(I)Z"⟩
abbrev cX3_burst : ByteArray := prog_5_method_10_code
def yX3_burst : MethodName := ⟨RX3, "burst", "(II)I"⟩
abbrev cX3_toEnd : ByteArray := prog_5_method_11_code
def yX3_toEnd : MethodName := ⟨RX3, "toEnd", "(II)V"⟩
abbrev cX3_toFront : ByteArray := prog_5_method_12_code
def yX3_toFront : MethodName := ⟨RX3, "toFront", "(II)V"⟩
abbrev cX3_takeFirst : ByteArray := prog_5_method_13_code
def yX3_takeFirst : MethodName := ⟨RX3, "takeFirst", "(I)I"⟩
abbrev cX3_allUp : ByteArray := prog_5_method_14_code
def yX3_allUp : MethodName := ⟨RX3, "allUp", "()V"⟩
abbrev cX3_end : ByteArray := prog_5_method_15_code
def yX3_end : MethodName := ⟨RX3, "end", "(II)V"⟩
abbrev cX3_come : ByteArray := prog_5_method_16_code
def yX3_come : MethodName := ⟨RX3, "come", "(I)V"⟩
abbrev cX3_comeBack : ByteArray := prog_5_method_17_code
def yX3_comeBack : MethodName := ⟨RX3, "comeBack", "(I)V"⟩
abbrev cX3_firstLevel : ByteArray := prog_5_method_18_code
def yX3_firstLevel : MethodName := ⟨RX3, "firstLevel", "()I"⟩
abbrev cX3_choose : ByteArray := prog_5_method_19_code
def yX3_choose : MethodName := ⟨RX3, "choose", "(I)V"⟩
abbrev cX3_work : ByteArray := prog_5_method_20_code
def yX3_work : MethodName := ⟨RX3, "work", "(I)V"⟩
abbrev cX3_count : ByteArray := prog_5_method_21_code
def yX3_count : MethodName := ⟨RX3, "count", "()V"⟩
abbrev cX3_run : ByteArray := prog_5_method_22_code
def yX3_run : MethodName := ⟨RX3, "run", "(I)I"⟩
abbrev cX3_restart : ByteArray := prog_5_method_23_code
def yX3_restart : MethodName := ⟨RX3, "restart", "()V"⟩
abbrev cX3_time : ByteArray := prog_5_method_24_code
def yX3_time : MethodName := ⟨RX3, "time", "()I"⟩
abbrev cX3_told : ByteArray := prog_5_method_25_code
def yX3_told : MethodName := ⟨RX3, "told", "(II)I"⟩
abbrev cX3_running : ByteArray := prog_5_method_26_code
def yX3_running : MethodName := ⟨RX3, "running", "()I"⟩
abbrev cX3_queued : ByteArray := prog_5_method_27_code
def yX3_queued : MethodName := ⟨RX3, "queued", "(II)I"⟩
abbrev cX3_all : ByteArray := prog_5_method_28_code
def yX3_all : MethodName := ⟨RX3, "all", "(I)I"⟩
abbrev cX3_switched : ByteArray := prog_5_method_29_code
def yX3_switched : MethodName := ⟨RX3, "switched", "(I)I"⟩
def RJ9 : String := "java/lang/Math"
def TJ9 : u_T := fun k => match k with
  | _ => ("", "", "", false)
def tyJ9 : Nat → FieldType := fun k => match k with
  | _ => .int
abbrev wsJ90 : List Cond := u_ws RJ9 TJ9 0
theorem nmJ9 : ∀ a, a < 0 → ∀ b, b < 0 → a ≠ b → (TJ9 a).2.1 ≠ (TJ9 b).2.1 := by decide +kernel
theorem tyJ9_ok : ∀ k, k < 0 → parseFieldDescriptor (TJ9 k).2.2.1 = some (tyJ9 k) := by decide +kernel
abbrev cJ9_min_7cf53 : ByteArray := prog_10_method_69_code
def yJ9_min_7cf53 : MethodName := ⟨RJ9, "min", "(II)I"⟩
def RJ0 : String := "java/lang/String"
def TJ0 : u_T := fun k => match k with
  | _ => ("", "", "", false)
def tyJ0 : Nat → FieldType := fun k => match k with
  | _ => .int
abbrev wsJ00 : List Cond := u_ws RJ0 TJ0 0
theorem nmJ0 : ∀ a, a < 0 → ∀ b, b < 0 → a ≠ b → (TJ0 a).2.1 ≠ (TJ0 b).2.1 := by decide +kernel
theorem tyJ0_ok : ∀ k, k < 0 → parseFieldDescriptor (TJ0 k).2.2.1 = some (tyJ0 k) := by decide +kernel
def RL : String := "FeedbackQueuesLaw"
abbrev cL_levels : ByteArray := method_3_code
def yL_levels : MethodName := ⟨RL, "levels", "(LFeedbackQueues;I)I"⟩
abbrev cL_level : ByteArray := method_4_code
def yL_level : MethodName := ⟨RL, "level", "(LFeedbackQueues;III)I"⟩
abbrev cL_period : ByteArray := method_5_code
def yL_period : MethodName := ⟨RL, "period", "(LFeedbackQueues;I)I"⟩
abbrev cL_process : ByteArray := method_6_code
def yL_process : MethodName := ⟨RL, "process", "(LFeedbackQueues;I[J)I"⟩
abbrev cL_burst : ByteArray := method_7_code
def yL_burst : MethodName := ⟨RL, "burst", "(LFeedbackQueues;II[J)I"⟩
abbrev cL_run : ByteArray := method_8_code
def yL_run : MethodName := ⟨RL, "run", "(LFeedbackQueues;I[J)I"⟩
abbrev cL_told : ByteArray := method_9_code
def yL_told : MethodName := ⟨RL, "told", "(LFeedbackQueues;II[J)I"⟩
abbrev cL_queued : ByteArray := method_10_code
def yL_queued : MethodName := ⟨RL, "queued", "(LFeedbackQueues;II[J)I"⟩
abbrev cL_all : ByteArray := method_11_code
def yL_all : MethodName := ⟨RL, "all", "(LFeedbackQueues;I[J)I"⟩
abbrev cL_switched : ByteArray := method_12_code
def yL_switched : MethodName := ⟨RL, "switched", "(LFeedbackQueues;I[J)I"⟩
abbrev cL_law : ByteArray := code
def yL_law : MethodName := ⟨RL, "law", "([I)Z"⟩
def wsX0_init : List Cond := .code yX0_init cX0_init 1 none :: ([.methodLink RX0 3 objectInit, .instanceMethod objectInit, .code objectInit ⟨#[0xb1]⟩ 1 none, .fieldLink RX0 9 "FeedbackQueues$Level" "quantum" "I", .fieldLink RX0 15 "FeedbackQueues$Level" "share" "I", .arrayClass .int, .fieldLink RX0 18 "FeedbackQueues$Level" "queue" "[I", .fieldLink RX0 22 "FeedbackQueues$Level" "size" "I"] ++ wsX00)
def wsX0_clear : List Cond := .code yX0_clear cX0_clear 1 none :: ([.fieldLink RX0 22 "FeedbackQueues$Level" "size" "I"] ++ wsX00)
def wsX0_at : List Cond := .code yX0_at cX0_at 2 (some .int) :: ([.fieldLink RX0 22 "FeedbackQueues$Level" "size" "I", .fieldLink RX0 18 "FeedbackQueues$Level" "queue" "[I"] ++ wsX00)
def wsX0_addLast : List Cond := .code yX0_addLast cX0_addLast 2 none :: ([.fieldLink RX0 22 "FeedbackQueues$Level" "size" "I", .fieldLink RX0 18 "FeedbackQueues$Level" "queue" "[I"] ++ wsX00)
def wsX0_addFirst : List Cond := .code yX0_addFirst cX0_addFirst 3 none :: ([.fieldLink RX0 22 "FeedbackQueues$Level" "size" "I", .fieldLink RX0 18 "FeedbackQueues$Level" "queue" "[I"] ++ wsX00)
def wsX0_takeFirst : List Cond := .code yX0_takeFirst cX0_takeFirst 3 (some .int) :: ([.fieldLink RX0 22 "FeedbackQueues$Level" "size" "I", .fieldLink RX0 18 "FeedbackQueues$Level" "queue" "[I"] ++ wsX00)
def wsX0_addAllOf : List Cond := .code yX0_addAllOf cX0_addAllOf 3 none :: ([.fieldLink RX0 22 "FeedbackQueues$Level" "size" "I", .fieldLink RX0 18 "FeedbackQueues$Level" "queue" "[I", .methodLink RX0 25 yX0_addLast, .instanceMethod yX0_addLast, .selects RX0 yX0_addLast yX0_addLast, .initialized RX0, .code yX0_addLast cX0_addLast 2 none] ++ wsX00)
def wsX1_init : List Cond := .code yX1_init cX1_init 2 none :: ([.methodLink RX1 3 objectInit, .instanceMethod objectInit, .code objectInit ⟨#[0xb1]⟩ 1 none, .fieldLink RX1 9 "FeedbackQueues$Task" "arrival" "I", .arrayClass .int, .fieldLink RX1 15 "FeedbackQueues$Task" "bursts" "[I", .fieldLink RX1 19 "FeedbackQueues$Task" "burstCount" "I", .fieldLink RX1 22 "FeedbackQueues$Task" "state" "I", .fieldLink RX1 25 "FeedbackQueues$Task" "level" "I", .fieldLink RX1 28 "FeedbackQueues$Task" "burstsBegun" "I", .fieldLink RX1 31 "FeedbackQueues$Task" "burstLeft" "I", .fieldLink RX1 34 "FeedbackQueues$Task" "quantumLeft" "I", .fieldLink RX1 37 "FeedbackQueues$Task" "shareLeft" "I", .fieldLink RX1 40 "FeedbackQueues$Task" "keepsQuantum" "Z", .fieldLink RX1 44 "FeedbackQueues$Task" "ticksRun" "I", .fieldLink RX1 47 "FeedbackQueues$Task" "ticksReady" "I", .fieldLink RX1 50 "FeedbackQueues$Task" "ticksBlocked" "I", .fieldLink RX1 53 "FeedbackQueues$Task" "firstRun" "I", .fieldLink RX1 56 "FeedbackQueues$Task" "endedAt" "I", .fieldLink RX1 59 "FeedbackQueues$Task" "timesSwitchedTo" "I", .fieldLink RX1 62 "FeedbackQueues$Task" "timesDown" "I", .fieldLink RX1 65 "FeedbackQueues$Task" "timesToFront" "I", .fieldLink RX1 68 "FeedbackQueues$Task" "number" "I"] ++ wsX10)
def wsX1_startOver : List Cond := .code yX1_startOver cX1_startOver 1 none :: ([.fieldLink RX1 22 "FeedbackQueues$Task" "state" "I", .fieldLink RX1 25 "FeedbackQueues$Task" "level" "I", .fieldLink RX1 28 "FeedbackQueues$Task" "burstsBegun" "I", .fieldLink RX1 31 "FeedbackQueues$Task" "burstLeft" "I", .fieldLink RX1 34 "FeedbackQueues$Task" "quantumLeft" "I", .fieldLink RX1 37 "FeedbackQueues$Task" "shareLeft" "I", .fieldLink RX1 40 "FeedbackQueues$Task" "keepsQuantum" "Z", .fieldLink RX1 44 "FeedbackQueues$Task" "ticksRun" "I", .fieldLink RX1 47 "FeedbackQueues$Task" "ticksReady" "I", .fieldLink RX1 50 "FeedbackQueues$Task" "ticksBlocked" "I", .fieldLink RX1 53 "FeedbackQueues$Task" "firstRun" "I", .fieldLink RX1 56 "FeedbackQueues$Task" "endedAt" "I", .fieldLink RX1 59 "FeedbackQueues$Task" "timesSwitchedTo" "I", .fieldLink RX1 62 "FeedbackQueues$Task" "timesDown" "I", .fieldLink RX1 65 "FeedbackQueues$Task" "timesToFront" "I"] ++ wsX10)
def wsX1_tellArrival : List Cond := .code yX1_tellArrival cX1_tellArrival 2 none :: ([.fieldLink RX1 9 "FeedbackQueues$Task" "arrival" "I", .fieldLink RX1 19 "FeedbackQueues$Task" "burstCount" "I"] ++ wsX10)
def wsX1_tellBurst : List Cond := .code yX1_tellBurst cX1_tellBurst 2 (some .int) :: ([.fieldLink RX1 19 "FeedbackQueues$Task" "burstCount" "I", .fieldLink RX1 15 "FeedbackQueues$Task" "bursts" "[I"] ++ wsX10)
def wsX1_beginBurst : List Cond := .code yX1_beginBurst cX1_beginBurst 1 (some .boolean) :: ([.fieldLink RX1 28 "FeedbackQueues$Task" "burstsBegun" "I", .fieldLink RX1 19 "FeedbackQueues$Task" "burstCount" "I", .fieldLink RX1 15 "FeedbackQueues$Task" "bursts" "[I", .fieldLink RX1 31 "FeedbackQueues$Task" "burstLeft" "I"] ++ wsX10)
def wsX1_beginRunning : List Cond := .code yX1_beginRunning cX1_beginRunning 3 none :: ([.fieldLink RX1 22 "FeedbackQueues$Task" "state" "I", .fieldLink RX1 40 "FeedbackQueues$Task" "keepsQuantum" "Z", .fieldLink RX1 34 "FeedbackQueues$Task" "quantumLeft" "I", .fieldLink RX1 59 "FeedbackQueues$Task" "timesSwitchedTo" "I", .fieldLink RX1 53 "FeedbackQueues$Task" "firstRun" "I"] ++ wsX10)
def wsX1_comeUp : List Cond := .code yX1_comeUp cX1_comeUp 3 none :: ([.fieldLink RX1 25 "FeedbackQueues$Task" "level" "I", .fieldLink RX1 37 "FeedbackQueues$Task" "shareLeft" "I", .fieldLink RX1 22 "FeedbackQueues$Task" "state" "I", .fieldLink RX1 34 "FeedbackQueues$Task" "quantumLeft" "I", .methodLink RX1 71 Lib.Math.min.name, .static Lib.Math.min.name, .initialized "java/lang/Math", .code Lib.Math.min.name Lib.Math.min.code 2 (some .int)] ++ wsX10)
def wsX2_init_r1 : List Cond := [Cond.methodLink RX2 1 objectInit, Cond.instanceMethod objectInit, Cond.code objectInit ⟨#[0xb1]⟩ 1 none, Cond.classLink RX2 9 RX0, Cond.fieldLink RX2 11 "FeedbackQueues" "levelRows" "[LFeedbackQueues$Level;", Cond.classLink RX2 15 RX1, Cond.fieldLink RX2 17 "FeedbackQueues" "tasks" "[LFeedbackQueues$Task;", Cond.arrayClass .int, Cond.fieldLink RX2 21 "FeedbackQueues" "switchesKept" "[I", Cond.fieldLink RX2 25 "FeedbackQueues" "levelCount" "I", Cond.fieldLink RX2 29 "FeedbackQueues" "taskCount" "I", Cond.fieldLink RX2 32 "FeedbackQueues" "periodTicks" "I", Cond.fieldLink RX2 35 "FeedbackQueues" "now" "I", Cond.fieldLink RX2 38 "FeedbackQueues" "onProcessor" "LFeedbackQueues$Task;", Cond.fieldLink RX2 42 "FeedbackQueues" "switchCount" "I", Cond.fieldLink RX2 45 "FeedbackQueues" "idleCount" "I", Cond.fieldLink RX2 48 "FeedbackQueues" "comeUpCount" "I", Cond.fieldLink RX2 51 "FeedbackQueues" "endedCount" "I", Cond.instantiable RX0 4, Cond.initialized RX0, Cond.instantiable RX1 19, Cond.initialized RX1, Cond.instanceMethod yX0_init, Cond.code yX0_init cX0_init 1 none]
def wsX2_init_r2 : List Cond := [Cond.methodLink RX0 3 objectInit, Cond.fieldLink RX0 9 "FeedbackQueues$Level" "quantum" "I", Cond.fieldLink RX0 15 "FeedbackQueues$Level" "share" "I", Cond.fieldLink RX0 18 "FeedbackQueues$Level" "queue" "[I", Cond.fieldLink RX0 22 "FeedbackQueues$Level" "size" "I", Cond.instanceMethod yX1_init, Cond.code yX1_init cX1_init 2 none, Cond.methodLink RX1 3 objectInit, Cond.fieldLink RX1 9 "FeedbackQueues$Task" "arrival" "I", Cond.fieldLink RX1 15 "FeedbackQueues$Task" "bursts" "[I", Cond.fieldLink RX1 19 "FeedbackQueues$Task" "burstCount" "I", Cond.fieldLink RX1 22 "FeedbackQueues$Task" "state" "I", Cond.fieldLink RX1 25 "FeedbackQueues$Task" "level" "I", Cond.fieldLink RX1 28 "FeedbackQueues$Task" "burstsBegun" "I", Cond.fieldLink RX1 31 "FeedbackQueues$Task" "burstLeft" "I", Cond.fieldLink RX1 34 "FeedbackQueues$Task" "quantumLeft" "I", Cond.fieldLink RX1 37 "FeedbackQueues$Task" "shareLeft" "I", Cond.fieldLink RX1 40 "FeedbackQueues$Task" "keepsQuantum" "Z", Cond.fieldLink RX1 44 "FeedbackQueues$Task" "ticksRun" "I", Cond.fieldLink RX1 47 "FeedbackQueues$Task" "ticksReady" "I", Cond.fieldLink RX1 50 "FeedbackQueues$Task" "ticksBlocked" "I", Cond.fieldLink RX1 53 "FeedbackQueues$Task" "firstRun" "I", Cond.fieldLink RX1 56 "FeedbackQueues$Task" "endedAt" "I", Cond.fieldLink RX1 59 "FeedbackQueues$Task" "timesSwitchedTo" "I"]
def wsX2_init_r3 : List Cond := [Cond.fieldLink RX1 62 "FeedbackQueues$Task" "timesDown" "I", Cond.fieldLink RX1 65 "FeedbackQueues$Task" "timesToFront" "I", Cond.fieldLink RX1 68 "FeedbackQueues$Task" "number" "I"]
def wsX2_init : List Cond := .code yX2_init cX2_init 2 none :: ((wsX2_init_r1 ++ (wsX2_init_r2 ++ wsX2_init_r3)) ++ wsX20 ++ wsX00 ++ wsX10)
def wsX2_startOver_r1 : List Cond := [Cond.fieldLink RX2 35 "FeedbackQueues" "now" "I", Cond.fieldLink RX2 38 "FeedbackQueues" "onProcessor" "LFeedbackQueues$Task;", Cond.fieldLink RX2 42 "FeedbackQueues" "switchCount" "I", Cond.fieldLink RX2 45 "FeedbackQueues" "idleCount" "I", Cond.fieldLink RX2 48 "FeedbackQueues" "comeUpCount" "I", Cond.fieldLink RX2 51 "FeedbackQueues" "endedCount" "I", Cond.fieldLink RX2 11 "FeedbackQueues" "levelRows" "[LFeedbackQueues$Level;", Cond.fieldLink RX2 17 "FeedbackQueues" "tasks" "[LFeedbackQueues$Task;", Cond.instanceMethod yX0_clear, Cond.initialized RX0, Cond.selects RX0 yX0_clear yX0_clear, Cond.code yX0_clear cX0_clear 1 none, Cond.fieldLink RX0 22 "FeedbackQueues$Level" "size" "I", Cond.instanceMethod yX1_startOver, Cond.initialized RX1, Cond.selects RX1 yX1_startOver yX1_startOver, Cond.code yX1_startOver cX1_startOver 1 none, Cond.fieldLink RX1 22 "FeedbackQueues$Task" "state" "I", Cond.fieldLink RX1 25 "FeedbackQueues$Task" "level" "I", Cond.fieldLink RX1 28 "FeedbackQueues$Task" "burstsBegun" "I", Cond.fieldLink RX1 31 "FeedbackQueues$Task" "burstLeft" "I", Cond.fieldLink RX1 34 "FeedbackQueues$Task" "quantumLeft" "I", Cond.fieldLink RX1 37 "FeedbackQueues$Task" "shareLeft" "I", Cond.fieldLink RX1 40 "FeedbackQueues$Task" "keepsQuantum" "Z"]
def wsX2_startOver_r2 : List Cond := [Cond.fieldLink RX1 44 "FeedbackQueues$Task" "ticksRun" "I", Cond.fieldLink RX1 47 "FeedbackQueues$Task" "ticksReady" "I", Cond.fieldLink RX1 50 "FeedbackQueues$Task" "ticksBlocked" "I", Cond.fieldLink RX1 53 "FeedbackQueues$Task" "firstRun" "I", Cond.fieldLink RX1 56 "FeedbackQueues$Task" "endedAt" "I", Cond.fieldLink RX1 59 "FeedbackQueues$Task" "timesSwitchedTo" "I", Cond.fieldLink RX1 62 "FeedbackQueues$Task" "timesDown" "I", Cond.fieldLink RX1 65 "FeedbackQueues$Task" "timesToFront" "I"]
def wsX2_startOver : List Cond := .code yX2_startOver cX2_startOver 2 none :: ((wsX2_startOver_r1 ++ wsX2_startOver_r2) ++ wsX20 ++ wsX00 ++ wsX10)
def wsX2_levels_r1 : List Cond := [Cond.classLink RX2 58 "java/lang/IllegalArgumentException", Cond.initialized "java/lang/IllegalArgumentException", Cond.fieldLink RX2 25 "FeedbackQueues" "levelCount" "I", Cond.fieldLink RX2 11 "FeedbackQueues" "levelRows" "[LFeedbackQueues$Level;", Cond.fieldLink RX2 29 "FeedbackQueues" "taskCount" "I", Cond.methodLink RX2 71 yX2_startOver, Cond.instanceMethod yX2_startOver, Cond.selects RX2 yX2_startOver yX2_startOver, Cond.initialized RX2, Cond.code yX2_startOver cX2_startOver 2 none, Cond.fieldLink RX2 35 "FeedbackQueues" "now" "I", Cond.fieldLink RX2 38 "FeedbackQueues" "onProcessor" "LFeedbackQueues$Task;", Cond.fieldLink RX2 42 "FeedbackQueues" "switchCount" "I", Cond.fieldLink RX2 45 "FeedbackQueues" "idleCount" "I", Cond.fieldLink RX2 48 "FeedbackQueues" "comeUpCount" "I", Cond.fieldLink RX2 51 "FeedbackQueues" "endedCount" "I", Cond.fieldLink RX2 17 "FeedbackQueues" "tasks" "[LFeedbackQueues$Task;", Cond.instanceMethod yX0_clear, Cond.initialized RX0, Cond.selects RX0 yX0_clear yX0_clear, Cond.code yX0_clear cX0_clear 1 none, Cond.fieldLink RX0 22 "FeedbackQueues$Level" "size" "I", Cond.instanceMethod yX1_startOver, Cond.initialized RX1]
def wsX2_levels_r2 : List Cond := [Cond.selects RX1 yX1_startOver yX1_startOver, Cond.code yX1_startOver cX1_startOver 1 none, Cond.fieldLink RX1 22 "FeedbackQueues$Task" "state" "I", Cond.fieldLink RX1 25 "FeedbackQueues$Task" "level" "I", Cond.fieldLink RX1 28 "FeedbackQueues$Task" "burstsBegun" "I", Cond.fieldLink RX1 31 "FeedbackQueues$Task" "burstLeft" "I", Cond.fieldLink RX1 34 "FeedbackQueues$Task" "quantumLeft" "I", Cond.fieldLink RX1 37 "FeedbackQueues$Task" "shareLeft" "I", Cond.fieldLink RX1 40 "FeedbackQueues$Task" "keepsQuantum" "Z", Cond.fieldLink RX1 44 "FeedbackQueues$Task" "ticksRun" "I", Cond.fieldLink RX1 47 "FeedbackQueues$Task" "ticksReady" "I", Cond.fieldLink RX1 50 "FeedbackQueues$Task" "ticksBlocked" "I", Cond.fieldLink RX1 53 "FeedbackQueues$Task" "firstRun" "I", Cond.fieldLink RX1 56 "FeedbackQueues$Task" "endedAt" "I", Cond.fieldLink RX1 59 "FeedbackQueues$Task" "timesSwitchedTo" "I", Cond.fieldLink RX1 62 "FeedbackQueues$Task" "timesDown" "I", Cond.fieldLink RX1 65 "FeedbackQueues$Task" "timesToFront" "I"]
def wsX2_levels : List Cond := .code yX2_levels cX2_levels 3 none :: ((wsX2_levels_r1 ++ wsX2_levels_r2) ++ wsX20 ++ wsX00 ++ wsX10 ++ (vx_atS RX2 62 "java/lang/IllegalArgumentException" ["java/lang/RuntimeException", "java/lang/Exception"]).filter goodWord)
def wsX2_isLevel : List Cond := .code yX2_isLevel cX2_isLevel 2 (some .boolean) :: ([.fieldLink RX2 25 "FeedbackQueues" "levelCount" "I"] ++ wsX20)
def wsX2_level : List Cond := .code yX2_level cX2_level 4 none :: ([.classLink RX2 78 "java/lang/IndexOutOfBoundsException", .initialized "java/lang/IndexOutOfBoundsException", .classLink RX2 58 "java/lang/IllegalArgumentException", .initialized "java/lang/IllegalArgumentException", .classLink RX2 87 "java/lang/IllegalStateException", .initialized "java/lang/IllegalStateException", .fieldLink RX2 35 "FeedbackQueues" "now" "I", .fieldLink RX2 11 "FeedbackQueues" "levelRows" "[LFeedbackQueues$Level;", .methodLink RX2 74 yX2_isLevel, .instanceMethod yX2_isLevel, .selects RX2 yX2_isLevel yX2_isLevel, .initialized RX2, .code yX2_isLevel cX2_isLevel 2 (some .boolean), .fieldLink RX2 25 "FeedbackQueues" "levelCount" "I"] ++ wsX20 ++ wsX00 ++ (vx_atS RX2 82 "java/lang/IndexOutOfBoundsException" ["java/lang/RuntimeException", "java/lang/Exception"]).filter goodWord ++ (vx_atS RX2 62 "java/lang/IllegalArgumentException" ["java/lang/RuntimeException", "java/lang/Exception"]).filter goodWord ++ (vx_atS RX2 91 "java/lang/IllegalStateException" ["java/lang/RuntimeException", "java/lang/Exception"]).filter goodWord)
def wsX2_period : List Cond := .code yX2_period cX2_period 2 none :: ([.classLink RX2 58 "java/lang/IllegalArgumentException", .initialized "java/lang/IllegalArgumentException", .classLink RX2 87 "java/lang/IllegalStateException", .initialized "java/lang/IllegalStateException", .fieldLink RX2 35 "FeedbackQueues" "now" "I", .fieldLink RX2 32 "FeedbackQueues" "periodTicks" "I"] ++ wsX20 ++ (vx_atS RX2 62 "java/lang/IllegalArgumentException" ["java/lang/RuntimeException", "java/lang/Exception"]).filter goodWord ++ (vx_atS RX2 91 "java/lang/IllegalStateException" ["java/lang/RuntimeException", "java/lang/Exception"]).filter goodWord)
def wsX2_process : List Cond := .code yX2_process cX2_process 2 (some .int) :: ([.classLink RX2 58 "java/lang/IllegalArgumentException", .initialized "java/lang/IllegalArgumentException", .classLink RX2 87 "java/lang/IllegalStateException", .initialized "java/lang/IllegalStateException", .fieldLink RX2 35 "FeedbackQueues" "now" "I", .fieldLink RX2 29 "FeedbackQueues" "taskCount" "I", .fieldLink RX2 17 "FeedbackQueues" "tasks" "[LFeedbackQueues$Task;", .instanceMethod yX1_tellArrival, .initialized RX1, .selects RX1 yX1_tellArrival yX1_tellArrival, .code yX1_tellArrival cX1_tellArrival 2 none, .fieldLink RX1 9 "FeedbackQueues$Task" "arrival" "I", .fieldLink RX1 19 "FeedbackQueues$Task" "burstCount" "I"] ++ wsX20 ++ wsX10 ++ (vx_atS RX2 62 "java/lang/IllegalArgumentException" ["java/lang/RuntimeException", "java/lang/Exception"]).filter goodWord ++ (vx_atS RX2 91 "java/lang/IllegalStateException" ["java/lang/RuntimeException", "java/lang/Exception"]).filter goodWord)
def wsX2_isTask : List Cond := .code yX2_isTask cX2_isTask 2 (some .boolean) :: ([.fieldLink RX2 29 "FeedbackQueues" "taskCount" "I"] ++ wsX20)
def wsX2_burst : List Cond := .code yX2_burst cX2_burst 3 (some .int) :: ([.classLink RX2 78 "java/lang/IndexOutOfBoundsException", .initialized "java/lang/IndexOutOfBoundsException", .classLink RX2 58 "java/lang/IllegalArgumentException", .initialized "java/lang/IllegalArgumentException", .classLink RX2 87 "java/lang/IllegalStateException", .initialized "java/lang/IllegalStateException", .fieldLink RX2 35 "FeedbackQueues" "now" "I", .fieldLink RX2 17 "FeedbackQueues" "tasks" "[LFeedbackQueues$Task;", .methodLink RX2 99 yX2_isTask, .instanceMethod yX2_isTask, .selects RX2 yX2_isTask yX2_isTask, .initialized RX2, .code yX2_isTask cX2_isTask 2 (some .boolean), .fieldLink RX2 29 "FeedbackQueues" "taskCount" "I", .instanceMethod yX1_tellBurst, .initialized RX1, .selects RX1 yX1_tellBurst yX1_tellBurst, .code yX1_tellBurst cX1_tellBurst 2 (some .int), .fieldLink RX1 19 "FeedbackQueues$Task" "burstCount" "I", .fieldLink RX1 15 "FeedbackQueues$Task" "bursts" "[I"] ++ wsX20 ++ wsX10 ++ (vx_atS RX2 82 "java/lang/IndexOutOfBoundsException" ["java/lang/RuntimeException", "java/lang/Exception"]).filter goodWord ++ (vx_atS RX2 62 "java/lang/IllegalArgumentException" ["java/lang/RuntimeException", "java/lang/Exception"]).filter goodWord ++ (vx_atS RX2 91 "java/lang/IllegalStateException" ["java/lang/RuntimeException", "java/lang/Exception"]).filter goodWord)
def wsX2_bringAllUp_r1 : List Cond := [Cond.fieldLink RX2 48 "FeedbackQueues" "comeUpCount" "I", Cond.fieldLink RX2 11 "FeedbackQueues" "levelRows" "[LFeedbackQueues$Level;", Cond.fieldLink RX2 29 "FeedbackQueues" "taskCount" "I", Cond.fieldLink RX2 17 "FeedbackQueues" "tasks" "[LFeedbackQueues$Task;", Cond.fieldLink RX2 25 "FeedbackQueues" "levelCount" "I", Cond.instanceMethod yX1_comeUp, Cond.initialized RX1, Cond.selects RX1 yX1_comeUp yX1_comeUp, Cond.code yX1_comeUp cX1_comeUp 3 none, Cond.fieldLink RX1 25 "FeedbackQueues$Task" "level" "I", Cond.fieldLink RX1 37 "FeedbackQueues$Task" "shareLeft" "I", Cond.fieldLink RX1 22 "FeedbackQueues$Task" "state" "I", Cond.fieldLink RX1 34 "FeedbackQueues$Task" "quantumLeft" "I", Cond.methodLink RX1 71 Lib.Math.min.name, Cond.static Lib.Math.min.name, Cond.initialized "java/lang/Math", Cond.code Lib.Math.min.name Lib.Math.min.code 2 (some .int), Cond.instanceMethod yX0_addAllOf, Cond.initialized RX0, Cond.selects RX0 yX0_addAllOf yX0_addAllOf, Cond.code yX0_addAllOf cX0_addAllOf 3 none, Cond.fieldLink RX0 22 "FeedbackQueues$Level" "size" "I", Cond.fieldLink RX0 18 "FeedbackQueues$Level" "queue" "[I", Cond.methodLink RX0 25 yX0_addLast]
def wsX2_bringAllUp_r2 : List Cond := [Cond.instanceMethod yX0_addLast, Cond.selects RX0 yX0_addLast yX0_addLast, Cond.code yX0_addLast cX0_addLast 2 none, Cond.instanceMethod yX0_clear, Cond.selects RX0 yX0_clear yX0_clear, Cond.code yX0_clear cX0_clear 1 none]
def wsX2_bringAllUp : List Cond := .code yX2_bringAllUp cX2_bringAllUp 3 none :: ((wsX2_bringAllUp_r1 ++ wsX2_bringAllUp_r2) ++ wsX20 ++ wsX10 ++ wsX00)
def wsX2_standAtEnd : List Cond := .code yX2_standAtEnd cX2_standAtEnd 2 none :: ([.fieldLink RX2 11 "FeedbackQueues" "levelRows" "[LFeedbackQueues$Level;", .instanceMethod yX0_addLast, .initialized RX0, .selects RX0 yX0_addLast yX0_addLast, .code yX0_addLast cX0_addLast 2 none, .fieldLink RX0 22 "FeedbackQueues$Level" "size" "I", .fieldLink RX0 18 "FeedbackQueues$Level" "queue" "[I"] ++ wsX10 ++ wsX20 ++ wsX00)
def wsX2_endTask : List Cond := .code yX2_endTask cX2_endTask 3 none :: ([.fieldLink RX2 51 "FeedbackQueues" "endedCount" "I"] ++ wsX10 ++ wsX20)
def wsX2_goOnOrEnd_r1 : List Cond := [Cond.fieldLink RX2 35 "FeedbackQueues" "now" "I", Cond.instanceMethod yX1_beginBurst, Cond.initialized RX1, Cond.selects RX1 yX1_beginBurst yX1_beginBurst, Cond.code yX1_beginBurst cX1_beginBurst 1 (some .boolean), Cond.fieldLink RX1 28 "FeedbackQueues$Task" "burstsBegun" "I", Cond.fieldLink RX1 19 "FeedbackQueues$Task" "burstCount" "I", Cond.fieldLink RX1 15 "FeedbackQueues$Task" "bursts" "[I", Cond.fieldLink RX1 31 "FeedbackQueues$Task" "burstLeft" "I", Cond.methodLink RX2 210 yX2_standAtEnd, Cond.instanceMethod yX2_standAtEnd, Cond.selects RX2 yX2_standAtEnd yX2_standAtEnd, Cond.initialized RX2, Cond.code yX2_standAtEnd cX2_standAtEnd 2 none, Cond.fieldLink RX2 11 "FeedbackQueues" "levelRows" "[LFeedbackQueues$Level;", Cond.instanceMethod yX0_addLast, Cond.initialized RX0, Cond.selects RX0 yX0_addLast yX0_addLast, Cond.code yX0_addLast cX0_addLast 2 none, Cond.fieldLink RX0 22 "FeedbackQueues$Level" "size" "I", Cond.fieldLink RX0 18 "FeedbackQueues$Level" "queue" "[I", Cond.methodLink RX2 213 yX2_endTask, Cond.instanceMethod yX2_endTask, Cond.selects RX2 yX2_endTask yX2_endTask]
def wsX2_goOnOrEnd_r2 : List Cond := [Cond.code yX2_endTask cX2_endTask 3 none, Cond.fieldLink RX2 51 "FeedbackQueues" "endedCount" "I"]
def wsX2_goOnOrEnd : List Cond := .code yX2_goOnOrEnd cX2_goOnOrEnd 2 none :: ((wsX2_goOnOrEnd_r1 ++ wsX2_goOnOrEnd_r2) ++ wsX20 ++ wsX10 ++ wsX00)
def wsX2_letArrive_r1 : List Cond := [Cond.fieldLink RX2 29 "FeedbackQueues" "taskCount" "I", Cond.fieldLink RX2 17 "FeedbackQueues" "tasks" "[LFeedbackQueues$Task;", Cond.fieldLink RX2 35 "FeedbackQueues" "now" "I", Cond.fieldLink RX2 11 "FeedbackQueues" "levelRows" "[LFeedbackQueues$Level;", Cond.methodLink RX2 200 yX2_goOnOrEnd, Cond.instanceMethod yX2_goOnOrEnd, Cond.selects RX2 yX2_goOnOrEnd yX2_goOnOrEnd, Cond.initialized RX2, Cond.code yX2_goOnOrEnd cX2_goOnOrEnd 2 none, Cond.instanceMethod yX1_beginBurst, Cond.initialized RX1, Cond.selects RX1 yX1_beginBurst yX1_beginBurst, Cond.code yX1_beginBurst cX1_beginBurst 1 (some .boolean), Cond.fieldLink RX1 28 "FeedbackQueues$Task" "burstsBegun" "I", Cond.fieldLink RX1 19 "FeedbackQueues$Task" "burstCount" "I", Cond.fieldLink RX1 15 "FeedbackQueues$Task" "bursts" "[I", Cond.fieldLink RX1 31 "FeedbackQueues$Task" "burstLeft" "I", Cond.methodLink RX2 210 yX2_standAtEnd, Cond.instanceMethod yX2_standAtEnd, Cond.selects RX2 yX2_standAtEnd yX2_standAtEnd, Cond.code yX2_standAtEnd cX2_standAtEnd 2 none, Cond.instanceMethod yX0_addLast, Cond.initialized RX0, Cond.selects RX0 yX0_addLast yX0_addLast]
def wsX2_letArrive_r2 : List Cond := [Cond.code yX0_addLast cX0_addLast 2 none, Cond.fieldLink RX0 22 "FeedbackQueues$Level" "size" "I", Cond.fieldLink RX0 18 "FeedbackQueues$Level" "queue" "[I", Cond.methodLink RX2 213 yX2_endTask, Cond.instanceMethod yX2_endTask, Cond.selects RX2 yX2_endTask yX2_endTask, Cond.code yX2_endTask cX2_endTask 3 none, Cond.fieldLink RX2 51 "FeedbackQueues" "endedCount" "I"]
def wsX2_letArrive : List Cond := .code yX2_letArrive cX2_letArrive 3 none :: ((wsX2_letArrive_r1 ++ wsX2_letArrive_r2) ++ wsX20 ++ wsX10 ++ wsX00)
def wsX2_letComeBack_r1 : List Cond := [Cond.fieldLink RX2 29 "FeedbackQueues" "taskCount" "I", Cond.fieldLink RX2 17 "FeedbackQueues" "tasks" "[LFeedbackQueues$Task;", Cond.methodLink RX2 200 yX2_goOnOrEnd, Cond.instanceMethod yX2_goOnOrEnd, Cond.selects RX2 yX2_goOnOrEnd yX2_goOnOrEnd, Cond.initialized RX2, Cond.code yX2_goOnOrEnd cX2_goOnOrEnd 2 none, Cond.fieldLink RX2 35 "FeedbackQueues" "now" "I", Cond.instanceMethod yX1_beginBurst, Cond.initialized RX1, Cond.selects RX1 yX1_beginBurst yX1_beginBurst, Cond.code yX1_beginBurst cX1_beginBurst 1 (some .boolean), Cond.fieldLink RX1 28 "FeedbackQueues$Task" "burstsBegun" "I", Cond.fieldLink RX1 19 "FeedbackQueues$Task" "burstCount" "I", Cond.fieldLink RX1 15 "FeedbackQueues$Task" "bursts" "[I", Cond.fieldLink RX1 31 "FeedbackQueues$Task" "burstLeft" "I", Cond.methodLink RX2 210 yX2_standAtEnd, Cond.instanceMethod yX2_standAtEnd, Cond.selects RX2 yX2_standAtEnd yX2_standAtEnd, Cond.code yX2_standAtEnd cX2_standAtEnd 2 none, Cond.fieldLink RX2 11 "FeedbackQueues" "levelRows" "[LFeedbackQueues$Level;", Cond.instanceMethod yX0_addLast, Cond.initialized RX0, Cond.selects RX0 yX0_addLast yX0_addLast]
def wsX2_letComeBack_r2 : List Cond := [Cond.code yX0_addLast cX0_addLast 2 none, Cond.fieldLink RX0 22 "FeedbackQueues$Level" "size" "I", Cond.fieldLink RX0 18 "FeedbackQueues$Level" "queue" "[I", Cond.methodLink RX2 213 yX2_endTask, Cond.instanceMethod yX2_endTask, Cond.selects RX2 yX2_endTask yX2_endTask, Cond.code yX2_endTask cX2_endTask 3 none, Cond.fieldLink RX2 51 "FeedbackQueues" "endedCount" "I"]
def wsX2_letComeBack : List Cond := .code yX2_letComeBack cX2_letComeBack 3 none :: ((wsX2_letComeBack_r1 ++ wsX2_letComeBack_r2) ++ wsX20 ++ wsX10 ++ wsX00)
def wsX2_isOneReadyAbove : List Cond := .code yX2_isOneReadyAbove cX2_isOneReadyAbove 3 (some .boolean) :: ([.fieldLink RX2 11 "FeedbackQueues" "levelRows" "[LFeedbackQueues$Level;"] ++ wsX20 ++ wsX00)
def wsX2_makeWay : List Cond := .code yX2_makeWay cX2_makeWay 1 none :: ([.fieldLink RX2 38 "FeedbackQueues" "onProcessor" "LFeedbackQueues$Task;", .fieldLink RX2 11 "FeedbackQueues" "levelRows" "[LFeedbackQueues$Level;", .methodLink RX2 217 yX2_isOneReadyAbove, .instanceMethod yX2_isOneReadyAbove, .selects RX2 yX2_isOneReadyAbove yX2_isOneReadyAbove, .initialized RX2, .code yX2_isOneReadyAbove cX2_isOneReadyAbove 3 (some .boolean), .instanceMethod yX0_addFirst, .initialized RX0, .selects RX0 yX0_addFirst yX0_addFirst, .code yX0_addFirst cX0_addFirst 3 none, .fieldLink RX0 22 "FeedbackQueues$Level" "size" "I", .fieldLink RX0 18 "FeedbackQueues$Level" "queue" "[I"] ++ wsX20 ++ wsX10 ++ wsX00)
def wsX2_switchTo : List Cond := .code yX2_switchTo cX2_switchTo 2 none :: ([.fieldLink RX2 35 "FeedbackQueues" "now" "I", .fieldLink RX2 11 "FeedbackQueues" "levelRows" "[LFeedbackQueues$Level;", .fieldLink RX2 42 "FeedbackQueues" "switchCount" "I", .fieldLink RX2 21 "FeedbackQueues" "switchesKept" "[I", .fieldLink RX2 38 "FeedbackQueues" "onProcessor" "LFeedbackQueues$Task;", .instanceMethod yX1_beginRunning, .initialized RX1, .selects RX1 yX1_beginRunning yX1_beginRunning, .code yX1_beginRunning cX1_beginRunning 3 none, .fieldLink RX1 22 "FeedbackQueues$Task" "state" "I", .fieldLink RX1 40 "FeedbackQueues$Task" "keepsQuantum" "Z", .fieldLink RX1 34 "FeedbackQueues$Task" "quantumLeft" "I", .fieldLink RX1 59 "FeedbackQueues$Task" "timesSwitchedTo" "I", .fieldLink RX1 53 "FeedbackQueues$Task" "firstRun" "I"] ++ wsX20 ++ wsX10 ++ wsX00)
def wsX2_switchToFirst_r1 : List Cond := [Cond.fieldLink RX2 25 "FeedbackQueues" "levelCount" "I", Cond.fieldLink RX2 11 "FeedbackQueues" "levelRows" "[LFeedbackQueues$Level;", Cond.fieldLink RX2 17 "FeedbackQueues" "tasks" "[LFeedbackQueues$Task;", Cond.instanceMethod yX0_takeFirst, Cond.initialized RX0, Cond.selects RX0 yX0_takeFirst yX0_takeFirst, Cond.code yX0_takeFirst cX0_takeFirst 3 (some .int), Cond.fieldLink RX0 22 "FeedbackQueues$Level" "size" "I", Cond.fieldLink RX0 18 "FeedbackQueues$Level" "queue" "[I", Cond.methodLink RX2 99 yX2_isTask, Cond.instanceMethod yX2_isTask, Cond.selects RX2 yX2_isTask yX2_isTask, Cond.initialized RX2, Cond.code yX2_isTask cX2_isTask 2 (some .boolean), Cond.fieldLink RX2 29 "FeedbackQueues" "taskCount" "I", Cond.methodLink RX2 234 yX2_switchTo, Cond.instanceMethod yX2_switchTo, Cond.selects RX2 yX2_switchTo yX2_switchTo, Cond.code yX2_switchTo cX2_switchTo 2 none, Cond.fieldLink RX2 35 "FeedbackQueues" "now" "I", Cond.fieldLink RX2 42 "FeedbackQueues" "switchCount" "I", Cond.fieldLink RX2 21 "FeedbackQueues" "switchesKept" "[I", Cond.fieldLink RX2 38 "FeedbackQueues" "onProcessor" "LFeedbackQueues$Task;", Cond.instanceMethod yX1_beginRunning]
def wsX2_switchToFirst_r2 : List Cond := [Cond.initialized RX1, Cond.selects RX1 yX1_beginRunning yX1_beginRunning, Cond.code yX1_beginRunning cX1_beginRunning 3 none, Cond.fieldLink RX1 22 "FeedbackQueues$Task" "state" "I", Cond.fieldLink RX1 40 "FeedbackQueues$Task" "keepsQuantum" "Z", Cond.fieldLink RX1 34 "FeedbackQueues$Task" "quantumLeft" "I", Cond.fieldLink RX1 59 "FeedbackQueues$Task" "timesSwitchedTo" "I", Cond.fieldLink RX1 53 "FeedbackQueues$Task" "firstRun" "I"]
def wsX2_switchToFirst : List Cond := .code yX2_switchToFirst cX2_switchToFirst 3 none :: ((wsX2_switchToFirst_r1 ++ wsX2_switchToFirst_r2) ++ wsX20 ++ wsX00 ++ wsX10)
def wsX2_countWaiting : List Cond := .code yX2_countWaiting cX2_countWaiting 3 none :: ([.fieldLink RX2 29 "FeedbackQueues" "taskCount" "I", .fieldLink RX2 17 "FeedbackQueues" "tasks" "[LFeedbackQueues$Task;"] ++ wsX20 ++ wsX10)
def wsX2_blockOrEnd : List Cond := .code yX2_blockOrEnd cX2_blockOrEnd 2 none :: ([.fieldLink RX2 35 "FeedbackQueues" "now" "I", .instanceMethod yX1_beginBurst, .initialized RX1, .selects RX1 yX1_beginBurst yX1_beginBurst, .code yX1_beginBurst cX1_beginBurst 1 (some .boolean), .fieldLink RX1 28 "FeedbackQueues$Task" "burstsBegun" "I", .fieldLink RX1 19 "FeedbackQueues$Task" "burstCount" "I", .fieldLink RX1 15 "FeedbackQueues$Task" "bursts" "[I", .fieldLink RX1 31 "FeedbackQueues$Task" "burstLeft" "I", .methodLink RX2 213 yX2_endTask, .instanceMethod yX2_endTask, .selects RX2 yX2_endTask yX2_endTask, .initialized RX2, .code yX2_endTask cX2_endTask 3 none, .fieldLink RX2 51 "FeedbackQueues" "endedCount" "I"] ++ wsX10 ++ wsX20)
def wsX2_sendDown : List Cond := .code yX2_sendDown cX2_sendDown 2 none :: ([.fieldLink RX2 25 "FeedbackQueues" "levelCount" "I", .fieldLink RX2 11 "FeedbackQueues" "levelRows" "[LFeedbackQueues$Level;", .methodLink RX2 210 yX2_standAtEnd, .instanceMethod yX2_standAtEnd, .selects RX2 yX2_standAtEnd yX2_standAtEnd, .initialized RX2, .code yX2_standAtEnd cX2_standAtEnd 2 none, .instanceMethod yX0_addLast, .initialized RX0, .selects RX0 yX0_addLast yX0_addLast, .code yX0_addLast cX0_addLast 2 none, .fieldLink RX0 22 "FeedbackQueues$Level" "size" "I", .fieldLink RX0 18 "FeedbackQueues$Level" "queue" "[I"] ++ wsX10 ++ wsX20 ++ wsX00)
def wsX2_useTick_r1 : List Cond := [Cond.fieldLink RX2 38 "FeedbackQueues" "onProcessor" "LFeedbackQueues$Task;", Cond.methodLink RX2 243 yX2_blockOrEnd, Cond.instanceMethod yX2_blockOrEnd, Cond.selects RX2 yX2_blockOrEnd yX2_blockOrEnd, Cond.initialized RX2, Cond.code yX2_blockOrEnd cX2_blockOrEnd 2 none, Cond.fieldLink RX2 35 "FeedbackQueues" "now" "I", Cond.instanceMethod yX1_beginBurst, Cond.initialized RX1, Cond.selects RX1 yX1_beginBurst yX1_beginBurst, Cond.code yX1_beginBurst cX1_beginBurst 1 (some .boolean), Cond.fieldLink RX1 28 "FeedbackQueues$Task" "burstsBegun" "I", Cond.fieldLink RX1 19 "FeedbackQueues$Task" "burstCount" "I", Cond.fieldLink RX1 15 "FeedbackQueues$Task" "bursts" "[I", Cond.fieldLink RX1 31 "FeedbackQueues$Task" "burstLeft" "I", Cond.methodLink RX2 213 yX2_endTask, Cond.instanceMethod yX2_endTask, Cond.selects RX2 yX2_endTask yX2_endTask, Cond.code yX2_endTask cX2_endTask 3 none, Cond.fieldLink RX2 51 "FeedbackQueues" "endedCount" "I", Cond.methodLink RX2 246 yX2_sendDown, Cond.instanceMethod yX2_sendDown, Cond.selects RX2 yX2_sendDown yX2_sendDown, Cond.code yX2_sendDown cX2_sendDown 2 none]
def wsX2_useTick_r2 : List Cond := [Cond.fieldLink RX2 25 "FeedbackQueues" "levelCount" "I", Cond.fieldLink RX2 11 "FeedbackQueues" "levelRows" "[LFeedbackQueues$Level;", Cond.methodLink RX2 210 yX2_standAtEnd, Cond.instanceMethod yX2_standAtEnd, Cond.selects RX2 yX2_standAtEnd yX2_standAtEnd, Cond.code yX2_standAtEnd cX2_standAtEnd 2 none, Cond.instanceMethod yX0_addLast, Cond.initialized RX0, Cond.selects RX0 yX0_addLast yX0_addLast, Cond.code yX0_addLast cX0_addLast 2 none, Cond.fieldLink RX0 22 "FeedbackQueues$Level" "size" "I", Cond.fieldLink RX0 18 "FeedbackQueues$Level" "queue" "[I"]
def wsX2_useTick : List Cond := .code yX2_useTick cX2_useTick 2 none :: ((wsX2_useTick_r1 ++ wsX2_useTick_r2) ++ wsX10 ++ wsX20 ++ wsX00)
def wsX2_doTick_r1 : List Cond := [Cond.fieldLink RX2 32 "FeedbackQueues" "periodTicks" "I", Cond.fieldLink RX2 35 "FeedbackQueues" "now" "I", Cond.fieldLink RX2 38 "FeedbackQueues" "onProcessor" "LFeedbackQueues$Task;", Cond.fieldLink RX2 45 "FeedbackQueues" "idleCount" "I", Cond.methodLink RX2 164 yX2_bringAllUp, Cond.instanceMethod yX2_bringAllUp, Cond.selects RX2 yX2_bringAllUp yX2_bringAllUp, Cond.initialized RX2, Cond.code yX2_bringAllUp cX2_bringAllUp 3 none, Cond.fieldLink RX2 48 "FeedbackQueues" "comeUpCount" "I", Cond.fieldLink RX2 11 "FeedbackQueues" "levelRows" "[LFeedbackQueues$Level;", Cond.fieldLink RX2 29 "FeedbackQueues" "taskCount" "I", Cond.fieldLink RX2 17 "FeedbackQueues" "tasks" "[LFeedbackQueues$Task;", Cond.fieldLink RX2 25 "FeedbackQueues" "levelCount" "I", Cond.instanceMethod yX1_comeUp, Cond.initialized RX1, Cond.selects RX1 yX1_comeUp yX1_comeUp, Cond.code yX1_comeUp cX1_comeUp 3 none, Cond.fieldLink RX1 25 "FeedbackQueues$Task" "level" "I", Cond.fieldLink RX1 37 "FeedbackQueues$Task" "shareLeft" "I", Cond.fieldLink RX1 22 "FeedbackQueues$Task" "state" "I", Cond.fieldLink RX1 34 "FeedbackQueues$Task" "quantumLeft" "I", Cond.methodLink RX1 71 Lib.Math.min.name, Cond.static Lib.Math.min.name]
def wsX2_doTick_r2 : List Cond := [Cond.initialized "java/lang/Math", Cond.code Lib.Math.min.name Lib.Math.min.code 2 (some .int), Cond.instanceMethod yX0_addAllOf, Cond.initialized RX0, Cond.selects RX0 yX0_addAllOf yX0_addAllOf, Cond.code yX0_addAllOf cX0_addAllOf 3 none, Cond.fieldLink RX0 22 "FeedbackQueues$Level" "size" "I", Cond.fieldLink RX0 18 "FeedbackQueues$Level" "queue" "[I", Cond.methodLink RX0 25 yX0_addLast, Cond.instanceMethod yX0_addLast, Cond.selects RX0 yX0_addLast yX0_addLast, Cond.code yX0_addLast cX0_addLast 2 none, Cond.instanceMethod yX0_clear, Cond.selects RX0 yX0_clear yX0_clear, Cond.code yX0_clear cX0_clear 1 none, Cond.methodLink RX2 167 yX2_letArrive, Cond.instanceMethod yX2_letArrive, Cond.selects RX2 yX2_letArrive yX2_letArrive, Cond.code yX2_letArrive cX2_letArrive 3 none, Cond.methodLink RX2 200 yX2_goOnOrEnd, Cond.instanceMethod yX2_goOnOrEnd, Cond.selects RX2 yX2_goOnOrEnd yX2_goOnOrEnd, Cond.code yX2_goOnOrEnd cX2_goOnOrEnd 2 none, Cond.instanceMethod yX1_beginBurst]
def wsX2_doTick_r3 : List Cond := [Cond.selects RX1 yX1_beginBurst yX1_beginBurst, Cond.code yX1_beginBurst cX1_beginBurst 1 (some .boolean), Cond.fieldLink RX1 28 "FeedbackQueues$Task" "burstsBegun" "I", Cond.fieldLink RX1 19 "FeedbackQueues$Task" "burstCount" "I", Cond.fieldLink RX1 15 "FeedbackQueues$Task" "bursts" "[I", Cond.fieldLink RX1 31 "FeedbackQueues$Task" "burstLeft" "I", Cond.methodLink RX2 210 yX2_standAtEnd, Cond.instanceMethod yX2_standAtEnd, Cond.selects RX2 yX2_standAtEnd yX2_standAtEnd, Cond.code yX2_standAtEnd cX2_standAtEnd 2 none, Cond.methodLink RX2 213 yX2_endTask, Cond.instanceMethod yX2_endTask, Cond.selects RX2 yX2_endTask yX2_endTask, Cond.code yX2_endTask cX2_endTask 3 none, Cond.fieldLink RX2 51 "FeedbackQueues" "endedCount" "I", Cond.methodLink RX2 170 yX2_letComeBack, Cond.instanceMethod yX2_letComeBack, Cond.selects RX2 yX2_letComeBack yX2_letComeBack, Cond.code yX2_letComeBack cX2_letComeBack 3 none, Cond.methodLink RX2 173 yX2_makeWay, Cond.instanceMethod yX2_makeWay, Cond.selects RX2 yX2_makeWay yX2_makeWay, Cond.code yX2_makeWay cX2_makeWay 1 none, Cond.methodLink RX2 217 yX2_isOneReadyAbove]
def wsX2_doTick_r4 : List Cond := [Cond.instanceMethod yX2_isOneReadyAbove, Cond.selects RX2 yX2_isOneReadyAbove yX2_isOneReadyAbove, Cond.code yX2_isOneReadyAbove cX2_isOneReadyAbove 3 (some .boolean), Cond.instanceMethod yX0_addFirst, Cond.selects RX0 yX0_addFirst yX0_addFirst, Cond.code yX0_addFirst cX0_addFirst 3 none, Cond.methodLink RX2 176 yX2_switchToFirst, Cond.instanceMethod yX2_switchToFirst, Cond.selects RX2 yX2_switchToFirst yX2_switchToFirst, Cond.code yX2_switchToFirst cX2_switchToFirst 3 none, Cond.instanceMethod yX0_takeFirst, Cond.selects RX0 yX0_takeFirst yX0_takeFirst, Cond.code yX0_takeFirst cX0_takeFirst 3 (some .int), Cond.methodLink RX2 99 yX2_isTask, Cond.instanceMethod yX2_isTask, Cond.selects RX2 yX2_isTask yX2_isTask, Cond.code yX2_isTask cX2_isTask 2 (some .boolean), Cond.methodLink RX2 234 yX2_switchTo, Cond.instanceMethod yX2_switchTo, Cond.selects RX2 yX2_switchTo yX2_switchTo, Cond.code yX2_switchTo cX2_switchTo 2 none, Cond.fieldLink RX2 42 "FeedbackQueues" "switchCount" "I", Cond.fieldLink RX2 21 "FeedbackQueues" "switchesKept" "[I", Cond.instanceMethod yX1_beginRunning]
def wsX2_doTick_r5 : List Cond := [Cond.selects RX1 yX1_beginRunning yX1_beginRunning, Cond.code yX1_beginRunning cX1_beginRunning 3 none, Cond.fieldLink RX1 40 "FeedbackQueues$Task" "keepsQuantum" "Z", Cond.fieldLink RX1 59 "FeedbackQueues$Task" "timesSwitchedTo" "I", Cond.fieldLink RX1 53 "FeedbackQueues$Task" "firstRun" "I", Cond.methodLink RX2 179 yX2_countWaiting, Cond.instanceMethod yX2_countWaiting, Cond.selects RX2 yX2_countWaiting yX2_countWaiting, Cond.code yX2_countWaiting cX2_countWaiting 3 none, Cond.methodLink RX2 182 yX2_useTick, Cond.instanceMethod yX2_useTick, Cond.selects RX2 yX2_useTick yX2_useTick, Cond.code yX2_useTick cX2_useTick 2 none, Cond.methodLink RX2 243 yX2_blockOrEnd, Cond.instanceMethod yX2_blockOrEnd, Cond.selects RX2 yX2_blockOrEnd yX2_blockOrEnd, Cond.code yX2_blockOrEnd cX2_blockOrEnd 2 none, Cond.methodLink RX2 246 yX2_sendDown, Cond.instanceMethod yX2_sendDown, Cond.selects RX2 yX2_sendDown yX2_sendDown, Cond.code yX2_sendDown cX2_sendDown 2 none]
def wsX2_doTick : List Cond := .code yX2_doTick cX2_doTick 1 none :: ((wsX2_doTick_r1 ++ (wsX2_doTick_r2 ++ (wsX2_doTick_r3 ++ (wsX2_doTick_r4 ++ wsX2_doTick_r5)))) ++ wsX20 ++ wsX10 ++ wsX00)
def wsX2_run_r1 : List Cond := [Cond.classLink RX2 58 "java/lang/IllegalArgumentException", Cond.initialized "java/lang/IllegalArgumentException", Cond.fieldLink RX2 35 "FeedbackQueues" "now" "I", Cond.constant RX2 112 (100000), Cond.fieldLink RX2 45 "FeedbackQueues" "idleCount" "I", Cond.methodLink RX2 115 yX2_doTick, Cond.instanceMethod yX2_doTick, Cond.selects RX2 yX2_doTick yX2_doTick, Cond.initialized RX2, Cond.code yX2_doTick cX2_doTick 1 none, Cond.fieldLink RX2 32 "FeedbackQueues" "periodTicks" "I", Cond.fieldLink RX2 38 "FeedbackQueues" "onProcessor" "LFeedbackQueues$Task;", Cond.methodLink RX2 164 yX2_bringAllUp, Cond.instanceMethod yX2_bringAllUp, Cond.selects RX2 yX2_bringAllUp yX2_bringAllUp, Cond.code yX2_bringAllUp cX2_bringAllUp 3 none, Cond.fieldLink RX2 48 "FeedbackQueues" "comeUpCount" "I", Cond.fieldLink RX2 11 "FeedbackQueues" "levelRows" "[LFeedbackQueues$Level;", Cond.fieldLink RX2 29 "FeedbackQueues" "taskCount" "I", Cond.fieldLink RX2 17 "FeedbackQueues" "tasks" "[LFeedbackQueues$Task;", Cond.fieldLink RX2 25 "FeedbackQueues" "levelCount" "I", Cond.instanceMethod yX1_comeUp, Cond.initialized RX1, Cond.selects RX1 yX1_comeUp yX1_comeUp]
def wsX2_run_r2 : List Cond := [Cond.code yX1_comeUp cX1_comeUp 3 none, Cond.fieldLink RX1 25 "FeedbackQueues$Task" "level" "I", Cond.fieldLink RX1 37 "FeedbackQueues$Task" "shareLeft" "I", Cond.fieldLink RX1 22 "FeedbackQueues$Task" "state" "I", Cond.fieldLink RX1 34 "FeedbackQueues$Task" "quantumLeft" "I", Cond.methodLink RX1 71 Lib.Math.min.name, Cond.static Lib.Math.min.name, Cond.initialized "java/lang/Math", Cond.code Lib.Math.min.name Lib.Math.min.code 2 (some .int), Cond.instanceMethod yX0_addAllOf, Cond.initialized RX0, Cond.selects RX0 yX0_addAllOf yX0_addAllOf, Cond.code yX0_addAllOf cX0_addAllOf 3 none, Cond.fieldLink RX0 22 "FeedbackQueues$Level" "size" "I", Cond.fieldLink RX0 18 "FeedbackQueues$Level" "queue" "[I", Cond.methodLink RX0 25 yX0_addLast, Cond.instanceMethod yX0_addLast, Cond.selects RX0 yX0_addLast yX0_addLast, Cond.code yX0_addLast cX0_addLast 2 none, Cond.instanceMethod yX0_clear, Cond.selects RX0 yX0_clear yX0_clear, Cond.code yX0_clear cX0_clear 1 none, Cond.methodLink RX2 167 yX2_letArrive, Cond.instanceMethod yX2_letArrive]
def wsX2_run_r3 : List Cond := [Cond.selects RX2 yX2_letArrive yX2_letArrive, Cond.code yX2_letArrive cX2_letArrive 3 none, Cond.methodLink RX2 200 yX2_goOnOrEnd, Cond.instanceMethod yX2_goOnOrEnd, Cond.selects RX2 yX2_goOnOrEnd yX2_goOnOrEnd, Cond.code yX2_goOnOrEnd cX2_goOnOrEnd 2 none, Cond.instanceMethod yX1_beginBurst, Cond.selects RX1 yX1_beginBurst yX1_beginBurst, Cond.code yX1_beginBurst cX1_beginBurst 1 (some .boolean), Cond.fieldLink RX1 28 "FeedbackQueues$Task" "burstsBegun" "I", Cond.fieldLink RX1 19 "FeedbackQueues$Task" "burstCount" "I", Cond.fieldLink RX1 15 "FeedbackQueues$Task" "bursts" "[I", Cond.fieldLink RX1 31 "FeedbackQueues$Task" "burstLeft" "I", Cond.methodLink RX2 210 yX2_standAtEnd, Cond.instanceMethod yX2_standAtEnd, Cond.selects RX2 yX2_standAtEnd yX2_standAtEnd, Cond.code yX2_standAtEnd cX2_standAtEnd 2 none, Cond.methodLink RX2 213 yX2_endTask, Cond.instanceMethod yX2_endTask, Cond.selects RX2 yX2_endTask yX2_endTask, Cond.code yX2_endTask cX2_endTask 3 none, Cond.fieldLink RX2 51 "FeedbackQueues" "endedCount" "I", Cond.methodLink RX2 170 yX2_letComeBack, Cond.instanceMethod yX2_letComeBack]
def wsX2_run_r4 : List Cond := [Cond.selects RX2 yX2_letComeBack yX2_letComeBack, Cond.code yX2_letComeBack cX2_letComeBack 3 none, Cond.methodLink RX2 173 yX2_makeWay, Cond.instanceMethod yX2_makeWay, Cond.selects RX2 yX2_makeWay yX2_makeWay, Cond.code yX2_makeWay cX2_makeWay 1 none, Cond.methodLink RX2 217 yX2_isOneReadyAbove, Cond.instanceMethod yX2_isOneReadyAbove, Cond.selects RX2 yX2_isOneReadyAbove yX2_isOneReadyAbove, Cond.code yX2_isOneReadyAbove cX2_isOneReadyAbove 3 (some .boolean), Cond.instanceMethod yX0_addFirst, Cond.selects RX0 yX0_addFirst yX0_addFirst, Cond.code yX0_addFirst cX0_addFirst 3 none, Cond.methodLink RX2 176 yX2_switchToFirst, Cond.instanceMethod yX2_switchToFirst, Cond.selects RX2 yX2_switchToFirst yX2_switchToFirst, Cond.code yX2_switchToFirst cX2_switchToFirst 3 none, Cond.instanceMethod yX0_takeFirst, Cond.selects RX0 yX0_takeFirst yX0_takeFirst, Cond.code yX0_takeFirst cX0_takeFirst 3 (some .int), Cond.methodLink RX2 99 yX2_isTask, Cond.instanceMethod yX2_isTask, Cond.selects RX2 yX2_isTask yX2_isTask, Cond.code yX2_isTask cX2_isTask 2 (some .boolean)]
def wsX2_run_r5 : List Cond := [Cond.methodLink RX2 234 yX2_switchTo, Cond.instanceMethod yX2_switchTo, Cond.selects RX2 yX2_switchTo yX2_switchTo, Cond.code yX2_switchTo cX2_switchTo 2 none, Cond.fieldLink RX2 42 "FeedbackQueues" "switchCount" "I", Cond.fieldLink RX2 21 "FeedbackQueues" "switchesKept" "[I", Cond.instanceMethod yX1_beginRunning, Cond.selects RX1 yX1_beginRunning yX1_beginRunning, Cond.code yX1_beginRunning cX1_beginRunning 3 none, Cond.fieldLink RX1 40 "FeedbackQueues$Task" "keepsQuantum" "Z", Cond.fieldLink RX1 59 "FeedbackQueues$Task" "timesSwitchedTo" "I", Cond.fieldLink RX1 53 "FeedbackQueues$Task" "firstRun" "I", Cond.methodLink RX2 179 yX2_countWaiting, Cond.instanceMethod yX2_countWaiting, Cond.selects RX2 yX2_countWaiting yX2_countWaiting, Cond.code yX2_countWaiting cX2_countWaiting 3 none, Cond.methodLink RX2 182 yX2_useTick, Cond.instanceMethod yX2_useTick, Cond.selects RX2 yX2_useTick yX2_useTick, Cond.code yX2_useTick cX2_useTick 2 none, Cond.methodLink RX2 243 yX2_blockOrEnd, Cond.instanceMethod yX2_blockOrEnd, Cond.selects RX2 yX2_blockOrEnd yX2_blockOrEnd, Cond.code yX2_blockOrEnd cX2_blockOrEnd 2 none]
def wsX2_run_r6 : List Cond := [Cond.methodLink RX2 246 yX2_sendDown, Cond.instanceMethod yX2_sendDown, Cond.selects RX2 yX2_sendDown yX2_sendDown, Cond.code yX2_sendDown cX2_sendDown 2 none]
def wsX2_run : List Cond := .code yX2_run cX2_run 4 (some .int) :: ((wsX2_run_r1 ++ (wsX2_run_r2 ++ (wsX2_run_r3 ++ (wsX2_run_r4 ++ (wsX2_run_r5 ++ wsX2_run_r6))))) ++ wsX20 ++ wsX10 ++ wsX00 ++ (vx_atS RX2 62 "java/lang/IllegalArgumentException" ["java/lang/RuntimeException", "java/lang/Exception"]).filter goodWord)
def wsX2_restart_r1 : List Cond := [Cond.methodLink RX2 71 yX2_startOver, Cond.instanceMethod yX2_startOver, Cond.selects RX2 yX2_startOver yX2_startOver, Cond.initialized RX2, Cond.code yX2_startOver cX2_startOver 2 none, Cond.fieldLink RX2 35 "FeedbackQueues" "now" "I", Cond.fieldLink RX2 38 "FeedbackQueues" "onProcessor" "LFeedbackQueues$Task;", Cond.fieldLink RX2 42 "FeedbackQueues" "switchCount" "I", Cond.fieldLink RX2 45 "FeedbackQueues" "idleCount" "I", Cond.fieldLink RX2 48 "FeedbackQueues" "comeUpCount" "I", Cond.fieldLink RX2 51 "FeedbackQueues" "endedCount" "I", Cond.fieldLink RX2 11 "FeedbackQueues" "levelRows" "[LFeedbackQueues$Level;", Cond.fieldLink RX2 17 "FeedbackQueues" "tasks" "[LFeedbackQueues$Task;", Cond.instanceMethod yX0_clear, Cond.initialized RX0, Cond.selects RX0 yX0_clear yX0_clear, Cond.code yX0_clear cX0_clear 1 none, Cond.fieldLink RX0 22 "FeedbackQueues$Level" "size" "I", Cond.instanceMethod yX1_startOver, Cond.initialized RX1, Cond.selects RX1 yX1_startOver yX1_startOver, Cond.code yX1_startOver cX1_startOver 1 none, Cond.fieldLink RX1 22 "FeedbackQueues$Task" "state" "I", Cond.fieldLink RX1 25 "FeedbackQueues$Task" "level" "I"]
def wsX2_restart_r2 : List Cond := [Cond.fieldLink RX1 28 "FeedbackQueues$Task" "burstsBegun" "I", Cond.fieldLink RX1 31 "FeedbackQueues$Task" "burstLeft" "I", Cond.fieldLink RX1 34 "FeedbackQueues$Task" "quantumLeft" "I", Cond.fieldLink RX1 37 "FeedbackQueues$Task" "shareLeft" "I", Cond.fieldLink RX1 40 "FeedbackQueues$Task" "keepsQuantum" "Z", Cond.fieldLink RX1 44 "FeedbackQueues$Task" "ticksRun" "I", Cond.fieldLink RX1 47 "FeedbackQueues$Task" "ticksReady" "I", Cond.fieldLink RX1 50 "FeedbackQueues$Task" "ticksBlocked" "I", Cond.fieldLink RX1 53 "FeedbackQueues$Task" "firstRun" "I", Cond.fieldLink RX1 56 "FeedbackQueues$Task" "endedAt" "I", Cond.fieldLink RX1 59 "FeedbackQueues$Task" "timesSwitchedTo" "I", Cond.fieldLink RX1 62 "FeedbackQueues$Task" "timesDown" "I", Cond.fieldLink RX1 65 "FeedbackQueues$Task" "timesToFront" "I"]
def wsX2_restart : List Cond := .code yX2_restart cX2_restart 1 none :: ((wsX2_restart_r1 ++ wsX2_restart_r2) ++ wsX20 ++ wsX00 ++ wsX10)
def wsX2_time : List Cond := .code yX2_time cX2_time 1 (some .int) :: ([.fieldLink RX2 35 "FeedbackQueues" "now" "I"] ++ wsX20)
def wsX2_told : List Cond := .code yX2_told cX2_told 4 (some .int) :: ([.classLink RX2 78 "java/lang/IndexOutOfBoundsException", .initialized "java/lang/IndexOutOfBoundsException", .classLink RX2 58 "java/lang/IllegalArgumentException", .initialized "java/lang/IllegalArgumentException", .fieldLink RX2 17 "FeedbackQueues" "tasks" "[LFeedbackQueues$Task;", .methodLink RX2 99 yX2_isTask, .instanceMethod yX2_isTask, .selects RX2 yX2_isTask yX2_isTask, .initialized RX2, .code yX2_isTask cX2_isTask 2 (some .boolean), .fieldLink RX2 29 "FeedbackQueues" "taskCount" "I"] ++ wsX20 ++ wsX10 ++ (vx_atS RX2 82 "java/lang/IndexOutOfBoundsException" ["java/lang/RuntimeException", "java/lang/Exception"]).filter goodWord ++ (vx_atS RX2 62 "java/lang/IllegalArgumentException" ["java/lang/RuntimeException", "java/lang/Exception"]).filter goodWord)
def wsX2_running : List Cond := .code yX2_running cX2_running 1 (some .int) :: ([.fieldLink RX2 38 "FeedbackQueues" "onProcessor" "LFeedbackQueues$Task;"] ++ wsX20 ++ wsX10)
def wsX2_queued : List Cond := .code yX2_queued cX2_queued 3 (some .int) :: ([.classLink RX2 78 "java/lang/IndexOutOfBoundsException", .initialized "java/lang/IndexOutOfBoundsException", .fieldLink RX2 11 "FeedbackQueues" "levelRows" "[LFeedbackQueues$Level;", .methodLink RX2 74 yX2_isLevel, .instanceMethod yX2_isLevel, .selects RX2 yX2_isLevel yX2_isLevel, .initialized RX2, .code yX2_isLevel cX2_isLevel 2 (some .boolean), .fieldLink RX2 25 "FeedbackQueues" "levelCount" "I", .instanceMethod yX0_at, .initialized RX0, .selects RX0 yX0_at yX0_at, .code yX0_at cX0_at 2 (some .int), .fieldLink RX0 22 "FeedbackQueues$Level" "size" "I", .fieldLink RX0 18 "FeedbackQueues$Level" "queue" "[I"] ++ wsX20 ++ wsX00 ++ (vx_atS RX2 82 "java/lang/IndexOutOfBoundsException" ["java/lang/RuntimeException", "java/lang/Exception"]).filter goodWord)
def wsX2_all : List Cond := .code yX2_all cX2_all 2 (some .int) :: ([.classLink RX2 58 "java/lang/IllegalArgumentException", .initialized "java/lang/IllegalArgumentException", .fieldLink RX2 42 "FeedbackQueues" "switchCount" "I", .fieldLink RX2 45 "FeedbackQueues" "idleCount" "I", .fieldLink RX2 48 "FeedbackQueues" "comeUpCount" "I", .fieldLink RX2 51 "FeedbackQueues" "endedCount" "I"] ++ wsX20 ++ (vx_atS RX2 62 "java/lang/IllegalArgumentException" ["java/lang/RuntimeException", "java/lang/Exception"]).filter goodWord)
def wsX2_switched : List Cond := .code yX2_switched cX2_switched 2 (some .int) :: ([.classLink RX2 78 "java/lang/IndexOutOfBoundsException", .initialized "java/lang/IndexOutOfBoundsException", .fieldLink RX2 42 "FeedbackQueues" "switchCount" "I", .fieldLink RX2 21 "FeedbackQueues" "switchesKept" "[I"] ++ wsX20 ++ (vx_atS RX2 82 "java/lang/IndexOutOfBoundsException" ["java/lang/RuntimeException", "java/lang/Exception"]).filter goodWord)
def wsX3_begin : List Cond := .code yX3_begin cX3_begin 3 none :: ([.fieldLink RX3 82 "FeedbackQueuesModel" "time" "I", .fieldLink RX3 85 "FeedbackQueuesModel" "running" "I", .fieldLink RX3 59 "FeedbackQueuesModel" "all" "[I", .fieldLink RX3 56 "FeedbackQueuesModel" "size" "[I", .fieldLink RX3 25 "FeedbackQueuesModel" "state" "[I", .fieldLink RX3 28 "FeedbackQueuesModel" "level" "[I", .fieldLink RX3 31 "FeedbackQueuesModel" "at" "[I", .fieldLink RX3 43 "FeedbackQueuesModel" "kept" "[Z", .fieldLink RX3 50 "FeedbackQueuesModel" "counts" "[I"] ++ wsX30)
def wsX3_set : List Cond := .code yX3_set cX3_set 3 none :: ([.fieldLink RX3 73 "FeedbackQueuesModel" "levels" "I", .fieldLink RX3 7 "FeedbackQueuesModel" "quanta" "[I", .fieldLink RX3 13 "FeedbackQueuesModel" "shares" "[I", .fieldLink RX3 76 "FeedbackQueuesModel" "processes" "I", .methodLink RX3 79 yX3_begin, .instanceMethod yX3_begin, .selects RX3 yX3_begin yX3_begin, .initialized RX3, .code yX3_begin cX3_begin 3 none, .fieldLink RX3 82 "FeedbackQueuesModel" "time" "I", .fieldLink RX3 85 "FeedbackQueuesModel" "running" "I", .fieldLink RX3 59 "FeedbackQueuesModel" "all" "[I", .fieldLink RX3 56 "FeedbackQueuesModel" "size" "[I", .fieldLink RX3 25 "FeedbackQueuesModel" "state" "[I", .fieldLink RX3 28 "FeedbackQueuesModel" "level" "[I", .fieldLink RX3 31 "FeedbackQueuesModel" "at" "[I", .fieldLink RX3 43 "FeedbackQueuesModel" "kept" "[Z", .fieldLink RX3 50 "FeedbackQueuesModel" "counts" "[I"] ++ wsX30)
def wsX3_init_r1 : List Cond := [Cond.methodLink RX3 1 objectInit, Cond.instanceMethod objectInit, Cond.code objectInit ⟨#[0xb1]⟩ 1 none, Cond.arrayClass .int, Cond.fieldLink RX3 7 "FeedbackQueuesModel" "quanta" "[I", Cond.fieldLink RX3 13 "FeedbackQueuesModel" "shares" "[I", Cond.fieldLink RX3 16 "FeedbackQueuesModel" "arrivals" "[I", Cond.fieldLink RX3 19 "FeedbackQueuesModel" "bursts" "[I", Cond.fieldLink RX3 22 "FeedbackQueuesModel" "ticks" "[I", Cond.fieldLink RX3 25 "FeedbackQueuesModel" "state" "[I", Cond.fieldLink RX3 28 "FeedbackQueuesModel" "level" "[I", Cond.fieldLink RX3 31 "FeedbackQueuesModel" "at" "[I", Cond.fieldLink RX3 34 "FeedbackQueuesModel" "left" "[I", Cond.fieldLink RX3 37 "FeedbackQueuesModel" "quantum" "[I", Cond.fieldLink RX3 40 "FeedbackQueuesModel" "share" "[I", Cond.arrayClass .boolean, Cond.fieldLink RX3 43 "FeedbackQueuesModel" "kept" "[Z", Cond.fieldLink RX3 47 "FeedbackQueuesModel" "until" "[I", Cond.fieldLink RX3 50 "FeedbackQueuesModel" "counts" "[I", Cond.fieldLink RX3 53 "FeedbackQueuesModel" "queue" "[I", Cond.fieldLink RX3 56 "FeedbackQueuesModel" "size" "[I", Cond.fieldLink RX3 59 "FeedbackQueuesModel" "all" "[I", Cond.fieldLink RX3 62 "FeedbackQueuesModel" "switches" "[I", Cond.methodLink RX3 65 yX3_set]
def wsX3_init_r2 : List Cond := [Cond.instanceMethod yX3_set, Cond.selects RX3 yX3_set yX3_set, Cond.initialized RX3, Cond.code yX3_set cX3_set 3 none, Cond.fieldLink RX3 73 "FeedbackQueuesModel" "levels" "I", Cond.fieldLink RX3 76 "FeedbackQueuesModel" "processes" "I", Cond.methodLink RX3 79 yX3_begin, Cond.instanceMethod yX3_begin, Cond.selects RX3 yX3_begin yX3_begin, Cond.code yX3_begin cX3_begin 3 none, Cond.fieldLink RX3 82 "FeedbackQueuesModel" "time" "I", Cond.fieldLink RX3 85 "FeedbackQueuesModel" "running" "I"]
def wsX3_init : List Cond := .code yX3_init cX3_init 1 none :: ((wsX3_init_r1 ++ wsX3_init_r2) ++ wsX30)
def wsX3_thrown : List Cond := .code yX3_thrown cX3_thrown 1 (some .int) :: ([.fieldLink RX3 69 "FeedbackQueuesModel" "thrown" "I"] ++ wsX30)
def wsX3_levels : List Cond := .code yX3_levels cX3_levels 2 none :: ([.fieldLink RX3 69 "FeedbackQueuesModel" "thrown" "I", .methodLink RX3 65 yX3_set, .instanceMethod yX3_set, .selects RX3 yX3_set yX3_set, .initialized RX3, .code yX3_set cX3_set 3 none, .fieldLink RX3 73 "FeedbackQueuesModel" "levels" "I", .fieldLink RX3 7 "FeedbackQueuesModel" "quanta" "[I", .fieldLink RX3 13 "FeedbackQueuesModel" "shares" "[I", .fieldLink RX3 76 "FeedbackQueuesModel" "processes" "I", .methodLink RX3 79 yX3_begin, .instanceMethod yX3_begin, .selects RX3 yX3_begin yX3_begin, .code yX3_begin cX3_begin 3 none, .fieldLink RX3 82 "FeedbackQueuesModel" "time" "I", .fieldLink RX3 85 "FeedbackQueuesModel" "running" "I", .fieldLink RX3 59 "FeedbackQueuesModel" "all" "[I", .fieldLink RX3 56 "FeedbackQueuesModel" "size" "[I", .fieldLink RX3 25 "FeedbackQueuesModel" "state" "[I", .fieldLink RX3 28 "FeedbackQueuesModel" "level" "[I", .fieldLink RX3 31 "FeedbackQueuesModel" "at" "[I", .fieldLink RX3 43 "FeedbackQueuesModel" "kept" "[Z", .fieldLink RX3 50 "FeedbackQueuesModel" "counts" "[I"] ++ wsX30)
def wsX3_level : List Cond := .code yX3_level cX3_level 4 none :: ([.fieldLink RX3 73 "FeedbackQueuesModel" "levels" "I", .fieldLink RX3 82 "FeedbackQueuesModel" "time" "I", .fieldLink RX3 69 "FeedbackQueuesModel" "thrown" "I", .fieldLink RX3 7 "FeedbackQueuesModel" "quanta" "[I", .fieldLink RX3 13 "FeedbackQueuesModel" "shares" "[I"] ++ wsX30)
def wsX3_period : List Cond := .code yX3_period cX3_period 2 none :: ([.fieldLink RX3 82 "FeedbackQueuesModel" "time" "I", .fieldLink RX3 69 "FeedbackQueuesModel" "thrown" "I", .fieldLink RX3 88 "FeedbackQueuesModel" "period" "I"] ++ wsX30)
def wsX3_process : List Cond := .code yX3_process cX3_process 2 (some .int) :: ([.fieldLink RX3 82 "FeedbackQueuesModel" "time" "I", .fieldLink RX3 69 "FeedbackQueuesModel" "thrown" "I", .fieldLink RX3 76 "FeedbackQueuesModel" "processes" "I", .fieldLink RX3 16 "FeedbackQueuesModel" "arrivals" "[I", .fieldLink RX3 19 "FeedbackQueuesModel" "bursts" "[I"] ++ wsX30)
def wsX3_noProcess : List Cond := .code yX3_noProcess cX3_noProcess 2 (some .boolean) :: ([.fieldLink RX3 76 "FeedbackQueuesModel" "processes" "I"] ++ wsX30)
def wsX3_burst : List Cond := .code yX3_burst cX3_burst 3 (some .int) :: ([.fieldLink RX3 82 "FeedbackQueuesModel" "time" "I", .fieldLink RX3 69 "FeedbackQueuesModel" "thrown" "I", .fieldLink RX3 19 "FeedbackQueuesModel" "bursts" "[I", .fieldLink RX3 22 "FeedbackQueuesModel" "ticks" "[I", .methodLink RX3 91 yX3_noProcess, .instanceMethod yX3_noProcess, .selects RX3 yX3_noProcess yX3_noProcess, .initialized RX3, .code yX3_noProcess cX3_noProcess 2 (some .boolean), .fieldLink RX3 76 "FeedbackQueuesModel" "processes" "I"] ++ wsX30)
def wsX3_toEnd : List Cond := .code yX3_toEnd cX3_toEnd 3 none :: ([.fieldLink RX3 53 "FeedbackQueuesModel" "queue" "[I", .fieldLink RX3 56 "FeedbackQueuesModel" "size" "[I", .fieldLink RX3 25 "FeedbackQueuesModel" "state" "[I"] ++ wsX30)
def wsX3_toFront : List Cond := .code yX3_toFront cX3_toFront 4 none :: ([.fieldLink RX3 56 "FeedbackQueuesModel" "size" "[I", .fieldLink RX3 53 "FeedbackQueuesModel" "queue" "[I", .fieldLink RX3 25 "FeedbackQueuesModel" "state" "[I"] ++ wsX30)
def wsX3_takeFirst : List Cond := .code yX3_takeFirst cX3_takeFirst 4 (some .int) :: ([.fieldLink RX3 53 "FeedbackQueuesModel" "queue" "[I", .fieldLink RX3 56 "FeedbackQueuesModel" "size" "[I"] ++ wsX30)
def wsX3_allUp : List Cond := .code yX3_allUp cX3_allUp 2 none :: ([.fieldLink RX3 59 "FeedbackQueuesModel" "all" "[I", .fieldLink RX3 73 "FeedbackQueuesModel" "levels" "I", .fieldLink RX3 56 "FeedbackQueuesModel" "size" "[I", .fieldLink RX3 76 "FeedbackQueuesModel" "processes" "I", .fieldLink RX3 25 "FeedbackQueuesModel" "state" "[I", .fieldLink RX3 28 "FeedbackQueuesModel" "level" "[I", .fieldLink RX3 40 "FeedbackQueuesModel" "share" "[I", .fieldLink RX3 13 "FeedbackQueuesModel" "shares" "[I", .fieldLink RX3 43 "FeedbackQueuesModel" "kept" "[Z", .fieldLink RX3 37 "FeedbackQueuesModel" "quantum" "[I", .fieldLink RX3 7 "FeedbackQueuesModel" "quanta" "[I", .fieldLink RX3 85 "FeedbackQueuesModel" "running" "I", .methodLink RX3 95 yX3_takeFirst, .instanceMethod yX3_takeFirst, .selects RX3 yX3_takeFirst yX3_takeFirst, .initialized RX3, .code yX3_takeFirst cX3_takeFirst 4 (some .int), .fieldLink RX3 53 "FeedbackQueuesModel" "queue" "[I", .methodLink RX3 99 yX3_toEnd, .instanceMethod yX3_toEnd, .selects RX3 yX3_toEnd yX3_toEnd, .code yX3_toEnd cX3_toEnd 3 none] ++ wsX30)
def wsX3_end : List Cond := .code yX3_end cX3_end 3 none :: ([.fieldLink RX3 25 "FeedbackQueuesModel" "state" "[I", .fieldLink RX3 50 "FeedbackQueuesModel" "counts" "[I", .fieldLink RX3 59 "FeedbackQueuesModel" "all" "[I"] ++ wsX30)
def wsX3_come : List Cond := .code yX3_come cX3_come 3 none :: ([.fieldLink RX3 76 "FeedbackQueuesModel" "processes" "I", .fieldLink RX3 16 "FeedbackQueuesModel" "arrivals" "[I", .fieldLink RX3 19 "FeedbackQueuesModel" "bursts" "[I", .fieldLink RX3 28 "FeedbackQueuesModel" "level" "[I", .fieldLink RX3 40 "FeedbackQueuesModel" "share" "[I", .fieldLink RX3 13 "FeedbackQueuesModel" "shares" "[I", .fieldLink RX3 34 "FeedbackQueuesModel" "left" "[I", .fieldLink RX3 22 "FeedbackQueuesModel" "ticks" "[I", .methodLink RX3 103 yX3_end, .instanceMethod yX3_end, .selects RX3 yX3_end yX3_end, .initialized RX3, .code yX3_end cX3_end 3 none, .fieldLink RX3 25 "FeedbackQueuesModel" "state" "[I", .fieldLink RX3 50 "FeedbackQueuesModel" "counts" "[I", .fieldLink RX3 59 "FeedbackQueuesModel" "all" "[I", .methodLink RX3 99 yX3_toEnd, .instanceMethod yX3_toEnd, .selects RX3 yX3_toEnd yX3_toEnd, .code yX3_toEnd cX3_toEnd 3 none, .fieldLink RX3 53 "FeedbackQueuesModel" "queue" "[I", .fieldLink RX3 56 "FeedbackQueuesModel" "size" "[I"] ++ wsX30)
def wsX3_comeBack : List Cond := .code yX3_comeBack cX3_comeBack 3 none :: ([.fieldLink RX3 76 "FeedbackQueuesModel" "processes" "I", .fieldLink RX3 25 "FeedbackQueuesModel" "state" "[I", .fieldLink RX3 47 "FeedbackQueuesModel" "until" "[I", .fieldLink RX3 31 "FeedbackQueuesModel" "at" "[I", .fieldLink RX3 19 "FeedbackQueuesModel" "bursts" "[I", .fieldLink RX3 34 "FeedbackQueuesModel" "left" "[I", .fieldLink RX3 22 "FeedbackQueuesModel" "ticks" "[I", .fieldLink RX3 28 "FeedbackQueuesModel" "level" "[I", .methodLink RX3 103 yX3_end, .instanceMethod yX3_end, .selects RX3 yX3_end yX3_end, .initialized RX3, .code yX3_end cX3_end 3 none, .fieldLink RX3 50 "FeedbackQueuesModel" "counts" "[I", .fieldLink RX3 59 "FeedbackQueuesModel" "all" "[I", .methodLink RX3 99 yX3_toEnd, .instanceMethod yX3_toEnd, .selects RX3 yX3_toEnd yX3_toEnd, .code yX3_toEnd cX3_toEnd 3 none, .fieldLink RX3 53 "FeedbackQueuesModel" "queue" "[I", .fieldLink RX3 56 "FeedbackQueuesModel" "size" "[I"] ++ wsX30)
def wsX3_firstLevel : List Cond := .code yX3_firstLevel cX3_firstLevel 2 (some .int) :: ([.fieldLink RX3 73 "FeedbackQueuesModel" "levels" "I", .fieldLink RX3 56 "FeedbackQueuesModel" "size" "[I"] ++ wsX30)
def wsX3_choose_r1 : List Cond := [Cond.fieldLink RX3 85 "FeedbackQueuesModel" "running" "I", Cond.fieldLink RX3 28 "FeedbackQueuesModel" "level" "[I", Cond.fieldLink RX3 43 "FeedbackQueuesModel" "kept" "[Z", Cond.fieldLink RX3 50 "FeedbackQueuesModel" "counts" "[I", Cond.fieldLink RX3 25 "FeedbackQueuesModel" "state" "[I", Cond.fieldLink RX3 37 "FeedbackQueuesModel" "quantum" "[I", Cond.fieldLink RX3 7 "FeedbackQueuesModel" "quanta" "[I", Cond.fieldLink RX3 59 "FeedbackQueuesModel" "all" "[I", Cond.fieldLink RX3 62 "FeedbackQueuesModel" "switches" "[I", Cond.methodLink RX3 106 yX3_firstLevel, Cond.instanceMethod yX3_firstLevel, Cond.selects RX3 yX3_firstLevel yX3_firstLevel, Cond.initialized RX3, Cond.code yX3_firstLevel cX3_firstLevel 2 (some .int), Cond.fieldLink RX3 73 "FeedbackQueuesModel" "levels" "I", Cond.fieldLink RX3 56 "FeedbackQueuesModel" "size" "[I", Cond.methodLink RX3 110 yX3_toFront, Cond.instanceMethod yX3_toFront, Cond.selects RX3 yX3_toFront yX3_toFront, Cond.code yX3_toFront cX3_toFront 4 none, Cond.fieldLink RX3 53 "FeedbackQueuesModel" "queue" "[I", Cond.methodLink RX3 95 yX3_takeFirst, Cond.instanceMethod yX3_takeFirst, Cond.selects RX3 yX3_takeFirst yX3_takeFirst]
def wsX3_choose_r2 : List Cond := [Cond.code yX3_takeFirst cX3_takeFirst 4 (some .int)]
def wsX3_choose : List Cond := .code yX3_choose cX3_choose 4 none :: ((wsX3_choose_r1 ++ wsX3_choose_r2) ++ wsX30)
def wsX3_work_r1 : List Cond := [Cond.fieldLink RX3 85 "FeedbackQueuesModel" "running" "I", Cond.fieldLink RX3 50 "FeedbackQueuesModel" "counts" "[I", Cond.fieldLink RX3 34 "FeedbackQueuesModel" "left" "[I", Cond.fieldLink RX3 37 "FeedbackQueuesModel" "quantum" "[I", Cond.fieldLink RX3 40 "FeedbackQueuesModel" "share" "[I", Cond.fieldLink RX3 31 "FeedbackQueuesModel" "at" "[I", Cond.fieldLink RX3 19 "FeedbackQueuesModel" "bursts" "[I", Cond.fieldLink RX3 25 "FeedbackQueuesModel" "state" "[I", Cond.fieldLink RX3 47 "FeedbackQueuesModel" "until" "[I", Cond.fieldLink RX3 22 "FeedbackQueuesModel" "ticks" "[I", Cond.fieldLink RX3 28 "FeedbackQueuesModel" "level" "[I", Cond.fieldLink RX3 73 "FeedbackQueuesModel" "levels" "I", Cond.fieldLink RX3 13 "FeedbackQueuesModel" "shares" "[I", Cond.methodLink RX3 103 yX3_end, Cond.instanceMethod yX3_end, Cond.selects RX3 yX3_end yX3_end, Cond.initialized RX3, Cond.code yX3_end cX3_end 3 none, Cond.fieldLink RX3 59 "FeedbackQueuesModel" "all" "[I", Cond.methodLink RX3 99 yX3_toEnd, Cond.instanceMethod yX3_toEnd, Cond.selects RX3 yX3_toEnd yX3_toEnd, Cond.code yX3_toEnd cX3_toEnd 3 none, Cond.fieldLink RX3 53 "FeedbackQueuesModel" "queue" "[I"]
def wsX3_work_r2 : List Cond := [Cond.fieldLink RX3 56 "FeedbackQueuesModel" "size" "[I"]
def wsX3_work : List Cond := .code yX3_work cX3_work 3 none :: ((wsX3_work_r1 ++ wsX3_work_r2) ++ wsX30)
def wsX3_count : List Cond := .code yX3_count cX3_count 2 none :: ([.fieldLink RX3 76 "FeedbackQueuesModel" "processes" "I", .fieldLink RX3 25 "FeedbackQueuesModel" "state" "[I", .fieldLink RX3 50 "FeedbackQueuesModel" "counts" "[I"] ++ wsX30)
def wsX3_run_r1 : List Cond := [Cond.fieldLink RX3 82 "FeedbackQueuesModel" "time" "I", Cond.constant RX3 113 (100000), Cond.fieldLink RX3 69 "FeedbackQueuesModel" "thrown" "I", Cond.fieldLink RX3 88 "FeedbackQueuesModel" "period" "I", Cond.fieldLink RX3 85 "FeedbackQueuesModel" "running" "I", Cond.fieldLink RX3 59 "FeedbackQueuesModel" "all" "[I", Cond.methodLink RX3 114 yX3_allUp, Cond.instanceMethod yX3_allUp, Cond.selects RX3 yX3_allUp yX3_allUp, Cond.initialized RX3, Cond.code yX3_allUp cX3_allUp 2 none, Cond.fieldLink RX3 73 "FeedbackQueuesModel" "levels" "I", Cond.fieldLink RX3 56 "FeedbackQueuesModel" "size" "[I", Cond.fieldLink RX3 76 "FeedbackQueuesModel" "processes" "I", Cond.fieldLink RX3 25 "FeedbackQueuesModel" "state" "[I", Cond.fieldLink RX3 28 "FeedbackQueuesModel" "level" "[I", Cond.fieldLink RX3 40 "FeedbackQueuesModel" "share" "[I", Cond.fieldLink RX3 13 "FeedbackQueuesModel" "shares" "[I", Cond.fieldLink RX3 43 "FeedbackQueuesModel" "kept" "[Z", Cond.fieldLink RX3 37 "FeedbackQueuesModel" "quantum" "[I", Cond.fieldLink RX3 7 "FeedbackQueuesModel" "quanta" "[I", Cond.methodLink RX3 95 yX3_takeFirst, Cond.instanceMethod yX3_takeFirst, Cond.selects RX3 yX3_takeFirst yX3_takeFirst]
def wsX3_run_r2 : List Cond := [Cond.code yX3_takeFirst cX3_takeFirst 4 (some .int), Cond.fieldLink RX3 53 "FeedbackQueuesModel" "queue" "[I", Cond.methodLink RX3 99 yX3_toEnd, Cond.instanceMethod yX3_toEnd, Cond.selects RX3 yX3_toEnd yX3_toEnd, Cond.code yX3_toEnd cX3_toEnd 3 none, Cond.methodLink RX3 117 yX3_come, Cond.instanceMethod yX3_come, Cond.selects RX3 yX3_come yX3_come, Cond.code yX3_come cX3_come 3 none, Cond.fieldLink RX3 16 "FeedbackQueuesModel" "arrivals" "[I", Cond.fieldLink RX3 19 "FeedbackQueuesModel" "bursts" "[I", Cond.fieldLink RX3 34 "FeedbackQueuesModel" "left" "[I", Cond.fieldLink RX3 22 "FeedbackQueuesModel" "ticks" "[I", Cond.methodLink RX3 103 yX3_end, Cond.instanceMethod yX3_end, Cond.selects RX3 yX3_end yX3_end, Cond.code yX3_end cX3_end 3 none, Cond.fieldLink RX3 50 "FeedbackQueuesModel" "counts" "[I", Cond.methodLink RX3 120 yX3_comeBack, Cond.instanceMethod yX3_comeBack, Cond.selects RX3 yX3_comeBack yX3_comeBack, Cond.code yX3_comeBack cX3_comeBack 3 none, Cond.fieldLink RX3 47 "FeedbackQueuesModel" "until" "[I"]
def wsX3_run_r3 : List Cond := [Cond.fieldLink RX3 31 "FeedbackQueuesModel" "at" "[I", Cond.methodLink RX3 123 yX3_choose, Cond.instanceMethod yX3_choose, Cond.selects RX3 yX3_choose yX3_choose, Cond.code yX3_choose cX3_choose 4 none, Cond.fieldLink RX3 62 "FeedbackQueuesModel" "switches" "[I", Cond.methodLink RX3 106 yX3_firstLevel, Cond.instanceMethod yX3_firstLevel, Cond.selects RX3 yX3_firstLevel yX3_firstLevel, Cond.code yX3_firstLevel cX3_firstLevel 2 (some .int), Cond.methodLink RX3 110 yX3_toFront, Cond.instanceMethod yX3_toFront, Cond.selects RX3 yX3_toFront yX3_toFront, Cond.code yX3_toFront cX3_toFront 4 none, Cond.methodLink RX3 126 yX3_count, Cond.instanceMethod yX3_count, Cond.selects RX3 yX3_count yX3_count, Cond.code yX3_count cX3_count 2 none, Cond.methodLink RX3 129 yX3_work, Cond.instanceMethod yX3_work, Cond.selects RX3 yX3_work yX3_work, Cond.code yX3_work cX3_work 3 none]
def wsX3_run : List Cond := .code yX3_run cX3_run 5 (some .int) :: ((wsX3_run_r1 ++ (wsX3_run_r2 ++ wsX3_run_r3)) ++ wsX30)
def wsX3_restart : List Cond := .code yX3_restart cX3_restart 1 none :: ([.fieldLink RX3 69 "FeedbackQueuesModel" "thrown" "I", .methodLink RX3 79 yX3_begin, .instanceMethod yX3_begin, .selects RX3 yX3_begin yX3_begin, .initialized RX3, .code yX3_begin cX3_begin 3 none, .fieldLink RX3 82 "FeedbackQueuesModel" "time" "I", .fieldLink RX3 85 "FeedbackQueuesModel" "running" "I", .fieldLink RX3 59 "FeedbackQueuesModel" "all" "[I", .fieldLink RX3 56 "FeedbackQueuesModel" "size" "[I", .fieldLink RX3 25 "FeedbackQueuesModel" "state" "[I", .fieldLink RX3 28 "FeedbackQueuesModel" "level" "[I", .fieldLink RX3 31 "FeedbackQueuesModel" "at" "[I", .fieldLink RX3 43 "FeedbackQueuesModel" "kept" "[Z", .fieldLink RX3 50 "FeedbackQueuesModel" "counts" "[I"] ++ wsX30)
def wsX3_time : List Cond := .code yX3_time cX3_time 1 (some .int) :: ([.fieldLink RX3 69 "FeedbackQueuesModel" "thrown" "I", .fieldLink RX3 82 "FeedbackQueuesModel" "time" "I"] ++ wsX30)
def wsX3_told : List Cond := .code yX3_told cX3_told 3 (some .int) :: ([.fieldLink RX3 69 "FeedbackQueuesModel" "thrown" "I", .fieldLink RX3 25 "FeedbackQueuesModel" "state" "[I", .fieldLink RX3 28 "FeedbackQueuesModel" "level" "[I", .fieldLink RX3 50 "FeedbackQueuesModel" "counts" "[I", .methodLink RX3 91 yX3_noProcess, .instanceMethod yX3_noProcess, .selects RX3 yX3_noProcess yX3_noProcess, .initialized RX3, .code yX3_noProcess cX3_noProcess 2 (some .boolean), .fieldLink RX3 76 "FeedbackQueuesModel" "processes" "I"] ++ wsX30)
def wsX3_running : List Cond := .code yX3_running cX3_running 1 (some .int) :: ([.fieldLink RX3 69 "FeedbackQueuesModel" "thrown" "I", .fieldLink RX3 85 "FeedbackQueuesModel" "running" "I"] ++ wsX30)
def wsX3_queued : List Cond := .code yX3_queued cX3_queued 3 (some .int) :: ([.fieldLink RX3 73 "FeedbackQueuesModel" "levels" "I", .fieldLink RX3 69 "FeedbackQueuesModel" "thrown" "I", .fieldLink RX3 56 "FeedbackQueuesModel" "size" "[I", .fieldLink RX3 53 "FeedbackQueuesModel" "queue" "[I"] ++ wsX30)
def wsX3_all : List Cond := .code yX3_all cX3_all 2 (some .int) :: ([.fieldLink RX3 69 "FeedbackQueuesModel" "thrown" "I", .fieldLink RX3 59 "FeedbackQueuesModel" "all" "[I"] ++ wsX30)
def wsX3_switched : List Cond := .code yX3_switched cX3_switched 2 (some .int) :: ([.fieldLink RX3 59 "FeedbackQueuesModel" "all" "[I", .fieldLink RX3 69 "FeedbackQueuesModel" "thrown" "I", .fieldLink RX3 62 "FeedbackQueuesModel" "switches" "[I"] ++ wsX30)
def wsJ9_min_7cf53 : List Cond := .code yJ9_min_7cf53 cJ9_min_7cf53 2 (some .int) :: ([])
def wsL_levels_r1 : List Cond := [Cond.classLink RL 13 "java/lang/IllegalArgumentException", Cond.methodLink RL 7 yX2_levels, Cond.instanceMethod yX2_levels, Cond.selects RX2 yX2_levels yX2_levels, Cond.initialized RX2, Cond.code yX2_levels cX2_levels 3 none, Cond.classLink RX2 58 "java/lang/IllegalArgumentException", Cond.initialized "java/lang/IllegalArgumentException", Cond.fieldLink RX2 25 "FeedbackQueues" "levelCount" "I", Cond.fieldLink RX2 11 "FeedbackQueues" "levelRows" "[LFeedbackQueues$Level;", Cond.fieldLink RX2 29 "FeedbackQueues" "taskCount" "I", Cond.methodLink RX2 71 yX2_startOver, Cond.instanceMethod yX2_startOver, Cond.selects RX2 yX2_startOver yX2_startOver, Cond.code yX2_startOver cX2_startOver 2 none, Cond.fieldLink RX2 35 "FeedbackQueues" "now" "I", Cond.fieldLink RX2 38 "FeedbackQueues" "onProcessor" "LFeedbackQueues$Task;", Cond.fieldLink RX2 42 "FeedbackQueues" "switchCount" "I", Cond.fieldLink RX2 45 "FeedbackQueues" "idleCount" "I", Cond.fieldLink RX2 48 "FeedbackQueues" "comeUpCount" "I", Cond.fieldLink RX2 51 "FeedbackQueues" "endedCount" "I", Cond.fieldLink RX2 17 "FeedbackQueues" "tasks" "[LFeedbackQueues$Task;", Cond.instanceMethod yX0_clear, Cond.initialized RX0]
def wsL_levels_r2 : List Cond := [Cond.selects RX0 yX0_clear yX0_clear, Cond.code yX0_clear cX0_clear 1 none, Cond.fieldLink RX0 22 "FeedbackQueues$Level" "size" "I", Cond.instanceMethod yX1_startOver, Cond.initialized RX1, Cond.selects RX1 yX1_startOver yX1_startOver, Cond.code yX1_startOver cX1_startOver 1 none, Cond.fieldLink RX1 22 "FeedbackQueues$Task" "state" "I", Cond.fieldLink RX1 25 "FeedbackQueues$Task" "level" "I", Cond.fieldLink RX1 28 "FeedbackQueues$Task" "burstsBegun" "I", Cond.fieldLink RX1 31 "FeedbackQueues$Task" "burstLeft" "I", Cond.fieldLink RX1 34 "FeedbackQueues$Task" "quantumLeft" "I", Cond.fieldLink RX1 37 "FeedbackQueues$Task" "shareLeft" "I", Cond.fieldLink RX1 40 "FeedbackQueues$Task" "keepsQuantum" "Z", Cond.fieldLink RX1 44 "FeedbackQueues$Task" "ticksRun" "I", Cond.fieldLink RX1 47 "FeedbackQueues$Task" "ticksReady" "I", Cond.fieldLink RX1 50 "FeedbackQueues$Task" "ticksBlocked" "I", Cond.fieldLink RX1 53 "FeedbackQueues$Task" "firstRun" "I", Cond.fieldLink RX1 56 "FeedbackQueues$Task" "endedAt" "I", Cond.fieldLink RX1 59 "FeedbackQueues$Task" "timesSwitchedTo" "I", Cond.fieldLink RX1 62 "FeedbackQueues$Task" "timesDown" "I", Cond.fieldLink RX1 65 "FeedbackQueues$Task" "timesToFront" "I"]
def wsL_levels : List Cond := .codeWith yL_levels cL_levels 3 (some .int) [(0, 5, 8, 13)] :: ((wsL_levels_r1 ++ wsL_levels_r2) ++ wsX20 ++ wsX00 ++ wsX10 ++ (vx_atS RX2 62 "java/lang/IllegalArgumentException" ["java/lang/RuntimeException", "java/lang/Exception"]).filter goodWord)
def wsL_level : List Cond := .codeWith yL_level cL_level 5 (some .int) [(0, 7, 10, 19), (0, 7, 14, 13), (0, 7, 18, 21)] :: ([.classLink RL 19 "java/lang/IndexOutOfBoundsException", .classLink RL 13 "java/lang/IllegalArgumentException", .classLink RL 21 "java/lang/IllegalStateException", .methodLink RL 15 yX2_level, .instanceMethod yX2_level, .selects RX2 yX2_level yX2_level, .initialized RX2, .code yX2_level cX2_level 4 none, .classLink RX2 78 "java/lang/IndexOutOfBoundsException", .initialized "java/lang/IndexOutOfBoundsException", .classLink RX2 58 "java/lang/IllegalArgumentException", .initialized "java/lang/IllegalArgumentException", .classLink RX2 87 "java/lang/IllegalStateException", .initialized "java/lang/IllegalStateException", .fieldLink RX2 35 "FeedbackQueues" "now" "I", .fieldLink RX2 11 "FeedbackQueues" "levelRows" "[LFeedbackQueues$Level;", .methodLink RX2 74 yX2_isLevel, .instanceMethod yX2_isLevel, .selects RX2 yX2_isLevel yX2_isLevel, .code yX2_isLevel cX2_isLevel 2 (some .boolean), .fieldLink RX2 25 "FeedbackQueues" "levelCount" "I"] ++ wsX20 ++ wsX00 ++ (vx_atS RX2 82 "java/lang/IndexOutOfBoundsException" ["java/lang/RuntimeException", "java/lang/Exception"]).filter goodWord ++ (vx_atS RX2 62 "java/lang/IllegalArgumentException" ["java/lang/RuntimeException", "java/lang/Exception"]).filter goodWord ++ (vx_atS RX2 91 "java/lang/IllegalStateException" ["java/lang/RuntimeException", "java/lang/Exception"]).filter goodWord)
def wsL_period : List Cond := .codeWith yL_period cL_period 3 (some .int) [(0, 5, 8, 13), (0, 5, 11, 21)] :: ([.classLink RL 13 "java/lang/IllegalArgumentException", .classLink RL 21 "java/lang/IllegalStateException", .methodLink RL 23 yX2_period, .instanceMethod yX2_period, .selects RX2 yX2_period yX2_period, .initialized RX2, .code yX2_period cX2_period 2 none, .classLink RX2 58 "java/lang/IllegalArgumentException", .initialized "java/lang/IllegalArgumentException", .classLink RX2 87 "java/lang/IllegalStateException", .initialized "java/lang/IllegalStateException", .fieldLink RX2 35 "FeedbackQueues" "now" "I", .fieldLink RX2 32 "FeedbackQueues" "periodTicks" "I"] ++ wsX20 ++ (vx_atS RX2 62 "java/lang/IllegalArgumentException" ["java/lang/RuntimeException", "java/lang/Exception"]).filter goodWord ++ (vx_atS RX2 91 "java/lang/IllegalStateException" ["java/lang/RuntimeException", "java/lang/Exception"]).filter goodWord)
def wsL_process : List Cond := .codeWith yL_process cL_process 4 (some .int) [(0, 9, 12, 13), (0, 9, 15, 21)] :: ([.classLink RL 13 "java/lang/IllegalArgumentException", .classLink RL 21 "java/lang/IllegalStateException", .methodLink RL 26 yX2_process, .instanceMethod yX2_process, .selects RX2 yX2_process yX2_process, .initialized RX2, .code yX2_process cX2_process 2 (some .int), .classLink RX2 58 "java/lang/IllegalArgumentException", .initialized "java/lang/IllegalArgumentException", .classLink RX2 87 "java/lang/IllegalStateException", .initialized "java/lang/IllegalStateException", .fieldLink RX2 35 "FeedbackQueues" "now" "I", .fieldLink RX2 29 "FeedbackQueues" "taskCount" "I", .fieldLink RX2 17 "FeedbackQueues" "tasks" "[LFeedbackQueues$Task;", .instanceMethod yX1_tellArrival, .initialized RX1, .selects RX1 yX1_tellArrival yX1_tellArrival, .code yX1_tellArrival cX1_tellArrival 2 none, .fieldLink RX1 9 "FeedbackQueues$Task" "arrival" "I", .fieldLink RX1 19 "FeedbackQueues$Task" "burstCount" "I"] ++ wsX20 ++ wsX10 ++ (vx_atS RX2 62 "java/lang/IllegalArgumentException" ["java/lang/RuntimeException", "java/lang/Exception"]).filter goodWord ++ (vx_atS RX2 91 "java/lang/IllegalStateException" ["java/lang/RuntimeException", "java/lang/Exception"]).filter goodWord)
def wsL_burst_r1 : List Cond := [Cond.classLink RL 19 "java/lang/IndexOutOfBoundsException", Cond.classLink RL 13 "java/lang/IllegalArgumentException", Cond.classLink RL 21 "java/lang/IllegalStateException", Cond.methodLink RL 30 yX2_burst, Cond.instanceMethod yX2_burst, Cond.selects RX2 yX2_burst yX2_burst, Cond.initialized RX2, Cond.code yX2_burst cX2_burst 3 (some .int), Cond.classLink RX2 78 "java/lang/IndexOutOfBoundsException", Cond.initialized "java/lang/IndexOutOfBoundsException", Cond.classLink RX2 58 "java/lang/IllegalArgumentException", Cond.initialized "java/lang/IllegalArgumentException", Cond.classLink RX2 87 "java/lang/IllegalStateException", Cond.initialized "java/lang/IllegalStateException", Cond.fieldLink RX2 35 "FeedbackQueues" "now" "I", Cond.fieldLink RX2 17 "FeedbackQueues" "tasks" "[LFeedbackQueues$Task;", Cond.methodLink RX2 99 yX2_isTask, Cond.instanceMethod yX2_isTask, Cond.selects RX2 yX2_isTask yX2_isTask, Cond.code yX2_isTask cX2_isTask 2 (some .boolean), Cond.fieldLink RX2 29 "FeedbackQueues" "taskCount" "I", Cond.instanceMethod yX1_tellBurst, Cond.initialized RX1, Cond.selects RX1 yX1_tellBurst yX1_tellBurst]
def wsL_burst_r2 : List Cond := [Cond.code yX1_tellBurst cX1_tellBurst 2 (some .int), Cond.fieldLink RX1 19 "FeedbackQueues$Task" "burstCount" "I", Cond.fieldLink RX1 15 "FeedbackQueues$Task" "bursts" "[I"]
def wsL_burst : List Cond := .codeWith yL_burst cL_burst 5 (some .int) [(0, 10, 13, 19), (0, 10, 17, 13), (0, 10, 21, 21)] :: ((wsL_burst_r1 ++ wsL_burst_r2) ++ wsX20 ++ wsX10 ++ (vx_atS RX2 82 "java/lang/IndexOutOfBoundsException" ["java/lang/RuntimeException", "java/lang/Exception"]).filter goodWord ++ (vx_atS RX2 62 "java/lang/IllegalArgumentException" ["java/lang/RuntimeException", "java/lang/Exception"]).filter goodWord ++ (vx_atS RX2 91 "java/lang/IllegalStateException" ["java/lang/RuntimeException", "java/lang/Exception"]).filter goodWord)
def wsL_run_r1 : List Cond := [Cond.classLink RL 13 "java/lang/IllegalArgumentException", Cond.methodLink RL 34 yX2_run, Cond.instanceMethod yX2_run, Cond.selects RX2 yX2_run yX2_run, Cond.initialized RX2, Cond.code yX2_run cX2_run 4 (some .int), Cond.classLink RX2 58 "java/lang/IllegalArgumentException", Cond.initialized "java/lang/IllegalArgumentException", Cond.fieldLink RX2 35 "FeedbackQueues" "now" "I", Cond.constant RX2 112 (100000), Cond.fieldLink RX2 45 "FeedbackQueues" "idleCount" "I", Cond.methodLink RX2 115 yX2_doTick, Cond.instanceMethod yX2_doTick, Cond.selects RX2 yX2_doTick yX2_doTick, Cond.code yX2_doTick cX2_doTick 1 none, Cond.fieldLink RX2 32 "FeedbackQueues" "periodTicks" "I", Cond.fieldLink RX2 38 "FeedbackQueues" "onProcessor" "LFeedbackQueues$Task;", Cond.methodLink RX2 164 yX2_bringAllUp, Cond.instanceMethod yX2_bringAllUp, Cond.selects RX2 yX2_bringAllUp yX2_bringAllUp, Cond.code yX2_bringAllUp cX2_bringAllUp 3 none, Cond.fieldLink RX2 48 "FeedbackQueues" "comeUpCount" "I", Cond.fieldLink RX2 11 "FeedbackQueues" "levelRows" "[LFeedbackQueues$Level;", Cond.fieldLink RX2 29 "FeedbackQueues" "taskCount" "I"]
def wsL_run_r2 : List Cond := [Cond.fieldLink RX2 17 "FeedbackQueues" "tasks" "[LFeedbackQueues$Task;", Cond.fieldLink RX2 25 "FeedbackQueues" "levelCount" "I", Cond.instanceMethod yX1_comeUp, Cond.initialized RX1, Cond.selects RX1 yX1_comeUp yX1_comeUp, Cond.code yX1_comeUp cX1_comeUp 3 none, Cond.fieldLink RX1 25 "FeedbackQueues$Task" "level" "I", Cond.fieldLink RX1 37 "FeedbackQueues$Task" "shareLeft" "I", Cond.fieldLink RX1 22 "FeedbackQueues$Task" "state" "I", Cond.fieldLink RX1 34 "FeedbackQueues$Task" "quantumLeft" "I", Cond.methodLink RX1 71 Lib.Math.min.name, Cond.static Lib.Math.min.name, Cond.initialized "java/lang/Math", Cond.code Lib.Math.min.name Lib.Math.min.code 2 (some .int), Cond.instanceMethod yX0_addAllOf, Cond.initialized RX0, Cond.selects RX0 yX0_addAllOf yX0_addAllOf, Cond.code yX0_addAllOf cX0_addAllOf 3 none, Cond.fieldLink RX0 22 "FeedbackQueues$Level" "size" "I", Cond.fieldLink RX0 18 "FeedbackQueues$Level" "queue" "[I", Cond.methodLink RX0 25 yX0_addLast, Cond.instanceMethod yX0_addLast, Cond.selects RX0 yX0_addLast yX0_addLast, Cond.code yX0_addLast cX0_addLast 2 none]
def wsL_run_r3 : List Cond := [Cond.instanceMethod yX0_clear, Cond.selects RX0 yX0_clear yX0_clear, Cond.code yX0_clear cX0_clear 1 none, Cond.methodLink RX2 167 yX2_letArrive, Cond.instanceMethod yX2_letArrive, Cond.selects RX2 yX2_letArrive yX2_letArrive, Cond.code yX2_letArrive cX2_letArrive 3 none, Cond.methodLink RX2 200 yX2_goOnOrEnd, Cond.instanceMethod yX2_goOnOrEnd, Cond.selects RX2 yX2_goOnOrEnd yX2_goOnOrEnd, Cond.code yX2_goOnOrEnd cX2_goOnOrEnd 2 none, Cond.instanceMethod yX1_beginBurst, Cond.selects RX1 yX1_beginBurst yX1_beginBurst, Cond.code yX1_beginBurst cX1_beginBurst 1 (some .boolean), Cond.fieldLink RX1 28 "FeedbackQueues$Task" "burstsBegun" "I", Cond.fieldLink RX1 19 "FeedbackQueues$Task" "burstCount" "I", Cond.fieldLink RX1 15 "FeedbackQueues$Task" "bursts" "[I", Cond.fieldLink RX1 31 "FeedbackQueues$Task" "burstLeft" "I", Cond.methodLink RX2 210 yX2_standAtEnd, Cond.instanceMethod yX2_standAtEnd, Cond.selects RX2 yX2_standAtEnd yX2_standAtEnd, Cond.code yX2_standAtEnd cX2_standAtEnd 2 none, Cond.methodLink RX2 213 yX2_endTask, Cond.instanceMethod yX2_endTask]
def wsL_run_r4 : List Cond := [Cond.selects RX2 yX2_endTask yX2_endTask, Cond.code yX2_endTask cX2_endTask 3 none, Cond.fieldLink RX2 51 "FeedbackQueues" "endedCount" "I", Cond.methodLink RX2 170 yX2_letComeBack, Cond.instanceMethod yX2_letComeBack, Cond.selects RX2 yX2_letComeBack yX2_letComeBack, Cond.code yX2_letComeBack cX2_letComeBack 3 none, Cond.methodLink RX2 173 yX2_makeWay, Cond.instanceMethod yX2_makeWay, Cond.selects RX2 yX2_makeWay yX2_makeWay, Cond.code yX2_makeWay cX2_makeWay 1 none, Cond.methodLink RX2 217 yX2_isOneReadyAbove, Cond.instanceMethod yX2_isOneReadyAbove, Cond.selects RX2 yX2_isOneReadyAbove yX2_isOneReadyAbove, Cond.code yX2_isOneReadyAbove cX2_isOneReadyAbove 3 (some .boolean), Cond.instanceMethod yX0_addFirst, Cond.selects RX0 yX0_addFirst yX0_addFirst, Cond.code yX0_addFirst cX0_addFirst 3 none, Cond.methodLink RX2 176 yX2_switchToFirst, Cond.instanceMethod yX2_switchToFirst, Cond.selects RX2 yX2_switchToFirst yX2_switchToFirst, Cond.code yX2_switchToFirst cX2_switchToFirst 3 none, Cond.instanceMethod yX0_takeFirst, Cond.selects RX0 yX0_takeFirst yX0_takeFirst]
def wsL_run_r5 : List Cond := [Cond.code yX0_takeFirst cX0_takeFirst 3 (some .int), Cond.methodLink RX2 99 yX2_isTask, Cond.instanceMethod yX2_isTask, Cond.selects RX2 yX2_isTask yX2_isTask, Cond.code yX2_isTask cX2_isTask 2 (some .boolean), Cond.methodLink RX2 234 yX2_switchTo, Cond.instanceMethod yX2_switchTo, Cond.selects RX2 yX2_switchTo yX2_switchTo, Cond.code yX2_switchTo cX2_switchTo 2 none, Cond.fieldLink RX2 42 "FeedbackQueues" "switchCount" "I", Cond.fieldLink RX2 21 "FeedbackQueues" "switchesKept" "[I", Cond.instanceMethod yX1_beginRunning, Cond.selects RX1 yX1_beginRunning yX1_beginRunning, Cond.code yX1_beginRunning cX1_beginRunning 3 none, Cond.fieldLink RX1 40 "FeedbackQueues$Task" "keepsQuantum" "Z", Cond.fieldLink RX1 59 "FeedbackQueues$Task" "timesSwitchedTo" "I", Cond.fieldLink RX1 53 "FeedbackQueues$Task" "firstRun" "I", Cond.methodLink RX2 179 yX2_countWaiting, Cond.instanceMethod yX2_countWaiting, Cond.selects RX2 yX2_countWaiting yX2_countWaiting, Cond.code yX2_countWaiting cX2_countWaiting 3 none, Cond.methodLink RX2 182 yX2_useTick, Cond.instanceMethod yX2_useTick, Cond.selects RX2 yX2_useTick yX2_useTick]
def wsL_run_r6 : List Cond := [Cond.code yX2_useTick cX2_useTick 2 none, Cond.methodLink RX2 243 yX2_blockOrEnd, Cond.instanceMethod yX2_blockOrEnd, Cond.selects RX2 yX2_blockOrEnd yX2_blockOrEnd, Cond.code yX2_blockOrEnd cX2_blockOrEnd 2 none, Cond.methodLink RX2 246 yX2_sendDown, Cond.instanceMethod yX2_sendDown, Cond.selects RX2 yX2_sendDown yX2_sendDown, Cond.code yX2_sendDown cX2_sendDown 2 none]
def wsL_run : List Cond := .codeWith yL_run cL_run 4 (some .int) [(0, 9, 12, 13)] :: ((wsL_run_r1 ++ (wsL_run_r2 ++ (wsL_run_r3 ++ (wsL_run_r4 ++ (wsL_run_r5 ++ wsL_run_r6))))) ++ wsX20 ++ wsX10 ++ wsX00 ++ (vx_atS RX2 62 "java/lang/IllegalArgumentException" ["java/lang/RuntimeException", "java/lang/Exception"]).filter goodWord)
def wsL_told : List Cond := .codeWith yL_told cL_told 5 (some .int) [(0, 10, 13, 19), (0, 10, 17, 13)] :: ([.classLink RL 19 "java/lang/IndexOutOfBoundsException", .classLink RL 13 "java/lang/IllegalArgumentException", .methodLink RL 37 yX2_told, .instanceMethod yX2_told, .selects RX2 yX2_told yX2_told, .initialized RX2, .code yX2_told cX2_told 4 (some .int), .classLink RX2 78 "java/lang/IndexOutOfBoundsException", .initialized "java/lang/IndexOutOfBoundsException", .classLink RX2 58 "java/lang/IllegalArgumentException", .initialized "java/lang/IllegalArgumentException", .fieldLink RX2 17 "FeedbackQueues" "tasks" "[LFeedbackQueues$Task;", .methodLink RX2 99 yX2_isTask, .instanceMethod yX2_isTask, .selects RX2 yX2_isTask yX2_isTask, .code yX2_isTask cX2_isTask 2 (some .boolean), .fieldLink RX2 29 "FeedbackQueues" "taskCount" "I"] ++ wsX20 ++ wsX10 ++ (vx_atS RX2 82 "java/lang/IndexOutOfBoundsException" ["java/lang/RuntimeException", "java/lang/Exception"]).filter goodWord ++ (vx_atS RX2 62 "java/lang/IllegalArgumentException" ["java/lang/RuntimeException", "java/lang/Exception"]).filter goodWord)
def wsL_queued : List Cond := .codeWith yL_queued cL_queued 5 (some .int) [(0, 10, 13, 19)] :: ([.classLink RL 19 "java/lang/IndexOutOfBoundsException", .methodLink RL 40 yX2_queued, .instanceMethod yX2_queued, .selects RX2 yX2_queued yX2_queued, .initialized RX2, .code yX2_queued cX2_queued 3 (some .int), .classLink RX2 78 "java/lang/IndexOutOfBoundsException", .initialized "java/lang/IndexOutOfBoundsException", .fieldLink RX2 11 "FeedbackQueues" "levelRows" "[LFeedbackQueues$Level;", .methodLink RX2 74 yX2_isLevel, .instanceMethod yX2_isLevel, .selects RX2 yX2_isLevel yX2_isLevel, .code yX2_isLevel cX2_isLevel 2 (some .boolean), .fieldLink RX2 25 "FeedbackQueues" "levelCount" "I", .instanceMethod yX0_at, .initialized RX0, .selects RX0 yX0_at yX0_at, .code yX0_at cX0_at 2 (some .int), .fieldLink RX0 22 "FeedbackQueues$Level" "size" "I", .fieldLink RX0 18 "FeedbackQueues$Level" "queue" "[I"] ++ wsX20 ++ wsX00 ++ (vx_atS RX2 82 "java/lang/IndexOutOfBoundsException" ["java/lang/RuntimeException", "java/lang/Exception"]).filter goodWord)
def wsL_all : List Cond := .codeWith yL_all cL_all 4 (some .int) [(0, 9, 12, 13)] :: ([.classLink RL 13 "java/lang/IllegalArgumentException", .methodLink RL 43 yX2_all, .instanceMethod yX2_all, .selects RX2 yX2_all yX2_all, .initialized RX2, .code yX2_all cX2_all 2 (some .int), .classLink RX2 58 "java/lang/IllegalArgumentException", .initialized "java/lang/IllegalArgumentException", .fieldLink RX2 42 "FeedbackQueues" "switchCount" "I", .fieldLink RX2 45 "FeedbackQueues" "idleCount" "I", .fieldLink RX2 48 "FeedbackQueues" "comeUpCount" "I", .fieldLink RX2 51 "FeedbackQueues" "endedCount" "I"] ++ wsX20 ++ (vx_atS RX2 62 "java/lang/IllegalArgumentException" ["java/lang/RuntimeException", "java/lang/Exception"]).filter goodWord)
def wsL_switched : List Cond := .codeWith yL_switched cL_switched 4 (some .int) [(0, 9, 12, 19)] :: ([.classLink RL 19 "java/lang/IndexOutOfBoundsException", .methodLink RL 46 yX2_switched, .instanceMethod yX2_switched, .selects RX2 yX2_switched yX2_switched, .initialized RX2, .code yX2_switched cX2_switched 2 (some .int), .classLink RX2 78 "java/lang/IndexOutOfBoundsException", .initialized "java/lang/IndexOutOfBoundsException", .fieldLink RX2 42 "FeedbackQueues" "switchCount" "I", .fieldLink RX2 21 "FeedbackQueues" "switchesKept" "[I"] ++ wsX20 ++ (vx_atS RX2 82 "java/lang/IndexOutOfBoundsException" ["java/lang/RuntimeException", "java/lang/Exception"]).filter goodWord)
end
section
theorem inJ9 : ∀ w ∈ wsJ90, w ∈ lw_tbl := by decide +kernel
theorem inJ0 : ∀ w ∈ wsJ00, w ∈ lw_tbl := by decide +kernel
theorem dX0_init_0 : decode cX0_init 0 = .ok (.aload_n 0, 1) := by decide +kernel
theorem dX0_init_1 : decode cX0_init 1 = .ok (.invokespecial 3, 3) := by decide +kernel
theorem dX0_init_4 : decode cX0_init 4 = .ok (.aload_n 0, 1) := by decide +kernel
theorem dX0_init_5 : decode cX0_init 5 = .ok (.iconst 1, 1) := by decide +kernel
theorem dX0_init_6 : decode cX0_init 6 = .ok (.putfield 9, 3) := by decide +kernel
theorem dX0_init_9 : decode cX0_init 9 = .ok (.aload_n 0, 1) := by decide +kernel
theorem dX0_init_10 : decode cX0_init 10 = .ok (.iconst 1, 1) := by decide +kernel
theorem dX0_init_11 : decode cX0_init 11 = .ok (.putfield 15, 3) := by decide +kernel
theorem dX0_init_14 : decode cX0_init 14 = .ok (.aload_n 0, 1) := by decide +kernel
theorem dX0_init_15 : decode cX0_init 15 = .ok (.bipush 16, 2) := by decide +kernel
theorem dX0_init_17 : decode cX0_init 17 = .ok (.newarray .int, 2) := by decide +kernel
theorem dX0_init_19 : decode cX0_init 19 = .ok (.putfield 18, 3) := by decide +kernel
theorem dX0_init_22 : decode cX0_init 22 = .ok (.aload_n 0, 1) := by decide +kernel
theorem dX0_init_23 : decode cX0_init 23 = .ok (.iconst 0, 1) := by decide +kernel
theorem dX0_init_24 : decode cX0_init 24 = .ok (.putfield 22, 3) := by decide +kernel
theorem dX0_init_27 : decode cX0_init 27 = .ok (.return_, 1) := by decide +kernel
theorem dX0_clear_0 : decode cX0_clear 0 = .ok (.aload_n 0, 1) := by decide +kernel
theorem dX0_clear_1 : decode cX0_clear 1 = .ok (.iconst 0, 1) := by decide +kernel
theorem dX0_clear_2 : decode cX0_clear 2 = .ok (.putfield 22, 3) := by decide +kernel
theorem dX0_clear_5 : decode cX0_clear 5 = .ok (.return_, 1) := by decide +kernel
theorem dX0_at_0 : decode cX0_at 0 = .ok (.iload_n 1, 1) := by decide +kernel
theorem dX0_at_1 : decode cX0_at 1 = .ok (.ifCond .lt 20, 3) := by decide +kernel
theorem dX0_at_4 : decode cX0_at 4 = .ok (.iload_n 1, 1) := by decide +kernel
theorem dX0_at_5 : decode cX0_at 5 = .ok (.aload_n 0, 1) := by decide +kernel
theorem dX0_at_6 : decode cX0_at 6 = .ok (.getfield 22, 3) := by decide +kernel
theorem dX0_at_9 : decode cX0_at 9 = .ok (.if_icmp .ge 12, 3) := by decide +kernel
theorem dX0_at_12 : decode cX0_at 12 = .ok (.aload_n 0, 1) := by decide +kernel
theorem dX0_at_13 : decode cX0_at 13 = .ok (.getfield 18, 3) := by decide +kernel
theorem dX0_at_16 : decode cX0_at 16 = .ok (.iload_n 1, 1) := by decide +kernel
theorem dX0_at_17 : decode cX0_at 17 = .ok (.iaload, 1) := by decide +kernel
theorem dX0_at_18 : decode cX0_at 18 = .ok (.goto 4, 3) := by decide +kernel
theorem dX0_at_21 : decode cX0_at 21 = .ok (.iconst (-1), 1) := by decide +kernel
theorem dX0_at_22 : decode cX0_at 22 = .ok (.ireturn, 1) := by decide +kernel
theorem dX0_addLast_0 : decode cX0_addLast 0 = .ok (.aload_n 0, 1) := by decide +kernel
theorem dX0_addLast_1 : decode cX0_addLast 1 = .ok (.getfield 22, 3) := by decide +kernel
theorem dX0_addLast_4 : decode cX0_addLast 4 = .ok (.bipush 16, 2) := by decide +kernel
theorem dX0_addLast_6 : decode cX0_addLast 6 = .ok (.if_icmp .ge 23, 3) := by decide +kernel
theorem dX0_addLast_9 : decode cX0_addLast 9 = .ok (.aload_n 0, 1) := by decide +kernel
theorem dX0_addLast_10 : decode cX0_addLast 10 = .ok (.getfield 18, 3) := by decide +kernel
theorem dX0_addLast_13 : decode cX0_addLast 13 = .ok (.aload_n 0, 1) := by decide +kernel
theorem dX0_addLast_14 : decode cX0_addLast 14 = .ok (.getfield 22, 3) := by decide +kernel
theorem dX0_addLast_17 : decode cX0_addLast 17 = .ok (.iload_n 1, 1) := by decide +kernel
theorem dX0_addLast_18 : decode cX0_addLast 18 = .ok (.iastore, 1) := by decide +kernel
theorem dX0_addLast_19 : decode cX0_addLast 19 = .ok (.aload_n 0, 1) := by decide +kernel
theorem dX0_addLast_20 : decode cX0_addLast 20 = .ok (.dup, 1) := by decide +kernel
theorem dX0_addLast_21 : decode cX0_addLast 21 = .ok (.getfield 22, 3) := by decide +kernel
theorem dX0_addLast_24 : decode cX0_addLast 24 = .ok (.iconst 1, 1) := by decide +kernel
theorem dX0_addLast_25 : decode cX0_addLast 25 = .ok (.iadd, 1) := by decide +kernel
theorem dX0_addLast_26 : decode cX0_addLast 26 = .ok (.putfield 22, 3) := by decide +kernel
theorem dX0_addLast_29 : decode cX0_addLast 29 = .ok (.return_, 1) := by decide +kernel
theorem dX0_addFirst_0 : decode cX0_addFirst 0 = .ok (.aload_n 0, 1) := by decide +kernel
theorem dX0_addFirst_1 : decode cX0_addFirst 1 = .ok (.getfield 22, 3) := by decide +kernel
theorem dX0_addFirst_4 : decode cX0_addFirst 4 = .ok (.bipush 16, 2) := by decide +kernel
theorem dX0_addFirst_6 : decode cX0_addFirst 6 = .ok (.if_icmp .ge 49, 3) := by decide +kernel
theorem dX0_addFirst_9 : decode cX0_addFirst 9 = .ok (.aload_n 0, 1) := by decide +kernel
theorem dX0_addFirst_10 : decode cX0_addFirst 10 = .ok (.getfield 22, 3) := by decide +kernel
theorem dX0_addFirst_13 : decode cX0_addFirst 13 = .ok (.istore_n 2, 1) := by decide +kernel
theorem dX0_addFirst_14 : decode cX0_addFirst 14 = .ok (.iload_n 2, 1) := by decide +kernel
theorem dX0_addFirst_15 : decode cX0_addFirst 15 = .ok (.ifCond .le 23, 3) := by decide +kernel
theorem dX0_addFirst_18 : decode cX0_addFirst 18 = .ok (.aload_n 0, 1) := by decide +kernel
theorem dX0_addFirst_19 : decode cX0_addFirst 19 = .ok (.getfield 18, 3) := by decide +kernel
theorem dX0_addFirst_22 : decode cX0_addFirst 22 = .ok (.iload_n 2, 1) := by decide +kernel
theorem dX0_addFirst_23 : decode cX0_addFirst 23 = .ok (.aload_n 0, 1) := by decide +kernel
theorem dX0_addFirst_24 : decode cX0_addFirst 24 = .ok (.getfield 18, 3) := by decide +kernel
theorem dX0_addFirst_27 : decode cX0_addFirst 27 = .ok (.iload_n 2, 1) := by decide +kernel
theorem dX0_addFirst_28 : decode cX0_addFirst 28 = .ok (.iconst 1, 1) := by decide +kernel
theorem dX0_addFirst_29 : decode cX0_addFirst 29 = .ok (.isub, 1) := by decide +kernel
theorem dX0_addFirst_30 : decode cX0_addFirst 30 = .ok (.iaload, 1) := by decide +kernel
theorem dX0_addFirst_31 : decode cX0_addFirst 31 = .ok (.iastore, 1) := by decide +kernel
theorem dX0_addFirst_32 : decode cX0_addFirst 32 = .ok (.iinc 2 (-1), 3) := by decide +kernel
theorem dX0_addFirst_35 : decode cX0_addFirst 35 = .ok (.goto (-21), 3) := by decide +kernel
theorem dX0_addFirst_38 : decode cX0_addFirst 38 = .ok (.aload_n 0, 1) := by decide +kernel
theorem dX0_addFirst_39 : decode cX0_addFirst 39 = .ok (.getfield 18, 3) := by decide +kernel
theorem dX0_addFirst_42 : decode cX0_addFirst 42 = .ok (.iconst 0, 1) := by decide +kernel
theorem dX0_addFirst_43 : decode cX0_addFirst 43 = .ok (.iload_n 1, 1) := by decide +kernel
theorem dX0_addFirst_44 : decode cX0_addFirst 44 = .ok (.iastore, 1) := by decide +kernel
theorem dX0_addFirst_45 : decode cX0_addFirst 45 = .ok (.aload_n 0, 1) := by decide +kernel
theorem dX0_addFirst_46 : decode cX0_addFirst 46 = .ok (.dup, 1) := by decide +kernel
theorem dX0_addFirst_47 : decode cX0_addFirst 47 = .ok (.getfield 22, 3) := by decide +kernel
theorem dX0_addFirst_50 : decode cX0_addFirst 50 = .ok (.iconst 1, 1) := by decide +kernel
theorem dX0_addFirst_51 : decode cX0_addFirst 51 = .ok (.iadd, 1) := by decide +kernel
theorem dX0_addFirst_52 : decode cX0_addFirst 52 = .ok (.putfield 22, 3) := by decide +kernel
theorem dX0_addFirst_55 : decode cX0_addFirst 55 = .ok (.return_, 1) := by decide +kernel
theorem dX0_takeFirst_0 : decode cX0_takeFirst 0 = .ok (.aload_n 0, 1) := by decide +kernel
theorem dX0_takeFirst_1 : decode cX0_takeFirst 1 = .ok (.getfield 22, 3) := by decide +kernel
theorem dX0_takeFirst_4 : decode cX0_takeFirst 4 = .ok (.ifCond .ne 5, 3) := by decide +kernel
theorem dX0_takeFirst_7 : decode cX0_takeFirst 7 = .ok (.iconst (-1), 1) := by decide +kernel
theorem dX0_takeFirst_8 : decode cX0_takeFirst 8 = .ok (.ireturn, 1) := by decide +kernel
theorem dX0_takeFirst_9 : decode cX0_takeFirst 9 = .ok (.aload_n 0, 1) := by decide +kernel
theorem dX0_takeFirst_10 : decode cX0_takeFirst 10 = .ok (.getfield 18, 3) := by decide +kernel
theorem dX0_takeFirst_13 : decode cX0_takeFirst 13 = .ok (.iconst 0, 1) := by decide +kernel
theorem dX0_takeFirst_14 : decode cX0_takeFirst 14 = .ok (.iaload, 1) := by decide +kernel
theorem dX0_takeFirst_15 : decode cX0_takeFirst 15 = .ok (.istore_n 1, 1) := by decide +kernel
theorem dX0_takeFirst_16 : decode cX0_takeFirst 16 = .ok (.aload_n 0, 1) := by decide +kernel
theorem dX0_takeFirst_17 : decode cX0_takeFirst 17 = .ok (.dup, 1) := by decide +kernel
theorem dX0_takeFirst_18 : decode cX0_takeFirst 18 = .ok (.getfield 22, 3) := by decide +kernel
theorem dX0_takeFirst_21 : decode cX0_takeFirst 21 = .ok (.iconst 1, 1) := by decide +kernel
theorem dX0_takeFirst_22 : decode cX0_takeFirst 22 = .ok (.isub, 1) := by decide +kernel
theorem dX0_takeFirst_23 : decode cX0_takeFirst 23 = .ok (.putfield 22, 3) := by decide +kernel
theorem dX0_takeFirst_26 : decode cX0_takeFirst 26 = .ok (.iconst 0, 1) := by decide +kernel
theorem dX0_takeFirst_27 : decode cX0_takeFirst 27 = .ok (.istore_n 2, 1) := by decide +kernel
theorem dX0_takeFirst_28 : decode cX0_takeFirst 28 = .ok (.iload_n 2, 1) := by decide +kernel
theorem dX0_takeFirst_29 : decode cX0_takeFirst 29 = .ok (.aload_n 0, 1) := by decide +kernel
theorem dX0_takeFirst_30 : decode cX0_takeFirst 30 = .ok (.getfield 22, 3) := by decide +kernel
theorem dX0_takeFirst_33 : decode cX0_takeFirst 33 = .ok (.if_icmp .ge 23, 3) := by decide +kernel
theorem dX0_takeFirst_36 : decode cX0_takeFirst 36 = .ok (.aload_n 0, 1) := by decide +kernel
theorem dX0_takeFirst_37 : decode cX0_takeFirst 37 = .ok (.getfield 18, 3) := by decide +kernel
theorem dX0_takeFirst_40 : decode cX0_takeFirst 40 = .ok (.iload_n 2, 1) := by decide +kernel
theorem dX0_takeFirst_41 : decode cX0_takeFirst 41 = .ok (.aload_n 0, 1) := by decide +kernel
theorem dX0_takeFirst_42 : decode cX0_takeFirst 42 = .ok (.getfield 18, 3) := by decide +kernel
theorem dX0_takeFirst_45 : decode cX0_takeFirst 45 = .ok (.iload_n 2, 1) := by decide +kernel
theorem dX0_takeFirst_46 : decode cX0_takeFirst 46 = .ok (.iconst 1, 1) := by decide +kernel
theorem dX0_takeFirst_47 : decode cX0_takeFirst 47 = .ok (.iadd, 1) := by decide +kernel
theorem dX0_takeFirst_48 : decode cX0_takeFirst 48 = .ok (.iaload, 1) := by decide +kernel
theorem dX0_takeFirst_49 : decode cX0_takeFirst 49 = .ok (.iastore, 1) := by decide +kernel
theorem dX0_takeFirst_50 : decode cX0_takeFirst 50 = .ok (.iinc 2 1, 3) := by decide +kernel
theorem dX0_takeFirst_53 : decode cX0_takeFirst 53 = .ok (.goto (-25), 3) := by decide +kernel
theorem dX0_takeFirst_56 : decode cX0_takeFirst 56 = .ok (.iload_n 1, 1) := by decide +kernel
theorem dX0_takeFirst_57 : decode cX0_takeFirst 57 = .ok (.ireturn, 1) := by decide +kernel
set_option maxRecDepth 20000 in
theorem ggX0_addAllOf_X0_addLast : GoodIn wsX0_addAllOf wsX0_addLast := goodIn_r _ [7, 1, 2, 8, 9, 10, 11] (by decide +kernel) (by decide +kernel)
set_option maxRecDepth 20000 in
theorem gX0_addAllOf_X0_addLast : GoodIn wsX0_addAllOf (wsV RX0 25 RX0 yX0_addLast wsX0_addLast) := goodIn_app (goodIn_of _ (by decide +kernel)) ggX0_addAllOf_X0_addLast
theorem dX0_addAllOf_0 : decode cX0_addAllOf 0 = .ok (.iconst 0, 1) := by decide +kernel
theorem dX0_addAllOf_1 : decode cX0_addAllOf 1 = .ok (.istore_n 2, 1) := by decide +kernel
theorem dX0_addAllOf_2 : decode cX0_addAllOf 2 = .ok (.iload_n 2, 1) := by decide +kernel
theorem dX0_addAllOf_3 : decode cX0_addAllOf 3 = .ok (.aload_n 1, 1) := by decide +kernel
theorem dX0_addAllOf_4 : decode cX0_addAllOf 4 = .ok (.getfield 22, 3) := by decide +kernel
theorem dX0_addAllOf_7 : decode cX0_addAllOf 7 = .ok (.if_icmp .ge 19, 3) := by decide +kernel
theorem dX0_addAllOf_10 : decode cX0_addAllOf 10 = .ok (.aload_n 0, 1) := by decide +kernel
theorem dX0_addAllOf_11 : decode cX0_addAllOf 11 = .ok (.aload_n 1, 1) := by decide +kernel
theorem dX0_addAllOf_12 : decode cX0_addAllOf 12 = .ok (.getfield 18, 3) := by decide +kernel
theorem dX0_addAllOf_15 : decode cX0_addAllOf 15 = .ok (.iload_n 2, 1) := by decide +kernel
theorem dX0_addAllOf_16 : decode cX0_addAllOf 16 = .ok (.iaload, 1) := by decide +kernel
theorem dX0_addAllOf_17 : decode cX0_addAllOf 17 = .ok (.invokevirtual 25, 3) := by decide +kernel
theorem dX0_addAllOf_20 : decode cX0_addAllOf 20 = .ok (.iinc 2 1, 3) := by decide +kernel
theorem dX0_addAllOf_23 : decode cX0_addAllOf 23 = .ok (.goto (-21), 3) := by decide +kernel
theorem dX0_addAllOf_26 : decode cX0_addAllOf 26 = .ok (.return_, 1) := by decide +kernel
theorem dX1_init_0 : decode cX1_init 0 = .ok (.aload_n 0, 1) := by decide +kernel
theorem dX1_init_1 : decode cX1_init 1 = .ok (.invokespecial 3, 3) := by decide +kernel
theorem dX1_init_4 : decode cX1_init 4 = .ok (.aload_n 0, 1) := by decide +kernel
theorem dX1_init_5 : decode cX1_init 5 = .ok (.iconst 0, 1) := by decide +kernel
theorem dX1_init_6 : decode cX1_init 6 = .ok (.putfield 9, 3) := by decide +kernel
theorem dX1_init_9 : decode cX1_init 9 = .ok (.aload_n 0, 1) := by decide +kernel
theorem dX1_init_10 : decode cX1_init 10 = .ok (.bipush 12, 2) := by decide +kernel
theorem dX1_init_12 : decode cX1_init 12 = .ok (.newarray .int, 2) := by decide +kernel
theorem dX1_init_14 : decode cX1_init 14 = .ok (.putfield 15, 3) := by decide +kernel
theorem dX1_init_17 : decode cX1_init 17 = .ok (.aload_n 0, 1) := by decide +kernel
theorem dX1_init_18 : decode cX1_init 18 = .ok (.iconst 0, 1) := by decide +kernel
theorem dX1_init_19 : decode cX1_init 19 = .ok (.putfield 19, 3) := by decide +kernel
theorem dX1_init_22 : decode cX1_init 22 = .ok (.aload_n 0, 1) := by decide +kernel
theorem dX1_init_23 : decode cX1_init 23 = .ok (.iconst 0, 1) := by decide +kernel
theorem dX1_init_24 : decode cX1_init 24 = .ok (.putfield 22, 3) := by decide +kernel
theorem dX1_init_27 : decode cX1_init 27 = .ok (.aload_n 0, 1) := by decide +kernel
theorem dX1_init_28 : decode cX1_init 28 = .ok (.iconst 0, 1) := by decide +kernel
theorem dX1_init_29 : decode cX1_init 29 = .ok (.putfield 25, 3) := by decide +kernel
theorem dX1_init_32 : decode cX1_init 32 = .ok (.aload_n 0, 1) := by decide +kernel
theorem dX1_init_33 : decode cX1_init 33 = .ok (.iconst 0, 1) := by decide +kernel
theorem dX1_init_34 : decode cX1_init 34 = .ok (.putfield 28, 3) := by decide +kernel
theorem dX1_init_37 : decode cX1_init 37 = .ok (.aload_n 0, 1) := by decide +kernel
theorem dX1_init_38 : decode cX1_init 38 = .ok (.iconst 0, 1) := by decide +kernel
theorem dX1_init_39 : decode cX1_init 39 = .ok (.putfield 31, 3) := by decide +kernel
theorem dX1_init_42 : decode cX1_init 42 = .ok (.aload_n 0, 1) := by decide +kernel
theorem dX1_init_43 : decode cX1_init 43 = .ok (.iconst 0, 1) := by decide +kernel
theorem dX1_init_44 : decode cX1_init 44 = .ok (.putfield 34, 3) := by decide +kernel
theorem dX1_init_47 : decode cX1_init 47 = .ok (.aload_n 0, 1) := by decide +kernel
theorem dX1_init_48 : decode cX1_init 48 = .ok (.iconst 0, 1) := by decide +kernel
theorem dX1_init_49 : decode cX1_init 49 = .ok (.putfield 37, 3) := by decide +kernel
theorem dX1_init_52 : decode cX1_init 52 = .ok (.aload_n 0, 1) := by decide +kernel
theorem dX1_init_53 : decode cX1_init 53 = .ok (.iconst 0, 1) := by decide +kernel
theorem dX1_init_54 : decode cX1_init 54 = .ok (.putfield 40, 3) := by decide +kernel
theorem dX1_init_57 : decode cX1_init 57 = .ok (.aload_n 0, 1) := by decide +kernel
theorem dX1_init_58 : decode cX1_init 58 = .ok (.iconst 0, 1) := by decide +kernel
theorem dX1_init_59 : decode cX1_init 59 = .ok (.putfield 44, 3) := by decide +kernel
theorem dX1_init_62 : decode cX1_init 62 = .ok (.aload_n 0, 1) := by decide +kernel
theorem dX1_init_63 : decode cX1_init 63 = .ok (.iconst 0, 1) := by decide +kernel
theorem dX1_init_64 : decode cX1_init 64 = .ok (.putfield 47, 3) := by decide +kernel
theorem dX1_init_67 : decode cX1_init 67 = .ok (.aload_n 0, 1) := by decide +kernel
theorem dX1_init_68 : decode cX1_init 68 = .ok (.iconst 0, 1) := by decide +kernel
theorem dX1_init_69 : decode cX1_init 69 = .ok (.putfield 50, 3) := by decide +kernel
theorem dX1_init_72 : decode cX1_init 72 = .ok (.aload_n 0, 1) := by decide +kernel
theorem dX1_init_73 : decode cX1_init 73 = .ok (.iconst (-1), 1) := by decide +kernel
theorem dX1_init_74 : decode cX1_init 74 = .ok (.putfield 53, 3) := by decide +kernel
theorem dX1_init_77 : decode cX1_init 77 = .ok (.aload_n 0, 1) := by decide +kernel
theorem dX1_init_78 : decode cX1_init 78 = .ok (.iconst (-1), 1) := by decide +kernel
theorem dX1_init_79 : decode cX1_init 79 = .ok (.putfield 56, 3) := by decide +kernel
theorem dX1_init_82 : decode cX1_init 82 = .ok (.aload_n 0, 1) := by decide +kernel
theorem dX1_init_83 : decode cX1_init 83 = .ok (.iconst 0, 1) := by decide +kernel
theorem dX1_init_84 : decode cX1_init 84 = .ok (.putfield 59, 3) := by decide +kernel
theorem dX1_init_87 : decode cX1_init 87 = .ok (.aload_n 0, 1) := by decide +kernel
theorem dX1_init_88 : decode cX1_init 88 = .ok (.iconst 0, 1) := by decide +kernel
theorem dX1_init_89 : decode cX1_init 89 = .ok (.putfield 62, 3) := by decide +kernel
theorem dX1_init_92 : decode cX1_init 92 = .ok (.aload_n 0, 1) := by decide +kernel
theorem dX1_init_93 : decode cX1_init 93 = .ok (.iconst 0, 1) := by decide +kernel
theorem dX1_init_94 : decode cX1_init 94 = .ok (.putfield 65, 3) := by decide +kernel
theorem dX1_init_97 : decode cX1_init 97 = .ok (.aload_n 0, 1) := by decide +kernel
theorem dX1_init_98 : decode cX1_init 98 = .ok (.iload_n 1, 1) := by decide +kernel
theorem dX1_init_99 : decode cX1_init 99 = .ok (.putfield 68, 3) := by decide +kernel
theorem dX1_init_102 : decode cX1_init 102 = .ok (.return_, 1) := by decide +kernel
theorem dX1_startOver_0 : decode cX1_startOver 0 = .ok (.aload_n 0, 1) := by decide +kernel
theorem dX1_startOver_1 : decode cX1_startOver 1 = .ok (.iconst 0, 1) := by decide +kernel
theorem dX1_startOver_2 : decode cX1_startOver 2 = .ok (.putfield 22, 3) := by decide +kernel
theorem dX1_startOver_5 : decode cX1_startOver 5 = .ok (.aload_n 0, 1) := by decide +kernel
theorem dX1_startOver_6 : decode cX1_startOver 6 = .ok (.iconst 0, 1) := by decide +kernel
theorem dX1_startOver_7 : decode cX1_startOver 7 = .ok (.putfield 25, 3) := by decide +kernel
theorem dX1_startOver_10 : decode cX1_startOver 10 = .ok (.aload_n 0, 1) := by decide +kernel
theorem dX1_startOver_11 : decode cX1_startOver 11 = .ok (.iconst 0, 1) := by decide +kernel
theorem dX1_startOver_12 : decode cX1_startOver 12 = .ok (.putfield 28, 3) := by decide +kernel
theorem dX1_startOver_15 : decode cX1_startOver 15 = .ok (.aload_n 0, 1) := by decide +kernel
theorem dX1_startOver_16 : decode cX1_startOver 16 = .ok (.iconst 0, 1) := by decide +kernel
theorem dX1_startOver_17 : decode cX1_startOver 17 = .ok (.putfield 31, 3) := by decide +kernel
theorem dX1_startOver_20 : decode cX1_startOver 20 = .ok (.aload_n 0, 1) := by decide +kernel
theorem dX1_startOver_21 : decode cX1_startOver 21 = .ok (.iconst 0, 1) := by decide +kernel
theorem dX1_startOver_22 : decode cX1_startOver 22 = .ok (.putfield 34, 3) := by decide +kernel
theorem dX1_startOver_25 : decode cX1_startOver 25 = .ok (.aload_n 0, 1) := by decide +kernel
theorem dX1_startOver_26 : decode cX1_startOver 26 = .ok (.iconst 0, 1) := by decide +kernel
theorem dX1_startOver_27 : decode cX1_startOver 27 = .ok (.putfield 37, 3) := by decide +kernel
theorem dX1_startOver_30 : decode cX1_startOver 30 = .ok (.aload_n 0, 1) := by decide +kernel
theorem dX1_startOver_31 : decode cX1_startOver 31 = .ok (.iconst 0, 1) := by decide +kernel
theorem dX1_startOver_32 : decode cX1_startOver 32 = .ok (.putfield 40, 3) := by decide +kernel
theorem dX1_startOver_35 : decode cX1_startOver 35 = .ok (.aload_n 0, 1) := by decide +kernel
theorem dX1_startOver_36 : decode cX1_startOver 36 = .ok (.iconst 0, 1) := by decide +kernel
theorem dX1_startOver_37 : decode cX1_startOver 37 = .ok (.putfield 44, 3) := by decide +kernel
theorem dX1_startOver_40 : decode cX1_startOver 40 = .ok (.aload_n 0, 1) := by decide +kernel
theorem dX1_startOver_41 : decode cX1_startOver 41 = .ok (.iconst 0, 1) := by decide +kernel
theorem dX1_startOver_42 : decode cX1_startOver 42 = .ok (.putfield 47, 3) := by decide +kernel
theorem dX1_startOver_45 : decode cX1_startOver 45 = .ok (.aload_n 0, 1) := by decide +kernel
theorem dX1_startOver_46 : decode cX1_startOver 46 = .ok (.iconst 0, 1) := by decide +kernel
theorem dX1_startOver_47 : decode cX1_startOver 47 = .ok (.putfield 50, 3) := by decide +kernel
theorem dX1_startOver_50 : decode cX1_startOver 50 = .ok (.aload_n 0, 1) := by decide +kernel
theorem dX1_startOver_51 : decode cX1_startOver 51 = .ok (.iconst (-1), 1) := by decide +kernel
theorem dX1_startOver_52 : decode cX1_startOver 52 = .ok (.putfield 53, 3) := by decide +kernel
theorem dX1_startOver_55 : decode cX1_startOver 55 = .ok (.aload_n 0, 1) := by decide +kernel
theorem dX1_startOver_56 : decode cX1_startOver 56 = .ok (.iconst (-1), 1) := by decide +kernel
theorem dX1_startOver_57 : decode cX1_startOver 57 = .ok (.putfield 56, 3) := by decide +kernel
theorem dX1_startOver_60 : decode cX1_startOver 60 = .ok (.aload_n 0, 1) := by decide +kernel
theorem dX1_startOver_61 : decode cX1_startOver 61 = .ok (.iconst 0, 1) := by decide +kernel
theorem dX1_startOver_62 : decode cX1_startOver 62 = .ok (.putfield 59, 3) := by decide +kernel
theorem dX1_startOver_65 : decode cX1_startOver 65 = .ok (.aload_n 0, 1) := by decide +kernel
theorem dX1_startOver_66 : decode cX1_startOver 66 = .ok (.iconst 0, 1) := by decide +kernel
theorem dX1_startOver_67 : decode cX1_startOver 67 = .ok (.putfield 62, 3) := by decide +kernel
theorem dX1_startOver_70 : decode cX1_startOver 70 = .ok (.aload_n 0, 1) := by decide +kernel
theorem dX1_startOver_71 : decode cX1_startOver 71 = .ok (.iconst 0, 1) := by decide +kernel
theorem dX1_startOver_72 : decode cX1_startOver 72 = .ok (.putfield 65, 3) := by decide +kernel
theorem dX1_startOver_75 : decode cX1_startOver 75 = .ok (.return_, 1) := by decide +kernel
theorem dX1_tellArrival_0 : decode cX1_tellArrival 0 = .ok (.aload_n 0, 1) := by decide +kernel
theorem dX1_tellArrival_1 : decode cX1_tellArrival 1 = .ok (.iload_n 1, 1) := by decide +kernel
theorem dX1_tellArrival_2 : decode cX1_tellArrival 2 = .ok (.putfield 9, 3) := by decide +kernel
theorem dX1_tellArrival_5 : decode cX1_tellArrival 5 = .ok (.aload_n 0, 1) := by decide +kernel
theorem dX1_tellArrival_6 : decode cX1_tellArrival 6 = .ok (.iconst 0, 1) := by decide +kernel
theorem dX1_tellArrival_7 : decode cX1_tellArrival 7 = .ok (.putfield 19, 3) := by decide +kernel
theorem dX1_tellArrival_10 : decode cX1_tellArrival 10 = .ok (.return_, 1) := by decide +kernel
theorem dX1_tellBurst_0 : decode cX1_tellBurst 0 = .ok (.aload_n 0, 1) := by decide +kernel
theorem dX1_tellBurst_1 : decode cX1_tellBurst 1 = .ok (.getfield 19, 3) := by decide +kernel
theorem dX1_tellBurst_4 : decode cX1_tellBurst 4 = .ok (.bipush 12, 2) := by decide +kernel
theorem dX1_tellBurst_6 : decode cX1_tellBurst 6 = .ok (.if_icmp .lt 5, 3) := by decide +kernel
theorem dX1_tellBurst_9 : decode cX1_tellBurst 9 = .ok (.iconst (-1), 1) := by decide +kernel
theorem dX1_tellBurst_10 : decode cX1_tellBurst 10 = .ok (.ireturn, 1) := by decide +kernel
theorem dX1_tellBurst_11 : decode cX1_tellBurst 11 = .ok (.aload_n 0, 1) := by decide +kernel
theorem dX1_tellBurst_12 : decode cX1_tellBurst 12 = .ok (.getfield 15, 3) := by decide +kernel
theorem dX1_tellBurst_15 : decode cX1_tellBurst 15 = .ok (.aload_n 0, 1) := by decide +kernel
theorem dX1_tellBurst_16 : decode cX1_tellBurst 16 = .ok (.getfield 19, 3) := by decide +kernel
theorem dX1_tellBurst_19 : decode cX1_tellBurst 19 = .ok (.iload_n 1, 1) := by decide +kernel
theorem dX1_tellBurst_20 : decode cX1_tellBurst 20 = .ok (.iastore, 1) := by decide +kernel
theorem dX1_tellBurst_21 : decode cX1_tellBurst 21 = .ok (.aload_n 0, 1) := by decide +kernel
theorem dX1_tellBurst_22 : decode cX1_tellBurst 22 = .ok (.dup, 1) := by decide +kernel
theorem dX1_tellBurst_23 : decode cX1_tellBurst 23 = .ok (.getfield 19, 3) := by decide +kernel
theorem dX1_tellBurst_26 : decode cX1_tellBurst 26 = .ok (.iconst 1, 1) := by decide +kernel
theorem dX1_tellBurst_27 : decode cX1_tellBurst 27 = .ok (.iadd, 1) := by decide +kernel
theorem dX1_tellBurst_28 : decode cX1_tellBurst 28 = .ok (.putfield 19, 3) := by decide +kernel
theorem dX1_tellBurst_31 : decode cX1_tellBurst 31 = .ok (.aload_n 0, 1) := by decide +kernel
theorem dX1_tellBurst_32 : decode cX1_tellBurst 32 = .ok (.getfield 19, 3) := by decide +kernel
theorem dX1_tellBurst_35 : decode cX1_tellBurst 35 = .ok (.ireturn, 1) := by decide +kernel
theorem dX1_beginBurst_0 : decode cX1_beginBurst 0 = .ok (.aload_n 0, 1) := by decide +kernel
theorem dX1_beginBurst_1 : decode cX1_beginBurst 1 = .ok (.getfield 28, 3) := by decide +kernel
theorem dX1_beginBurst_4 : decode cX1_beginBurst 4 = .ok (.aload_n 0, 1) := by decide +kernel
theorem dX1_beginBurst_5 : decode cX1_beginBurst 5 = .ok (.getfield 19, 3) := by decide +kernel
theorem dX1_beginBurst_8 : decode cX1_beginBurst 8 = .ok (.if_icmp .lt 5, 3) := by decide +kernel
theorem dX1_beginBurst_11 : decode cX1_beginBurst 11 = .ok (.iconst 0, 1) := by decide +kernel
theorem dX1_beginBurst_12 : decode cX1_beginBurst 12 = .ok (.ireturn, 1) := by decide +kernel
theorem dX1_beginBurst_13 : decode cX1_beginBurst 13 = .ok (.aload_n 0, 1) := by decide +kernel
theorem dX1_beginBurst_14 : decode cX1_beginBurst 14 = .ok (.aload_n 0, 1) := by decide +kernel
theorem dX1_beginBurst_15 : decode cX1_beginBurst 15 = .ok (.getfield 15, 3) := by decide +kernel
theorem dX1_beginBurst_18 : decode cX1_beginBurst 18 = .ok (.aload_n 0, 1) := by decide +kernel
theorem dX1_beginBurst_19 : decode cX1_beginBurst 19 = .ok (.getfield 28, 3) := by decide +kernel
theorem dX1_beginBurst_22 : decode cX1_beginBurst 22 = .ok (.iaload, 1) := by decide +kernel
theorem dX1_beginBurst_23 : decode cX1_beginBurst 23 = .ok (.putfield 31, 3) := by decide +kernel
theorem dX1_beginBurst_26 : decode cX1_beginBurst 26 = .ok (.aload_n 0, 1) := by decide +kernel
theorem dX1_beginBurst_27 : decode cX1_beginBurst 27 = .ok (.dup, 1) := by decide +kernel
theorem dX1_beginBurst_28 : decode cX1_beginBurst 28 = .ok (.getfield 28, 3) := by decide +kernel
theorem dX1_beginBurst_31 : decode cX1_beginBurst 31 = .ok (.iconst 1, 1) := by decide +kernel
theorem dX1_beginBurst_32 : decode cX1_beginBurst 32 = .ok (.iadd, 1) := by decide +kernel
theorem dX1_beginBurst_33 : decode cX1_beginBurst 33 = .ok (.putfield 28, 3) := by decide +kernel
theorem dX1_beginBurst_36 : decode cX1_beginBurst 36 = .ok (.iconst 1, 1) := by decide +kernel
theorem dX1_beginBurst_37 : decode cX1_beginBurst 37 = .ok (.ireturn, 1) := by decide +kernel
theorem dX1_beginRunning_0 : decode cX1_beginRunning 0 = .ok (.aload_n 0, 1) := by decide +kernel
theorem dX1_beginRunning_1 : decode cX1_beginRunning 1 = .ok (.iconst 2, 1) := by decide +kernel
theorem dX1_beginRunning_2 : decode cX1_beginRunning 2 = .ok (.putfield 22, 3) := by decide +kernel
theorem dX1_beginRunning_5 : decode cX1_beginRunning 5 = .ok (.aload_n 0, 1) := by decide +kernel
theorem dX1_beginRunning_6 : decode cX1_beginRunning 6 = .ok (.getfield 40, 3) := by decide +kernel
theorem dX1_beginRunning_9 : decode cX1_beginRunning 9 = .ok (.ifCond .ne 8, 3) := by decide +kernel
theorem dX1_beginRunning_12 : decode cX1_beginRunning 12 = .ok (.aload_n 0, 1) := by decide +kernel
theorem dX1_beginRunning_13 : decode cX1_beginRunning 13 = .ok (.iload_n 2, 1) := by decide +kernel
theorem dX1_beginRunning_14 : decode cX1_beginRunning 14 = .ok (.putfield 34, 3) := by decide +kernel
theorem dX1_beginRunning_17 : decode cX1_beginRunning 17 = .ok (.aload_n 0, 1) := by decide +kernel
theorem dX1_beginRunning_18 : decode cX1_beginRunning 18 = .ok (.iconst 0, 1) := by decide +kernel
theorem dX1_beginRunning_19 : decode cX1_beginRunning 19 = .ok (.putfield 40, 3) := by decide +kernel
theorem dX1_beginRunning_22 : decode cX1_beginRunning 22 = .ok (.aload_n 0, 1) := by decide +kernel
theorem dX1_beginRunning_23 : decode cX1_beginRunning 23 = .ok (.dup, 1) := by decide +kernel
theorem dX1_beginRunning_24 : decode cX1_beginRunning 24 = .ok (.getfield 59, 3) := by decide +kernel
theorem dX1_beginRunning_27 : decode cX1_beginRunning 27 = .ok (.iconst 1, 1) := by decide +kernel
theorem dX1_beginRunning_28 : decode cX1_beginRunning 28 = .ok (.iadd, 1) := by decide +kernel
theorem dX1_beginRunning_29 : decode cX1_beginRunning 29 = .ok (.putfield 59, 3) := by decide +kernel
theorem dX1_beginRunning_32 : decode cX1_beginRunning 32 = .ok (.aload_n 0, 1) := by decide +kernel
theorem dX1_beginRunning_33 : decode cX1_beginRunning 33 = .ok (.getfield 53, 3) := by decide +kernel
theorem dX1_beginRunning_36 : decode cX1_beginRunning 36 = .ok (.iconst (-1), 1) := by decide +kernel
theorem dX1_beginRunning_37 : decode cX1_beginRunning 37 = .ok (.if_icmp .ne 8, 3) := by decide +kernel
theorem dX1_beginRunning_40 : decode cX1_beginRunning 40 = .ok (.aload_n 0, 1) := by decide +kernel
theorem dX1_beginRunning_41 : decode cX1_beginRunning 41 = .ok (.iload_n 1, 1) := by decide +kernel
theorem dX1_beginRunning_42 : decode cX1_beginRunning 42 = .ok (.putfield 53, 3) := by decide +kernel
theorem dX1_beginRunning_45 : decode cX1_beginRunning 45 = .ok (.return_, 1) := by decide +kernel
theorem dX1_comeUp_0 : decode cX1_comeUp 0 = .ok (.aload_n 0, 1) := by decide +kernel
theorem dX1_comeUp_1 : decode cX1_comeUp 1 = .ok (.iconst 0, 1) := by decide +kernel
theorem dX1_comeUp_2 : decode cX1_comeUp 2 = .ok (.putfield 25, 3) := by decide +kernel
theorem dX1_comeUp_5 : decode cX1_comeUp 5 = .ok (.aload_n 0, 1) := by decide +kernel
theorem dX1_comeUp_6 : decode cX1_comeUp 6 = .ok (.iload_n 2, 1) := by decide +kernel
theorem dX1_comeUp_7 : decode cX1_comeUp 7 = .ok (.putfield 37, 3) := by decide +kernel
theorem dX1_comeUp_10 : decode cX1_comeUp 10 = .ok (.aload_n 0, 1) := by decide +kernel
theorem dX1_comeUp_11 : decode cX1_comeUp 11 = .ok (.aload_n 0, 1) := by decide +kernel
theorem dX1_comeUp_12 : decode cX1_comeUp 12 = .ok (.getfield 22, 3) := by decide +kernel
theorem dX1_comeUp_15 : decode cX1_comeUp 15 = .ok (.iconst 2, 1) := by decide +kernel
theorem dX1_comeUp_16 : decode cX1_comeUp 16 = .ok (.if_icmp .ne 7, 3) := by decide +kernel
theorem dX1_comeUp_19 : decode cX1_comeUp 19 = .ok (.iload_n 1, 1) := by decide +kernel
theorem dX1_comeUp_20 : decode cX1_comeUp 20 = .ok (.goto 11, 3) := by decide +kernel
theorem dX1_comeUp_23 : decode cX1_comeUp 23 = .ok (.aload_n 0, 1) := by decide +kernel
theorem dX1_comeUp_24 : decode cX1_comeUp 24 = .ok (.getfield 34, 3) := by decide +kernel
theorem dX1_comeUp_27 : decode cX1_comeUp 27 = .ok (.iload_n 1, 1) := by decide +kernel
theorem dX1_comeUp_28 : decode cX1_comeUp 28 = .ok (.invokestatic 71, 3) := by decide +kernel
theorem dX1_comeUp_31 : decode cX1_comeUp 31 = .ok (.putfield 34, 3) := by decide +kernel
theorem dX1_comeUp_34 : decode cX1_comeUp 34 = .ok (.return_, 1) := by decide +kernel
end
section
set_option maxRecDepth 20000 in
theorem ggX2_init_X0_init : GoodIn wsX2_init wsX0_init := goodIn_r _ [24, 25, 2, 3, 26, 27, 8, 28, 29, 64, 65, 66, 67] (by decide +kernel) (by decide +kernel)
set_option maxRecDepth 20000 in
theorem gX2_init_X0_init_n54 : GoodIn wsX2_init (wsX0_init) := ggX2_init_X0_init
set_option maxRecDepth 20000 in
theorem ggX2_init_X1_init : GoodIn wsX2_init wsX1_init := goodIn_r _ [31, 32, 2, 3, 33, 8, 34, 35, 36, 37, 38, 39, 40, 41, 42, 43, 44, 45, 46, 47, 48, 49, 50, 51, 68, 69, 70, 71, 72, 73, 74, 75, 76, 77, 78, 79, 80, 81, 82, 83, 84, 85, 86] (by decide +kernel) (by decide +kernel)
set_option maxRecDepth 20000 in
theorem gX2_init_X1_init_n55 : GoodIn wsX2_init (wsX1_init) := ggX2_init_X1_init
theorem dX2_init_0 : decode cX2_init 0 = .ok (.aload_n 0, 1) := by decide +kernel
theorem dX2_init_1 : decode cX2_init 1 = .ok (.invokespecial 1, 3) := by decide +kernel
theorem dX2_init_4 : decode cX2_init 4 = .ok (.aload_n 0, 1) := by decide +kernel
theorem dX2_init_5 : decode cX2_init 5 = .ok (.bipush 6, 2) := by decide +kernel
theorem dX2_init_7 : decode cX2_init 7 = .ok (.anewarray 9, 3) := by decide +kernel
theorem dX2_init_10 : decode cX2_init 10 = .ok (.putfield 11, 3) := by decide +kernel
theorem dX2_init_13 : decode cX2_init 13 = .ok (.aload_n 0, 1) := by decide +kernel
theorem dX2_init_14 : decode cX2_init 14 = .ok (.bipush 16, 2) := by decide +kernel
theorem dX2_init_16 : decode cX2_init 16 = .ok (.anewarray 15, 3) := by decide +kernel
theorem dX2_init_19 : decode cX2_init 19 = .ok (.putfield 17, 3) := by decide +kernel
theorem dX2_init_22 : decode cX2_init 22 = .ok (.aload_n 0, 1) := by decide +kernel
theorem dX2_init_23 : decode cX2_init 23 = .ok (.sipush 400, 3) := by decide +kernel
theorem dX2_init_26 : decode cX2_init 26 = .ok (.newarray .int, 2) := by decide +kernel
theorem dX2_init_28 : decode cX2_init 28 = .ok (.putfield 21, 3) := by decide +kernel
theorem dX2_init_31 : decode cX2_init 31 = .ok (.aload_n 0, 1) := by decide +kernel
theorem dX2_init_32 : decode cX2_init 32 = .ok (.iconst 1, 1) := by decide +kernel
theorem dX2_init_33 : decode cX2_init 33 = .ok (.putfield 25, 3) := by decide +kernel
theorem dX2_init_36 : decode cX2_init 36 = .ok (.aload_n 0, 1) := by decide +kernel
theorem dX2_init_37 : decode cX2_init 37 = .ok (.iconst 0, 1) := by decide +kernel
theorem dX2_init_38 : decode cX2_init 38 = .ok (.putfield 29, 3) := by decide +kernel
theorem dX2_init_41 : decode cX2_init 41 = .ok (.aload_n 0, 1) := by decide +kernel
theorem dX2_init_42 : decode cX2_init 42 = .ok (.iconst 0, 1) := by decide +kernel
theorem dX2_init_43 : decode cX2_init 43 = .ok (.putfield 32, 3) := by decide +kernel
theorem dX2_init_46 : decode cX2_init 46 = .ok (.aload_n 0, 1) := by decide +kernel
theorem dX2_init_47 : decode cX2_init 47 = .ok (.iconst 0, 1) := by decide +kernel
theorem dX2_init_48 : decode cX2_init 48 = .ok (.putfield 35, 3) := by decide +kernel
theorem dX2_init_51 : decode cX2_init 51 = .ok (.aload_n 0, 1) := by decide +kernel
theorem dX2_init_52 : decode cX2_init 52 = .ok (.aconst_null, 1) := by decide +kernel
theorem dX2_init_53 : decode cX2_init 53 = .ok (.putfield 38, 3) := by decide +kernel
theorem dX2_init_56 : decode cX2_init 56 = .ok (.aload_n 0, 1) := by decide +kernel
theorem dX2_init_57 : decode cX2_init 57 = .ok (.iconst 0, 1) := by decide +kernel
theorem dX2_init_58 : decode cX2_init 58 = .ok (.putfield 42, 3) := by decide +kernel
theorem dX2_init_61 : decode cX2_init 61 = .ok (.aload_n 0, 1) := by decide +kernel
theorem dX2_init_62 : decode cX2_init 62 = .ok (.iconst 0, 1) := by decide +kernel
theorem dX2_init_63 : decode cX2_init 63 = .ok (.putfield 45, 3) := by decide +kernel
theorem dX2_init_66 : decode cX2_init 66 = .ok (.aload_n 0, 1) := by decide +kernel
theorem dX2_init_67 : decode cX2_init 67 = .ok (.iconst 0, 1) := by decide +kernel
theorem dX2_init_68 : decode cX2_init 68 = .ok (.putfield 48, 3) := by decide +kernel
theorem dX2_init_71 : decode cX2_init 71 = .ok (.aload_n 0, 1) := by decide +kernel
theorem dX2_init_72 : decode cX2_init 72 = .ok (.iconst 0, 1) := by decide +kernel
theorem dX2_init_73 : decode cX2_init 73 = .ok (.putfield 51, 3) := by decide +kernel
theorem dX2_init_76 : decode cX2_init 76 = .ok (.iconst 0, 1) := by decide +kernel
theorem dX2_init_77 : decode cX2_init 77 = .ok (.istore_n 1, 1) := by decide +kernel
theorem dX2_init_78 : decode cX2_init 78 = .ok (.iload_n 1, 1) := by decide +kernel
theorem dX2_init_79 : decode cX2_init 79 = .ok (.bipush 6, 2) := by decide +kernel
theorem dX2_init_81 : decode cX2_init 81 = .ok (.if_icmp .ge 22, 3) := by decide +kernel
theorem dX2_init_84 : decode cX2_init 84 = .ok (.aload_n 0, 1) := by decide +kernel
theorem dX2_init_85 : decode cX2_init 85 = .ok (.getfield 11, 3) := by decide +kernel
theorem dX2_init_88 : decode cX2_init 88 = .ok (.iload_n 1, 1) := by decide +kernel
theorem dX2_init_89 : decode cX2_init 89 = .ok (.new 9, 3) := by decide +kernel
theorem dX2_init_92 : decode cX2_init 92 = .ok (.dup, 1) := by decide +kernel
theorem dX2_init_93 : decode cX2_init 93 = .ok (.invokespecial 54, 3) := by decide +kernel
theorem dX2_init_96 : decode cX2_init 96 = .ok (.aastore, 1) := by decide +kernel
theorem dX2_init_97 : decode cX2_init 97 = .ok (.iinc 1 1, 3) := by decide +kernel
theorem dX2_init_100 : decode cX2_init 100 = .ok (.goto (-22), 3) := by decide +kernel
theorem dX2_init_103 : decode cX2_init 103 = .ok (.iconst 0, 1) := by decide +kernel
theorem dX2_init_104 : decode cX2_init 104 = .ok (.istore_n 1, 1) := by decide +kernel
theorem dX2_init_105 : decode cX2_init 105 = .ok (.iload_n 1, 1) := by decide +kernel
theorem dX2_init_106 : decode cX2_init 106 = .ok (.bipush 16, 2) := by decide +kernel
theorem dX2_init_108 : decode cX2_init 108 = .ok (.if_icmp .ge 23, 3) := by decide +kernel
theorem dX2_init_111 : decode cX2_init 111 = .ok (.aload_n 0, 1) := by decide +kernel
theorem dX2_init_112 : decode cX2_init 112 = .ok (.getfield 17, 3) := by decide +kernel
theorem dX2_init_115 : decode cX2_init 115 = .ok (.iload_n 1, 1) := by decide +kernel
theorem dX2_init_116 : decode cX2_init 116 = .ok (.new 15, 3) := by decide +kernel
theorem dX2_init_119 : decode cX2_init 119 = .ok (.dup, 1) := by decide +kernel
theorem dX2_init_120 : decode cX2_init 120 = .ok (.iload_n 1, 1) := by decide +kernel
theorem dX2_init_121 : decode cX2_init 121 = .ok (.invokespecial 55, 3) := by decide +kernel
theorem dX2_init_124 : decode cX2_init 124 = .ok (.aastore, 1) := by decide +kernel
theorem dX2_init_125 : decode cX2_init 125 = .ok (.iinc 1 1, 3) := by decide +kernel
theorem dX2_init_128 : decode cX2_init 128 = .ok (.goto (-23), 3) := by decide +kernel
theorem dX2_init_131 : decode cX2_init 131 = .ok (.return_, 1) := by decide +kernel
set_option maxRecDepth 20000 in
theorem ggX2_levels_X2_startOver : GoodIn wsX2_levels wsX2_startOver := goodIn_r _ [10, 11, 12, 13, 14, 15, 16, 4, 17, 18, 19, 20, 21, 22, 23, 24, 25, 26, 27, 28, 29, 30, 31, 32, 33, 34, 35, 36, 37, 38, 39, 40, 41, 42, 43, 44, 45, 46, 47, 48, 49, 50, 51, 52, 53, 54, 55, 56, 57, 58, 59, 60, 61, 62, 63, 64, 65, 66, 67, 68, 69, 70, 71, 72, 73, 74, 75, 76] (by decide +kernel) (by decide +kernel)
set_option maxRecDepth 20000 in
theorem gX2_levels_X2_startOver : GoodIn wsX2_levels (wsV RX2 71 RX2 yX2_startOver wsX2_startOver) := goodIn_app (goodIn_of _ (by decide +kernel)) ggX2_levels_X2_startOver
theorem dX2_levels_0 : decode cX2_levels 0 = .ok (.iload_n 1, 1) := by decide +kernel
theorem dX2_levels_1 : decode cX2_levels 1 = .ok (.iconst 1, 1) := by decide +kernel
theorem dX2_levels_2 : decode cX2_levels 2 = .ok (.if_icmp .lt 9, 3) := by decide +kernel
theorem dX2_levels_5 : decode cX2_levels 5 = .ok (.iload_n 1, 1) := by decide +kernel
theorem dX2_levels_6 : decode cX2_levels 6 = .ok (.bipush 6, 2) := by decide +kernel
theorem dX2_levels_8 : decode cX2_levels 8 = .ok (.if_icmp .le 13, 3) := by decide +kernel
theorem dX2_levels_11 : decode cX2_levels 11 = .ok (.new 58, 3) := by decide +kernel
theorem dX2_levels_14 : decode cX2_levels 14 = .ok (.dup, 1) := by decide +kernel
theorem dX2_levels_15 : decode cX2_levels 15 = .ok (.ldc 60, 2) := by decide +kernel
theorem dX2_levels_17 : decode cX2_levels 17 = .ok (.invokespecial 62, 3) := by decide +kernel
theorem dX2_levels_20 : decode cX2_levels 20 = .ok (.athrow, 1) := by decide +kernel
theorem dX2_levels_21 : decode cX2_levels 21 = .ok (.aload_n 0, 1) := by decide +kernel
theorem dX2_levels_22 : decode cX2_levels 22 = .ok (.iload_n 1, 1) := by decide +kernel
theorem dX2_levels_23 : decode cX2_levels 23 = .ok (.putfield 25, 3) := by decide +kernel
theorem dX2_levels_26 : decode cX2_levels 26 = .ok (.iconst 0, 1) := by decide +kernel
theorem dX2_levels_27 : decode cX2_levels 27 = .ok (.istore_n 2, 1) := by decide +kernel
theorem dX2_levels_28 : decode cX2_levels 28 = .ok (.iload_n 2, 1) := by decide +kernel
theorem dX2_levels_29 : decode cX2_levels 29 = .ok (.bipush 6, 2) := by decide +kernel
theorem dX2_levels_31 : decode cX2_levels 31 = .ok (.if_icmp .ge 29, 3) := by decide +kernel
theorem dX2_levels_34 : decode cX2_levels 34 = .ok (.aload_n 0, 1) := by decide +kernel
theorem dX2_levels_35 : decode cX2_levels 35 = .ok (.getfield 11, 3) := by decide +kernel
theorem dX2_levels_38 : decode cX2_levels 38 = .ok (.iload_n 2, 1) := by decide +kernel
theorem dX2_levels_39 : decode cX2_levels 39 = .ok (.aaload, 1) := by decide +kernel
theorem dX2_levels_40 : decode cX2_levels 40 = .ok (.iconst 1, 1) := by decide +kernel
theorem dX2_levels_41 : decode cX2_levels 41 = .ok (.putfield 65, 3) := by decide +kernel
theorem dX2_levels_44 : decode cX2_levels 44 = .ok (.aload_n 0, 1) := by decide +kernel
theorem dX2_levels_45 : decode cX2_levels 45 = .ok (.getfield 11, 3) := by decide +kernel
theorem dX2_levels_48 : decode cX2_levels 48 = .ok (.iload_n 2, 1) := by decide +kernel
theorem dX2_levels_49 : decode cX2_levels 49 = .ok (.aaload, 1) := by decide +kernel
theorem dX2_levels_50 : decode cX2_levels 50 = .ok (.iconst 1, 1) := by decide +kernel
theorem dX2_levels_51 : decode cX2_levels 51 = .ok (.putfield 68, 3) := by decide +kernel
theorem dX2_levels_54 : decode cX2_levels 54 = .ok (.iinc 2 1, 3) := by decide +kernel
theorem dX2_levels_57 : decode cX2_levels 57 = .ok (.goto (-29), 3) := by decide +kernel
theorem dX2_levels_60 : decode cX2_levels 60 = .ok (.aload_n 0, 1) := by decide +kernel
theorem dX2_levels_61 : decode cX2_levels 61 = .ok (.iconst 0, 1) := by decide +kernel
theorem dX2_levels_62 : decode cX2_levels 62 = .ok (.putfield 29, 3) := by decide +kernel
theorem dX2_levels_65 : decode cX2_levels 65 = .ok (.aload_n 0, 1) := by decide +kernel
theorem dX2_levels_66 : decode cX2_levels 66 = .ok (.invokevirtual 71, 3) := by decide +kernel
theorem dX2_levels_69 : decode cX2_levels 69 = .ok (.return_, 1) := by decide +kernel
set_option maxRecDepth 20000 in
theorem ggX2_level_X2_isLevel : GoodIn wsX2_level wsX2_isLevel := goodIn_r _ [13, 14, 15, 16, 17, 18, 19, 20, 21, 22, 23, 24, 25, 26] (by decide +kernel) (by decide +kernel)
set_option maxRecDepth 20000 in
theorem gX2_level_X2_isLevel : GoodIn wsX2_level (wsV RX2 74 RX2 yX2_isLevel wsX2_isLevel) := goodIn_app (goodIn_of _ (by decide +kernel)) ggX2_level_X2_isLevel
theorem dX2_level_0 : decode cX2_level 0 = .ok (.aload_n 0, 1) := by decide +kernel
theorem dX2_level_1 : decode cX2_level 1 = .ok (.iload_n 1, 1) := by decide +kernel
theorem dX2_level_2 : decode cX2_level 2 = .ok (.invokevirtual 74, 3) := by decide +kernel
theorem dX2_level_5 : decode cX2_level 5 = .ok (.ifCond .ne 13, 3) := by decide +kernel
theorem dX2_level_8 : decode cX2_level 8 = .ok (.new 78, 3) := by decide +kernel
theorem dX2_level_11 : decode cX2_level 11 = .ok (.dup, 1) := by decide +kernel
theorem dX2_level_12 : decode cX2_level 12 = .ok (.ldc 80, 2) := by decide +kernel
theorem dX2_level_14 : decode cX2_level 14 = .ok (.invokespecial 82, 3) := by decide +kernel
theorem dX2_level_17 : decode cX2_level 17 = .ok (.athrow, 1) := by decide +kernel
theorem dX2_level_18 : decode cX2_level 18 = .ok (.iload_n 2, 1) := by decide +kernel
theorem dX2_level_19 : decode cX2_level 19 = .ok (.iconst 1, 1) := by decide +kernel
theorem dX2_level_20 : decode cX2_level 20 = .ok (.if_icmp .lt 9, 3) := by decide +kernel
theorem dX2_level_23 : decode cX2_level 23 = .ok (.iload_n 2, 1) := by decide +kernel
theorem dX2_level_24 : decode cX2_level 24 = .ok (.bipush 100, 2) := by decide +kernel
theorem dX2_level_26 : decode cX2_level 26 = .ok (.if_icmp .le 13, 3) := by decide +kernel
theorem dX2_level_29 : decode cX2_level 29 = .ok (.new 58, 3) := by decide +kernel
theorem dX2_level_32 : decode cX2_level 32 = .ok (.dup, 1) := by decide +kernel
theorem dX2_level_33 : decode cX2_level 33 = .ok (.ldc 83, 2) := by decide +kernel
theorem dX2_level_35 : decode cX2_level 35 = .ok (.invokespecial 62, 3) := by decide +kernel
theorem dX2_level_38 : decode cX2_level 38 = .ok (.athrow, 1) := by decide +kernel
theorem dX2_level_39 : decode cX2_level 39 = .ok (.iload_n 3, 1) := by decide +kernel
theorem dX2_level_40 : decode cX2_level 40 = .ok (.iconst 1, 1) := by decide +kernel
theorem dX2_level_41 : decode cX2_level 41 = .ok (.if_icmp .lt 10, 3) := by decide +kernel
theorem dX2_level_44 : decode cX2_level 44 = .ok (.iload_n 3, 1) := by decide +kernel
theorem dX2_level_45 : decode cX2_level 45 = .ok (.sipush 1000, 3) := by decide +kernel
theorem dX2_level_48 : decode cX2_level 48 = .ok (.if_icmp .le 13, 3) := by decide +kernel
theorem dX2_level_51 : decode cX2_level 51 = .ok (.new 58, 3) := by decide +kernel
theorem dX2_level_54 : decode cX2_level 54 = .ok (.dup, 1) := by decide +kernel
theorem dX2_level_55 : decode cX2_level 55 = .ok (.ldc 85, 2) := by decide +kernel
theorem dX2_level_57 : decode cX2_level 57 = .ok (.invokespecial 62, 3) := by decide +kernel
theorem dX2_level_60 : decode cX2_level 60 = .ok (.athrow, 1) := by decide +kernel
theorem dX2_level_61 : decode cX2_level 61 = .ok (.aload_n 0, 1) := by decide +kernel
theorem dX2_level_62 : decode cX2_level 62 = .ok (.getfield 35, 3) := by decide +kernel
theorem dX2_level_65 : decode cX2_level 65 = .ok (.ifCond .eq 13, 3) := by decide +kernel
theorem dX2_level_68 : decode cX2_level 68 = .ok (.new 87, 3) := by decide +kernel
theorem dX2_level_71 : decode cX2_level 71 = .ok (.dup, 1) := by decide +kernel
theorem dX2_level_72 : decode cX2_level 72 = .ok (.ldc 89, 2) := by decide +kernel
theorem dX2_level_74 : decode cX2_level 74 = .ok (.invokespecial 91, 3) := by decide +kernel
theorem dX2_level_77 : decode cX2_level 77 = .ok (.athrow, 1) := by decide +kernel
theorem dX2_level_78 : decode cX2_level 78 = .ok (.aload_n 0, 1) := by decide +kernel
theorem dX2_level_79 : decode cX2_level 79 = .ok (.getfield 11, 3) := by decide +kernel
theorem dX2_level_82 : decode cX2_level 82 = .ok (.iload_n 1, 1) := by decide +kernel
theorem dX2_level_83 : decode cX2_level 83 = .ok (.aaload, 1) := by decide +kernel
theorem dX2_level_84 : decode cX2_level 84 = .ok (.iload_n 2, 1) := by decide +kernel
theorem dX2_level_85 : decode cX2_level 85 = .ok (.putfield 65, 3) := by decide +kernel
theorem dX2_level_88 : decode cX2_level 88 = .ok (.aload_n 0, 1) := by decide +kernel
theorem dX2_level_89 : decode cX2_level 89 = .ok (.getfield 11, 3) := by decide +kernel
theorem dX2_level_92 : decode cX2_level 92 = .ok (.iload_n 1, 1) := by decide +kernel
theorem dX2_level_93 : decode cX2_level 93 = .ok (.aaload, 1) := by decide +kernel
theorem dX2_level_94 : decode cX2_level 94 = .ok (.iload_n 3, 1) := by decide +kernel
theorem dX2_level_95 : decode cX2_level 95 = .ok (.putfield 68, 3) := by decide +kernel
theorem dX2_level_98 : decode cX2_level 98 = .ok (.return_, 1) := by decide +kernel
theorem dX2_period_0 : decode cX2_period 0 = .ok (.iload_n 1, 1) := by decide +kernel
theorem dX2_period_1 : decode cX2_period 1 = .ok (.ifCond .lt 10, 3) := by decide +kernel
theorem dX2_period_4 : decode cX2_period 4 = .ok (.iload_n 1, 1) := by decide +kernel
theorem dX2_period_5 : decode cX2_period 5 = .ok (.sipush 10000, 3) := by decide +kernel
theorem dX2_period_8 : decode cX2_period 8 = .ok (.if_icmp .le 13, 3) := by decide +kernel
theorem dX2_period_11 : decode cX2_period 11 = .ok (.new 58, 3) := by decide +kernel
theorem dX2_period_14 : decode cX2_period 14 = .ok (.dup, 1) := by decide +kernel
theorem dX2_period_15 : decode cX2_period 15 = .ok (.ldc 92, 2) := by decide +kernel
theorem dX2_period_17 : decode cX2_period 17 = .ok (.invokespecial 62, 3) := by decide +kernel
theorem dX2_period_20 : decode cX2_period 20 = .ok (.athrow, 1) := by decide +kernel
theorem dX2_period_21 : decode cX2_period 21 = .ok (.aload_n 0, 1) := by decide +kernel
theorem dX2_period_22 : decode cX2_period 22 = .ok (.getfield 35, 3) := by decide +kernel
theorem dX2_period_25 : decode cX2_period 25 = .ok (.ifCond .eq 13, 3) := by decide +kernel
theorem dX2_period_28 : decode cX2_period 28 = .ok (.new 87, 3) := by decide +kernel
theorem dX2_period_31 : decode cX2_period 31 = .ok (.dup, 1) := by decide +kernel
theorem dX2_period_32 : decode cX2_period 32 = .ok (.ldc 89, 2) := by decide +kernel
theorem dX2_period_34 : decode cX2_period 34 = .ok (.invokespecial 91, 3) := by decide +kernel
theorem dX2_period_37 : decode cX2_period 37 = .ok (.athrow, 1) := by decide +kernel
theorem dX2_period_38 : decode cX2_period 38 = .ok (.aload_n 0, 1) := by decide +kernel
theorem dX2_period_39 : decode cX2_period 39 = .ok (.iload_n 1, 1) := by decide +kernel
theorem dX2_period_40 : decode cX2_period 40 = .ok (.putfield 32, 3) := by decide +kernel
theorem dX2_period_43 : decode cX2_period 43 = .ok (.return_, 1) := by decide +kernel
set_option maxRecDepth 20000 in
theorem ggX2_process_X1_tellArrival : GoodIn wsX2_process wsX1_tellArrival := goodIn_r _ [11, 12, 13, 26, 27, 28, 29, 30, 31, 32, 33, 34, 35, 36, 37, 38, 39, 40, 41, 42, 43, 44] (by decide +kernel) (by decide +kernel)
set_option maxRecDepth 20000 in
theorem gX2_process_X1_tellArrival_n96 : GoodIn wsX2_process (wsX1_tellArrival) := ggX2_process_X1_tellArrival
theorem dX2_process_0 : decode cX2_process 0 = .ok (.iload_n 1, 1) := by decide +kernel
theorem dX2_process_1 : decode cX2_process 1 = .ok (.ifCond .lt 10, 3) := by decide +kernel
theorem dX2_process_4 : decode cX2_process 4 = .ok (.iload_n 1, 1) := by decide +kernel
theorem dX2_process_5 : decode cX2_process 5 = .ok (.sipush 20000, 3) := by decide +kernel
theorem dX2_process_8 : decode cX2_process 8 = .ok (.if_icmp .le 13, 3) := by decide +kernel
theorem dX2_process_11 : decode cX2_process 11 = .ok (.new 58, 3) := by decide +kernel
theorem dX2_process_14 : decode cX2_process 14 = .ok (.dup, 1) := by decide +kernel
theorem dX2_process_15 : decode cX2_process 15 = .ok (.ldc 94, 2) := by decide +kernel
theorem dX2_process_17 : decode cX2_process 17 = .ok (.invokespecial 62, 3) := by decide +kernel
theorem dX2_process_20 : decode cX2_process 20 = .ok (.athrow, 1) := by decide +kernel
theorem dX2_process_21 : decode cX2_process 21 = .ok (.aload_n 0, 1) := by decide +kernel
theorem dX2_process_22 : decode cX2_process 22 = .ok (.getfield 35, 3) := by decide +kernel
theorem dX2_process_25 : decode cX2_process 25 = .ok (.ifCond .eq 13, 3) := by decide +kernel
theorem dX2_process_28 : decode cX2_process 28 = .ok (.new 87, 3) := by decide +kernel
theorem dX2_process_31 : decode cX2_process 31 = .ok (.dup, 1) := by decide +kernel
theorem dX2_process_32 : decode cX2_process 32 = .ok (.ldc 89, 2) := by decide +kernel
theorem dX2_process_34 : decode cX2_process 34 = .ok (.invokespecial 91, 3) := by decide +kernel
theorem dX2_process_37 : decode cX2_process 37 = .ok (.athrow, 1) := by decide +kernel
theorem dX2_process_38 : decode cX2_process 38 = .ok (.aload_n 0, 1) := by decide +kernel
theorem dX2_process_39 : decode cX2_process 39 = .ok (.getfield 29, 3) := by decide +kernel
theorem dX2_process_42 : decode cX2_process 42 = .ok (.bipush 16, 2) := by decide +kernel
theorem dX2_process_44 : decode cX2_process 44 = .ok (.if_icmp .lt 5, 3) := by decide +kernel
theorem dX2_process_47 : decode cX2_process 47 = .ok (.iconst (-1), 1) := by decide +kernel
theorem dX2_process_48 : decode cX2_process 48 = .ok (.ireturn, 1) := by decide +kernel
theorem dX2_process_49 : decode cX2_process 49 = .ok (.aload_n 0, 1) := by decide +kernel
theorem dX2_process_50 : decode cX2_process 50 = .ok (.getfield 17, 3) := by decide +kernel
theorem dX2_process_53 : decode cX2_process 53 = .ok (.aload_n 0, 1) := by decide +kernel
theorem dX2_process_54 : decode cX2_process 54 = .ok (.getfield 29, 3) := by decide +kernel
theorem dX2_process_57 : decode cX2_process 57 = .ok (.aaload, 1) := by decide +kernel
theorem dX2_process_58 : decode cX2_process 58 = .ok (.iload_n 1, 1) := by decide +kernel
theorem dX2_process_59 : decode cX2_process 59 = .ok (.invokevirtual 96, 3) := by decide +kernel
theorem dX2_process_62 : decode cX2_process 62 = .ok (.aload_n 0, 1) := by decide +kernel
theorem dX2_process_63 : decode cX2_process 63 = .ok (.dup, 1) := by decide +kernel
theorem dX2_process_64 : decode cX2_process 64 = .ok (.getfield 29, 3) := by decide +kernel
theorem dX2_process_67 : decode cX2_process 67 = .ok (.iconst 1, 1) := by decide +kernel
theorem dX2_process_68 : decode cX2_process 68 = .ok (.iadd, 1) := by decide +kernel
theorem dX2_process_69 : decode cX2_process 69 = .ok (.putfield 29, 3) := by decide +kernel
theorem dX2_process_72 : decode cX2_process 72 = .ok (.aload_n 0, 1) := by decide +kernel
theorem dX2_process_73 : decode cX2_process 73 = .ok (.getfield 29, 3) := by decide +kernel
theorem dX2_process_76 : decode cX2_process 76 = .ok (.iconst 1, 1) := by decide +kernel
theorem dX2_process_77 : decode cX2_process 77 = .ok (.isub, 1) := by decide +kernel
theorem dX2_process_78 : decode cX2_process 78 = .ok (.ireturn, 1) := by decide +kernel
set_option maxRecDepth 20000 in
theorem ggX2_burst_X2_isTask : GoodIn wsX2_burst wsX2_isTask := goodIn_r _ [13, 14, 21, 22, 23, 24, 25, 26, 27, 28, 29, 30, 31, 32] (by decide +kernel) (by decide +kernel)
set_option maxRecDepth 20000 in
theorem gX2_burst_X2_isTask : GoodIn wsX2_burst (wsV RX2 99 RX2 yX2_isTask wsX2_isTask) := goodIn_app (goodIn_of _ (by decide +kernel)) ggX2_burst_X2_isTask
set_option maxRecDepth 20000 in
theorem ggX2_burst_X1_tellBurst : GoodIn wsX2_burst wsX1_tellBurst := goodIn_r _ [18, 19, 20, 33, 34, 35, 36, 37, 38, 39, 40, 41, 42, 43, 44, 45, 46, 47, 48, 49, 50, 51] (by decide +kernel) (by decide +kernel)
set_option maxRecDepth 20000 in
theorem gX2_burst_X1_tellBurst_n106 : GoodIn wsX2_burst (wsX1_tellBurst) := ggX2_burst_X1_tellBurst
theorem dX2_burst_0 : decode cX2_burst 0 = .ok (.aload_n 0, 1) := by decide +kernel
theorem dX2_burst_1 : decode cX2_burst 1 = .ok (.iload_n 1, 1) := by decide +kernel
theorem dX2_burst_2 : decode cX2_burst 2 = .ok (.invokevirtual 99, 3) := by decide +kernel
theorem dX2_burst_5 : decode cX2_burst 5 = .ok (.ifCond .ne 13, 3) := by decide +kernel
theorem dX2_burst_8 : decode cX2_burst 8 = .ok (.new 78, 3) := by decide +kernel
theorem dX2_burst_11 : decode cX2_burst 11 = .ok (.dup, 1) := by decide +kernel
theorem dX2_burst_12 : decode cX2_burst 12 = .ok (.ldc 102, 2) := by decide +kernel
theorem dX2_burst_14 : decode cX2_burst 14 = .ok (.invokespecial 82, 3) := by decide +kernel
theorem dX2_burst_17 : decode cX2_burst 17 = .ok (.athrow, 1) := by decide +kernel
theorem dX2_burst_18 : decode cX2_burst 18 = .ok (.iload_n 2, 1) := by decide +kernel
theorem dX2_burst_19 : decode cX2_burst 19 = .ok (.iconst 1, 1) := by decide +kernel
theorem dX2_burst_20 : decode cX2_burst 20 = .ok (.if_icmp .lt 10, 3) := by decide +kernel
theorem dX2_burst_23 : decode cX2_burst 23 = .ok (.iload_n 2, 1) := by decide +kernel
theorem dX2_burst_24 : decode cX2_burst 24 = .ok (.sipush 5000, 3) := by decide +kernel
theorem dX2_burst_27 : decode cX2_burst 27 = .ok (.if_icmp .le 13, 3) := by decide +kernel
theorem dX2_burst_30 : decode cX2_burst 30 = .ok (.new 58, 3) := by decide +kernel
theorem dX2_burst_33 : decode cX2_burst 33 = .ok (.dup, 1) := by decide +kernel
theorem dX2_burst_34 : decode cX2_burst 34 = .ok (.ldc 104, 2) := by decide +kernel
theorem dX2_burst_36 : decode cX2_burst 36 = .ok (.invokespecial 62, 3) := by decide +kernel
theorem dX2_burst_39 : decode cX2_burst 39 = .ok (.athrow, 1) := by decide +kernel
theorem dX2_burst_40 : decode cX2_burst 40 = .ok (.aload_n 0, 1) := by decide +kernel
theorem dX2_burst_41 : decode cX2_burst 41 = .ok (.getfield 35, 3) := by decide +kernel
theorem dX2_burst_44 : decode cX2_burst 44 = .ok (.ifCond .eq 13, 3) := by decide +kernel
theorem dX2_burst_47 : decode cX2_burst 47 = .ok (.new 87, 3) := by decide +kernel
theorem dX2_burst_50 : decode cX2_burst 50 = .ok (.dup, 1) := by decide +kernel
theorem dX2_burst_51 : decode cX2_burst 51 = .ok (.ldc 89, 2) := by decide +kernel
theorem dX2_burst_53 : decode cX2_burst 53 = .ok (.invokespecial 91, 3) := by decide +kernel
theorem dX2_burst_56 : decode cX2_burst 56 = .ok (.athrow, 1) := by decide +kernel
theorem dX2_burst_57 : decode cX2_burst 57 = .ok (.aload_n 0, 1) := by decide +kernel
theorem dX2_burst_58 : decode cX2_burst 58 = .ok (.getfield 17, 3) := by decide +kernel
theorem dX2_burst_61 : decode cX2_burst 61 = .ok (.iload_n 1, 1) := by decide +kernel
theorem dX2_burst_62 : decode cX2_burst 62 = .ok (.aaload, 1) := by decide +kernel
theorem dX2_burst_63 : decode cX2_burst 63 = .ok (.iload_n 2, 1) := by decide +kernel
theorem dX2_burst_64 : decode cX2_burst 64 = .ok (.invokevirtual 106, 3) := by decide +kernel
theorem dX2_burst_67 : decode cX2_burst 67 = .ok (.ireturn, 1) := by decide +kernel
set_option maxRecDepth 20000 in
theorem ggX2_run_X2_doTick : GoodIn wsX2_run wsX2_doTick := goodIn_r _ [10, 11, 3, 12, 5, 13, 14, 15, 9, 16, 17, 18, 19, 20, 21, 22, 23, 24, 25, 26, 27, 28, 29, 30, 31, 32, 33, 34, 35, 36, 37, 38, 39, 40, 41, 42, 43, 44, 45, 46, 47, 48, 49, 50, 51, 52, 53, 54, 55, 56, 57, 58, 59, 60, 61, 62, 63, 64, 65, 66, 67, 68, 69, 70, 71, 72, 73, 74, 75, 76, 77, 78, 79, 80, 81, 82, 83, 84, 85, 86, 87, 88, 89, 90, 91, 92, 93, 94, 95, 96, 97, 98, 99, 100, 101, 102, 103, 104, 105, 106, 107, 108, 109, 110, 111, 112, 113, 114, 115, 116, 117, 118, 119, 120, 121, 122, 123, 124, 125, 126, 127, 128, 129, 130, 131, 132, 133, 134, 135, 136, 137, 138, 139, 140, 141, 142, 143, 144, 145, 146, 147, 148, 149, 150, 151, 152, 153, 154, 155, 156, 157, 158, 159] (by decide +kernel) (by decide +kernel)
set_option maxRecDepth 20000 in
theorem gX2_run_X2_doTick : GoodIn wsX2_run (wsV RX2 115 RX2 yX2_doTick wsX2_doTick) := goodIn_app (goodIn_of _ (by decide +kernel)) ggX2_run_X2_doTick
theorem dX2_run_0 : decode cX2_run 0 = .ok (.iload_n 1, 1) := by decide +kernel
theorem dX2_run_1 : decode cX2_run 1 = .ok (.ifCond .lt 10, 3) := by decide +kernel
theorem dX2_run_4 : decode cX2_run 4 = .ok (.iload_n 1, 1) := by decide +kernel
theorem dX2_run_5 : decode cX2_run 5 = .ok (.sipush 30000, 3) := by decide +kernel
theorem dX2_run_8 : decode cX2_run 8 = .ok (.if_icmp .le 13, 3) := by decide +kernel
theorem dX2_run_11 : decode cX2_run 11 = .ok (.new 58, 3) := by decide +kernel
theorem dX2_run_14 : decode cX2_run 14 = .ok (.dup, 1) := by decide +kernel
theorem dX2_run_15 : decode cX2_run 15 = .ok (.ldc 110, 2) := by decide +kernel
theorem dX2_run_17 : decode cX2_run 17 = .ok (.invokespecial 62, 3) := by decide +kernel
theorem dX2_run_20 : decode cX2_run 20 = .ok (.athrow, 1) := by decide +kernel
theorem dX2_run_21 : decode cX2_run 21 = .ok (.aload_n 0, 1) := by decide +kernel
theorem dX2_run_22 : decode cX2_run 22 = .ok (.getfield 35, 3) := by decide +kernel
theorem dX2_run_25 : decode cX2_run 25 = .ok (.iload_n 1, 1) := by decide +kernel
theorem dX2_run_26 : decode cX2_run 26 = .ok (.iadd, 1) := by decide +kernel
theorem dX2_run_27 : decode cX2_run 27 = .ok (.ldc 112, 2) := by decide +kernel
theorem dX2_run_29 : decode cX2_run 29 = .ok (.if_icmp .le 13, 3) := by decide +kernel
theorem dX2_run_32 : decode cX2_run 32 = .ok (.new 58, 3) := by decide +kernel
theorem dX2_run_35 : decode cX2_run 35 = .ok (.dup, 1) := by decide +kernel
theorem dX2_run_36 : decode cX2_run 36 = .ok (.ldc 113, 2) := by decide +kernel
theorem dX2_run_38 : decode cX2_run 38 = .ok (.invokespecial 62, 3) := by decide +kernel
theorem dX2_run_41 : decode cX2_run 41 = .ok (.athrow, 1) := by decide +kernel
theorem dX2_run_42 : decode cX2_run 42 = .ok (.aload_n 0, 1) := by decide +kernel
theorem dX2_run_43 : decode cX2_run 43 = .ok (.getfield 45, 3) := by decide +kernel
theorem dX2_run_46 : decode cX2_run 46 = .ok (.istore_n 2, 1) := by decide +kernel
theorem dX2_run_47 : decode cX2_run 47 = .ok (.iconst 0, 1) := by decide +kernel
theorem dX2_run_48 : decode cX2_run 48 = .ok (.istore_n 3, 1) := by decide +kernel
theorem dX2_run_49 : decode cX2_run 49 = .ok (.iload_n 3, 1) := by decide +kernel
theorem dX2_run_50 : decode cX2_run 50 = .ok (.iload_n 1, 1) := by decide +kernel
theorem dX2_run_51 : decode cX2_run 51 = .ok (.if_icmp .ge 13, 3) := by decide +kernel
theorem dX2_run_54 : decode cX2_run 54 = .ok (.aload_n 0, 1) := by decide +kernel
theorem dX2_run_55 : decode cX2_run 55 = .ok (.invokevirtual 115, 3) := by decide +kernel
theorem dX2_run_58 : decode cX2_run 58 = .ok (.iinc 3 1, 3) := by decide +kernel
theorem dX2_run_61 : decode cX2_run 61 = .ok (.goto (-12), 3) := by decide +kernel
theorem dX2_run_64 : decode cX2_run 64 = .ok (.aload_n 0, 1) := by decide +kernel
theorem dX2_run_65 : decode cX2_run 65 = .ok (.getfield 45, 3) := by decide +kernel
theorem dX2_run_68 : decode cX2_run 68 = .ok (.iload_n 2, 1) := by decide +kernel
theorem dX2_run_69 : decode cX2_run 69 = .ok (.isub, 1) := by decide +kernel
theorem dX2_run_70 : decode cX2_run 70 = .ok (.ireturn, 1) := by decide +kernel
set_option maxRecDepth 20000 in
theorem ggX2_restart_X2_startOver : GoodIn wsX2_restart wsX2_startOver := goodIn_r _ [5, 6, 7, 8, 9, 10, 11, 12, 13, 14, 15, 16, 17, 18, 19, 20, 21, 22, 23, 24, 25, 26, 27, 28, 29, 30, 31, 32, 33, 34, 35, 36, 37, 38, 39, 40, 41, 42, 43, 44, 45, 46, 47, 48, 49, 50, 51, 52, 53, 54, 55, 56, 57, 58, 59, 60, 61, 62, 63, 64, 65, 66, 67, 68, 69, 70, 71, 72] (by decide +kernel) (by decide +kernel)
set_option maxRecDepth 20000 in
theorem gX2_restart_X2_startOver : GoodIn wsX2_restart (wsV RX2 71 RX2 yX2_startOver wsX2_startOver) := goodIn_app (goodIn_of _ (by decide +kernel)) ggX2_restart_X2_startOver
theorem dX2_restart_0 : decode cX2_restart 0 = .ok (.aload_n 0, 1) := by decide +kernel
theorem dX2_restart_1 : decode cX2_restart 1 = .ok (.invokevirtual 71, 3) := by decide +kernel
theorem dX2_restart_4 : decode cX2_restart 4 = .ok (.return_, 1) := by decide +kernel
theorem dX2_time_0 : decode cX2_time 0 = .ok (.aload_n 0, 1) := by decide +kernel
theorem dX2_time_1 : decode cX2_time 1 = .ok (.getfield 35, 3) := by decide +kernel
theorem dX2_time_4 : decode cX2_time 4 = .ok (.ireturn, 1) := by decide +kernel
set_option maxRecDepth 20000 in
theorem ggX2_told_X2_isTask : GoodIn wsX2_told wsX2_isTask := goodIn_r _ [10, 11, 12, 13, 14, 15, 16, 17, 18, 19, 20, 21, 22, 23] (by decide +kernel) (by decide +kernel)
set_option maxRecDepth 20000 in
theorem gX2_told_X2_isTask : GoodIn wsX2_told (wsV RX2 99 RX2 yX2_isTask wsX2_isTask) := goodIn_app (goodIn_of _ (by decide +kernel)) ggX2_told_X2_isTask
theorem dX2_told_0 : decode cX2_told 0 = .ok (.aload_n 0, 1) := by decide +kernel
theorem dX2_told_1 : decode cX2_told 1 = .ok (.iload_n 1, 1) := by decide +kernel
theorem dX2_told_2 : decode cX2_told 2 = .ok (.invokevirtual 99, 3) := by decide +kernel
theorem dX2_told_5 : decode cX2_told 5 = .ok (.ifCond .ne 13, 3) := by decide +kernel
theorem dX2_told_8 : decode cX2_told 8 = .ok (.new 78, 3) := by decide +kernel
theorem dX2_told_11 : decode cX2_told 11 = .ok (.dup, 1) := by decide +kernel
theorem dX2_told_12 : decode cX2_told 12 = .ok (.ldc 102, 2) := by decide +kernel
theorem dX2_told_14 : decode cX2_told 14 = .ok (.invokespecial 82, 3) := by decide +kernel
theorem dX2_told_17 : decode cX2_told 17 = .ok (.athrow, 1) := by decide +kernel
theorem dX2_told_18 : decode cX2_told 18 = .ok (.aload_n 0, 1) := by decide +kernel
theorem dX2_told_19 : decode cX2_told 19 = .ok (.getfield 17, 3) := by decide +kernel
theorem dX2_told_22 : decode cX2_told 22 = .ok (.iload_n 1, 1) := by decide +kernel
theorem dX2_told_23 : decode cX2_told 23 = .ok (.aaload, 1) := by decide +kernel
theorem dX2_told_24 : decode cX2_told 24 = .ok (.astore_n 3, 1) := by decide +kernel
theorem dX2_told_25 : decode cX2_told 25 = .ok (.iload_n 2, 1) := by decide +kernel
theorem dX2_told_26 : decode cX2_told 26 = .ok (.tableswitch 104 0 9 #[54, 59, 64, 69, 74, 79, 84, 89, 94, 99], 54) := by decide +kernel
theorem dX2_told_80 : decode cX2_told 80 = .ok (.aload_n 3, 1) := by decide +kernel
theorem dX2_told_81 : decode cX2_told 81 = .ok (.getfield 118, 3) := by decide +kernel
theorem dX2_told_84 : decode cX2_told 84 = .ok (.ireturn, 1) := by decide +kernel
theorem dX2_told_85 : decode cX2_told 85 = .ok (.aload_n 3, 1) := by decide +kernel
theorem dX2_told_86 : decode cX2_told 86 = .ok (.getfield 121, 3) := by decide +kernel
theorem dX2_told_89 : decode cX2_told 89 = .ok (.ireturn, 1) := by decide +kernel
theorem dX2_told_90 : decode cX2_told 90 = .ok (.aload_n 3, 1) := by decide +kernel
theorem dX2_told_91 : decode cX2_told 91 = .ok (.getfield 124, 3) := by decide +kernel
theorem dX2_told_94 : decode cX2_told 94 = .ok (.ireturn, 1) := by decide +kernel
theorem dX2_told_95 : decode cX2_told 95 = .ok (.aload_n 3, 1) := by decide +kernel
theorem dX2_told_96 : decode cX2_told 96 = .ok (.getfield 127, 3) := by decide +kernel
theorem dX2_told_99 : decode cX2_told 99 = .ok (.ireturn, 1) := by decide +kernel
theorem dX2_told_100 : decode cX2_told 100 = .ok (.aload_n 3, 1) := by decide +kernel
theorem dX2_told_101 : decode cX2_told 101 = .ok (.getfield 130, 3) := by decide +kernel
theorem dX2_told_104 : decode cX2_told 104 = .ok (.ireturn, 1) := by decide +kernel
theorem dX2_told_105 : decode cX2_told 105 = .ok (.aload_n 3, 1) := by decide +kernel
theorem dX2_told_106 : decode cX2_told 106 = .ok (.getfield 133, 3) := by decide +kernel
theorem dX2_told_109 : decode cX2_told 109 = .ok (.ireturn, 1) := by decide +kernel
theorem dX2_told_110 : decode cX2_told 110 = .ok (.aload_n 3, 1) := by decide +kernel
theorem dX2_told_111 : decode cX2_told 111 = .ok (.getfield 136, 3) := by decide +kernel
theorem dX2_told_114 : decode cX2_told 114 = .ok (.ireturn, 1) := by decide +kernel
theorem dX2_told_115 : decode cX2_told 115 = .ok (.aload_n 3, 1) := by decide +kernel
theorem dX2_told_116 : decode cX2_told 116 = .ok (.getfield 139, 3) := by decide +kernel
theorem dX2_told_119 : decode cX2_told 119 = .ok (.ireturn, 1) := by decide +kernel
theorem dX2_told_120 : decode cX2_told 120 = .ok (.aload_n 3, 1) := by decide +kernel
theorem dX2_told_121 : decode cX2_told 121 = .ok (.getfield 142, 3) := by decide +kernel
theorem dX2_told_124 : decode cX2_told 124 = .ok (.ireturn, 1) := by decide +kernel
theorem dX2_told_125 : decode cX2_told 125 = .ok (.aload_n 3, 1) := by decide +kernel
theorem dX2_told_126 : decode cX2_told 126 = .ok (.getfield 145, 3) := by decide +kernel
theorem dX2_told_129 : decode cX2_told 129 = .ok (.ireturn, 1) := by decide +kernel
theorem dX2_told_130 : decode cX2_told 130 = .ok (.new 58, 3) := by decide +kernel
theorem dX2_told_133 : decode cX2_told 133 = .ok (.dup, 1) := by decide +kernel
theorem dX2_told_134 : decode cX2_told 134 = .ok (.ldc 148, 2) := by decide +kernel
theorem dX2_told_136 : decode cX2_told 136 = .ok (.invokespecial 62, 3) := by decide +kernel
theorem dX2_told_139 : decode cX2_told 139 = .ok (.athrow, 1) := by decide +kernel
theorem dX2_running_0 : decode cX2_running 0 = .ok (.aload_n 0, 1) := by decide +kernel
theorem dX2_running_1 : decode cX2_running 1 = .ok (.getfield 38, 3) := by decide +kernel
theorem dX2_running_4 : decode cX2_running 4 = .ok (.ifnonnull 7, 3) := by decide +kernel
theorem dX2_running_7 : decode cX2_running 7 = .ok (.iconst (-1), 1) := by decide +kernel
theorem dX2_running_8 : decode cX2_running 8 = .ok (.goto 10, 3) := by decide +kernel
theorem dX2_running_11 : decode cX2_running 11 = .ok (.aload_n 0, 1) := by decide +kernel
theorem dX2_running_12 : decode cX2_running 12 = .ok (.getfield 38, 3) := by decide +kernel
theorem dX2_running_15 : decode cX2_running 15 = .ok (.getfield 150, 3) := by decide +kernel
theorem dX2_running_18 : decode cX2_running 18 = .ok (.ireturn, 1) := by decide +kernel
set_option maxRecDepth 20000 in
theorem ggX2_queued_X2_isLevel : GoodIn wsX2_queued wsX2_isLevel := goodIn_r _ [8, 9, 16, 17, 18, 19, 20, 21, 22, 23, 24, 25, 26, 27] (by decide +kernel) (by decide +kernel)
set_option maxRecDepth 20000 in
theorem gX2_queued_X2_isLevel : GoodIn wsX2_queued (wsV RX2 74 RX2 yX2_isLevel wsX2_isLevel) := goodIn_app (goodIn_of _ (by decide +kernel)) ggX2_queued_X2_isLevel
set_option maxRecDepth 20000 in
theorem ggX2_queued_X0_at : GoodIn wsX2_queued wsX0_at := goodIn_r _ [13, 14, 15, 28, 29, 30, 31] (by decide +kernel) (by decide +kernel)
set_option maxRecDepth 20000 in
theorem gX2_queued_X0_at_n153 : GoodIn wsX2_queued (wsX0_at) := ggX2_queued_X0_at
theorem dX2_queued_0 : decode cX2_queued 0 = .ok (.aload_n 0, 1) := by decide +kernel
theorem dX2_queued_1 : decode cX2_queued 1 = .ok (.iload_n 1, 1) := by decide +kernel
theorem dX2_queued_2 : decode cX2_queued 2 = .ok (.invokevirtual 74, 3) := by decide +kernel
theorem dX2_queued_5 : decode cX2_queued 5 = .ok (.ifCond .ne 13, 3) := by decide +kernel
theorem dX2_queued_8 : decode cX2_queued 8 = .ok (.new 78, 3) := by decide +kernel
theorem dX2_queued_11 : decode cX2_queued 11 = .ok (.dup, 1) := by decide +kernel
theorem dX2_queued_12 : decode cX2_queued 12 = .ok (.ldc 80, 2) := by decide +kernel
theorem dX2_queued_14 : decode cX2_queued 14 = .ok (.invokespecial 82, 3) := by decide +kernel
theorem dX2_queued_17 : decode cX2_queued 17 = .ok (.athrow, 1) := by decide +kernel
theorem dX2_queued_18 : decode cX2_queued 18 = .ok (.aload_n 0, 1) := by decide +kernel
theorem dX2_queued_19 : decode cX2_queued 19 = .ok (.getfield 11, 3) := by decide +kernel
theorem dX2_queued_22 : decode cX2_queued 22 = .ok (.iload_n 1, 1) := by decide +kernel
theorem dX2_queued_23 : decode cX2_queued 23 = .ok (.aaload, 1) := by decide +kernel
theorem dX2_queued_24 : decode cX2_queued 24 = .ok (.iload_n 2, 1) := by decide +kernel
theorem dX2_queued_25 : decode cX2_queued 25 = .ok (.invokevirtual 153, 3) := by decide +kernel
theorem dX2_queued_28 : decode cX2_queued 28 = .ok (.ireturn, 1) := by decide +kernel
theorem dX2_all_0 : decode cX2_all 0 = .ok (.iload_n 1, 1) := by decide +kernel
theorem dX2_all_1 : decode cX2_all 1 = .ok (.tableswitch 51 0 3 #[31, 36, 41, 46], 31) := by decide +kernel
theorem dX2_all_32 : decode cX2_all 32 = .ok (.aload_n 0, 1) := by decide +kernel
theorem dX2_all_33 : decode cX2_all 33 = .ok (.getfield 42, 3) := by decide +kernel
theorem dX2_all_36 : decode cX2_all 36 = .ok (.ireturn, 1) := by decide +kernel
theorem dX2_all_37 : decode cX2_all 37 = .ok (.aload_n 0, 1) := by decide +kernel
theorem dX2_all_38 : decode cX2_all 38 = .ok (.getfield 45, 3) := by decide +kernel
theorem dX2_all_41 : decode cX2_all 41 = .ok (.ireturn, 1) := by decide +kernel
theorem dX2_all_42 : decode cX2_all 42 = .ok (.aload_n 0, 1) := by decide +kernel
theorem dX2_all_43 : decode cX2_all 43 = .ok (.getfield 48, 3) := by decide +kernel
theorem dX2_all_46 : decode cX2_all 46 = .ok (.ireturn, 1) := by decide +kernel
theorem dX2_all_47 : decode cX2_all 47 = .ok (.aload_n 0, 1) := by decide +kernel
theorem dX2_all_48 : decode cX2_all 48 = .ok (.getfield 51, 3) := by decide +kernel
theorem dX2_all_51 : decode cX2_all 51 = .ok (.ireturn, 1) := by decide +kernel
theorem dX2_all_52 : decode cX2_all 52 = .ok (.new 58, 3) := by decide +kernel
theorem dX2_all_55 : decode cX2_all 55 = .ok (.dup, 1) := by decide +kernel
theorem dX2_all_56 : decode cX2_all 56 = .ok (.ldc 156, 2) := by decide +kernel
theorem dX2_all_58 : decode cX2_all 58 = .ok (.invokespecial 62, 3) := by decide +kernel
theorem dX2_all_61 : decode cX2_all 61 = .ok (.athrow, 1) := by decide +kernel
theorem dX2_switched_0 : decode cX2_switched 0 = .ok (.iload_n 1, 1) := by decide +kernel
theorem dX2_switched_1 : decode cX2_switched 1 = .ok (.ifCond .lt 18, 3) := by decide +kernel
theorem dX2_switched_4 : decode cX2_switched 4 = .ok (.iload_n 1, 1) := by decide +kernel
theorem dX2_switched_5 : decode cX2_switched 5 = .ok (.aload_n 0, 1) := by decide +kernel
theorem dX2_switched_6 : decode cX2_switched 6 = .ok (.getfield 42, 3) := by decide +kernel
theorem dX2_switched_9 : decode cX2_switched 9 = .ok (.if_icmp .ge 10, 3) := by decide +kernel
theorem dX2_switched_12 : decode cX2_switched 12 = .ok (.iload_n 1, 1) := by decide +kernel
theorem dX2_switched_13 : decode cX2_switched 13 = .ok (.sipush 400, 3) := by decide +kernel
theorem dX2_switched_16 : decode cX2_switched 16 = .ok (.if_icmp .lt 13, 3) := by decide +kernel
theorem dX2_switched_19 : decode cX2_switched 19 = .ok (.new 78, 3) := by decide +kernel
theorem dX2_switched_22 : decode cX2_switched 22 = .ok (.dup, 1) := by decide +kernel
theorem dX2_switched_23 : decode cX2_switched 23 = .ok (.ldc 158, 2) := by decide +kernel
theorem dX2_switched_25 : decode cX2_switched 25 = .ok (.invokespecial 82, 3) := by decide +kernel
theorem dX2_switched_28 : decode cX2_switched 28 = .ok (.athrow, 1) := by decide +kernel
theorem dX2_switched_29 : decode cX2_switched 29 = .ok (.aload_n 0, 1) := by decide +kernel
theorem dX2_switched_30 : decode cX2_switched 30 = .ok (.getfield 21, 3) := by decide +kernel
theorem dX2_switched_33 : decode cX2_switched 33 = .ok (.iload_n 1, 1) := by decide +kernel
theorem dX2_switched_34 : decode cX2_switched 34 = .ok (.iaload, 1) := by decide +kernel
theorem dX2_switched_35 : decode cX2_switched 35 = .ok (.ireturn, 1) := by decide +kernel
theorem dX2_isLevel_0 : decode cX2_isLevel 0 = .ok (.iload_n 1, 1) := by decide +kernel
theorem dX2_isLevel_1 : decode cX2_isLevel 1 = .ok (.ifCond .lt 15, 3) := by decide +kernel
theorem dX2_isLevel_4 : decode cX2_isLevel 4 = .ok (.iload_n 1, 1) := by decide +kernel
theorem dX2_isLevel_5 : decode cX2_isLevel 5 = .ok (.aload_n 0, 1) := by decide +kernel
theorem dX2_isLevel_6 : decode cX2_isLevel 6 = .ok (.getfield 25, 3) := by decide +kernel
theorem dX2_isLevel_9 : decode cX2_isLevel 9 = .ok (.if_icmp .ge 7, 3) := by decide +kernel
theorem dX2_isLevel_12 : decode cX2_isLevel 12 = .ok (.iconst 1, 1) := by decide +kernel
theorem dX2_isLevel_13 : decode cX2_isLevel 13 = .ok (.goto 4, 3) := by decide +kernel
theorem dX2_isLevel_16 : decode cX2_isLevel 16 = .ok (.iconst 0, 1) := by decide +kernel
theorem dX2_isLevel_17 : decode cX2_isLevel 17 = .ok (.ireturn, 1) := by decide +kernel
theorem dX2_isTask_0 : decode cX2_isTask 0 = .ok (.iload_n 1, 1) := by decide +kernel
theorem dX2_isTask_1 : decode cX2_isTask 1 = .ok (.ifCond .lt 15, 3) := by decide +kernel
theorem dX2_isTask_4 : decode cX2_isTask 4 = .ok (.iload_n 1, 1) := by decide +kernel
theorem dX2_isTask_5 : decode cX2_isTask 5 = .ok (.aload_n 0, 1) := by decide +kernel
theorem dX2_isTask_6 : decode cX2_isTask 6 = .ok (.getfield 29, 3) := by decide +kernel
theorem dX2_isTask_9 : decode cX2_isTask 9 = .ok (.if_icmp .ge 7, 3) := by decide +kernel
theorem dX2_isTask_12 : decode cX2_isTask 12 = .ok (.iconst 1, 1) := by decide +kernel
theorem dX2_isTask_13 : decode cX2_isTask 13 = .ok (.goto 4, 3) := by decide +kernel
theorem dX2_isTask_16 : decode cX2_isTask 16 = .ok (.iconst 0, 1) := by decide +kernel
theorem dX2_isTask_17 : decode cX2_isTask 17 = .ok (.ireturn, 1) := by decide +kernel
end
section
set_option maxRecDepth 20000 in
theorem ggX2_startOver_X0_clear : GoodIn wsX2_startOver wsX0_clear := goodIn_r _ [12, 13, 45, 46, 47, 48] (by decide +kernel) (by decide +kernel)
set_option maxRecDepth 20000 in
theorem gX2_startOver_X0_clear_n160 : GoodIn wsX2_startOver (wsX0_clear) := ggX2_startOver_X0_clear
set_option maxRecDepth 20000 in
theorem ggX2_startOver_X1_startOver : GoodIn wsX2_startOver wsX1_startOver := goodIn_r _ [17, 18, 19, 20, 21, 22, 23, 24, 25, 26, 27, 28, 29, 30, 31, 32, 49, 50, 51, 52, 53, 54, 55, 56, 57, 58, 59, 60, 61, 62, 63, 64, 65, 66, 67] (by decide +kernel) (by decide +kernel)
set_option maxRecDepth 20000 in
theorem gX2_startOver_X1_startOver_n163 : GoodIn wsX2_startOver (wsX1_startOver) := ggX2_startOver_X1_startOver
theorem dX2_startOver_0 : decode cX2_startOver 0 = .ok (.aload_n 0, 1) := by decide +kernel
theorem dX2_startOver_1 : decode cX2_startOver 1 = .ok (.iconst 0, 1) := by decide +kernel
theorem dX2_startOver_2 : decode cX2_startOver 2 = .ok (.putfield 35, 3) := by decide +kernel
theorem dX2_startOver_5 : decode cX2_startOver 5 = .ok (.aload_n 0, 1) := by decide +kernel
theorem dX2_startOver_6 : decode cX2_startOver 6 = .ok (.aconst_null, 1) := by decide +kernel
theorem dX2_startOver_7 : decode cX2_startOver 7 = .ok (.putfield 38, 3) := by decide +kernel
theorem dX2_startOver_10 : decode cX2_startOver 10 = .ok (.aload_n 0, 1) := by decide +kernel
theorem dX2_startOver_11 : decode cX2_startOver 11 = .ok (.iconst 0, 1) := by decide +kernel
theorem dX2_startOver_12 : decode cX2_startOver 12 = .ok (.putfield 42, 3) := by decide +kernel
theorem dX2_startOver_15 : decode cX2_startOver 15 = .ok (.aload_n 0, 1) := by decide +kernel
theorem dX2_startOver_16 : decode cX2_startOver 16 = .ok (.iconst 0, 1) := by decide +kernel
theorem dX2_startOver_17 : decode cX2_startOver 17 = .ok (.putfield 45, 3) := by decide +kernel
theorem dX2_startOver_20 : decode cX2_startOver 20 = .ok (.aload_n 0, 1) := by decide +kernel
theorem dX2_startOver_21 : decode cX2_startOver 21 = .ok (.iconst 0, 1) := by decide +kernel
theorem dX2_startOver_22 : decode cX2_startOver 22 = .ok (.putfield 48, 3) := by decide +kernel
theorem dX2_startOver_25 : decode cX2_startOver 25 = .ok (.aload_n 0, 1) := by decide +kernel
theorem dX2_startOver_26 : decode cX2_startOver 26 = .ok (.iconst 0, 1) := by decide +kernel
theorem dX2_startOver_27 : decode cX2_startOver 27 = .ok (.putfield 51, 3) := by decide +kernel
theorem dX2_startOver_30 : decode cX2_startOver 30 = .ok (.iconst 0, 1) := by decide +kernel
theorem dX2_startOver_31 : decode cX2_startOver 31 = .ok (.istore_n 1, 1) := by decide +kernel
theorem dX2_startOver_32 : decode cX2_startOver 32 = .ok (.iload_n 1, 1) := by decide +kernel
theorem dX2_startOver_33 : decode cX2_startOver 33 = .ok (.bipush 6, 2) := by decide +kernel
theorem dX2_startOver_35 : decode cX2_startOver 35 = .ok (.if_icmp .ge 18, 3) := by decide +kernel
theorem dX2_startOver_38 : decode cX2_startOver 38 = .ok (.aload_n 0, 1) := by decide +kernel
theorem dX2_startOver_39 : decode cX2_startOver 39 = .ok (.getfield 11, 3) := by decide +kernel
theorem dX2_startOver_42 : decode cX2_startOver 42 = .ok (.iload_n 1, 1) := by decide +kernel
theorem dX2_startOver_43 : decode cX2_startOver 43 = .ok (.aaload, 1) := by decide +kernel
theorem dX2_startOver_44 : decode cX2_startOver 44 = .ok (.invokevirtual 160, 3) := by decide +kernel
theorem dX2_startOver_47 : decode cX2_startOver 47 = .ok (.iinc 1 1, 3) := by decide +kernel
theorem dX2_startOver_50 : decode cX2_startOver 50 = .ok (.goto (-18), 3) := by decide +kernel
theorem dX2_startOver_53 : decode cX2_startOver 53 = .ok (.iconst 0, 1) := by decide +kernel
theorem dX2_startOver_54 : decode cX2_startOver 54 = .ok (.istore_n 1, 1) := by decide +kernel
theorem dX2_startOver_55 : decode cX2_startOver 55 = .ok (.iload_n 1, 1) := by decide +kernel
theorem dX2_startOver_56 : decode cX2_startOver 56 = .ok (.bipush 16, 2) := by decide +kernel
theorem dX2_startOver_58 : decode cX2_startOver 58 = .ok (.if_icmp .ge 18, 3) := by decide +kernel
theorem dX2_startOver_61 : decode cX2_startOver 61 = .ok (.aload_n 0, 1) := by decide +kernel
theorem dX2_startOver_62 : decode cX2_startOver 62 = .ok (.getfield 17, 3) := by decide +kernel
theorem dX2_startOver_65 : decode cX2_startOver 65 = .ok (.iload_n 1, 1) := by decide +kernel
theorem dX2_startOver_66 : decode cX2_startOver 66 = .ok (.aaload, 1) := by decide +kernel
theorem dX2_startOver_67 : decode cX2_startOver 67 = .ok (.invokevirtual 163, 3) := by decide +kernel
theorem dX2_startOver_70 : decode cX2_startOver 70 = .ok (.iinc 1 1, 3) := by decide +kernel
theorem dX2_startOver_73 : decode cX2_startOver 73 = .ok (.goto (-18), 3) := by decide +kernel
theorem dX2_startOver_76 : decode cX2_startOver 76 = .ok (.return_, 1) := by decide +kernel
set_option maxRecDepth 20000 in
theorem ggX2_doTick_X2_bringAllUp : GoodIn wsX2_doTick wsX2_bringAllUp := goodIn_r _ [9, 10, 11, 12, 13, 14, 15, 16, 17, 18, 19, 20, 21, 22, 23, 24, 25, 26, 27, 28, 29, 30, 31, 32, 33, 34, 35, 36, 37, 38, 39, 118, 119, 120, 121, 122, 123, 124, 125, 126, 127, 128, 129, 130, 131, 132, 133, 134, 135, 136, 137, 138, 139, 140, 141, 142, 143, 144, 145, 146, 147, 148, 149, 150, 151, 152] (by decide +kernel) (by decide +kernel)
set_option maxRecDepth 20000 in
theorem gX2_doTick_X2_bringAllUp : GoodIn wsX2_doTick (wsV RX2 164 RX2 yX2_bringAllUp wsX2_bringAllUp) := goodIn_app (goodIn_of _ (by decide +kernel)) ggX2_doTick_X2_bringAllUp
set_option maxRecDepth 20000 in
theorem ggX2_doTick_X2_letArrive : GoodIn wsX2_doTick wsX2_letArrive := goodIn_r _ [43, 12, 13, 2, 11, 44, 45, 46, 8, 47, 48, 16, 49, 50, 51, 52, 53, 54, 55, 56, 57, 58, 34, 28, 35, 36, 31, 32, 59, 60, 61, 62, 63, 118, 119, 120, 121, 122, 123, 124, 125, 126, 127, 128, 129, 130, 131, 132, 133, 134, 135, 136, 137, 138, 139, 140, 141, 142, 143, 144, 145, 146, 147, 148, 149, 150, 151, 152] (by decide +kernel) (by decide +kernel)
set_option maxRecDepth 20000 in
theorem gX2_doTick_X2_letArrive : GoodIn wsX2_doTick (wsV RX2 167 RX2 yX2_letArrive wsX2_letArrive) := goodIn_app (goodIn_of _ (by decide +kernel)) ggX2_doTick_X2_letArrive
set_option maxRecDepth 20000 in
theorem ggX2_doTick_X2_letComeBack : GoodIn wsX2_doTick wsX2_letComeBack := goodIn_r _ [67, 12, 13, 44, 45, 46, 8, 47, 2, 48, 16, 49, 50, 51, 52, 53, 54, 55, 56, 57, 58, 11, 34, 28, 35, 36, 31, 32, 59, 60, 61, 62, 63, 118, 119, 120, 121, 122, 123, 124, 125, 126, 127, 128, 129, 130, 131, 132, 133, 134, 135, 136, 137, 138, 139, 140, 141, 142, 143, 144, 145, 146, 147, 148, 149, 150, 151, 152] (by decide +kernel) (by decide +kernel)
set_option maxRecDepth 20000 in
theorem gX2_doTick_X2_letComeBack : GoodIn wsX2_doTick (wsV RX2 170 RX2 yX2_letComeBack wsX2_letComeBack) := goodIn_app (goodIn_of _ (by decide +kernel)) ggX2_doTick_X2_letComeBack
set_option maxRecDepth 20000 in
theorem ggX2_doTick_X2_makeWay : GoodIn wsX2_doTick wsX2_makeWay := goodIn_r _ [71, 3, 11, 72, 73, 74, 8, 75, 76, 28, 77, 78, 31, 32, 118, 119, 120, 121, 122, 123, 124, 125, 126, 127, 128, 129, 130, 131, 132, 133, 134, 135, 136, 137, 138, 139, 140, 141, 142, 143, 144, 145, 146, 147, 148, 149, 150, 151, 152] (by decide +kernel) (by decide +kernel)
set_option maxRecDepth 20000 in
theorem gX2_doTick_X2_makeWay : GoodIn wsX2_doTick (wsV RX2 173 RX2 yX2_makeWay wsX2_makeWay) := goodIn_app (goodIn_of _ (by decide +kernel)) ggX2_doTick_X2_makeWay
set_option maxRecDepth 20000 in
theorem ggX2_doTick_X2_switchToFirst : GoodIn wsX2_doTick wsX2_switchToFirst := goodIn_r _ [82, 14, 11, 13, 83, 28, 84, 85, 31, 32, 86, 87, 88, 8, 89, 12, 90, 91, 92, 93, 2, 94, 95, 3, 96, 16, 97, 98, 21, 99, 22, 100, 101, 118, 119, 120, 121, 122, 123, 124, 125, 126, 127, 128, 129, 149, 150, 151, 152, 130, 131, 132, 133, 134, 135, 136, 137, 138, 139, 140, 141, 142, 143, 144, 145, 146, 147, 148] (by decide +kernel) (by decide +kernel)
set_option maxRecDepth 20000 in
theorem gX2_doTick_X2_switchToFirst : GoodIn wsX2_doTick (wsV RX2 176 RX2 yX2_switchToFirst wsX2_switchToFirst) := goodIn_app (goodIn_of _ (by decide +kernel)) ggX2_doTick_X2_switchToFirst
set_option maxRecDepth 20000 in
theorem ggX2_doTick_X2_countWaiting : GoodIn wsX2_doTick wsX2_countWaiting := goodIn_r _ [105, 12, 13, 118, 119, 120, 121, 122, 123, 124, 125, 126, 127, 128, 129, 130, 131, 132, 133, 134, 135, 136, 137, 138, 139, 140, 141, 142, 143, 144, 145, 146, 147, 148] (by decide +kernel) (by decide +kernel)
set_option maxRecDepth 20000 in
theorem gX2_doTick_X2_countWaiting : GoodIn wsX2_doTick (wsV RX2 179 RX2 yX2_countWaiting wsX2_countWaiting) := goodIn_app (goodIn_of _ (by decide +kernel)) ggX2_doTick_X2_countWaiting
set_option maxRecDepth 20000 in
theorem ggX2_doTick_X2_useTick : GoodIn wsX2_doTick wsX2_useTick := goodIn_r _ [109, 3, 110, 111, 112, 8, 113, 2, 48, 16, 49, 50, 51, 52, 53, 54, 59, 60, 61, 62, 63, 114, 115, 116, 117, 14, 11, 55, 56, 57, 58, 34, 28, 35, 36, 31, 32, 130, 131, 132, 133, 134, 135, 136, 137, 138, 139, 140, 141, 142, 143, 144, 145, 146, 147, 148, 118, 119, 120, 121, 122, 123, 124, 125, 126, 127, 128, 129, 149, 150, 151, 152] (by decide +kernel) (by decide +kernel)
set_option maxRecDepth 20000 in
theorem gX2_doTick_X2_useTick : GoodIn wsX2_doTick (wsV RX2 182 RX2 yX2_useTick wsX2_useTick) := goodIn_app (goodIn_of _ (by decide +kernel)) ggX2_doTick_X2_useTick
theorem dX2_doTick_0 : decode cX2_doTick 0 = .ok (.aload_n 0, 1) := by decide +kernel
theorem dX2_doTick_1 : decode cX2_doTick 1 = .ok (.getfield 32, 3) := by decide +kernel
theorem dX2_doTick_4 : decode cX2_doTick 4 = .ok (.ifCond .eq 26, 3) := by decide +kernel
theorem dX2_doTick_7 : decode cX2_doTick 7 = .ok (.aload_n 0, 1) := by decide +kernel
theorem dX2_doTick_8 : decode cX2_doTick 8 = .ok (.getfield 35, 3) := by decide +kernel
theorem dX2_doTick_11 : decode cX2_doTick 11 = .ok (.ifCond .le 19, 3) := by decide +kernel
theorem dX2_doTick_14 : decode cX2_doTick 14 = .ok (.aload_n 0, 1) := by decide +kernel
theorem dX2_doTick_15 : decode cX2_doTick 15 = .ok (.getfield 35, 3) := by decide +kernel
theorem dX2_doTick_18 : decode cX2_doTick 18 = .ok (.aload_n 0, 1) := by decide +kernel
theorem dX2_doTick_19 : decode cX2_doTick 19 = .ok (.getfield 32, 3) := by decide +kernel
theorem dX2_doTick_22 : decode cX2_doTick 22 = .ok (.irem, 1) := by decide +kernel
theorem dX2_doTick_23 : decode cX2_doTick 23 = .ok (.ifCond .ne 7, 3) := by decide +kernel
theorem dX2_doTick_26 : decode cX2_doTick 26 = .ok (.aload_n 0, 1) := by decide +kernel
theorem dX2_doTick_27 : decode cX2_doTick 27 = .ok (.invokevirtual 164, 3) := by decide +kernel
theorem dX2_doTick_30 : decode cX2_doTick 30 = .ok (.aload_n 0, 1) := by decide +kernel
theorem dX2_doTick_31 : decode cX2_doTick 31 = .ok (.invokevirtual 167, 3) := by decide +kernel
theorem dX2_doTick_34 : decode cX2_doTick 34 = .ok (.aload_n 0, 1) := by decide +kernel
theorem dX2_doTick_35 : decode cX2_doTick 35 = .ok (.invokevirtual 170, 3) := by decide +kernel
theorem dX2_doTick_38 : decode cX2_doTick 38 = .ok (.aload_n 0, 1) := by decide +kernel
theorem dX2_doTick_39 : decode cX2_doTick 39 = .ok (.invokevirtual 173, 3) := by decide +kernel
theorem dX2_doTick_42 : decode cX2_doTick 42 = .ok (.aload_n 0, 1) := by decide +kernel
theorem dX2_doTick_43 : decode cX2_doTick 43 = .ok (.getfield 38, 3) := by decide +kernel
theorem dX2_doTick_46 : decode cX2_doTick 46 = .ok (.ifnonnull 7, 3) := by decide +kernel
theorem dX2_doTick_49 : decode cX2_doTick 49 = .ok (.aload_n 0, 1) := by decide +kernel
theorem dX2_doTick_50 : decode cX2_doTick 50 = .ok (.invokevirtual 176, 3) := by decide +kernel
theorem dX2_doTick_53 : decode cX2_doTick 53 = .ok (.aload_n 0, 1) := by decide +kernel
theorem dX2_doTick_54 : decode cX2_doTick 54 = .ok (.invokevirtual 179, 3) := by decide +kernel
theorem dX2_doTick_57 : decode cX2_doTick 57 = .ok (.aload_n 0, 1) := by decide +kernel
theorem dX2_doTick_58 : decode cX2_doTick 58 = .ok (.getfield 38, 3) := by decide +kernel
theorem dX2_doTick_61 : decode cX2_doTick 61 = .ok (.ifnonnull 16, 3) := by decide +kernel
theorem dX2_doTick_64 : decode cX2_doTick 64 = .ok (.aload_n 0, 1) := by decide +kernel
theorem dX2_doTick_65 : decode cX2_doTick 65 = .ok (.dup, 1) := by decide +kernel
theorem dX2_doTick_66 : decode cX2_doTick 66 = .ok (.getfield 45, 3) := by decide +kernel
theorem dX2_doTick_69 : decode cX2_doTick 69 = .ok (.iconst 1, 1) := by decide +kernel
theorem dX2_doTick_70 : decode cX2_doTick 70 = .ok (.iadd, 1) := by decide +kernel
theorem dX2_doTick_71 : decode cX2_doTick 71 = .ok (.putfield 45, 3) := by decide +kernel
theorem dX2_doTick_74 : decode cX2_doTick 74 = .ok (.goto 11, 3) := by decide +kernel
theorem dX2_doTick_77 : decode cX2_doTick 77 = .ok (.aload_n 0, 1) := by decide +kernel
theorem dX2_doTick_78 : decode cX2_doTick 78 = .ok (.aload_n 0, 1) := by decide +kernel
theorem dX2_doTick_79 : decode cX2_doTick 79 = .ok (.getfield 38, 3) := by decide +kernel
theorem dX2_doTick_82 : decode cX2_doTick 82 = .ok (.invokevirtual 182, 3) := by decide +kernel
theorem dX2_doTick_85 : decode cX2_doTick 85 = .ok (.aload_n 0, 1) := by decide +kernel
theorem dX2_doTick_86 : decode cX2_doTick 86 = .ok (.dup, 1) := by decide +kernel
theorem dX2_doTick_87 : decode cX2_doTick 87 = .ok (.getfield 35, 3) := by decide +kernel
theorem dX2_doTick_90 : decode cX2_doTick 90 = .ok (.iconst 1, 1) := by decide +kernel
theorem dX2_doTick_91 : decode cX2_doTick 91 = .ok (.iadd, 1) := by decide +kernel
theorem dX2_doTick_92 : decode cX2_doTick 92 = .ok (.putfield 35, 3) := by decide +kernel
theorem dX2_doTick_95 : decode cX2_doTick 95 = .ok (.return_, 1) := by decide +kernel
set_option maxRecDepth 20000 in
theorem ggX2_bringAllUp_X1_comeUp : GoodIn wsX2_bringAllUp wsX1_comeUp := goodIn_r _ [9, 10, 11, 12, 13, 14, 15, 16, 17, 43, 44, 45, 46, 47, 48, 49, 50, 51, 52, 53, 54, 55, 56, 57, 58, 59, 60, 61] (by decide +kernel) (by decide +kernel)
set_option maxRecDepth 20000 in
theorem gX2_bringAllUp_X1_comeUp_n186 : GoodIn wsX2_bringAllUp (wsX1_comeUp) := ggX2_bringAllUp_X1_comeUp
set_option maxRecDepth 20000 in
theorem ggX2_bringAllUp_X0_addAllOf : GoodIn wsX2_bringAllUp wsX0_addAllOf := goodIn_r _ [21, 22, 23, 24, 25, 26, 19, 27, 62, 63, 64, 65] (by decide +kernel) (by decide +kernel)
set_option maxRecDepth 20000 in
theorem gX2_bringAllUp_X0_addAllOf_n190 : GoodIn wsX2_bringAllUp (wsX0_addAllOf) := ggX2_bringAllUp_X0_addAllOf
set_option maxRecDepth 20000 in
theorem ggX2_bringAllUp_X0_clear : GoodIn wsX2_bringAllUp wsX0_clear := goodIn_r _ [30, 22, 62, 63, 64, 65] (by decide +kernel) (by decide +kernel)
set_option maxRecDepth 20000 in
theorem gX2_bringAllUp_X0_clear_n160 : GoodIn wsX2_bringAllUp (wsX0_clear) := ggX2_bringAllUp_X0_clear
theorem dX2_bringAllUp_0 : decode cX2_bringAllUp 0 = .ok (.aload_n 0, 1) := by decide +kernel
theorem dX2_bringAllUp_1 : decode cX2_bringAllUp 1 = .ok (.dup, 1) := by decide +kernel
theorem dX2_bringAllUp_2 : decode cX2_bringAllUp 2 = .ok (.getfield 48, 3) := by decide +kernel
theorem dX2_bringAllUp_5 : decode cX2_bringAllUp 5 = .ok (.iconst 1, 1) := by decide +kernel
theorem dX2_bringAllUp_6 : decode cX2_bringAllUp 6 = .ok (.iadd, 1) := by decide +kernel
theorem dX2_bringAllUp_7 : decode cX2_bringAllUp 7 = .ok (.putfield 48, 3) := by decide +kernel
theorem dX2_bringAllUp_10 : decode cX2_bringAllUp 10 = .ok (.aload_n 0, 1) := by decide +kernel
theorem dX2_bringAllUp_11 : decode cX2_bringAllUp 11 = .ok (.getfield 11, 3) := by decide +kernel
theorem dX2_bringAllUp_14 : decode cX2_bringAllUp 14 = .ok (.iconst 0, 1) := by decide +kernel
theorem dX2_bringAllUp_15 : decode cX2_bringAllUp 15 = .ok (.aaload, 1) := by decide +kernel
theorem dX2_bringAllUp_16 : decode cX2_bringAllUp 16 = .ok (.astore_n 1, 1) := by decide +kernel
theorem dX2_bringAllUp_17 : decode cX2_bringAllUp 17 = .ok (.iconst 0, 1) := by decide +kernel
theorem dX2_bringAllUp_18 : decode cX2_bringAllUp 18 = .ok (.istore_n 2, 1) := by decide +kernel
theorem dX2_bringAllUp_19 : decode cX2_bringAllUp 19 = .ok (.iload_n 2, 1) := by decide +kernel
theorem dX2_bringAllUp_20 : decode cX2_bringAllUp 20 = .ok (.aload_n 0, 1) := by decide +kernel
theorem dX2_bringAllUp_21 : decode cX2_bringAllUp 21 = .ok (.getfield 29, 3) := by decide +kernel
theorem dX2_bringAllUp_24 : decode cX2_bringAllUp 24 = .ok (.if_icmp .ge 51, 3) := by decide +kernel
theorem dX2_bringAllUp_27 : decode cX2_bringAllUp 27 = .ok (.aload_n 0, 1) := by decide +kernel
theorem dX2_bringAllUp_28 : decode cX2_bringAllUp 28 = .ok (.getfield 17, 3) := by decide +kernel
theorem dX2_bringAllUp_31 : decode cX2_bringAllUp 31 = .ok (.iload_n 2, 1) := by decide +kernel
theorem dX2_bringAllUp_32 : decode cX2_bringAllUp 32 = .ok (.aaload, 1) := by decide +kernel
theorem dX2_bringAllUp_33 : decode cX2_bringAllUp 33 = .ok (.getfield 118, 3) := by decide +kernel
theorem dX2_bringAllUp_36 : decode cX2_bringAllUp 36 = .ok (.ifCond .eq 33, 3) := by decide +kernel
theorem dX2_bringAllUp_39 : decode cX2_bringAllUp 39 = .ok (.aload_n 0, 1) := by decide +kernel
theorem dX2_bringAllUp_40 : decode cX2_bringAllUp 40 = .ok (.getfield 17, 3) := by decide +kernel
theorem dX2_bringAllUp_43 : decode cX2_bringAllUp 43 = .ok (.iload_n 2, 1) := by decide +kernel
theorem dX2_bringAllUp_44 : decode cX2_bringAllUp 44 = .ok (.aaload, 1) := by decide +kernel
theorem dX2_bringAllUp_45 : decode cX2_bringAllUp 45 = .ok (.getfield 118, 3) := by decide +kernel
theorem dX2_bringAllUp_48 : decode cX2_bringAllUp 48 = .ok (.iconst 4, 1) := by decide +kernel
theorem dX2_bringAllUp_49 : decode cX2_bringAllUp 49 = .ok (.if_icmp .eq 20, 3) := by decide +kernel
theorem dX2_bringAllUp_52 : decode cX2_bringAllUp 52 = .ok (.aload_n 0, 1) := by decide +kernel
theorem dX2_bringAllUp_53 : decode cX2_bringAllUp 53 = .ok (.getfield 17, 3) := by decide +kernel
theorem dX2_bringAllUp_56 : decode cX2_bringAllUp 56 = .ok (.iload_n 2, 1) := by decide +kernel
theorem dX2_bringAllUp_57 : decode cX2_bringAllUp 57 = .ok (.aaload, 1) := by decide +kernel
theorem dX2_bringAllUp_58 : decode cX2_bringAllUp 58 = .ok (.aload_n 1, 1) := by decide +kernel
theorem dX2_bringAllUp_59 : decode cX2_bringAllUp 59 = .ok (.getfield 65, 3) := by decide +kernel
theorem dX2_bringAllUp_62 : decode cX2_bringAllUp 62 = .ok (.aload_n 1, 1) := by decide +kernel
theorem dX2_bringAllUp_63 : decode cX2_bringAllUp 63 = .ok (.getfield 68, 3) := by decide +kernel
theorem dX2_bringAllUp_66 : decode cX2_bringAllUp 66 = .ok (.invokevirtual 186, 3) := by decide +kernel
theorem dX2_bringAllUp_69 : decode cX2_bringAllUp 69 = .ok (.iinc 2 1, 3) := by decide +kernel
theorem dX2_bringAllUp_72 : decode cX2_bringAllUp 72 = .ok (.goto (-53), 3) := by decide +kernel
theorem dX2_bringAllUp_75 : decode cX2_bringAllUp 75 = .ok (.iconst 1, 1) := by decide +kernel
theorem dX2_bringAllUp_76 : decode cX2_bringAllUp 76 = .ok (.istore_n 2, 1) := by decide +kernel
theorem dX2_bringAllUp_77 : decode cX2_bringAllUp 77 = .ok (.iload_n 2, 1) := by decide +kernel
theorem dX2_bringAllUp_78 : decode cX2_bringAllUp 78 = .ok (.aload_n 0, 1) := by decide +kernel
theorem dX2_bringAllUp_79 : decode cX2_bringAllUp 79 = .ok (.getfield 25, 3) := by decide +kernel
theorem dX2_bringAllUp_82 : decode cX2_bringAllUp 82 = .ok (.if_icmp .ge 28, 3) := by decide +kernel
theorem dX2_bringAllUp_85 : decode cX2_bringAllUp 85 = .ok (.aload_n 1, 1) := by decide +kernel
theorem dX2_bringAllUp_86 : decode cX2_bringAllUp 86 = .ok (.aload_n 0, 1) := by decide +kernel
theorem dX2_bringAllUp_87 : decode cX2_bringAllUp 87 = .ok (.getfield 11, 3) := by decide +kernel
theorem dX2_bringAllUp_90 : decode cX2_bringAllUp 90 = .ok (.iload_n 2, 1) := by decide +kernel
theorem dX2_bringAllUp_91 : decode cX2_bringAllUp 91 = .ok (.aaload, 1) := by decide +kernel
theorem dX2_bringAllUp_92 : decode cX2_bringAllUp 92 = .ok (.invokevirtual 190, 3) := by decide +kernel
theorem dX2_bringAllUp_95 : decode cX2_bringAllUp 95 = .ok (.aload_n 0, 1) := by decide +kernel
theorem dX2_bringAllUp_96 : decode cX2_bringAllUp 96 = .ok (.getfield 11, 3) := by decide +kernel
theorem dX2_bringAllUp_99 : decode cX2_bringAllUp 99 = .ok (.iload_n 2, 1) := by decide +kernel
theorem dX2_bringAllUp_100 : decode cX2_bringAllUp 100 = .ok (.aaload, 1) := by decide +kernel
theorem dX2_bringAllUp_101 : decode cX2_bringAllUp 101 = .ok (.invokevirtual 160, 3) := by decide +kernel
theorem dX2_bringAllUp_104 : decode cX2_bringAllUp 104 = .ok (.iinc 2 1, 3) := by decide +kernel
theorem dX2_bringAllUp_107 : decode cX2_bringAllUp 107 = .ok (.goto (-30), 3) := by decide +kernel
theorem dX2_bringAllUp_110 : decode cX2_bringAllUp 110 = .ok (.return_, 1) := by decide +kernel
set_option maxRecDepth 20000 in
theorem ggX2_letArrive_X2_goOnOrEnd : GoodIn wsX2_letArrive wsX2_goOnOrEnd := goodIn_r _ [9, 3, 10, 11, 12, 13, 14, 15, 16, 17, 18, 19, 20, 8, 21, 4, 22, 23, 24, 25, 26, 27, 28, 29, 30, 31, 32, 33, 34, 35, 36, 37, 38, 39, 40, 41, 42, 43, 44, 45, 46, 47, 48, 49, 50, 51, 52, 53, 54, 55, 56, 57, 58, 59, 60, 61, 62, 63, 64, 65, 66, 67] (by decide +kernel) (by decide +kernel)
set_option maxRecDepth 20000 in
theorem gX2_letArrive_X2_goOnOrEnd : GoodIn wsX2_letArrive (wsV RX2 200 RX2 yX2_goOnOrEnd wsX2_goOnOrEnd) := goodIn_app (goodIn_of _ (by decide +kernel)) ggX2_letArrive_X2_goOnOrEnd
theorem dX2_letArrive_0 : decode cX2_letArrive 0 = .ok (.iconst 0, 1) := by decide +kernel
theorem dX2_letArrive_1 : decode cX2_letArrive 1 = .ok (.istore_n 1, 1) := by decide +kernel
theorem dX2_letArrive_2 : decode cX2_letArrive 2 = .ok (.iload_n 1, 1) := by decide +kernel
theorem dX2_letArrive_3 : decode cX2_letArrive 3 = .ok (.aload_n 0, 1) := by decide +kernel
theorem dX2_letArrive_4 : decode cX2_letArrive 4 = .ok (.getfield 29, 3) := by decide +kernel
theorem dX2_letArrive_7 : decode cX2_letArrive 7 = .ok (.if_icmp .ge 52, 3) := by decide +kernel
theorem dX2_letArrive_10 : decode cX2_letArrive 10 = .ok (.aload_n 0, 1) := by decide +kernel
theorem dX2_letArrive_11 : decode cX2_letArrive 11 = .ok (.getfield 17, 3) := by decide +kernel
theorem dX2_letArrive_14 : decode cX2_letArrive 14 = .ok (.iload_n 1, 1) := by decide +kernel
theorem dX2_letArrive_15 : decode cX2_letArrive 15 = .ok (.aaload, 1) := by decide +kernel
theorem dX2_letArrive_16 : decode cX2_letArrive 16 = .ok (.astore_n 2, 1) := by decide +kernel
theorem dX2_letArrive_17 : decode cX2_letArrive 17 = .ok (.aload_n 2, 1) := by decide +kernel
theorem dX2_letArrive_18 : decode cX2_letArrive 18 = .ok (.getfield 118, 3) := by decide +kernel
theorem dX2_letArrive_21 : decode cX2_letArrive 21 = .ok (.ifCond .ne 32, 3) := by decide +kernel
theorem dX2_letArrive_24 : decode cX2_letArrive 24 = .ok (.aload_n 2, 1) := by decide +kernel
theorem dX2_letArrive_25 : decode cX2_letArrive 25 = .ok (.getfield 194, 3) := by decide +kernel
theorem dX2_letArrive_28 : decode cX2_letArrive 28 = .ok (.aload_n 0, 1) := by decide +kernel
theorem dX2_letArrive_29 : decode cX2_letArrive 29 = .ok (.getfield 35, 3) := by decide +kernel
theorem dX2_letArrive_32 : decode cX2_letArrive 32 = .ok (.if_icmp .ne 21, 3) := by decide +kernel
theorem dX2_letArrive_35 : decode cX2_letArrive 35 = .ok (.aload_n 2, 1) := by decide +kernel
theorem dX2_letArrive_36 : decode cX2_letArrive 36 = .ok (.aload_n 0, 1) := by decide +kernel
theorem dX2_letArrive_37 : decode cX2_letArrive 37 = .ok (.getfield 11, 3) := by decide +kernel
theorem dX2_letArrive_40 : decode cX2_letArrive 40 = .ok (.iconst 0, 1) := by decide +kernel
theorem dX2_letArrive_41 : decode cX2_letArrive 41 = .ok (.aaload, 1) := by decide +kernel
theorem dX2_letArrive_42 : decode cX2_letArrive 42 = .ok (.getfield 68, 3) := by decide +kernel
theorem dX2_letArrive_45 : decode cX2_letArrive 45 = .ok (.putfield 197, 3) := by decide +kernel
theorem dX2_letArrive_48 : decode cX2_letArrive 48 = .ok (.aload_n 0, 1) := by decide +kernel
theorem dX2_letArrive_49 : decode cX2_letArrive 49 = .ok (.aload_n 2, 1) := by decide +kernel
theorem dX2_letArrive_50 : decode cX2_letArrive 50 = .ok (.invokevirtual 200, 3) := by decide +kernel
theorem dX2_letArrive_53 : decode cX2_letArrive 53 = .ok (.iinc 1 1, 3) := by decide +kernel
theorem dX2_letArrive_56 : decode cX2_letArrive 56 = .ok (.goto (-54), 3) := by decide +kernel
theorem dX2_letArrive_59 : decode cX2_letArrive 59 = .ok (.return_, 1) := by decide +kernel
set_option maxRecDepth 20000 in
theorem ggX2_letComeBack_X2_goOnOrEnd : GoodIn wsX2_letComeBack wsX2_goOnOrEnd := goodIn_r _ [7, 8, 9, 10, 11, 12, 13, 14, 15, 16, 17, 18, 19, 6, 20, 21, 22, 23, 24, 25, 26, 27, 28, 29, 30, 31, 32, 33, 34, 35, 36, 37, 38, 39, 40, 41, 42, 43, 44, 45, 46, 47, 48, 49, 50, 51, 52, 53, 54, 55, 56, 57, 58, 59, 60, 61, 62, 63, 64, 65, 66, 67] (by decide +kernel) (by decide +kernel)
set_option maxRecDepth 20000 in
theorem gX2_letComeBack_X2_goOnOrEnd : GoodIn wsX2_letComeBack (wsV RX2 200 RX2 yX2_goOnOrEnd wsX2_goOnOrEnd) := goodIn_app (goodIn_of _ (by decide +kernel)) ggX2_letComeBack_X2_goOnOrEnd
theorem dX2_letComeBack_0 : decode cX2_letComeBack 0 = .ok (.iconst 0, 1) := by decide +kernel
theorem dX2_letComeBack_1 : decode cX2_letComeBack 1 = .ok (.istore_n 1, 1) := by decide +kernel
theorem dX2_letComeBack_2 : decode cX2_letComeBack 2 = .ok (.iload_n 1, 1) := by decide +kernel
theorem dX2_letComeBack_3 : decode cX2_letComeBack 3 = .ok (.aload_n 0, 1) := by decide +kernel
theorem dX2_letComeBack_4 : decode cX2_letComeBack 4 = .ok (.getfield 29, 3) := by decide +kernel
theorem dX2_letComeBack_7 : decode cX2_letComeBack 7 = .ok (.if_icmp .ge 36, 3) := by decide +kernel
theorem dX2_letComeBack_10 : decode cX2_letComeBack 10 = .ok (.aload_n 0, 1) := by decide +kernel
theorem dX2_letComeBack_11 : decode cX2_letComeBack 11 = .ok (.getfield 17, 3) := by decide +kernel
theorem dX2_letComeBack_14 : decode cX2_letComeBack 14 = .ok (.iload_n 1, 1) := by decide +kernel
theorem dX2_letComeBack_15 : decode cX2_letComeBack 15 = .ok (.aaload, 1) := by decide +kernel
theorem dX2_letComeBack_16 : decode cX2_letComeBack 16 = .ok (.astore_n 2, 1) := by decide +kernel
theorem dX2_letComeBack_17 : decode cX2_letComeBack 17 = .ok (.aload_n 2, 1) := by decide +kernel
theorem dX2_letComeBack_18 : decode cX2_letComeBack 18 = .ok (.getfield 118, 3) := by decide +kernel
theorem dX2_letComeBack_21 : decode cX2_letComeBack 21 = .ok (.iconst 3, 1) := by decide +kernel
theorem dX2_letComeBack_22 : decode cX2_letComeBack 22 = .ok (.if_icmp .ne 15, 3) := by decide +kernel
theorem dX2_letComeBack_25 : decode cX2_letComeBack 25 = .ok (.aload_n 2, 1) := by decide +kernel
theorem dX2_letComeBack_26 : decode cX2_letComeBack 26 = .ok (.getfield 203, 3) := by decide +kernel
theorem dX2_letComeBack_29 : decode cX2_letComeBack 29 = .ok (.ifCond .ne 8, 3) := by decide +kernel
theorem dX2_letComeBack_32 : decode cX2_letComeBack 32 = .ok (.aload_n 0, 1) := by decide +kernel
theorem dX2_letComeBack_33 : decode cX2_letComeBack 33 = .ok (.aload_n 2, 1) := by decide +kernel
theorem dX2_letComeBack_34 : decode cX2_letComeBack 34 = .ok (.invokevirtual 200, 3) := by decide +kernel
theorem dX2_letComeBack_37 : decode cX2_letComeBack 37 = .ok (.iinc 1 1, 3) := by decide +kernel
theorem dX2_letComeBack_40 : decode cX2_letComeBack 40 = .ok (.goto (-38), 3) := by decide +kernel
theorem dX2_letComeBack_43 : decode cX2_letComeBack 43 = .ok (.return_, 1) := by decide +kernel
set_option maxRecDepth 20000 in
theorem ggX2_goOnOrEnd_X1_beginBurst : GoodIn wsX2_goOnOrEnd wsX1_beginBurst := goodIn_r _ [5, 6, 7, 8, 9, 39, 40, 41, 42, 43, 44, 45, 46, 47, 48, 49, 50, 51, 52, 53, 54, 55, 56, 57] (by decide +kernel) (by decide +kernel)
set_option maxRecDepth 20000 in
theorem gX2_goOnOrEnd_X1_beginBurst_n206 : GoodIn wsX2_goOnOrEnd (wsX1_beginBurst) := ggX2_goOnOrEnd_X1_beginBurst
set_option maxRecDepth 20000 in
theorem ggX2_goOnOrEnd_X2_standAtEnd : GoodIn wsX2_goOnOrEnd wsX2_standAtEnd := goodIn_r _ [14, 15, 16, 17, 18, 19, 20, 21, 39, 40, 41, 42, 43, 44, 45, 46, 47, 48, 49, 50, 51, 52, 53, 54, 55, 56, 57, 27, 28, 29, 30, 31, 32, 33, 34, 35, 36, 37, 38, 58, 59, 60, 61] (by decide +kernel) (by decide +kernel)
set_option maxRecDepth 20000 in
theorem gX2_goOnOrEnd_X2_standAtEnd : GoodIn wsX2_goOnOrEnd (wsV RX2 210 RX2 yX2_standAtEnd wsX2_standAtEnd) := goodIn_app (goodIn_of _ (by decide +kernel)) ggX2_goOnOrEnd_X2_standAtEnd
set_option maxRecDepth 20000 in
theorem ggX2_goOnOrEnd_X2_endTask : GoodIn wsX2_goOnOrEnd wsX2_endTask := goodIn_r _ [25, 26, 39, 40, 41, 42, 43, 44, 45, 46, 47, 48, 49, 50, 51, 52, 53, 54, 55, 56, 57, 27, 28, 29, 30, 31, 32, 33, 34, 35, 36, 37, 38] (by decide +kernel) (by decide +kernel)
set_option maxRecDepth 20000 in
theorem gX2_goOnOrEnd_X2_endTask : GoodIn wsX2_goOnOrEnd (wsV RX2 213 RX2 yX2_endTask wsX2_endTask) := goodIn_app (goodIn_of _ (by decide +kernel)) ggX2_goOnOrEnd_X2_endTask
theorem dX2_goOnOrEnd_0 : decode cX2_goOnOrEnd 0 = .ok (.aload_n 1, 1) := by decide +kernel
theorem dX2_goOnOrEnd_1 : decode cX2_goOnOrEnd 1 = .ok (.invokevirtual 206, 3) := by decide +kernel
theorem dX2_goOnOrEnd_4 : decode cX2_goOnOrEnd 4 = .ok (.ifCond .eq 11, 3) := by decide +kernel
theorem dX2_goOnOrEnd_7 : decode cX2_goOnOrEnd 7 = .ok (.aload_n 0, 1) := by decide +kernel
theorem dX2_goOnOrEnd_8 : decode cX2_goOnOrEnd 8 = .ok (.aload_n 1, 1) := by decide +kernel
theorem dX2_goOnOrEnd_9 : decode cX2_goOnOrEnd 9 = .ok (.invokevirtual 210, 3) := by decide +kernel
theorem dX2_goOnOrEnd_12 : decode cX2_goOnOrEnd 12 = .ok (.goto 12, 3) := by decide +kernel
theorem dX2_goOnOrEnd_15 : decode cX2_goOnOrEnd 15 = .ok (.aload_n 0, 1) := by decide +kernel
theorem dX2_goOnOrEnd_16 : decode cX2_goOnOrEnd 16 = .ok (.aload_n 1, 1) := by decide +kernel
theorem dX2_goOnOrEnd_17 : decode cX2_goOnOrEnd 17 = .ok (.aload_n 0, 1) := by decide +kernel
theorem dX2_goOnOrEnd_18 : decode cX2_goOnOrEnd 18 = .ok (.getfield 35, 3) := by decide +kernel
theorem dX2_goOnOrEnd_21 : decode cX2_goOnOrEnd 21 = .ok (.invokevirtual 213, 3) := by decide +kernel
theorem dX2_goOnOrEnd_24 : decode cX2_goOnOrEnd 24 = .ok (.return_, 1) := by decide +kernel
set_option maxRecDepth 20000 in
theorem ggX2_makeWay_X2_isOneReadyAbove : GoodIn wsX2_makeWay wsX2_isOneReadyAbove := goodIn_r _ [7, 2, 14, 15, 16, 17, 18, 19, 20, 21, 22, 23, 24, 25, 45, 46, 47, 48] (by decide +kernel) (by decide +kernel)
set_option maxRecDepth 20000 in
theorem gX2_makeWay_X2_isOneReadyAbove : GoodIn wsX2_makeWay (wsV RX2 217 RX2 yX2_isOneReadyAbove wsX2_isOneReadyAbove) := goodIn_app (goodIn_of _ (by decide +kernel)) ggX2_makeWay_X2_isOneReadyAbove
set_option maxRecDepth 20000 in
theorem ggX2_makeWay_X0_addFirst : GoodIn wsX2_makeWay wsX0_addFirst := goodIn_r _ [11, 12, 13, 45, 46, 47, 48] (by decide +kernel) (by decide +kernel)
set_option maxRecDepth 20000 in
theorem gX2_makeWay_X0_addFirst_n224 : GoodIn wsX2_makeWay (wsX0_addFirst) := ggX2_makeWay_X0_addFirst
theorem dX2_makeWay_0 : decode cX2_makeWay 0 = .ok (.aload_n 0, 1) := by decide +kernel
theorem dX2_makeWay_1 : decode cX2_makeWay 1 = .ok (.getfield 38, 3) := by decide +kernel
theorem dX2_makeWay_4 : decode cX2_makeWay 4 = .ok (.ifnull 17, 3) := by decide +kernel
theorem dX2_makeWay_7 : decode cX2_makeWay 7 = .ok (.aload_n 0, 1) := by decide +kernel
theorem dX2_makeWay_8 : decode cX2_makeWay 8 = .ok (.aload_n 0, 1) := by decide +kernel
theorem dX2_makeWay_9 : decode cX2_makeWay 9 = .ok (.getfield 38, 3) := by decide +kernel
theorem dX2_makeWay_12 : decode cX2_makeWay 12 = .ok (.getfield 121, 3) := by decide +kernel
theorem dX2_makeWay_15 : decode cX2_makeWay 15 = .ok (.invokevirtual 217, 3) := by decide +kernel
theorem dX2_makeWay_18 : decode cX2_makeWay 18 = .ok (.ifCond .ne 4, 3) := by decide +kernel
theorem dX2_makeWay_21 : decode cX2_makeWay 21 = .ok (.return_, 1) := by decide +kernel
theorem dX2_makeWay_22 : decode cX2_makeWay 22 = .ok (.aload_n 0, 1) := by decide +kernel
theorem dX2_makeWay_23 : decode cX2_makeWay 23 = .ok (.getfield 38, 3) := by decide +kernel
theorem dX2_makeWay_26 : decode cX2_makeWay 26 = .ok (.iconst 1, 1) := by decide +kernel
theorem dX2_makeWay_27 : decode cX2_makeWay 27 = .ok (.putfield 118, 3) := by decide +kernel
theorem dX2_makeWay_30 : decode cX2_makeWay 30 = .ok (.aload_n 0, 1) := by decide +kernel
theorem dX2_makeWay_31 : decode cX2_makeWay 31 = .ok (.getfield 38, 3) := by decide +kernel
theorem dX2_makeWay_34 : decode cX2_makeWay 34 = .ok (.iconst 1, 1) := by decide +kernel
theorem dX2_makeWay_35 : decode cX2_makeWay 35 = .ok (.putfield 220, 3) := by decide +kernel
theorem dX2_makeWay_38 : decode cX2_makeWay 38 = .ok (.aload_n 0, 1) := by decide +kernel
theorem dX2_makeWay_39 : decode cX2_makeWay 39 = .ok (.getfield 38, 3) := by decide +kernel
theorem dX2_makeWay_42 : decode cX2_makeWay 42 = .ok (.dup, 1) := by decide +kernel
theorem dX2_makeWay_43 : decode cX2_makeWay 43 = .ok (.getfield 145, 3) := by decide +kernel
theorem dX2_makeWay_46 : decode cX2_makeWay 46 = .ok (.iconst 1, 1) := by decide +kernel
theorem dX2_makeWay_47 : decode cX2_makeWay 47 = .ok (.iadd, 1) := by decide +kernel
theorem dX2_makeWay_48 : decode cX2_makeWay 48 = .ok (.putfield 145, 3) := by decide +kernel
theorem dX2_makeWay_51 : decode cX2_makeWay 51 = .ok (.aload_n 0, 1) := by decide +kernel
theorem dX2_makeWay_52 : decode cX2_makeWay 52 = .ok (.getfield 11, 3) := by decide +kernel
theorem dX2_makeWay_55 : decode cX2_makeWay 55 = .ok (.aload_n 0, 1) := by decide +kernel
theorem dX2_makeWay_56 : decode cX2_makeWay 56 = .ok (.getfield 38, 3) := by decide +kernel
theorem dX2_makeWay_59 : decode cX2_makeWay 59 = .ok (.getfield 121, 3) := by decide +kernel
theorem dX2_makeWay_62 : decode cX2_makeWay 62 = .ok (.aaload, 1) := by decide +kernel
theorem dX2_makeWay_63 : decode cX2_makeWay 63 = .ok (.aload_n 0, 1) := by decide +kernel
theorem dX2_makeWay_64 : decode cX2_makeWay 64 = .ok (.getfield 38, 3) := by decide +kernel
theorem dX2_makeWay_67 : decode cX2_makeWay 67 = .ok (.getfield 150, 3) := by decide +kernel
theorem dX2_makeWay_70 : decode cX2_makeWay 70 = .ok (.invokevirtual 224, 3) := by decide +kernel
theorem dX2_makeWay_73 : decode cX2_makeWay 73 = .ok (.aload_n 0, 1) := by decide +kernel
theorem dX2_makeWay_74 : decode cX2_makeWay 74 = .ok (.aconst_null, 1) := by decide +kernel
theorem dX2_makeWay_75 : decode cX2_makeWay 75 = .ok (.putfield 38, 3) := by decide +kernel
theorem dX2_makeWay_78 : decode cX2_makeWay 78 = .ok (.return_, 1) := by decide +kernel
theorem dX2_isOneReadyAbove_0 : decode cX2_isOneReadyAbove 0 = .ok (.iconst 0, 1) := by decide +kernel
theorem dX2_isOneReadyAbove_1 : decode cX2_isOneReadyAbove 1 = .ok (.istore_n 2, 1) := by decide +kernel
theorem dX2_isOneReadyAbove_2 : decode cX2_isOneReadyAbove 2 = .ok (.iload_n 2, 1) := by decide +kernel
theorem dX2_isOneReadyAbove_3 : decode cX2_isOneReadyAbove 3 = .ok (.iload_n 1, 1) := by decide +kernel
theorem dX2_isOneReadyAbove_4 : decode cX2_isOneReadyAbove 4 = .ok (.if_icmp .ge 23, 3) := by decide +kernel
theorem dX2_isOneReadyAbove_7 : decode cX2_isOneReadyAbove 7 = .ok (.aload_n 0, 1) := by decide +kernel
theorem dX2_isOneReadyAbove_8 : decode cX2_isOneReadyAbove 8 = .ok (.getfield 11, 3) := by decide +kernel
theorem dX2_isOneReadyAbove_11 : decode cX2_isOneReadyAbove 11 = .ok (.iload_n 2, 1) := by decide +kernel
theorem dX2_isOneReadyAbove_12 : decode cX2_isOneReadyAbove 12 = .ok (.aaload, 1) := by decide +kernel
theorem dX2_isOneReadyAbove_13 : decode cX2_isOneReadyAbove 13 = .ok (.getfield 227, 3) := by decide +kernel
theorem dX2_isOneReadyAbove_16 : decode cX2_isOneReadyAbove 16 = .ok (.ifCond .le 5, 3) := by decide +kernel
theorem dX2_isOneReadyAbove_19 : decode cX2_isOneReadyAbove 19 = .ok (.iconst 1, 1) := by decide +kernel
theorem dX2_isOneReadyAbove_20 : decode cX2_isOneReadyAbove 20 = .ok (.ireturn, 1) := by decide +kernel
theorem dX2_isOneReadyAbove_21 : decode cX2_isOneReadyAbove 21 = .ok (.iinc 2 1, 3) := by decide +kernel
theorem dX2_isOneReadyAbove_24 : decode cX2_isOneReadyAbove 24 = .ok (.goto (-22), 3) := by decide +kernel
theorem dX2_isOneReadyAbove_27 : decode cX2_isOneReadyAbove 27 = .ok (.iconst 0, 1) := by decide +kernel
theorem dX2_isOneReadyAbove_28 : decode cX2_isOneReadyAbove 28 = .ok (.ireturn, 1) := by decide +kernel
set_option maxRecDepth 20000 in
theorem ggX2_switchToFirst_X0_takeFirst : GoodIn wsX2_switchToFirst wsX0_takeFirst := goodIn_r _ [7, 8, 9, 45, 46, 47, 48] (by decide +kernel) (by decide +kernel)
set_option maxRecDepth 20000 in
theorem gX2_switchToFirst_X0_takeFirst_n230 : GoodIn wsX2_switchToFirst (wsX0_takeFirst) := ggX2_switchToFirst_X0_takeFirst
set_option maxRecDepth 20000 in
theorem ggX2_switchToFirst_X2_isTask : GoodIn wsX2_switchToFirst wsX2_isTask := goodIn_r _ [14, 15, 33, 34, 35, 36, 37, 38, 39, 40, 41, 42, 43, 44] (by decide +kernel) (by decide +kernel)
set_option maxRecDepth 20000 in
theorem gX2_switchToFirst_X2_isTask : GoodIn wsX2_switchToFirst (wsV RX2 99 RX2 yX2_isTask wsX2_isTask) := goodIn_app (goodIn_of _ (by decide +kernel)) ggX2_switchToFirst_X2_isTask
set_option maxRecDepth 20000 in
theorem ggX2_switchToFirst_X2_switchTo : GoodIn wsX2_switchToFirst wsX2_switchTo := goodIn_r _ [19, 20, 2, 21, 22, 23, 24, 25, 26, 27, 28, 29, 30, 31, 32, 33, 34, 35, 36, 37, 38, 39, 40, 41, 42, 43, 44, 49, 50, 51, 52, 53, 54, 55, 56, 57, 58, 59, 60, 61, 62, 63, 64, 65, 66, 67, 45, 46, 47, 48] (by decide +kernel) (by decide +kernel)
set_option maxRecDepth 20000 in
theorem gX2_switchToFirst_X2_switchTo : GoodIn wsX2_switchToFirst (wsV RX2 234 RX2 yX2_switchTo wsX2_switchTo) := goodIn_app (goodIn_of _ (by decide +kernel)) ggX2_switchToFirst_X2_switchTo
theorem dX2_switchToFirst_0 : decode cX2_switchToFirst 0 = .ok (.iconst 0, 1) := by decide +kernel
theorem dX2_switchToFirst_1 : decode cX2_switchToFirst 1 = .ok (.istore_n 1, 1) := by decide +kernel
theorem dX2_switchToFirst_2 : decode cX2_switchToFirst 2 = .ok (.iload_n 1, 1) := by decide +kernel
theorem dX2_switchToFirst_3 : decode cX2_switchToFirst 3 = .ok (.aload_n 0, 1) := by decide +kernel
theorem dX2_switchToFirst_4 : decode cX2_switchToFirst 4 = .ok (.getfield 25, 3) := by decide +kernel
theorem dX2_switchToFirst_7 : decode cX2_switchToFirst 7 = .ok (.if_icmp .ge 38, 3) := by decide +kernel
theorem dX2_switchToFirst_10 : decode cX2_switchToFirst 10 = .ok (.aload_n 0, 1) := by decide +kernel
theorem dX2_switchToFirst_11 : decode cX2_switchToFirst 11 = .ok (.getfield 11, 3) := by decide +kernel
theorem dX2_switchToFirst_14 : decode cX2_switchToFirst 14 = .ok (.iload_n 1, 1) := by decide +kernel
theorem dX2_switchToFirst_15 : decode cX2_switchToFirst 15 = .ok (.aaload, 1) := by decide +kernel
theorem dX2_switchToFirst_16 : decode cX2_switchToFirst 16 = .ok (.invokevirtual 230, 3) := by decide +kernel
theorem dX2_switchToFirst_19 : decode cX2_switchToFirst 19 = .ok (.istore_n 2, 1) := by decide +kernel
theorem dX2_switchToFirst_20 : decode cX2_switchToFirst 20 = .ok (.aload_n 0, 1) := by decide +kernel
theorem dX2_switchToFirst_21 : decode cX2_switchToFirst 21 = .ok (.iload_n 2, 1) := by decide +kernel
theorem dX2_switchToFirst_22 : decode cX2_switchToFirst 22 = .ok (.invokevirtual 99, 3) := by decide +kernel
theorem dX2_switchToFirst_25 : decode cX2_switchToFirst 25 = .ok (.ifCond .eq 14, 3) := by decide +kernel
theorem dX2_switchToFirst_28 : decode cX2_switchToFirst 28 = .ok (.aload_n 0, 1) := by decide +kernel
theorem dX2_switchToFirst_29 : decode cX2_switchToFirst 29 = .ok (.aload_n 0, 1) := by decide +kernel
theorem dX2_switchToFirst_30 : decode cX2_switchToFirst 30 = .ok (.getfield 17, 3) := by decide +kernel
theorem dX2_switchToFirst_33 : decode cX2_switchToFirst 33 = .ok (.iload_n 2, 1) := by decide +kernel
theorem dX2_switchToFirst_34 : decode cX2_switchToFirst 34 = .ok (.aaload, 1) := by decide +kernel
theorem dX2_switchToFirst_35 : decode cX2_switchToFirst 35 = .ok (.invokevirtual 234, 3) := by decide +kernel
theorem dX2_switchToFirst_38 : decode cX2_switchToFirst 38 = .ok (.return_, 1) := by decide +kernel
theorem dX2_switchToFirst_39 : decode cX2_switchToFirst 39 = .ok (.iinc 1 1, 3) := by decide +kernel
theorem dX2_switchToFirst_42 : decode cX2_switchToFirst 42 = .ok (.goto (-40), 3) := by decide +kernel
theorem dX2_switchToFirst_45 : decode cX2_switchToFirst 45 = .ok (.return_, 1) := by decide +kernel
set_option maxRecDepth 20000 in
theorem ggX2_switchTo_X1_beginRunning : GoodIn wsX2_switchTo wsX1_beginRunning := goodIn_r _ [9, 10, 11, 12, 13, 14, 27, 28, 29, 30, 31, 32, 33, 34, 35, 36, 37, 38, 39, 40, 41, 42, 43, 44, 45] (by decide +kernel) (by decide +kernel)
set_option maxRecDepth 20000 in
theorem gX2_switchTo_X1_beginRunning_n237 : GoodIn wsX2_switchTo (wsX1_beginRunning) := ggX2_switchTo_X1_beginRunning
theorem dX2_switchTo_0 : decode cX2_switchTo 0 = .ok (.aload_n 1, 1) := by decide +kernel
theorem dX2_switchTo_1 : decode cX2_switchTo 1 = .ok (.aload_n 0, 1) := by decide +kernel
theorem dX2_switchTo_2 : decode cX2_switchTo 2 = .ok (.getfield 35, 3) := by decide +kernel
theorem dX2_switchTo_5 : decode cX2_switchTo 5 = .ok (.aload_n 0, 1) := by decide +kernel
theorem dX2_switchTo_6 : decode cX2_switchTo 6 = .ok (.getfield 11, 3) := by decide +kernel
theorem dX2_switchTo_9 : decode cX2_switchTo 9 = .ok (.aload_n 1, 1) := by decide +kernel
theorem dX2_switchTo_10 : decode cX2_switchTo 10 = .ok (.getfield 121, 3) := by decide +kernel
theorem dX2_switchTo_13 : decode cX2_switchTo 13 = .ok (.aaload, 1) := by decide +kernel
theorem dX2_switchTo_14 : decode cX2_switchTo 14 = .ok (.getfield 65, 3) := by decide +kernel
theorem dX2_switchTo_17 : decode cX2_switchTo 17 = .ok (.invokevirtual 237, 3) := by decide +kernel
theorem dX2_switchTo_20 : decode cX2_switchTo 20 = .ok (.aload_n 0, 1) := by decide +kernel
theorem dX2_switchTo_21 : decode cX2_switchTo 21 = .ok (.getfield 42, 3) := by decide +kernel
theorem dX2_switchTo_24 : decode cX2_switchTo 24 = .ok (.sipush 400, 3) := by decide +kernel
theorem dX2_switchTo_27 : decode cX2_switchTo 27 = .ok (.if_icmp .ge 24, 3) := by decide +kernel
theorem dX2_switchTo_30 : decode cX2_switchTo 30 = .ok (.aload_n 0, 1) := by decide +kernel
theorem dX2_switchTo_31 : decode cX2_switchTo 31 = .ok (.getfield 21, 3) := by decide +kernel
theorem dX2_switchTo_34 : decode cX2_switchTo 34 = .ok (.aload_n 0, 1) := by decide +kernel
theorem dX2_switchTo_35 : decode cX2_switchTo 35 = .ok (.getfield 42, 3) := by decide +kernel
theorem dX2_switchTo_38 : decode cX2_switchTo 38 = .ok (.bipush 16, 2) := by decide +kernel
theorem dX2_switchTo_40 : decode cX2_switchTo 40 = .ok (.aload_n 0, 1) := by decide +kernel
theorem dX2_switchTo_41 : decode cX2_switchTo 41 = .ok (.getfield 35, 3) := by decide +kernel
theorem dX2_switchTo_44 : decode cX2_switchTo 44 = .ok (.imul, 1) := by decide +kernel
theorem dX2_switchTo_45 : decode cX2_switchTo 45 = .ok (.aload_n 1, 1) := by decide +kernel
theorem dX2_switchTo_46 : decode cX2_switchTo 46 = .ok (.getfield 150, 3) := by decide +kernel
theorem dX2_switchTo_49 : decode cX2_switchTo 49 = .ok (.iadd, 1) := by decide +kernel
theorem dX2_switchTo_50 : decode cX2_switchTo 50 = .ok (.iastore, 1) := by decide +kernel
theorem dX2_switchTo_51 : decode cX2_switchTo 51 = .ok (.aload_n 0, 1) := by decide +kernel
theorem dX2_switchTo_52 : decode cX2_switchTo 52 = .ok (.dup, 1) := by decide +kernel
theorem dX2_switchTo_53 : decode cX2_switchTo 53 = .ok (.getfield 42, 3) := by decide +kernel
theorem dX2_switchTo_56 : decode cX2_switchTo 56 = .ok (.iconst 1, 1) := by decide +kernel
theorem dX2_switchTo_57 : decode cX2_switchTo 57 = .ok (.iadd, 1) := by decide +kernel
theorem dX2_switchTo_58 : decode cX2_switchTo 58 = .ok (.putfield 42, 3) := by decide +kernel
theorem dX2_switchTo_61 : decode cX2_switchTo 61 = .ok (.aload_n 0, 1) := by decide +kernel
theorem dX2_switchTo_62 : decode cX2_switchTo 62 = .ok (.aload_n 1, 1) := by decide +kernel
theorem dX2_switchTo_63 : decode cX2_switchTo 63 = .ok (.putfield 38, 3) := by decide +kernel
theorem dX2_switchTo_66 : decode cX2_switchTo 66 = .ok (.return_, 1) := by decide +kernel
theorem dX2_countWaiting_0 : decode cX2_countWaiting 0 = .ok (.iconst 0, 1) := by decide +kernel
theorem dX2_countWaiting_1 : decode cX2_countWaiting 1 = .ok (.istore_n 1, 1) := by decide +kernel
theorem dX2_countWaiting_2 : decode cX2_countWaiting 2 = .ok (.iload_n 1, 1) := by decide +kernel
theorem dX2_countWaiting_3 : decode cX2_countWaiting 3 = .ok (.aload_n 0, 1) := by decide +kernel
theorem dX2_countWaiting_4 : decode cX2_countWaiting 4 = .ok (.getfield 29, 3) := by decide +kernel
theorem dX2_countWaiting_7 : decode cX2_countWaiting 7 = .ok (.if_icmp .ge 65, 3) := by decide +kernel
theorem dX2_countWaiting_10 : decode cX2_countWaiting 10 = .ok (.aload_n 0, 1) := by decide +kernel
theorem dX2_countWaiting_11 : decode cX2_countWaiting 11 = .ok (.getfield 17, 3) := by decide +kernel
theorem dX2_countWaiting_14 : decode cX2_countWaiting 14 = .ok (.iload_n 1, 1) := by decide +kernel
theorem dX2_countWaiting_15 : decode cX2_countWaiting 15 = .ok (.aaload, 1) := by decide +kernel
theorem dX2_countWaiting_16 : decode cX2_countWaiting 16 = .ok (.astore_n 2, 1) := by decide +kernel
theorem dX2_countWaiting_17 : decode cX2_countWaiting 17 = .ok (.aload_n 2, 1) := by decide +kernel
theorem dX2_countWaiting_18 : decode cX2_countWaiting 18 = .ok (.getfield 118, 3) := by decide +kernel
theorem dX2_countWaiting_21 : decode cX2_countWaiting 21 = .ok (.iconst 1, 1) := by decide +kernel
theorem dX2_countWaiting_22 : decode cX2_countWaiting 22 = .ok (.if_icmp .ne 16, 3) := by decide +kernel
theorem dX2_countWaiting_25 : decode cX2_countWaiting 25 = .ok (.aload_n 2, 1) := by decide +kernel
theorem dX2_countWaiting_26 : decode cX2_countWaiting 26 = .ok (.dup, 1) := by decide +kernel
theorem dX2_countWaiting_27 : decode cX2_countWaiting 27 = .ok (.getfield 127, 3) := by decide +kernel
theorem dX2_countWaiting_30 : decode cX2_countWaiting 30 = .ok (.iconst 1, 1) := by decide +kernel
theorem dX2_countWaiting_31 : decode cX2_countWaiting 31 = .ok (.iadd, 1) := by decide +kernel
theorem dX2_countWaiting_32 : decode cX2_countWaiting 32 = .ok (.putfield 127, 3) := by decide +kernel
theorem dX2_countWaiting_35 : decode cX2_countWaiting 35 = .ok (.goto 31, 3) := by decide +kernel
theorem dX2_countWaiting_38 : decode cX2_countWaiting 38 = .ok (.aload_n 2, 1) := by decide +kernel
theorem dX2_countWaiting_39 : decode cX2_countWaiting 39 = .ok (.getfield 118, 3) := by decide +kernel
theorem dX2_countWaiting_42 : decode cX2_countWaiting 42 = .ok (.iconst 3, 1) := by decide +kernel
theorem dX2_countWaiting_43 : decode cX2_countWaiting 43 = .ok (.if_icmp .ne 23, 3) := by decide +kernel
theorem dX2_countWaiting_46 : decode cX2_countWaiting 46 = .ok (.aload_n 2, 1) := by decide +kernel
theorem dX2_countWaiting_47 : decode cX2_countWaiting 47 = .ok (.dup, 1) := by decide +kernel
theorem dX2_countWaiting_48 : decode cX2_countWaiting 48 = .ok (.getfield 130, 3) := by decide +kernel
theorem dX2_countWaiting_51 : decode cX2_countWaiting 51 = .ok (.iconst 1, 1) := by decide +kernel
theorem dX2_countWaiting_52 : decode cX2_countWaiting 52 = .ok (.iadd, 1) := by decide +kernel
theorem dX2_countWaiting_53 : decode cX2_countWaiting 53 = .ok (.putfield 130, 3) := by decide +kernel
theorem dX2_countWaiting_56 : decode cX2_countWaiting 56 = .ok (.aload_n 2, 1) := by decide +kernel
theorem dX2_countWaiting_57 : decode cX2_countWaiting 57 = .ok (.dup, 1) := by decide +kernel
theorem dX2_countWaiting_58 : decode cX2_countWaiting 58 = .ok (.getfield 203, 3) := by decide +kernel
theorem dX2_countWaiting_61 : decode cX2_countWaiting 61 = .ok (.iconst 1, 1) := by decide +kernel
theorem dX2_countWaiting_62 : decode cX2_countWaiting 62 = .ok (.isub, 1) := by decide +kernel
theorem dX2_countWaiting_63 : decode cX2_countWaiting 63 = .ok (.putfield 203, 3) := by decide +kernel
theorem dX2_countWaiting_66 : decode cX2_countWaiting 66 = .ok (.iinc 1 1, 3) := by decide +kernel
theorem dX2_countWaiting_69 : decode cX2_countWaiting 69 = .ok (.goto (-67), 3) := by decide +kernel
theorem dX2_countWaiting_72 : decode cX2_countWaiting 72 = .ok (.return_, 1) := by decide +kernel
set_option maxRecDepth 20000 in
theorem ggX2_useTick_X2_blockOrEnd : GoodIn wsX2_useTick wsX2_blockOrEnd := goodIn_r _ [6, 7, 8, 9, 10, 11, 12, 13, 14, 15, 16, 17, 18, 5, 19, 20, 37, 38, 39, 40, 41, 42, 43, 44, 45, 46, 47, 48, 49, 50, 51, 52, 53, 54, 55, 56, 57, 58, 59, 60, 61, 62, 63, 64, 65, 66, 67] (by decide +kernel) (by decide +kernel)
set_option maxRecDepth 20000 in
theorem gX2_useTick_X2_blockOrEnd : GoodIn wsX2_useTick (wsV RX2 243 RX2 yX2_blockOrEnd wsX2_blockOrEnd) := goodIn_app (goodIn_of _ (by decide +kernel)) ggX2_useTick_X2_blockOrEnd
set_option maxRecDepth 20000 in
theorem ggX2_useTick_X2_sendDown : GoodIn wsX2_useTick wsX2_sendDown := goodIn_r _ [24, 25, 26, 27, 28, 29, 5, 30, 31, 32, 33, 34, 35, 36, 37, 38, 39, 40, 41, 42, 43, 44, 45, 46, 47, 48, 49, 50, 51, 52, 53, 54, 55, 56, 57, 58, 59, 60, 61, 62, 63, 64, 65, 66, 67, 68, 69, 70, 71] (by decide +kernel) (by decide +kernel)
set_option maxRecDepth 20000 in
theorem gX2_useTick_X2_sendDown : GoodIn wsX2_useTick (wsV RX2 246 RX2 yX2_sendDown wsX2_sendDown) := goodIn_app (goodIn_of _ (by decide +kernel)) ggX2_useTick_X2_sendDown
set_option maxRecDepth 20000 in
theorem ggX2_useTick_X2_standAtEnd : GoodIn wsX2_useTick wsX2_standAtEnd := goodIn_r _ [30, 26, 31, 32, 33, 34, 35, 36, 37, 38, 39, 40, 41, 42, 43, 44, 45, 46, 47, 48, 49, 50, 51, 52, 53, 54, 55, 56, 57, 58, 59, 60, 61, 62, 63, 64, 65, 66, 67, 68, 69, 70, 71] (by decide +kernel) (by decide +kernel)
set_option maxRecDepth 20000 in
theorem gX2_useTick_X2_standAtEnd : GoodIn wsX2_useTick (wsV RX2 210 RX2 yX2_standAtEnd wsX2_standAtEnd) := goodIn_app (goodIn_of _ (by decide +kernel)) ggX2_useTick_X2_standAtEnd
theorem dX2_useTick_0 : decode cX2_useTick 0 = .ok (.aload_n 1, 1) := by decide +kernel
theorem dX2_useTick_1 : decode cX2_useTick 1 = .ok (.dup, 1) := by decide +kernel
theorem dX2_useTick_2 : decode cX2_useTick 2 = .ok (.getfield 124, 3) := by decide +kernel
theorem dX2_useTick_5 : decode cX2_useTick 5 = .ok (.iconst 1, 1) := by decide +kernel
theorem dX2_useTick_6 : decode cX2_useTick 6 = .ok (.iadd, 1) := by decide +kernel
theorem dX2_useTick_7 : decode cX2_useTick 7 = .ok (.putfield 124, 3) := by decide +kernel
theorem dX2_useTick_10 : decode cX2_useTick 10 = .ok (.aload_n 1, 1) := by decide +kernel
theorem dX2_useTick_11 : decode cX2_useTick 11 = .ok (.dup, 1) := by decide +kernel
theorem dX2_useTick_12 : decode cX2_useTick 12 = .ok (.getfield 203, 3) := by decide +kernel
theorem dX2_useTick_15 : decode cX2_useTick 15 = .ok (.iconst 1, 1) := by decide +kernel
theorem dX2_useTick_16 : decode cX2_useTick 16 = .ok (.isub, 1) := by decide +kernel
theorem dX2_useTick_17 : decode cX2_useTick 17 = .ok (.putfield 203, 3) := by decide +kernel
theorem dX2_useTick_20 : decode cX2_useTick 20 = .ok (.aload_n 1, 1) := by decide +kernel
theorem dX2_useTick_21 : decode cX2_useTick 21 = .ok (.dup, 1) := by decide +kernel
theorem dX2_useTick_22 : decode cX2_useTick 22 = .ok (.getfield 240, 3) := by decide +kernel
theorem dX2_useTick_25 : decode cX2_useTick 25 = .ok (.iconst 1, 1) := by decide +kernel
theorem dX2_useTick_26 : decode cX2_useTick 26 = .ok (.isub, 1) := by decide +kernel
theorem dX2_useTick_27 : decode cX2_useTick 27 = .ok (.putfield 240, 3) := by decide +kernel
theorem dX2_useTick_30 : decode cX2_useTick 30 = .ok (.aload_n 1, 1) := by decide +kernel
theorem dX2_useTick_31 : decode cX2_useTick 31 = .ok (.dup, 1) := by decide +kernel
theorem dX2_useTick_32 : decode cX2_useTick 32 = .ok (.getfield 197, 3) := by decide +kernel
theorem dX2_useTick_35 : decode cX2_useTick 35 = .ok (.iconst 1, 1) := by decide +kernel
theorem dX2_useTick_36 : decode cX2_useTick 36 = .ok (.isub, 1) := by decide +kernel
theorem dX2_useTick_37 : decode cX2_useTick 37 = .ok (.putfield 197, 3) := by decide +kernel
theorem dX2_useTick_40 : decode cX2_useTick 40 = .ok (.aload_n 1, 1) := by decide +kernel
theorem dX2_useTick_41 : decode cX2_useTick 41 = .ok (.getfield 203, 3) := by decide +kernel
theorem dX2_useTick_44 : decode cX2_useTick 44 = .ok (.ifCond .ne 11, 3) := by decide +kernel
theorem dX2_useTick_47 : decode cX2_useTick 47 = .ok (.aload_n 0, 1) := by decide +kernel
theorem dX2_useTick_48 : decode cX2_useTick 48 = .ok (.aload_n 1, 1) := by decide +kernel
theorem dX2_useTick_49 : decode cX2_useTick 49 = .ok (.invokevirtual 243, 3) := by decide +kernel
theorem dX2_useTick_52 : decode cX2_useTick 52 = .ok (.goto 34, 3) := by decide +kernel
theorem dX2_useTick_55 : decode cX2_useTick 55 = .ok (.aload_n 1, 1) := by decide +kernel
theorem dX2_useTick_56 : decode cX2_useTick 56 = .ok (.getfield 197, 3) := by decide +kernel
theorem dX2_useTick_59 : decode cX2_useTick 59 = .ok (.ifCond .gt 11, 3) := by decide +kernel
theorem dX2_useTick_62 : decode cX2_useTick 62 = .ok (.aload_n 0, 1) := by decide +kernel
theorem dX2_useTick_63 : decode cX2_useTick 63 = .ok (.aload_n 1, 1) := by decide +kernel
theorem dX2_useTick_64 : decode cX2_useTick 64 = .ok (.invokevirtual 246, 3) := by decide +kernel
theorem dX2_useTick_67 : decode cX2_useTick 67 = .ok (.goto 19, 3) := by decide +kernel
theorem dX2_useTick_70 : decode cX2_useTick 70 = .ok (.aload_n 1, 1) := by decide +kernel
theorem dX2_useTick_71 : decode cX2_useTick 71 = .ok (.getfield 240, 3) := by decide +kernel
theorem dX2_useTick_74 : decode cX2_useTick 74 = .ok (.ifCond .ne 11, 3) := by decide +kernel
theorem dX2_useTick_77 : decode cX2_useTick 77 = .ok (.aload_n 0, 1) := by decide +kernel
theorem dX2_useTick_78 : decode cX2_useTick 78 = .ok (.aload_n 1, 1) := by decide +kernel
theorem dX2_useTick_79 : decode cX2_useTick 79 = .ok (.invokevirtual 210, 3) := by decide +kernel
theorem dX2_useTick_82 : decode cX2_useTick 82 = .ok (.goto 4, 3) := by decide +kernel
theorem dX2_useTick_85 : decode cX2_useTick 85 = .ok (.return_, 1) := by decide +kernel
theorem dX2_useTick_86 : decode cX2_useTick 86 = .ok (.aload_n 0, 1) := by decide +kernel
theorem dX2_useTick_87 : decode cX2_useTick 87 = .ok (.aconst_null, 1) := by decide +kernel
theorem dX2_useTick_88 : decode cX2_useTick 88 = .ok (.putfield 38, 3) := by decide +kernel
theorem dX2_useTick_91 : decode cX2_useTick 91 = .ok (.return_, 1) := by decide +kernel
set_option maxRecDepth 20000 in
theorem ggX2_blockOrEnd_X1_beginBurst : GoodIn wsX2_blockOrEnd wsX1_beginBurst := goodIn_r _ [5, 6, 7, 8, 9, 16, 17, 18, 19, 20, 21, 22, 23, 24, 25, 26, 27, 28, 29, 30, 31, 32, 33, 34] (by decide +kernel) (by decide +kernel)
set_option maxRecDepth 20000 in
theorem gX2_blockOrEnd_X1_beginBurst_n206 : GoodIn wsX2_blockOrEnd (wsX1_beginBurst) := ggX2_blockOrEnd_X1_beginBurst
set_option maxRecDepth 20000 in
theorem ggX2_blockOrEnd_X2_endTask : GoodIn wsX2_blockOrEnd wsX2_endTask := goodIn_r _ [14, 15, 16, 17, 18, 19, 20, 21, 22, 23, 24, 25, 26, 27, 28, 29, 30, 31, 32, 33, 34, 35, 36, 37, 38, 39, 40, 41, 42, 43, 44, 45, 46] (by decide +kernel) (by decide +kernel)
set_option maxRecDepth 20000 in
theorem gX2_blockOrEnd_X2_endTask : GoodIn wsX2_blockOrEnd (wsV RX2 213 RX2 yX2_endTask wsX2_endTask) := goodIn_app (goodIn_of _ (by decide +kernel)) ggX2_blockOrEnd_X2_endTask
theorem dX2_blockOrEnd_0 : decode cX2_blockOrEnd 0 = .ok (.aload_n 1, 1) := by decide +kernel
theorem dX2_blockOrEnd_1 : decode cX2_blockOrEnd 1 = .ok (.invokevirtual 206, 3) := by decide +kernel
theorem dX2_blockOrEnd_4 : decode cX2_blockOrEnd 4 = .ok (.ifCond .eq 11, 3) := by decide +kernel
theorem dX2_blockOrEnd_7 : decode cX2_blockOrEnd 7 = .ok (.aload_n 1, 1) := by decide +kernel
theorem dX2_blockOrEnd_8 : decode cX2_blockOrEnd 8 = .ok (.iconst 3, 1) := by decide +kernel
theorem dX2_blockOrEnd_9 : decode cX2_blockOrEnd 9 = .ok (.putfield 118, 3) := by decide +kernel
theorem dX2_blockOrEnd_12 : decode cX2_blockOrEnd 12 = .ok (.goto 14, 3) := by decide +kernel
theorem dX2_blockOrEnd_15 : decode cX2_blockOrEnd 15 = .ok (.aload_n 0, 1) := by decide +kernel
theorem dX2_blockOrEnd_16 : decode cX2_blockOrEnd 16 = .ok (.aload_n 1, 1) := by decide +kernel
theorem dX2_blockOrEnd_17 : decode cX2_blockOrEnd 17 = .ok (.aload_n 0, 1) := by decide +kernel
theorem dX2_blockOrEnd_18 : decode cX2_blockOrEnd 18 = .ok (.getfield 35, 3) := by decide +kernel
theorem dX2_blockOrEnd_21 : decode cX2_blockOrEnd 21 = .ok (.iconst 1, 1) := by decide +kernel
theorem dX2_blockOrEnd_22 : decode cX2_blockOrEnd 22 = .ok (.iadd, 1) := by decide +kernel
theorem dX2_blockOrEnd_23 : decode cX2_blockOrEnd 23 = .ok (.invokevirtual 213, 3) := by decide +kernel
theorem dX2_blockOrEnd_26 : decode cX2_blockOrEnd 26 = .ok (.return_, 1) := by decide +kernel
set_option maxRecDepth 20000 in
theorem ggX2_sendDown_X2_standAtEnd : GoodIn wsX2_sendDown wsX2_standAtEnd := goodIn_r _ [7, 2, 8, 9, 10, 11, 12, 13, 14, 15, 16, 17, 18, 19, 20, 21, 22, 23, 24, 25, 26, 27, 28, 29, 30, 31, 32, 33, 34, 35, 36, 37, 38, 39, 40, 41, 42, 43, 44, 45, 46, 47, 48] (by decide +kernel) (by decide +kernel)
set_option maxRecDepth 20000 in
theorem gX2_sendDown_X2_standAtEnd : GoodIn wsX2_sendDown (wsV RX2 210 RX2 yX2_standAtEnd wsX2_standAtEnd) := goodIn_app (goodIn_of _ (by decide +kernel)) ggX2_sendDown_X2_standAtEnd
theorem dX2_sendDown_0 : decode cX2_sendDown 0 = .ok (.aload_n 1, 1) := by decide +kernel
theorem dX2_sendDown_1 : decode cX2_sendDown 1 = .ok (.getfield 121, 3) := by decide +kernel
theorem dX2_sendDown_4 : decode cX2_sendDown 4 = .ok (.aload_n 0, 1) := by decide +kernel
theorem dX2_sendDown_5 : decode cX2_sendDown 5 = .ok (.getfield 25, 3) := by decide +kernel
theorem dX2_sendDown_8 : decode cX2_sendDown 8 = .ok (.iconst 1, 1) := by decide +kernel
theorem dX2_sendDown_9 : decode cX2_sendDown 9 = .ok (.isub, 1) := by decide +kernel
theorem dX2_sendDown_10 : decode cX2_sendDown 10 = .ok (.if_icmp .ge 23, 3) := by decide +kernel
theorem dX2_sendDown_13 : decode cX2_sendDown 13 = .ok (.aload_n 1, 1) := by decide +kernel
theorem dX2_sendDown_14 : decode cX2_sendDown 14 = .ok (.dup, 1) := by decide +kernel
theorem dX2_sendDown_15 : decode cX2_sendDown 15 = .ok (.getfield 121, 3) := by decide +kernel
theorem dX2_sendDown_18 : decode cX2_sendDown 18 = .ok (.iconst 1, 1) := by decide +kernel
theorem dX2_sendDown_19 : decode cX2_sendDown 19 = .ok (.iadd, 1) := by decide +kernel
theorem dX2_sendDown_20 : decode cX2_sendDown 20 = .ok (.putfield 121, 3) := by decide +kernel
theorem dX2_sendDown_23 : decode cX2_sendDown 23 = .ok (.aload_n 1, 1) := by decide +kernel
theorem dX2_sendDown_24 : decode cX2_sendDown 24 = .ok (.dup, 1) := by decide +kernel
theorem dX2_sendDown_25 : decode cX2_sendDown 25 = .ok (.getfield 142, 3) := by decide +kernel
theorem dX2_sendDown_28 : decode cX2_sendDown 28 = .ok (.iconst 1, 1) := by decide +kernel
theorem dX2_sendDown_29 : decode cX2_sendDown 29 = .ok (.iadd, 1) := by decide +kernel
theorem dX2_sendDown_30 : decode cX2_sendDown 30 = .ok (.putfield 142, 3) := by decide +kernel
theorem dX2_sendDown_33 : decode cX2_sendDown 33 = .ok (.aload_n 1, 1) := by decide +kernel
theorem dX2_sendDown_34 : decode cX2_sendDown 34 = .ok (.aload_n 0, 1) := by decide +kernel
theorem dX2_sendDown_35 : decode cX2_sendDown 35 = .ok (.getfield 11, 3) := by decide +kernel
theorem dX2_sendDown_38 : decode cX2_sendDown 38 = .ok (.aload_n 1, 1) := by decide +kernel
theorem dX2_sendDown_39 : decode cX2_sendDown 39 = .ok (.getfield 121, 3) := by decide +kernel
theorem dX2_sendDown_42 : decode cX2_sendDown 42 = .ok (.aaload, 1) := by decide +kernel
theorem dX2_sendDown_43 : decode cX2_sendDown 43 = .ok (.getfield 68, 3) := by decide +kernel
theorem dX2_sendDown_46 : decode cX2_sendDown 46 = .ok (.putfield 197, 3) := by decide +kernel
theorem dX2_sendDown_49 : decode cX2_sendDown 49 = .ok (.aload_n 0, 1) := by decide +kernel
theorem dX2_sendDown_50 : decode cX2_sendDown 50 = .ok (.aload_n 1, 1) := by decide +kernel
theorem dX2_sendDown_51 : decode cX2_sendDown 51 = .ok (.invokevirtual 210, 3) := by decide +kernel
theorem dX2_sendDown_54 : decode cX2_sendDown 54 = .ok (.return_, 1) := by decide +kernel
set_option maxRecDepth 20000 in
theorem ggX2_standAtEnd_X0_addLast : GoodIn wsX2_standAtEnd wsX0_addLast := goodIn_r _ [5, 6, 7, 39, 40, 41, 42] (by decide +kernel) (by decide +kernel)
set_option maxRecDepth 20000 in
theorem gX2_standAtEnd_X0_addLast_n249 : GoodIn wsX2_standAtEnd (wsX0_addLast) := ggX2_standAtEnd_X0_addLast
theorem dX2_standAtEnd_0 : decode cX2_standAtEnd 0 = .ok (.aload_n 1, 1) := by decide +kernel
theorem dX2_standAtEnd_1 : decode cX2_standAtEnd 1 = .ok (.iconst 1, 1) := by decide +kernel
theorem dX2_standAtEnd_2 : decode cX2_standAtEnd 2 = .ok (.putfield 118, 3) := by decide +kernel
theorem dX2_standAtEnd_5 : decode cX2_standAtEnd 5 = .ok (.aload_n 0, 1) := by decide +kernel
theorem dX2_standAtEnd_6 : decode cX2_standAtEnd 6 = .ok (.getfield 11, 3) := by decide +kernel
theorem dX2_standAtEnd_9 : decode cX2_standAtEnd 9 = .ok (.aload_n 1, 1) := by decide +kernel
theorem dX2_standAtEnd_10 : decode cX2_standAtEnd 10 = .ok (.getfield 121, 3) := by decide +kernel
theorem dX2_standAtEnd_13 : decode cX2_standAtEnd 13 = .ok (.aaload, 1) := by decide +kernel
theorem dX2_standAtEnd_14 : decode cX2_standAtEnd 14 = .ok (.aload_n 1, 1) := by decide +kernel
theorem dX2_standAtEnd_15 : decode cX2_standAtEnd 15 = .ok (.getfield 150, 3) := by decide +kernel
theorem dX2_standAtEnd_18 : decode cX2_standAtEnd 18 = .ok (.invokevirtual 249, 3) := by decide +kernel
theorem dX2_standAtEnd_21 : decode cX2_standAtEnd 21 = .ok (.return_, 1) := by decide +kernel
theorem dX2_endTask_0 : decode cX2_endTask 0 = .ok (.aload_n 1, 1) := by decide +kernel
theorem dX2_endTask_1 : decode cX2_endTask 1 = .ok (.iconst 4, 1) := by decide +kernel
theorem dX2_endTask_2 : decode cX2_endTask 2 = .ok (.putfield 118, 3) := by decide +kernel
theorem dX2_endTask_5 : decode cX2_endTask 5 = .ok (.aload_n 1, 1) := by decide +kernel
theorem dX2_endTask_6 : decode cX2_endTask 6 = .ok (.iload_n 2, 1) := by decide +kernel
theorem dX2_endTask_7 : decode cX2_endTask 7 = .ok (.putfield 136, 3) := by decide +kernel
theorem dX2_endTask_10 : decode cX2_endTask 10 = .ok (.aload_n 0, 1) := by decide +kernel
theorem dX2_endTask_11 : decode cX2_endTask 11 = .ok (.dup, 1) := by decide +kernel
theorem dX2_endTask_12 : decode cX2_endTask 12 = .ok (.getfield 51, 3) := by decide +kernel
theorem dX2_endTask_15 : decode cX2_endTask 15 = .ok (.iconst 1, 1) := by decide +kernel
theorem dX2_endTask_16 : decode cX2_endTask 16 = .ok (.iadd, 1) := by decide +kernel
theorem dX2_endTask_17 : decode cX2_endTask 17 = .ok (.putfield 51, 3) := by decide +kernel
theorem dX2_endTask_20 : decode cX2_endTask 20 = .ok (.return_, 1) := by decide +kernel
abbrev vwCl : List vw_C := [(RX0, TX0, 4), (RX1, TX1, 19), (RX2, TX2, 12), (RX3, TX3, 24)]
end
section
/-! A world of n cells: cell k, at the address ad k, holds E k -/
def gw (n : Nat) (ad : Nat → Nat) (E : Nat → va_E) : va_W := (List.range n).map (fun k => (ad k, E k))
theorem gw_get {n : Nat} {ad : Nat → Nat} {E : Nat → va_E} {k : Nat} (h : k < n) : (gw n ad E)[k]? = some (ad k, E k) := by
  simp [gw, h]
theorem gw_some {n : Nat} {ad : Nat → Nat} {E : Nat → va_E} {k : Nat} {q : Nat × va_E} (h : (gw n ad E)[k]? = some q) : k < n ∧ q = (ad k, E k) := by
  by_cases hk : k < n
  · rw [gw_get hk] at h
    exact ⟨hk, (Option.some.inj h).symm⟩
  · simp [gw, hk] at h
theorem gw_len (n : Nat) (ad : Nat → Nat) (E : Nat → va_E) : (gw n ad E).length = n := by simp [gw]
theorem gw_set {n : Nat} {ad : Nat → Nat} {E : Nat → va_E} (k : Nat) (e : va_E) : (gw n ad E).set k (ad k, e) = gw n ad (va_up E k e) := by
  apply List.ext_getElem?
  intro j
  by_cases hj : j < n
  · by_cases hjk : j = k
    · subst hjk
      rw [gw_get hj, List.getElem?_set_self (by rw [gw_len]; exact hj)]
      simp [va_up]
    · rw [gw_get hj, List.getElem?_set_ne (fun h => hjk h.symm), gw_get hj]
      simp [va_up, hjk]
  · rw [List.getElem?_eq_none (by rw [List.length_set, gw_len]; omega), List.getElem?_eq_none (by rw [gw_len]; omega)]
theorem gw_push {n : Nat} {ad : Nat → Nat} {E : Nat → va_E} (q : Nat) (e : va_E) : gw n ad E ++ [(q, e)] = gw (n + 1) (va_up ad n q) (va_up E n e) := by
  unfold gw
  rw [List.range_succ, List.map_append]
  congr 1
  · apply List.map_congr_left
    intro k hk
    have : k ≠ n := by have := List.mem_range.mp hk; omega
    simp [va_up, this]
  · simp [va_up]
/-- apart, and of a kind -/
def gw_ap (n : Nat) (ad : Nat → Nat) (A : Nat → Prop) : Prop := (∀ i j, i < n → j < n → ad i = ad j → i = j) ∧ ∀ k, k < n → A (ad k)
theorem gw_D {n : Nat} {ad : Nat → Nat} {A : Nat → Prop} (h : gw_ap n ad A) (E : Nat → va_E) : va_D A (gw n ad E) := by
  refine ⟨fun i j p q hi hj e => ?_, fun k q hk => ?_⟩
  · obtain ⟨h1, rfl⟩ := gw_some hi
    obtain ⟨h2, rfl⟩ := gw_some hj
    exact h.1 i j h1 h2 e
  · obtain ⟨h1, rfl⟩ := gw_some hk
    exact h.2 k h1
theorem gw_Dof {n : Nat} {ad : Nat → Nat} {A : Nat → Prop} {E : Nat → va_E} (h : va_D A (gw n ad E)) : gw_ap n ad A :=
  ⟨fun i j hi hj e => h.1 i j _ _ (gw_get hi) (gw_get hj) e, fun k hk => h.2 k _ (gw_get hk)⟩
/-- which cells a method over this world may change -/
def gA (n : Nat) (ad : Nat → Nat) (sz : Nat) : Nat → Prop := fun q => (∃ k, k < n ∧ q = ad k) ∨ sz ≤ q
theorem gA_in {n : Nat} {ad : Nat → Nat} {sz k : Nat} (h : k < n) : gA n ad sz (ad k) := Or.inl ⟨k, h, rfl⟩
theorem gw_self {n : Nat} {ad : Nat → Nat} {A : Nat → Prop} {sz : Nat} (h : gw_ap n ad A) : gw_ap n ad (gA n ad sz) := ⟨h.1, fun _ hk => gA_in hk⟩
theorem gA_free {n : Nat} {ad : Nat → Nat} {A : Nat → Prop} {H0 H : Heap} {locs : List Loc} (h : gw_ap n ad A) (hS : va_S A H0 H locs) (hA : ∀ q, H0.size ≤ q → A q) : ∀ q, gA n ad H.size q → A q := by
  intro q hq
  rcases hq with ⟨k, hk, rfl⟩ | hq
  · exact h.2 k hk
  · exact hA q (Nat.le_trans hS.1 hq)
/-- an index: k is its number -/
def ix (x : Int32) (k n : Nat) : Prop := ¬ x < 0 ∧ x.toNatClampNeg = k ∧ k < n
theorem ix.vp {x : Int32} {k n : Nat} (h : ix x k n) : vp_in x n := by
  obtain ⟨h0, h1, h2⟩ := h
  intro q
  rcases q with q | q
  · exact h0 q
  · omega
theorem ix_nI {k n : Nat} (h : k < n) (hn : n < 2 ^ 31) : ix (nI k) k n := ⟨nI_pos (by omega), nI_clamp (by omega), h⟩
theorem ix_lit {x : Int32} {k n : Nat} (hx : x = nI k) (h : k < n) (hn : n < 2 ^ 31) : ix x k n := by rw [hx]; exact ix_nI h hn
theorem ix.nI {x : Int32} {k n : Nat} (h : ix x k n) : x = nI k := by
  obtain ⟨h0, h1, h2⟩ := h
  obtain ⟨j, hj, rfl⟩ := nI_of h0
  rw [nI_clamp hj] at h1
  rw [h1]
/-- a loop that counts up from t, n turns -/
def itr {α : Type} (f : Nat → α → α) : Nat → Nat → α → α
  | 0, _, z => z
  | n + 1, t, z => itr f n (t + 1) (f t z)
/-- a loop that counts down from n -/
def itd {α : Type} (f : Nat → α → α) : Nat → α → α
  | 0, z => z
  | n + 1, z => itd f n (f n z)
theorem inc_nI (t : Nat) : nI t + Int32.ofInt 1 = nI (t + 1) := by rw [show Int32.ofInt 1 = 1 from by decide]; exact nI_1 t
theorem dec_nI (n : Nat) : nI (n + 1) + Int32.ofInt (-1) = nI n := by rw [show Int32.ofInt (-1) = -1 from by decide]; exact pk_m1 n
/-- between 0 and n -/
def ub (n : Nat) (x : Int32) : Prop := ∃ z, z ≤ n ∧ x = nI z
theorem ub_ix {n : Nat} {x : Int32} (h : ub n x) {k : Nat} (hk : x.toNatClampNeg < k) (hn : n < 2 ^ 31) : ix x x.toNatClampNeg k := by
  obtain ⟨z, h1, rfl⟩ := h
  exact ⟨nI_pos (by omega), rfl, hk⟩
theorem ub_nI {n : Nat} {x : Int32} (h : ub n x) (hn : n < 2 ^ 31) : x = nI x.toNatClampNeg := by
  obtain ⟨z, h1, rfl⟩ := h
  rw [nI_clamp (by omega)]
theorem ub_le {n : Nat} {x : Int32} (h : ub n x) (hn : n < 2 ^ 31) : x.toNatClampNeg ≤ n := by
  obtain ⟨z, h1, rfl⟩ := h
  rw [nI_clamp (by omega)]; exact h1
theorem ix_nge {n k : Nat} {x y : Int32} (h : ub n x) (hn : n < 2 ^ 31) (hy : y = nI k) (hk : k < 2 ^ 31) (hc : ¬ y ≤ x) : ix x x.toNatClampNeg k := by
  obtain ⟨z, h1, rfl⟩ := h
  refine ⟨nI_pos (by omega), rfl, ?_⟩
  rw [nI_clamp (by omega)]
  rcases Nat.lt_or_ge z k with q | q
  · exact q
  · exact absurd (by rw [hy]; exact nI_le q (by omega)) hc
theorem ix_lt {n k : Nat} {x y : Int32} (h : ub n x) (hn : n < 2 ^ 31) (hy : y = nI k) (hk : k < 2 ^ 31) (hc : x < y) : ix x x.toNatClampNeg k := by
  obtain ⟨z, h1, rfl⟩ := h
  refine ⟨nI_pos (by omega), rfl, ?_⟩
  rw [nI_clamp (by omega)]
  rcases Nat.lt_or_ge z k with q | q
  · exact q
  · exact absurd (by rw [hy] at hc; exact hc) (nI_nlt q (by omega))
/-- an index that was compared with a size -/
theorem ix_cmp {n k : Nat} {x y : Int32} (h0 : ¬ x < 0) (hy : ub n y) (hn : n ≤ k) (hk : k < 2 ^ 31) (hc : ¬ y ≤ x) : ix x x.toNatClampNeg k := by
  obtain ⟨j, hj, rfl⟩ := nI_of h0
  obtain ⟨z, h1, rfl⟩ := hy
  refine ⟨h0, rfl, ?_⟩
  rw [nI_clamp hj]
  rcases Nat.lt_or_ge j z with q | q
  · omega
  · exact absurd (nI_le q hj) hc
theorem ix_lt2 {n k : Nat} {x y : Int32} (hx : ub n x) (hy : ub k y) (hn : n < 2 ^ 31) (hk : k < 2 ^ 31) (hc : x < y) : ix x x.toNatClampNeg k := by
  obtain ⟨z, h1, rfl⟩ := hx
  obtain ⟨q, h2, rfl⟩ := hy
  refine ⟨nI_pos (by omega), rfl, ?_⟩
  rw [nI_clamp (by omega)]
  have := (nI_ltI (a := z) (b := q) (by omega) (by omega)).mp hc
  omega
theorem ix_suc {t n : Nat} (h : t + 1 < n) (hn : n < 2 ^ 31) : ix (nI t + 1) (t + 1) n := by rw [nI_1]; exact ix_nI h hn
theorem ix_pre {t n : Nat} (h : t < n) (hn : n < 2 ^ 31) : ix (nI (t + 1) - 1) t n := by rw [nI_pred]; exact ix_nI h hn
end
section
/-! THE CLASS: its state is numbers by places. O: the object's fields; L, T: a level's, a task's fields; Q, B: a level's queue, a task's bursts; Wk: the kept switches; N: which task is on the processor. Cells: 0 the object, 1 the array of levels, 2 of tasks, 3 the kept switches, 4+2i level i, 5+2i its queue, 16+2i task i, 17+2i its bursts -/
abbrev Cs : Type := (Nat → Int32) × (Nat → Nat → Int32) × (Nat → Nat → Int32) × (Nat → Nat → Int32) × (Nat → Nat → Int32) × (Nat → Int32) × Option Nat
def u2 (f : Nat → Nat → Int32) (i j : Nat) (v : Int32) : Nat → Nat → Int32 := fun a b => if b = j ∧ a = i then v else f a b
def cO (S : Cs) (j : Nat) : Int32 := S.1 j
def cL (S : Cs) (i j : Nat) : Int32 := S.2.1 i j
def cQ (S : Cs) (i j : Nat) : Int32 := S.2.2.1 i j
def cT (S : Cs) (i j : Nat) : Int32 := S.2.2.2.1 i j
def cB (S : Cs) (i j : Nat) : Int32 := S.2.2.2.2.1 i j
def cW (S : Cs) (j : Nat) : Int32 := S.2.2.2.2.2.1 j
def cN (S : Cs) : Option Nat := S.2.2.2.2.2.2
def sO (S : Cs) (j : Nat) (v : Int32) : Cs := (upd S.1 j v, S.2)
def sL (S : Cs) (i j : Nat) (v : Int32) : Cs := (S.1, u2 S.2.1 i j v, S.2.2)
def sQ (S : Cs) (i j : Nat) (v : Int32) : Cs := (S.1, S.2.1, u2 S.2.2.1 i j v, S.2.2.2)
def sT (S : Cs) (i j : Nat) (v : Int32) : Cs := (S.1, S.2.1, S.2.2.1, u2 S.2.2.2.1 i j v, S.2.2.2.2)
def sB (S : Cs) (i j : Nat) (v : Int32) : Cs := (S.1, S.2.1, S.2.2.1, S.2.2.2.1, u2 S.2.2.2.2.1 i j v, S.2.2.2.2.2)
def sW (S : Cs) (j : Nat) (v : Int32) : Cs := (S.1, S.2.1, S.2.2.1, S.2.2.2.1, S.2.2.2.2.1, upd S.2.2.2.2.2.1 j v, S.2.2.2.2.2.2)
def sN (S : Cs) (o : Option Nat) : Cs := (S.1, S.2.1, S.2.2.1, S.2.2.2.1, S.2.2.2.2.1, S.2.2.2.2.2.1, o)
/-- the task on the processor -/
def cI (S : Cs) : Nat := (cN S).getD 0
theorem cO_sO (S : Cs) (j : Nat) (v : Int32) (j2 : Nat) : cO (sO S j v) j2 = if j2 = j then v else cO S j2 := rfl
theorem cO_sL (S : Cs) (i j : Nat) (v : Int32) (j2 : Nat) : cO (sL S i j v) j2 = cO S j2 := rfl
theorem cO_sQ (S : Cs) (i j : Nat) (v : Int32) (j2 : Nat) : cO (sQ S i j v) j2 = cO S j2 := rfl
theorem cO_sT (S : Cs) (i j : Nat) (v : Int32) (j2 : Nat) : cO (sT S i j v) j2 = cO S j2 := rfl
theorem cO_sB (S : Cs) (i j : Nat) (v : Int32) (j2 : Nat) : cO (sB S i j v) j2 = cO S j2 := rfl
theorem cO_sW (S : Cs) (j : Nat) (v : Int32) (j2 : Nat) : cO (sW S j v) j2 = cO S j2 := rfl
theorem cO_sN (S : Cs) (o : Option Nat) (j2 : Nat) : cO (sN S o) j2 = cO S j2 := rfl
theorem cL_sO (S : Cs) (j : Nat) (v : Int32) (i2 j2 : Nat) : cL (sO S j v) i2 j2 = cL S i2 j2 := rfl
theorem cL_sL (S : Cs) (i j : Nat) (v : Int32) (i2 j2 : Nat) : cL (sL S i j v) i2 j2 = if j2 = j ∧ i2 = i then v else cL S i2 j2 := rfl
theorem cL_sQ (S : Cs) (i j : Nat) (v : Int32) (i2 j2 : Nat) : cL (sQ S i j v) i2 j2 = cL S i2 j2 := rfl
theorem cL_sT (S : Cs) (i j : Nat) (v : Int32) (i2 j2 : Nat) : cL (sT S i j v) i2 j2 = cL S i2 j2 := rfl
theorem cL_sB (S : Cs) (i j : Nat) (v : Int32) (i2 j2 : Nat) : cL (sB S i j v) i2 j2 = cL S i2 j2 := rfl
theorem cL_sW (S : Cs) (j : Nat) (v : Int32) (i2 j2 : Nat) : cL (sW S j v) i2 j2 = cL S i2 j2 := rfl
theorem cL_sN (S : Cs) (o : Option Nat) (i2 j2 : Nat) : cL (sN S o) i2 j2 = cL S i2 j2 := rfl
theorem cQ_sO (S : Cs) (j : Nat) (v : Int32) (i2 j2 : Nat) : cQ (sO S j v) i2 j2 = cQ S i2 j2 := rfl
theorem cQ_sL (S : Cs) (i j : Nat) (v : Int32) (i2 j2 : Nat) : cQ (sL S i j v) i2 j2 = cQ S i2 j2 := rfl
theorem cQ_sQ (S : Cs) (i j : Nat) (v : Int32) (i2 j2 : Nat) : cQ (sQ S i j v) i2 j2 = if j2 = j ∧ i2 = i then v else cQ S i2 j2 := rfl
theorem cQ_sT (S : Cs) (i j : Nat) (v : Int32) (i2 j2 : Nat) : cQ (sT S i j v) i2 j2 = cQ S i2 j2 := rfl
theorem cQ_sB (S : Cs) (i j : Nat) (v : Int32) (i2 j2 : Nat) : cQ (sB S i j v) i2 j2 = cQ S i2 j2 := rfl
theorem cQ_sW (S : Cs) (j : Nat) (v : Int32) (i2 j2 : Nat) : cQ (sW S j v) i2 j2 = cQ S i2 j2 := rfl
theorem cQ_sN (S : Cs) (o : Option Nat) (i2 j2 : Nat) : cQ (sN S o) i2 j2 = cQ S i2 j2 := rfl
theorem cT_sO (S : Cs) (j : Nat) (v : Int32) (i2 j2 : Nat) : cT (sO S j v) i2 j2 = cT S i2 j2 := rfl
theorem cT_sL (S : Cs) (i j : Nat) (v : Int32) (i2 j2 : Nat) : cT (sL S i j v) i2 j2 = cT S i2 j2 := rfl
theorem cT_sQ (S : Cs) (i j : Nat) (v : Int32) (i2 j2 : Nat) : cT (sQ S i j v) i2 j2 = cT S i2 j2 := rfl
theorem cT_sT (S : Cs) (i j : Nat) (v : Int32) (i2 j2 : Nat) : cT (sT S i j v) i2 j2 = if j2 = j ∧ i2 = i then v else cT S i2 j2 := rfl
theorem cT_sB (S : Cs) (i j : Nat) (v : Int32) (i2 j2 : Nat) : cT (sB S i j v) i2 j2 = cT S i2 j2 := rfl
theorem cT_sW (S : Cs) (j : Nat) (v : Int32) (i2 j2 : Nat) : cT (sW S j v) i2 j2 = cT S i2 j2 := rfl
theorem cT_sN (S : Cs) (o : Option Nat) (i2 j2 : Nat) : cT (sN S o) i2 j2 = cT S i2 j2 := rfl
theorem cB_sO (S : Cs) (j : Nat) (v : Int32) (i2 j2 : Nat) : cB (sO S j v) i2 j2 = cB S i2 j2 := rfl
theorem cB_sL (S : Cs) (i j : Nat) (v : Int32) (i2 j2 : Nat) : cB (sL S i j v) i2 j2 = cB S i2 j2 := rfl
theorem cB_sQ (S : Cs) (i j : Nat) (v : Int32) (i2 j2 : Nat) : cB (sQ S i j v) i2 j2 = cB S i2 j2 := rfl
theorem cB_sT (S : Cs) (i j : Nat) (v : Int32) (i2 j2 : Nat) : cB (sT S i j v) i2 j2 = cB S i2 j2 := rfl
theorem cB_sB (S : Cs) (i j : Nat) (v : Int32) (i2 j2 : Nat) : cB (sB S i j v) i2 j2 = if j2 = j ∧ i2 = i then v else cB S i2 j2 := rfl
theorem cB_sW (S : Cs) (j : Nat) (v : Int32) (i2 j2 : Nat) : cB (sW S j v) i2 j2 = cB S i2 j2 := rfl
theorem cB_sN (S : Cs) (o : Option Nat) (i2 j2 : Nat) : cB (sN S o) i2 j2 = cB S i2 j2 := rfl
theorem cW_sO (S : Cs) (j : Nat) (v : Int32) (j2 : Nat) : cW (sO S j v) j2 = cW S j2 := rfl
theorem cW_sL (S : Cs) (i j : Nat) (v : Int32) (j2 : Nat) : cW (sL S i j v) j2 = cW S j2 := rfl
theorem cW_sQ (S : Cs) (i j : Nat) (v : Int32) (j2 : Nat) : cW (sQ S i j v) j2 = cW S j2 := rfl
theorem cW_sT (S : Cs) (i j : Nat) (v : Int32) (j2 : Nat) : cW (sT S i j v) j2 = cW S j2 := rfl
theorem cW_sB (S : Cs) (i j : Nat) (v : Int32) (j2 : Nat) : cW (sB S i j v) j2 = cW S j2 := rfl
theorem cW_sW (S : Cs) (j : Nat) (v : Int32) (j2 : Nat) : cW (sW S j v) j2 = if j2 = j then v else cW S j2 := rfl
theorem cW_sN (S : Cs) (o : Option Nat) (j2 : Nat) : cW (sN S o) j2 = cW S j2 := rfl
theorem cN_sO (S : Cs) (j : Nat) (v : Int32) : cN (sO S j v) = cN S := rfl
theorem cN_sL (S : Cs) (i j : Nat) (v : Int32) : cN (sL S i j v) = cN S := rfl
theorem cN_sQ (S : Cs) (i j : Nat) (v : Int32) : cN (sQ S i j v) = cN S := rfl
theorem cN_sT (S : Cs) (i j : Nat) (v : Int32) : cN (sT S i j v) = cN S := rfl
theorem cN_sB (S : Cs) (i j : Nat) (v : Int32) : cN (sB S i j v) = cN S := rfl
theorem cN_sW (S : Cs) (j : Nat) (v : Int32) : cN (sW S j v) = cN S := rfl
theorem cN_sN (S : Cs) (o : Option Nat) : cN (sN S o) = o := rfl
def cOf (ad : Nat → Nat) (S : Cs) : List Value := [.ref (ad 1), .ref (ad 2), .ref (ad 3), .int (cO S 3), .int (cO S 4), .int (cO S 5), .int (cO S 6), va_rf ((cN S).map (fun i => ad (16 + 2 * i))), .int (cO S 8), .int (cO S 9), .int (cO S 10), .int (cO S 11)]
def cLf (ad : Nat → Nat) (S : Cs) (i : Nat) : List Value := [.int (cL S i 0), .int (cL S i 1), .ref (ad (5 + 2 * i)), .int (cL S i 3)]
def cTf (ad : Nat → Nat) (S : Cs) (i : Nat) : List Value := [.int (cT S i 0), .int (cT S i 1), .ref (ad (17 + 2 * i)), .int (cT S i 3), .int (cT S i 4), .int (cT S i 5), .int (cT S i 6), .int (cT S i 7), .int (cT S i 8), .int (cT S i 9), .int (cT S i 10), .int (cT S i 11), .int (cT S i 12), .int (cT S i 13), .int (cT S i 14), .int (cT S i 15), .int (cT S i 16), .int (cT S i 17), .int (cT S i 18)]
def cE (cy : Nat → ClassId) (ad : Nat → Nat) (S : Cs) (k : Nat) : va_E :=
  if k = 0 then .inr (2, cOf ad S)
  else if k = 1 then .inl (cy 2, 6, .inr (.inr (.inr (.inr (fun j => some (ad (4 + 2 * j)))))))
  else if k = 2 then .inl (cy 3, 16, .inr (.inr (.inr (.inr (fun j => some (ad (16 + 2 * j)))))))
  else if k = 3 then .inl (cy 0, 400, .inl (fun j => cW S j))
  else if k < 16 then (if k % 2 = 0 then .inr (0, cLf ad S ((k - 4) / 2)) else .inl (cy 0, 16, .inl (fun j => cQ S ((k - 5) / 2) j)))
  else (if k % 2 = 0 then .inr (1, cTf ad S ((k - 16) / 2)) else .inl (cy 0, 12, .inl (fun j => cB S ((k - 17) / 2) j)))
def cwl (cy : Nat → ClassId) (ad : Nat → Nat) (S : Cs) : va_W := gw 48 ad (cE cy ad S)
theorem cwl_set (cy : Nat → ClassId) (ad : Nat → Nat) (S : Cs) (k : Nat) (e : va_E) : (cwl cy ad S).set k (ad k, e) = gw 48 ad (va_up (cE cy ad S) k e) := gw_set k e
theorem cE_O (cy : Nat → ClassId) (ad : Nat → Nat) (S : Cs) : cE cy ad S 0 = .inr (2, cOf ad S) := rfl
theorem cE_lr (cy : Nat → ClassId) (ad : Nat → Nat) (S : Cs) : cE cy ad S 1 = .inl (cy 2, 6, .inr (.inr (.inr (.inr (fun j => some (ad (4 + 2 * j))))))) := rfl
theorem cE_ta (cy : Nat → ClassId) (ad : Nat → Nat) (S : Cs) : cE cy ad S 2 = .inl (cy 3, 16, .inr (.inr (.inr (.inr (fun j => some (ad (16 + 2 * j))))))) := rfl
theorem cE_W (cy : Nat → ClassId) (ad : Nat → Nat) (S : Cs) : cE cy ad S 3 = .inl (cy 0, 400, .inl (fun j => cW S j)) := rfl
theorem cE_L (cy : Nat → ClassId) (ad : Nat → Nat) (S : Cs) {i : Nat} (hi : i < 6) : cE cy ad S (4 + 2 * i) = .inr (0, cLf ad S i) := by
  unfold cE
  rw [if_neg (by omega), if_neg (by omega), if_neg (by omega), if_neg (by omega), if_pos (by omega), if_pos (by omega), show (4 + 2 * i - 4) / 2 = i by omega]
theorem cE_Q (cy : Nat → ClassId) (ad : Nat → Nat) (S : Cs) {i : Nat} (hi : i < 6) : cE cy ad S (5 + 2 * i) = .inl (cy 0, 16, .inl (fun j => cQ S i j)) := by
  unfold cE
  rw [if_neg (by omega), if_neg (by omega), if_neg (by omega), if_neg (by omega), if_pos (by omega), if_neg (by omega), show (5 + 2 * i - 5) / 2 = i by omega]
theorem cE_T (cy : Nat → ClassId) (ad : Nat → Nat) (S : Cs) (i : Nat) : cE cy ad S (16 + 2 * i) = .inr (1, cTf ad S i) := by
  unfold cE
  rw [if_neg (by omega), if_neg (by omega), if_neg (by omega), if_neg (by omega), if_neg (by omega), if_pos (by omega), show (16 + 2 * i - 16) / 2 = i by omega]
theorem cE_B (cy : Nat → ClassId) (ad : Nat → Nat) (S : Cs) (i : Nat) : cE cy ad S (17 + 2 * i) = .inl (cy 0, 12, .inl (fun j => cB S i j)) := by
  unfold cE
  rw [if_neg (by omega), if_neg (by omega), if_neg (by omega), if_neg (by omega), if_neg (by omega), if_neg (by omega), show (17 + 2 * i - 17) / 2 = i by omega]
theorem cE_ext (cy : Nat → ClassId) (ad : Nat → Nat) {S S' : Cs} {k : Nat} (hO : k = 0 → cOf ad S = cOf ad S') (hW : k = 3 → ∀ j, cW S j = cW S' j) (hL : ∀ i, k = 4 + 2 * i → i < 6 → cLf ad S i = cLf ad S' i) (hQ : ∀ i, k = 5 + 2 * i → i < 6 → ∀ j, cQ S i j = cQ S' i j) (hT : ∀ i, k = 16 + 2 * i → cTf ad S i = cTf ad S' i) (hB : ∀ i, k = 17 + 2 * i → ∀ j, cB S i j = cB S' i j) : cE cy ad S k = cE cy ad S' k := by
  unfold cE
  by_cases h0 : k = 0
  · simp only [h0, if_true]; rw [hO h0]
  · by_cases h1 : k = 1
    · simp [h1]
    · by_cases h2 : k = 2
      · simp [h2]
      · by_cases h3 : k = 3
        · have hf : (fun j => cW S j) = (fun j => cW S' j) := funext (hW h3)
          subst h3; simp [hf]
        · simp only [h0, h1, h2, h3, if_false]
          by_cases h4 : k < 16
          · simp only [h4, if_true]
            by_cases h5 : k % 2 = 0
            · simp only [h5, if_true]; rw [hL ((k - 4) / 2) (by omega) (by omega)]
            · simp only [h5, if_false]; simp only [hQ ((k - 5) / 2) (by omega) (by omega)]
          · simp only [h4, if_false]
            by_cases h5 : k % 2 = 0
            · simp only [h5, if_true]; rw [hT ((k - 16) / 2) (by omega)]
            · simp only [h5, if_false]; simp only [hB ((k - 17) / 2) (by omega)]
theorem cE_pO (cy : Nat → ClassId) (ad : Nat → Nat) (S : Cs) (j : Nat) (v : Int32) : va_up (cE cy ad S) 0 (.inr (2, cOf ad (sO S j v))) = cE cy ad (sO S j v) := by
  funext k
  by_cases h : k = 0
  · subst h; simp [va_up, cE_O]
  · simp only [va_up, h, if_false]
    exact cE_ext cy ad (fun e => absurd e h) (fun _ _ => rfl) (fun _ _ _ => rfl) (fun _ _ _ _ => rfl) (fun _ _ => rfl) (fun _ _ _ => rfl)
theorem cE_pN (cy : Nat → ClassId) (ad : Nat → Nat) (S : Cs) (o : Option Nat) : va_up (cE cy ad S) 0 (.inr (2, cOf ad (sN S o))) = cE cy ad (sN S o) := by
  funext k
  by_cases h : k = 0
  · subst h; simp [va_up, cE_O]
  · simp only [va_up, h, if_false]
    exact cE_ext cy ad (fun e => absurd e h) (fun _ _ => rfl) (fun _ _ _ => rfl) (fun _ _ _ _ => rfl) (fun _ _ => rfl) (fun _ _ _ => rfl)
theorem cLf_ne (ad : Nat → Nat) (S : Cs) {i i2 : Nat} (j : Nat) (v : Int32) (h : i2 ≠ i) : cLf ad S i2 = cLf ad (sL S i j v) i2 := by
  simp [cLf, cL_sL, h]
theorem cTf_ne (ad : Nat → Nat) (S : Cs) {i i2 : Nat} (j : Nat) (v : Int32) (h : i2 ≠ i) : cTf ad S i2 = cTf ad (sT S i j v) i2 := by
  simp [cTf, cT_sT, h]
theorem cE_pL (cy : Nat → ClassId) (ad : Nat → Nat) (S : Cs) {i : Nat} (hi : i < 6) (j : Nat) (v : Int32) : va_up (cE cy ad S) (4 + 2 * i) (.inr (0, cLf ad (sL S i j v) i)) = cE cy ad (sL S i j v) := by
  funext k
  by_cases h : k = 4 + 2 * i
  · subst h; simp [va_up, cE_L cy ad _ hi]
  · simp only [va_up, h, if_false]
    exact cE_ext cy ad (fun _ => rfl) (fun _ _ => rfl) (fun i2 h2 _ => cLf_ne ad S j v (by omega)) (fun _ _ _ _ => rfl) (fun _ _ => rfl) (fun _ _ _ => rfl)
theorem cE_pT (cy : Nat → ClassId) (ad : Nat → Nat) (S : Cs) (i j : Nat) (v : Int32) : va_up (cE cy ad S) (16 + 2 * i) (.inr (1, cTf ad (sT S i j v) i)) = cE cy ad (sT S i j v) := by
  funext k
  by_cases h : k = 16 + 2 * i
  · subst h; simp [va_up, cE_T]
  · simp only [va_up, h, if_false]
    exact cE_ext cy ad (fun _ => rfl) (fun _ _ => rfl) (fun _ _ _ => rfl) (fun _ _ _ _ => rfl) (fun i2 h2 => cTf_ne ad S j v (by omega)) (fun _ _ _ => rfl)
theorem cE_pQ (cy : Nat → ClassId) (ad : Nat → Nat) (S : Cs) {i : Nat} (hi : i < 6) (j : Nat) (v : Int32) : va_up (cE cy ad S) (5 + 2 * i) (.inl (cy 0, 16, .inl (upd (fun q => cQ S i q) j v))) = cE cy ad (sQ S i j v) := by
  funext k
  by_cases h : k = 5 + 2 * i
  · subst h
    simp only [va_up, if_true, cE_Q cy ad _ hi]
    congr 4
    funext q
    simp [upd, cQ_sQ]
  · simp only [va_up, h, if_false]
    refine cE_ext cy ad (fun _ => rfl) (fun _ _ => rfl) (fun _ _ _ => rfl) (fun i2 h2 _ q => ?_) (fun _ _ => rfl) (fun _ _ _ => rfl)
    have : i2 ≠ i := by omega
    simp [cQ_sQ, this]
theorem cE_pB (cy : Nat → ClassId) (ad : Nat → Nat) (S : Cs) (i j : Nat) (v : Int32) : va_up (cE cy ad S) (17 + 2 * i) (.inl (cy 0, 12, .inl (upd (fun q => cB S i q) j v))) = cE cy ad (sB S i j v) := by
  funext k
  by_cases h : k = 17 + 2 * i
  · subst h
    simp only [va_up, if_true, cE_B]
    congr 4
    funext q
    simp [upd, cB_sB]
  · simp only [va_up, h, if_false]
    refine cE_ext cy ad (fun _ => rfl) (fun _ _ => rfl) (fun _ _ _ => rfl) (fun _ _ _ _ => rfl) (fun _ _ => rfl) (fun i2 h2 q => ?_)
    have : i2 ≠ i := by omega
    simp [cB_sB, this]
theorem cE_pW (cy : Nat → ClassId) (ad : Nat → Nat) (S : Cs) (j : Nat) (v : Int32) : va_up (cE cy ad S) 3 (.inl (cy 0, 400, .inl (upd (fun q => cW S q) j v))) = cE cy ad (sW S j v) := by
  funext k
  by_cases h : k = 3
  · subst h
    simp only [va_up, if_true, cE_W]
    congr 4
  · simp only [va_up, h, if_false]
    exact cE_ext cy ad (fun _ => rfl) (fun e => absurd e h) (fun _ _ _ => rfl) (fun _ _ _ _ => rfl) (fun _ _ => rfl) (fun _ _ _ => rfl)
theorem cTf_0 (ad : Nat → Nat) (S : Cs) (i : Nat) (v : Int32) : (cTf ad S i).set 0 (.int v) = cTf ad (sT S i 0 v) i := by simp [cTf, cT_sT]
theorem cTf_1 (ad : Nat → Nat) (S : Cs) (i : Nat) (v : Int32) : (cTf ad S i).set 1 (.int v) = cTf ad (sT S i 1 v) i := by simp [cTf, cT_sT]
theorem cTf_3 (ad : Nat → Nat) (S : Cs) (i : Nat) (v : Int32) : (cTf ad S i).set 3 (.int v) = cTf ad (sT S i 3 v) i := by simp [cTf, cT_sT]
theorem cTf_4 (ad : Nat → Nat) (S : Cs) (i : Nat) (v : Int32) : (cTf ad S i).set 4 (.int v) = cTf ad (sT S i 4 v) i := by simp [cTf, cT_sT]
theorem cTf_5 (ad : Nat → Nat) (S : Cs) (i : Nat) (v : Int32) : (cTf ad S i).set 5 (.int v) = cTf ad (sT S i 5 v) i := by simp [cTf, cT_sT]
theorem cTf_6 (ad : Nat → Nat) (S : Cs) (i : Nat) (v : Int32) : (cTf ad S i).set 6 (.int v) = cTf ad (sT S i 6 v) i := by simp [cTf, cT_sT]
theorem cTf_7 (ad : Nat → Nat) (S : Cs) (i : Nat) (v : Int32) : (cTf ad S i).set 7 (.int v) = cTf ad (sT S i 7 v) i := by simp [cTf, cT_sT]
theorem cTf_8 (ad : Nat → Nat) (S : Cs) (i : Nat) (v : Int32) : (cTf ad S i).set 8 (.int v) = cTf ad (sT S i 8 v) i := by simp [cTf, cT_sT]
theorem cTf_9 (ad : Nat → Nat) (S : Cs) (i : Nat) (v : Int32) : (cTf ad S i).set 9 (.int v) = cTf ad (sT S i 9 v) i := by simp [cTf, cT_sT]
theorem cTf_10 (ad : Nat → Nat) (S : Cs) (i : Nat) (v : Int32) : (cTf ad S i).set 10 (.int v) = cTf ad (sT S i 10 v) i := by simp [cTf, cT_sT]
theorem cTf_11 (ad : Nat → Nat) (S : Cs) (i : Nat) (v : Int32) : (cTf ad S i).set 11 (.int v) = cTf ad (sT S i 11 v) i := by simp [cTf, cT_sT]
theorem cTf_12 (ad : Nat → Nat) (S : Cs) (i : Nat) (v : Int32) : (cTf ad S i).set 12 (.int v) = cTf ad (sT S i 12 v) i := by simp [cTf, cT_sT]
theorem cTf_13 (ad : Nat → Nat) (S : Cs) (i : Nat) (v : Int32) : (cTf ad S i).set 13 (.int v) = cTf ad (sT S i 13 v) i := by simp [cTf, cT_sT]
theorem cTf_14 (ad : Nat → Nat) (S : Cs) (i : Nat) (v : Int32) : (cTf ad S i).set 14 (.int v) = cTf ad (sT S i 14 v) i := by simp [cTf, cT_sT]
theorem cTf_15 (ad : Nat → Nat) (S : Cs) (i : Nat) (v : Int32) : (cTf ad S i).set 15 (.int v) = cTf ad (sT S i 15 v) i := by simp [cTf, cT_sT]
theorem cTf_16 (ad : Nat → Nat) (S : Cs) (i : Nat) (v : Int32) : (cTf ad S i).set 16 (.int v) = cTf ad (sT S i 16 v) i := by simp [cTf, cT_sT]
theorem cTf_17 (ad : Nat → Nat) (S : Cs) (i : Nat) (v : Int32) : (cTf ad S i).set 17 (.int v) = cTf ad (sT S i 17 v) i := by simp [cTf, cT_sT]
theorem cTf_18 (ad : Nat → Nat) (S : Cs) (i : Nat) (v : Int32) : (cTf ad S i).set 18 (.int v) = cTf ad (sT S i 18 v) i := by simp [cTf, cT_sT]
theorem cLf_0 (ad : Nat → Nat) (S : Cs) (i : Nat) (v : Int32) : (cLf ad S i).set 0 (.int v) = cLf ad (sL S i 0 v) i := by simp [cLf, cL_sL]
theorem cLf_1 (ad : Nat → Nat) (S : Cs) (i : Nat) (v : Int32) : (cLf ad S i).set 1 (.int v) = cLf ad (sL S i 1 v) i := by simp [cLf, cL_sL]
theorem cLf_3 (ad : Nat → Nat) (S : Cs) (i : Nat) (v : Int32) : (cLf ad S i).set 3 (.int v) = cLf ad (sL S i 3 v) i := by simp [cLf, cL_sL]
theorem cOf_3 (ad : Nat → Nat) (S : Cs) (v : Int32) : (cOf ad S).set 3 (.int v) = cOf ad (sO S 3 v) := by simp [cOf, cO_sO, cN_sO]
theorem cOf_4 (ad : Nat → Nat) (S : Cs) (v : Int32) : (cOf ad S).set 4 (.int v) = cOf ad (sO S 4 v) := by simp [cOf, cO_sO, cN_sO]
theorem cOf_5 (ad : Nat → Nat) (S : Cs) (v : Int32) : (cOf ad S).set 5 (.int v) = cOf ad (sO S 5 v) := by simp [cOf, cO_sO, cN_sO]
theorem cOf_6 (ad : Nat → Nat) (S : Cs) (v : Int32) : (cOf ad S).set 6 (.int v) = cOf ad (sO S 6 v) := by simp [cOf, cO_sO, cN_sO]
theorem cOf_8 (ad : Nat → Nat) (S : Cs) (v : Int32) : (cOf ad S).set 8 (.int v) = cOf ad (sO S 8 v) := by simp [cOf, cO_sO, cN_sO]
theorem cOf_9 (ad : Nat → Nat) (S : Cs) (v : Int32) : (cOf ad S).set 9 (.int v) = cOf ad (sO S 9 v) := by simp [cOf, cO_sO, cN_sO]
theorem cOf_10 (ad : Nat → Nat) (S : Cs) (v : Int32) : (cOf ad S).set 10 (.int v) = cOf ad (sO S 10 v) := by simp [cOf, cO_sO, cN_sO]
theorem cOf_11 (ad : Nat → Nat) (S : Cs) (v : Int32) : (cOf ad S).set 11 (.int v) = cOf ad (sO S 11 v) := by simp [cOf, cO_sO, cN_sO]
theorem cOf_n (ad : Nat → Nat) (S : Cs) : (cOf ad S).set 7 .null = cOf ad (sN S none) := rfl
theorem cOf_s (ad : Nat → Nat) (S : Cs) (i : Nat) : (cOf ad S).set 7 (.ref (ad (16 + 2 * i))) = cOf ad (sN S (some i)) := rfl
end
section
/-! the words of nest mates: they ride in every contract of the class -/
def nstW : List Cond := [.methodLinkNest "FeedbackQueues" 54 ⟨"FeedbackQueues$Level", "<init>", "()V"⟩ "FeedbackQueues", .methodLinkNest "FeedbackQueues" 55 ⟨"FeedbackQueues$Task", "<init>", "(I)V"⟩ "FeedbackQueues", .fieldLinkNest "FeedbackQueues" 65 "FeedbackQueues$Level" "quantum" "I" "FeedbackQueues", .fieldLinkNest "FeedbackQueues" 68 "FeedbackQueues$Level" "share" "I" "FeedbackQueues", .methodLinkNest "FeedbackQueues" 96 ⟨"FeedbackQueues$Task", "tellArrival", "(I)V"⟩ "FeedbackQueues", .methodLinkNest "FeedbackQueues" 106 ⟨"FeedbackQueues$Task", "tellBurst", "(I)I"⟩ "FeedbackQueues", .fieldLinkNest "FeedbackQueues" 118 "FeedbackQueues$Task" "state" "I" "FeedbackQueues", .fieldLinkNest "FeedbackQueues" 121 "FeedbackQueues$Task" "level" "I" "FeedbackQueues", .fieldLinkNest "FeedbackQueues" 124 "FeedbackQueues$Task" "ticksRun" "I" "FeedbackQueues", .fieldLinkNest "FeedbackQueues" 127 "FeedbackQueues$Task" "ticksReady" "I" "FeedbackQueues", .fieldLinkNest "FeedbackQueues" 130 "FeedbackQueues$Task" "ticksBlocked" "I" "FeedbackQueues", .fieldLinkNest "FeedbackQueues" 133 "FeedbackQueues$Task" "firstRun" "I" "FeedbackQueues", .fieldLinkNest "FeedbackQueues" 136 "FeedbackQueues$Task" "endedAt" "I" "FeedbackQueues", .fieldLinkNest "FeedbackQueues" 139 "FeedbackQueues$Task" "timesSwitchedTo" "I" "FeedbackQueues", .fieldLinkNest "FeedbackQueues" 142 "FeedbackQueues$Task" "timesDown" "I" "FeedbackQueues", .fieldLinkNest "FeedbackQueues" 145 "FeedbackQueues$Task" "timesToFront" "I" "FeedbackQueues", .fieldLinkNest "FeedbackQueues" 150 "FeedbackQueues$Task" "number" "I" "FeedbackQueues", .methodLinkNest "FeedbackQueues" 153 ⟨"FeedbackQueues$Level", "at", "(I)I"⟩ "FeedbackQueues", .methodLinkNest "FeedbackQueues" 160 ⟨"FeedbackQueues$Level", "clear", "()V"⟩ "FeedbackQueues", .methodLinkNest "FeedbackQueues" 163 ⟨"FeedbackQueues$Task", "startOver", "()V"⟩ "FeedbackQueues", .methodLinkNest "FeedbackQueues" 186 ⟨"FeedbackQueues$Task", "comeUp", "(II)V"⟩ "FeedbackQueues", .methodLinkNest "FeedbackQueues" 190 ⟨"FeedbackQueues$Level", "addAllOf", "(LFeedbackQueues$Level;)V"⟩ "FeedbackQueues", .fieldLinkNest "FeedbackQueues" 194 "FeedbackQueues$Task" "arrival" "I" "FeedbackQueues", .fieldLinkNest "FeedbackQueues" 197 "FeedbackQueues$Task" "shareLeft" "I" "FeedbackQueues", .fieldLinkNest "FeedbackQueues" 203 "FeedbackQueues$Task" "burstLeft" "I" "FeedbackQueues", .methodLinkNest "FeedbackQueues" 206 ⟨"FeedbackQueues$Task", "beginBurst", "()Z"⟩ "FeedbackQueues", .fieldLinkNest "FeedbackQueues" 220 "FeedbackQueues$Task" "keepsQuantum" "Z" "FeedbackQueues", .methodLinkNest "FeedbackQueues" 224 ⟨"FeedbackQueues$Level", "addFirst", "(I)V"⟩ "FeedbackQueues", .fieldLinkNest "FeedbackQueues" 227 "FeedbackQueues$Level" "size" "I" "FeedbackQueues", .methodLinkNest "FeedbackQueues" 230 ⟨"FeedbackQueues$Level", "takeFirst", "()I"⟩ "FeedbackQueues", .methodLinkNest "FeedbackQueues" 237 ⟨"FeedbackQueues$Task", "beginRunning", "(II)V"⟩ "FeedbackQueues", .fieldLinkNest "FeedbackQueues" 240 "FeedbackQueues$Task" "quantumLeft" "I" "FeedbackQueues", .methodLinkNest "FeedbackQueues" 249 ⟨"FeedbackQueues$Level", "addLast", "(I)V"⟩ "FeedbackQueues"]
def Nst (U : State) : Prop := ∀ w ∈ nstW, va_Nw w U
theorem nst_kind : ∀ w ∈ nstW, (∃ a i b n d h, w = .fieldLinkNest a i b n d h) ∨ (∃ a i x h, w = .methodLinkNest a i x h) := by
  intro w hw
  simp only [nstW, List.mem_cons, List.not_mem_nil, or_false] at hw
  rcases hw with rfl | rfl | rfl | rfl | rfl | rfl | rfl | rfl | rfl | rfl | rfl | rfl | rfl | rfl | rfl | rfl | rfl | rfl | rfl | rfl | rfl | rfl | rfl | rfl | rfl | rfl | rfl | rfl | rfl | rfl | rfl | rfl | rfl
  all_goals first | exact Or.inl ⟨_, _, _, _, _, _, rfl⟩ | exact Or.inr ⟨_, _, _, _, rfl⟩
theorem Nst.warm {s U : State} (hW : s.WarmedH U.vm) (h : Nst s) : Nst U := by
  intro w hw
  rcases nst_kind w hw with ⟨a, i, b, n, d, h', rfl⟩ | ⟨a, i, x, h', rfl⟩
  · exact va_Nw.warmF hW (h _ hw)
  · exact va_Nw.warmM hW (h _ hw)
theorem Nst.same {u U : State} (hv : u.vm = U.vm) (h : Nst u) : Nst U := by
  intro w hw
  have h1 := h w hw
  rcases nst_kind w hw with ⟨a, i, b, n, d, h', rfl⟩ | ⟨a, i, x, h', rfl⟩
  · exact va_Nw.same rfl hv h1
  · exact va_Nw.same rfl hv h1
theorem Nst.fld {s : State} (h : Nst s) {args : Array Value} {a : String} {i : Nat} {b n d h' : String} (hm : Cond.fieldLinkNest a i b n d h' ∈ nstW) : (Cond.fieldLinkNest a i b n d h').before args s = true := va_Nw.use rfl (h _ hm)
theorem Nst.mth {s : State} (h : Nst s) {a : String} {i : Nat} {x : MethodName} {h' : String} (hm : Cond.methodLinkNest a i x h' ∈ nstW) : va_Nw (.methodLinkNest a i x h') s := h _ hm
/-- the array classes -/
abbrev tyL (cy : Nat → ClassId) : List (ClassId × FieldType) := [(cy 0, .int), (cy 1, .boolean), (cy 2, .object RX0), (cy 3, .object RX1), (cy 4, .long)]
/-- where a method of the class begins, over the world of S -/
def cPre (D : va_G) (cy : Nat → ClassId) (ad : Nat → Nat) (S : Cs) (sz : Nat) (U : State) : Prop := U.heap.size = sz ∧ va_P D vwCl (cwl cy ad S) U.heap ∧ va_K D vwCl (tyL cy) U ∧ gw_ap 48 ad (fun _ => True) ∧ Nst U
def cPost (D : va_G) (cy : Nat → ClassId) (ad : Nat → Nat) (S : Cs) (t : State) : Prop := va_P D vwCl (cwl cy ad S) t.heap
def cMv (l : Launch) (y : MethodName) (ws : List Cond) (rm : Room) (D : va_G) (cy : Nat → ClassId) (ad : Nat → Nat) (av : List Value) (S S' : Cs) : Prop :=
  ∀ sz, Met l y ws rm (va_Pc av (cPre D cy ad S sz)) (va_Qv (fun _ : Unit => True) (fun _ t => cPost D cy ad S' t) (gA 48 ad sz)) 0 0 (gA 48 ad sz)
def cMi (l : Launch) (y : MethodName) (ws : List Cond) (rm : Room) (D : va_G) (cy : Nat → ClassId) (ad : Nat → Nat) (av : List Value) (S S' : Cs) (r : Int32) : Prop :=
  ∀ sz, Met l y ws rm (va_Pc av (cPre D cy ad S sz)) (va_Qi (fun (x : Int32) (_ : Unit) => x = r) (fun _ t => cPost D cy ad S' t) (gA 48 ad sz)) 0 0 (gA 48 ad sz)
theorem cPre_blind {D : va_G} {cy : Nat → ClassId} {ad : Nat → Nat} {S : Cs} {sz : Nat} {av : List Value} : FrameBlind (va_Pc av (cPre D cy ad S sz)) := by
  intro a U g mk q
  obtain ⟨q0, q1, qP, qK, qD, qN⟩ := q
  exact ⟨q0, q1, qP, va_K.moved (u := U) (U := U.calling g mk a) (Vm.Alike.refl U.vm) qK, qD, Nst.same (u := U) rfl qN⟩
section CR
variable {p : Program} {l : Launch} {e : Env} {R : Room} {s : State} {m : MethodId} {args : Array Value} {below : List Frame} {meth : Method} {c : Code} {H : Heap} {locs : List Loc} {cells slots : Nat} {Q : State → Prop}
variable {cc : ByteArray} {pc : Nat} {ls : Array Slot} {rest st0 : List Value} {D : va_G} {A : Nat → Prop} {cy : Nat → ClassId} {ad : Nat → Nat} {S : Cs} {H0 : Heap} {own : String} {index : Nat} {Ts : List Cond}
theorem c_gT (hx : p.tables.exec = Jvm.exec) (hb : c.code = cc) (hts : ∀ w ∈ Ts, w.before args s = true) (hin : ∀ w ∈ wsX10, w ∈ Ts) (hown : s.vm.findClass own = some m.cls) (hK : va_K D vwCl (tyL cy) s) (hP : va_P D vwCl (cwl cy ad S) H) {i : Nat} (hi : i < 16) (j : Nat) (hj : j < 19) (hlink : (Cond.fieldLink own index (TX1 j).1 (TX1 j).2.1 (TX1 j).2.2.1).before args s = true) {v : Value} (hv : (cTf ad S i)[j]? = some v) (hdg : decode cc pc = .ok (.getfield index, 3))
    (kk : W p l e R s m args below meth c H locs cells slots Q (F0 m (pc + 3) ls (v :: rest))) : W p l e R s m args below meth c H locs cells slots Q (F0 m pc ls (.ref (ad (16 + 2 * i)) :: rest)) :=
  va_get (C := RX1) (T := TX1) (N := 19) (ci := 1) hx hb hts hin hown hK hP (16 + 2 * i) ((gw_get (by omega)).trans (by rw [cE_T cy ad S i])) rfl j hj hlink (fun _ h9 => h9) hv hdg kk
theorem c_pT (hx : p.tables.exec = Jvm.exec) (hb : c.code = cc) (hts : ∀ w ∈ Ts, w.before args s = true) (hin : ∀ w ∈ wsX10, w ∈ Ts) (hown : s.vm.findClass own = some m.cls) (hK : va_K D vwCl (tyL cy) s) (hap : gw_ap 48 ad A) (hP : va_P D vwCl (cwl cy ad S) H) (hS : va_S A H0 H locs) {i : Nat} (hi : i < 16) (j : Nat) (hj : j < 19) (hlink : (Cond.fieldLink own index (TX1 j).1 (TX1 j).2.1 (TX1 j).2.2.1).before args s = true) (hfin : (TX1 j).2.2.2 = false) {ty : FieldType} {v : Int32} (hd : parseFieldDescriptor (TX1 j).2.2.1 = some ty) (hn : narrow ty (.int v) = .int v) (hfit : fits ty (.int v) = true) (hset : (cTf ad S i).set j (.int v) = cTf ad (sT S i j v) i) (hl : j < (cTf ad S i).length) (hdg : decode cc pc = .ok (.putfield index, 3))
    (kk : ∀ (H1 : Heap) (locs1 : List Loc), va_P D vwCl (cwl cy ad (sT S i j v)) H1 → va_S A H0 H1 locs1 → W p l e R s m args below meth c H1 locs1 cells slots Q (F0 m (pc + 3) ls rest)) : W p l e R s m args below meth c H locs cells slots Q (F0 m pc ls (.int v :: .ref (ad (16 + 2 * i)) :: rest)) :=
  va_put (C := RX1) (T := TX1) (N := 19) (ci := 1) hx hb hts hin tyX1 tyX1_ok nmX1 hown hK hP (gw_D hap _) hS (16 + 2 * i) ((gw_get (by omega)).trans (by rw [cE_T cy ad S i])) rfl j hj hlink (fun _ h9 => h9) hfin hd hn hfit hl hdg (fun H1 locs1 hP1 _ hS1 => kk H1 locs1 (by
    rw [hset, cwl_set, cE_pT cy ad S i] at hP1; exact hP1) hS1)
theorem c_gTN {host : String} (hx : p.tables.exec = Jvm.exec) (hb : c.code = cc) (hts : ∀ w ∈ Ts, w.before args s = true) (hin : ∀ w ∈ wsX10, w ∈ Ts) (hown : s.vm.findClass own = some m.cls) (hK : va_K D vwCl (tyL cy) s) (hP : va_P D vwCl (cwl cy ad S) H) {i : Nat} (hi : i < 16) (j : Nat) (hj : j < 19) (hlink : (Cond.fieldLinkNest own index (TX1 j).1 (TX1 j).2.1 (TX1 j).2.2.1 host).before args s = true) {v : Value} (hv : (cTf ad S i)[j]? = some v) (hdg : decode cc pc = .ok (.getfield index, 3))
    (kk : W p l e R s m args below meth c H locs cells slots Q (F0 m (pc + 3) ls (v :: rest))) : W p l e R s m args below meth c H locs cells slots Q (F0 m pc ls (.ref (ad (16 + 2 * i)) :: rest)) :=
  va_getN (C := RX1) (T := TX1) (N := 19) (ci := 1) hx hb hts hin hown hK hP (16 + 2 * i) ((gw_get (by omega)).trans (by rw [cE_T cy ad S i])) rfl j hj hlink (fun _ h9 => h9) hv hdg kk
theorem c_pTN {host : String} (hx : p.tables.exec = Jvm.exec) (hb : c.code = cc) (hts : ∀ w ∈ Ts, w.before args s = true) (hin : ∀ w ∈ wsX10, w ∈ Ts) (hown : s.vm.findClass own = some m.cls) (hK : va_K D vwCl (tyL cy) s) (hap : gw_ap 48 ad A) (hP : va_P D vwCl (cwl cy ad S) H) (hS : va_S A H0 H locs) {i : Nat} (hi : i < 16) (j : Nat) (hj : j < 19) (hlink : (Cond.fieldLinkNest own index (TX1 j).1 (TX1 j).2.1 (TX1 j).2.2.1 host).before args s = true) (hfin : (TX1 j).2.2.2 = false) {ty : FieldType} {v : Int32} (hd : parseFieldDescriptor (TX1 j).2.2.1 = some ty) (hn : narrow ty (.int v) = .int v) (hfit : fits ty (.int v) = true) (hset : (cTf ad S i).set j (.int v) = cTf ad (sT S i j v) i) (hl : j < (cTf ad S i).length) (hdg : decode cc pc = .ok (.putfield index, 3))
    (kk : ∀ (H1 : Heap) (locs1 : List Loc), va_P D vwCl (cwl cy ad (sT S i j v)) H1 → va_S A H0 H1 locs1 → W p l e R s m args below meth c H1 locs1 cells slots Q (F0 m (pc + 3) ls rest)) : W p l e R s m args below meth c H locs cells slots Q (F0 m pc ls (.int v :: .ref (ad (16 + 2 * i)) :: rest)) :=
  va_putN (C := RX1) (T := TX1) (N := 19) (ci := 1) hx hb hts hin tyX1 tyX1_ok nmX1 hown hK hP (gw_D hap _) hS (16 + 2 * i) ((gw_get (by omega)).trans (by rw [cE_T cy ad S i])) rfl j hj hlink (fun _ h9 => h9) hfin hd hn hfit hl hdg (fun H1 locs1 hP1 _ hS1 => kk H1 locs1 (by
    rw [hset, cwl_set, cE_pT cy ad S i] at hP1; exact hP1) hS1)
theorem c_gL (hx : p.tables.exec = Jvm.exec) (hb : c.code = cc) (hts : ∀ w ∈ Ts, w.before args s = true) (hin : ∀ w ∈ wsX00, w ∈ Ts) (hown : s.vm.findClass own = some m.cls) (hK : va_K D vwCl (tyL cy) s) (hP : va_P D vwCl (cwl cy ad S) H) {i : Nat} (hi : i < 6) (j : Nat) (hj : j < 4) (hlink : (Cond.fieldLink own index (TX0 j).1 (TX0 j).2.1 (TX0 j).2.2.1).before args s = true) {v : Value} (hv : (cLf ad S i)[j]? = some v) (hdg : decode cc pc = .ok (.getfield index, 3))
    (kk : W p l e R s m args below meth c H locs cells slots Q (F0 m (pc + 3) ls (v :: rest))) : W p l e R s m args below meth c H locs cells slots Q (F0 m pc ls (.ref (ad (4 + 2 * i)) :: rest)) :=
  va_get (C := RX0) (T := TX0) (N := 4) (ci := 0) hx hb hts hin hown hK hP (4 + 2 * i) ((gw_get (by omega)).trans (by rw [cE_L cy ad S hi])) rfl j hj hlink (fun _ h9 => h9) hv hdg kk
theorem c_pL (hx : p.tables.exec = Jvm.exec) (hb : c.code = cc) (hts : ∀ w ∈ Ts, w.before args s = true) (hin : ∀ w ∈ wsX00, w ∈ Ts) (hown : s.vm.findClass own = some m.cls) (hK : va_K D vwCl (tyL cy) s) (hap : gw_ap 48 ad A) (hP : va_P D vwCl (cwl cy ad S) H) (hS : va_S A H0 H locs) {i : Nat} (hi : i < 6) (j : Nat) (hj : j < 4) (hlink : (Cond.fieldLink own index (TX0 j).1 (TX0 j).2.1 (TX0 j).2.2.1).before args s = true) (hfin : (TX0 j).2.2.2 = false) {ty : FieldType} {v : Int32} (hd : parseFieldDescriptor (TX0 j).2.2.1 = some ty) (hn : narrow ty (.int v) = .int v) (hfit : fits ty (.int v) = true) (hset : (cLf ad S i).set j (.int v) = cLf ad (sL S i j v) i) (hl : j < (cLf ad S i).length) (hdg : decode cc pc = .ok (.putfield index, 3))
    (kk : ∀ (H1 : Heap) (locs1 : List Loc), va_P D vwCl (cwl cy ad (sL S i j v)) H1 → va_S A H0 H1 locs1 → W p l e R s m args below meth c H1 locs1 cells slots Q (F0 m (pc + 3) ls rest)) : W p l e R s m args below meth c H locs cells slots Q (F0 m pc ls (.int v :: .ref (ad (4 + 2 * i)) :: rest)) :=
  va_put (C := RX0) (T := TX0) (N := 4) (ci := 0) hx hb hts hin tyX0 tyX0_ok nmX0 hown hK hP (gw_D hap _) hS (4 + 2 * i) ((gw_get (by omega)).trans (by rw [cE_L cy ad S hi])) rfl j hj hlink (fun _ h9 => h9) hfin hd hn hfit hl hdg (fun H1 locs1 hP1 _ hS1 => kk H1 locs1 (by
    rw [hset, cwl_set, cE_pL cy ad S hi] at hP1; exact hP1) hS1)
theorem c_gLN {host : String} (hx : p.tables.exec = Jvm.exec) (hb : c.code = cc) (hts : ∀ w ∈ Ts, w.before args s = true) (hin : ∀ w ∈ wsX00, w ∈ Ts) (hown : s.vm.findClass own = some m.cls) (hK : va_K D vwCl (tyL cy) s) (hP : va_P D vwCl (cwl cy ad S) H) {i : Nat} (hi : i < 6) (j : Nat) (hj : j < 4) (hlink : (Cond.fieldLinkNest own index (TX0 j).1 (TX0 j).2.1 (TX0 j).2.2.1 host).before args s = true) {v : Value} (hv : (cLf ad S i)[j]? = some v) (hdg : decode cc pc = .ok (.getfield index, 3))
    (kk : W p l e R s m args below meth c H locs cells slots Q (F0 m (pc + 3) ls (v :: rest))) : W p l e R s m args below meth c H locs cells slots Q (F0 m pc ls (.ref (ad (4 + 2 * i)) :: rest)) :=
  va_getN (C := RX0) (T := TX0) (N := 4) (ci := 0) hx hb hts hin hown hK hP (4 + 2 * i) ((gw_get (by omega)).trans (by rw [cE_L cy ad S hi])) rfl j hj hlink (fun _ h9 => h9) hv hdg kk
theorem c_pLN {host : String} (hx : p.tables.exec = Jvm.exec) (hb : c.code = cc) (hts : ∀ w ∈ Ts, w.before args s = true) (hin : ∀ w ∈ wsX00, w ∈ Ts) (hown : s.vm.findClass own = some m.cls) (hK : va_K D vwCl (tyL cy) s) (hap : gw_ap 48 ad A) (hP : va_P D vwCl (cwl cy ad S) H) (hS : va_S A H0 H locs) {i : Nat} (hi : i < 6) (j : Nat) (hj : j < 4) (hlink : (Cond.fieldLinkNest own index (TX0 j).1 (TX0 j).2.1 (TX0 j).2.2.1 host).before args s = true) (hfin : (TX0 j).2.2.2 = false) {ty : FieldType} {v : Int32} (hd : parseFieldDescriptor (TX0 j).2.2.1 = some ty) (hn : narrow ty (.int v) = .int v) (hfit : fits ty (.int v) = true) (hset : (cLf ad S i).set j (.int v) = cLf ad (sL S i j v) i) (hl : j < (cLf ad S i).length) (hdg : decode cc pc = .ok (.putfield index, 3))
    (kk : ∀ (H1 : Heap) (locs1 : List Loc), va_P D vwCl (cwl cy ad (sL S i j v)) H1 → va_S A H0 H1 locs1 → W p l e R s m args below meth c H1 locs1 cells slots Q (F0 m (pc + 3) ls rest)) : W p l e R s m args below meth c H locs cells slots Q (F0 m pc ls (.int v :: .ref (ad (4 + 2 * i)) :: rest)) :=
  va_putN (C := RX0) (T := TX0) (N := 4) (ci := 0) hx hb hts hin tyX0 tyX0_ok nmX0 hown hK hP (gw_D hap _) hS (4 + 2 * i) ((gw_get (by omega)).trans (by rw [cE_L cy ad S hi])) rfl j hj hlink (fun _ h9 => h9) hfin hd hn hfit hl hdg (fun H1 locs1 hP1 _ hS1 => kk H1 locs1 (by
    rw [hset, cwl_set, cE_pL cy ad S hi] at hP1; exact hP1) hS1)
theorem c_gO (hx : p.tables.exec = Jvm.exec) (hb : c.code = cc) (hts : ∀ w ∈ Ts, w.before args s = true) (hin : ∀ w ∈ wsX20, w ∈ Ts) (hown : s.vm.findClass own = some m.cls) (hK : va_K D vwCl (tyL cy) s) (hP : va_P D vwCl (cwl cy ad S) H) (j : Nat) (hj : j < 12) (hlink : (Cond.fieldLink own index (TX2 j).1 (TX2 j).2.1 (TX2 j).2.2.1).before args s = true) {v : Value} (hv : (cOf ad S)[j]? = some v) (hdg : decode cc pc = .ok (.getfield index, 3))
    (kk : W p l e R s m args below meth c H locs cells slots Q (F0 m (pc + 3) ls (v :: rest))) : W p l e R s m args below meth c H locs cells slots Q (F0 m pc ls (.ref (ad (0)) :: rest)) :=
  va_get (C := RX2) (T := TX2) (N := 12) (ci := 2) hx hb hts hin hown hK hP (0) ((gw_get (by omega)).trans (by rw [cE_O cy ad S])) rfl j hj hlink (fun _ h9 => h9) hv hdg kk
theorem c_pO (hx : p.tables.exec = Jvm.exec) (hb : c.code = cc) (hts : ∀ w ∈ Ts, w.before args s = true) (hin : ∀ w ∈ wsX20, w ∈ Ts) (hown : s.vm.findClass own = some m.cls) (hK : va_K D vwCl (tyL cy) s) (hap : gw_ap 48 ad A) (hP : va_P D vwCl (cwl cy ad S) H) (hS : va_S A H0 H locs) (j : Nat) (hj : j < 12) (hlink : (Cond.fieldLink own index (TX2 j).1 (TX2 j).2.1 (TX2 j).2.2.1).before args s = true) (hfin : (TX2 j).2.2.2 = false) {ty : FieldType} {v : Int32} (hd : parseFieldDescriptor (TX2 j).2.2.1 = some ty) (hn : narrow ty (.int v) = .int v) (hfit : fits ty (.int v) = true) (hset : (cOf ad S).set j (.int v) = cOf ad (sO S j v)) (hl : j < (cOf ad S).length) (hdg : decode cc pc = .ok (.putfield index, 3))
    (kk : ∀ (H1 : Heap) (locs1 : List Loc), va_P D vwCl (cwl cy ad (sO S j v)) H1 → va_S A H0 H1 locs1 → W p l e R s m args below meth c H1 locs1 cells slots Q (F0 m (pc + 3) ls rest)) : W p l e R s m args below meth c H locs cells slots Q (F0 m pc ls (.int v :: .ref (ad (0)) :: rest)) :=
  va_put (C := RX2) (T := TX2) (N := 12) (ci := 2) hx hb hts hin tyX2 tyX2_ok nmX2 hown hK hP (gw_D hap _) hS (0) ((gw_get (by omega)).trans (by rw [cE_O cy ad S])) rfl j hj hlink (fun _ h9 => h9) hfin hd hn hfit hl hdg (fun H1 locs1 hP1 _ hS1 => kk H1 locs1 (by
    rw [hset, cwl_set, cE_pO cy ad S] at hP1; exact hP1) hS1)
theorem c_pNn (hx : p.tables.exec = Jvm.exec) (hb : c.code = cc) (hts : ∀ w ∈ Ts, w.before args s = true) (hin : ∀ w ∈ wsX20, w ∈ Ts) (hown : s.vm.findClass own = some m.cls) (hK : va_K D vwCl (tyL cy) s) (hap : gw_ap 48 ad A) (hP : va_P D vwCl (cwl cy ad S) H) (hS : va_S A H0 H locs) (hlink : (Cond.fieldLink own index (TX2 7).1 (TX2 7).2.1 (TX2 7).2.2.1).before args s = true) (hdg : decode cc pc = .ok (.putfield index, 3))
    (kk : ∀ (H1 : Heap) (locs1 : List Loc), va_P D vwCl (cwl cy ad (sN S none)) H1 → va_S A H0 H1 locs1 → W p l e R s m args below meth c H1 locs1 cells slots Q (F0 m (pc + 3) ls rest)) : W p l e R s m args below meth c H locs cells slots Q (F0 m pc ls (.null :: .ref (ad 0) :: rest)) :=
  va_put (C := RX2) (T := TX2) (N := 12) (ci := 2) (ty := .object "FeedbackQueues$Task") hx hb hts hin tyX2 tyX2_ok nmX2 hown hK hP (gw_D hap _) hS 0 ((gw_get (by omega)).trans (by rw [cE_O cy ad S])) rfl 7 (by omega) hlink (fun _ h9 => h9) rfl (by decide +kernel) rfl rfl (Nat.le_of_ble_eq_true rfl) hdg (fun H1 locs1 hP1 _ hS1 => kk H1 locs1 (by
    rw [cOf_n ad S, cwl_set, cE_pN cy ad S] at hP1; exact hP1) hS1)
theorem c_pNs (hx : p.tables.exec = Jvm.exec) (hb : c.code = cc) (hts : ∀ w ∈ Ts, w.before args s = true) (hin : ∀ w ∈ wsX20, w ∈ Ts) (hown : s.vm.findClass own = some m.cls) (hK : va_K D vwCl (tyL cy) s) (hap : gw_ap 48 ad A) (hP : va_P D vwCl (cwl cy ad S) H) (hS : va_S A H0 H locs) {i : Nat} (hlink : (Cond.fieldLink own index (TX2 7).1 (TX2 7).2.1 (TX2 7).2.2.1).before args s = true) (hdg : decode cc pc = .ok (.putfield index, 3))
    (kk : ∀ (H1 : Heap) (locs1 : List Loc), va_P D vwCl (cwl cy ad (sN S (some i))) H1 → va_S A H0 H1 locs1 → W p l e R s m args below meth c H1 locs1 cells slots Q (F0 m (pc + 3) ls rest)) : W p l e R s m args below meth c H locs cells slots Q (F0 m pc ls (.ref (ad (16 + 2 * i)) :: .ref (ad 0) :: rest)) :=
  va_put (C := RX2) (T := TX2) (N := 12) (ci := 2) (ty := .object "FeedbackQueues$Task") hx hb hts hin tyX2 tyX2_ok nmX2 hown hK hP (gw_D hap _) hS 0 ((gw_get (by omega)).trans (by rw [cE_O cy ad S])) rfl 7 (by omega) hlink (fun _ h9 => h9) rfl (by decide +kernel) rfl rfl (Nat.le_of_ble_eq_true rfl) hdg (fun H1 locs1 hP1 _ hS1 => kk H1 locs1 (by
    rw [cOf_s ad S i, cwl_set, cE_pN cy ad S] at hP1; exact hP1) hS1)
theorem cOf_7s (ad : Nat → Nat) {S : Cs} (h : ¬ cN S = none) : (cOf ad S)[7]? = some (.ref (ad (16 + 2 * cI S))) := by
  unfold cI
  cases hq : cN S with
  | none => exact absurd hq h
  | some i => simp [cOf, hq, va_rf]
theorem cOf_7n (ad : Nat → Nat) {S : Cs} (h : cN S = none) : (cOf ad S)[7]? = some .null := by
  simp [cOf, h, va_rf]
theorem c_aL (hx : p.tables.exec = Jvm.exec) (hb : c.code = cc) (hK : va_K D vwCl (tyL cy) s) (hP : va_P D vwCl (cwl cy ad S) H) {x : Int32} {k : Nat} (hi : ix x k 6) (hdg : decode cc pc = .ok (.aaload, 1))
    (kk : W p l e R s m args below meth c H locs cells slots Q (F0 m (pc + 1) ls (.ref (ad (4 + 2 * k)) :: rest))) : W p l e R s m args below meth c H locs cells slots Q (F0 m pc ls (.int x :: .ref (ad 1) :: rest)) :=
  va_aldq hx hb hK hP 1 2 ((gw_get (by omega)).trans (by rw [cE_lr])) rfl hi.vp hdg (by rw [hi.2.1]; exact kk)
theorem c_aT (hx : p.tables.exec = Jvm.exec) (hb : c.code = cc) (hK : va_K D vwCl (tyL cy) s) (hP : va_P D vwCl (cwl cy ad S) H) {x : Int32} {k : Nat} (hi : ix x k 16) (hdg : decode cc pc = .ok (.aaload, 1))
    (kk : W p l e R s m args below meth c H locs cells slots Q (F0 m (pc + 1) ls (.ref (ad (16 + 2 * k)) :: rest))) : W p l e R s m args below meth c H locs cells slots Q (F0 m pc ls (.int x :: .ref (ad 2) :: rest)) :=
  va_aldq hx hb hK hP 2 3 ((gw_get (by omega)).trans (by rw [cE_ta])) rfl hi.vp hdg (by rw [hi.2.1]; exact kk)
theorem c_iW (hx : p.tables.exec = Jvm.exec) (hb : c.code = cc) (hK : va_K D vwCl (tyL cy) s) (hP : va_P D vwCl (cwl cy ad S) H) {x : Int32} {k : Nat} (hix : ix x k 400) (hdg : decode cc pc = .ok (.iaload, 1))
    (kk : W p l e R s m args below meth c H locs cells slots Q (F0 m (pc + 1) ls (.int (cW S k) :: rest))) : W p l e R s m args below meth c H locs cells slots Q (F0 m pc ls (.int x :: .ref (ad (3)) :: rest)) :=
  va_iald hx hb hK hP (3) 0 ((gw_get (by omega)).trans (by rw [cE_W cy ad S])) rfl hix.vp hdg (by rw [hix.2.1]; exact kk)
theorem c_sW (hx : p.tables.exec = Jvm.exec) (hb : c.code = cc) (hK : va_K D vwCl (tyL cy) s) (hap : gw_ap 48 ad A) (hP : va_P D vwCl (cwl cy ad S) H) (hS : va_S A H0 H locs) {x v : Int32} {k : Nat} (hix : ix x k 400) (hdg : decode cc pc = .ok (.iastore, 1))
    (kk : ∀ (H1 : Heap) (locs1 : List Loc), va_P D vwCl (cwl cy ad (sW S k v)) H1 → va_S A H0 H1 locs1 → W p l e R s m args below meth c H1 locs1 cells slots Q (F0 m (pc + 1) ls rest)) : W p l e R s m args below meth c H locs cells slots Q (F0 m pc ls (.int v :: .int x :: .ref (ad (3)) :: rest)) :=
  va_iast hx hb hK hP (gw_D hap _) hS (3) 0 ((gw_get (by omega)).trans (by rw [cE_W cy ad S])) rfl hix.vp hdg (fun H1 locs1 hP1 _ hS1 => kk H1 locs1 (by
    rw [hix.2.1, cwl_set, cE_pW cy ad S] at hP1; exact hP1) hS1)
theorem c_iQ (hx : p.tables.exec = Jvm.exec) (hb : c.code = cc) (hK : va_K D vwCl (tyL cy) s) (hP : va_P D vwCl (cwl cy ad S) H) {i : Nat} (hi : i < 6) {x : Int32} {k : Nat} (hix : ix x k 16) (hdg : decode cc pc = .ok (.iaload, 1))
    (kk : W p l e R s m args below meth c H locs cells slots Q (F0 m (pc + 1) ls (.int (cQ S i k) :: rest))) : W p l e R s m args below meth c H locs cells slots Q (F0 m pc ls (.int x :: .ref (ad (5 + 2 * i)) :: rest)) :=
  va_iald hx hb hK hP (5 + 2 * i) 0 ((gw_get (by omega)).trans (by rw [cE_Q cy ad S hi])) rfl hix.vp hdg (by rw [hix.2.1]; exact kk)
theorem c_sQ (hx : p.tables.exec = Jvm.exec) (hb : c.code = cc) (hK : va_K D vwCl (tyL cy) s) (hap : gw_ap 48 ad A) (hP : va_P D vwCl (cwl cy ad S) H) (hS : va_S A H0 H locs) {i : Nat} (hi : i < 6) {x v : Int32} {k : Nat} (hix : ix x k 16) (hdg : decode cc pc = .ok (.iastore, 1))
    (kk : ∀ (H1 : Heap) (locs1 : List Loc), va_P D vwCl (cwl cy ad (sQ S i k v)) H1 → va_S A H0 H1 locs1 → W p l e R s m args below meth c H1 locs1 cells slots Q (F0 m (pc + 1) ls rest)) : W p l e R s m args below meth c H locs cells slots Q (F0 m pc ls (.int v :: .int x :: .ref (ad (5 + 2 * i)) :: rest)) :=
  va_iast hx hb hK hP (gw_D hap _) hS (5 + 2 * i) 0 ((gw_get (by omega)).trans (by rw [cE_Q cy ad S hi])) rfl hix.vp hdg (fun H1 locs1 hP1 _ hS1 => kk H1 locs1 (by
    rw [hix.2.1, cwl_set, cE_pQ cy ad S hi] at hP1; exact hP1) hS1)
theorem c_iB (hx : p.tables.exec = Jvm.exec) (hb : c.code = cc) (hK : va_K D vwCl (tyL cy) s) (hP : va_P D vwCl (cwl cy ad S) H) {i : Nat} (hi : i < 16) {x : Int32} {k : Nat} (hix : ix x k 12) (hdg : decode cc pc = .ok (.iaload, 1))
    (kk : W p l e R s m args below meth c H locs cells slots Q (F0 m (pc + 1) ls (.int (cB S i k) :: rest))) : W p l e R s m args below meth c H locs cells slots Q (F0 m pc ls (.int x :: .ref (ad (17 + 2 * i)) :: rest)) :=
  va_iald hx hb hK hP (17 + 2 * i) 0 ((gw_get (by omega)).trans (by rw [cE_B cy ad S i])) rfl hix.vp hdg (by rw [hix.2.1]; exact kk)
theorem c_sB (hx : p.tables.exec = Jvm.exec) (hb : c.code = cc) (hK : va_K D vwCl (tyL cy) s) (hap : gw_ap 48 ad A) (hP : va_P D vwCl (cwl cy ad S) H) (hS : va_S A H0 H locs) {i : Nat} (hi : i < 16) {x v : Int32} {k : Nat} (hix : ix x k 12) (hdg : decode cc pc = .ok (.iastore, 1))
    (kk : ∀ (H1 : Heap) (locs1 : List Loc), va_P D vwCl (cwl cy ad (sB S i k v)) H1 → va_S A H0 H1 locs1 → W p l e R s m args below meth c H1 locs1 cells slots Q (F0 m (pc + 1) ls rest)) : W p l e R s m args below meth c H locs cells slots Q (F0 m pc ls (.int v :: .int x :: .ref (ad (17 + 2 * i)) :: rest)) :=
  va_iast hx hb hK hP (gw_D hap _) hS (17 + 2 * i) 0 ((gw_get (by omega)).trans (by rw [cE_B cy ad S i])) rfl hix.vp hdg (fun H1 locs1 hP1 _ hS1 => kk H1 locs1 (by
    rw [hix.2.1, cwl_set, cE_pB cy ad S i] at hP1; exact hP1) hS1)
/-- the receiver of a call -/
theorem c_recv (hK : va_K D vwCl (tyL cy) s) (hP : va_P D vwCl (cwl cy ad S) H) {k ci : Nat} {q : vw_C} {fs : List Value} (hk : k < 48) (he : cE cy ad S k = .inr (ci, fs)) (hc : vwCl[ci]? = some q) : ∃ cell : Cell, H[ad k]? = some cell ∧ cell.vm.isStatics = false ∧ s.vm.findClass q.1 = some cell.cls :=
  va_recv hK hP hc ((gw_get hk).trans (by rw [he]))
variable {y : MethodName} {bytes : ByteArray} {maxL nL n : Nat} {ret : Option FieldType} {ws : List Cond} {rm : Room} {C : String} {As : List Value} {S' : Cs}
theorem c_pre (hK : va_K D vwCl (tyL cy) s) (hap : gw_ap 48 ad A) (hN : Nst s) (hP : va_P D vwCl (cwl cy ad S) H) {av : List Value} : ∀ U : State, U.heap = H → s.WarmedH U.vm → va_Pc av (cPre D cy ad S H.size) av.toArray U :=
  fun U hU hW => ⟨rfl, by rw [hU], by rw [hU]; exact hP, va_K.moved hW.alike hK, ⟨hap.1, fun _ _ => trivial⟩, hN.warm hW⟩
theorem c_goV {mc ms : Nat} {a : Array Value} (hr : va_Run p l e R s m args below meth c H locs cells slots mc ms (F0 m pc ls st0) rest (va_Qv (fun _ : Unit => True) (fun _ t => cPost D cy ad S' t) (gA 48 ad H.size) a) (gA 48 ad H.size)) (hap : gw_ap 48 ad A) (hA : ∀ q, H0.size ≤ q → A q) (hS : va_S A H0 H locs)
    (kk : ∀ (H1 : Heap) (locs1 : List Loc), va_P D vwCl (cwl cy ad S') H1 → va_S A H0 H1 locs1 → W p l e R s m args below meth c H1 locs1 (cells + mc) (slots + ms) Q (F0 m (pc + 3) ls rest)) : W p l e R s m args below meth c H locs cells slots Q (F0 m pc ls st0) :=
  va_callv hr hS (fun q _ h => gA_free hap hS hA q h) (gA_free hap hS hA) (fun _ t H1 locs1 ht _ _ hB _ _ hS1 => kk H1 locs1 (by rw [← ht]; exact hB) hS1)
theorem c_goI {mc ms : Nat} {a : Array Value} {r : Int32} (hr : va_Run p l e R s m args below meth c H locs cells slots mc ms (F0 m pc ls st0) rest (va_Qi (fun (x : Int32) (_ : Unit) => x = r) (fun _ t => cPost D cy ad S' t) (gA 48 ad H.size) a) (gA 48 ad H.size)) (hap : gw_ap 48 ad A) (hA : ∀ q, H0.size ≤ q → A q) (hS : va_S A H0 H locs)
    (kk : ∀ (H1 : Heap) (locs1 : List Loc), va_P D vwCl (cwl cy ad S') H1 → va_S A H0 H1 locs1 → W p l e R s m args below meth c H1 locs1 (cells + mc) (slots + ms) Q (F0 m (pc + 3) ls (.int r :: rest))) : W p l e R s m args below meth c H locs cells slots Q (F0 m pc ls st0) :=
  va_calli hr hS (fun q _ h => gA_free hap hS hA q h) (gA_free hap hS hA) (fun x _ t H1 locs1 ht _ hx hB _ _ hS1 => by subst hx; exact kk H1 locs1 (by rw [← ht]; exact hB) hS1)
theorem c_cVv (F : CallFix p m c cc nL s args Ts own) {k ci : Nat} {q : vw_C} {fs : List Value} (hM : cMv l y ws rm D cy ad (.ref (ad k) :: As) S S') (cw : CallW R s args own q.1 index y bytes maxL ret ws rm 0 0 n) (hK : va_K D vwCl (tyL cy) s) (hap : gw_ap 48 ad A) (hA : ∀ q, H0.size ≤ q → A q) (hN : Nst s) (hP : va_P D vwCl (cwl cy ad S) H) (hS : va_S A H0 H locs) (hk : k < 48) (he : cE cy ad S k = .inr (ci, fs)) (hc : vwCl[ci]? = some q) (hn : As.length = n) (hsz : ls.size = nL) (hst : st0 = As.reverse ++ .ref (ad k) :: rest) (hW : (rest.map fun v => v.category).sum ≤ 8) (hdg : decode cc pc = .ok (.invokevirtual index, 3)) (hf : cells ≤ R.cells ∧ slots ≤ R.slots)
    (kk : ∀ (H1 : Heap) (locs1 : List Loc), va_P D vwCl (cwl cy ad S') H1 → va_S A H0 H1 locs1 → W p l e R s m args below meth c H1 locs1 cells slots Q (F0 m (pc + 3) ls (rest))) : W p l e R s m args below meth c H locs cells slots Q (F0 m pc ls st0) :=
  c_goV (mc := 0) (ms := 0) (va_runV (rest := rest) F (hM H.size) cw ⟨cPre_blind, c_recv hK hP hk he hc, c_pre hK hap hN hP⟩ rfl hn hsz hst (lv_room hW) hdg hf) hap hA hS kk
theorem c_cNv {host : String} (F : CallFix p m c cc nL s args Ts own) {k ci : Nat} {q : vw_C} {fs : List Value} (hM : cMv l y ws rm D cy ad (.ref (ad k) :: As) S S') (cw : va_CN R s args own index y host bytes maxL ret ws rm 0 0 n ∧ (Cond.instanceMethod y).before args s = true ∧ (Cond.selects q.1 y y).before args s = true) (hK : va_K D vwCl (tyL cy) s) (hap : gw_ap 48 ad A) (hA : ∀ q, H0.size ≤ q → A q) (hN : Nst s) (hP : va_P D vwCl (cwl cy ad S) H) (hS : va_S A H0 H locs) (hk : k < 48) (he : cE cy ad S k = .inr (ci, fs)) (hc : vwCl[ci]? = some q) (hn : As.length = n) (hsz : ls.size = nL) (hst : st0 = As.reverse ++ .ref (ad k) :: rest) (hW : (rest.map fun v => v.category).sum ≤ 8) (hdg : decode cc pc = .ok (.invokevirtual index, 3)) (hf : cells ≤ R.cells ∧ slots ≤ R.slots)
    (kk : ∀ (H1 : Heap) (locs1 : List Loc), va_P D vwCl (cwl cy ad S') H1 → va_S A H0 H1 locs1 → W p l e R s m args below meth c H1 locs1 cells slots Q (F0 m (pc + 3) ls (rest))) : W p l e R s m args below meth c H locs cells slots Q (F0 m pc ls st0) :=
  c_goV (mc := 0) (ms := 0) (va_runVN (rest := rest) F (hM H.size) cw ⟨cPre_blind, c_recv hK hP hk he hc, c_pre hK hap hN hP⟩ rfl hn hsz hst (lv_room hW) hdg hf) hap hA hS kk
theorem c_cVi {r : Int32} (F : CallFix p m c cc nL s args Ts own) {k ci : Nat} {q : vw_C} {fs : List Value} (hM : cMi l y ws rm D cy ad (.ref (ad k) :: As) S S' r) (cw : CallW R s args own q.1 index y bytes maxL ret ws rm 0 0 n) (hK : va_K D vwCl (tyL cy) s) (hap : gw_ap 48 ad A) (hA : ∀ q, H0.size ≤ q → A q) (hN : Nst s) (hP : va_P D vwCl (cwl cy ad S) H) (hS : va_S A H0 H locs) (hk : k < 48) (he : cE cy ad S k = .inr (ci, fs)) (hc : vwCl[ci]? = some q) (hn : As.length = n) (hsz : ls.size = nL) (hst : st0 = As.reverse ++ .ref (ad k) :: rest) (hW : (rest.map fun v => v.category).sum ≤ 8) (hdg : decode cc pc = .ok (.invokevirtual index, 3)) (hf : cells ≤ R.cells ∧ slots ≤ R.slots)
    (kk : ∀ (H1 : Heap) (locs1 : List Loc), va_P D vwCl (cwl cy ad S') H1 → va_S A H0 H1 locs1 → W p l e R s m args below meth c H1 locs1 cells slots Q (F0 m (pc + 3) ls (.int r :: rest))) : W p l e R s m args below meth c H locs cells slots Q (F0 m pc ls st0) :=
  c_goI (mc := 0) (ms := 0) (va_runV (rest := rest) F (hM H.size) cw ⟨cPre_blind, c_recv hK hP hk he hc, c_pre hK hap hN hP⟩ rfl hn hsz hst (lv_room hW) hdg hf) hap hA hS kk
theorem c_cNi {r : Int32} {host : String} (F : CallFix p m c cc nL s args Ts own) {k ci : Nat} {q : vw_C} {fs : List Value} (hM : cMi l y ws rm D cy ad (.ref (ad k) :: As) S S' r) (cw : va_CN R s args own index y host bytes maxL ret ws rm 0 0 n ∧ (Cond.instanceMethod y).before args s = true ∧ (Cond.selects q.1 y y).before args s = true) (hK : va_K D vwCl (tyL cy) s) (hap : gw_ap 48 ad A) (hA : ∀ q, H0.size ≤ q → A q) (hN : Nst s) (hP : va_P D vwCl (cwl cy ad S) H) (hS : va_S A H0 H locs) (hk : k < 48) (he : cE cy ad S k = .inr (ci, fs)) (hc : vwCl[ci]? = some q) (hn : As.length = n) (hsz : ls.size = nL) (hst : st0 = As.reverse ++ .ref (ad k) :: rest) (hW : (rest.map fun v => v.category).sum ≤ 8) (hdg : decode cc pc = .ok (.invokevirtual index, 3)) (hf : cells ≤ R.cells ∧ slots ≤ R.slots)
    (kk : ∀ (H1 : Heap) (locs1 : List Loc), va_P D vwCl (cwl cy ad S') H1 → va_S A H0 H1 locs1 → W p l e R s m args below meth c H1 locs1 cells slots Q (F0 m (pc + 3) ls (.int r :: rest))) : W p l e R s m args below meth c H locs cells slots Q (F0 m pc ls st0) :=
  c_goI (mc := 0) (ms := 0) (va_runVN (rest := rest) F (hM H.size) cw ⟨cPre_blind, c_recv hK hP hk he hc, c_pre hK hap hN hP⟩ rfl hn hsz hst (lv_room hW) hdg hf) hap hA hS kk
theorem c_vret {free : Addr → Prop} (hx : p.tables.exec = Jvm.exec) (hb : c.code = cc) (hr : meth.sig.returnType = none) (hlocks : meth.locks = false) (hP : va_P D vwCl (cwl cy ad S') H) (hS : va_S A s.heap H locs) (hdg : decode cc pc = .ok (.return_, 1)) (hlf : ∀ q, A q → free q) :
    W p l e R s m args below meth c H locs cells slots (MQ below (va_Qv (fun _ : Unit => True) (fun _ t => cPost D cy ad S' t) A) args s cells slots free) (F0 m pc ls []) :=
  W.vret hx hb hr (fun t ht _ => ⟨⟨(), rfl, trivial, by show va_P _ _ _ t.heap; rw [ht]; exact hP⟩, hS.F ht⟩) (fun q hq => hlf _ (hS.2.2 q hq)) hdg
theorem c_iret {free : Addr → Prop} {v : Int32} (hx : p.tables.exec = Jvm.exec) (hb : c.code = cc) (hr : meth.sig.returnType = some .int) (hlocks : meth.locks = false) (hP : va_P D vwCl (cwl cy ad S') H) (hS : va_S A s.heap H locs) (hdg : decode cc pc = .ok (.ireturn, 1)) (hlf : ∀ q, A q → free q) :
    W p l e R s m args below meth c H locs cells slots (MQ below (va_Qi (fun (x : Int32) (_ : Unit) => x = v) (fun _ t => cPost D cy ad S' t) A) args s cells slots free) (F0 m pc ls [.int v]) :=
  W.iret hx hb hr (fun t ht _ => ⟨⟨v, (), rfl, rfl, by show va_P _ _ _ t.heap; rw [ht]; exact hP⟩, hS.F ht⟩) (fun q hq => hlf _ (hS.2.2 q hq)) hdg
theorem c_zret {free : Addr → Prop} {v : Int32} (hx : p.tables.exec = Jvm.exec) (hb : c.code = cc) (hr : meth.sig.returnType = some .boolean) (hlocks : meth.locks = false) (hv : narrow .boolean (.int v) = .int v) (hP : va_P D vwCl (cwl cy ad S') H) (hS : va_S A s.heap H locs) (hdg : decode cc pc = .ok (.ireturn, 1)) (hlf : ∀ q, A q → free q) :
    W p l e R s m args below meth c H locs cells slots (MQ below (va_Qi (fun (x : Int32) (_ : Unit) => x = v) (fun _ t => cPost D cy ad S' t) A) args s cells slots free) (F0 m pc ls [.int v]) :=
  W.zret hx hb hr hv (fun t ht _ => ⟨⟨v, (), rfl, rfl, by show va_P _ _ _ t.heap; rw [ht]; exact hP⟩, hS.F ht⟩) (fun q hq => hlf _ (hS.2.2 q hq)) hdg
end CR
end
section
def F_X0_clear (S : Cs) (i : Nat) : Cs :=
  let S1 : Cs := sL S i 3 0
  S1
def F_X0_at (S : Cs) (i : Nat) (p1 : Int32) : Cs × Int32 :=
  if p1 < 0 then
    (S, (-1))
  else
    if (cL S i 3) ≤ p1 then
      (S, (-1))
    else
      (S, cQ S i ((p1).toNatClampNeg))
def F_X0_addLast (S : Cs) (i : Nat) (p1 : Int32) : Cs :=
  if 16 ≤ (cL S i 3) then
    S
  else
    let S1 : Cs := sQ S i (((cL S i 3)).toNatClampNeg) p1
    let S2 : Cs := sL S1 i 3 ((cL S1 i 3) + 1)
    S2
def B_X0_addFirst_14 (i : Nat) (p1 : Int32) (n : Nat) (Z : Cs) : Cs :=
  let S1 : Cs := sQ Z i (n + 1) (cQ Z i n)
  S1
def F_X0_addFirst (S : Cs) (i : Nat) (p1 : Int32) : Cs :=
  if 16 ≤ (cL S i 3) then
    S
  else
    let S2 : Cs := itd (B_X0_addFirst_14 i p1) ((cL S i 3).toNatClampNeg) S
    let S3 : Cs := sQ S2 i 0 p1
    let S4 : Cs := sL S3 i 3 ((cL S3 i 3) + 1)
    S4
def B_X0_takeFirst_28 (i : Nat)  (t : Nat) (Z : Cs) : Cs :=
  let S2 : Cs := sQ Z i t (cQ Z i (t + 1))
  S2
def F_X0_takeFirst (S : Cs) (i : Nat) : Cs × Int32 :=
  if (cL S i 3) = 0 then
    (S, (-1))
  else
    let S1 : Cs := sL S i 3 ((cL S i 3) - 1)
    let S3 : Cs := itr (B_X0_takeFirst_28 i) ((cL S1 i 3).toNatClampNeg) 0 S1
    (S3, cQ S i 0)
def B_X0_addAllOf_2 (i j : Nat)  (t : Nat) (Z : Cs) : Cs :=
  let S1 : Cs := F_X0_addLast Z i (cQ Z j t)
  S1
def F_X0_addAllOf (S : Cs) (i j : Nat) : Cs :=
  let S2 : Cs := itr (B_X0_addAllOf_2 i j) ((cL S j 3).toNatClampNeg) 0 S
  S2
def F_X1_startOver (S : Cs) (i : Nat) : Cs :=
  let S1 : Cs := sT S i 4 0
  let S2 : Cs := sT S1 i 5 0
  let S3 : Cs := sT S2 i 6 0
  let S4 : Cs := sT S3 i 7 0
  let S5 : Cs := sT S4 i 8 0
  let S6 : Cs := sT S5 i 9 0
  let S7 : Cs := sT S6 i 10 0
  let S8 : Cs := sT S7 i 11 0
  let S9 : Cs := sT S8 i 12 0
  let S10 : Cs := sT S9 i 13 0
  let S11 : Cs := sT S10 i 14 ((-1))
  let S12 : Cs := sT S11 i 15 ((-1))
  let S13 : Cs := sT S12 i 16 0
  let S14 : Cs := sT S13 i 17 0
  let S15 : Cs := sT S14 i 18 0
  S15
def F_X1_tellArrival (S : Cs) (i : Nat) (p1 : Int32) : Cs :=
  let S1 : Cs := sT S i 1 p1
  let S2 : Cs := sT S1 i 3 0
  S2
def F_X1_tellBurst (S : Cs) (i : Nat) (p1 : Int32) : Cs × Int32 :=
  if (cT S i 3) < 12 then
    let S1 : Cs := sB S i (((cT S i 3)).toNatClampNeg) p1
    let S2 : Cs := sT S1 i 3 ((cT S1 i 3) + 1)
    (S2, cT S2 i 3)
  else
    (S, (-1))
def F_X1_beginBurst (S : Cs) (i : Nat) : Cs × Int32 :=
  if (cT S i 6) < (cT S i 3) then
    let S1 : Cs := sT S i 7 (cB S i (((cT S i 6)).toNatClampNeg))
    let S2 : Cs := sT S1 i 6 ((cT S1 i 6) + 1)
    (S2, 1)
  else
    (S, 0)
def F_X1_beginRunning (S : Cs) (i : Nat) (p1 : Int32) (p2 : Int32) : Cs :=
  let S1 : Cs := sT S i 4 2
  if (cT S1 i 10) = 0 then
    let S5 : Cs := sT S1 i 8 p2
    let S6 : Cs := sT S5 i 10 0
    let S7 : Cs := sT S6 i 16 ((cT S6 i 16) + 1)
    if (cT S7 i 14) = ((-1)) then
      let S8 : Cs := sT S7 i 14 p1
      S8
    else
      S7
  else
    let S2 : Cs := sT S1 i 10 0
    let S3 : Cs := sT S2 i 16 ((cT S2 i 16) + 1)
    if (cT S3 i 14) = ((-1)) then
      let S4 : Cs := sT S3 i 14 p1
      S4
    else
      S3
def F_X1_comeUp (S : Cs) (i : Nat) (p1 : Int32) (p2 : Int32) : Cs :=
  let S1 : Cs := sT S i 5 0
  let S2 : Cs := sT S1 i 9 p2
  if (cT S2 i 4) = 2 then
    let S4 : Cs := sT S2 i 8 p1
    S4
  else
    let S3 : Cs := sT S2 i 8 (if p1 < (cT S2 i 8) then p1 else cT S2 i 8)
    S3
theorem ub_dec {n : Nat} {x : Int32} (h : ub (n + 1) x) (h0 : ¬ x = 0) : ub n (x - 1) := by
  obtain ⟨z, h1, rfl⟩ := h
  cases z with
  | zero => exact absurd nI_0 h0
  | succ z => exact ⟨z, by omega, nI_pred z⟩
theorem ub_inc {n k : Nat} {x y : Int32} (h : ub n x) (hn : n < 2 ^ 31) (hy : y = nI k) (hk : k < 2 ^ 31) (hc : ¬ y ≤ x) : ub k (x + 1) := by
  have h1 := (ix_nge h hn hy hk hc).2.2
  rw [ub_nI h hn, nI_1]
  exact ⟨_, h1, rfl⟩
theorem addLast_L {Z : Cs} {i : Nat} {r : Int32} (h : ub 16 (cL Z i 3)) : ub 16 (cL (F_X0_addLast Z i r) i 3) := by
  unfold F_X0_addLast
  by_cases hc : 16 ≤ cL Z i 3
  · rw [if_pos hc]; exact h
  · rw [if_neg hc]
    simp only [cL_sL, cL_sQ, and_self, if_true]
    exact ub_inc h (by omega) (by decide) (by omega) hc
theorem addLast_Lo {Z : Cs} {i i2 j2 : Nat} {r : Int32} (h : i2 ≠ i) : cL (F_X0_addLast Z i r) i2 j2 = cL Z i2 j2 := by
  unfold F_X0_addLast
  by_cases hc : 16 ≤ cL Z i 3
  · rw [if_pos hc]
  · rw [if_neg hc]
    simp [cL_sL, cL_sQ, h]
theorem aa_inv {Z : Cs} {i j t n : Nat} (hij : j ≠ i) (hI : cL Z j 3 = nI n ∧ ub 16 (cL Z i 3)) : cL (B_X0_addAllOf_2 i j t Z) j 3 = nI n ∧ ub 16 (cL (B_X0_addAllOf_2 i j t Z) i 3) :=
  ⟨by unfold B_X0_addAllOf_2; rw [addLast_Lo hij]; exact hI.1, addLast_L hI.2⟩
end
section
set_option maxHeartbeats 4000000 in
set_option maxRecDepth 100000 in
theorem k_X0_clear (l : Launch) (D : va_G) (cy : Nat → ClassId) (ad : Nat → Nat) (S : Cs) (i : Nat) (hi : i < 6)  : cMv l yX0_clear wsX0_clear { frames := 0, cells := 0, slots := 0, locals := 0 } D cy ad [.ref (ad (4 + 2 * i))] S (F_X0_clear S i) := by
  intro sz
  refine Met.ofW (cc := cX0_clear) (maxL := 1) (ret := none) (by decide) rfl ?_
  intro p e s m args below meth c s₁ B hml hv
  obtain ⟨rfl, hsz, hP, hK, hap0, hN⟩ := hv
  have hx := B.exec
  have hb := B.bytes
  have hr := B.returns
  have hts := atoms_spec (ws := wsX0_clear) B.pre
  have hown : s.vm.findClass RX0 = some m.cls := findClass_of_methodNamed B.named
  have hlocks := B.notSynchronized
  subst hsz
  have hap := gw_self (sz := s.heap.size) hap0
  generalize hAe : gA 48 ad s.heap.size = A at hap ⊢
  have hA : ∀ q : Nat, s.heap.size ≤ q → A q := fun q h => by rw [← hAe]; exact Or.inr h
  have hS : va_S A s.heap s.heap [] := va_S.rf
  have hinX0 : ∀ w ∈ wsX00, w ∈ wsX0_clear := by decide +kernel
  have hl := lv_entry ([.ref (ad (4 + 2 * i))]) (n := 1) (Nat.le_of_ble_eq_true rfl)
  rw [lg_entry_eq]
  generalize (lg_sl ([.ref (ad (4 + 2 * i))]) ++ List.replicate (1 - (lg_sl ([.ref (ad (4 + 2 * i))])).length) Slot.unset).toArray = ls at hl ⊢
  have hl : lv_has ls 1 [(0, .ref (ad (4 + 2 * i)))] := hl
  obtain ⟨H, hH⟩ : ∃ H, H = s.heap := ⟨_, rfl⟩
  rw [← hH] at hP
  have hS : va_S A s.heap H [] := by rw [hH]; exact hS
  rw [← hH]
  generalize ([] : List Loc) = locs at hS ⊢
  refine lv_aload_n hx hb dX0_clear_0 rfl (lv_at hl 0 rfl) ?_
  refine lv_iconst (v := 0) hx hb dX0_clear_1 (by decide) ?_
  refine c_pL (i := i) (ty := .int) (v := 0) hx hb hts hinX0 hown hK hap hP hS hi 3 (by decide) (hts (.fieldLink RX0 22 "FeedbackQueues$Level" "size" "I") (by decide +kernel)) rfl (by decide +kernel) rfl rfl (cLf_3 ad S i _) (Nat.le_of_ble_eq_true rfl) dX0_clear_2 (fun H locs hP hS => ?_)
  obtain ⟨S1, eS1⟩ : ∃ z : Cs, z = sL S i 3 0 := ⟨_, rfl⟩
  rw [← eS1] at hP
  have hF : F_X0_clear S i = S1 := by subst eS1; simp only [F_X0_clear]
  rw [hF]
  exact c_vret hx hb hr hlocks hP hS dX0_clear_5 (fun _ h => h)
set_option maxHeartbeats 4000000 in
set_option maxRecDepth 100000 in
theorem k_X0_at (l : Launch) (D : va_G) (cy : Nat → ClassId) (ad : Nat → Nat) (S : Cs) (i : Nat) (p1 : Int32) (hi : i < 6) (hz : ub 16 (cL S i 3)) : cMi l yX0_at wsX0_at { frames := 0, cells := 0, slots := 0, locals := 0 } D cy ad [.ref (ad (4 + 2 * i)), .int p1] S (F_X0_at S i p1).1 (F_X0_at S i p1).2 := by
  intro sz
  refine Met.ofW (cc := cX0_at) (maxL := 2) (ret := (some .int)) (by decide) rfl ?_
  intro p e s m args below meth c s₁ B hml hv
  obtain ⟨rfl, hsz, hP, hK, hap0, hN⟩ := hv
  have hx := B.exec
  have hb := B.bytes
  have hr := B.returns
  have hts := atoms_spec (ws := wsX0_at) B.pre
  have hown : s.vm.findClass RX0 = some m.cls := findClass_of_methodNamed B.named
  have hlocks := B.notSynchronized
  subst hsz
  have hap := gw_self (sz := s.heap.size) hap0
  generalize hAe : gA 48 ad s.heap.size = A at hap ⊢
  have hA : ∀ q : Nat, s.heap.size ≤ q → A q := fun q h => by rw [← hAe]; exact Or.inr h
  have hS : va_S A s.heap s.heap [] := va_S.rf
  have hinX0 : ∀ w ∈ wsX00, w ∈ wsX0_at := by decide +kernel
  have hl := lv_entry ([.ref (ad (4 + 2 * i)), .int p1]) (n := 2) (Nat.le_of_ble_eq_true rfl)
  rw [lg_entry_eq]
  generalize (lg_sl ([.ref (ad (4 + 2 * i)), .int p1]) ++ List.replicate (2 - (lg_sl ([.ref (ad (4 + 2 * i)), .int p1])).length) Slot.unset).toArray = ls at hl ⊢
  have hl : lv_has ls 2 [(0, .ref (ad (4 + 2 * i))), (1, .int p1)] := hl
  obtain ⟨H, hH⟩ : ∃ H, H = s.heap := ⟨_, rfl⟩
  rw [← hH] at hP
  have hS : va_S A s.heap H [] := by rw [hH]; exact hS
  rw [← hH]
  generalize ([] : List Loc) = locs at hS ⊢
  refine lv_iload_n hx hb dX0_at_0 rfl (lv_at hl 1 rfl) ?_
  refine lv_if_lt (tgt := 21) hx hb dX0_at_1 (by decide) (fun c_1 => ?_) (fun c_1 => ?_)
  · skip
    refine lv_iconst (v := (-1)) hx hb dX0_at_21 (by decide) ?_
    have hF : F_X0_at S i p1 = (S, (-1)) := by simp only [F_X0_at, if_pos c_1]
    rw [hF]
    exact c_iret hx hb hr hlocks hP hS dX0_at_22 (fun _ h => h)
  · skip
    refine lv_iload_n hx hb dX0_at_4 rfl (lv_at hl 1 rfl) ?_
    refine lv_aload_n hx hb dX0_at_5 rfl (lv_at hl 0 rfl) ?_
    refine c_gL (i := i) hx hb hts hinX0 hown hK hP hi 3 (by decide) (hts (.fieldLink RX0 22 "FeedbackQueues$Level" "size" "I") (by decide +kernel)) rfl dX0_at_6 ?_
    refine lv_icmp_ge (tgt := 21) hx hb dX0_at_9 (by decide) (fun c_9 => ?_) (fun c_9 => ?_)
    · skip
      refine lv_iconst (v := (-1)) hx hb dX0_at_21 (by decide) ?_
      have hF : F_X0_at S i p1 = (S, (-1)) := by simp only [F_X0_at, if_neg c_1, if_pos c_9]
      rw [hF]
      exact c_iret hx hb hr hlocks hP hS dX0_at_22 (fun _ h => h)
    · skip
      refine lv_aload_n hx hb dX0_at_12 rfl (lv_at hl 0 rfl) ?_
      refine c_gL (i := i) hx hb hts hinX0 hown hK hP hi 2 (by decide) (hts (.fieldLink RX0 18 "FeedbackQueues$Level" "queue" "[I") (by decide +kernel)) rfl dX0_at_13 ?_
      refine lv_iload_n hx hb dX0_at_16 rfl (lv_at hl 1 rfl) ?_
      refine c_iQ (i := i) (k := (p1).toNatClampNeg) hx hb hK hP hi (ix_cmp c_1 hz (by omega) (by omega) c_9) dX0_at_17 ?_
      refine lv_goto (tgt := 22) hx hb dX0_at_18 (by decide) ?_
      have hF : F_X0_at S i p1 = (S, cQ S i ((p1).toNatClampNeg)) := by simp only [F_X0_at, if_neg c_1, if_neg c_9]
      rw [hF]
      exact c_iret hx hb hr hlocks hP hS dX0_at_22 (fun _ h => h)
set_option maxHeartbeats 4000000 in
set_option maxRecDepth 100000 in
theorem k_X0_addLast (l : Launch) (D : va_G) (cy : Nat → ClassId) (ad : Nat → Nat) (S : Cs) (i : Nat) (p1 : Int32) (hi : i < 6) (hz : ub 16 (cL S i 3)) : cMv l yX0_addLast wsX0_addLast { frames := 0, cells := 0, slots := 0, locals := 0 } D cy ad [.ref (ad (4 + 2 * i)), .int p1] S (F_X0_addLast S i p1) := by
  intro sz
  refine Met.ofW (cc := cX0_addLast) (maxL := 2) (ret := none) (by decide) rfl ?_
  intro p e s m args below meth c s₁ B hml hv
  obtain ⟨rfl, hsz, hP, hK, hap0, hN⟩ := hv
  have hx := B.exec
  have hb := B.bytes
  have hr := B.returns
  have hts := atoms_spec (ws := wsX0_addLast) B.pre
  have hown : s.vm.findClass RX0 = some m.cls := findClass_of_methodNamed B.named
  have hlocks := B.notSynchronized
  subst hsz
  have hap := gw_self (sz := s.heap.size) hap0
  generalize hAe : gA 48 ad s.heap.size = A at hap ⊢
  have hA : ∀ q : Nat, s.heap.size ≤ q → A q := fun q h => by rw [← hAe]; exact Or.inr h
  have hS : va_S A s.heap s.heap [] := va_S.rf
  have hinX0 : ∀ w ∈ wsX00, w ∈ wsX0_addLast := by decide +kernel
  have hl := lv_entry ([.ref (ad (4 + 2 * i)), .int p1]) (n := 2) (Nat.le_of_ble_eq_true rfl)
  rw [lg_entry_eq]
  generalize (lg_sl ([.ref (ad (4 + 2 * i)), .int p1]) ++ List.replicate (2 - (lg_sl ([.ref (ad (4 + 2 * i)), .int p1])).length) Slot.unset).toArray = ls at hl ⊢
  have hl : lv_has ls 2 [(0, .ref (ad (4 + 2 * i))), (1, .int p1)] := hl
  obtain ⟨H, hH⟩ : ∃ H, H = s.heap := ⟨_, rfl⟩
  rw [← hH] at hP
  have hS : va_S A s.heap H [] := by rw [hH]; exact hS
  rw [← hH]
  generalize ([] : List Loc) = locs at hS ⊢
  refine lv_aload_n hx hb dX0_addLast_0 rfl (lv_at hl 0 rfl) ?_
  refine c_gL (i := i) hx hb hts hinX0 hown hK hP hi 3 (by decide) (hts (.fieldLink RX0 22 "FeedbackQueues$Level" "size" "I") (by decide +kernel)) rfl dX0_addLast_1 ?_
  refine lv_bipush (v := 16) hx hb dX0_addLast_4 (by decide) ?_
  refine lv_icmp_ge (tgt := 29) hx hb dX0_addLast_6 (by decide) (fun c_6 => ?_) (fun c_6 => ?_)
  · skip
    have hF : F_X0_addLast S i p1 = S := by simp only [F_X0_addLast, if_pos c_6]
    rw [hF]
    exact c_vret hx hb hr hlocks hP hS dX0_addLast_29 (fun _ h => h)
  · skip
    refine lv_aload_n hx hb dX0_addLast_9 rfl (lv_at hl 0 rfl) ?_
    refine c_gL (i := i) hx hb hts hinX0 hown hK hP hi 2 (by decide) (hts (.fieldLink RX0 18 "FeedbackQueues$Level" "queue" "[I") (by decide +kernel)) rfl dX0_addLast_10 ?_
    refine lv_aload_n hx hb dX0_addLast_13 rfl (lv_at hl 0 rfl) ?_
    refine c_gL (i := i) hx hb hts hinX0 hown hK hP hi 3 (by decide) (hts (.fieldLink RX0 22 "FeedbackQueues$Level" "size" "I") (by decide +kernel)) rfl dX0_addLast_14 ?_
    refine lv_iload_n hx hb dX0_addLast_17 rfl (lv_at hl 1 rfl) ?_
    refine c_sQ (i := i) (k := ((cL S i 3)).toNatClampNeg) (v := p1) hx hb hK hap hP hS hi (ix_nge (k := 16) hz (by omega) (by decide) (by omega) c_6) dX0_addLast_18 (fun H locs hP hS => ?_)
    obtain ⟨S1, eS1⟩ : ∃ z : Cs, z = sQ S i (((cL S i 3)).toNatClampNeg) p1 := ⟨_, rfl⟩
    rw [← eS1] at hP
    refine lv_aload_n hx hb dX0_addLast_19 rfl (lv_at hl 0 rfl) ?_
    refine lv_dup hx hb dX0_addLast_20 rfl ?_
    refine c_gL (i := i) hx hb hts hinX0 hown hK hP hi 3 (by decide) (hts (.fieldLink RX0 22 "FeedbackQueues$Level" "size" "I") (by decide +kernel)) rfl dX0_addLast_21 ?_
    refine lv_iconst (v := 1) hx hb dX0_addLast_24 (by decide) ?_
    refine lv_iadd hx hb dX0_addLast_25 ?_
    refine c_pL (i := i) (ty := .int) (v := (cL S1 i 3) + 1) hx hb hts hinX0 hown hK hap hP hS hi 3 (by decide) (hts (.fieldLink RX0 22 "FeedbackQueues$Level" "size" "I") (by decide +kernel)) rfl (by decide +kernel) rfl rfl (cLf_3 ad S1 i _) (Nat.le_of_ble_eq_true rfl) dX0_addLast_26 (fun H locs hP hS => ?_)
    obtain ⟨S2, eS2⟩ : ∃ z : Cs, z = sL S1 i 3 ((cL S1 i 3) + 1) := ⟨_, rfl⟩
    rw [← eS2] at hP
    have hF : F_X0_addLast S i p1 = S2 := by subst eS2 eS1; simp only [F_X0_addLast, if_neg c_6]
    rw [hF]
    exact c_vret hx hb hr hlocks hP hS dX0_addLast_29 (fun _ h => h)
set_option maxHeartbeats 4000000 in
set_option maxRecDepth 100000 in
theorem k_X0_addFirst (l : Launch) (D : va_G) (cy : Nat → ClassId) (ad : Nat → Nat) (S : Cs) (i : Nat) (p1 : Int32) (hi : i < 6) (hz : ub 16 (cL S i 3)) : cMv l yX0_addFirst wsX0_addFirst { frames := 0, cells := 0, slots := 0, locals := 0 } D cy ad [.ref (ad (4 + 2 * i)), .int p1] S (F_X0_addFirst S i p1) := by
  intro sz
  refine Met.ofW (cc := cX0_addFirst) (maxL := 3) (ret := none) (by decide) rfl ?_
  intro p e s m args below meth c s₁ B hml hv
  obtain ⟨rfl, hsz, hP, hK, hap0, hN⟩ := hv
  have hx := B.exec
  have hb := B.bytes
  have hr := B.returns
  have hts := atoms_spec (ws := wsX0_addFirst) B.pre
  have hown : s.vm.findClass RX0 = some m.cls := findClass_of_methodNamed B.named
  have hlocks := B.notSynchronized
  subst hsz
  have hap := gw_self (sz := s.heap.size) hap0
  generalize hAe : gA 48 ad s.heap.size = A at hap ⊢
  have hA : ∀ q : Nat, s.heap.size ≤ q → A q := fun q h => by rw [← hAe]; exact Or.inr h
  have hS : va_S A s.heap s.heap [] := va_S.rf
  have hinX0 : ∀ w ∈ wsX00, w ∈ wsX0_addFirst := by decide +kernel
  have hl := lv_entry ([.ref (ad (4 + 2 * i)), .int p1]) (n := 3) (Nat.le_of_ble_eq_true rfl)
  rw [lg_entry_eq]
  generalize (lg_sl ([.ref (ad (4 + 2 * i)), .int p1]) ++ List.replicate (3 - (lg_sl ([.ref (ad (4 + 2 * i)), .int p1])).length) Slot.unset).toArray = ls at hl ⊢
  have hl : lv_has ls 3 [(0, .ref (ad (4 + 2 * i))), (1, .int p1)] := hl
  obtain ⟨H, hH⟩ : ∃ H, H = s.heap := ⟨_, rfl⟩
  rw [← hH] at hP
  have hS : va_S A s.heap H [] := by rw [hH]; exact hS
  rw [← hH]
  generalize ([] : List Loc) = locs at hS ⊢
  refine lv_aload_n hx hb dX0_addFirst_0 rfl (lv_at hl 0 rfl) ?_
  refine c_gL (i := i) hx hb hts hinX0 hown hK hP hi 3 (by decide) (hts (.fieldLink RX0 22 "FeedbackQueues$Level" "size" "I") (by decide +kernel)) rfl dX0_addFirst_1 ?_
  refine lv_bipush (v := 16) hx hb dX0_addFirst_4 (by decide) ?_
  refine lv_icmp_ge (tgt := 55) hx hb dX0_addFirst_6 (by decide) (fun c_6 => ?_) (fun c_6 => ?_)
  · skip
    have hF : F_X0_addFirst S i p1 = S := by simp only [F_X0_addFirst, if_pos c_6]
    rw [hF]
    exact c_vret hx hb hr hlocks hP hS dX0_addFirst_55 (fun _ h => h)
  · skip
    refine lv_aload_n hx hb dX0_addFirst_9 rfl (lv_at hl 0 rfl) ?_
    refine c_gL (i := i) hx hb hts hinX0 hown hK hP hi 3 (by decide) (hts (.fieldLink RX0 22 "FeedbackQueues$Level" "size" "I") (by decide +kernel)) rfl dX0_addFirst_10 ?_
    refine lv_istore_n (lv' := [(2, .int (cL S i 3)), (0, .ref (ad (4 + 2 * i))), (1, .int p1)]) hx hb dX0_addFirst_13 rfl hl (by decide) rfl (fun ls hl => ?_)
    have hz9 := (ix_nge (k := 16) hz (by omega) (by decide) (by omega) c_6).2.2
    have lp_14 : ∀ (Q : State → Prop) (n : Nat) (Z : Cs) (H : Heap) (locs : List Loc) (ls : Array Slot), n ≤ ((cL S i 3).toNatClampNeg) → True → va_P D vwCl (cwl cy ad Z) H → va_S A s.heap H locs → lv_has ls 3 [(2, .int (nI n)), (0, .ref (ad (4 + 2 * i))), (1, .int p1)] → (∀ (H : Heap) (locs : List Loc) (ls : Array Slot), va_P D vwCl (cwl cy ad (itd (B_X0_addFirst_14 i p1) n Z)) H → va_S A s.heap H locs → lv_has ls 3 [(2, .int (nI 0)), (0, .ref (ad (4 + 2 * i))), (1, .int p1)] → W p l e (headSpec wsX0_addFirst { frames := 0, cells := 0, slots := 0, locals := 0 }).room s m ([.ref (ad (4 + 2 * i)), .int p1] : List Value).toArray below meth c H locs 0 0 Q (F0 m 38 ls [])) → W p l e (headSpec wsX0_addFirst { frames := 0, cells := 0, slots := 0, locals := 0 }).room s m ([.ref (ad (4 + 2 * i)), .int p1] : List Value).toArray below meth c H locs 0 0 Q (F0 m 14 ls []) := by
      intro Q n
      induction n with
      | zero =>
        intro Z H locs ls hk hI hP hS hl K
        refine lv_iload_n hx hb dX0_addFirst_14 rfl (lv_at hl 0 rfl) ?_
        refine lv_if_le (tgt := 38) hx hb dX0_addFirst_15 (by decide) (fun c_15 => ?_) (fun c_15 => ?_)
        rotate_left
        · exact absurd (by decide) c_15
        exact K H locs ls hP hS (lv_sub hl [0, 1, 2] rfl)
      | succ n ih =>
        intro Z H locs ls hk hI hP hS hl K
        refine lv_iload_n hx hb dX0_addFirst_14 rfl (lv_at hl 0 rfl) ?_
        refine lv_if_le (tgt := 38) hx hb dX0_addFirst_15 (by decide) (fun c_15 => ?_) (fun c_15 => ?_)
        · exact absurd c_15 (nI_nle (by omega) (by omega))
        refine lv_aload_n hx hb dX0_addFirst_18 rfl (lv_at hl 1 rfl) ?_
        refine c_gL (i := i) hx hb hts hinX0 hown hK hP hi 2 (by decide) (hts (.fieldLink RX0 18 "FeedbackQueues$Level" "queue" "[I") (by decide +kernel)) rfl dX0_addFirst_19 ?_
        refine lv_iload_n hx hb dX0_addFirst_22 rfl (lv_at hl 0 rfl) ?_
        refine lv_aload_n hx hb dX0_addFirst_23 rfl (lv_at hl 1 rfl) ?_
        refine c_gL (i := i) hx hb hts hinX0 hown hK hP hi 2 (by decide) (hts (.fieldLink RX0 18 "FeedbackQueues$Level" "queue" "[I") (by decide +kernel)) rfl dX0_addFirst_24 ?_
        refine lv_iload_n hx hb dX0_addFirst_27 rfl (lv_at hl 0 rfl) ?_
        refine lv_iconst (v := 1) hx hb dX0_addFirst_28 (by decide) ?_
        refine lv_isub hx hb dX0_addFirst_29 ?_
        refine c_iQ (i := i) (k := n) hx hb hK hP hi (ix_pre (by omega) (by omega)) dX0_addFirst_30 ?_
        refine c_sQ (i := i) (k := n + 1) (v := cQ Z i n) hx hb hK hap hP hS hi (ix_nI (by omega) (by omega)) dX0_addFirst_31 (fun H locs hP hS => ?_)
        obtain ⟨S1, eS1⟩ : ∃ z : Cs, z = sQ Z i (n + 1) (cQ Z i n) := ⟨_, rfl⟩
        rw [← eS1] at hP
        refine lv_iinc (v := nI n) (lv' := [(2, .int (nI n)), (0, .ref (ad (4 + 2 * i))), (1, .int p1)]) hx hb dX0_addFirst_32 hl (k := 0) rfl (dec_nI n) (by decide) rfl (fun ls hl => ?_)
        refine lv_goto (tgt := 14) hx hb dX0_addFirst_35 (by decide) ?_
        have hF : B_X0_addFirst_14 i p1 n Z = S1 := by subst eS1; simp only [B_X0_addFirst_14]
        rw [← hF] at hP
        exact ih (B_X0_addFirst_14 i p1 n Z) H locs ls (by omega) (trivial) hP hS (lv_sub hl [0, 1, 2] rfl) K
    refine lp_14 _ ((cL S i 3).toNatClampNeg) S H locs ls (Nat.le_refl _) (trivial) hP hS (by rw [← ub_nI hz (by omega)]; exact lv_sub hl [0, 1, 2] rfl) (fun H locs ls hP hS hl => ?_)
    obtain ⟨S2, eS2⟩ : ∃ z : Cs, z = itd (B_X0_addFirst_14 i p1) ((cL S i 3).toNatClampNeg) S := ⟨_, rfl⟩
    rw [← eS2] at hP
    refine lv_aload_n hx hb dX0_addFirst_38 rfl (lv_at hl 1 rfl) ?_
    refine c_gL (i := i) hx hb hts hinX0 hown hK hP hi 2 (by decide) (hts (.fieldLink RX0 18 "FeedbackQueues$Level" "queue" "[I") (by decide +kernel)) rfl dX0_addFirst_39 ?_
    refine lv_iconst (v := 0) hx hb dX0_addFirst_42 (by decide) ?_
    refine lv_iload_n hx hb dX0_addFirst_43 rfl (lv_at hl 2 rfl) ?_
    refine c_sQ (i := i) (k := 0) (v := p1) hx hb hK hap hP hS hi (ix_lit (by decide) (by omega) (by omega)) dX0_addFirst_44 (fun H locs hP hS => ?_)
    obtain ⟨S3, eS3⟩ : ∃ z : Cs, z = sQ S2 i 0 p1 := ⟨_, rfl⟩
    rw [← eS3] at hP
    refine lv_aload_n hx hb dX0_addFirst_45 rfl (lv_at hl 1 rfl) ?_
    refine lv_dup hx hb dX0_addFirst_46 rfl ?_
    refine c_gL (i := i) hx hb hts hinX0 hown hK hP hi 3 (by decide) (hts (.fieldLink RX0 22 "FeedbackQueues$Level" "size" "I") (by decide +kernel)) rfl dX0_addFirst_47 ?_
    refine lv_iconst (v := 1) hx hb dX0_addFirst_50 (by decide) ?_
    refine lv_iadd hx hb dX0_addFirst_51 ?_
    refine c_pL (i := i) (ty := .int) (v := (cL S3 i 3) + 1) hx hb hts hinX0 hown hK hap hP hS hi 3 (by decide) (hts (.fieldLink RX0 22 "FeedbackQueues$Level" "size" "I") (by decide +kernel)) rfl (by decide +kernel) rfl rfl (cLf_3 ad S3 i _) (Nat.le_of_ble_eq_true rfl) dX0_addFirst_52 (fun H locs hP hS => ?_)
    obtain ⟨S4, eS4⟩ : ∃ z : Cs, z = sL S3 i 3 ((cL S3 i 3) + 1) := ⟨_, rfl⟩
    rw [← eS4] at hP
    have hF : F_X0_addFirst S i p1 = S4 := by subst eS4 eS3 eS2; simp only [F_X0_addFirst, if_neg c_6]
    rw [hF]
    exact c_vret hx hb hr hlocks hP hS dX0_addFirst_55 (fun _ h => h)
set_option maxHeartbeats 4000000 in
set_option maxRecDepth 100000 in
theorem k_X0_takeFirst (l : Launch) (D : va_G) (cy : Nat → ClassId) (ad : Nat → Nat) (S : Cs) (i : Nat) (hi : i < 6) (hz : ub 16 (cL S i 3)) : cMi l yX0_takeFirst wsX0_takeFirst { frames := 0, cells := 0, slots := 0, locals := 0 } D cy ad [.ref (ad (4 + 2 * i))] S (F_X0_takeFirst S i).1 (F_X0_takeFirst S i).2 := by
  intro sz
  refine Met.ofW (cc := cX0_takeFirst) (maxL := 3) (ret := (some .int)) (by decide) rfl ?_
  intro p e s m args below meth c s₁ B hml hv
  obtain ⟨rfl, hsz, hP, hK, hap0, hN⟩ := hv
  have hx := B.exec
  have hb := B.bytes
  have hr := B.returns
  have hts := atoms_spec (ws := wsX0_takeFirst) B.pre
  have hown : s.vm.findClass RX0 = some m.cls := findClass_of_methodNamed B.named
  have hlocks := B.notSynchronized
  subst hsz
  have hap := gw_self (sz := s.heap.size) hap0
  generalize hAe : gA 48 ad s.heap.size = A at hap ⊢
  have hA : ∀ q : Nat, s.heap.size ≤ q → A q := fun q h => by rw [← hAe]; exact Or.inr h
  have hS : va_S A s.heap s.heap [] := va_S.rf
  have hinX0 : ∀ w ∈ wsX00, w ∈ wsX0_takeFirst := by decide +kernel
  have hl := lv_entry ([.ref (ad (4 + 2 * i))]) (n := 3) (Nat.le_of_ble_eq_true rfl)
  rw [lg_entry_eq]
  generalize (lg_sl ([.ref (ad (4 + 2 * i))]) ++ List.replicate (3 - (lg_sl ([.ref (ad (4 + 2 * i))])).length) Slot.unset).toArray = ls at hl ⊢
  have hl : lv_has ls 3 [(0, .ref (ad (4 + 2 * i)))] := hl
  obtain ⟨H, hH⟩ : ∃ H, H = s.heap := ⟨_, rfl⟩
  rw [← hH] at hP
  have hS : va_S A s.heap H [] := by rw [hH]; exact hS
  rw [← hH]
  generalize ([] : List Loc) = locs at hS ⊢
  refine lv_aload_n hx hb dX0_takeFirst_0 rfl (lv_at hl 0 rfl) ?_
  refine c_gL (i := i) hx hb hts hinX0 hown hK hP hi 3 (by decide) (hts (.fieldLink RX0 22 "FeedbackQueues$Level" "size" "I") (by decide +kernel)) rfl dX0_takeFirst_1 ?_
  refine lv_if_ne (tgt := 9) hx hb dX0_takeFirst_4 (by decide) (fun c_4 => ?_) (fun c_4 => ?_)
  · skip
    refine lv_aload_n hx hb dX0_takeFirst_9 rfl (lv_at hl 0 rfl) ?_
    refine c_gL (i := i) hx hb hts hinX0 hown hK hP hi 2 (by decide) (hts (.fieldLink RX0 18 "FeedbackQueues$Level" "queue" "[I") (by decide +kernel)) rfl dX0_takeFirst_10 ?_
    refine lv_iconst (v := 0) hx hb dX0_takeFirst_13 (by decide) ?_
    refine c_iQ (i := i) (k := 0) hx hb hK hP hi (ix_lit (by decide) (by omega) (by omega)) dX0_takeFirst_14 ?_
    refine lv_istore_n (lv' := [(1, .int (cQ S i 0)), (0, .ref (ad (4 + 2 * i)))]) hx hb dX0_takeFirst_15 rfl hl (by decide) rfl (fun ls hl => ?_)
    refine lv_aload_n hx hb dX0_takeFirst_16 rfl (lv_at hl 1 rfl) ?_
    refine lv_dup hx hb dX0_takeFirst_17 rfl ?_
    refine c_gL (i := i) hx hb hts hinX0 hown hK hP hi 3 (by decide) (hts (.fieldLink RX0 22 "FeedbackQueues$Level" "size" "I") (by decide +kernel)) rfl dX0_takeFirst_18 ?_
    refine lv_iconst (v := 1) hx hb dX0_takeFirst_21 (by decide) ?_
    refine lv_isub hx hb dX0_takeFirst_22 ?_
    refine c_pL (i := i) (ty := .int) (v := (cL S i 3) - 1) hx hb hts hinX0 hown hK hap hP hS hi 3 (by decide) (hts (.fieldLink RX0 22 "FeedbackQueues$Level" "size" "I") (by decide +kernel)) rfl (by decide +kernel) rfl rfl (cLf_3 ad S i _) (Nat.le_of_ble_eq_true rfl) dX0_takeFirst_23 (fun H locs hP hS => ?_)
    obtain ⟨S1, eS1⟩ : ∃ z : Cs, z = sL S i 3 ((cL S i 3) - 1) := ⟨_, rfl⟩
    rw [← eS1] at hP
    refine lv_iconst (v := 0) hx hb dX0_takeFirst_26 (by decide) ?_
    refine lv_istore_n (lv' := [(2, .int 0), (1, .int (cQ S i 0)), (0, .ref (ad (4 + 2 * i)))]) hx hb dX0_takeFirst_27 rfl hl (by decide) rfl (fun ls hl => ?_)
    have hz1 : ub 15 (cL S1 i 3) := by rw [eS1]; simp only [cL_sL, and_self, if_true]; exact ub_dec hz c_4
    have hz2 := ub_nI hz1 (by omega)
    have hz3 := ub_le hz1 (by omega)
    have lp_28 : ∀ (Q : State → Prop) (n t : Nat) (Z : Cs) (H : Heap) (locs : List Loc) (ls : Array Slot), t + n = (cL S1 i 3).toNatClampNeg → cL Z i 3 = nI ((cL S1 i 3).toNatClampNeg) → va_P D vwCl (cwl cy ad Z) H → va_S A s.heap H locs → lv_has ls 3 [(2, .int (nI t)), (1, .int (cQ S i 0)), (0, .ref (ad (4 + 2 * i)))] → (∀ (H : Heap) (locs : List Loc) (ls : Array Slot), va_P D vwCl (cwl cy ad (itr (B_X0_takeFirst_28 i) n t Z)) H → va_S A s.heap H locs → lv_has ls 3 [(2, .int (nI ((cL S1 i 3).toNatClampNeg))), (1, .int (cQ S i 0)), (0, .ref (ad (4 + 2 * i)))] → W p l e (headSpec wsX0_takeFirst { frames := 0, cells := 0, slots := 0, locals := 0 }).room s m ([.ref (ad (4 + 2 * i))] : List Value).toArray below meth c H locs 0 0 Q (F0 m 56 ls [])) → W p l e (headSpec wsX0_takeFirst { frames := 0, cells := 0, slots := 0, locals := 0 }).room s m ([.ref (ad (4 + 2 * i))] : List Value).toArray below meth c H locs 0 0 Q (F0 m 28 ls []) := by
      intro Q n
      induction n with
      | zero =>
        intro t Z H locs ls hk hI hP hS hl K
        refine lv_iload_n hx hb dX0_takeFirst_28 rfl (lv_at hl 0 rfl) ?_
        refine lv_aload_n hx hb dX0_takeFirst_29 rfl (lv_at hl 2 rfl) ?_
        refine c_gL (i := i) hx hb hts hinX0 hown hK hP hi 3 (by decide) (hts (.fieldLink RX0 22 "FeedbackQueues$Level" "size" "I") (by decide +kernel)) rfl dX0_takeFirst_30 ?_
        refine lv_icmp_ge (tgt := 56) hx hb dX0_takeFirst_33 (by decide) (fun c_33 => ?_) (fun c_33 => ?_)
        rotate_left
        · exact absurd (by rw [hI]; exact nI_le (by omega) (by omega)) c_33
        have hiN : t = (cL S1 i 3).toNatClampNeg := by omega
        rw [hiN] at hl
        exact K H locs ls hP hS (lv_sub hl [0, 1, 2] rfl)
      | succ n ih =>
        intro t Z H locs ls hk hI hP hS hl K
        have ht : t < (cL S1 i 3).toNatClampNeg := by omega
        refine lv_iload_n hx hb dX0_takeFirst_28 rfl (lv_at hl 0 rfl) ?_
        refine lv_aload_n hx hb dX0_takeFirst_29 rfl (lv_at hl 2 rfl) ?_
        refine c_gL (i := i) hx hb hts hinX0 hown hK hP hi 3 (by decide) (hts (.fieldLink RX0 22 "FeedbackQueues$Level" "size" "I") (by decide +kernel)) rfl dX0_takeFirst_30 ?_
        refine lv_icmp_ge (tgt := 56) hx hb dX0_takeFirst_33 (by decide) (fun c_33 => ?_) (fun c_33 => ?_)
        · exact absurd c_33 (by rw [hI]; exact nI_ge (by omega) (by omega))
        refine lv_aload_n hx hb dX0_takeFirst_36 rfl (lv_at hl 2 rfl) ?_
        refine c_gL (i := i) hx hb hts hinX0 hown hK hP hi 2 (by decide) (hts (.fieldLink RX0 18 "FeedbackQueues$Level" "queue" "[I") (by decide +kernel)) rfl dX0_takeFirst_37 ?_
        refine lv_iload_n hx hb dX0_takeFirst_40 rfl (lv_at hl 0 rfl) ?_
        refine lv_aload_n hx hb dX0_takeFirst_41 rfl (lv_at hl 2 rfl) ?_
        refine c_gL (i := i) hx hb hts hinX0 hown hK hP hi 2 (by decide) (hts (.fieldLink RX0 18 "FeedbackQueues$Level" "queue" "[I") (by decide +kernel)) rfl dX0_takeFirst_42 ?_
        refine lv_iload_n hx hb dX0_takeFirst_45 rfl (lv_at hl 0 rfl) ?_
        refine lv_iconst (v := 1) hx hb dX0_takeFirst_46 (by decide) ?_
        refine lv_iadd hx hb dX0_takeFirst_47 ?_
        refine c_iQ (i := i) (k := t + 1) hx hb hK hP hi (ix_suc (by omega) (by omega)) dX0_takeFirst_48 ?_
        refine c_sQ (i := i) (k := t) (v := cQ Z i (t + 1)) hx hb hK hap hP hS hi (ix_nI (by omega) (by omega)) dX0_takeFirst_49 (fun H locs hP hS => ?_)
        obtain ⟨S2, eS2⟩ : ∃ z : Cs, z = sQ Z i t (cQ Z i (t + 1)) := ⟨_, rfl⟩
        rw [← eS2] at hP
        refine lv_iinc (v := nI (t + 1)) (lv' := [(2, .int (nI (t + 1))), (1, .int (cQ S i 0)), (0, .ref (ad (4 + 2 * i)))]) hx hb dX0_takeFirst_50 hl (k := 0) rfl (inc_nI t) (by decide) rfl (fun ls hl => ?_)
        refine lv_goto (tgt := 28) hx hb dX0_takeFirst_53 (by decide) ?_
        have hF : B_X0_takeFirst_28 i t Z = S2 := by subst eS2; simp only [B_X0_takeFirst_28]
        rw [← hF] at hP
        exact ih (t + 1) (B_X0_takeFirst_28 i t Z) H locs ls (by omega) (hI) hP hS (lv_sub hl [0, 1, 2] rfl) K
    refine lp_28 _ ((cL S1 i 3).toNatClampNeg) 0 S1 H locs ls (by omega) (hz2) hP hS (by rw [show nI 0 = 0 from by decide]; exact lv_sub hl [0, 1, 2] rfl) (fun H locs ls hP hS hl => ?_)
    obtain ⟨S3, eS3⟩ : ∃ z : Cs, z = itr (B_X0_takeFirst_28 i) ((cL S1 i 3).toNatClampNeg) 0 S1 := ⟨_, rfl⟩
    rw [← eS3] at hP
    refine lv_iload_n hx hb dX0_takeFirst_56 rfl (lv_at hl 1 rfl) ?_
    have hF : F_X0_takeFirst S i = (S3, cQ S i 0) := by subst eS3 eS1; simp only [F_X0_takeFirst, if_neg c_4]
    rw [hF]
    exact c_iret hx hb hr hlocks hP hS dX0_takeFirst_57 (fun _ h => h)
  · skip
    refine lv_iconst (v := (-1)) hx hb dX0_takeFirst_7 (by decide) ?_
    have hF : F_X0_takeFirst S i = (S, (-1)) := by simp only [F_X0_takeFirst, if_pos c_4]
    rw [hF]
    exact c_iret hx hb hr hlocks hP hS dX0_takeFirst_8 (fun _ h => h)
set_option maxHeartbeats 4000000 in
set_option maxRecDepth 100000 in
theorem k_X0_addAllOf (l : Launch) (D : va_G) (cy : Nat → ClassId) (ad : Nat → Nat) (S : Cs) (i j : Nat) (hi : i < 6) (hj : j < 6) (hij : j ≠ i) (hz : ub 16 (cL S i 3)) (hzj : ub 16 (cL S j 3)) : cMv l yX0_addAllOf wsX0_addAllOf { frames := 1, cells := 0, slots := 0, locals := 21 } D cy ad [.ref (ad (4 + 2 * i)), .ref (ad (4 + 2 * j))] S (F_X0_addAllOf S i j) := by
  intro sz
  refine Met.ofW (cc := cX0_addAllOf) (maxL := 3) (ret := none) (by decide) rfl ?_
  intro p e s m args below meth c s₁ B hml hv
  obtain ⟨rfl, hsz, hP, hK, hap0, hN⟩ := hv
  have hx := B.exec
  have hb := B.bytes
  have hr := B.returns
  have hts := atoms_spec (ws := wsX0_addAllOf) B.pre
  have hown : s.vm.findClass RX0 = some m.cls := findClass_of_methodNamed B.named
  have hlocks := B.notSynchronized
  subst hsz
  have hap := gw_self (sz := s.heap.size) hap0
  generalize hAe : gA 48 ad s.heap.size = A at hap ⊢
  have hA : ∀ q : Nat, s.heap.size ≤ q → A q := fun q h => by rw [← hAe]; exact Or.inr h
  have hS : va_S A s.heap s.heap [] := va_S.rf
  have hinX0 : ∀ w ∈ wsX00, w ∈ wsX0_addAllOf := by decide +kernel
  have hl := lv_entry ([.ref (ad (4 + 2 * i)), .ref (ad (4 + 2 * j))]) (n := 3) (Nat.le_of_ble_eq_true rfl)
  rw [lg_entry_eq]
  generalize (lg_sl ([.ref (ad (4 + 2 * i)), .ref (ad (4 + 2 * j))]) ++ List.replicate (3 - (lg_sl ([.ref (ad (4 + 2 * i)), .ref (ad (4 + 2 * j))])).length) Slot.unset).toArray = ls at hl ⊢
  have hl : lv_has ls 3 [(0, .ref (ad (4 + 2 * i))), (1, .ref (ad (4 + 2 * j)))] := hl
  obtain ⟨H, hH⟩ : ∃ H, H = s.heap := ⟨_, rfl⟩
  rw [← hH] at hP
  have hS : va_S A s.heap H [] := by rw [hH]; exact hS
  rw [← hH]
  generalize ([] : List Loc) = locs at hS ⊢
  refine lv_iconst (v := 0) hx hb dX0_addAllOf_0 (by decide) ?_
  refine lv_istore_n (lv' := [(2, .int 0), (0, .ref (ad (4 + 2 * i))), (1, .ref (ad (4 + 2 * j)))]) hx hb dX0_addAllOf_1 rfl hl (by decide) rfl (fun ls hl => ?_)
  have hz2 := ub_nI hzj (by omega)
  have hz3 := ub_le hzj (by omega)
  have lp_2 : ∀ (Q : State → Prop) (n t : Nat) (Z : Cs) (H : Heap) (locs : List Loc) (ls : Array Slot), t + n = (cL S j 3).toNatClampNeg → (cL Z j 3 = nI ((cL S j 3).toNatClampNeg) ∧ ub 16 (cL Z i 3)) → va_P D vwCl (cwl cy ad Z) H → va_S A s.heap H locs → lv_has ls 3 [(2, .int (nI t)), (0, .ref (ad (4 + 2 * i))), (1, .ref (ad (4 + 2 * j)))] → (∀ (H : Heap) (locs : List Loc) (ls : Array Slot), va_P D vwCl (cwl cy ad (itr (B_X0_addAllOf_2 i j) n t Z)) H → va_S A s.heap H locs → lv_has ls 3 [(2, .int (nI ((cL S j 3).toNatClampNeg))), (0, .ref (ad (4 + 2 * i))), (1, .ref (ad (4 + 2 * j)))] → W p l e (headSpec wsX0_addAllOf { frames := 1, cells := 0, slots := 0, locals := 21 }).room s m ([.ref (ad (4 + 2 * i)), .ref (ad (4 + 2 * j))] : List Value).toArray below meth c H locs 0 0 Q (F0 m 26 ls [])) → W p l e (headSpec wsX0_addAllOf { frames := 1, cells := 0, slots := 0, locals := 21 }).room s m ([.ref (ad (4 + 2 * i)), .ref (ad (4 + 2 * j))] : List Value).toArray below meth c H locs 0 0 Q (F0 m 2 ls []) := by
    intro Q n
    induction n with
    | zero =>
      intro t Z H locs ls hk hI hP hS hl K
      refine lv_iload_n hx hb dX0_addAllOf_2 rfl (lv_at hl 0 rfl) ?_
      refine lv_aload_n hx hb dX0_addAllOf_3 rfl (lv_at hl 2 rfl) ?_
      refine c_gL (i := j) hx hb hts hinX0 hown hK hP hj 3 (by decide) (hts (.fieldLink RX0 22 "FeedbackQueues$Level" "size" "I") (by decide +kernel)) rfl dX0_addAllOf_4 ?_
      refine lv_icmp_ge (tgt := 26) hx hb dX0_addAllOf_7 (by decide) (fun c_7 => ?_) (fun c_7 => ?_)
      rotate_left
      · exact absurd (by rw [hI.1]; exact nI_le (by omega) (by omega)) c_7
      have hiN : t = (cL S j 3).toNatClampNeg := by omega
      rw [hiN] at hl
      exact K H locs ls hP hS (lv_sub hl [0, 1, 2] rfl)
    | succ n ih =>
      intro t Z H locs ls hk hI hP hS hl K
      have ht : t < (cL S j 3).toNatClampNeg := by omega
      refine lv_iload_n hx hb dX0_addAllOf_2 rfl (lv_at hl 0 rfl) ?_
      refine lv_aload_n hx hb dX0_addAllOf_3 rfl (lv_at hl 2 rfl) ?_
      refine c_gL (i := j) hx hb hts hinX0 hown hK hP hj 3 (by decide) (hts (.fieldLink RX0 22 "FeedbackQueues$Level" "size" "I") (by decide +kernel)) rfl dX0_addAllOf_4 ?_
      refine lv_icmp_ge (tgt := 26) hx hb dX0_addAllOf_7 (by decide) (fun c_7 => ?_) (fun c_7 => ?_)
      · exact absurd c_7 (by rw [hI.1]; exact nI_ge (by omega) (by omega))
      refine lv_aload_n hx hb dX0_addAllOf_10 rfl (lv_at hl 1 rfl) ?_
      refine lv_aload_n hx hb dX0_addAllOf_11 rfl (lv_at hl 2 rfl) ?_
      refine c_gL (i := j) hx hb hts hinX0 hown hK hP hj 2 (by decide) (hts (.fieldLink RX0 18 "FeedbackQueues$Level" "queue" "[I") (by decide +kernel)) rfl dX0_addAllOf_12 ?_
      refine lv_iload_n hx hb dX0_addAllOf_15 rfl (lv_at hl 0 rfl) ?_
      refine c_iQ (i := j) (k := t) hx hb hK hP hj (ix_nI (by omega) (by omega)) dX0_addAllOf_16 ?_
      refine c_cVv (As := [.int (cQ Z j t)]) (rest := []) (k := (4 + 2 * i)) (ci := 0) (q := (RX0, TX0, 4)) ⟨hx, hb, hml, hown, hts⟩ (k_X0_addLast l D cy ad Z i (cQ Z j t) hi hI.2) (cwV 1 hts gX0_addAllOf_X0_addLast rfl rfl rfl (by decide +kernel) ⟨Nat.le_of_ble_eq_true rfl, Nat.le_of_ble_eq_true rfl⟩) hK hap hA hN hP hS (by have h9 := (hi); omega) (cE_L cy ad Z hi) rfl rfl hl.1 rfl (Nat.le_of_ble_eq_true rfl) dX0_addAllOf_17 ⟨Nat.zero_le _, Nat.zero_le _⟩ (fun H locs hP hS => ?_)
      obtain ⟨S1, eS1⟩ : ∃ z : Cs, z = F_X0_addLast Z i (cQ Z j t) := ⟨_, rfl⟩
      rw [← eS1] at hP
      refine lv_iinc (v := nI (t + 1)) (lv' := [(2, .int (nI (t + 1))), (0, .ref (ad (4 + 2 * i))), (1, .ref (ad (4 + 2 * j)))]) hx hb dX0_addAllOf_20 hl (k := 0) rfl (inc_nI t) (by decide) rfl (fun ls hl => ?_)
      refine lv_goto (tgt := 2) hx hb dX0_addAllOf_23 (by decide) ?_
      have hF : B_X0_addAllOf_2 i j t Z = S1 := by subst eS1; simp only [B_X0_addAllOf_2]
      rw [← hF] at hP
      exact ih (t + 1) (B_X0_addAllOf_2 i j t Z) H locs ls (by omega) (aa_inv hij hI) hP hS (lv_sub hl [0, 1, 2] rfl) K
  refine lp_2 _ ((cL S j 3).toNatClampNeg) 0 S H locs ls (by omega) (⟨hz2, hz⟩) hP hS (by rw [show nI 0 = 0 from by decide]; exact lv_sub hl [0, 1, 2] rfl) (fun H locs ls hP hS hl => ?_)
  obtain ⟨S2, eS2⟩ : ∃ z : Cs, z = itr (B_X0_addAllOf_2 i j) ((cL S j 3).toNatClampNeg) 0 S := ⟨_, rfl⟩
  rw [← eS2] at hP
  have hF : F_X0_addAllOf S i j = S2 := by subst eS2; simp only [F_X0_addAllOf]
  rw [hF]
  exact c_vret hx hb hr hlocks hP hS dX0_addAllOf_26 (fun _ h => h)
set_option maxHeartbeats 4000000 in
set_option maxRecDepth 100000 in
theorem k_X1_startOver (l : Launch) (D : va_G) (cy : Nat → ClassId) (ad : Nat → Nat) (S : Cs) (i : Nat) (hi : i < 16)  : cMv l yX1_startOver wsX1_startOver { frames := 0, cells := 0, slots := 0, locals := 0 } D cy ad [.ref (ad (16 + 2 * i))] S (F_X1_startOver S i) := by
  intro sz
  refine Met.ofW (cc := cX1_startOver) (maxL := 1) (ret := none) (by decide) rfl ?_
  intro p e s m args below meth c s₁ B hml hv
  obtain ⟨rfl, hsz, hP, hK, hap0, hN⟩ := hv
  have hx := B.exec
  have hb := B.bytes
  have hr := B.returns
  have hts := atoms_spec (ws := wsX1_startOver) B.pre
  have hown : s.vm.findClass RX1 = some m.cls := findClass_of_methodNamed B.named
  have hlocks := B.notSynchronized
  subst hsz
  have hap := gw_self (sz := s.heap.size) hap0
  generalize hAe : gA 48 ad s.heap.size = A at hap ⊢
  have hA : ∀ q : Nat, s.heap.size ≤ q → A q := fun q h => by rw [← hAe]; exact Or.inr h
  have hS : va_S A s.heap s.heap [] := va_S.rf
  have hinX1 : ∀ w ∈ wsX10, w ∈ wsX1_startOver := by decide +kernel
  have hl := lv_entry ([.ref (ad (16 + 2 * i))]) (n := 1) (Nat.le_of_ble_eq_true rfl)
  rw [lg_entry_eq]
  generalize (lg_sl ([.ref (ad (16 + 2 * i))]) ++ List.replicate (1 - (lg_sl ([.ref (ad (16 + 2 * i))])).length) Slot.unset).toArray = ls at hl ⊢
  have hl : lv_has ls 1 [(0, .ref (ad (16 + 2 * i)))] := hl
  obtain ⟨H, hH⟩ : ∃ H, H = s.heap := ⟨_, rfl⟩
  rw [← hH] at hP
  have hS : va_S A s.heap H [] := by rw [hH]; exact hS
  rw [← hH]
  generalize ([] : List Loc) = locs at hS ⊢
  refine lv_aload_n hx hb dX1_startOver_0 rfl (lv_at hl 0 rfl) ?_
  refine lv_iconst (v := 0) hx hb dX1_startOver_1 (by decide) ?_
  refine c_pT (i := i) (ty := .int) (v := 0) hx hb hts hinX1 hown hK hap hP hS hi 4 (by decide) (hts (.fieldLink RX1 22 "FeedbackQueues$Task" "state" "I") (by decide +kernel)) rfl (by decide +kernel) rfl rfl (cTf_4 ad S i _) (Nat.le_of_ble_eq_true rfl) dX1_startOver_2 (fun H locs hP hS => ?_)
  obtain ⟨S1, eS1⟩ : ∃ z : Cs, z = sT S i 4 0 := ⟨_, rfl⟩
  rw [← eS1] at hP
  refine lv_aload_n hx hb dX1_startOver_5 rfl (lv_at hl 0 rfl) ?_
  refine lv_iconst (v := 0) hx hb dX1_startOver_6 (by decide) ?_
  refine c_pT (i := i) (ty := .int) (v := 0) hx hb hts hinX1 hown hK hap hP hS hi 5 (by decide) (hts (.fieldLink RX1 25 "FeedbackQueues$Task" "level" "I") (by decide +kernel)) rfl (by decide +kernel) rfl rfl (cTf_5 ad S1 i _) (Nat.le_of_ble_eq_true rfl) dX1_startOver_7 (fun H locs hP hS => ?_)
  obtain ⟨S2, eS2⟩ : ∃ z : Cs, z = sT S1 i 5 0 := ⟨_, rfl⟩
  rw [← eS2] at hP
  refine lv_aload_n hx hb dX1_startOver_10 rfl (lv_at hl 0 rfl) ?_
  refine lv_iconst (v := 0) hx hb dX1_startOver_11 (by decide) ?_
  refine c_pT (i := i) (ty := .int) (v := 0) hx hb hts hinX1 hown hK hap hP hS hi 6 (by decide) (hts (.fieldLink RX1 28 "FeedbackQueues$Task" "burstsBegun" "I") (by decide +kernel)) rfl (by decide +kernel) rfl rfl (cTf_6 ad S2 i _) (Nat.le_of_ble_eq_true rfl) dX1_startOver_12 (fun H locs hP hS => ?_)
  obtain ⟨S3, eS3⟩ : ∃ z : Cs, z = sT S2 i 6 0 := ⟨_, rfl⟩
  rw [← eS3] at hP
  refine lv_aload_n hx hb dX1_startOver_15 rfl (lv_at hl 0 rfl) ?_
  refine lv_iconst (v := 0) hx hb dX1_startOver_16 (by decide) ?_
  refine c_pT (i := i) (ty := .int) (v := 0) hx hb hts hinX1 hown hK hap hP hS hi 7 (by decide) (hts (.fieldLink RX1 31 "FeedbackQueues$Task" "burstLeft" "I") (by decide +kernel)) rfl (by decide +kernel) rfl rfl (cTf_7 ad S3 i _) (Nat.le_of_ble_eq_true rfl) dX1_startOver_17 (fun H locs hP hS => ?_)
  obtain ⟨S4, eS4⟩ : ∃ z : Cs, z = sT S3 i 7 0 := ⟨_, rfl⟩
  rw [← eS4] at hP
  refine lv_aload_n hx hb dX1_startOver_20 rfl (lv_at hl 0 rfl) ?_
  refine lv_iconst (v := 0) hx hb dX1_startOver_21 (by decide) ?_
  refine c_pT (i := i) (ty := .int) (v := 0) hx hb hts hinX1 hown hK hap hP hS hi 8 (by decide) (hts (.fieldLink RX1 34 "FeedbackQueues$Task" "quantumLeft" "I") (by decide +kernel)) rfl (by decide +kernel) rfl rfl (cTf_8 ad S4 i _) (Nat.le_of_ble_eq_true rfl) dX1_startOver_22 (fun H locs hP hS => ?_)
  obtain ⟨S5, eS5⟩ : ∃ z : Cs, z = sT S4 i 8 0 := ⟨_, rfl⟩
  rw [← eS5] at hP
  refine lv_aload_n hx hb dX1_startOver_25 rfl (lv_at hl 0 rfl) ?_
  refine lv_iconst (v := 0) hx hb dX1_startOver_26 (by decide) ?_
  refine c_pT (i := i) (ty := .int) (v := 0) hx hb hts hinX1 hown hK hap hP hS hi 9 (by decide) (hts (.fieldLink RX1 37 "FeedbackQueues$Task" "shareLeft" "I") (by decide +kernel)) rfl (by decide +kernel) rfl rfl (cTf_9 ad S5 i _) (Nat.le_of_ble_eq_true rfl) dX1_startOver_27 (fun H locs hP hS => ?_)
  obtain ⟨S6, eS6⟩ : ∃ z : Cs, z = sT S5 i 9 0 := ⟨_, rfl⟩
  rw [← eS6] at hP
  refine lv_aload_n hx hb dX1_startOver_30 rfl (lv_at hl 0 rfl) ?_
  refine lv_iconst (v := 0) hx hb dX1_startOver_31 (by decide) ?_
  refine c_pT (i := i) (ty := .boolean) (v := 0) hx hb hts hinX1 hown hK hap hP hS hi 10 (by decide) (hts (.fieldLink RX1 40 "FeedbackQueues$Task" "keepsQuantum" "Z") (by decide +kernel)) rfl (by decide +kernel) rfl rfl (cTf_10 ad S6 i _) (Nat.le_of_ble_eq_true rfl) dX1_startOver_32 (fun H locs hP hS => ?_)
  obtain ⟨S7, eS7⟩ : ∃ z : Cs, z = sT S6 i 10 0 := ⟨_, rfl⟩
  rw [← eS7] at hP
  refine lv_aload_n hx hb dX1_startOver_35 rfl (lv_at hl 0 rfl) ?_
  refine lv_iconst (v := 0) hx hb dX1_startOver_36 (by decide) ?_
  refine c_pT (i := i) (ty := .int) (v := 0) hx hb hts hinX1 hown hK hap hP hS hi 11 (by decide) (hts (.fieldLink RX1 44 "FeedbackQueues$Task" "ticksRun" "I") (by decide +kernel)) rfl (by decide +kernel) rfl rfl (cTf_11 ad S7 i _) (Nat.le_of_ble_eq_true rfl) dX1_startOver_37 (fun H locs hP hS => ?_)
  obtain ⟨S8, eS8⟩ : ∃ z : Cs, z = sT S7 i 11 0 := ⟨_, rfl⟩
  rw [← eS8] at hP
  refine lv_aload_n hx hb dX1_startOver_40 rfl (lv_at hl 0 rfl) ?_
  refine lv_iconst (v := 0) hx hb dX1_startOver_41 (by decide) ?_
  refine c_pT (i := i) (ty := .int) (v := 0) hx hb hts hinX1 hown hK hap hP hS hi 12 (by decide) (hts (.fieldLink RX1 47 "FeedbackQueues$Task" "ticksReady" "I") (by decide +kernel)) rfl (by decide +kernel) rfl rfl (cTf_12 ad S8 i _) (Nat.le_of_ble_eq_true rfl) dX1_startOver_42 (fun H locs hP hS => ?_)
  obtain ⟨S9, eS9⟩ : ∃ z : Cs, z = sT S8 i 12 0 := ⟨_, rfl⟩
  rw [← eS9] at hP
  refine lv_aload_n hx hb dX1_startOver_45 rfl (lv_at hl 0 rfl) ?_
  refine lv_iconst (v := 0) hx hb dX1_startOver_46 (by decide) ?_
  refine c_pT (i := i) (ty := .int) (v := 0) hx hb hts hinX1 hown hK hap hP hS hi 13 (by decide) (hts (.fieldLink RX1 50 "FeedbackQueues$Task" "ticksBlocked" "I") (by decide +kernel)) rfl (by decide +kernel) rfl rfl (cTf_13 ad S9 i _) (Nat.le_of_ble_eq_true rfl) dX1_startOver_47 (fun H locs hP hS => ?_)
  obtain ⟨S10, eS10⟩ : ∃ z : Cs, z = sT S9 i 13 0 := ⟨_, rfl⟩
  rw [← eS10] at hP
  refine lv_aload_n hx hb dX1_startOver_50 rfl (lv_at hl 0 rfl) ?_
  refine lv_iconst (v := (-1)) hx hb dX1_startOver_51 (by decide) ?_
  refine c_pT (i := i) (ty := .int) (v := (-1)) hx hb hts hinX1 hown hK hap hP hS hi 14 (by decide) (hts (.fieldLink RX1 53 "FeedbackQueues$Task" "firstRun" "I") (by decide +kernel)) rfl (by decide +kernel) rfl rfl (cTf_14 ad S10 i _) (Nat.le_of_ble_eq_true rfl) dX1_startOver_52 (fun H locs hP hS => ?_)
  obtain ⟨S11, eS11⟩ : ∃ z : Cs, z = sT S10 i 14 ((-1)) := ⟨_, rfl⟩
  rw [← eS11] at hP
  refine lv_aload_n hx hb dX1_startOver_55 rfl (lv_at hl 0 rfl) ?_
  refine lv_iconst (v := (-1)) hx hb dX1_startOver_56 (by decide) ?_
  refine c_pT (i := i) (ty := .int) (v := (-1)) hx hb hts hinX1 hown hK hap hP hS hi 15 (by decide) (hts (.fieldLink RX1 56 "FeedbackQueues$Task" "endedAt" "I") (by decide +kernel)) rfl (by decide +kernel) rfl rfl (cTf_15 ad S11 i _) (Nat.le_of_ble_eq_true rfl) dX1_startOver_57 (fun H locs hP hS => ?_)
  obtain ⟨S12, eS12⟩ : ∃ z : Cs, z = sT S11 i 15 ((-1)) := ⟨_, rfl⟩
  rw [← eS12] at hP
  refine lv_aload_n hx hb dX1_startOver_60 rfl (lv_at hl 0 rfl) ?_
  refine lv_iconst (v := 0) hx hb dX1_startOver_61 (by decide) ?_
  refine c_pT (i := i) (ty := .int) (v := 0) hx hb hts hinX1 hown hK hap hP hS hi 16 (by decide) (hts (.fieldLink RX1 59 "FeedbackQueues$Task" "timesSwitchedTo" "I") (by decide +kernel)) rfl (by decide +kernel) rfl rfl (cTf_16 ad S12 i _) (Nat.le_of_ble_eq_true rfl) dX1_startOver_62 (fun H locs hP hS => ?_)
  obtain ⟨S13, eS13⟩ : ∃ z : Cs, z = sT S12 i 16 0 := ⟨_, rfl⟩
  rw [← eS13] at hP
  refine lv_aload_n hx hb dX1_startOver_65 rfl (lv_at hl 0 rfl) ?_
  refine lv_iconst (v := 0) hx hb dX1_startOver_66 (by decide) ?_
  refine c_pT (i := i) (ty := .int) (v := 0) hx hb hts hinX1 hown hK hap hP hS hi 17 (by decide) (hts (.fieldLink RX1 62 "FeedbackQueues$Task" "timesDown" "I") (by decide +kernel)) rfl (by decide +kernel) rfl rfl (cTf_17 ad S13 i _) (Nat.le_of_ble_eq_true rfl) dX1_startOver_67 (fun H locs hP hS => ?_)
  obtain ⟨S14, eS14⟩ : ∃ z : Cs, z = sT S13 i 17 0 := ⟨_, rfl⟩
  rw [← eS14] at hP
  refine lv_aload_n hx hb dX1_startOver_70 rfl (lv_at hl 0 rfl) ?_
  refine lv_iconst (v := 0) hx hb dX1_startOver_71 (by decide) ?_
  refine c_pT (i := i) (ty := .int) (v := 0) hx hb hts hinX1 hown hK hap hP hS hi 18 (by decide) (hts (.fieldLink RX1 65 "FeedbackQueues$Task" "timesToFront" "I") (by decide +kernel)) rfl (by decide +kernel) rfl rfl (cTf_18 ad S14 i _) (Nat.le_of_ble_eq_true rfl) dX1_startOver_72 (fun H locs hP hS => ?_)
  obtain ⟨S15, eS15⟩ : ∃ z : Cs, z = sT S14 i 18 0 := ⟨_, rfl⟩
  rw [← eS15] at hP
  have hF : F_X1_startOver S i = S15 := by subst eS15 eS14 eS13 eS12 eS11 eS10 eS9 eS8 eS7 eS6 eS5 eS4 eS3 eS2 eS1; simp only [F_X1_startOver]
  rw [hF]
  exact c_vret hx hb hr hlocks hP hS dX1_startOver_75 (fun _ h => h)
set_option maxHeartbeats 4000000 in
set_option maxRecDepth 100000 in
theorem k_X1_tellArrival (l : Launch) (D : va_G) (cy : Nat → ClassId) (ad : Nat → Nat) (S : Cs) (i : Nat) (p1 : Int32) (hi : i < 16)  : cMv l yX1_tellArrival wsX1_tellArrival { frames := 0, cells := 0, slots := 0, locals := 0 } D cy ad [.ref (ad (16 + 2 * i)), .int p1] S (F_X1_tellArrival S i p1) := by
  intro sz
  refine Met.ofW (cc := cX1_tellArrival) (maxL := 2) (ret := none) (by decide) rfl ?_
  intro p e s m args below meth c s₁ B hml hv
  obtain ⟨rfl, hsz, hP, hK, hap0, hN⟩ := hv
  have hx := B.exec
  have hb := B.bytes
  have hr := B.returns
  have hts := atoms_spec (ws := wsX1_tellArrival) B.pre
  have hown : s.vm.findClass RX1 = some m.cls := findClass_of_methodNamed B.named
  have hlocks := B.notSynchronized
  subst hsz
  have hap := gw_self (sz := s.heap.size) hap0
  generalize hAe : gA 48 ad s.heap.size = A at hap ⊢
  have hA : ∀ q : Nat, s.heap.size ≤ q → A q := fun q h => by rw [← hAe]; exact Or.inr h
  have hS : va_S A s.heap s.heap [] := va_S.rf
  have hinX1 : ∀ w ∈ wsX10, w ∈ wsX1_tellArrival := by decide +kernel
  have hl := lv_entry ([.ref (ad (16 + 2 * i)), .int p1]) (n := 2) (Nat.le_of_ble_eq_true rfl)
  rw [lg_entry_eq]
  generalize (lg_sl ([.ref (ad (16 + 2 * i)), .int p1]) ++ List.replicate (2 - (lg_sl ([.ref (ad (16 + 2 * i)), .int p1])).length) Slot.unset).toArray = ls at hl ⊢
  have hl : lv_has ls 2 [(0, .ref (ad (16 + 2 * i))), (1, .int p1)] := hl
  obtain ⟨H, hH⟩ : ∃ H, H = s.heap := ⟨_, rfl⟩
  rw [← hH] at hP
  have hS : va_S A s.heap H [] := by rw [hH]; exact hS
  rw [← hH]
  generalize ([] : List Loc) = locs at hS ⊢
  refine lv_aload_n hx hb dX1_tellArrival_0 rfl (lv_at hl 0 rfl) ?_
  refine lv_iload_n hx hb dX1_tellArrival_1 rfl (lv_at hl 1 rfl) ?_
  refine c_pT (i := i) (ty := .int) (v := p1) hx hb hts hinX1 hown hK hap hP hS hi 1 (by decide) (hts (.fieldLink RX1 9 "FeedbackQueues$Task" "arrival" "I") (by decide +kernel)) rfl (by decide +kernel) rfl rfl (cTf_1 ad S i _) (Nat.le_of_ble_eq_true rfl) dX1_tellArrival_2 (fun H locs hP hS => ?_)
  obtain ⟨S1, eS1⟩ : ∃ z : Cs, z = sT S i 1 p1 := ⟨_, rfl⟩
  rw [← eS1] at hP
  refine lv_aload_n hx hb dX1_tellArrival_5 rfl (lv_at hl 0 rfl) ?_
  refine lv_iconst (v := 0) hx hb dX1_tellArrival_6 (by decide) ?_
  refine c_pT (i := i) (ty := .int) (v := 0) hx hb hts hinX1 hown hK hap hP hS hi 3 (by decide) (hts (.fieldLink RX1 19 "FeedbackQueues$Task" "burstCount" "I") (by decide +kernel)) rfl (by decide +kernel) rfl rfl (cTf_3 ad S1 i _) (Nat.le_of_ble_eq_true rfl) dX1_tellArrival_7 (fun H locs hP hS => ?_)
  obtain ⟨S2, eS2⟩ : ∃ z : Cs, z = sT S1 i 3 0 := ⟨_, rfl⟩
  rw [← eS2] at hP
  have hF : F_X1_tellArrival S i p1 = S2 := by subst eS2 eS1; simp only [F_X1_tellArrival]
  rw [hF]
  exact c_vret hx hb hr hlocks hP hS dX1_tellArrival_10 (fun _ h => h)
set_option maxHeartbeats 4000000 in
set_option maxRecDepth 100000 in
theorem k_X1_tellBurst (l : Launch) (D : va_G) (cy : Nat → ClassId) (ad : Nat → Nat) (S : Cs) (i : Nat) (p1 : Int32) (hi : i < 16) (hb3 : ub 12 (cT S i 3)) : cMi l yX1_tellBurst wsX1_tellBurst { frames := 0, cells := 0, slots := 0, locals := 0 } D cy ad [.ref (ad (16 + 2 * i)), .int p1] S (F_X1_tellBurst S i p1).1 (F_X1_tellBurst S i p1).2 := by
  intro sz
  refine Met.ofW (cc := cX1_tellBurst) (maxL := 2) (ret := (some .int)) (by decide) rfl ?_
  intro p e s m args below meth c s₁ B hml hv
  obtain ⟨rfl, hsz, hP, hK, hap0, hN⟩ := hv
  have hx := B.exec
  have hb := B.bytes
  have hr := B.returns
  have hts := atoms_spec (ws := wsX1_tellBurst) B.pre
  have hown : s.vm.findClass RX1 = some m.cls := findClass_of_methodNamed B.named
  have hlocks := B.notSynchronized
  subst hsz
  have hap := gw_self (sz := s.heap.size) hap0
  generalize hAe : gA 48 ad s.heap.size = A at hap ⊢
  have hA : ∀ q : Nat, s.heap.size ≤ q → A q := fun q h => by rw [← hAe]; exact Or.inr h
  have hS : va_S A s.heap s.heap [] := va_S.rf
  have hinX1 : ∀ w ∈ wsX10, w ∈ wsX1_tellBurst := by decide +kernel
  have hl := lv_entry ([.ref (ad (16 + 2 * i)), .int p1]) (n := 2) (Nat.le_of_ble_eq_true rfl)
  rw [lg_entry_eq]
  generalize (lg_sl ([.ref (ad (16 + 2 * i)), .int p1]) ++ List.replicate (2 - (lg_sl ([.ref (ad (16 + 2 * i)), .int p1])).length) Slot.unset).toArray = ls at hl ⊢
  have hl : lv_has ls 2 [(0, .ref (ad (16 + 2 * i))), (1, .int p1)] := hl
  obtain ⟨H, hH⟩ : ∃ H, H = s.heap := ⟨_, rfl⟩
  rw [← hH] at hP
  have hS : va_S A s.heap H [] := by rw [hH]; exact hS
  rw [← hH]
  generalize ([] : List Loc) = locs at hS ⊢
  refine lv_aload_n hx hb dX1_tellBurst_0 rfl (lv_at hl 0 rfl) ?_
  refine c_gT (i := i) hx hb hts hinX1 hown hK hP hi 3 (by decide) (hts (.fieldLink RX1 19 "FeedbackQueues$Task" "burstCount" "I") (by decide +kernel)) rfl dX1_tellBurst_1 ?_
  refine lv_bipush (v := 12) hx hb dX1_tellBurst_4 (by decide) ?_
  refine lv_icmp_lt (tgt := 11) hx hb dX1_tellBurst_6 (by decide) (fun c_6 => ?_) (fun c_6 => ?_)
  · skip
    refine lv_aload_n hx hb dX1_tellBurst_11 rfl (lv_at hl 0 rfl) ?_
    refine c_gT (i := i) hx hb hts hinX1 hown hK hP hi 2 (by decide) (hts (.fieldLink RX1 15 "FeedbackQueues$Task" "bursts" "[I") (by decide +kernel)) rfl dX1_tellBurst_12 ?_
    refine lv_aload_n hx hb dX1_tellBurst_15 rfl (lv_at hl 0 rfl) ?_
    refine c_gT (i := i) hx hb hts hinX1 hown hK hP hi 3 (by decide) (hts (.fieldLink RX1 19 "FeedbackQueues$Task" "burstCount" "I") (by decide +kernel)) rfl dX1_tellBurst_16 ?_
    refine lv_iload_n hx hb dX1_tellBurst_19 rfl (lv_at hl 1 rfl) ?_
    refine c_sB (i := i) (k := ((cT S i 3)).toNatClampNeg) (v := p1) hx hb hK hap hP hS hi (ix_lt (k := 12) hb3 (by omega) (by decide) (by omega) c_6) dX1_tellBurst_20 (fun H locs hP hS => ?_)
    obtain ⟨S1, eS1⟩ : ∃ z : Cs, z = sB S i (((cT S i 3)).toNatClampNeg) p1 := ⟨_, rfl⟩
    rw [← eS1] at hP
    refine lv_aload_n hx hb dX1_tellBurst_21 rfl (lv_at hl 0 rfl) ?_
    refine lv_dup hx hb dX1_tellBurst_22 rfl ?_
    refine c_gT (i := i) hx hb hts hinX1 hown hK hP hi 3 (by decide) (hts (.fieldLink RX1 19 "FeedbackQueues$Task" "burstCount" "I") (by decide +kernel)) rfl dX1_tellBurst_23 ?_
    refine lv_iconst (v := 1) hx hb dX1_tellBurst_26 (by decide) ?_
    refine lv_iadd hx hb dX1_tellBurst_27 ?_
    refine c_pT (i := i) (ty := .int) (v := (cT S1 i 3) + 1) hx hb hts hinX1 hown hK hap hP hS hi 3 (by decide) (hts (.fieldLink RX1 19 "FeedbackQueues$Task" "burstCount" "I") (by decide +kernel)) rfl (by decide +kernel) rfl rfl (cTf_3 ad S1 i _) (Nat.le_of_ble_eq_true rfl) dX1_tellBurst_28 (fun H locs hP hS => ?_)
    obtain ⟨S2, eS2⟩ : ∃ z : Cs, z = sT S1 i 3 ((cT S1 i 3) + 1) := ⟨_, rfl⟩
    rw [← eS2] at hP
    refine lv_aload_n hx hb dX1_tellBurst_31 rfl (lv_at hl 0 rfl) ?_
    refine c_gT (i := i) hx hb hts hinX1 hown hK hP hi 3 (by decide) (hts (.fieldLink RX1 19 "FeedbackQueues$Task" "burstCount" "I") (by decide +kernel)) rfl dX1_tellBurst_32 ?_
    have hF : F_X1_tellBurst S i p1 = (S2, cT S2 i 3) := by subst eS2 eS1; simp only [F_X1_tellBurst, if_pos c_6]
    rw [hF]
    exact c_iret hx hb hr hlocks hP hS dX1_tellBurst_35 (fun _ h => h)
  · skip
    refine lv_iconst (v := (-1)) hx hb dX1_tellBurst_9 (by decide) ?_
    have hF : F_X1_tellBurst S i p1 = (S, (-1)) := by simp only [F_X1_tellBurst, if_neg c_6]
    rw [hF]
    exact c_iret hx hb hr hlocks hP hS dX1_tellBurst_10 (fun _ h => h)
set_option maxHeartbeats 4000000 in
set_option maxRecDepth 100000 in
theorem k_X1_beginBurst (l : Launch) (D : va_G) (cy : Nat → ClassId) (ad : Nat → Nat) (S : Cs) (i : Nat) (hi : i < 16) (hg : ub 12 (cT S i 6)) (hb3 : ub 12 (cT S i 3)) : cMi l yX1_beginBurst wsX1_beginBurst { frames := 0, cells := 0, slots := 0, locals := 0 } D cy ad [.ref (ad (16 + 2 * i))] S (F_X1_beginBurst S i).1 (F_X1_beginBurst S i).2 := by
  intro sz
  refine Met.ofW (cc := cX1_beginBurst) (maxL := 1) (ret := (some .boolean)) (by decide) rfl ?_
  intro p e s m args below meth c s₁ B hml hv
  obtain ⟨rfl, hsz, hP, hK, hap0, hN⟩ := hv
  have hx := B.exec
  have hb := B.bytes
  have hr := B.returns
  have hts := atoms_spec (ws := wsX1_beginBurst) B.pre
  have hown : s.vm.findClass RX1 = some m.cls := findClass_of_methodNamed B.named
  have hlocks := B.notSynchronized
  subst hsz
  have hap := gw_self (sz := s.heap.size) hap0
  generalize hAe : gA 48 ad s.heap.size = A at hap ⊢
  have hA : ∀ q : Nat, s.heap.size ≤ q → A q := fun q h => by rw [← hAe]; exact Or.inr h
  have hS : va_S A s.heap s.heap [] := va_S.rf
  have hinX1 : ∀ w ∈ wsX10, w ∈ wsX1_beginBurst := by decide +kernel
  have hl := lv_entry ([.ref (ad (16 + 2 * i))]) (n := 1) (Nat.le_of_ble_eq_true rfl)
  rw [lg_entry_eq]
  generalize (lg_sl ([.ref (ad (16 + 2 * i))]) ++ List.replicate (1 - (lg_sl ([.ref (ad (16 + 2 * i))])).length) Slot.unset).toArray = ls at hl ⊢
  have hl : lv_has ls 1 [(0, .ref (ad (16 + 2 * i)))] := hl
  obtain ⟨H, hH⟩ : ∃ H, H = s.heap := ⟨_, rfl⟩
  rw [← hH] at hP
  have hS : va_S A s.heap H [] := by rw [hH]; exact hS
  rw [← hH]
  generalize ([] : List Loc) = locs at hS ⊢
  refine lv_aload_n hx hb dX1_beginBurst_0 rfl (lv_at hl 0 rfl) ?_
  refine c_gT (i := i) hx hb hts hinX1 hown hK hP hi 6 (by decide) (hts (.fieldLink RX1 28 "FeedbackQueues$Task" "burstsBegun" "I") (by decide +kernel)) rfl dX1_beginBurst_1 ?_
  refine lv_aload_n hx hb dX1_beginBurst_4 rfl (lv_at hl 0 rfl) ?_
  refine c_gT (i := i) hx hb hts hinX1 hown hK hP hi 3 (by decide) (hts (.fieldLink RX1 19 "FeedbackQueues$Task" "burstCount" "I") (by decide +kernel)) rfl dX1_beginBurst_5 ?_
  refine lv_icmp_lt (tgt := 13) hx hb dX1_beginBurst_8 (by decide) (fun c_8 => ?_) (fun c_8 => ?_)
  · skip
    refine lv_aload_n hx hb dX1_beginBurst_13 rfl (lv_at hl 0 rfl) ?_
    refine lv_aload_n hx hb dX1_beginBurst_14 rfl (lv_at hl 0 rfl) ?_
    refine c_gT (i := i) hx hb hts hinX1 hown hK hP hi 2 (by decide) (hts (.fieldLink RX1 15 "FeedbackQueues$Task" "bursts" "[I") (by decide +kernel)) rfl dX1_beginBurst_15 ?_
    refine lv_aload_n hx hb dX1_beginBurst_18 rfl (lv_at hl 0 rfl) ?_
    refine c_gT (i := i) hx hb hts hinX1 hown hK hP hi 6 (by decide) (hts (.fieldLink RX1 28 "FeedbackQueues$Task" "burstsBegun" "I") (by decide +kernel)) rfl dX1_beginBurst_19 ?_
    refine c_iB (i := i) (k := ((cT S i 6)).toNatClampNeg) hx hb hK hP hi (ix_lt2 hg hb3 (by omega) (by omega) c_8) dX1_beginBurst_22 ?_
    refine c_pT (i := i) (ty := .int) (v := cB S i (((cT S i 6)).toNatClampNeg)) hx hb hts hinX1 hown hK hap hP hS hi 7 (by decide) (hts (.fieldLink RX1 31 "FeedbackQueues$Task" "burstLeft" "I") (by decide +kernel)) rfl (by decide +kernel) rfl rfl (cTf_7 ad S i _) (Nat.le_of_ble_eq_true rfl) dX1_beginBurst_23 (fun H locs hP hS => ?_)
    obtain ⟨S1, eS1⟩ : ∃ z : Cs, z = sT S i 7 (cB S i (((cT S i 6)).toNatClampNeg)) := ⟨_, rfl⟩
    rw [← eS1] at hP
    refine lv_aload_n hx hb dX1_beginBurst_26 rfl (lv_at hl 0 rfl) ?_
    refine lv_dup hx hb dX1_beginBurst_27 rfl ?_
    refine c_gT (i := i) hx hb hts hinX1 hown hK hP hi 6 (by decide) (hts (.fieldLink RX1 28 "FeedbackQueues$Task" "burstsBegun" "I") (by decide +kernel)) rfl dX1_beginBurst_28 ?_
    refine lv_iconst (v := 1) hx hb dX1_beginBurst_31 (by decide) ?_
    refine lv_iadd hx hb dX1_beginBurst_32 ?_
    refine c_pT (i := i) (ty := .int) (v := (cT S1 i 6) + 1) hx hb hts hinX1 hown hK hap hP hS hi 6 (by decide) (hts (.fieldLink RX1 28 "FeedbackQueues$Task" "burstsBegun" "I") (by decide +kernel)) rfl (by decide +kernel) rfl rfl (cTf_6 ad S1 i _) (Nat.le_of_ble_eq_true rfl) dX1_beginBurst_33 (fun H locs hP hS => ?_)
    obtain ⟨S2, eS2⟩ : ∃ z : Cs, z = sT S1 i 6 ((cT S1 i 6) + 1) := ⟨_, rfl⟩
    rw [← eS2] at hP
    refine lv_iconst (v := 1) hx hb dX1_beginBurst_36 (by decide) ?_
    have hF : F_X1_beginBurst S i = (S2, 1) := by subst eS2 eS1; simp only [F_X1_beginBurst, if_pos c_8]
    rw [hF]
    exact c_zret hx hb hr hlocks narrow_b1 hP hS dX1_beginBurst_37 (fun _ h => h)
  · skip
    refine lv_iconst (v := 0) hx hb dX1_beginBurst_11 (by decide) ?_
    have hF : F_X1_beginBurst S i = (S, 0) := by simp only [F_X1_beginBurst, if_neg c_8]
    rw [hF]
    exact c_zret hx hb hr hlocks narrow_b0 hP hS dX1_beginBurst_12 (fun _ h => h)
set_option maxHeartbeats 4000000 in
set_option maxRecDepth 100000 in
theorem k_X1_beginRunning (l : Launch) (D : va_G) (cy : Nat → ClassId) (ad : Nat → Nat) (S : Cs) (i : Nat) (p1 : Int32) (p2 : Int32) (hi : i < 16)  : cMv l yX1_beginRunning wsX1_beginRunning { frames := 0, cells := 0, slots := 0, locals := 0 } D cy ad [.ref (ad (16 + 2 * i)), .int p1, .int p2] S (F_X1_beginRunning S i p1 p2) := by
  intro sz
  refine Met.ofW (cc := cX1_beginRunning) (maxL := 3) (ret := none) (by decide) rfl ?_
  intro p e s m args below meth c s₁ B hml hv
  obtain ⟨rfl, hsz, hP, hK, hap0, hN⟩ := hv
  have hx := B.exec
  have hb := B.bytes
  have hr := B.returns
  have hts := atoms_spec (ws := wsX1_beginRunning) B.pre
  have hown : s.vm.findClass RX1 = some m.cls := findClass_of_methodNamed B.named
  have hlocks := B.notSynchronized
  subst hsz
  have hap := gw_self (sz := s.heap.size) hap0
  generalize hAe : gA 48 ad s.heap.size = A at hap ⊢
  have hA : ∀ q : Nat, s.heap.size ≤ q → A q := fun q h => by rw [← hAe]; exact Or.inr h
  have hS : va_S A s.heap s.heap [] := va_S.rf
  have hinX1 : ∀ w ∈ wsX10, w ∈ wsX1_beginRunning := by decide +kernel
  have hl := lv_entry ([.ref (ad (16 + 2 * i)), .int p1, .int p2]) (n := 3) (Nat.le_of_ble_eq_true rfl)
  rw [lg_entry_eq]
  generalize (lg_sl ([.ref (ad (16 + 2 * i)), .int p1, .int p2]) ++ List.replicate (3 - (lg_sl ([.ref (ad (16 + 2 * i)), .int p1, .int p2])).length) Slot.unset).toArray = ls at hl ⊢
  have hl : lv_has ls 3 [(0, .ref (ad (16 + 2 * i))), (1, .int p1), (2, .int p2)] := hl
  obtain ⟨H, hH⟩ : ∃ H, H = s.heap := ⟨_, rfl⟩
  rw [← hH] at hP
  have hS : va_S A s.heap H [] := by rw [hH]; exact hS
  rw [← hH]
  generalize ([] : List Loc) = locs at hS ⊢
  refine lv_aload_n hx hb dX1_beginRunning_0 rfl (lv_at hl 0 rfl) ?_
  refine lv_iconst (v := 2) hx hb dX1_beginRunning_1 (by decide) ?_
  refine c_pT (i := i) (ty := .int) (v := 2) hx hb hts hinX1 hown hK hap hP hS hi 4 (by decide) (hts (.fieldLink RX1 22 "FeedbackQueues$Task" "state" "I") (by decide +kernel)) rfl (by decide +kernel) rfl rfl (cTf_4 ad S i _) (Nat.le_of_ble_eq_true rfl) dX1_beginRunning_2 (fun H locs hP hS => ?_)
  obtain ⟨S1, eS1⟩ : ∃ z : Cs, z = sT S i 4 2 := ⟨_, rfl⟩
  rw [← eS1] at hP
  refine lv_aload_n hx hb dX1_beginRunning_5 rfl (lv_at hl 0 rfl) ?_
  refine c_gT (i := i) hx hb hts hinX1 hown hK hP hi 10 (by decide) (hts (.fieldLink RX1 40 "FeedbackQueues$Task" "keepsQuantum" "Z") (by decide +kernel)) rfl dX1_beginRunning_6 ?_
  refine lv_if_ne (tgt := 17) hx hb dX1_beginRunning_9 (by decide) (fun c_9 => ?_) (fun c_9 => ?_)
  · skip
    refine lv_aload_n hx hb dX1_beginRunning_17 rfl (lv_at hl 0 rfl) ?_
    refine lv_iconst (v := 0) hx hb dX1_beginRunning_18 (by decide) ?_
    refine c_pT (i := i) (ty := .boolean) (v := 0) hx hb hts hinX1 hown hK hap hP hS hi 10 (by decide) (hts (.fieldLink RX1 40 "FeedbackQueues$Task" "keepsQuantum" "Z") (by decide +kernel)) rfl (by decide +kernel) rfl rfl (cTf_10 ad S1 i _) (Nat.le_of_ble_eq_true rfl) dX1_beginRunning_19 (fun H locs hP hS => ?_)
    obtain ⟨S2, eS2⟩ : ∃ z : Cs, z = sT S1 i 10 0 := ⟨_, rfl⟩
    rw [← eS2] at hP
    refine lv_aload_n hx hb dX1_beginRunning_22 rfl (lv_at hl 0 rfl) ?_
    refine lv_dup hx hb dX1_beginRunning_23 rfl ?_
    refine c_gT (i := i) hx hb hts hinX1 hown hK hP hi 16 (by decide) (hts (.fieldLink RX1 59 "FeedbackQueues$Task" "timesSwitchedTo" "I") (by decide +kernel)) rfl dX1_beginRunning_24 ?_
    refine lv_iconst (v := 1) hx hb dX1_beginRunning_27 (by decide) ?_
    refine lv_iadd hx hb dX1_beginRunning_28 ?_
    refine c_pT (i := i) (ty := .int) (v := (cT S2 i 16) + 1) hx hb hts hinX1 hown hK hap hP hS hi 16 (by decide) (hts (.fieldLink RX1 59 "FeedbackQueues$Task" "timesSwitchedTo" "I") (by decide +kernel)) rfl (by decide +kernel) rfl rfl (cTf_16 ad S2 i _) (Nat.le_of_ble_eq_true rfl) dX1_beginRunning_29 (fun H locs hP hS => ?_)
    obtain ⟨S3, eS3⟩ : ∃ z : Cs, z = sT S2 i 16 ((cT S2 i 16) + 1) := ⟨_, rfl⟩
    rw [← eS3] at hP
    refine lv_aload_n hx hb dX1_beginRunning_32 rfl (lv_at hl 0 rfl) ?_
    refine c_gT (i := i) hx hb hts hinX1 hown hK hP hi 14 (by decide) (hts (.fieldLink RX1 53 "FeedbackQueues$Task" "firstRun" "I") (by decide +kernel)) rfl dX1_beginRunning_33 ?_
    refine lv_iconst (v := (-1)) hx hb dX1_beginRunning_36 (by decide) ?_
    refine lv_icmp_ne (tgt := 45) hx hb dX1_beginRunning_37 (by decide) (fun c_37 => ?_) (fun c_37 => ?_)
    · skip
      have hF : F_X1_beginRunning S i p1 p2 = S3 := by subst eS3 eS2 eS1; simp only [F_X1_beginRunning, if_neg c_9, if_neg c_37]
      rw [hF]
      exact c_vret hx hb hr hlocks hP hS dX1_beginRunning_45 (fun _ h => h)
    · skip
      refine lv_aload_n hx hb dX1_beginRunning_40 rfl (lv_at hl 0 rfl) ?_
      refine lv_iload_n hx hb dX1_beginRunning_41 rfl (lv_at hl 1 rfl) ?_
      refine c_pT (i := i) (ty := .int) (v := p1) hx hb hts hinX1 hown hK hap hP hS hi 14 (by decide) (hts (.fieldLink RX1 53 "FeedbackQueues$Task" "firstRun" "I") (by decide +kernel)) rfl (by decide +kernel) rfl rfl (cTf_14 ad S3 i _) (Nat.le_of_ble_eq_true rfl) dX1_beginRunning_42 (fun H locs hP hS => ?_)
      obtain ⟨S4, eS4⟩ : ∃ z : Cs, z = sT S3 i 14 p1 := ⟨_, rfl⟩
      rw [← eS4] at hP
      have hF : F_X1_beginRunning S i p1 p2 = S4 := by subst eS4 eS3 eS2 eS1; simp only [F_X1_beginRunning, if_neg c_9, if_pos c_37]
      rw [hF]
      exact c_vret hx hb hr hlocks hP hS dX1_beginRunning_45 (fun _ h => h)
  · skip
    refine lv_aload_n hx hb dX1_beginRunning_12 rfl (lv_at hl 0 rfl) ?_
    refine lv_iload_n hx hb dX1_beginRunning_13 rfl (lv_at hl 2 rfl) ?_
    refine c_pT (i := i) (ty := .int) (v := p2) hx hb hts hinX1 hown hK hap hP hS hi 8 (by decide) (hts (.fieldLink RX1 34 "FeedbackQueues$Task" "quantumLeft" "I") (by decide +kernel)) rfl (by decide +kernel) rfl rfl (cTf_8 ad S1 i _) (Nat.le_of_ble_eq_true rfl) dX1_beginRunning_14 (fun H locs hP hS => ?_)
    obtain ⟨S5, eS5⟩ : ∃ z : Cs, z = sT S1 i 8 p2 := ⟨_, rfl⟩
    rw [← eS5] at hP
    refine lv_aload_n hx hb dX1_beginRunning_17 rfl (lv_at hl 0 rfl) ?_
    refine lv_iconst (v := 0) hx hb dX1_beginRunning_18 (by decide) ?_
    refine c_pT (i := i) (ty := .boolean) (v := 0) hx hb hts hinX1 hown hK hap hP hS hi 10 (by decide) (hts (.fieldLink RX1 40 "FeedbackQueues$Task" "keepsQuantum" "Z") (by decide +kernel)) rfl (by decide +kernel) rfl rfl (cTf_10 ad S5 i _) (Nat.le_of_ble_eq_true rfl) dX1_beginRunning_19 (fun H locs hP hS => ?_)
    obtain ⟨S6, eS6⟩ : ∃ z : Cs, z = sT S5 i 10 0 := ⟨_, rfl⟩
    rw [← eS6] at hP
    refine lv_aload_n hx hb dX1_beginRunning_22 rfl (lv_at hl 0 rfl) ?_
    refine lv_dup hx hb dX1_beginRunning_23 rfl ?_
    refine c_gT (i := i) hx hb hts hinX1 hown hK hP hi 16 (by decide) (hts (.fieldLink RX1 59 "FeedbackQueues$Task" "timesSwitchedTo" "I") (by decide +kernel)) rfl dX1_beginRunning_24 ?_
    refine lv_iconst (v := 1) hx hb dX1_beginRunning_27 (by decide) ?_
    refine lv_iadd hx hb dX1_beginRunning_28 ?_
    refine c_pT (i := i) (ty := .int) (v := (cT S6 i 16) + 1) hx hb hts hinX1 hown hK hap hP hS hi 16 (by decide) (hts (.fieldLink RX1 59 "FeedbackQueues$Task" "timesSwitchedTo" "I") (by decide +kernel)) rfl (by decide +kernel) rfl rfl (cTf_16 ad S6 i _) (Nat.le_of_ble_eq_true rfl) dX1_beginRunning_29 (fun H locs hP hS => ?_)
    obtain ⟨S7, eS7⟩ : ∃ z : Cs, z = sT S6 i 16 ((cT S6 i 16) + 1) := ⟨_, rfl⟩
    rw [← eS7] at hP
    refine lv_aload_n hx hb dX1_beginRunning_32 rfl (lv_at hl 0 rfl) ?_
    refine c_gT (i := i) hx hb hts hinX1 hown hK hP hi 14 (by decide) (hts (.fieldLink RX1 53 "FeedbackQueues$Task" "firstRun" "I") (by decide +kernel)) rfl dX1_beginRunning_33 ?_
    refine lv_iconst (v := (-1)) hx hb dX1_beginRunning_36 (by decide) ?_
    refine lv_icmp_ne (tgt := 45) hx hb dX1_beginRunning_37 (by decide) (fun c_37 => ?_) (fun c_37 => ?_)
    · skip
      have hF : F_X1_beginRunning S i p1 p2 = S7 := by subst eS7 eS6 eS5 eS1; simp only [F_X1_beginRunning, if_pos c_9, if_neg c_37]
      rw [hF]
      exact c_vret hx hb hr hlocks hP hS dX1_beginRunning_45 (fun _ h => h)
    · skip
      refine lv_aload_n hx hb dX1_beginRunning_40 rfl (lv_at hl 0 rfl) ?_
      refine lv_iload_n hx hb dX1_beginRunning_41 rfl (lv_at hl 1 rfl) ?_
      refine c_pT (i := i) (ty := .int) (v := p1) hx hb hts hinX1 hown hK hap hP hS hi 14 (by decide) (hts (.fieldLink RX1 53 "FeedbackQueues$Task" "firstRun" "I") (by decide +kernel)) rfl (by decide +kernel) rfl rfl (cTf_14 ad S7 i _) (Nat.le_of_ble_eq_true rfl) dX1_beginRunning_42 (fun H locs hP hS => ?_)
      obtain ⟨S8, eS8⟩ : ∃ z : Cs, z = sT S7 i 14 p1 := ⟨_, rfl⟩
      rw [← eS8] at hP
      have hF : F_X1_beginRunning S i p1 p2 = S8 := by subst eS8 eS7 eS6 eS5 eS1; simp only [F_X1_beginRunning, if_pos c_9, if_pos c_37]
      rw [hF]
      exact c_vret hx hb hr hlocks hP hS dX1_beginRunning_45 (fun _ h => h)
set_option maxHeartbeats 4000000 in
set_option maxRecDepth 100000 in
theorem k_X1_comeUp (l : Launch) (D : va_G) (cy : Nat → ClassId) (ad : Nat → Nat) (S : Cs) (i : Nat) (p1 : Int32) (p2 : Int32) (hi : i < 16)  : cMv l yX1_comeUp wsX1_comeUp { frames := 1, cells := 0, slots := 0, locals := 17 } D cy ad [.ref (ad (16 + 2 * i)), .int p1, .int p2] S (F_X1_comeUp S i p1 p2) := by
  intro sz
  refine Met.ofW (cc := cX1_comeUp) (maxL := 3) (ret := none) (by decide) rfl ?_
  intro p e s m args below meth c s₁ B hml hv
  obtain ⟨rfl, hsz, hP, hK, hap0, hN⟩ := hv
  have hx := B.exec
  have hb := B.bytes
  have hr := B.returns
  have hts := atoms_spec (ws := wsX1_comeUp) B.pre
  have hown : s.vm.findClass RX1 = some m.cls := findClass_of_methodNamed B.named
  have hlocks := B.notSynchronized
  subst hsz
  have hap := gw_self (sz := s.heap.size) hap0
  generalize hAe : gA 48 ad s.heap.size = A at hap ⊢
  have hA : ∀ q : Nat, s.heap.size ≤ q → A q := fun q h => by rw [← hAe]; exact Or.inr h
  have hS : va_S A s.heap s.heap [] := va_S.rf
  have hinX1 : ∀ w ∈ wsX10, w ∈ wsX1_comeUp := by decide +kernel
  have hl := lv_entry ([.ref (ad (16 + 2 * i)), .int p1, .int p2]) (n := 3) (Nat.le_of_ble_eq_true rfl)
  rw [lg_entry_eq]
  generalize (lg_sl ([.ref (ad (16 + 2 * i)), .int p1, .int p2]) ++ List.replicate (3 - (lg_sl ([.ref (ad (16 + 2 * i)), .int p1, .int p2])).length) Slot.unset).toArray = ls at hl ⊢
  have hl : lv_has ls 3 [(0, .ref (ad (16 + 2 * i))), (1, .int p1), (2, .int p2)] := hl
  obtain ⟨H, hH⟩ : ∃ H, H = s.heap := ⟨_, rfl⟩
  rw [← hH] at hP
  have hS : va_S A s.heap H [] := by rw [hH]; exact hS
  rw [← hH]
  generalize ([] : List Loc) = locs at hS ⊢
  refine lv_aload_n hx hb dX1_comeUp_0 rfl (lv_at hl 0 rfl) ?_
  refine lv_iconst (v := 0) hx hb dX1_comeUp_1 (by decide) ?_
  refine c_pT (i := i) (ty := .int) (v := 0) hx hb hts hinX1 hown hK hap hP hS hi 5 (by decide) (hts (.fieldLink RX1 25 "FeedbackQueues$Task" "level" "I") (by decide +kernel)) rfl (by decide +kernel) rfl rfl (cTf_5 ad S i _) (Nat.le_of_ble_eq_true rfl) dX1_comeUp_2 (fun H locs hP hS => ?_)
  obtain ⟨S1, eS1⟩ : ∃ z : Cs, z = sT S i 5 0 := ⟨_, rfl⟩
  rw [← eS1] at hP
  refine lv_aload_n hx hb dX1_comeUp_5 rfl (lv_at hl 0 rfl) ?_
  refine lv_iload_n hx hb dX1_comeUp_6 rfl (lv_at hl 2 rfl) ?_
  refine c_pT (i := i) (ty := .int) (v := p2) hx hb hts hinX1 hown hK hap hP hS hi 9 (by decide) (hts (.fieldLink RX1 37 "FeedbackQueues$Task" "shareLeft" "I") (by decide +kernel)) rfl (by decide +kernel) rfl rfl (cTf_9 ad S1 i _) (Nat.le_of_ble_eq_true rfl) dX1_comeUp_7 (fun H locs hP hS => ?_)
  obtain ⟨S2, eS2⟩ : ∃ z : Cs, z = sT S1 i 9 p2 := ⟨_, rfl⟩
  rw [← eS2] at hP
  refine lv_aload_n hx hb dX1_comeUp_10 rfl (lv_at hl 0 rfl) ?_
  refine lv_aload_n hx hb dX1_comeUp_11 rfl (lv_at hl 0 rfl) ?_
  refine c_gT (i := i) hx hb hts hinX1 hown hK hP hi 4 (by decide) (hts (.fieldLink RX1 22 "FeedbackQueues$Task" "state" "I") (by decide +kernel)) rfl dX1_comeUp_12 ?_
  refine lv_iconst (v := 2) hx hb dX1_comeUp_15 (by decide) ?_
  refine lv_icmp_ne (tgt := 23) hx hb dX1_comeUp_16 (by decide) (fun c_16 => ?_) (fun c_16 => ?_)
  · skip
    refine lv_aload_n hx hb dX1_comeUp_23 rfl (lv_at hl 0 rfl) ?_
    refine c_gT (i := i) hx hb hts hinX1 hown hK hP hi 8 (by decide) (hts (.fieldLink RX1 34 "FeedbackQueues$Task" "quantumLeft" "I") (by decide +kernel)) rfl dX1_comeUp_24 ?_
    refine lv_iload_n hx hb dX1_comeUp_27 rfl (lv_at hl 1 rfl) ?_
    refine va_mmin hx hb (hml.trans hl.1.symm) hown (hts (.methodLink RX1 71 Lib.Math.min.name) (by decide +kernel)) (hts (.static Lib.Math.min.name) (by decide +kernel)) (hts (.initialized "java/lang/Math") (by decide +kernel)) (hts (.code Lib.Math.min.name Lib.Math.min.code 2 (some .int)) (by decide +kernel)) (Nat.le_of_ble_eq_true rfl) (Nat.le_of_ble_eq_true rfl) (Nat.zero_le _) (Nat.zero_le _) dX1_comeUp_28 ?_
    refine c_pT (i := i) (ty := .int) (v := if p1 < (cT S2 i 8) then p1 else cT S2 i 8) hx hb hts hinX1 hown hK hap hP hS hi 8 (by decide) (hts (.fieldLink RX1 34 "FeedbackQueues$Task" "quantumLeft" "I") (by decide +kernel)) rfl (by decide +kernel) rfl rfl (cTf_8 ad S2 i _) (Nat.le_of_ble_eq_true rfl) dX1_comeUp_31 (fun H locs hP hS => ?_)
    obtain ⟨S3, eS3⟩ : ∃ z : Cs, z = sT S2 i 8 (if p1 < (cT S2 i 8) then p1 else cT S2 i 8) := ⟨_, rfl⟩
    rw [← eS3] at hP
    have hF : F_X1_comeUp S i p1 p2 = S3 := by subst eS3 eS2 eS1; simp only [F_X1_comeUp, if_neg c_16]
    rw [hF]
    exact c_vret hx hb hr hlocks hP hS dX1_comeUp_34 (fun _ h => h)
  · skip
    refine lv_iload_n hx hb dX1_comeUp_19 rfl (lv_at hl 1 rfl) ?_
    refine lv_goto (tgt := 31) hx hb dX1_comeUp_20 (by decide) ?_
    refine c_pT (i := i) (ty := .int) (v := p1) hx hb hts hinX1 hown hK hap hP hS hi 8 (by decide) (hts (.fieldLink RX1 34 "FeedbackQueues$Task" "quantumLeft" "I") (by decide +kernel)) rfl (by decide +kernel) rfl rfl (cTf_8 ad S2 i _) (Nat.le_of_ble_eq_true rfl) dX1_comeUp_31 (fun H locs hP hS => ?_)
    obtain ⟨S4, eS4⟩ : ∃ z : Cs, z = sT S2 i 8 p1 := ⟨_, rfl⟩
    rw [← eS4] at hP
    have hF : F_X1_comeUp S i p1 p2 = S4 := by subst eS4 eS2 eS1; simp only [F_X1_comeUp, if_pos c_16]
    rw [hF]
    exact c_vret hx hb hr hlocks hP hS dX1_comeUp_34 (fun _ h => h)
end
section
def F_X2_isLevel (S : Cs) (p1 : Int32) : Cs × Int32 :=
  if p1 < 0 then
    (S, 0)
  else
    if (cO S 3) ≤ p1 then
      (S, 0)
    else
      (S, 1)
def F_X2_isTask (S : Cs) (p1 : Int32) : Cs × Int32 :=
  if p1 < 0 then
    (S, 0)
  else
    if (cO S 4) ≤ p1 then
      (S, 0)
    else
      (S, 1)
def F_X2_endTask (S : Cs) (u : Nat) (p2 : Int32) : Cs :=
  let S1 : Cs := sT S u 4 4
  let S2 : Cs := sT S1 u 15 p2
  let S3 : Cs := sO S2 11 ((cO S2 11) + 1)
  S3
def F_X2_standAtEnd (S : Cs) (u : Nat) : Cs :=
  let S1 : Cs := sT S u 4 1
  let S2 : Cs := F_X0_addLast S1 (((cT S1 u 5)).toNatClampNeg) (cT S1 u 0)
  S2
def F_X2_goOnOrEnd (S : Cs) (u : Nat) : Cs :=
  let S1 : Cs := (F_X1_beginBurst S u).1
  if ((F_X1_beginBurst S u).2) = 0 then
    let S2 : Cs := F_X2_endTask S1 u (cO S1 6)
    S2
  else
    let S3 : Cs := F_X2_standAtEnd S1 u
    S3
def F_X2_blockOrEnd (S : Cs) (u : Nat) : Cs :=
  let S1 : Cs := (F_X1_beginBurst S u).1
  if ((F_X1_beginBurst S u).2) = 0 then
    let S2 : Cs := F_X2_endTask S1 u ((cO S1 6) + 1)
    S2
  else
    let S3 : Cs := sT S1 u 4 3
    S3
def F_X2_sendDown (S : Cs) (u : Nat) : Cs :=
  if ((cO S 3) - 1) ≤ (cT S u 5) then
    let S1 : Cs := sT S u 9 (cL S (((cT S u 5)).toNatClampNeg) 1)
    let S2 : Cs := F_X2_standAtEnd S1 u
    S2
  else
    let S3 : Cs := sT S u 5 ((cT S u 5) + 1)
    let S4 : Cs := sT S3 u 17 ((cT S3 u 17) + 1)
    let S5 : Cs := sT S4 u 9 (cL S4 (((cT S4 u 5)).toNatClampNeg) 1)
    let S6 : Cs := F_X2_standAtEnd S5 u
    S6
def F_X2_useTick (S : Cs) (u : Nat) : Cs :=
  let S1 : Cs := sT S u 11 ((cT S u 11) + 1)
  let S2 : Cs := sT S1 u 7 ((cT S1 u 7) - 1)
  let S3 : Cs := sT S2 u 8 ((cT S2 u 8) - 1)
  let S4 : Cs := sT S3 u 9 ((cT S3 u 9) - 1)
  if (cT S4 u 7) = 0 then
    let S9 : Cs := F_X2_blockOrEnd S4 u
    let S10 : Cs := sN S9 none
    S10
  else
    if 0 < (cT S4 u 9) then
      if (cT S4 u 8) = 0 then
        let S5 : Cs := F_X2_standAtEnd S4 u
        let S6 : Cs := sN S5 none
        S6
      else
        S4
    else
      let S7 : Cs := F_X2_sendDown S4 u
      let S8 : Cs := sN S7 none
      S8
def L_X2_isOneReadyAbove_2 (p1 : Int32) : Nat → Nat → Cs → Cs × Int32
  | 0, t, Z =>
    (Z, 0)
  | n + 1, t, Z =>
    if (cL Z t 3) ≤ 0 then
      L_X2_isOneReadyAbove_2 p1 n (t + 1) Z
    else
      (Z, 1)
def F_X2_isOneReadyAbove (S : Cs) (p1 : Int32) : Cs × Int32 :=
  L_X2_isOneReadyAbove_2 p1 ((p1).toNatClampNeg) 0 S
def B_X2_countWaiting_2   (t : Nat) (Z : Cs) : Cs :=
  if (cT Z t 4) = 1 then
    let S3 : Cs := sT Z t 12 ((cT Z t 12) + 1)
    S3
  else
    if (cT Z t 4) = 3 then
      let S1 : Cs := sT Z t 13 ((cT Z t 13) + 1)
      let S2 : Cs := sT S1 t 7 ((cT S1 t 7) - 1)
      S2
    else
      Z
def F_X2_countWaiting (S : Cs)  : Cs :=
  let S4 : Cs := itr B_X2_countWaiting_2 ((cO S 4).toNatClampNeg) 0 S
  S4
def B_X2_letArrive_2   (t : Nat) (Z : Cs) : Cs :=
  if (cT Z t 4) = 0 then
    if (cT Z t 1) = (cO Z 6) then
      let S1 : Cs := sT Z t 9 (cL Z 0 1)
      let S2 : Cs := F_X2_goOnOrEnd S1 t
      S2
    else
      Z
  else
    Z
def F_X2_letArrive (S : Cs)  : Cs :=
  let S3 : Cs := itr B_X2_letArrive_2 ((cO S 4).toNatClampNeg) 0 S
  S3
def B_X2_letComeBack_2   (t : Nat) (Z : Cs) : Cs :=
  if (cT Z t 4) = 3 then
    if (cT Z t 7) = 0 then
      let S1 : Cs := F_X2_goOnOrEnd Z t
      S1
    else
      Z
  else
    Z
def F_X2_letComeBack (S : Cs)  : Cs :=
  let S2 : Cs := itr B_X2_letComeBack_2 ((cO S 4).toNatClampNeg) 0 S
  S2
def B_X2_bringAllUp_19   (t : Nat) (Z : Cs) : Cs :=
  if (cT Z t 4) = 0 then
    Z
  else
    if (cT Z t 4) = 4 then
      Z
    else
      let S2 : Cs := F_X1_comeUp Z t (cL Z 0 0) (cL Z 0 1)
      S2
def B_X2_bringAllUp_77   (t : Nat) (Z : Cs) : Cs :=
  let S4 : Cs := F_X0_addAllOf Z 0 t
  let S5 : Cs := F_X0_clear S4 t
  S5
def F_X2_bringAllUp (S : Cs)  : Cs :=
  let S1 : Cs := sO S 10 ((cO S 10) + 1)
  let S3 : Cs := itr B_X2_bringAllUp_19 ((cO S1 4).toNatClampNeg) 0 S1
  let S6 : Cs := itr B_X2_bringAllUp_77 ((cO S3 3).toNatClampNeg - 1) 1 S3
  S6
def F_X2_makeWay (S : Cs)  : Cs :=
  if cN S = none then
    S
  else
    let S1 : Cs := (F_X2_isOneReadyAbove S (cT S (cI S) 5)).1
    if ((F_X2_isOneReadyAbove S (cT S (cI S) 5)).2) = 0 then
      S1
    else
      let S2 : Cs := sT S1 (cI S1) 4 1
      let S3 : Cs := sT S2 (cI S2) 10 1
      let S4 : Cs := sT S3 (cI S3) 18 ((cT S3 (cI S3) 18) + 1)
      let S5 : Cs := F_X0_addFirst S4 (((cT S4 (cI S4) 5)).toNatClampNeg) (cT S4 (cI S4) 0)
      let S6 : Cs := sN S5 none
      S6
def F_X2_switchTo (S : Cs) (u : Nat) : Cs :=
  let S1 : Cs := F_X1_beginRunning S u (cO S 6) (cL S (((cT S u 5)).toNatClampNeg) 0)
  if 400 ≤ (cO S1 8) then
    let S2 : Cs := sO S1 8 ((cO S1 8) + 1)
    let S3 : Cs := sN S2 (some u)
    S3
  else
    let S4 : Cs := sW S1 (((cO S1 8)).toNatClampNeg) ((16 * (cO S1 6)) + (cT S1 u 0))
    let S5 : Cs := sO S4 8 ((cO S4 8) + 1)
    let S6 : Cs := sN S5 (some u)
    S6
def L_X2_switchToFirst_2  : Nat → Nat → Cs → Cs
  | 0, t, Z =>
    Z
  | n + 1, t, Z =>
    let S1 : Cs := (F_X0_takeFirst Z t).1
    let S2 : Cs := (F_X2_isTask S1 ((F_X0_takeFirst Z t).2)).1
    if ((F_X2_isTask S1 ((F_X0_takeFirst Z t).2)).2) = 0 then
      L_X2_switchToFirst_2 n (t + 1) S2
    else
      let S3 : Cs := F_X2_switchTo S2 ((((F_X0_takeFirst Z t).2)).toNatClampNeg)
      S3
def F_X2_switchToFirst (S : Cs)  : Cs :=
  L_X2_switchToFirst_2 ((cO S 3).toNatClampNeg) 0 S
def G_X2_doTick_30 (Y : Cs)  : Cs :=
  let S1 : Cs := F_X2_letArrive Y
  let S2 : Cs := F_X2_letComeBack S1
  let S3 : Cs := F_X2_makeWay S2
  if cN S3 = none then
    let S4 : Cs := F_X2_switchToFirst S3
    let S5 : Cs := F_X2_countWaiting S4
    if cN S5 = none then
      let S6 : Cs := sO S5 9 ((cO S5 9) + 1)
      let S7 : Cs := sO S6 6 ((cO S6 6) + 1)
      S7
    else
      let S8 : Cs := F_X2_useTick S5 (cI S5)
      let S9 : Cs := sO S8 6 ((cO S8 6) + 1)
      S9
  else
    let S10 : Cs := F_X2_countWaiting S3
    if cN S10 = none then
      let S11 : Cs := sO S10 9 ((cO S10 9) + 1)
      let S12 : Cs := sO S11 6 ((cO S11 6) + 1)
      S12
    else
      let S13 : Cs := F_X2_useTick S10 (cI S10)
      let S14 : Cs := sO S13 6 ((cO S13 6) + 1)
      S14
def F_X2_doTick (S : Cs)  : Cs :=
  if (cO S 5) = 0 then
    G_X2_doTick_30 S 
  else
    if (cO S 6) ≤ 0 then
      G_X2_doTick_30 S 
    else
      if ((cO S 6) - (cO S 6) / (cO S 5) * (cO S 5)) = 0 then
        let S15 : Cs := F_X2_bringAllUp S
        G_X2_doTick_30 S15 
      else
        G_X2_doTick_30 S 
def B_X2_startOver_32   (t : Nat) (Z : Cs) : Cs :=
  let S7 : Cs := F_X0_clear Z t
  S7
def B_X2_startOver_55   (t : Nat) (Z : Cs) : Cs :=
  let S9 : Cs := F_X1_startOver Z t
  S9
def F_X2_startOver (S : Cs)  : Cs :=
  let S1 : Cs := sO S 6 0
  let S2 : Cs := sN S1 none
  let S3 : Cs := sO S2 8 0
  let S4 : Cs := sO S3 9 0
  let S5 : Cs := sO S4 10 0
  let S6 : Cs := sO S5 11 0
  let S8 : Cs := itr B_X2_startOver_32 6 0 S6
  let S10 : Cs := itr B_X2_startOver_55 16 0 S8
  S10
end
section
/-! what holds of the class's state at every call: N tasks, L levels, at most b switches -/
def okC (N L b : Nat) (S : Cs) : Prop := cO S 4 = nI N ∧ cO S 3 = nI L ∧ N ≤ 16 ∧ 1 ≤ L ∧ L ≤ 6 ∧ (∀ i, i < 6 → ub 16 (cL S i 3)) ∧ (∀ i, i < 16 → ∃ v, v < L ∧ cT S i 5 = nI v) ∧ (∀ i, i < 16 → ub 12 (cT S i 3)) ∧ (∀ i, i < 16 → ub 12 (cT S i 6)) ∧ (∀ i, cN S = some i → i < N) ∧ ub b (cO S 8)
theorem itr_ind {α : Type} {P : α → Prop} {f : Nat → α → α} : ∀ (n t : Nat) (z : α), P z → (∀ k z, t ≤ k → k < t + n → P z → P (f k z)) → P (itr f n t z) := by
  intro n
  induction n with
  | zero => intro t z h _; exact h
  | succ n ih =>
    intro t z h hs
    exact ih (t + 1) (f t z) (hs t z (Nat.le_refl t) (by omega) h) (fun k z h1 h2 => hs k z (by omega) (by omega))
theorem itd_ind {α : Type} {P : α → Prop} {f : Nat → α → α} : ∀ (n : Nat) (z : α), P z → (∀ k z, k < n → P z → P (f k z)) → P (itd f n z) := by
  intro n
  induction n with
  | zero => intro z h _; exact h
  | succ n ih =>
    intro z h hs
    exact ih (f n z) (hs n z (by omega) h) (fun k z h1 => hs k z (by omega))
section OK
variable {N L b : Nat} {S : Cs}
theorem okC_N (h : okC N L b S) : (cO S 4).toNatClampNeg = N := by rw [h.1]; have := h.2.2.1; exact nI_clamp (by omega)
theorem okC_L (h : okC N L b S) : (cO S 3).toNatClampNeg = L := by rw [h.2.1]; have := h.2.2.2.2.1; exact nI_clamp (by omega)
theorem okC_sz (h : okC N L b S) {i : Nat} (hi : i < 6) : ub 16 (cL S i 3) := h.2.2.2.2.2.1 i hi
theorem okC_lv (h : okC N L b S) {u : Nat} (hu : u < 16) : ∃ v, v < L ∧ cT S u 5 = nI v := h.2.2.2.2.2.2.1 u hu
theorem okC_b (h : okC N L b S) {u : Nat} (hu : u < 16) : ub 12 (cT S u 3) := h.2.2.2.2.2.2.2.1 u hu
theorem okC_g (h : okC N L b S) {u : Nat} (hu : u < 16) : ub 12 (cT S u 6) := h.2.2.2.2.2.2.2.2.1 u hu
theorem okC_u6 (h : okC N L b S) {u : Nat} (hu : u < 16) : ub 6 (cT S u 5) := by
  obtain ⟨v, h1, h2⟩ := okC_lv h hu
  have := h.2.2.2.2.1
  exact ⟨v, by omega, h2⟩
theorem okC_ix (h : okC N L b S) {u : Nat} (hu : u < 16) : ix (cT S u 5) (cT S u 5).toNatClampNeg 6 := by
  obtain ⟨v, h1, h2⟩ := okC_lv h hu
  have := h.2.2.2.2.1
  rw [h2, nI_clamp (by omega)]
  exact ix_nI (by omega) (by omega)
theorem okC_onN (h : okC N L b S) (hn : ¬ cN S = none) : cI S < N := by
  have h1 := h.2.2.2.2.2.2.2.2.2.1
  unfold cI
  cases hq : cN S with
  | none => exact absurd hq hn
  | some i => exact h1 i hq
theorem okC_on (h : okC N L b S) (hn : ¬ cN S = none) : cI S < 16 := Nat.lt_of_lt_of_le (okC_onN h hn) h.2.2.1
theorem okC_w (h : okC N L b S) (hb : b < 2 ^ 30) (hc : ¬ 400 ≤ cO S 8) : ix (cO S 8) (cO S 8).toNatClampNeg 400 :=
  ix_nge h.2.2.2.2.2.2.2.2.2.2 (by omega) (by decide) (by omega) hc
theorem okC_dn (h : okC N L b S) {u : Nat} (hu : u < 16) (hc : ¬ cO S 3 - 1 ≤ cT S u 5) : ∃ v, v < L ∧ cT S u 5 + 1 = nI v := by
  obtain ⟨v, h1, h2⟩ := okC_lv h hu
  have h6 := h.2.2.2.2.1
  have hl := h.2.2.2.1
  obtain ⟨k, rfl⟩ : ∃ k, L = k + 1 := ⟨L - 1, by omega⟩
  rw [h2, h.2.1, nI_pred] at hc
  rw [h2, nI_1]
  refine ⟨v + 1, ?_, rfl⟩
  rcases Nat.lt_or_ge v k with q | q
  · omega
  · exact absurd (nI_le q (by omega)) hc
theorem okC_sO (h : okC N L b S) {j : Nat} {v : Int32} (hj : j ≠ 3 ∧ j ≠ 4 ∧ j ≠ 8) : okC N L b (sO S j v) := by
  obtain ⟨h1, h2, h3, h4, h5, h6, h7, h8, h9, h10, h11⟩ := h
  refine ⟨?_, ?_, h3, h4, h5, h6, h7, h8, h9, h10, ?_⟩
  · rw [cO_sO, if_neg (Ne.symm hj.2.1)]; exact h1
  · rw [cO_sO, if_neg (Ne.symm hj.1)]; exact h2
  · rw [cO_sO, if_neg (Ne.symm hj.2.2)]; exact h11
theorem okC_sL (h : okC N L b S) {i j : Nat} {v : Int32} (hj : j ≠ 3) : okC N L b (sL S i j v) := by
  obtain ⟨h1, h2, h3, h4, h5, h6, h7, h8, h9, h10, h11⟩ := h
  refine ⟨h1, h2, h3, h4, h5, fun a ha => ?_, h7, h8, h9, h10, h11⟩
  rw [cL_sL, if_neg (fun q => hj q.1.symm)]; exact h6 a ha
theorem okC_sL3 (h : okC N L b S) {i : Nat} {v : Int32} (hv : ub 16 v) : okC N L b (sL S i 3 v) := by
  obtain ⟨h1, h2, h3, h4, h5, h6, h7, h8, h9, h10, h11⟩ := h
  refine ⟨h1, h2, h3, h4, h5, fun a ha => ?_, h7, h8, h9, h10, h11⟩
  rw [cL_sL]
  by_cases q : (3 = 3 ∧ a = i)
  · rw [if_pos q]; exact hv
  · rw [if_neg q]; exact h6 a ha
theorem okC_sT (h : okC N L b S) {i j : Nat} {v : Int32} (hj : j ≠ 3 ∧ j ≠ 5 ∧ j ≠ 6) : okC N L b (sT S i j v) := by
  obtain ⟨h1, h2, h3, h4, h5, h6, h7, h8, h9, h10, h11⟩ := h
  refine ⟨h1, h2, h3, h4, h5, h6, fun a ha => ?_, fun a ha => ?_, fun a ha => ?_, h10, h11⟩
  · rw [cT_sT, if_neg (fun q => hj.2.1 q.1.symm)]; exact h7 a ha
  · rw [cT_sT, if_neg (fun q => hj.1 q.1.symm)]; exact h8 a ha
  · rw [cT_sT, if_neg (fun q => hj.2.2 q.1.symm)]; exact h9 a ha
theorem okC_sT5 (h : okC N L b S) {i : Nat} {x : Int32} (hx : ∃ v, v < L ∧ x = nI v) : okC N L b (sT S i 5 x) := by
  obtain ⟨h1, h2, h3, h4, h5, h6, h7, h8, h9, h10, h11⟩ := h
  refine ⟨h1, h2, h3, h4, h5, h6, fun a ha => ?_, h8, h9, h10, h11⟩
  rw [cT_sT]
  by_cases q : (5 = 5 ∧ a = i)
  · rw [if_pos q]; exact hx
  · rw [if_neg q]; exact h7 a ha
theorem okC_sT6 (h : okC N L b S) {i : Nat} {x : Int32} (hx : ub 12 x) : okC N L b (sT S i 6 x) := by
  obtain ⟨h1, h2, h3, h4, h5, h6, h7, h8, h9, h10, h11⟩ := h
  refine ⟨h1, h2, h3, h4, h5, h6, h7, h8, fun a ha => ?_, h10, h11⟩
  rw [cT_sT]
  by_cases q : (6 = 6 ∧ a = i)
  · rw [if_pos q]; exact hx
  · rw [if_neg q]; exact h9 a ha
theorem okC_sT3 (h : okC N L b S) {i : Nat} {x : Int32} (hx : ub 12 x) : okC N L b (sT S i 3 x) := by
  obtain ⟨h1, h2, h3, h4, h5, h6, h7, h8, h9, h10, h11⟩ := h
  refine ⟨h1, h2, h3, h4, h5, h6, h7, fun a ha => ?_, h9, h10, h11⟩
  rw [cT_sT]
  by_cases q : (3 = 3 ∧ a = i)
  · rw [if_pos q]; exact hx
  · rw [if_neg q]; exact h8 a ha
theorem okC_sQ (h : okC N L b S) {i j : Nat} {v : Int32} : okC N L b (sQ S i j v) := h
theorem okC_sB (h : okC N L b S) {i j : Nat} {v : Int32} : okC N L b (sB S i j v) := h
theorem okC_sW (h : okC N L b S) {j : Nat} {v : Int32} : okC N L b (sW S j v) := h
theorem okC_sN0 (h : okC N L b S) : okC N L b (sN S none) := by
  obtain ⟨h1, h2, h3, h4, h5, h6, h7, h8, h9, h10, h11⟩ := h
  exact ⟨h1, h2, h3, h4, h5, h6, h7, h8, h9, (fun _ q => nomatch q), h11⟩
theorem okC_sN1 (h : okC N L b S) {u : Nat} (hu : u < N) : okC N L b (sN S (some u)) := by
  obtain ⟨h1, h2, h3, h4, h5, h6, h7, h8, h9, h10, h11⟩ := h
  exact ⟨h1, h2, h3, h4, h5, h6, h7, h8, h9, (fun i q => by cases q; exact hu), h11⟩
theorem okC_mono (h : okC N L b S) {b2 : Nat} (hb : b ≤ b2) : okC N L b2 S := by
  obtain ⟨h1, h2, h3, h4, h5, h6, h7, h8, h9, h10, z, h11, h12⟩ := h
  exact ⟨h1, h2, h3, h4, h5, h6, h7, h8, h9, h10, z, by omega, h12⟩
theorem ok_X0_clear (h : okC N L b S) {i : Nat} (hi : i < 6) : okC N L b (F_X0_clear S i) := okC_sL3 h ⟨0, by omega, by decide⟩
theorem ok_X0_addLast (h : okC N L b S) {i : Nat} (hi : i < 6) {r : Int32} : okC N L b (F_X0_addLast S i r) := by
  unfold F_X0_addLast
  by_cases hc : 16 ≤ cL S i 3
  · rw [if_pos hc]; exact h
  · rw [if_neg hc]
    exact okC_sL3 (okC_sQ h) (ub_inc (okC_sz h hi) (by omega) (by decide) (by omega) hc)
theorem ok_X0_addFirst (h : okC N L b S) {i : Nat} (hi : i < 6) {r : Int32} : okC N L b (F_X0_addFirst S i r) := by
  unfold F_X0_addFirst
  by_cases hc : 16 ≤ cL S i 3
  · rw [if_pos hc]; exact h
  · rw [if_neg hc]
    have h2 : okC N L b (itd (B_X0_addFirst_14 i r) (cL S i 3).toNatClampNeg S) ∧ cL (itd (B_X0_addFirst_14 i r) (cL S i 3).toNatClampNeg S) i 3 = cL S i 3 :=
      itd_ind (P := fun Z => okC N L b Z ∧ cL Z i 3 = cL S i 3) _ _ ⟨h, rfl⟩ (fun k Z _ hZ => ⟨hZ.1, hZ.2⟩)
    refine okC_sL3 (okC_sQ h2.1) ?_
    rw [cL_sQ, h2.2]
    exact ub_inc (okC_sz h hi) (by omega) (by decide) (by omega) hc
theorem ok_X0_takeFirst (h : okC N L b S) {i : Nat} (hi : i < 6) : okC N L b (F_X0_takeFirst S i).1 := by
  unfold F_X0_takeFirst
  by_cases hc : cL S i 3 = 0
  · rw [if_pos hc]; exact h
  · rw [if_neg hc]
    refine itr_ind (P := okC N L b) _ _ _ (okC_sL3 h ?_) (fun k Z _ _ hZ => hZ)
    obtain ⟨z, h1, h2⟩ := ub_dec (okC_sz h hi) hc
    exact ⟨z, by omega, h2⟩
theorem ok_X0_addAllOf (h : okC N L b S) {i j : Nat} (hi : i < 6) (_ : j < 6) : okC N L b (F_X0_addAllOf S i j) :=
  itr_ind (P := okC N L b) _ _ _ h (fun k Z _ _ hZ => ok_X0_addLast hZ hi)
theorem ok_X1_beginBurst (h : okC N L b S) {i : Nat} (hi : i < 16) : okC N L b (F_X1_beginBurst S i).1 := by
  unfold F_X1_beginBurst
  by_cases hc : cT S i 6 < cT S i 3
  · rw [if_pos hc]
    refine okC_sT6 (okC_sT h (by decide)) ?_
    have h1 := (ix_lt2 (okC_g h hi) (okC_b h hi) (by omega) (by omega) hc).2.2
    rw [cT_sT, if_neg (by omega), ub_nI (okC_g h hi) (by omega), nI_1]
    exact ⟨_, h1, rfl⟩
  · rw [if_neg hc]; exact h
theorem ok_X1_beginRunning (h : okC N L b S) {i : Nat} (_ : i < 16) {x y : Int32} : okC N L b (F_X1_beginRunning S i x y) := by
  unfold F_X1_beginRunning
  dsimp only
  repeat' split
  all_goals repeat (refine okC_sT ?_ (by decide))
  all_goals exact h
theorem ok_X1_comeUp (h : okC N L b S) {i : Nat} (_ : i < 16) {x y : Int32} : okC N L b (F_X1_comeUp S i x y) := by
  unfold F_X1_comeUp
  dsimp only
  have h0 : okC N L b (sT S i 5 0) := okC_sT5 h ⟨0, h.2.2.2.1, by decide⟩
  split
  · exact okC_sT (okC_sT h0 (by decide)) (by decide)
  · exact okC_sT (okC_sT h0 (by decide)) (by decide)
theorem ok_X2_endTask (h : okC N L b S) {u : Nat} (_ : u < 16) {x : Int32} : okC N L b (F_X2_endTask S u x) :=
  okC_sO (okC_sT (okC_sT h (by decide)) (by decide)) (by decide)
theorem ok_X2_standAtEnd (h : okC N L b S) {u : Nat} (hu : u < 16) : okC N L b (F_X2_standAtEnd S u) := by
  have h1 : okC N L b (sT S u 4 1) := okC_sT h (by decide)
  exact ok_X0_addLast h1 (okC_ix h1 hu).2.2
theorem ok_X2_goOnOrEnd (h : okC N L b S) {u : Nat} (hu : u < 16) : okC N L b (F_X2_goOnOrEnd S u) := by
  unfold F_X2_goOnOrEnd
  dsimp only
  split
  · exact ok_X2_endTask (ok_X1_beginBurst h hu) hu
  · exact ok_X2_standAtEnd (ok_X1_beginBurst h hu) hu
theorem ok_X2_blockOrEnd (h : okC N L b S) {u : Nat} (hu : u < 16) : okC N L b (F_X2_blockOrEnd S u) := by
  unfold F_X2_blockOrEnd
  dsimp only
  split
  · exact ok_X2_endTask (ok_X1_beginBurst h hu) hu
  · exact okC_sT (ok_X1_beginBurst h hu) (by decide)
theorem ok_X2_sendDown (h : okC N L b S) {u : Nat} (hu : u < 16) : okC N L b (F_X2_sendDown S u) := by
  unfold F_X2_sendDown
  dsimp only
  split
  · exact ok_X2_standAtEnd (okC_sT h (by decide)) hu
  · next hc => exact ok_X2_standAtEnd (okC_sT (okC_sT (okC_sT5 h (okC_dn h hu hc)) (by decide)) (by decide)) hu
theorem ok_X2_useTick (h : okC N L b S) {u : Nat} (hu : u < 16) : okC N L b (F_X2_useTick S u) := by
  unfold F_X2_useTick
  dsimp only
  have h4 : ∀ x y z w : Int32, okC N L b (sT (sT (sT (sT S u 11 x) u 7 y) u 8 z) u 9 w) := fun x y z w => okC_sT (okC_sT (okC_sT (okC_sT h (by decide)) (by decide)) (by decide)) (by decide)
  repeat' split
  · exact okC_sN0 (ok_X2_blockOrEnd (h4 _ _ _ _) hu)
  · exact okC_sN0 (ok_X2_standAtEnd (h4 _ _ _ _) hu)
  · exact h4 _ _ _ _
  · exact okC_sN0 (ok_X2_sendDown (h4 _ _ _ _) hu)
theorem isOne_L {p1 : Int32} : ∀ (n t : Nat) (Z : Cs), (L_X2_isOneReadyAbove_2 p1 n t Z).1 = Z := by
  intro n
  induction n with
  | zero => intro t Z; rfl
  | succ n ih =>
    intro t Z
    unfold L_X2_isOneReadyAbove_2
    split
    · exact ih (t + 1) Z
    · rfl
theorem isOne_fst {S : Cs} {p1 : Int32} : (F_X2_isOneReadyAbove S p1).1 = S := isOne_L _ _ _
theorem ok_X2_isOneReadyAbove (h : okC N L b S) {p1 : Int32} : okC N L b (F_X2_isOneReadyAbove S p1).1 := by rw [isOne_fst]; exact h
theorem isTask_fst {S : Cs} {p1 : Int32} : (F_X2_isTask S p1).1 = S := by
  unfold F_X2_isTask
  repeat' split
  all_goals rfl
theorem ok_X2_isTask (h : okC N L b S) {p1 : Int32} : okC N L b (F_X2_isTask S p1).1 := by rw [isTask_fst]; exact h
theorem isT_ixN (h : okC N L b S) {x : Int32} (hc : ¬ (F_X2_isTask S x).2 = 0) : ix x x.toNatClampNeg N := by
  unfold F_X2_isTask at hc
  by_cases c1 : x < 0
  · rw [if_pos c1] at hc; exact absurd rfl hc
  · rw [if_neg c1] at hc
    by_cases c2 : cO S 4 ≤ x
    · rw [if_pos c2] at hc; exact absurd rfl hc
    · have := h.2.2.1
      exact ix_cmp c1 ⟨N, Nat.le_refl N, h.1⟩ (Nat.le_refl N) (by omega) c2
theorem isT_N (h : okC N L b S) {x : Int32} (hc : ¬ (F_X2_isTask S x).2 = 0) : x.toNatClampNeg < N := (isT_ixN h hc).2.2
theorem isT_ix (h : okC N L b S) {x : Int32} (hc : ¬ (F_X2_isTask S x).2 = 0) : ix x x.toNatClampNeg 16 := by
  obtain ⟨h1, h2, h3⟩ := isT_ixN h hc
  exact ⟨h1, h2, Nat.lt_of_lt_of_le h3 h.2.2.1⟩
theorem ok_B_countWaiting (h : okC N L b S) {t : Nat} (_ : t < 16) : okC N L b (B_X2_countWaiting_2 t S) := by
  unfold B_X2_countWaiting_2
  dsimp only
  repeat' split
  · exact okC_sT h (by decide)
  · exact okC_sT (okC_sT h (by decide)) (by decide)
  · exact h
theorem ok_B_letArrive (h : okC N L b S) {t : Nat} (ht : t < 16) : okC N L b (B_X2_letArrive_2 t S) := by
  unfold B_X2_letArrive_2
  dsimp only
  repeat' split
  · exact ok_X2_goOnOrEnd (okC_sT h (by decide)) ht
  · exact h
  · exact h
theorem ok_B_letComeBack (h : okC N L b S) {t : Nat} (ht : t < 16) : okC N L b (B_X2_letComeBack_2 t S) := by
  unfold B_X2_letComeBack_2
  dsimp only
  repeat' split
  · exact ok_X2_goOnOrEnd h ht
  · exact h
  · exact h
theorem ok_B_bringAllUp_19 (h : okC N L b S) {t : Nat} (ht : t < 16) : okC N L b (B_X2_bringAllUp_19 t S) := by
  unfold B_X2_bringAllUp_19
  dsimp only
  repeat' split
  · exact h
  · exact h
  · exact ok_X1_comeUp h ht
theorem ok_B_bringAllUp_77 (h : okC N L b S) {t : Nat} (_ : 1 ≤ t) (ht : t < 6) : okC N L b (B_X2_bringAllUp_77 t S) :=
  ok_X0_clear (ok_X0_addAllOf h (by omega) ht) ht
theorem ok_itr_19 (h : okC N L b S) {n : Nat} (hn : n ≤ 16) : okC N L b (itr B_X2_bringAllUp_19 n 0 S) := itr_ind (P := okC N L b) _ _ _ h (fun k Z _ hk hZ => ok_B_bringAllUp_19 hZ (by omega))
theorem ok_X2_countWaiting (h : okC N L b S) : okC N L b (F_X2_countWaiting S) := by
  have h1 := okC_N h
  have h2 := h.2.2.1
  exact itr_ind (P := okC N L b) _ _ _ h (fun k Z _ hk hZ => ok_B_countWaiting hZ (by omega))
theorem ok_X2_letArrive (h : okC N L b S) : okC N L b (F_X2_letArrive S) := by
  have h1 := okC_N h
  have h2 := h.2.2.1
  exact itr_ind (P := okC N L b) _ _ _ h (fun k Z _ hk hZ => ok_B_letArrive hZ (by omega))
theorem ok_X2_letComeBack (h : okC N L b S) : okC N L b (F_X2_letComeBack S) := by
  have h1 := okC_N h
  have h2 := h.2.2.1
  exact itr_ind (P := okC N L b) _ _ _ h (fun k Z _ hk hZ => ok_B_letComeBack hZ (by omega))
theorem ok_X2_bringAllUp (h : okC N L b S) : okC N L b (F_X2_bringAllUp S) := by
  unfold F_X2_bringAllUp
  dsimp only
  have h0 : okC N L b (sO S 10 (cO S 10 + 1)) := okC_sO h (by decide)
  have h1 := okC_N h0
  have h2 := h.2.2.1
  have h3 := ok_itr_19 h0 (n := (cO (sO S 10 (cO S 10 + 1)) 4).toNatClampNeg) (by omega)
  have h4 := okC_L h3
  have h5 := h.2.2.2.2.1
  exact itr_ind (P := okC N L b) _ _ _ h3 (fun k Z hk1 hk hZ => ok_B_bringAllUp_77 hZ hk1 (by omega))
theorem ok_X2_makeWay (h : okC N L b S) : okC N L b (F_X2_makeWay S) := by
  unfold F_X2_makeWay
  split
  · exact h
  · next hc =>
    dsimp only
    rw [isOne_fst]
    split
    · exact h
    · have h1 := okC_on h hc
      have h4 : ∀ x y z : Int32, okC N L b (sT (sT (sT S (cI S) 4 x) (cI S) 10 y) (cI S) 18 z) := fun x y z => okC_sT (okC_sT (okC_sT h (by decide)) (by decide)) (by decide)
      exact okC_sN0 (ok_X0_addFirst (h4 _ _ _) (okC_ix (h4 _ _ _) h1).2.2)
theorem okC_sO8 (h : okC N L b S) (hb : b < 2 ^ 30) : okC N L (b + 1) (sO S 8 (cO S 8 + 1)) := by
  obtain ⟨h1, h2, h3, h4, h5, h6, h7, h8, h9, h10, z, h11, h12⟩ := h
  refine ⟨h1, h2, h3, h4, h5, h6, h7, h8, h9, h10, z + 1, by omega, ?_⟩
  rw [cO_sO, if_pos rfl, h12, nI_1]
theorem ok_X2_switchTo (h : okC N L b S) (hb : b < 2 ^ 30) {u : Nat} (hu : u < 16) (huN : u < N) : okC N L (b + 1) (F_X2_switchTo S u) := by
  unfold F_X2_switchTo
  dsimp only
  split
  · exact okC_sN1 (okC_sO8 (ok_X1_beginRunning h hu) hb) huN
  · exact okC_sN1 (okC_sO8 (okC_sW (ok_X1_beginRunning h hu)) hb) huN
theorem ok_L_switchToFirst (hb : b < 2 ^ 30) : ∀ (n t : Nat) (Z : Cs), okC N L b Z → t + n ≤ 6 → okC N L (b + 1) (L_X2_switchToFirst_2 n t Z) := by
  intro n
  induction n with
  | zero => intro t Z h _; exact okC_mono h (by omega)
  | succ n ih =>
    intro t Z h ht
    unfold L_X2_switchToFirst_2
    dsimp only
    have h1 := ok_X0_takeFirst h (i := t) (by omega)
    split
    · exact ih (t + 1) _ (ok_X2_isTask h1) (by omega)
    · next hc => exact ok_X2_switchTo (ok_X2_isTask h1) hb (isT_ix h1 hc).2.2 (isT_N h1 hc)
theorem ok_X2_switchToFirst (h : okC N L b S) (hb : b < 2 ^ 30) : okC N L (b + 1) (F_X2_switchToFirst S) := by
  have h1 := okC_L h
  have h2 := h.2.2.2.2.1
  exact ok_L_switchToFirst hb _ _ _ h (by omega)
theorem ok_G_doTick (h : okC N L b S) (hb : b < 2 ^ 30) : okC N L (b + 1) (G_X2_doTick_30 S) := by
  unfold G_X2_doTick_30
  dsimp only
  have h3 := ok_X2_makeWay (ok_X2_letComeBack (ok_X2_letArrive h))
  split
  · have h5 := ok_X2_countWaiting (ok_X2_switchToFirst h3 hb)
    split
    · exact okC_sO (okC_sO h5 (by decide)) (by decide)
    · next hc => exact okC_sO (ok_X2_useTick h5 (okC_on h5 hc)) (by decide)
  · have h5 := okC_mono (ok_X2_countWaiting h3) (b2 := b + 1) (by omega)
    split
    · exact okC_sO (okC_sO h5 (by decide)) (by decide)
    · next hc => exact okC_sO (ok_X2_useTick h5 (okC_on h5 hc)) (by decide)
theorem ok_X2_doTick (h : okC N L b S) (hb : b < 2 ^ 30) : okC N L (b + 1) (F_X2_doTick S) := by
  unfold F_X2_doTick
  dsimp only
  repeat' split
  · exact ok_G_doTick h hb
  · exact ok_G_doTick h hb
  · exact ok_G_doTick (ok_X2_bringAllUp h) hb
  · exact ok_G_doTick h hb
end OK
end
section
set_option maxHeartbeats 4000000 in
set_option maxRecDepth 100000 in
theorem k_X2_isLevel (l : Launch) (D : va_G) (cy : Nat → ClassId) (ad : Nat → Nat) (S : Cs) (p1 : Int32)   : cMi l yX2_isLevel wsX2_isLevel { frames := 0, cells := 0, slots := 0, locals := 0 } D cy ad [.ref (ad 0), .int p1] S (F_X2_isLevel S p1).1 (F_X2_isLevel S p1).2 := by
  intro sz
  refine Met.ofW (cc := cX2_isLevel) (maxL := 2) (ret := (some .boolean)) (by decide) rfl ?_
  intro p e s m args below meth c s₁ B hml hv
  obtain ⟨rfl, hsz, hP, hK, hap0, hN⟩ := hv
  have hx := B.exec
  have hb := B.bytes
  have hr := B.returns
  have hts := atoms_spec (ws := wsX2_isLevel) B.pre
  have hown : s.vm.findClass RX2 = some m.cls := findClass_of_methodNamed B.named
  have hlocks := B.notSynchronized
  subst hsz
  have hap := gw_self (sz := s.heap.size) hap0
  generalize hAe : gA 48 ad s.heap.size = A at hap ⊢
  have hA : ∀ q : Nat, s.heap.size ≤ q → A q := fun q h => by rw [← hAe]; exact Or.inr h
  have hS : va_S A s.heap s.heap [] := va_S.rf
  have hinX2 : ∀ w ∈ wsX20, w ∈ wsX2_isLevel := by decide +kernel
  have hl := lv_entry ([.ref (ad 0), .int p1]) (n := 2) (Nat.le_of_ble_eq_true rfl)
  rw [lg_entry_eq]
  generalize (lg_sl ([.ref (ad 0), .int p1]) ++ List.replicate (2 - (lg_sl ([.ref (ad 0), .int p1])).length) Slot.unset).toArray = ls at hl ⊢
  have hl : lv_has ls 2 [(0, .ref (ad 0)), (1, .int p1)] := hl
  obtain ⟨H, hH⟩ : ∃ H, H = s.heap := ⟨_, rfl⟩
  rw [← hH] at hP
  have hS : va_S A s.heap H [] := by rw [hH]; exact hS
  rw [← hH]
  generalize ([] : List Loc) = locs at hS ⊢
  refine lv_iload_n hx hb dX2_isLevel_0 rfl (lv_at hl 1 rfl) ?_
  refine lv_if_lt (tgt := 16) hx hb dX2_isLevel_1 (by decide) (fun c_1 => ?_) (fun c_1 => ?_)
  · skip
    refine lv_iconst (v := 0) hx hb dX2_isLevel_16 (by decide) ?_
    have hF : F_X2_isLevel S p1 = (S, 0) := by simp only [F_X2_isLevel, if_pos c_1]
    rw [hF]
    exact c_zret hx hb hr hlocks narrow_b0 hP hS dX2_isLevel_17 (fun _ h => h)
  · skip
    refine lv_iload_n hx hb dX2_isLevel_4 rfl (lv_at hl 1 rfl) ?_
    refine lv_aload_n hx hb dX2_isLevel_5 rfl (lv_at hl 0 rfl) ?_
    refine c_gO hx hb hts hinX2 hown hK hP 3 (by decide) (hts (.fieldLink RX2 25 "FeedbackQueues" "levelCount" "I") (by decide +kernel)) rfl dX2_isLevel_6 ?_
    refine lv_icmp_ge (tgt := 16) hx hb dX2_isLevel_9 (by decide) (fun c_9 => ?_) (fun c_9 => ?_)
    · skip
      refine lv_iconst (v := 0) hx hb dX2_isLevel_16 (by decide) ?_
      have hF : F_X2_isLevel S p1 = (S, 0) := by simp only [F_X2_isLevel, if_neg c_1, if_pos c_9]
      rw [hF]
      exact c_zret hx hb hr hlocks narrow_b0 hP hS dX2_isLevel_17 (fun _ h => h)
    · skip
      refine lv_iconst (v := 1) hx hb dX2_isLevel_12 (by decide) ?_
      refine lv_goto (tgt := 17) hx hb dX2_isLevel_13 (by decide) ?_
      have hF : F_X2_isLevel S p1 = (S, 1) := by simp only [F_X2_isLevel, if_neg c_1, if_neg c_9]
      rw [hF]
      exact c_zret hx hb hr hlocks narrow_b1 hP hS dX2_isLevel_17 (fun _ h => h)
set_option maxHeartbeats 4000000 in
set_option maxRecDepth 100000 in
theorem k_X2_isTask (l : Launch) (D : va_G) (cy : Nat → ClassId) (ad : Nat → Nat) (S : Cs) (p1 : Int32)   : cMi l yX2_isTask wsX2_isTask { frames := 0, cells := 0, slots := 0, locals := 0 } D cy ad [.ref (ad 0), .int p1] S (F_X2_isTask S p1).1 (F_X2_isTask S p1).2 := by
  intro sz
  refine Met.ofW (cc := cX2_isTask) (maxL := 2) (ret := (some .boolean)) (by decide) rfl ?_
  intro p e s m args below meth c s₁ B hml hv
  obtain ⟨rfl, hsz, hP, hK, hap0, hN⟩ := hv
  have hx := B.exec
  have hb := B.bytes
  have hr := B.returns
  have hts := atoms_spec (ws := wsX2_isTask) B.pre
  have hown : s.vm.findClass RX2 = some m.cls := findClass_of_methodNamed B.named
  have hlocks := B.notSynchronized
  subst hsz
  have hap := gw_self (sz := s.heap.size) hap0
  generalize hAe : gA 48 ad s.heap.size = A at hap ⊢
  have hA : ∀ q : Nat, s.heap.size ≤ q → A q := fun q h => by rw [← hAe]; exact Or.inr h
  have hS : va_S A s.heap s.heap [] := va_S.rf
  have hinX2 : ∀ w ∈ wsX20, w ∈ wsX2_isTask := by decide +kernel
  have hl := lv_entry ([.ref (ad 0), .int p1]) (n := 2) (Nat.le_of_ble_eq_true rfl)
  rw [lg_entry_eq]
  generalize (lg_sl ([.ref (ad 0), .int p1]) ++ List.replicate (2 - (lg_sl ([.ref (ad 0), .int p1])).length) Slot.unset).toArray = ls at hl ⊢
  have hl : lv_has ls 2 [(0, .ref (ad 0)), (1, .int p1)] := hl
  obtain ⟨H, hH⟩ : ∃ H, H = s.heap := ⟨_, rfl⟩
  rw [← hH] at hP
  have hS : va_S A s.heap H [] := by rw [hH]; exact hS
  rw [← hH]
  generalize ([] : List Loc) = locs at hS ⊢
  refine lv_iload_n hx hb dX2_isTask_0 rfl (lv_at hl 1 rfl) ?_
  refine lv_if_lt (tgt := 16) hx hb dX2_isTask_1 (by decide) (fun c_1 => ?_) (fun c_1 => ?_)
  · skip
    refine lv_iconst (v := 0) hx hb dX2_isTask_16 (by decide) ?_
    have hF : F_X2_isTask S p1 = (S, 0) := by simp only [F_X2_isTask, if_pos c_1]
    rw [hF]
    exact c_zret hx hb hr hlocks narrow_b0 hP hS dX2_isTask_17 (fun _ h => h)
  · skip
    refine lv_iload_n hx hb dX2_isTask_4 rfl (lv_at hl 1 rfl) ?_
    refine lv_aload_n hx hb dX2_isTask_5 rfl (lv_at hl 0 rfl) ?_
    refine c_gO hx hb hts hinX2 hown hK hP 4 (by decide) (hts (.fieldLink RX2 29 "FeedbackQueues" "taskCount" "I") (by decide +kernel)) rfl dX2_isTask_6 ?_
    refine lv_icmp_ge (tgt := 16) hx hb dX2_isTask_9 (by decide) (fun c_9 => ?_) (fun c_9 => ?_)
    · skip
      refine lv_iconst (v := 0) hx hb dX2_isTask_16 (by decide) ?_
      have hF : F_X2_isTask S p1 = (S, 0) := by simp only [F_X2_isTask, if_neg c_1, if_pos c_9]
      rw [hF]
      exact c_zret hx hb hr hlocks narrow_b0 hP hS dX2_isTask_17 (fun _ h => h)
    · skip
      refine lv_iconst (v := 1) hx hb dX2_isTask_12 (by decide) ?_
      refine lv_goto (tgt := 17) hx hb dX2_isTask_13 (by decide) ?_
      have hF : F_X2_isTask S p1 = (S, 1) := by simp only [F_X2_isTask, if_neg c_1, if_neg c_9]
      rw [hF]
      exact c_zret hx hb hr hlocks narrow_b1 hP hS dX2_isTask_17 (fun _ h => h)
set_option maxHeartbeats 4000000 in
set_option maxRecDepth 100000 in
theorem k_X2_endTask (l : Launch) (D : va_G) (cy : Nat → ClassId) (ad : Nat → Nat) (S : Cs) (u : Nat) (p2 : Int32)  (hu : u < 16)  : cMv l yX2_endTask wsX2_endTask { frames := 0, cells := 0, slots := 0, locals := 0 } D cy ad [.ref (ad 0), .ref (ad (16 + 2 * u)), .int p2] S (F_X2_endTask S u p2) := by
  intro sz
  refine Met.ofW (cc := cX2_endTask) (maxL := 3) (ret := none) (by decide) rfl ?_
  intro p e s m args below meth c s₁ B hml hv
  obtain ⟨rfl, hsz, hP, hK, hap0, hN⟩ := hv
  have hx := B.exec
  have hb := B.bytes
  have hr := B.returns
  have hts := atoms_spec (ws := wsX2_endTask) B.pre
  have hown : s.vm.findClass RX2 = some m.cls := findClass_of_methodNamed B.named
  have hlocks := B.notSynchronized
  subst hsz
  have hap := gw_self (sz := s.heap.size) hap0
  generalize hAe : gA 48 ad s.heap.size = A at hap ⊢
  have hA : ∀ q : Nat, s.heap.size ≤ q → A q := fun q h => by rw [← hAe]; exact Or.inr h
  have hS : va_S A s.heap s.heap [] := va_S.rf
  have hinX1 : ∀ w ∈ wsX10, w ∈ wsX2_endTask := by decide +kernel
  have hinX2 : ∀ w ∈ wsX20, w ∈ wsX2_endTask := by decide +kernel
  have hl := lv_entry ([.ref (ad 0), .ref (ad (16 + 2 * u)), .int p2]) (n := 3) (Nat.le_of_ble_eq_true rfl)
  rw [lg_entry_eq]
  generalize (lg_sl ([.ref (ad 0), .ref (ad (16 + 2 * u)), .int p2]) ++ List.replicate (3 - (lg_sl ([.ref (ad 0), .ref (ad (16 + 2 * u)), .int p2])).length) Slot.unset).toArray = ls at hl ⊢
  have hl : lv_has ls 3 [(0, .ref (ad 0)), (1, .ref (ad (16 + 2 * u))), (2, .int p2)] := hl
  obtain ⟨H, hH⟩ : ∃ H, H = s.heap := ⟨_, rfl⟩
  rw [← hH] at hP
  have hS : va_S A s.heap H [] := by rw [hH]; exact hS
  rw [← hH]
  generalize ([] : List Loc) = locs at hS ⊢
  refine lv_aload_n hx hb dX2_endTask_0 rfl (lv_at hl 1 rfl) ?_
  refine lv_iconst (v := 4) hx hb dX2_endTask_1 (by decide) ?_
  refine c_pTN (i := u) (ty := .int) (v := 4) hx hb hts hinX1 hown hK hap hP hS hu 4 (by decide) (hN.fld (args := _) (a := "FeedbackQueues") (i := 118) (b := "FeedbackQueues$Task") (n := "state") (d := "I") (h' := "FeedbackQueues") (by decide +kernel)) rfl (by decide +kernel) rfl rfl (cTf_4 ad S u _) (Nat.le_of_ble_eq_true rfl) dX2_endTask_2 (fun H locs hP hS => ?_)
  obtain ⟨S1, eS1⟩ : ∃ z : Cs, z = sT S u 4 4 := ⟨_, rfl⟩
  rw [← eS1] at hP
  refine lv_aload_n hx hb dX2_endTask_5 rfl (lv_at hl 1 rfl) ?_
  refine lv_iload_n hx hb dX2_endTask_6 rfl (lv_at hl 2 rfl) ?_
  refine c_pTN (i := u) (ty := .int) (v := p2) hx hb hts hinX1 hown hK hap hP hS hu 15 (by decide) (hN.fld (args := _) (a := "FeedbackQueues") (i := 136) (b := "FeedbackQueues$Task") (n := "endedAt") (d := "I") (h' := "FeedbackQueues") (by decide +kernel)) rfl (by decide +kernel) rfl rfl (cTf_15 ad S1 u _) (Nat.le_of_ble_eq_true rfl) dX2_endTask_7 (fun H locs hP hS => ?_)
  obtain ⟨S2, eS2⟩ : ∃ z : Cs, z = sT S1 u 15 p2 := ⟨_, rfl⟩
  rw [← eS2] at hP
  refine lv_aload_n hx hb dX2_endTask_10 rfl (lv_at hl 0 rfl) ?_
  refine lv_dup hx hb dX2_endTask_11 rfl ?_
  refine c_gO hx hb hts hinX2 hown hK hP 11 (by decide) (hts (.fieldLink RX2 51 "FeedbackQueues" "endedCount" "I") (by decide +kernel)) rfl dX2_endTask_12 ?_
  refine lv_iconst (v := 1) hx hb dX2_endTask_15 (by decide) ?_
  refine lv_iadd hx hb dX2_endTask_16 ?_
  refine c_pO (ty := .int) (v := (cO S2 11) + 1) hx hb hts hinX2 hown hK hap hP hS 11 (by decide) (hts (.fieldLink RX2 51 "FeedbackQueues" "endedCount" "I") (by decide +kernel)) rfl (by decide +kernel) rfl rfl (cOf_11 ad S2 _) (Nat.le_of_ble_eq_true rfl) dX2_endTask_17 (fun H locs hP hS => ?_)
  obtain ⟨S3, eS3⟩ : ∃ z : Cs, z = sO S2 11 ((cO S2 11) + 1) := ⟨_, rfl⟩
  rw [← eS3] at hP
  have hF : F_X2_endTask S u p2 = S3 := by subst eS3 eS2 eS1; simp only [F_X2_endTask]
  rw [hF]
  exact c_vret hx hb hr hlocks hP hS dX2_endTask_20 (fun _ h => h)
set_option maxHeartbeats 4000000 in
set_option maxRecDepth 100000 in
theorem k_X2_standAtEnd (l : Launch) (D : va_G) (cy : Nat → ClassId) (ad : Nat → Nat) (S : Cs) (u : Nat)  (hu : u < 16) {N L b : Nat} (hok : okC N L b S)  : cMv l yX2_standAtEnd wsX2_standAtEnd { frames := 1, cells := 0, slots := 0, locals := 21 } D cy ad [.ref (ad 0), .ref (ad (16 + 2 * u))] S (F_X2_standAtEnd S u) := by
  intro sz
  refine Met.ofW (cc := cX2_standAtEnd) (maxL := 2) (ret := none) (by decide) rfl ?_
  intro p e s m args below meth c s₁ B hml hv
  obtain ⟨rfl, hsz, hP, hK, hap0, hN⟩ := hv
  have hx := B.exec
  have hb := B.bytes
  have hr := B.returns
  have hts := atoms_spec (ws := wsX2_standAtEnd) B.pre
  have hown : s.vm.findClass RX2 = some m.cls := findClass_of_methodNamed B.named
  have hlocks := B.notSynchronized
  subst hsz
  have hap := gw_self (sz := s.heap.size) hap0
  generalize hAe : gA 48 ad s.heap.size = A at hap ⊢
  have hA : ∀ q : Nat, s.heap.size ≤ q → A q := fun q h => by rw [← hAe]; exact Or.inr h
  have hS : va_S A s.heap s.heap [] := va_S.rf
  have hinX1 : ∀ w ∈ wsX10, w ∈ wsX2_standAtEnd := by decide +kernel
  have hinX2 : ∀ w ∈ wsX20, w ∈ wsX2_standAtEnd := by decide +kernel
  have hl := lv_entry ([.ref (ad 0), .ref (ad (16 + 2 * u))]) (n := 2) (Nat.le_of_ble_eq_true rfl)
  rw [lg_entry_eq]
  generalize (lg_sl ([.ref (ad 0), .ref (ad (16 + 2 * u))]) ++ List.replicate (2 - (lg_sl ([.ref (ad 0), .ref (ad (16 + 2 * u))])).length) Slot.unset).toArray = ls at hl ⊢
  have hl : lv_has ls 2 [(0, .ref (ad 0)), (1, .ref (ad (16 + 2 * u)))] := hl
  obtain ⟨H, hH⟩ : ∃ H, H = s.heap := ⟨_, rfl⟩
  rw [← hH] at hP
  have hS : va_S A s.heap H [] := by rw [hH]; exact hS
  rw [← hH]
  generalize ([] : List Loc) = locs at hS ⊢
  refine lv_aload_n hx hb dX2_standAtEnd_0 rfl (lv_at hl 1 rfl) ?_
  refine lv_iconst (v := 1) hx hb dX2_standAtEnd_1 (by decide) ?_
  refine c_pTN (i := u) (ty := .int) (v := 1) hx hb hts hinX1 hown hK hap hP hS hu 4 (by decide) (hN.fld (args := _) (a := "FeedbackQueues") (i := 118) (b := "FeedbackQueues$Task") (n := "state") (d := "I") (h' := "FeedbackQueues") (by decide +kernel)) rfl (by decide +kernel) rfl rfl (cTf_4 ad S u _) (Nat.le_of_ble_eq_true rfl) dX2_standAtEnd_2 (fun H locs hP hS => ?_)
  obtain ⟨S1, eS1⟩ : ∃ z : Cs, z = sT S u 4 1 := ⟨_, rfl⟩
  rw [← eS1] at hP
  have hok1 : okC N L b S1 := by rw [eS1]; exact okC_sT hok (by decide)
  refine lv_aload_n hx hb dX2_standAtEnd_5 rfl (lv_at hl 0 rfl) ?_
  refine c_gO hx hb hts hinX2 hown hK hP 0 (by decide) (hts (.fieldLink RX2 11 "FeedbackQueues" "levelRows" "[LFeedbackQueues$Level;") (by decide +kernel)) rfl dX2_standAtEnd_6 ?_
  refine lv_aload_n hx hb dX2_standAtEnd_9 rfl (lv_at hl 1 rfl) ?_
  refine c_gTN (i := u) hx hb hts hinX1 hown hK hP hu 5 (by decide) (hN.fld (args := _) (a := "FeedbackQueues") (i := 121) (b := "FeedbackQueues$Task") (n := "level") (d := "I") (h' := "FeedbackQueues") (by decide +kernel)) rfl dX2_standAtEnd_10 ?_
  refine c_aL (k := ((cT S1 u 5)).toNatClampNeg) hx hb hK hP (okC_ix hok1 hu) dX2_standAtEnd_13 ?_
  refine lv_aload_n hx hb dX2_standAtEnd_14 rfl (lv_at hl 1 rfl) ?_
  refine c_gTN (i := u) hx hb hts hinX1 hown hK hP hu 0 (by decide) (hN.fld (args := _) (a := "FeedbackQueues") (i := 150) (b := "FeedbackQueues$Task") (n := "number") (d := "I") (h' := "FeedbackQueues") (by decide +kernel)) rfl dX2_standAtEnd_15 ?_
  refine c_cNv (As := [.int (cT S1 u 0)]) (rest := []) (k := (4 + 2 * (((cT S1 u 5)).toNatClampNeg))) (ci := 0) (q := (RX0, TX0, 4)) ⟨hx, hb, hml, hown, hts⟩ (k_X0_addLast l D cy ad S1 (((cT S1 u 5)).toNatClampNeg) (cT S1 u 0) ((okC_ix hok1 hu).2.2) (okC_sz hok1 (okC_ix hok1 hu).2.2)) ⟨va_cnB (host := "FeedbackQueues") 1 hts gX2_standAtEnd_X0_addLast_n249 rfl rfl rfl (hN.mth (a := RX2) (i := 249) (x := yX0_addLast) (h' := "FeedbackQueues") (by decide +kernel)) (hts (.initialized RX0) (by decide +kernel)) (by decide +kernel) ⟨Nat.le_of_ble_eq_true rfl, Nat.le_of_ble_eq_true rfl⟩, hts (.instanceMethod yX0_addLast) (by decide +kernel), hts (.selects RX0 yX0_addLast yX0_addLast) (by decide +kernel)⟩ hK hap hA hN hP hS (by have h9 := ((okC_ix hok1 hu).2.2); omega) (cE_L cy ad S1 ((okC_ix hok1 hu).2.2)) rfl rfl hl.1 rfl (Nat.le_of_ble_eq_true rfl) dX2_standAtEnd_18 ⟨Nat.zero_le _, Nat.zero_le _⟩ (fun H locs hP hS => ?_)
  obtain ⟨S2, eS2⟩ : ∃ z : Cs, z = F_X0_addLast S1 (((cT S1 u 5)).toNatClampNeg) (cT S1 u 0) := ⟨_, rfl⟩
  rw [← eS2] at hP
  have hok2 : okC N L b S2 := by rw [eS2]; exact ok_X0_addLast hok1 ((okC_ix hok1 hu).2.2)
  have hF : F_X2_standAtEnd S u = S2 := by subst eS2 eS1; simp only [F_X2_standAtEnd]
  rw [hF]
  exact c_vret hx hb hr hlocks hP hS dX2_standAtEnd_21 (fun _ h => h)
set_option maxHeartbeats 4000000 in
set_option maxRecDepth 100000 in
theorem k_X2_goOnOrEnd (l : Launch) (D : va_G) (cy : Nat → ClassId) (ad : Nat → Nat) (S : Cs) (u : Nat)  (hu : u < 16) {N L b : Nat} (hok : okC N L b S)  : cMv l yX2_goOnOrEnd wsX2_goOnOrEnd { frames := 2, cells := 0, slots := 0, locals := 42 } D cy ad [.ref (ad 0), .ref (ad (16 + 2 * u))] S (F_X2_goOnOrEnd S u) := by
  intro sz
  refine Met.ofW (cc := cX2_goOnOrEnd) (maxL := 2) (ret := none) (by decide) rfl ?_
  intro p e s m args below meth c s₁ B hml hv
  obtain ⟨rfl, hsz, hP, hK, hap0, hN⟩ := hv
  have hx := B.exec
  have hb := B.bytes
  have hr := B.returns
  have hts := atoms_spec (ws := wsX2_goOnOrEnd) B.pre
  have hown : s.vm.findClass RX2 = some m.cls := findClass_of_methodNamed B.named
  have hlocks := B.notSynchronized
  subst hsz
  have hap := gw_self (sz := s.heap.size) hap0
  generalize hAe : gA 48 ad s.heap.size = A at hap ⊢
  have hA : ∀ q : Nat, s.heap.size ≤ q → A q := fun q h => by rw [← hAe]; exact Or.inr h
  have hS : va_S A s.heap s.heap [] := va_S.rf
  have hinX2 : ∀ w ∈ wsX20, w ∈ wsX2_goOnOrEnd := by decide +kernel
  have hl := lv_entry ([.ref (ad 0), .ref (ad (16 + 2 * u))]) (n := 2) (Nat.le_of_ble_eq_true rfl)
  rw [lg_entry_eq]
  generalize (lg_sl ([.ref (ad 0), .ref (ad (16 + 2 * u))]) ++ List.replicate (2 - (lg_sl ([.ref (ad 0), .ref (ad (16 + 2 * u))])).length) Slot.unset).toArray = ls at hl ⊢
  have hl : lv_has ls 2 [(0, .ref (ad 0)), (1, .ref (ad (16 + 2 * u)))] := hl
  obtain ⟨H, hH⟩ : ∃ H, H = s.heap := ⟨_, rfl⟩
  rw [← hH] at hP
  have hS : va_S A s.heap H [] := by rw [hH]; exact hS
  rw [← hH]
  generalize ([] : List Loc) = locs at hS ⊢
  refine lv_aload_n hx hb dX2_goOnOrEnd_0 rfl (lv_at hl 1 rfl) ?_
  refine c_cNi (As := []) (rest := []) (k := (16 + 2 * u)) (ci := 1) (q := (RX1, TX1, 19)) ⟨hx, hb, hml, hown, hts⟩ (k_X1_beginBurst l D cy ad S u hu (okC_g hok hu) (okC_b hok hu)) ⟨va_cnB (host := "FeedbackQueues") 0 hts gX2_goOnOrEnd_X1_beginBurst_n206 rfl rfl rfl (hN.mth (a := RX2) (i := 206) (x := yX1_beginBurst) (h' := "FeedbackQueues") (by decide +kernel)) (hts (.initialized RX1) (by decide +kernel)) (by decide +kernel) ⟨Nat.le_of_ble_eq_true rfl, Nat.le_of_ble_eq_true rfl⟩, hts (.instanceMethod yX1_beginBurst) (by decide +kernel), hts (.selects RX1 yX1_beginBurst yX1_beginBurst) (by decide +kernel)⟩ hK hap hA hN hP hS (by have h9 := (hu); omega) (cE_T cy ad S u) rfl rfl hl.1 rfl (Nat.le_of_ble_eq_true rfl) dX2_goOnOrEnd_1 ⟨Nat.zero_le _, Nat.zero_le _⟩ (fun H locs hP hS => ?_)
  obtain ⟨S1, eS1⟩ : ∃ z : Cs, z = (F_X1_beginBurst S u).1 := ⟨_, rfl⟩
  rw [← eS1] at hP
  have hok1 : okC N L b S1 := by rw [eS1]; exact ok_X1_beginBurst hok hu
  refine lv_if_eq (tgt := 15) hx hb dX2_goOnOrEnd_4 (by decide) (fun c_4 => ?_) (fun c_4 => ?_)
  · skip
    refine lv_aload_n hx hb dX2_goOnOrEnd_15 rfl (lv_at hl 0 rfl) ?_
    refine lv_aload_n hx hb dX2_goOnOrEnd_16 rfl (lv_at hl 1 rfl) ?_
    refine lv_aload_n hx hb dX2_goOnOrEnd_17 rfl (lv_at hl 0 rfl) ?_
    refine c_gO hx hb hts hinX2 hown hK hP 6 (by decide) (hts (.fieldLink RX2 35 "FeedbackQueues" "now" "I") (by decide +kernel)) rfl dX2_goOnOrEnd_18 ?_
    refine c_cVv (As := [.ref (ad (16 + 2 * u)), .int (cO S1 6)]) (rest := []) (k := 0) (ci := 2) (q := (RX2, TX2, 12)) ⟨hx, hb, hml, hown, hts⟩ (k_X2_endTask l D cy ad S1 u (cO S1 6) hu) (cwV 2 hts gX2_goOnOrEnd_X2_endTask rfl rfl rfl (by decide +kernel) ⟨Nat.le_of_ble_eq_true rfl, Nat.le_of_ble_eq_true rfl⟩) hK hap hA hN hP hS (by omega) (cE_O cy ad S1) rfl rfl hl.1 rfl (Nat.le_of_ble_eq_true rfl) dX2_goOnOrEnd_21 ⟨Nat.zero_le _, Nat.zero_le _⟩ (fun H locs hP hS => ?_)
    obtain ⟨S2, eS2⟩ : ∃ z : Cs, z = F_X2_endTask S1 u (cO S1 6) := ⟨_, rfl⟩
    rw [← eS2] at hP
    have hok2 : okC N L b S2 := by rw [eS2]; exact ok_X2_endTask hok1 hu
    have hF : F_X2_goOnOrEnd S u = S2 := by subst eS2 eS1; simp only [F_X2_goOnOrEnd, if_pos c_4]
    rw [hF]
    exact c_vret hx hb hr hlocks hP hS dX2_goOnOrEnd_24 (fun _ h => h)
  · skip
    refine lv_aload_n hx hb dX2_goOnOrEnd_7 rfl (lv_at hl 0 rfl) ?_
    refine lv_aload_n hx hb dX2_goOnOrEnd_8 rfl (lv_at hl 1 rfl) ?_
    refine c_cVv (As := [.ref (ad (16 + 2 * u))]) (rest := []) (k := 0) (ci := 2) (q := (RX2, TX2, 12)) ⟨hx, hb, hml, hown, hts⟩ (k_X2_standAtEnd l D cy ad S1 u hu hok1) (cwV 1 hts gX2_goOnOrEnd_X2_standAtEnd rfl rfl rfl (by decide +kernel) ⟨Nat.le_of_ble_eq_true rfl, Nat.le_of_ble_eq_true rfl⟩) hK hap hA hN hP hS (by omega) (cE_O cy ad S1) rfl rfl hl.1 rfl (Nat.le_of_ble_eq_true rfl) dX2_goOnOrEnd_9 ⟨Nat.zero_le _, Nat.zero_le _⟩ (fun H locs hP hS => ?_)
    obtain ⟨S3, eS3⟩ : ∃ z : Cs, z = F_X2_standAtEnd S1 u := ⟨_, rfl⟩
    rw [← eS3] at hP
    have hok3 : okC N L b S3 := by rw [eS3]; exact ok_X2_standAtEnd hok1 hu
    refine lv_goto (tgt := 24) hx hb dX2_goOnOrEnd_12 (by decide) ?_
    have hF : F_X2_goOnOrEnd S u = S3 := by subst eS3 eS1; simp only [F_X2_goOnOrEnd, if_neg c_4]
    rw [hF]
    exact c_vret hx hb hr hlocks hP hS dX2_goOnOrEnd_24 (fun _ h => h)
set_option maxHeartbeats 4000000 in
set_option maxRecDepth 100000 in
theorem k_X2_blockOrEnd (l : Launch) (D : va_G) (cy : Nat → ClassId) (ad : Nat → Nat) (S : Cs) (u : Nat)  (hu : u < 16) {N L b : Nat} (hok : okC N L b S)  : cMv l yX2_blockOrEnd wsX2_blockOrEnd { frames := 1, cells := 0, slots := 0, locals := 22 } D cy ad [.ref (ad 0), .ref (ad (16 + 2 * u))] S (F_X2_blockOrEnd S u) := by
  intro sz
  refine Met.ofW (cc := cX2_blockOrEnd) (maxL := 2) (ret := none) (by decide) rfl ?_
  intro p e s m args below meth c s₁ B hml hv
  obtain ⟨rfl, hsz, hP, hK, hap0, hN⟩ := hv
  have hx := B.exec
  have hb := B.bytes
  have hr := B.returns
  have hts := atoms_spec (ws := wsX2_blockOrEnd) B.pre
  have hown : s.vm.findClass RX2 = some m.cls := findClass_of_methodNamed B.named
  have hlocks := B.notSynchronized
  subst hsz
  have hap := gw_self (sz := s.heap.size) hap0
  generalize hAe : gA 48 ad s.heap.size = A at hap ⊢
  have hA : ∀ q : Nat, s.heap.size ≤ q → A q := fun q h => by rw [← hAe]; exact Or.inr h
  have hS : va_S A s.heap s.heap [] := va_S.rf
  have hinX1 : ∀ w ∈ wsX10, w ∈ wsX2_blockOrEnd := by decide +kernel
  have hinX2 : ∀ w ∈ wsX20, w ∈ wsX2_blockOrEnd := by decide +kernel
  have hl := lv_entry ([.ref (ad 0), .ref (ad (16 + 2 * u))]) (n := 2) (Nat.le_of_ble_eq_true rfl)
  rw [lg_entry_eq]
  generalize (lg_sl ([.ref (ad 0), .ref (ad (16 + 2 * u))]) ++ List.replicate (2 - (lg_sl ([.ref (ad 0), .ref (ad (16 + 2 * u))])).length) Slot.unset).toArray = ls at hl ⊢
  have hl : lv_has ls 2 [(0, .ref (ad 0)), (1, .ref (ad (16 + 2 * u)))] := hl
  obtain ⟨H, hH⟩ : ∃ H, H = s.heap := ⟨_, rfl⟩
  rw [← hH] at hP
  have hS : va_S A s.heap H [] := by rw [hH]; exact hS
  rw [← hH]
  generalize ([] : List Loc) = locs at hS ⊢
  refine lv_aload_n hx hb dX2_blockOrEnd_0 rfl (lv_at hl 1 rfl) ?_
  refine c_cNi (As := []) (rest := []) (k := (16 + 2 * u)) (ci := 1) (q := (RX1, TX1, 19)) ⟨hx, hb, hml, hown, hts⟩ (k_X1_beginBurst l D cy ad S u hu (okC_g hok hu) (okC_b hok hu)) ⟨va_cnB (host := "FeedbackQueues") 0 hts gX2_blockOrEnd_X1_beginBurst_n206 rfl rfl rfl (hN.mth (a := RX2) (i := 206) (x := yX1_beginBurst) (h' := "FeedbackQueues") (by decide +kernel)) (hts (.initialized RX1) (by decide +kernel)) (by decide +kernel) ⟨Nat.le_of_ble_eq_true rfl, Nat.le_of_ble_eq_true rfl⟩, hts (.instanceMethod yX1_beginBurst) (by decide +kernel), hts (.selects RX1 yX1_beginBurst yX1_beginBurst) (by decide +kernel)⟩ hK hap hA hN hP hS (by have h9 := (hu); omega) (cE_T cy ad S u) rfl rfl hl.1 rfl (Nat.le_of_ble_eq_true rfl) dX2_blockOrEnd_1 ⟨Nat.zero_le _, Nat.zero_le _⟩ (fun H locs hP hS => ?_)
  obtain ⟨S1, eS1⟩ : ∃ z : Cs, z = (F_X1_beginBurst S u).1 := ⟨_, rfl⟩
  rw [← eS1] at hP
  have hok1 : okC N L b S1 := by rw [eS1]; exact ok_X1_beginBurst hok hu
  refine lv_if_eq (tgt := 15) hx hb dX2_blockOrEnd_4 (by decide) (fun c_4 => ?_) (fun c_4 => ?_)
  · skip
    refine lv_aload_n hx hb dX2_blockOrEnd_15 rfl (lv_at hl 0 rfl) ?_
    refine lv_aload_n hx hb dX2_blockOrEnd_16 rfl (lv_at hl 1 rfl) ?_
    refine lv_aload_n hx hb dX2_blockOrEnd_17 rfl (lv_at hl 0 rfl) ?_
    refine c_gO hx hb hts hinX2 hown hK hP 6 (by decide) (hts (.fieldLink RX2 35 "FeedbackQueues" "now" "I") (by decide +kernel)) rfl dX2_blockOrEnd_18 ?_
    refine lv_iconst (v := 1) hx hb dX2_blockOrEnd_21 (by decide) ?_
    refine lv_iadd hx hb dX2_blockOrEnd_22 ?_
    refine c_cVv (As := [.ref (ad (16 + 2 * u)), .int ((cO S1 6) + 1)]) (rest := []) (k := 0) (ci := 2) (q := (RX2, TX2, 12)) ⟨hx, hb, hml, hown, hts⟩ (k_X2_endTask l D cy ad S1 u ((cO S1 6) + 1) hu) (cwV 2 hts gX2_blockOrEnd_X2_endTask rfl rfl rfl (by decide +kernel) ⟨Nat.le_of_ble_eq_true rfl, Nat.le_of_ble_eq_true rfl⟩) hK hap hA hN hP hS (by omega) (cE_O cy ad S1) rfl rfl hl.1 rfl (Nat.le_of_ble_eq_true rfl) dX2_blockOrEnd_23 ⟨Nat.zero_le _, Nat.zero_le _⟩ (fun H locs hP hS => ?_)
    obtain ⟨S2, eS2⟩ : ∃ z : Cs, z = F_X2_endTask S1 u ((cO S1 6) + 1) := ⟨_, rfl⟩
    rw [← eS2] at hP
    have hok2 : okC N L b S2 := by rw [eS2]; exact ok_X2_endTask hok1 hu
    have hF : F_X2_blockOrEnd S u = S2 := by subst eS2 eS1; simp only [F_X2_blockOrEnd, if_pos c_4]
    rw [hF]
    exact c_vret hx hb hr hlocks hP hS dX2_blockOrEnd_26 (fun _ h => h)
  · skip
    refine lv_aload_n hx hb dX2_blockOrEnd_7 rfl (lv_at hl 1 rfl) ?_
    refine lv_iconst (v := 3) hx hb dX2_blockOrEnd_8 (by decide) ?_
    refine c_pTN (i := u) (ty := .int) (v := 3) hx hb hts hinX1 hown hK hap hP hS hu 4 (by decide) (hN.fld (args := _) (a := "FeedbackQueues") (i := 118) (b := "FeedbackQueues$Task") (n := "state") (d := "I") (h' := "FeedbackQueues") (by decide +kernel)) rfl (by decide +kernel) rfl rfl (cTf_4 ad S1 u _) (Nat.le_of_ble_eq_true rfl) dX2_blockOrEnd_9 (fun H locs hP hS => ?_)
    obtain ⟨S3, eS3⟩ : ∃ z : Cs, z = sT S1 u 4 3 := ⟨_, rfl⟩
    rw [← eS3] at hP
    have hok3 : okC N L b S3 := by rw [eS3]; exact okC_sT hok1 (by decide)
    refine lv_goto (tgt := 26) hx hb dX2_blockOrEnd_12 (by decide) ?_
    have hF : F_X2_blockOrEnd S u = S3 := by subst eS3 eS1; simp only [F_X2_blockOrEnd, if_neg c_4]
    rw [hF]
    exact c_vret hx hb hr hlocks hP hS dX2_blockOrEnd_26 (fun _ h => h)
set_option maxHeartbeats 4000000 in
set_option maxRecDepth 100000 in
theorem k_X2_sendDown (l : Launch) (D : va_G) (cy : Nat → ClassId) (ad : Nat → Nat) (S : Cs) (u : Nat)  (hu : u < 16) {N L b : Nat} (hok : okC N L b S)  : cMv l yX2_sendDown wsX2_sendDown { frames := 2, cells := 0, slots := 0, locals := 42 } D cy ad [.ref (ad 0), .ref (ad (16 + 2 * u))] S (F_X2_sendDown S u) := by
  intro sz
  refine Met.ofW (cc := cX2_sendDown) (maxL := 2) (ret := none) (by decide) rfl ?_
  intro p e s m args below meth c s₁ B hml hv
  obtain ⟨rfl, hsz, hP, hK, hap0, hN⟩ := hv
  have hx := B.exec
  have hb := B.bytes
  have hr := B.returns
  have hts := atoms_spec (ws := wsX2_sendDown) B.pre
  have hown : s.vm.findClass RX2 = some m.cls := findClass_of_methodNamed B.named
  have hlocks := B.notSynchronized
  subst hsz
  have hap := gw_self (sz := s.heap.size) hap0
  generalize hAe : gA 48 ad s.heap.size = A at hap ⊢
  have hA : ∀ q : Nat, s.heap.size ≤ q → A q := fun q h => by rw [← hAe]; exact Or.inr h
  have hS : va_S A s.heap s.heap [] := va_S.rf
  have hinX0 : ∀ w ∈ wsX00, w ∈ wsX2_sendDown := by decide +kernel
  have hinX1 : ∀ w ∈ wsX10, w ∈ wsX2_sendDown := by decide +kernel
  have hinX2 : ∀ w ∈ wsX20, w ∈ wsX2_sendDown := by decide +kernel
  have hl := lv_entry ([.ref (ad 0), .ref (ad (16 + 2 * u))]) (n := 2) (Nat.le_of_ble_eq_true rfl)
  rw [lg_entry_eq]
  generalize (lg_sl ([.ref (ad 0), .ref (ad (16 + 2 * u))]) ++ List.replicate (2 - (lg_sl ([.ref (ad 0), .ref (ad (16 + 2 * u))])).length) Slot.unset).toArray = ls at hl ⊢
  have hl : lv_has ls 2 [(0, .ref (ad 0)), (1, .ref (ad (16 + 2 * u)))] := hl
  obtain ⟨H, hH⟩ : ∃ H, H = s.heap := ⟨_, rfl⟩
  rw [← hH] at hP
  have hS : va_S A s.heap H [] := by rw [hH]; exact hS
  rw [← hH]
  generalize ([] : List Loc) = locs at hS ⊢
  refine lv_aload_n hx hb dX2_sendDown_0 rfl (lv_at hl 1 rfl) ?_
  refine c_gTN (i := u) hx hb hts hinX1 hown hK hP hu 5 (by decide) (hN.fld (args := _) (a := "FeedbackQueues") (i := 121) (b := "FeedbackQueues$Task") (n := "level") (d := "I") (h' := "FeedbackQueues") (by decide +kernel)) rfl dX2_sendDown_1 ?_
  refine lv_aload_n hx hb dX2_sendDown_4 rfl (lv_at hl 0 rfl) ?_
  refine c_gO hx hb hts hinX2 hown hK hP 3 (by decide) (hts (.fieldLink RX2 25 "FeedbackQueues" "levelCount" "I") (by decide +kernel)) rfl dX2_sendDown_5 ?_
  refine lv_iconst (v := 1) hx hb dX2_sendDown_8 (by decide) ?_
  refine lv_isub hx hb dX2_sendDown_9 ?_
  refine lv_icmp_ge (tgt := 33) hx hb dX2_sendDown_10 (by decide) (fun c_10 => ?_) (fun c_10 => ?_)
  · skip
    refine lv_aload_n hx hb dX2_sendDown_33 rfl (lv_at hl 1 rfl) ?_
    refine lv_aload_n hx hb dX2_sendDown_34 rfl (lv_at hl 0 rfl) ?_
    refine c_gO hx hb hts hinX2 hown hK hP 0 (by decide) (hts (.fieldLink RX2 11 "FeedbackQueues" "levelRows" "[LFeedbackQueues$Level;") (by decide +kernel)) rfl dX2_sendDown_35 ?_
    refine lv_aload_n hx hb dX2_sendDown_38 rfl (lv_at hl 1 rfl) ?_
    refine c_gTN (i := u) hx hb hts hinX1 hown hK hP hu 5 (by decide) (hN.fld (args := _) (a := "FeedbackQueues") (i := 121) (b := "FeedbackQueues$Task") (n := "level") (d := "I") (h' := "FeedbackQueues") (by decide +kernel)) rfl dX2_sendDown_39 ?_
    refine c_aL (k := ((cT S u 5)).toNatClampNeg) hx hb hK hP (okC_ix hok hu) dX2_sendDown_42 ?_
    refine c_gLN (i := ((cT S u 5)).toNatClampNeg) hx hb hts hinX0 hown hK hP ((okC_ix hok hu).2.2) 1 (by decide) (hN.fld (args := _) (a := "FeedbackQueues") (i := 68) (b := "FeedbackQueues$Level") (n := "share") (d := "I") (h' := "FeedbackQueues") (by decide +kernel)) rfl dX2_sendDown_43 ?_
    refine c_pTN (i := u) (ty := .int) (v := cL S (((cT S u 5)).toNatClampNeg) 1) hx hb hts hinX1 hown hK hap hP hS hu 9 (by decide) (hN.fld (args := _) (a := "FeedbackQueues") (i := 197) (b := "FeedbackQueues$Task") (n := "shareLeft") (d := "I") (h' := "FeedbackQueues") (by decide +kernel)) rfl (by decide +kernel) rfl rfl (cTf_9 ad S u _) (Nat.le_of_ble_eq_true rfl) dX2_sendDown_46 (fun H locs hP hS => ?_)
    obtain ⟨S1, eS1⟩ : ∃ z : Cs, z = sT S u 9 (cL S (((cT S u 5)).toNatClampNeg) 1) := ⟨_, rfl⟩
    rw [← eS1] at hP
    have hok1 : okC N L b S1 := by rw [eS1]; exact okC_sT hok (by decide)
    refine lv_aload_n hx hb dX2_sendDown_49 rfl (lv_at hl 0 rfl) ?_
    refine lv_aload_n hx hb dX2_sendDown_50 rfl (lv_at hl 1 rfl) ?_
    refine c_cVv (As := [.ref (ad (16 + 2 * u))]) (rest := []) (k := 0) (ci := 2) (q := (RX2, TX2, 12)) ⟨hx, hb, hml, hown, hts⟩ (k_X2_standAtEnd l D cy ad S1 u hu hok1) (cwV 1 hts gX2_sendDown_X2_standAtEnd rfl rfl rfl (by decide +kernel) ⟨Nat.le_of_ble_eq_true rfl, Nat.le_of_ble_eq_true rfl⟩) hK hap hA hN hP hS (by omega) (cE_O cy ad S1) rfl rfl hl.1 rfl (Nat.le_of_ble_eq_true rfl) dX2_sendDown_51 ⟨Nat.zero_le _, Nat.zero_le _⟩ (fun H locs hP hS => ?_)
    obtain ⟨S2, eS2⟩ : ∃ z : Cs, z = F_X2_standAtEnd S1 u := ⟨_, rfl⟩
    rw [← eS2] at hP
    have hok2 : okC N L b S2 := by rw [eS2]; exact ok_X2_standAtEnd hok1 hu
    have hF : F_X2_sendDown S u = S2 := by subst eS2 eS1; simp only [F_X2_sendDown, if_pos c_10]
    rw [hF]
    exact c_vret hx hb hr hlocks hP hS dX2_sendDown_54 (fun _ h => h)
  · skip
    refine lv_aload_n hx hb dX2_sendDown_13 rfl (lv_at hl 1 rfl) ?_
    refine lv_dup hx hb dX2_sendDown_14 rfl ?_
    refine c_gTN (i := u) hx hb hts hinX1 hown hK hP hu 5 (by decide) (hN.fld (args := _) (a := "FeedbackQueues") (i := 121) (b := "FeedbackQueues$Task") (n := "level") (d := "I") (h' := "FeedbackQueues") (by decide +kernel)) rfl dX2_sendDown_15 ?_
    refine lv_iconst (v := 1) hx hb dX2_sendDown_18 (by decide) ?_
    refine lv_iadd hx hb dX2_sendDown_19 ?_
    refine c_pTN (i := u) (ty := .int) (v := (cT S u 5) + 1) hx hb hts hinX1 hown hK hap hP hS hu 5 (by decide) (hN.fld (args := _) (a := "FeedbackQueues") (i := 121) (b := "FeedbackQueues$Task") (n := "level") (d := "I") (h' := "FeedbackQueues") (by decide +kernel)) rfl (by decide +kernel) rfl rfl (cTf_5 ad S u _) (Nat.le_of_ble_eq_true rfl) dX2_sendDown_20 (fun H locs hP hS => ?_)
    obtain ⟨S3, eS3⟩ : ∃ z : Cs, z = sT S u 5 ((cT S u 5) + 1) := ⟨_, rfl⟩
    rw [← eS3] at hP
    have hok3 : okC N L b S3 := by rw [eS3]; exact okC_sT5 hok (okC_dn hok hu c_10)
    refine lv_aload_n hx hb dX2_sendDown_23 rfl (lv_at hl 1 rfl) ?_
    refine lv_dup hx hb dX2_sendDown_24 rfl ?_
    refine c_gTN (i := u) hx hb hts hinX1 hown hK hP hu 17 (by decide) (hN.fld (args := _) (a := "FeedbackQueues") (i := 142) (b := "FeedbackQueues$Task") (n := "timesDown") (d := "I") (h' := "FeedbackQueues") (by decide +kernel)) rfl dX2_sendDown_25 ?_
    refine lv_iconst (v := 1) hx hb dX2_sendDown_28 (by decide) ?_
    refine lv_iadd hx hb dX2_sendDown_29 ?_
    refine c_pTN (i := u) (ty := .int) (v := (cT S3 u 17) + 1) hx hb hts hinX1 hown hK hap hP hS hu 17 (by decide) (hN.fld (args := _) (a := "FeedbackQueues") (i := 142) (b := "FeedbackQueues$Task") (n := "timesDown") (d := "I") (h' := "FeedbackQueues") (by decide +kernel)) rfl (by decide +kernel) rfl rfl (cTf_17 ad S3 u _) (Nat.le_of_ble_eq_true rfl) dX2_sendDown_30 (fun H locs hP hS => ?_)
    obtain ⟨S4, eS4⟩ : ∃ z : Cs, z = sT S3 u 17 ((cT S3 u 17) + 1) := ⟨_, rfl⟩
    rw [← eS4] at hP
    have hok4 : okC N L b S4 := by rw [eS4]; exact okC_sT hok3 (by decide)
    refine lv_aload_n hx hb dX2_sendDown_33 rfl (lv_at hl 1 rfl) ?_
    refine lv_aload_n hx hb dX2_sendDown_34 rfl (lv_at hl 0 rfl) ?_
    refine c_gO hx hb hts hinX2 hown hK hP 0 (by decide) (hts (.fieldLink RX2 11 "FeedbackQueues" "levelRows" "[LFeedbackQueues$Level;") (by decide +kernel)) rfl dX2_sendDown_35 ?_
    refine lv_aload_n hx hb dX2_sendDown_38 rfl (lv_at hl 1 rfl) ?_
    refine c_gTN (i := u) hx hb hts hinX1 hown hK hP hu 5 (by decide) (hN.fld (args := _) (a := "FeedbackQueues") (i := 121) (b := "FeedbackQueues$Task") (n := "level") (d := "I") (h' := "FeedbackQueues") (by decide +kernel)) rfl dX2_sendDown_39 ?_
    refine c_aL (k := ((cT S4 u 5)).toNatClampNeg) hx hb hK hP (okC_ix hok4 hu) dX2_sendDown_42 ?_
    refine c_gLN (i := ((cT S4 u 5)).toNatClampNeg) hx hb hts hinX0 hown hK hP ((okC_ix hok4 hu).2.2) 1 (by decide) (hN.fld (args := _) (a := "FeedbackQueues") (i := 68) (b := "FeedbackQueues$Level") (n := "share") (d := "I") (h' := "FeedbackQueues") (by decide +kernel)) rfl dX2_sendDown_43 ?_
    refine c_pTN (i := u) (ty := .int) (v := cL S4 (((cT S4 u 5)).toNatClampNeg) 1) hx hb hts hinX1 hown hK hap hP hS hu 9 (by decide) (hN.fld (args := _) (a := "FeedbackQueues") (i := 197) (b := "FeedbackQueues$Task") (n := "shareLeft") (d := "I") (h' := "FeedbackQueues") (by decide +kernel)) rfl (by decide +kernel) rfl rfl (cTf_9 ad S4 u _) (Nat.le_of_ble_eq_true rfl) dX2_sendDown_46 (fun H locs hP hS => ?_)
    obtain ⟨S5, eS5⟩ : ∃ z : Cs, z = sT S4 u 9 (cL S4 (((cT S4 u 5)).toNatClampNeg) 1) := ⟨_, rfl⟩
    rw [← eS5] at hP
    have hok5 : okC N L b S5 := by rw [eS5]; exact okC_sT hok4 (by decide)
    refine lv_aload_n hx hb dX2_sendDown_49 rfl (lv_at hl 0 rfl) ?_
    refine lv_aload_n hx hb dX2_sendDown_50 rfl (lv_at hl 1 rfl) ?_
    refine c_cVv (As := [.ref (ad (16 + 2 * u))]) (rest := []) (k := 0) (ci := 2) (q := (RX2, TX2, 12)) ⟨hx, hb, hml, hown, hts⟩ (k_X2_standAtEnd l D cy ad S5 u hu hok5) (cwV 1 hts gX2_sendDown_X2_standAtEnd rfl rfl rfl (by decide +kernel) ⟨Nat.le_of_ble_eq_true rfl, Nat.le_of_ble_eq_true rfl⟩) hK hap hA hN hP hS (by omega) (cE_O cy ad S5) rfl rfl hl.1 rfl (Nat.le_of_ble_eq_true rfl) dX2_sendDown_51 ⟨Nat.zero_le _, Nat.zero_le _⟩ (fun H locs hP hS => ?_)
    obtain ⟨S6, eS6⟩ : ∃ z : Cs, z = F_X2_standAtEnd S5 u := ⟨_, rfl⟩
    rw [← eS6] at hP
    have hok6 : okC N L b S6 := by rw [eS6]; exact ok_X2_standAtEnd hok5 hu
    have hF : F_X2_sendDown S u = S6 := by subst eS6 eS5 eS4 eS3; simp only [F_X2_sendDown, if_neg c_10]
    rw [hF]
    exact c_vret hx hb hr hlocks hP hS dX2_sendDown_54 (fun _ h => h)
set_option maxHeartbeats 4000000 in
set_option maxRecDepth 100000 in
theorem k_X2_useTick (l : Launch) (D : va_G) (cy : Nat → ClassId) (ad : Nat → Nat) (S : Cs) (u : Nat)  (hu : u < 16) {N L b : Nat} (hok : okC N L b S)  : cMv l yX2_useTick wsX2_useTick { frames := 3, cells := 0, slots := 0, locals := 63 } D cy ad [.ref (ad 0), .ref (ad (16 + 2 * u))] S (F_X2_useTick S u) := by
  intro sz
  refine Met.ofW (cc := cX2_useTick) (maxL := 2) (ret := none) (by decide) rfl ?_
  intro p e s m args below meth c s₁ B hml hv
  obtain ⟨rfl, hsz, hP, hK, hap0, hN⟩ := hv
  have hx := B.exec
  have hb := B.bytes
  have hr := B.returns
  have hts := atoms_spec (ws := wsX2_useTick) B.pre
  have hown : s.vm.findClass RX2 = some m.cls := findClass_of_methodNamed B.named
  have hlocks := B.notSynchronized
  subst hsz
  have hap := gw_self (sz := s.heap.size) hap0
  generalize hAe : gA 48 ad s.heap.size = A at hap ⊢
  have hA : ∀ q : Nat, s.heap.size ≤ q → A q := fun q h => by rw [← hAe]; exact Or.inr h
  have hS : va_S A s.heap s.heap [] := va_S.rf
  have hinX1 : ∀ w ∈ wsX10, w ∈ wsX2_useTick := by decide +kernel
  have hinX2 : ∀ w ∈ wsX20, w ∈ wsX2_useTick := by decide +kernel
  have hl := lv_entry ([.ref (ad 0), .ref (ad (16 + 2 * u))]) (n := 2) (Nat.le_of_ble_eq_true rfl)
  rw [lg_entry_eq]
  generalize (lg_sl ([.ref (ad 0), .ref (ad (16 + 2 * u))]) ++ List.replicate (2 - (lg_sl ([.ref (ad 0), .ref (ad (16 + 2 * u))])).length) Slot.unset).toArray = ls at hl ⊢
  have hl : lv_has ls 2 [(0, .ref (ad 0)), (1, .ref (ad (16 + 2 * u)))] := hl
  obtain ⟨H, hH⟩ : ∃ H, H = s.heap := ⟨_, rfl⟩
  rw [← hH] at hP
  have hS : va_S A s.heap H [] := by rw [hH]; exact hS
  rw [← hH]
  generalize ([] : List Loc) = locs at hS ⊢
  refine lv_aload_n hx hb dX2_useTick_0 rfl (lv_at hl 1 rfl) ?_
  refine lv_dup hx hb dX2_useTick_1 rfl ?_
  refine c_gTN (i := u) hx hb hts hinX1 hown hK hP hu 11 (by decide) (hN.fld (args := _) (a := "FeedbackQueues") (i := 124) (b := "FeedbackQueues$Task") (n := "ticksRun") (d := "I") (h' := "FeedbackQueues") (by decide +kernel)) rfl dX2_useTick_2 ?_
  refine lv_iconst (v := 1) hx hb dX2_useTick_5 (by decide) ?_
  refine lv_iadd hx hb dX2_useTick_6 ?_
  refine c_pTN (i := u) (ty := .int) (v := (cT S u 11) + 1) hx hb hts hinX1 hown hK hap hP hS hu 11 (by decide) (hN.fld (args := _) (a := "FeedbackQueues") (i := 124) (b := "FeedbackQueues$Task") (n := "ticksRun") (d := "I") (h' := "FeedbackQueues") (by decide +kernel)) rfl (by decide +kernel) rfl rfl (cTf_11 ad S u _) (Nat.le_of_ble_eq_true rfl) dX2_useTick_7 (fun H locs hP hS => ?_)
  obtain ⟨S1, eS1⟩ : ∃ z : Cs, z = sT S u 11 ((cT S u 11) + 1) := ⟨_, rfl⟩
  rw [← eS1] at hP
  have hok1 : okC N L b S1 := by rw [eS1]; exact okC_sT hok (by decide)
  refine lv_aload_n hx hb dX2_useTick_10 rfl (lv_at hl 1 rfl) ?_
  refine lv_dup hx hb dX2_useTick_11 rfl ?_
  refine c_gTN (i := u) hx hb hts hinX1 hown hK hP hu 7 (by decide) (hN.fld (args := _) (a := "FeedbackQueues") (i := 203) (b := "FeedbackQueues$Task") (n := "burstLeft") (d := "I") (h' := "FeedbackQueues") (by decide +kernel)) rfl dX2_useTick_12 ?_
  refine lv_iconst (v := 1) hx hb dX2_useTick_15 (by decide) ?_
  refine lv_isub hx hb dX2_useTick_16 ?_
  refine c_pTN (i := u) (ty := .int) (v := (cT S1 u 7) - 1) hx hb hts hinX1 hown hK hap hP hS hu 7 (by decide) (hN.fld (args := _) (a := "FeedbackQueues") (i := 203) (b := "FeedbackQueues$Task") (n := "burstLeft") (d := "I") (h' := "FeedbackQueues") (by decide +kernel)) rfl (by decide +kernel) rfl rfl (cTf_7 ad S1 u _) (Nat.le_of_ble_eq_true rfl) dX2_useTick_17 (fun H locs hP hS => ?_)
  obtain ⟨S2, eS2⟩ : ∃ z : Cs, z = sT S1 u 7 ((cT S1 u 7) - 1) := ⟨_, rfl⟩
  rw [← eS2] at hP
  have hok2 : okC N L b S2 := by rw [eS2]; exact okC_sT hok1 (by decide)
  refine lv_aload_n hx hb dX2_useTick_20 rfl (lv_at hl 1 rfl) ?_
  refine lv_dup hx hb dX2_useTick_21 rfl ?_
  refine c_gTN (i := u) hx hb hts hinX1 hown hK hP hu 8 (by decide) (hN.fld (args := _) (a := "FeedbackQueues") (i := 240) (b := "FeedbackQueues$Task") (n := "quantumLeft") (d := "I") (h' := "FeedbackQueues") (by decide +kernel)) rfl dX2_useTick_22 ?_
  refine lv_iconst (v := 1) hx hb dX2_useTick_25 (by decide) ?_
  refine lv_isub hx hb dX2_useTick_26 ?_
  refine c_pTN (i := u) (ty := .int) (v := (cT S2 u 8) - 1) hx hb hts hinX1 hown hK hap hP hS hu 8 (by decide) (hN.fld (args := _) (a := "FeedbackQueues") (i := 240) (b := "FeedbackQueues$Task") (n := "quantumLeft") (d := "I") (h' := "FeedbackQueues") (by decide +kernel)) rfl (by decide +kernel) rfl rfl (cTf_8 ad S2 u _) (Nat.le_of_ble_eq_true rfl) dX2_useTick_27 (fun H locs hP hS => ?_)
  obtain ⟨S3, eS3⟩ : ∃ z : Cs, z = sT S2 u 8 ((cT S2 u 8) - 1) := ⟨_, rfl⟩
  rw [← eS3] at hP
  have hok3 : okC N L b S3 := by rw [eS3]; exact okC_sT hok2 (by decide)
  refine lv_aload_n hx hb dX2_useTick_30 rfl (lv_at hl 1 rfl) ?_
  refine lv_dup hx hb dX2_useTick_31 rfl ?_
  refine c_gTN (i := u) hx hb hts hinX1 hown hK hP hu 9 (by decide) (hN.fld (args := _) (a := "FeedbackQueues") (i := 197) (b := "FeedbackQueues$Task") (n := "shareLeft") (d := "I") (h' := "FeedbackQueues") (by decide +kernel)) rfl dX2_useTick_32 ?_
  refine lv_iconst (v := 1) hx hb dX2_useTick_35 (by decide) ?_
  refine lv_isub hx hb dX2_useTick_36 ?_
  refine c_pTN (i := u) (ty := .int) (v := (cT S3 u 9) - 1) hx hb hts hinX1 hown hK hap hP hS hu 9 (by decide) (hN.fld (args := _) (a := "FeedbackQueues") (i := 197) (b := "FeedbackQueues$Task") (n := "shareLeft") (d := "I") (h' := "FeedbackQueues") (by decide +kernel)) rfl (by decide +kernel) rfl rfl (cTf_9 ad S3 u _) (Nat.le_of_ble_eq_true rfl) dX2_useTick_37 (fun H locs hP hS => ?_)
  obtain ⟨S4, eS4⟩ : ∃ z : Cs, z = sT S3 u 9 ((cT S3 u 9) - 1) := ⟨_, rfl⟩
  rw [← eS4] at hP
  have hok4 : okC N L b S4 := by rw [eS4]; exact okC_sT hok3 (by decide)
  refine lv_aload_n hx hb dX2_useTick_40 rfl (lv_at hl 1 rfl) ?_
  refine c_gTN (i := u) hx hb hts hinX1 hown hK hP hu 7 (by decide) (hN.fld (args := _) (a := "FeedbackQueues") (i := 203) (b := "FeedbackQueues$Task") (n := "burstLeft") (d := "I") (h' := "FeedbackQueues") (by decide +kernel)) rfl dX2_useTick_41 ?_
  refine lv_if_ne (tgt := 55) hx hb dX2_useTick_44 (by decide) (fun c_44 => ?_) (fun c_44 => ?_)
  · skip
    refine lv_aload_n hx hb dX2_useTick_55 rfl (lv_at hl 1 rfl) ?_
    refine c_gTN (i := u) hx hb hts hinX1 hown hK hP hu 9 (by decide) (hN.fld (args := _) (a := "FeedbackQueues") (i := 197) (b := "FeedbackQueues$Task") (n := "shareLeft") (d := "I") (h' := "FeedbackQueues") (by decide +kernel)) rfl dX2_useTick_56 ?_
    refine lv_if_gt (tgt := 70) hx hb dX2_useTick_59 (by decide) (fun c_59 => ?_) (fun c_59 => ?_)
    · skip
      refine lv_aload_n hx hb dX2_useTick_70 rfl (lv_at hl 1 rfl) ?_
      refine c_gTN (i := u) hx hb hts hinX1 hown hK hP hu 8 (by decide) (hN.fld (args := _) (a := "FeedbackQueues") (i := 240) (b := "FeedbackQueues$Task") (n := "quantumLeft") (d := "I") (h' := "FeedbackQueues") (by decide +kernel)) rfl dX2_useTick_71 ?_
      refine lv_if_ne (tgt := 85) hx hb dX2_useTick_74 (by decide) (fun c_74 => ?_) (fun c_74 => ?_)
      · skip
        have hF : F_X2_useTick S u = S4 := by subst eS4 eS3 eS2 eS1; simp only [F_X2_useTick, if_neg c_44, if_pos c_59, if_neg c_74]
        rw [hF]
        exact c_vret hx hb hr hlocks hP hS dX2_useTick_85 (fun _ h => h)
      · skip
        refine lv_aload_n hx hb dX2_useTick_77 rfl (lv_at hl 0 rfl) ?_
        refine lv_aload_n hx hb dX2_useTick_78 rfl (lv_at hl 1 rfl) ?_
        refine c_cVv (As := [.ref (ad (16 + 2 * u))]) (rest := []) (k := 0) (ci := 2) (q := (RX2, TX2, 12)) ⟨hx, hb, hml, hown, hts⟩ (k_X2_standAtEnd l D cy ad S4 u hu hok4) (cwV 1 hts gX2_useTick_X2_standAtEnd rfl rfl rfl (by decide +kernel) ⟨Nat.le_of_ble_eq_true rfl, Nat.le_of_ble_eq_true rfl⟩) hK hap hA hN hP hS (by omega) (cE_O cy ad S4) rfl rfl hl.1 rfl (Nat.le_of_ble_eq_true rfl) dX2_useTick_79 ⟨Nat.zero_le _, Nat.zero_le _⟩ (fun H locs hP hS => ?_)
        obtain ⟨S5, eS5⟩ : ∃ z : Cs, z = F_X2_standAtEnd S4 u := ⟨_, rfl⟩
        rw [← eS5] at hP
        have hok5 : okC N L b S5 := by rw [eS5]; exact ok_X2_standAtEnd hok4 hu
        refine lv_goto (tgt := 86) hx hb dX2_useTick_82 (by decide) ?_
        refine lv_aload_n hx hb dX2_useTick_86 rfl (lv_at hl 0 rfl) ?_
        refine lv_null hx hb dX2_useTick_87 ?_
        refine c_pNn hx hb hts hinX2 hown hK hap hP hS (hts (.fieldLink RX2 38 "FeedbackQueues" "onProcessor" "LFeedbackQueues$Task;") (by decide +kernel)) dX2_useTick_88 (fun H locs hP hS => ?_)
        obtain ⟨S6, eS6⟩ : ∃ z : Cs, z = sN S5 none := ⟨_, rfl⟩
        rw [← eS6] at hP
        have hok6 : okC N L b S6 := by rw [eS6]; exact okC_sN0 hok5
        have hF : F_X2_useTick S u = S6 := by subst eS6 eS5 eS4 eS3 eS2 eS1; simp only [F_X2_useTick, if_neg c_44, if_pos c_59, if_pos c_74]
        rw [hF]
        exact c_vret hx hb hr hlocks hP hS dX2_useTick_91 (fun _ h => h)
    · skip
      refine lv_aload_n hx hb dX2_useTick_62 rfl (lv_at hl 0 rfl) ?_
      refine lv_aload_n hx hb dX2_useTick_63 rfl (lv_at hl 1 rfl) ?_
      refine c_cVv (As := [.ref (ad (16 + 2 * u))]) (rest := []) (k := 0) (ci := 2) (q := (RX2, TX2, 12)) ⟨hx, hb, hml, hown, hts⟩ (k_X2_sendDown l D cy ad S4 u hu hok4) (cwV 1 hts gX2_useTick_X2_sendDown rfl rfl rfl (by decide +kernel) ⟨Nat.le_of_ble_eq_true rfl, Nat.le_of_ble_eq_true rfl⟩) hK hap hA hN hP hS (by omega) (cE_O cy ad S4) rfl rfl hl.1 rfl (Nat.le_of_ble_eq_true rfl) dX2_useTick_64 ⟨Nat.zero_le _, Nat.zero_le _⟩ (fun H locs hP hS => ?_)
      obtain ⟨S7, eS7⟩ : ∃ z : Cs, z = F_X2_sendDown S4 u := ⟨_, rfl⟩
      rw [← eS7] at hP
      have hok7 : okC N L b S7 := by rw [eS7]; exact ok_X2_sendDown hok4 hu
      refine lv_goto (tgt := 86) hx hb dX2_useTick_67 (by decide) ?_
      refine lv_aload_n hx hb dX2_useTick_86 rfl (lv_at hl 0 rfl) ?_
      refine lv_null hx hb dX2_useTick_87 ?_
      refine c_pNn hx hb hts hinX2 hown hK hap hP hS (hts (.fieldLink RX2 38 "FeedbackQueues" "onProcessor" "LFeedbackQueues$Task;") (by decide +kernel)) dX2_useTick_88 (fun H locs hP hS => ?_)
      obtain ⟨S8, eS8⟩ : ∃ z : Cs, z = sN S7 none := ⟨_, rfl⟩
      rw [← eS8] at hP
      have hok8 : okC N L b S8 := by rw [eS8]; exact okC_sN0 hok7
      have hF : F_X2_useTick S u = S8 := by subst eS8 eS7 eS4 eS3 eS2 eS1; simp only [F_X2_useTick, if_neg c_44, if_neg c_59]
      rw [hF]
      exact c_vret hx hb hr hlocks hP hS dX2_useTick_91 (fun _ h => h)
  · skip
    refine lv_aload_n hx hb dX2_useTick_47 rfl (lv_at hl 0 rfl) ?_
    refine lv_aload_n hx hb dX2_useTick_48 rfl (lv_at hl 1 rfl) ?_
    refine c_cVv (As := [.ref (ad (16 + 2 * u))]) (rest := []) (k := 0) (ci := 2) (q := (RX2, TX2, 12)) ⟨hx, hb, hml, hown, hts⟩ (k_X2_blockOrEnd l D cy ad S4 u hu hok4) (cwV 1 hts gX2_useTick_X2_blockOrEnd rfl rfl rfl (by decide +kernel) ⟨Nat.le_of_ble_eq_true rfl, Nat.le_of_ble_eq_true rfl⟩) hK hap hA hN hP hS (by omega) (cE_O cy ad S4) rfl rfl hl.1 rfl (Nat.le_of_ble_eq_true rfl) dX2_useTick_49 ⟨Nat.zero_le _, Nat.zero_le _⟩ (fun H locs hP hS => ?_)
    obtain ⟨S9, eS9⟩ : ∃ z : Cs, z = F_X2_blockOrEnd S4 u := ⟨_, rfl⟩
    rw [← eS9] at hP
    have hok9 : okC N L b S9 := by rw [eS9]; exact ok_X2_blockOrEnd hok4 hu
    refine lv_goto (tgt := 86) hx hb dX2_useTick_52 (by decide) ?_
    refine lv_aload_n hx hb dX2_useTick_86 rfl (lv_at hl 0 rfl) ?_
    refine lv_null hx hb dX2_useTick_87 ?_
    refine c_pNn hx hb hts hinX2 hown hK hap hP hS (hts (.fieldLink RX2 38 "FeedbackQueues" "onProcessor" "LFeedbackQueues$Task;") (by decide +kernel)) dX2_useTick_88 (fun H locs hP hS => ?_)
    obtain ⟨S10, eS10⟩ : ∃ z : Cs, z = sN S9 none := ⟨_, rfl⟩
    rw [← eS10] at hP
    have hok10 : okC N L b S10 := by rw [eS10]; exact okC_sN0 hok9
    have hF : F_X2_useTick S u = S10 := by subst eS10 eS9 eS4 eS3 eS2 eS1; simp only [F_X2_useTick, if_pos c_44]
    rw [hF]
    exact c_vret hx hb hr hlocks hP hS dX2_useTick_91 (fun _ h => h)
set_option maxHeartbeats 4000000 in
set_option maxRecDepth 100000 in
theorem k_X2_isOneReadyAbove (l : Launch) (D : va_G) (cy : Nat → ClassId) (ad : Nat → Nat) (S : Cs) (p1 : Int32)  {N L b : Nat} (hok : okC N L b S) (hp : ub 6 p1) : cMi l yX2_isOneReadyAbove wsX2_isOneReadyAbove { frames := 0, cells := 0, slots := 0, locals := 0 } D cy ad [.ref (ad 0), .int p1] S (F_X2_isOneReadyAbove S p1).1 (F_X2_isOneReadyAbove S p1).2 := by
  intro sz
  refine Met.ofW (cc := cX2_isOneReadyAbove) (maxL := 3) (ret := (some .boolean)) (by decide) rfl ?_
  intro p e s m args below meth c s₁ B hml hv
  obtain ⟨rfl, hsz, hP, hK, hap0, hN⟩ := hv
  have hx := B.exec
  have hb := B.bytes
  have hr := B.returns
  have hts := atoms_spec (ws := wsX2_isOneReadyAbove) B.pre
  have hown : s.vm.findClass RX2 = some m.cls := findClass_of_methodNamed B.named
  have hlocks := B.notSynchronized
  subst hsz
  have hap := gw_self (sz := s.heap.size) hap0
  generalize hAe : gA 48 ad s.heap.size = A at hap ⊢
  have hA : ∀ q : Nat, s.heap.size ≤ q → A q := fun q h => by rw [← hAe]; exact Or.inr h
  have hS : va_S A s.heap s.heap [] := va_S.rf
  have hinX0 : ∀ w ∈ wsX00, w ∈ wsX2_isOneReadyAbove := by decide +kernel
  have hinX2 : ∀ w ∈ wsX20, w ∈ wsX2_isOneReadyAbove := by decide +kernel
  have hl := lv_entry ([.ref (ad 0), .int p1]) (n := 3) (Nat.le_of_ble_eq_true rfl)
  rw [lg_entry_eq]
  generalize (lg_sl ([.ref (ad 0), .int p1]) ++ List.replicate (3 - (lg_sl ([.ref (ad 0), .int p1])).length) Slot.unset).toArray = ls at hl ⊢
  have hl : lv_has ls 3 [(0, .ref (ad 0)), (1, .int p1)] := hl
  obtain ⟨H, hH⟩ : ∃ H, H = s.heap := ⟨_, rfl⟩
  rw [← hH] at hP
  have hS : va_S A s.heap H [] := by rw [hH]; exact hS
  rw [← hH]
  generalize ([] : List Loc) = locs at hS ⊢
  refine lv_iconst (v := 0) hx hb dX2_isOneReadyAbove_0 (by decide) ?_
  refine lv_istore_n (lv' := [(2, .int 0), (0, .ref (ad 0)), (1, .int p1)]) hx hb dX2_isOneReadyAbove_1 rfl hl (by decide) rfl (fun ls hl => ?_)
  have hp6 := ub_le hp (by omega)
  have lp_2 : ∀ (n t : Nat) (Z : Cs) (H : Heap) (locs : List Loc) (ls : Array Slot), t + n = (p1).toNatClampNeg → okC N L b Z → F_X2_isOneReadyAbove S p1 = L_X2_isOneReadyAbove_2 p1 n t Z → va_P D vwCl (cwl cy ad Z) H → va_S A s.heap H locs → lv_has ls 3 [(2, .int (nI t)), (0, .ref (ad 0)), (1, .int p1)] → W p l e (headSpec wsX2_isOneReadyAbove { frames := 0, cells := 0, slots := 0, locals := 0 }).room s m ([.ref (ad 0), .int p1] : List Value).toArray below meth c H locs 0 0 (MQ below (va_Qi (fun (x : Int32) (_ : Unit) => x = (F_X2_isOneReadyAbove S p1).2) (fun _ t => cPost D cy ad (F_X2_isOneReadyAbove S p1).1 t) A) ([.ref (ad 0), .int p1] : List Value).toArray s 0 0 A) (F0 m 2 ls []) := by
    intro n
    induction n with
    | zero =>
      intro t Z H locs ls hk hI hT hP hS hl
      refine lv_iload_n hx hb dX2_isOneReadyAbove_2 rfl (lv_at hl 0 rfl) ?_
      refine lv_iload_n hx hb dX2_isOneReadyAbove_3 rfl (lv_at hl 2 rfl) ?_
      refine lv_icmp_ge (tgt := 27) hx hb dX2_isOneReadyAbove_4 (by decide) (fun c_4 => ?_) (fun c_4 => ?_)
      rotate_left
      · exact absurd (by rw [ub_nI hp (by omega)]; exact nI_le (by omega) (by omega)) c_4
      refine lv_iconst (v := 0) hx hb dX2_isOneReadyAbove_27 (by decide) ?_
      have hF : F_X2_isOneReadyAbove S p1 = (Z, 0) := hT.trans (by simp only [L_X2_isOneReadyAbove_2])
      rw [hF]
      exact c_zret hx hb hr hlocks narrow_b0 hP hS dX2_isOneReadyAbove_28 (fun _ h => h)
    | succ n ih =>
      intro t Z H locs ls hk hI hT hP hS hl
      have ht : t < (p1).toNatClampNeg := by omega
      refine lv_iload_n hx hb dX2_isOneReadyAbove_2 rfl (lv_at hl 0 rfl) ?_
      refine lv_iload_n hx hb dX2_isOneReadyAbove_3 rfl (lv_at hl 2 rfl) ?_
      refine lv_icmp_ge (tgt := 27) hx hb dX2_isOneReadyAbove_4 (by decide) (fun c_4 => ?_) (fun c_4 => ?_)
      · exact absurd c_4 (by rw [ub_nI hp (by omega)]; exact nI_ge (by omega) (by omega))
      refine lv_aload_n hx hb dX2_isOneReadyAbove_7 rfl (lv_at hl 1 rfl) ?_
      refine c_gO hx hb hts hinX2 hown hK hP 0 (by decide) (hts (.fieldLink RX2 11 "FeedbackQueues" "levelRows" "[LFeedbackQueues$Level;") (by decide +kernel)) rfl dX2_isOneReadyAbove_8 ?_
      refine lv_iload_n hx hb dX2_isOneReadyAbove_11 rfl (lv_at hl 0 rfl) ?_
      refine c_aL (k := t) hx hb hK hP (ix_nI (by omega) (by omega)) dX2_isOneReadyAbove_12 ?_
      refine c_gLN (i := t) hx hb hts hinX0 hown hK hP ((ix_nI (by omega) (by omega)).2.2) 3 (by decide) (hN.fld (args := _) (a := "FeedbackQueues") (i := 227) (b := "FeedbackQueues$Level") (n := "size") (d := "I") (h' := "FeedbackQueues") (by decide +kernel)) rfl dX2_isOneReadyAbove_13 ?_
      refine lv_if_le (tgt := 21) hx hb dX2_isOneReadyAbove_16 (by decide) (fun c_16 => ?_) (fun c_16 => ?_)
      · skip
        refine lv_iinc (v := nI (t + 1)) (lv' := [(2, .int (nI (t + 1))), (0, .ref (ad 0)), (1, .int p1)]) hx hb dX2_isOneReadyAbove_21 hl (k := 0) rfl (inc_nI t) (by decide) rfl (fun ls hl => ?_)
        refine lv_goto (tgt := 2) hx hb dX2_isOneReadyAbove_24 (by decide) ?_
        exact ih (t + 1) Z H locs ls (by omega) (hI) (hT.trans (by simp only [L_X2_isOneReadyAbove_2, if_pos c_16])) hP hS (lv_sub hl [0, 1, 2] rfl)
      · skip
        refine lv_iconst (v := 1) hx hb dX2_isOneReadyAbove_19 (by decide) ?_
        have hF : F_X2_isOneReadyAbove S p1 = (Z, 1) := hT.trans (by simp only [L_X2_isOneReadyAbove_2, if_neg c_16])
        rw [hF]
        exact c_zret hx hb hr hlocks narrow_b1 hP hS dX2_isOneReadyAbove_20 (fun _ h => h)
  exact lp_2 ((p1).toNatClampNeg) 0 S H locs ls (by omega) (hok) (by simp only [F_X2_isOneReadyAbove]) hP hS (by rw [show nI 0 = 0 from by decide]; exact lv_sub hl [0, 1, 2] rfl)
set_option maxHeartbeats 4000000 in
set_option maxRecDepth 100000 in
theorem k_X2_countWaiting (l : Launch) (D : va_G) (cy : Nat → ClassId) (ad : Nat → Nat) (S : Cs)   {N L b : Nat} (hok : okC N L b S)  : cMv l yX2_countWaiting wsX2_countWaiting { frames := 0, cells := 0, slots := 0, locals := 0 } D cy ad [.ref (ad 0)] S (F_X2_countWaiting S ) := by
  intro sz
  refine Met.ofW (cc := cX2_countWaiting) (maxL := 3) (ret := none) (by decide) rfl ?_
  intro p e s m args below meth c s₁ B hml hv
  obtain ⟨rfl, hsz, hP, hK, hap0, hN⟩ := hv
  have hx := B.exec
  have hb := B.bytes
  have hr := B.returns
  have hts := atoms_spec (ws := wsX2_countWaiting) B.pre
  have hown : s.vm.findClass RX2 = some m.cls := findClass_of_methodNamed B.named
  have hlocks := B.notSynchronized
  subst hsz
  have hap := gw_self (sz := s.heap.size) hap0
  generalize hAe : gA 48 ad s.heap.size = A at hap ⊢
  have hA : ∀ q : Nat, s.heap.size ≤ q → A q := fun q h => by rw [← hAe]; exact Or.inr h
  have hS : va_S A s.heap s.heap [] := va_S.rf
  have hinX1 : ∀ w ∈ wsX10, w ∈ wsX2_countWaiting := by decide +kernel
  have hinX2 : ∀ w ∈ wsX20, w ∈ wsX2_countWaiting := by decide +kernel
  have hl := lv_entry ([.ref (ad 0)]) (n := 3) (Nat.le_of_ble_eq_true rfl)
  rw [lg_entry_eq]
  generalize (lg_sl ([.ref (ad 0)]) ++ List.replicate (3 - (lg_sl ([.ref (ad 0)])).length) Slot.unset).toArray = ls at hl ⊢
  have hl : lv_has ls 3 [(0, .ref (ad 0))] := hl
  obtain ⟨H, hH⟩ : ∃ H, H = s.heap := ⟨_, rfl⟩
  rw [← hH] at hP
  have hS : va_S A s.heap H [] := by rw [hH]; exact hS
  rw [← hH]
  generalize ([] : List Loc) = locs at hS ⊢
  refine lv_iconst (v := 0) hx hb dX2_countWaiting_0 (by decide) ?_
  refine lv_istore_n (lv' := [(1, .int 0), (0, .ref (ad 0))]) hx hb dX2_countWaiting_1 rfl hl (by decide) rfl (fun ls hl => ?_)
  have hNe : (cO S 4).toNatClampNeg = N := okC_N hok
  have hN16 : N ≤ 16 := hok.2.2.1
  have lp_2 : ∀ (Q : State → Prop) (n t : Nat) (Z : Cs) (H : Heap) (locs : List Loc) (ls : Array Slot), t + n = (cO S 4).toNatClampNeg → okC N L b Z → va_P D vwCl (cwl cy ad Z) H → va_S A s.heap H locs → lv_has ls 3 [(1, .int (nI t)), (0, .ref (ad 0))] → (∀ (H : Heap) (locs : List Loc) (ls : Array Slot), va_P D vwCl (cwl cy ad (itr B_X2_countWaiting_2 n t Z)) H → va_S A s.heap H locs → lv_has ls 3 [(1, .int (nI ((cO S 4).toNatClampNeg))), (0, .ref (ad 0))] → W p l e (headSpec wsX2_countWaiting { frames := 0, cells := 0, slots := 0, locals := 0 }).room s m ([.ref (ad 0)] : List Value).toArray below meth c H locs 0 0 Q (F0 m 72 ls [])) → W p l e (headSpec wsX2_countWaiting { frames := 0, cells := 0, slots := 0, locals := 0 }).room s m ([.ref (ad 0)] : List Value).toArray below meth c H locs 0 0 Q (F0 m 2 ls []) := by
    intro Q n
    induction n with
    | zero =>
      intro t Z H locs ls hk hI hP hS hl K
      refine lv_iload_n hx hb dX2_countWaiting_2 rfl (lv_at hl 0 rfl) ?_
      refine lv_aload_n hx hb dX2_countWaiting_3 rfl (lv_at hl 1 rfl) ?_
      refine c_gO hx hb hts hinX2 hown hK hP 4 (by decide) (hts (.fieldLink RX2 29 "FeedbackQueues" "taskCount" "I") (by decide +kernel)) rfl dX2_countWaiting_4 ?_
      refine lv_icmp_ge (tgt := 72) hx hb dX2_countWaiting_7 (by decide) (fun c_7 => ?_) (fun c_7 => ?_)
      rotate_left
      · exact absurd (by rw [show cO Z 4 = nI ((cO S 4).toNatClampNeg) from by rw [hNe]; exact hI.1]; exact nI_le (by omega) (by omega)) c_7
      have hiN : t = (cO S 4).toNatClampNeg := by omega
      rw [hiN] at hl
      exact K H locs ls hP hS (lv_sub hl [0, 1] rfl)
    | succ n ih =>
      intro t Z H locs ls hk hI hP hS hl K
      have ht : t < (cO S 4).toNatClampNeg := by omega
      refine lv_iload_n hx hb dX2_countWaiting_2 rfl (lv_at hl 0 rfl) ?_
      refine lv_aload_n hx hb dX2_countWaiting_3 rfl (lv_at hl 1 rfl) ?_
      refine c_gO hx hb hts hinX2 hown hK hP 4 (by decide) (hts (.fieldLink RX2 29 "FeedbackQueues" "taskCount" "I") (by decide +kernel)) rfl dX2_countWaiting_4 ?_
      refine lv_icmp_ge (tgt := 72) hx hb dX2_countWaiting_7 (by decide) (fun c_7 => ?_) (fun c_7 => ?_)
      · exact absurd c_7 (by rw [show cO Z 4 = nI ((cO S 4).toNatClampNeg) from by rw [hNe]; exact hI.1]; exact nI_ge (by omega) (by omega))
      refine lv_aload_n hx hb dX2_countWaiting_10 rfl (lv_at hl 1 rfl) ?_
      refine c_gO hx hb hts hinX2 hown hK hP 1 (by decide) (hts (.fieldLink RX2 17 "FeedbackQueues" "tasks" "[LFeedbackQueues$Task;") (by decide +kernel)) rfl dX2_countWaiting_11 ?_
      refine lv_iload_n hx hb dX2_countWaiting_14 rfl (lv_at hl 0 rfl) ?_
      refine c_aT (k := t) hx hb hK hP (ix_nI (by omega) (by omega)) dX2_countWaiting_15 ?_
      refine lv_astore_n (lv' := [(2, .ref (ad (16 + 2 * t))), (1, .int (nI t)), (0, .ref (ad 0))]) hx hb dX2_countWaiting_16 rfl hl (by decide) rfl (fun ls hl => ?_)
      refine lv_aload_n hx hb dX2_countWaiting_17 rfl (lv_at hl 0 rfl) ?_
      refine c_gTN (i := t) hx hb hts hinX1 hown hK hP ((ix_nI (by omega) (by omega)).2.2) 4 (by decide) (hN.fld (args := _) (a := "FeedbackQueues") (i := 118) (b := "FeedbackQueues$Task") (n := "state") (d := "I") (h' := "FeedbackQueues") (by decide +kernel)) rfl dX2_countWaiting_18 ?_
      refine lv_iconst (v := 1) hx hb dX2_countWaiting_21 (by decide) ?_
      refine lv_icmp_ne (tgt := 38) hx hb dX2_countWaiting_22 (by decide) (fun c_22 => ?_) (fun c_22 => ?_)
      · skip
        refine lv_aload_n hx hb dX2_countWaiting_38 rfl (lv_at hl 0 rfl) ?_
        refine c_gTN (i := t) hx hb hts hinX1 hown hK hP ((ix_nI (by omega) (by omega)).2.2) 4 (by decide) (hN.fld (args := _) (a := "FeedbackQueues") (i := 118) (b := "FeedbackQueues$Task") (n := "state") (d := "I") (h' := "FeedbackQueues") (by decide +kernel)) rfl dX2_countWaiting_39 ?_
        refine lv_iconst (v := 3) hx hb dX2_countWaiting_42 (by decide) ?_
        refine lv_icmp_ne (tgt := 66) hx hb dX2_countWaiting_43 (by decide) (fun c_43 => ?_) (fun c_43 => ?_)
        · skip
          refine lv_iinc (v := nI (t + 1)) (lv' := [(1, .int (nI (t + 1))), (2, .ref (ad (16 + 2 * t))), (0, .ref (ad 0))]) hx hb dX2_countWaiting_66 hl (k := 1) rfl (inc_nI t) (by decide) rfl (fun ls hl => ?_)
          refine lv_goto (tgt := 2) hx hb dX2_countWaiting_69 (by decide) ?_
          have hF : B_X2_countWaiting_2 t Z = Z := by simp only [B_X2_countWaiting_2, if_neg c_22, if_neg c_43]
          rw [← hF] at hP
          exact ih (t + 1) (B_X2_countWaiting_2 t Z) H locs ls (by omega) (ok_B_countWaiting hI (by omega)) hP hS (lv_sub hl [0, 2] rfl) K
        · skip
          refine lv_aload_n hx hb dX2_countWaiting_46 rfl (lv_at hl 0 rfl) ?_
          refine lv_dup hx hb dX2_countWaiting_47 rfl ?_
          refine c_gTN (i := t) hx hb hts hinX1 hown hK hP ((ix_nI (by omega) (by omega)).2.2) 13 (by decide) (hN.fld (args := _) (a := "FeedbackQueues") (i := 130) (b := "FeedbackQueues$Task") (n := "ticksBlocked") (d := "I") (h' := "FeedbackQueues") (by decide +kernel)) rfl dX2_countWaiting_48 ?_
          refine lv_iconst (v := 1) hx hb dX2_countWaiting_51 (by decide) ?_
          refine lv_iadd hx hb dX2_countWaiting_52 ?_
          refine c_pTN (i := t) (ty := .int) (v := (cT Z t 13) + 1) hx hb hts hinX1 hown hK hap hP hS ((ix_nI (by omega) (by omega)).2.2) 13 (by decide) (hN.fld (args := _) (a := "FeedbackQueues") (i := 130) (b := "FeedbackQueues$Task") (n := "ticksBlocked") (d := "I") (h' := "FeedbackQueues") (by decide +kernel)) rfl (by decide +kernel) rfl rfl (cTf_13 ad Z t _) (Nat.le_of_ble_eq_true rfl) dX2_countWaiting_53 (fun H locs hP hS => ?_)
          obtain ⟨S1, eS1⟩ : ∃ z : Cs, z = sT Z t 13 ((cT Z t 13) + 1) := ⟨_, rfl⟩
          rw [← eS1] at hP
          have hok1 : okC N L b S1 := by rw [eS1]; exact okC_sT hI (by decide)
          refine lv_aload_n hx hb dX2_countWaiting_56 rfl (lv_at hl 0 rfl) ?_
          refine lv_dup hx hb dX2_countWaiting_57 rfl ?_
          refine c_gTN (i := t) hx hb hts hinX1 hown hK hP ((ix_nI (by omega) (by omega)).2.2) 7 (by decide) (hN.fld (args := _) (a := "FeedbackQueues") (i := 203) (b := "FeedbackQueues$Task") (n := "burstLeft") (d := "I") (h' := "FeedbackQueues") (by decide +kernel)) rfl dX2_countWaiting_58 ?_
          refine lv_iconst (v := 1) hx hb dX2_countWaiting_61 (by decide) ?_
          refine lv_isub hx hb dX2_countWaiting_62 ?_
          refine c_pTN (i := t) (ty := .int) (v := (cT S1 t 7) - 1) hx hb hts hinX1 hown hK hap hP hS ((ix_nI (by omega) (by omega)).2.2) 7 (by decide) (hN.fld (args := _) (a := "FeedbackQueues") (i := 203) (b := "FeedbackQueues$Task") (n := "burstLeft") (d := "I") (h' := "FeedbackQueues") (by decide +kernel)) rfl (by decide +kernel) rfl rfl (cTf_7 ad S1 t _) (Nat.le_of_ble_eq_true rfl) dX2_countWaiting_63 (fun H locs hP hS => ?_)
          obtain ⟨S2, eS2⟩ : ∃ z : Cs, z = sT S1 t 7 ((cT S1 t 7) - 1) := ⟨_, rfl⟩
          rw [← eS2] at hP
          have hok2 : okC N L b S2 := by rw [eS2]; exact okC_sT hok1 (by decide)
          refine lv_iinc (v := nI (t + 1)) (lv' := [(1, .int (nI (t + 1))), (2, .ref (ad (16 + 2 * t))), (0, .ref (ad 0))]) hx hb dX2_countWaiting_66 hl (k := 1) rfl (inc_nI t) (by decide) rfl (fun ls hl => ?_)
          refine lv_goto (tgt := 2) hx hb dX2_countWaiting_69 (by decide) ?_
          have hF : B_X2_countWaiting_2 t Z = S2 := by subst eS2 eS1; simp only [B_X2_countWaiting_2, if_neg c_22, if_pos c_43]
          rw [← hF] at hP
          exact ih (t + 1) (B_X2_countWaiting_2 t Z) H locs ls (by omega) (ok_B_countWaiting hI (by omega)) hP hS (lv_sub hl [0, 2] rfl) K
      · skip
        refine lv_aload_n hx hb dX2_countWaiting_25 rfl (lv_at hl 0 rfl) ?_
        refine lv_dup hx hb dX2_countWaiting_26 rfl ?_
        refine c_gTN (i := t) hx hb hts hinX1 hown hK hP ((ix_nI (by omega) (by omega)).2.2) 12 (by decide) (hN.fld (args := _) (a := "FeedbackQueues") (i := 127) (b := "FeedbackQueues$Task") (n := "ticksReady") (d := "I") (h' := "FeedbackQueues") (by decide +kernel)) rfl dX2_countWaiting_27 ?_
        refine lv_iconst (v := 1) hx hb dX2_countWaiting_30 (by decide) ?_
        refine lv_iadd hx hb dX2_countWaiting_31 ?_
        refine c_pTN (i := t) (ty := .int) (v := (cT Z t 12) + 1) hx hb hts hinX1 hown hK hap hP hS ((ix_nI (by omega) (by omega)).2.2) 12 (by decide) (hN.fld (args := _) (a := "FeedbackQueues") (i := 127) (b := "FeedbackQueues$Task") (n := "ticksReady") (d := "I") (h' := "FeedbackQueues") (by decide +kernel)) rfl (by decide +kernel) rfl rfl (cTf_12 ad Z t _) (Nat.le_of_ble_eq_true rfl) dX2_countWaiting_32 (fun H locs hP hS => ?_)
        obtain ⟨S3, eS3⟩ : ∃ z : Cs, z = sT Z t 12 ((cT Z t 12) + 1) := ⟨_, rfl⟩
        rw [← eS3] at hP
        have hok3 : okC N L b S3 := by rw [eS3]; exact okC_sT hI (by decide)
        refine lv_goto (tgt := 66) hx hb dX2_countWaiting_35 (by decide) ?_
        refine lv_iinc (v := nI (t + 1)) (lv' := [(1, .int (nI (t + 1))), (2, .ref (ad (16 + 2 * t))), (0, .ref (ad 0))]) hx hb dX2_countWaiting_66 hl (k := 1) rfl (inc_nI t) (by decide) rfl (fun ls hl => ?_)
        refine lv_goto (tgt := 2) hx hb dX2_countWaiting_69 (by decide) ?_
        have hF : B_X2_countWaiting_2 t Z = S3 := by subst eS3; simp only [B_X2_countWaiting_2, if_pos c_22]
        rw [← hF] at hP
        exact ih (t + 1) (B_X2_countWaiting_2 t Z) H locs ls (by omega) (ok_B_countWaiting hI (by omega)) hP hS (lv_sub hl [0, 2] rfl) K
  refine lp_2 _ ((cO S 4).toNatClampNeg) 0 S H locs ls (by omega) (hok) hP hS (by rw [show nI 0 = 0 from by decide]; exact lv_sub hl [0, 1] rfl) (fun H locs ls hP hS hl => ?_)
  obtain ⟨S4, eS4⟩ : ∃ z : Cs, z = itr B_X2_countWaiting_2 ((cO S 4).toNatClampNeg) 0 S := ⟨_, rfl⟩
  rw [← eS4] at hP
  have hF : F_X2_countWaiting S  = S4 := by subst eS4; simp only [F_X2_countWaiting]
  rw [hF]
  exact c_vret hx hb hr hlocks hP hS dX2_countWaiting_72 (fun _ h => h)
set_option maxHeartbeats 4000000 in
set_option maxRecDepth 100000 in
theorem k_X2_letArrive (l : Launch) (D : va_G) (cy : Nat → ClassId) (ad : Nat → Nat) (S : Cs)   {N L b : Nat} (hok : okC N L b S)  : cMv l yX2_letArrive wsX2_letArrive { frames := 3, cells := 0, slots := 0, locals := 63 } D cy ad [.ref (ad 0)] S (F_X2_letArrive S ) := by
  intro sz
  refine Met.ofW (cc := cX2_letArrive) (maxL := 3) (ret := none) (by decide) rfl ?_
  intro p e s m args below meth c s₁ B hml hv
  obtain ⟨rfl, hsz, hP, hK, hap0, hN⟩ := hv
  have hx := B.exec
  have hb := B.bytes
  have hr := B.returns
  have hts := atoms_spec (ws := wsX2_letArrive) B.pre
  have hown : s.vm.findClass RX2 = some m.cls := findClass_of_methodNamed B.named
  have hlocks := B.notSynchronized
  subst hsz
  have hap := gw_self (sz := s.heap.size) hap0
  generalize hAe : gA 48 ad s.heap.size = A at hap ⊢
  have hA : ∀ q : Nat, s.heap.size ≤ q → A q := fun q h => by rw [← hAe]; exact Or.inr h
  have hS : va_S A s.heap s.heap [] := va_S.rf
  have hinX0 : ∀ w ∈ wsX00, w ∈ wsX2_letArrive := by decide +kernel
  have hinX1 : ∀ w ∈ wsX10, w ∈ wsX2_letArrive := by decide +kernel
  have hinX2 : ∀ w ∈ wsX20, w ∈ wsX2_letArrive := by decide +kernel
  have hl := lv_entry ([.ref (ad 0)]) (n := 3) (Nat.le_of_ble_eq_true rfl)
  rw [lg_entry_eq]
  generalize (lg_sl ([.ref (ad 0)]) ++ List.replicate (3 - (lg_sl ([.ref (ad 0)])).length) Slot.unset).toArray = ls at hl ⊢
  have hl : lv_has ls 3 [(0, .ref (ad 0))] := hl
  obtain ⟨H, hH⟩ : ∃ H, H = s.heap := ⟨_, rfl⟩
  rw [← hH] at hP
  have hS : va_S A s.heap H [] := by rw [hH]; exact hS
  rw [← hH]
  generalize ([] : List Loc) = locs at hS ⊢
  refine lv_iconst (v := 0) hx hb dX2_letArrive_0 (by decide) ?_
  refine lv_istore_n (lv' := [(1, .int 0), (0, .ref (ad 0))]) hx hb dX2_letArrive_1 rfl hl (by decide) rfl (fun ls hl => ?_)
  have hNe : (cO S 4).toNatClampNeg = N := okC_N hok
  have hN16 : N ≤ 16 := hok.2.2.1
  have lp_2 : ∀ (Q : State → Prop) (n t : Nat) (Z : Cs) (H : Heap) (locs : List Loc) (ls : Array Slot), t + n = (cO S 4).toNatClampNeg → okC N L b Z → va_P D vwCl (cwl cy ad Z) H → va_S A s.heap H locs → lv_has ls 3 [(1, .int (nI t)), (0, .ref (ad 0))] → (∀ (H : Heap) (locs : List Loc) (ls : Array Slot), va_P D vwCl (cwl cy ad (itr B_X2_letArrive_2 n t Z)) H → va_S A s.heap H locs → lv_has ls 3 [(1, .int (nI ((cO S 4).toNatClampNeg))), (0, .ref (ad 0))] → W p l e (headSpec wsX2_letArrive { frames := 3, cells := 0, slots := 0, locals := 63 }).room s m ([.ref (ad 0)] : List Value).toArray below meth c H locs 0 0 Q (F0 m 59 ls [])) → W p l e (headSpec wsX2_letArrive { frames := 3, cells := 0, slots := 0, locals := 63 }).room s m ([.ref (ad 0)] : List Value).toArray below meth c H locs 0 0 Q (F0 m 2 ls []) := by
    intro Q n
    induction n with
    | zero =>
      intro t Z H locs ls hk hI hP hS hl K
      refine lv_iload_n hx hb dX2_letArrive_2 rfl (lv_at hl 0 rfl) ?_
      refine lv_aload_n hx hb dX2_letArrive_3 rfl (lv_at hl 1 rfl) ?_
      refine c_gO hx hb hts hinX2 hown hK hP 4 (by decide) (hts (.fieldLink RX2 29 "FeedbackQueues" "taskCount" "I") (by decide +kernel)) rfl dX2_letArrive_4 ?_
      refine lv_icmp_ge (tgt := 59) hx hb dX2_letArrive_7 (by decide) (fun c_7 => ?_) (fun c_7 => ?_)
      rotate_left
      · exact absurd (by rw [show cO Z 4 = nI ((cO S 4).toNatClampNeg) from by rw [hNe]; exact hI.1]; exact nI_le (by omega) (by omega)) c_7
      have hiN : t = (cO S 4).toNatClampNeg := by omega
      rw [hiN] at hl
      exact K H locs ls hP hS (lv_sub hl [0, 1] rfl)
    | succ n ih =>
      intro t Z H locs ls hk hI hP hS hl K
      have ht : t < (cO S 4).toNatClampNeg := by omega
      refine lv_iload_n hx hb dX2_letArrive_2 rfl (lv_at hl 0 rfl) ?_
      refine lv_aload_n hx hb dX2_letArrive_3 rfl (lv_at hl 1 rfl) ?_
      refine c_gO hx hb hts hinX2 hown hK hP 4 (by decide) (hts (.fieldLink RX2 29 "FeedbackQueues" "taskCount" "I") (by decide +kernel)) rfl dX2_letArrive_4 ?_
      refine lv_icmp_ge (tgt := 59) hx hb dX2_letArrive_7 (by decide) (fun c_7 => ?_) (fun c_7 => ?_)
      · exact absurd c_7 (by rw [show cO Z 4 = nI ((cO S 4).toNatClampNeg) from by rw [hNe]; exact hI.1]; exact nI_ge (by omega) (by omega))
      refine lv_aload_n hx hb dX2_letArrive_10 rfl (lv_at hl 1 rfl) ?_
      refine c_gO hx hb hts hinX2 hown hK hP 1 (by decide) (hts (.fieldLink RX2 17 "FeedbackQueues" "tasks" "[LFeedbackQueues$Task;") (by decide +kernel)) rfl dX2_letArrive_11 ?_
      refine lv_iload_n hx hb dX2_letArrive_14 rfl (lv_at hl 0 rfl) ?_
      refine c_aT (k := t) hx hb hK hP (ix_nI (by omega) (by omega)) dX2_letArrive_15 ?_
      refine lv_astore_n (lv' := [(2, .ref (ad (16 + 2 * t))), (1, .int (nI t)), (0, .ref (ad 0))]) hx hb dX2_letArrive_16 rfl hl (by decide) rfl (fun ls hl => ?_)
      refine lv_aload_n hx hb dX2_letArrive_17 rfl (lv_at hl 0 rfl) ?_
      refine c_gTN (i := t) hx hb hts hinX1 hown hK hP ((ix_nI (by omega) (by omega)).2.2) 4 (by decide) (hN.fld (args := _) (a := "FeedbackQueues") (i := 118) (b := "FeedbackQueues$Task") (n := "state") (d := "I") (h' := "FeedbackQueues") (by decide +kernel)) rfl dX2_letArrive_18 ?_
      refine lv_if_ne (tgt := 53) hx hb dX2_letArrive_21 (by decide) (fun c_21 => ?_) (fun c_21 => ?_)
      · skip
        refine lv_iinc (v := nI (t + 1)) (lv' := [(1, .int (nI (t + 1))), (2, .ref (ad (16 + 2 * t))), (0, .ref (ad 0))]) hx hb dX2_letArrive_53 hl (k := 1) rfl (inc_nI t) (by decide) rfl (fun ls hl => ?_)
        refine lv_goto (tgt := 2) hx hb dX2_letArrive_56 (by decide) ?_
        have hF : B_X2_letArrive_2 t Z = Z := by simp only [B_X2_letArrive_2, if_neg c_21]
        rw [← hF] at hP
        exact ih (t + 1) (B_X2_letArrive_2 t Z) H locs ls (by omega) (ok_B_letArrive hI (by omega)) hP hS (lv_sub hl [0, 2] rfl) K
      · skip
        refine lv_aload_n hx hb dX2_letArrive_24 rfl (lv_at hl 0 rfl) ?_
        refine c_gTN (i := t) hx hb hts hinX1 hown hK hP ((ix_nI (by omega) (by omega)).2.2) 1 (by decide) (hN.fld (args := _) (a := "FeedbackQueues") (i := 194) (b := "FeedbackQueues$Task") (n := "arrival") (d := "I") (h' := "FeedbackQueues") (by decide +kernel)) rfl dX2_letArrive_25 ?_
        refine lv_aload_n hx hb dX2_letArrive_28 rfl (lv_at hl 2 rfl) ?_
        refine c_gO hx hb hts hinX2 hown hK hP 6 (by decide) (hts (.fieldLink RX2 35 "FeedbackQueues" "now" "I") (by decide +kernel)) rfl dX2_letArrive_29 ?_
        refine lv_icmp_ne (tgt := 53) hx hb dX2_letArrive_32 (by decide) (fun c_32 => ?_) (fun c_32 => ?_)
        · skip
          refine lv_iinc (v := nI (t + 1)) (lv' := [(1, .int (nI (t + 1))), (2, .ref (ad (16 + 2 * t))), (0, .ref (ad 0))]) hx hb dX2_letArrive_53 hl (k := 1) rfl (inc_nI t) (by decide) rfl (fun ls hl => ?_)
          refine lv_goto (tgt := 2) hx hb dX2_letArrive_56 (by decide) ?_
          have hF : B_X2_letArrive_2 t Z = Z := by simp only [B_X2_letArrive_2, if_pos c_21, if_neg c_32]
          rw [← hF] at hP
          exact ih (t + 1) (B_X2_letArrive_2 t Z) H locs ls (by omega) (ok_B_letArrive hI (by omega)) hP hS (lv_sub hl [0, 2] rfl) K
        · skip
          refine lv_aload_n hx hb dX2_letArrive_35 rfl (lv_at hl 0 rfl) ?_
          refine lv_aload_n hx hb dX2_letArrive_36 rfl (lv_at hl 2 rfl) ?_
          refine c_gO hx hb hts hinX2 hown hK hP 0 (by decide) (hts (.fieldLink RX2 11 "FeedbackQueues" "levelRows" "[LFeedbackQueues$Level;") (by decide +kernel)) rfl dX2_letArrive_37 ?_
          refine lv_iconst (v := 0) hx hb dX2_letArrive_40 (by decide) ?_
          refine c_aL (k := 0) hx hb hK hP (ix_lit (by decide) (by omega) (by omega)) dX2_letArrive_41 ?_
          refine c_gLN (i := 0) hx hb hts hinX0 hown hK hP (show 0 < 6 from by decide) 1 (by decide) (hN.fld (args := _) (a := "FeedbackQueues") (i := 68) (b := "FeedbackQueues$Level") (n := "share") (d := "I") (h' := "FeedbackQueues") (by decide +kernel)) rfl dX2_letArrive_42 ?_
          refine c_pTN (i := t) (ty := .int) (v := cL Z 0 1) hx hb hts hinX1 hown hK hap hP hS ((ix_nI (by omega) (by omega)).2.2) 9 (by decide) (hN.fld (args := _) (a := "FeedbackQueues") (i := 197) (b := "FeedbackQueues$Task") (n := "shareLeft") (d := "I") (h' := "FeedbackQueues") (by decide +kernel)) rfl (by decide +kernel) rfl rfl (cTf_9 ad Z t _) (Nat.le_of_ble_eq_true rfl) dX2_letArrive_45 (fun H locs hP hS => ?_)
          obtain ⟨S1, eS1⟩ : ∃ z : Cs, z = sT Z t 9 (cL Z 0 1) := ⟨_, rfl⟩
          rw [← eS1] at hP
          have hok1 : okC N L b S1 := by rw [eS1]; exact okC_sT hI (by decide)
          refine lv_aload_n hx hb dX2_letArrive_48 rfl (lv_at hl 2 rfl) ?_
          refine lv_aload_n hx hb dX2_letArrive_49 rfl (lv_at hl 0 rfl) ?_
          refine c_cVv (As := [.ref (ad (16 + 2 * t))]) (rest := []) (k := 0) (ci := 2) (q := (RX2, TX2, 12)) ⟨hx, hb, hml, hown, hts⟩ (k_X2_goOnOrEnd l D cy ad S1 t ((ix_nI (by omega) (by omega)).2.2) hok1) (cwV 1 hts gX2_letArrive_X2_goOnOrEnd rfl rfl rfl (by decide +kernel) ⟨Nat.le_of_ble_eq_true rfl, Nat.le_of_ble_eq_true rfl⟩) hK hap hA hN hP hS (by omega) (cE_O cy ad S1) rfl rfl hl.1 rfl (Nat.le_of_ble_eq_true rfl) dX2_letArrive_50 ⟨Nat.zero_le _, Nat.zero_le _⟩ (fun H locs hP hS => ?_)
          obtain ⟨S2, eS2⟩ : ∃ z : Cs, z = F_X2_goOnOrEnd S1 t := ⟨_, rfl⟩
          rw [← eS2] at hP
          have hok2 : okC N L b S2 := by rw [eS2]; exact ok_X2_goOnOrEnd hok1 ((ix_nI (by omega) (by omega)).2.2)
          refine lv_iinc (v := nI (t + 1)) (lv' := [(1, .int (nI (t + 1))), (2, .ref (ad (16 + 2 * t))), (0, .ref (ad 0))]) hx hb dX2_letArrive_53 hl (k := 1) rfl (inc_nI t) (by decide) rfl (fun ls hl => ?_)
          refine lv_goto (tgt := 2) hx hb dX2_letArrive_56 (by decide) ?_
          have hF : B_X2_letArrive_2 t Z = S2 := by subst eS2 eS1; simp only [B_X2_letArrive_2, if_pos c_21, if_pos c_32]
          rw [← hF] at hP
          exact ih (t + 1) (B_X2_letArrive_2 t Z) H locs ls (by omega) (ok_B_letArrive hI (by omega)) hP hS (lv_sub hl [0, 2] rfl) K
  refine lp_2 _ ((cO S 4).toNatClampNeg) 0 S H locs ls (by omega) (hok) hP hS (by rw [show nI 0 = 0 from by decide]; exact lv_sub hl [0, 1] rfl) (fun H locs ls hP hS hl => ?_)
  obtain ⟨S3, eS3⟩ : ∃ z : Cs, z = itr B_X2_letArrive_2 ((cO S 4).toNatClampNeg) 0 S := ⟨_, rfl⟩
  rw [← eS3] at hP
  have hF : F_X2_letArrive S  = S3 := by subst eS3; simp only [F_X2_letArrive]
  rw [hF]
  exact c_vret hx hb hr hlocks hP hS dX2_letArrive_59 (fun _ h => h)
set_option maxHeartbeats 4000000 in
set_option maxRecDepth 100000 in
theorem k_X2_letComeBack (l : Launch) (D : va_G) (cy : Nat → ClassId) (ad : Nat → Nat) (S : Cs)   {N L b : Nat} (hok : okC N L b S)  : cMv l yX2_letComeBack wsX2_letComeBack { frames := 3, cells := 0, slots := 0, locals := 63 } D cy ad [.ref (ad 0)] S (F_X2_letComeBack S ) := by
  intro sz
  refine Met.ofW (cc := cX2_letComeBack) (maxL := 3) (ret := none) (by decide) rfl ?_
  intro p e s m args below meth c s₁ B hml hv
  obtain ⟨rfl, hsz, hP, hK, hap0, hN⟩ := hv
  have hx := B.exec
  have hb := B.bytes
  have hr := B.returns
  have hts := atoms_spec (ws := wsX2_letComeBack) B.pre
  have hown : s.vm.findClass RX2 = some m.cls := findClass_of_methodNamed B.named
  have hlocks := B.notSynchronized
  subst hsz
  have hap := gw_self (sz := s.heap.size) hap0
  generalize hAe : gA 48 ad s.heap.size = A at hap ⊢
  have hA : ∀ q : Nat, s.heap.size ≤ q → A q := fun q h => by rw [← hAe]; exact Or.inr h
  have hS : va_S A s.heap s.heap [] := va_S.rf
  have hinX1 : ∀ w ∈ wsX10, w ∈ wsX2_letComeBack := by decide +kernel
  have hinX2 : ∀ w ∈ wsX20, w ∈ wsX2_letComeBack := by decide +kernel
  have hl := lv_entry ([.ref (ad 0)]) (n := 3) (Nat.le_of_ble_eq_true rfl)
  rw [lg_entry_eq]
  generalize (lg_sl ([.ref (ad 0)]) ++ List.replicate (3 - (lg_sl ([.ref (ad 0)])).length) Slot.unset).toArray = ls at hl ⊢
  have hl : lv_has ls 3 [(0, .ref (ad 0))] := hl
  obtain ⟨H, hH⟩ : ∃ H, H = s.heap := ⟨_, rfl⟩
  rw [← hH] at hP
  have hS : va_S A s.heap H [] := by rw [hH]; exact hS
  rw [← hH]
  generalize ([] : List Loc) = locs at hS ⊢
  refine lv_iconst (v := 0) hx hb dX2_letComeBack_0 (by decide) ?_
  refine lv_istore_n (lv' := [(1, .int 0), (0, .ref (ad 0))]) hx hb dX2_letComeBack_1 rfl hl (by decide) rfl (fun ls hl => ?_)
  have hNe : (cO S 4).toNatClampNeg = N := okC_N hok
  have hN16 : N ≤ 16 := hok.2.2.1
  have lp_2 : ∀ (Q : State → Prop) (n t : Nat) (Z : Cs) (H : Heap) (locs : List Loc) (ls : Array Slot), t + n = (cO S 4).toNatClampNeg → okC N L b Z → va_P D vwCl (cwl cy ad Z) H → va_S A s.heap H locs → lv_has ls 3 [(1, .int (nI t)), (0, .ref (ad 0))] → (∀ (H : Heap) (locs : List Loc) (ls : Array Slot), va_P D vwCl (cwl cy ad (itr B_X2_letComeBack_2 n t Z)) H → va_S A s.heap H locs → lv_has ls 3 [(1, .int (nI ((cO S 4).toNatClampNeg))), (0, .ref (ad 0))] → W p l e (headSpec wsX2_letComeBack { frames := 3, cells := 0, slots := 0, locals := 63 }).room s m ([.ref (ad 0)] : List Value).toArray below meth c H locs 0 0 Q (F0 m 43 ls [])) → W p l e (headSpec wsX2_letComeBack { frames := 3, cells := 0, slots := 0, locals := 63 }).room s m ([.ref (ad 0)] : List Value).toArray below meth c H locs 0 0 Q (F0 m 2 ls []) := by
    intro Q n
    induction n with
    | zero =>
      intro t Z H locs ls hk hI hP hS hl K
      refine lv_iload_n hx hb dX2_letComeBack_2 rfl (lv_at hl 0 rfl) ?_
      refine lv_aload_n hx hb dX2_letComeBack_3 rfl (lv_at hl 1 rfl) ?_
      refine c_gO hx hb hts hinX2 hown hK hP 4 (by decide) (hts (.fieldLink RX2 29 "FeedbackQueues" "taskCount" "I") (by decide +kernel)) rfl dX2_letComeBack_4 ?_
      refine lv_icmp_ge (tgt := 43) hx hb dX2_letComeBack_7 (by decide) (fun c_7 => ?_) (fun c_7 => ?_)
      rotate_left
      · exact absurd (by rw [show cO Z 4 = nI ((cO S 4).toNatClampNeg) from by rw [hNe]; exact hI.1]; exact nI_le (by omega) (by omega)) c_7
      have hiN : t = (cO S 4).toNatClampNeg := by omega
      rw [hiN] at hl
      exact K H locs ls hP hS (lv_sub hl [0, 1] rfl)
    | succ n ih =>
      intro t Z H locs ls hk hI hP hS hl K
      have ht : t < (cO S 4).toNatClampNeg := by omega
      refine lv_iload_n hx hb dX2_letComeBack_2 rfl (lv_at hl 0 rfl) ?_
      refine lv_aload_n hx hb dX2_letComeBack_3 rfl (lv_at hl 1 rfl) ?_
      refine c_gO hx hb hts hinX2 hown hK hP 4 (by decide) (hts (.fieldLink RX2 29 "FeedbackQueues" "taskCount" "I") (by decide +kernel)) rfl dX2_letComeBack_4 ?_
      refine lv_icmp_ge (tgt := 43) hx hb dX2_letComeBack_7 (by decide) (fun c_7 => ?_) (fun c_7 => ?_)
      · exact absurd c_7 (by rw [show cO Z 4 = nI ((cO S 4).toNatClampNeg) from by rw [hNe]; exact hI.1]; exact nI_ge (by omega) (by omega))
      refine lv_aload_n hx hb dX2_letComeBack_10 rfl (lv_at hl 1 rfl) ?_
      refine c_gO hx hb hts hinX2 hown hK hP 1 (by decide) (hts (.fieldLink RX2 17 "FeedbackQueues" "tasks" "[LFeedbackQueues$Task;") (by decide +kernel)) rfl dX2_letComeBack_11 ?_
      refine lv_iload_n hx hb dX2_letComeBack_14 rfl (lv_at hl 0 rfl) ?_
      refine c_aT (k := t) hx hb hK hP (ix_nI (by omega) (by omega)) dX2_letComeBack_15 ?_
      refine lv_astore_n (lv' := [(2, .ref (ad (16 + 2 * t))), (1, .int (nI t)), (0, .ref (ad 0))]) hx hb dX2_letComeBack_16 rfl hl (by decide) rfl (fun ls hl => ?_)
      refine lv_aload_n hx hb dX2_letComeBack_17 rfl (lv_at hl 0 rfl) ?_
      refine c_gTN (i := t) hx hb hts hinX1 hown hK hP ((ix_nI (by omega) (by omega)).2.2) 4 (by decide) (hN.fld (args := _) (a := "FeedbackQueues") (i := 118) (b := "FeedbackQueues$Task") (n := "state") (d := "I") (h' := "FeedbackQueues") (by decide +kernel)) rfl dX2_letComeBack_18 ?_
      refine lv_iconst (v := 3) hx hb dX2_letComeBack_21 (by decide) ?_
      refine lv_icmp_ne (tgt := 37) hx hb dX2_letComeBack_22 (by decide) (fun c_22 => ?_) (fun c_22 => ?_)
      · skip
        refine lv_iinc (v := nI (t + 1)) (lv' := [(1, .int (nI (t + 1))), (2, .ref (ad (16 + 2 * t))), (0, .ref (ad 0))]) hx hb dX2_letComeBack_37 hl (k := 1) rfl (inc_nI t) (by decide) rfl (fun ls hl => ?_)
        refine lv_goto (tgt := 2) hx hb dX2_letComeBack_40 (by decide) ?_
        have hF : B_X2_letComeBack_2 t Z = Z := by simp only [B_X2_letComeBack_2, if_neg c_22]
        rw [← hF] at hP
        exact ih (t + 1) (B_X2_letComeBack_2 t Z) H locs ls (by omega) (ok_B_letComeBack hI (by omega)) hP hS (lv_sub hl [0, 2] rfl) K
      · skip
        refine lv_aload_n hx hb dX2_letComeBack_25 rfl (lv_at hl 0 rfl) ?_
        refine c_gTN (i := t) hx hb hts hinX1 hown hK hP ((ix_nI (by omega) (by omega)).2.2) 7 (by decide) (hN.fld (args := _) (a := "FeedbackQueues") (i := 203) (b := "FeedbackQueues$Task") (n := "burstLeft") (d := "I") (h' := "FeedbackQueues") (by decide +kernel)) rfl dX2_letComeBack_26 ?_
        refine lv_if_ne (tgt := 37) hx hb dX2_letComeBack_29 (by decide) (fun c_29 => ?_) (fun c_29 => ?_)
        · skip
          refine lv_iinc (v := nI (t + 1)) (lv' := [(1, .int (nI (t + 1))), (2, .ref (ad (16 + 2 * t))), (0, .ref (ad 0))]) hx hb dX2_letComeBack_37 hl (k := 1) rfl (inc_nI t) (by decide) rfl (fun ls hl => ?_)
          refine lv_goto (tgt := 2) hx hb dX2_letComeBack_40 (by decide) ?_
          have hF : B_X2_letComeBack_2 t Z = Z := by simp only [B_X2_letComeBack_2, if_pos c_22, if_neg c_29]
          rw [← hF] at hP
          exact ih (t + 1) (B_X2_letComeBack_2 t Z) H locs ls (by omega) (ok_B_letComeBack hI (by omega)) hP hS (lv_sub hl [0, 2] rfl) K
        · skip
          refine lv_aload_n hx hb dX2_letComeBack_32 rfl (lv_at hl 2 rfl) ?_
          refine lv_aload_n hx hb dX2_letComeBack_33 rfl (lv_at hl 0 rfl) ?_
          refine c_cVv (As := [.ref (ad (16 + 2 * t))]) (rest := []) (k := 0) (ci := 2) (q := (RX2, TX2, 12)) ⟨hx, hb, hml, hown, hts⟩ (k_X2_goOnOrEnd l D cy ad Z t ((ix_nI (by omega) (by omega)).2.2) hI) (cwV 1 hts gX2_letComeBack_X2_goOnOrEnd rfl rfl rfl (by decide +kernel) ⟨Nat.le_of_ble_eq_true rfl, Nat.le_of_ble_eq_true rfl⟩) hK hap hA hN hP hS (by omega) (cE_O cy ad Z) rfl rfl hl.1 rfl (Nat.le_of_ble_eq_true rfl) dX2_letComeBack_34 ⟨Nat.zero_le _, Nat.zero_le _⟩ (fun H locs hP hS => ?_)
          obtain ⟨S1, eS1⟩ : ∃ z : Cs, z = F_X2_goOnOrEnd Z t := ⟨_, rfl⟩
          rw [← eS1] at hP
          have hok1 : okC N L b S1 := by rw [eS1]; exact ok_X2_goOnOrEnd hI ((ix_nI (by omega) (by omega)).2.2)
          refine lv_iinc (v := nI (t + 1)) (lv' := [(1, .int (nI (t + 1))), (2, .ref (ad (16 + 2 * t))), (0, .ref (ad 0))]) hx hb dX2_letComeBack_37 hl (k := 1) rfl (inc_nI t) (by decide) rfl (fun ls hl => ?_)
          refine lv_goto (tgt := 2) hx hb dX2_letComeBack_40 (by decide) ?_
          have hF : B_X2_letComeBack_2 t Z = S1 := by subst eS1; simp only [B_X2_letComeBack_2, if_pos c_22, if_pos c_29]
          rw [← hF] at hP
          exact ih (t + 1) (B_X2_letComeBack_2 t Z) H locs ls (by omega) (ok_B_letComeBack hI (by omega)) hP hS (lv_sub hl [0, 2] rfl) K
  refine lp_2 _ ((cO S 4).toNatClampNeg) 0 S H locs ls (by omega) (hok) hP hS (by rw [show nI 0 = 0 from by decide]; exact lv_sub hl [0, 1] rfl) (fun H locs ls hP hS hl => ?_)
  obtain ⟨S2, eS2⟩ : ∃ z : Cs, z = itr B_X2_letComeBack_2 ((cO S 4).toNatClampNeg) 0 S := ⟨_, rfl⟩
  rw [← eS2] at hP
  have hF : F_X2_letComeBack S  = S2 := by subst eS2; simp only [F_X2_letComeBack]
  rw [hF]
  exact c_vret hx hb hr hlocks hP hS dX2_letComeBack_43 (fun _ h => h)
set_option maxHeartbeats 4000000 in
set_option maxRecDepth 100000 in
theorem k_X2_bringAllUp (l : Launch) (D : va_G) (cy : Nat → ClassId) (ad : Nat → Nat) (S : Cs)   {N L b : Nat} (hok : okC N L b S)  : cMv l yX2_bringAllUp wsX2_bringAllUp { frames := 2, cells := 0, slots := 0, locals := 43 } D cy ad [.ref (ad 0)] S (F_X2_bringAllUp S ) := by
  intro sz
  refine Met.ofW (cc := cX2_bringAllUp) (maxL := 3) (ret := none) (by decide) rfl ?_
  intro p e s m args below meth c s₁ B hml hv
  obtain ⟨rfl, hsz, hP, hK, hap0, hN⟩ := hv
  have hx := B.exec
  have hb := B.bytes
  have hr := B.returns
  have hts := atoms_spec (ws := wsX2_bringAllUp) B.pre
  have hown : s.vm.findClass RX2 = some m.cls := findClass_of_methodNamed B.named
  have hlocks := B.notSynchronized
  subst hsz
  have hap := gw_self (sz := s.heap.size) hap0
  generalize hAe : gA 48 ad s.heap.size = A at hap ⊢
  have hA : ∀ q : Nat, s.heap.size ≤ q → A q := fun q h => by rw [← hAe]; exact Or.inr h
  have hS : va_S A s.heap s.heap [] := va_S.rf
  have hinX0 : ∀ w ∈ wsX00, w ∈ wsX2_bringAllUp := by decide +kernel
  have hinX1 : ∀ w ∈ wsX10, w ∈ wsX2_bringAllUp := by decide +kernel
  have hinX2 : ∀ w ∈ wsX20, w ∈ wsX2_bringAllUp := by decide +kernel
  have hl := lv_entry ([.ref (ad 0)]) (n := 3) (Nat.le_of_ble_eq_true rfl)
  rw [lg_entry_eq]
  generalize (lg_sl ([.ref (ad 0)]) ++ List.replicate (3 - (lg_sl ([.ref (ad 0)])).length) Slot.unset).toArray = ls at hl ⊢
  have hl : lv_has ls 3 [(0, .ref (ad 0))] := hl
  obtain ⟨H, hH⟩ : ∃ H, H = s.heap := ⟨_, rfl⟩
  rw [← hH] at hP
  have hS : va_S A s.heap H [] := by rw [hH]; exact hS
  rw [← hH]
  generalize ([] : List Loc) = locs at hS ⊢
  refine lv_aload_n hx hb dX2_bringAllUp_0 rfl (lv_at hl 0 rfl) ?_
  refine lv_dup hx hb dX2_bringAllUp_1 rfl ?_
  refine c_gO hx hb hts hinX2 hown hK hP 10 (by decide) (hts (.fieldLink RX2 48 "FeedbackQueues" "comeUpCount" "I") (by decide +kernel)) rfl dX2_bringAllUp_2 ?_
  refine lv_iconst (v := 1) hx hb dX2_bringAllUp_5 (by decide) ?_
  refine lv_iadd hx hb dX2_bringAllUp_6 ?_
  refine c_pO (ty := .int) (v := (cO S 10) + 1) hx hb hts hinX2 hown hK hap hP hS 10 (by decide) (hts (.fieldLink RX2 48 "FeedbackQueues" "comeUpCount" "I") (by decide +kernel)) rfl (by decide +kernel) rfl rfl (cOf_10 ad S _) (Nat.le_of_ble_eq_true rfl) dX2_bringAllUp_7 (fun H locs hP hS => ?_)
  obtain ⟨S1, eS1⟩ : ∃ z : Cs, z = sO S 10 ((cO S 10) + 1) := ⟨_, rfl⟩
  rw [← eS1] at hP
  have hok1 : okC N L b S1 := by rw [eS1]; exact okC_sO hok (by decide)
  refine lv_aload_n hx hb dX2_bringAllUp_10 rfl (lv_at hl 0 rfl) ?_
  refine c_gO hx hb hts hinX2 hown hK hP 0 (by decide) (hts (.fieldLink RX2 11 "FeedbackQueues" "levelRows" "[LFeedbackQueues$Level;") (by decide +kernel)) rfl dX2_bringAllUp_11 ?_
  refine lv_iconst (v := 0) hx hb dX2_bringAllUp_14 (by decide) ?_
  refine c_aL (k := 0) hx hb hK hP (ix_lit (by decide) (by omega) (by omega)) dX2_bringAllUp_15 ?_
  refine lv_astore_n (lv' := [(1, .ref (ad (4 + 2 * 0))), (0, .ref (ad 0))]) hx hb dX2_bringAllUp_16 rfl hl (by decide) rfl (fun ls hl => ?_)
  refine lv_iconst (v := 0) hx hb dX2_bringAllUp_17 (by decide) ?_
  refine lv_istore_n (lv' := [(2, .int 0), (1, .ref (ad (4 + 2 * 0))), (0, .ref (ad 0))]) hx hb dX2_bringAllUp_18 rfl hl (by decide) rfl (fun ls hl => ?_)
  have hNe : (cO S1 4).toNatClampNeg = N := okC_N hok1
  have hN16 : N ≤ 16 := hok1.2.2.1
  have lp_19 : ∀ (Q : State → Prop) (n t : Nat) (Z : Cs) (H : Heap) (locs : List Loc) (ls : Array Slot), t + n = (cO S1 4).toNatClampNeg → okC N L b Z → va_P D vwCl (cwl cy ad Z) H → va_S A s.heap H locs → lv_has ls 3 [(2, .int (nI t)), (1, .ref (ad (4 + 2 * 0))), (0, .ref (ad 0))] → (∀ (H : Heap) (locs : List Loc) (ls : Array Slot), va_P D vwCl (cwl cy ad (itr B_X2_bringAllUp_19 n t Z)) H → va_S A s.heap H locs → lv_has ls 3 [(2, .int (nI ((cO S1 4).toNatClampNeg))), (1, .ref (ad (4 + 2 * 0))), (0, .ref (ad 0))] → W p l e (headSpec wsX2_bringAllUp { frames := 2, cells := 0, slots := 0, locals := 43 }).room s m ([.ref (ad 0)] : List Value).toArray below meth c H locs 0 0 Q (F0 m 75 ls [])) → W p l e (headSpec wsX2_bringAllUp { frames := 2, cells := 0, slots := 0, locals := 43 }).room s m ([.ref (ad 0)] : List Value).toArray below meth c H locs 0 0 Q (F0 m 19 ls []) := by
    intro Q n
    induction n with
    | zero =>
      intro t Z H locs ls hk hI hP hS hl K
      refine lv_iload_n hx hb dX2_bringAllUp_19 rfl (lv_at hl 0 rfl) ?_
      refine lv_aload_n hx hb dX2_bringAllUp_20 rfl (lv_at hl 2 rfl) ?_
      refine c_gO hx hb hts hinX2 hown hK hP 4 (by decide) (hts (.fieldLink RX2 29 "FeedbackQueues" "taskCount" "I") (by decide +kernel)) rfl dX2_bringAllUp_21 ?_
      refine lv_icmp_ge (tgt := 75) hx hb dX2_bringAllUp_24 (by decide) (fun c_24 => ?_) (fun c_24 => ?_)
      rotate_left
      · exact absurd (by rw [show cO Z 4 = nI ((cO S1 4).toNatClampNeg) from by rw [hNe]; exact hI.1]; exact nI_le (by omega) (by omega)) c_24
      have hiN : t = (cO S1 4).toNatClampNeg := by omega
      rw [hiN] at hl
      exact K H locs ls hP hS (lv_sub hl [0, 1, 2] rfl)
    | succ n ih =>
      intro t Z H locs ls hk hI hP hS hl K
      have ht : t < (cO S1 4).toNatClampNeg := by omega
      refine lv_iload_n hx hb dX2_bringAllUp_19 rfl (lv_at hl 0 rfl) ?_
      refine lv_aload_n hx hb dX2_bringAllUp_20 rfl (lv_at hl 2 rfl) ?_
      refine c_gO hx hb hts hinX2 hown hK hP 4 (by decide) (hts (.fieldLink RX2 29 "FeedbackQueues" "taskCount" "I") (by decide +kernel)) rfl dX2_bringAllUp_21 ?_
      refine lv_icmp_ge (tgt := 75) hx hb dX2_bringAllUp_24 (by decide) (fun c_24 => ?_) (fun c_24 => ?_)
      · exact absurd c_24 (by rw [show cO Z 4 = nI ((cO S1 4).toNatClampNeg) from by rw [hNe]; exact hI.1]; exact nI_ge (by omega) (by omega))
      refine lv_aload_n hx hb dX2_bringAllUp_27 rfl (lv_at hl 2 rfl) ?_
      refine c_gO hx hb hts hinX2 hown hK hP 1 (by decide) (hts (.fieldLink RX2 17 "FeedbackQueues" "tasks" "[LFeedbackQueues$Task;") (by decide +kernel)) rfl dX2_bringAllUp_28 ?_
      refine lv_iload_n hx hb dX2_bringAllUp_31 rfl (lv_at hl 0 rfl) ?_
      refine c_aT (k := t) hx hb hK hP (ix_nI (by omega) (by omega)) dX2_bringAllUp_32 ?_
      refine c_gTN (i := t) hx hb hts hinX1 hown hK hP ((ix_nI (by omega) (by omega)).2.2) 4 (by decide) (hN.fld (args := _) (a := "FeedbackQueues") (i := 118) (b := "FeedbackQueues$Task") (n := "state") (d := "I") (h' := "FeedbackQueues") (by decide +kernel)) rfl dX2_bringAllUp_33 ?_
      refine lv_if_eq (tgt := 69) hx hb dX2_bringAllUp_36 (by decide) (fun c_36 => ?_) (fun c_36 => ?_)
      · skip
        refine lv_iinc (v := nI (t + 1)) (lv' := [(2, .int (nI (t + 1))), (1, .ref (ad (4 + 2 * 0))), (0, .ref (ad 0))]) hx hb dX2_bringAllUp_69 hl (k := 0) rfl (inc_nI t) (by decide) rfl (fun ls hl => ?_)
        refine lv_goto (tgt := 19) hx hb dX2_bringAllUp_72 (by decide) ?_
        have hF : B_X2_bringAllUp_19 t Z = Z := by simp only [B_X2_bringAllUp_19, if_pos c_36]
        rw [← hF] at hP
        exact ih (t + 1) (B_X2_bringAllUp_19 t Z) H locs ls (by omega) (ok_B_bringAllUp_19 hI (by omega)) hP hS (lv_sub hl [0, 1, 2] rfl) K
      · skip
        refine lv_aload_n hx hb dX2_bringAllUp_39 rfl (lv_at hl 2 rfl) ?_
        refine c_gO hx hb hts hinX2 hown hK hP 1 (by decide) (hts (.fieldLink RX2 17 "FeedbackQueues" "tasks" "[LFeedbackQueues$Task;") (by decide +kernel)) rfl dX2_bringAllUp_40 ?_
        refine lv_iload_n hx hb dX2_bringAllUp_43 rfl (lv_at hl 0 rfl) ?_
        refine c_aT (k := t) hx hb hK hP (ix_nI (by omega) (by omega)) dX2_bringAllUp_44 ?_
        refine c_gTN (i := t) hx hb hts hinX1 hown hK hP ((ix_nI (by omega) (by omega)).2.2) 4 (by decide) (hN.fld (args := _) (a := "FeedbackQueues") (i := 118) (b := "FeedbackQueues$Task") (n := "state") (d := "I") (h' := "FeedbackQueues") (by decide +kernel)) rfl dX2_bringAllUp_45 ?_
        refine lv_iconst (v := 4) hx hb dX2_bringAllUp_48 (by decide) ?_
        refine lv_icmp_eq (tgt := 69) hx hb dX2_bringAllUp_49 (by decide) (fun c_49 => ?_) (fun c_49 => ?_)
        · skip
          refine lv_iinc (v := nI (t + 1)) (lv' := [(2, .int (nI (t + 1))), (1, .ref (ad (4 + 2 * 0))), (0, .ref (ad 0))]) hx hb dX2_bringAllUp_69 hl (k := 0) rfl (inc_nI t) (by decide) rfl (fun ls hl => ?_)
          refine lv_goto (tgt := 19) hx hb dX2_bringAllUp_72 (by decide) ?_
          have hF : B_X2_bringAllUp_19 t Z = Z := by simp only [B_X2_bringAllUp_19, if_neg c_36, if_pos c_49]
          rw [← hF] at hP
          exact ih (t + 1) (B_X2_bringAllUp_19 t Z) H locs ls (by omega) (ok_B_bringAllUp_19 hI (by omega)) hP hS (lv_sub hl [0, 1, 2] rfl) K
        · skip
          refine lv_aload_n hx hb dX2_bringAllUp_52 rfl (lv_at hl 2 rfl) ?_
          refine c_gO hx hb hts hinX2 hown hK hP 1 (by decide) (hts (.fieldLink RX2 17 "FeedbackQueues" "tasks" "[LFeedbackQueues$Task;") (by decide +kernel)) rfl dX2_bringAllUp_53 ?_
          refine lv_iload_n hx hb dX2_bringAllUp_56 rfl (lv_at hl 0 rfl) ?_
          refine c_aT (k := t) hx hb hK hP (ix_nI (by omega) (by omega)) dX2_bringAllUp_57 ?_
          refine lv_aload_n hx hb dX2_bringAllUp_58 rfl (lv_at hl 1 rfl) ?_
          refine c_gLN (i := 0) hx hb hts hinX0 hown hK hP (show 0 < 6 from by decide) 0 (by decide) (hN.fld (args := _) (a := "FeedbackQueues") (i := 65) (b := "FeedbackQueues$Level") (n := "quantum") (d := "I") (h' := "FeedbackQueues") (by decide +kernel)) rfl dX2_bringAllUp_59 ?_
          refine lv_aload_n hx hb dX2_bringAllUp_62 rfl (lv_at hl 1 rfl) ?_
          refine c_gLN (i := 0) hx hb hts hinX0 hown hK hP (show 0 < 6 from by decide) 1 (by decide) (hN.fld (args := _) (a := "FeedbackQueues") (i := 68) (b := "FeedbackQueues$Level") (n := "share") (d := "I") (h' := "FeedbackQueues") (by decide +kernel)) rfl dX2_bringAllUp_63 ?_
          refine c_cNv (As := [.int (cL Z 0 0), .int (cL Z 0 1)]) (rest := []) (k := (16 + 2 * t)) (ci := 1) (q := (RX1, TX1, 19)) ⟨hx, hb, hml, hown, hts⟩ (k_X1_comeUp l D cy ad Z t (cL Z 0 0) (cL Z 0 1) ((ix_nI (by omega) (by omega)).2.2)) ⟨va_cnB (host := "FeedbackQueues") 2 hts gX2_bringAllUp_X1_comeUp_n186 rfl rfl rfl (hN.mth (a := RX2) (i := 186) (x := yX1_comeUp) (h' := "FeedbackQueues") (by decide +kernel)) (hts (.initialized RX1) (by decide +kernel)) (by decide +kernel) ⟨Nat.le_of_ble_eq_true rfl, Nat.le_of_ble_eq_true rfl⟩, hts (.instanceMethod yX1_comeUp) (by decide +kernel), hts (.selects RX1 yX1_comeUp yX1_comeUp) (by decide +kernel)⟩ hK hap hA hN hP hS (by have h9 := ((ix_nI (by omega) (by omega)).2.2); omega) (cE_T cy ad Z t) rfl rfl hl.1 rfl (Nat.le_of_ble_eq_true rfl) dX2_bringAllUp_66 ⟨Nat.zero_le _, Nat.zero_le _⟩ (fun H locs hP hS => ?_)
          obtain ⟨S2, eS2⟩ : ∃ z : Cs, z = F_X1_comeUp Z t (cL Z 0 0) (cL Z 0 1) := ⟨_, rfl⟩
          rw [← eS2] at hP
          have hok2 : okC N L b S2 := by rw [eS2]; exact ok_X1_comeUp hI ((ix_nI (by omega) (by omega)).2.2)
          refine lv_iinc (v := nI (t + 1)) (lv' := [(2, .int (nI (t + 1))), (1, .ref (ad (4 + 2 * 0))), (0, .ref (ad 0))]) hx hb dX2_bringAllUp_69 hl (k := 0) rfl (inc_nI t) (by decide) rfl (fun ls hl => ?_)
          refine lv_goto (tgt := 19) hx hb dX2_bringAllUp_72 (by decide) ?_
          have hF : B_X2_bringAllUp_19 t Z = S2 := by subst eS2; simp only [B_X2_bringAllUp_19, if_neg c_36, if_neg c_49]
          rw [← hF] at hP
          exact ih (t + 1) (B_X2_bringAllUp_19 t Z) H locs ls (by omega) (ok_B_bringAllUp_19 hI (by omega)) hP hS (lv_sub hl [0, 1, 2] rfl) K
  refine lp_19 _ ((cO S1 4).toNatClampNeg) 0 S1 H locs ls (by omega) (hok1) hP hS (by rw [show nI 0 = 0 from by decide]; exact lv_sub hl [0, 1, 2] rfl) (fun H locs ls hP hS hl => ?_)
  obtain ⟨S3, eS3⟩ : ∃ z : Cs, z = itr B_X2_bringAllUp_19 ((cO S1 4).toNatClampNeg) 0 S1 := ⟨_, rfl⟩
  rw [← eS3] at hP
  have hok3 : okC N L b S3 := by rw [eS3]; exact ok_itr_19 hok1 (by omega)
  refine lv_iconst (v := 1) hx hb dX2_bringAllUp_75 (by decide) ?_
  refine lv_istore_n (lv' := [(2, .int 1), (1, .ref (ad (4 + 2 * 0))), (0, .ref (ad 0))]) hx hb dX2_bringAllUp_76 rfl hl (by decide) rfl (fun ls hl => ?_)
  have hLe : (cO S3 3).toNatClampNeg = L := okC_L hok3
  have hL6 : L ≤ 6 := hok3.2.2.2.2.1
  have hL1 : 1 ≤ L := hok3.2.2.2.1
  have lp_77 : ∀ (Q : State → Prop) (n t : Nat) (Z : Cs) (H : Heap) (locs : List Loc) (ls : Array Slot), t + n = (cO S3 3).toNatClampNeg → (okC N L b Z ∧ 1 ≤ t) → va_P D vwCl (cwl cy ad Z) H → va_S A s.heap H locs → lv_has ls 3 [(2, .int (nI t)), (1, .ref (ad (4 + 2 * 0))), (0, .ref (ad 0))] → (∀ (H : Heap) (locs : List Loc) (ls : Array Slot), va_P D vwCl (cwl cy ad (itr B_X2_bringAllUp_77 n t Z)) H → va_S A s.heap H locs → lv_has ls 3 [(2, .int (nI ((cO S3 3).toNatClampNeg))), (1, .ref (ad (4 + 2 * 0))), (0, .ref (ad 0))] → W p l e (headSpec wsX2_bringAllUp { frames := 2, cells := 0, slots := 0, locals := 43 }).room s m ([.ref (ad 0)] : List Value).toArray below meth c H locs 0 0 Q (F0 m 110 ls [])) → W p l e (headSpec wsX2_bringAllUp { frames := 2, cells := 0, slots := 0, locals := 43 }).room s m ([.ref (ad 0)] : List Value).toArray below meth c H locs 0 0 Q (F0 m 77 ls []) := by
    intro Q n
    induction n with
    | zero =>
      intro t Z H locs ls hk hI hP hS hl K
      refine lv_iload_n hx hb dX2_bringAllUp_77 rfl (lv_at hl 0 rfl) ?_
      refine lv_aload_n hx hb dX2_bringAllUp_78 rfl (lv_at hl 2 rfl) ?_
      refine c_gO hx hb hts hinX2 hown hK hP 3 (by decide) (hts (.fieldLink RX2 25 "FeedbackQueues" "levelCount" "I") (by decide +kernel)) rfl dX2_bringAllUp_79 ?_
      refine lv_icmp_ge (tgt := 110) hx hb dX2_bringAllUp_82 (by decide) (fun c_82 => ?_) (fun c_82 => ?_)
      rotate_left
      · exact absurd (by rw [show cO Z 3 = nI ((cO S3 3).toNatClampNeg) from by rw [hLe]; exact hI.1.2.1]; exact nI_le (by omega) (by omega)) c_82
      have hiN : t = (cO S3 3).toNatClampNeg := by omega
      rw [hiN] at hl
      exact K H locs ls hP hS (lv_sub hl [0, 1, 2] rfl)
    | succ n ih =>
      intro t Z H locs ls hk hI hP hS hl K
      have ht : t < (cO S3 3).toNatClampNeg := by omega
      have ht1 := hI.2
      refine lv_iload_n hx hb dX2_bringAllUp_77 rfl (lv_at hl 0 rfl) ?_
      refine lv_aload_n hx hb dX2_bringAllUp_78 rfl (lv_at hl 2 rfl) ?_
      refine c_gO hx hb hts hinX2 hown hK hP 3 (by decide) (hts (.fieldLink RX2 25 "FeedbackQueues" "levelCount" "I") (by decide +kernel)) rfl dX2_bringAllUp_79 ?_
      refine lv_icmp_ge (tgt := 110) hx hb dX2_bringAllUp_82 (by decide) (fun c_82 => ?_) (fun c_82 => ?_)
      · exact absurd c_82 (by rw [show cO Z 3 = nI ((cO S3 3).toNatClampNeg) from by rw [hLe]; exact hI.1.2.1]; exact nI_ge (by omega) (by omega))
      refine lv_aload_n hx hb dX2_bringAllUp_85 rfl (lv_at hl 1 rfl) ?_
      refine lv_aload_n hx hb dX2_bringAllUp_86 rfl (lv_at hl 2 rfl) ?_
      refine c_gO hx hb hts hinX2 hown hK hP 0 (by decide) (hts (.fieldLink RX2 11 "FeedbackQueues" "levelRows" "[LFeedbackQueues$Level;") (by decide +kernel)) rfl dX2_bringAllUp_87 ?_
      refine lv_iload_n hx hb dX2_bringAllUp_90 rfl (lv_at hl 0 rfl) ?_
      refine c_aL (k := t) hx hb hK hP (ix_nI (by omega) (by omega)) dX2_bringAllUp_91 ?_
      refine c_cNv (As := [.ref (ad (4 + 2 * t))]) (rest := []) (k := (4 + 2 * 0)) (ci := 0) (q := (RX0, TX0, 4)) ⟨hx, hb, hml, hown, hts⟩ (k_X0_addAllOf l D cy ad Z 0 t (show 0 < 6 from by decide) ((ix_nI (by omega) (by omega)).2.2) (by omega) (okC_sz hI.1 (by omega)) (okC_sz hI.1 (by omega))) ⟨va_cnB (host := "FeedbackQueues") 1 hts gX2_bringAllUp_X0_addAllOf_n190 rfl rfl rfl (hN.mth (a := RX2) (i := 190) (x := yX0_addAllOf) (h' := "FeedbackQueues") (by decide +kernel)) (hts (.initialized RX0) (by decide +kernel)) (by decide +kernel) ⟨Nat.le_of_ble_eq_true rfl, Nat.le_of_ble_eq_true rfl⟩, hts (.instanceMethod yX0_addAllOf) (by decide +kernel), hts (.selects RX0 yX0_addAllOf yX0_addAllOf) (by decide +kernel)⟩ hK hap hA hN hP hS (by have h9 := (show 0 < 6 from by decide); omega) (cE_L cy ad Z (show 0 < 6 from by decide)) rfl rfl hl.1 rfl (Nat.le_of_ble_eq_true rfl) dX2_bringAllUp_92 ⟨Nat.zero_le _, Nat.zero_le _⟩ (fun H locs hP hS => ?_)
      obtain ⟨S4, eS4⟩ : ∃ z : Cs, z = F_X0_addAllOf Z 0 t := ⟨_, rfl⟩
      rw [← eS4] at hP
      have hok4 : okC N L b S4 := by rw [eS4]; exact ok_X0_addAllOf hI.1 (show 0 < 6 from by decide) ((ix_nI (by omega) (by omega)).2.2)
      refine lv_aload_n hx hb dX2_bringAllUp_95 rfl (lv_at hl 2 rfl) ?_
      refine c_gO hx hb hts hinX2 hown hK hP 0 (by decide) (hts (.fieldLink RX2 11 "FeedbackQueues" "levelRows" "[LFeedbackQueues$Level;") (by decide +kernel)) rfl dX2_bringAllUp_96 ?_
      refine lv_iload_n hx hb dX2_bringAllUp_99 rfl (lv_at hl 0 rfl) ?_
      refine c_aL (k := t) hx hb hK hP (ix_nI (by omega) (by omega)) dX2_bringAllUp_100 ?_
      refine c_cNv (As := []) (rest := []) (k := (4 + 2 * t)) (ci := 0) (q := (RX0, TX0, 4)) ⟨hx, hb, hml, hown, hts⟩ (k_X0_clear l D cy ad S4 t ((ix_nI (by omega) (by omega)).2.2)) ⟨va_cnB (host := "FeedbackQueues") 0 hts gX2_bringAllUp_X0_clear_n160 rfl rfl rfl (hN.mth (a := RX2) (i := 160) (x := yX0_clear) (h' := "FeedbackQueues") (by decide +kernel)) (hts (.initialized RX0) (by decide +kernel)) (by decide +kernel) ⟨Nat.le_of_ble_eq_true rfl, Nat.le_of_ble_eq_true rfl⟩, hts (.instanceMethod yX0_clear) (by decide +kernel), hts (.selects RX0 yX0_clear yX0_clear) (by decide +kernel)⟩ hK hap hA hN hP hS (by have h9 := ((ix_nI (by omega) (by omega)).2.2); omega) (cE_L cy ad S4 ((ix_nI (by omega) (by omega)).2.2)) rfl rfl hl.1 rfl (Nat.le_of_ble_eq_true rfl) dX2_bringAllUp_101 ⟨Nat.zero_le _, Nat.zero_le _⟩ (fun H locs hP hS => ?_)
      obtain ⟨S5, eS5⟩ : ∃ z : Cs, z = F_X0_clear S4 t := ⟨_, rfl⟩
      rw [← eS5] at hP
      have hok5 : okC N L b S5 := by rw [eS5]; exact ok_X0_clear hok4 ((ix_nI (by omega) (by omega)).2.2)
      refine lv_iinc (v := nI (t + 1)) (lv' := [(2, .int (nI (t + 1))), (1, .ref (ad (4 + 2 * 0))), (0, .ref (ad 0))]) hx hb dX2_bringAllUp_104 hl (k := 0) rfl (inc_nI t) (by decide) rfl (fun ls hl => ?_)
      refine lv_goto (tgt := 77) hx hb dX2_bringAllUp_107 (by decide) ?_
      have hF : B_X2_bringAllUp_77 t Z = S5 := by subst eS5 eS4; simp only [B_X2_bringAllUp_77]
      rw [← hF] at hP
      exact ih (t + 1) (B_X2_bringAllUp_77 t Z) H locs ls (by omega) (⟨ok_B_bringAllUp_77 hI.1 hI.2 (by omega), by omega⟩) hP hS (lv_sub hl [0, 1, 2] rfl) K
  refine lp_77 _ ((cO S3 3).toNatClampNeg - 1) 1 S3 H locs ls (by omega) (⟨hok3, Nat.le_refl 1⟩) hP hS (by rw [show nI 1 = 1 from by decide]; exact lv_sub hl [0, 1, 2] rfl) (fun H locs ls hP hS hl => ?_)
  obtain ⟨S6, eS6⟩ : ∃ z : Cs, z = itr B_X2_bringAllUp_77 ((cO S3 3).toNatClampNeg - 1) 1 S3 := ⟨_, rfl⟩
  rw [← eS6] at hP
  have hF : F_X2_bringAllUp S  = S6 := by subst eS6 eS3 eS1; simp only [F_X2_bringAllUp]
  rw [hF]
  exact c_vret hx hb hr hlocks hP hS dX2_bringAllUp_110 (fun _ h => h)
set_option maxHeartbeats 4000000 in
set_option maxRecDepth 100000 in
theorem k_X2_makeWay (l : Launch) (D : va_G) (cy : Nat → ClassId) (ad : Nat → Nat) (S : Cs)   {N L b : Nat} (hok : okC N L b S)  : cMv l yX2_makeWay wsX2_makeWay { frames := 1, cells := 0, slots := 0, locals := 22 } D cy ad [.ref (ad 0)] S (F_X2_makeWay S ) := by
  intro sz
  refine Met.ofW (cc := cX2_makeWay) (maxL := 1) (ret := none) (by decide) rfl ?_
  intro p e s m args below meth c s₁ B hml hv
  obtain ⟨rfl, hsz, hP, hK, hap0, hN⟩ := hv
  have hx := B.exec
  have hb := B.bytes
  have hr := B.returns
  have hts := atoms_spec (ws := wsX2_makeWay) B.pre
  have hown : s.vm.findClass RX2 = some m.cls := findClass_of_methodNamed B.named
  have hlocks := B.notSynchronized
  subst hsz
  have hap := gw_self (sz := s.heap.size) hap0
  generalize hAe : gA 48 ad s.heap.size = A at hap ⊢
  have hA : ∀ q : Nat, s.heap.size ≤ q → A q := fun q h => by rw [← hAe]; exact Or.inr h
  have hS : va_S A s.heap s.heap [] := va_S.rf
  have hinX1 : ∀ w ∈ wsX10, w ∈ wsX2_makeWay := by decide +kernel
  have hinX2 : ∀ w ∈ wsX20, w ∈ wsX2_makeWay := by decide +kernel
  have hl := lv_entry ([.ref (ad 0)]) (n := 1) (Nat.le_of_ble_eq_true rfl)
  rw [lg_entry_eq]
  generalize (lg_sl ([.ref (ad 0)]) ++ List.replicate (1 - (lg_sl ([.ref (ad 0)])).length) Slot.unset).toArray = ls at hl ⊢
  have hl : lv_has ls 1 [(0, .ref (ad 0))] := hl
  obtain ⟨H, hH⟩ : ∃ H, H = s.heap := ⟨_, rfl⟩
  rw [← hH] at hP
  have hS : va_S A s.heap H [] := by rw [hH]; exact hS
  rw [← hH]
  generalize ([] : List Loc) = locs at hS ⊢
  refine lv_aload_n hx hb dX2_makeWay_0 rfl (lv_at hl 0 rfl) ?_
  by_cases o_1 : cN S = none
  · skip
    refine c_gO hx hb hts hinX2 hown hK hP 7 (by decide) (hts (.fieldLink RX2 38 "FeedbackQueues" "onProcessor" "LFeedbackQueues$Task;") (by decide +kernel)) (cOf_7n ad o_1) dX2_makeWay_1 ?_
    refine lv_ifnullN (tgt := 21) hx hb dX2_makeWay_4 (by decide) ?_
    have hF : F_X2_makeWay S  = S := by simp only [F_X2_makeWay, if_pos o_1]
    rw [hF]
    exact c_vret hx hb hr hlocks hP hS dX2_makeWay_21 (fun _ h => h)
  · skip
    refine c_gO hx hb hts hinX2 hown hK hP 7 (by decide) (hts (.fieldLink RX2 38 "FeedbackQueues" "onProcessor" "LFeedbackQueues$Task;") (by decide +kernel)) (cOf_7s ad o_1) dX2_makeWay_1 ?_
    refine lv_ifnull hx hb dX2_makeWay_4 ?_
    refine lv_aload_n hx hb dX2_makeWay_7 rfl (lv_at hl 0 rfl) ?_
    refine lv_aload_n hx hb dX2_makeWay_8 rfl (lv_at hl 0 rfl) ?_
    refine c_gO hx hb hts hinX2 hown hK hP 7 (by decide) (hts (.fieldLink RX2 38 "FeedbackQueues" "onProcessor" "LFeedbackQueues$Task;") (by decide +kernel)) (cOf_7s ad o_1) dX2_makeWay_9 ?_
    refine c_gTN (i := cI S) hx hb hts hinX1 hown hK hP (okC_on hok o_1) 5 (by decide) (hN.fld (args := _) (a := "FeedbackQueues") (i := 121) (b := "FeedbackQueues$Task") (n := "level") (d := "I") (h' := "FeedbackQueues") (by decide +kernel)) rfl dX2_makeWay_12 ?_
    refine c_cVi (As := [.int (cT S (cI S) 5)]) (rest := []) (k := 0) (ci := 2) (q := (RX2, TX2, 12)) ⟨hx, hb, hml, hown, hts⟩ (k_X2_isOneReadyAbove l D cy ad S (cT S (cI S) 5)  hok (okC_u6 hok (okC_on hok o_1))) (cwV 1 hts gX2_makeWay_X2_isOneReadyAbove rfl rfl rfl (by decide +kernel) ⟨Nat.le_of_ble_eq_true rfl, Nat.le_of_ble_eq_true rfl⟩) hK hap hA hN hP hS (by omega) (cE_O cy ad S) rfl rfl hl.1 rfl (Nat.le_of_ble_eq_true rfl) dX2_makeWay_15 ⟨Nat.zero_le _, Nat.zero_le _⟩ (fun H locs hP hS => ?_)
    obtain ⟨S1, eS1⟩ : ∃ z : Cs, z = (F_X2_isOneReadyAbove S (cT S (cI S) 5)).1 := ⟨_, rfl⟩
    rw [← eS1] at hP
    have hok1 : okC N L b S1 := by rw [eS1]; exact ok_X2_isOneReadyAbove hok 
    have oS1 : ¬ cN S1 = none := by rw [eS1, isOne_fst]; exact o_1
    refine lv_if_ne (tgt := 22) hx hb dX2_makeWay_18 (by decide) (fun c_18 => ?_) (fun c_18 => ?_)
    · skip
      refine lv_aload_n hx hb dX2_makeWay_22 rfl (lv_at hl 0 rfl) ?_
      refine c_gO hx hb hts hinX2 hown hK hP 7 (by decide) (hts (.fieldLink RX2 38 "FeedbackQueues" "onProcessor" "LFeedbackQueues$Task;") (by decide +kernel)) (cOf_7s ad oS1) dX2_makeWay_23 ?_
      refine lv_iconst (v := 1) hx hb dX2_makeWay_26 (by decide) ?_
      refine c_pTN (i := cI S1) (ty := .int) (v := 1) hx hb hts hinX1 hown hK hap hP hS (okC_on hok1 oS1) 4 (by decide) (hN.fld (args := _) (a := "FeedbackQueues") (i := 118) (b := "FeedbackQueues$Task") (n := "state") (d := "I") (h' := "FeedbackQueues") (by decide +kernel)) rfl (by decide +kernel) rfl rfl (cTf_4 ad S1 (cI S1) _) (Nat.le_of_ble_eq_true rfl) dX2_makeWay_27 (fun H locs hP hS => ?_)
      obtain ⟨S2, eS2⟩ : ∃ z : Cs, z = sT S1 (cI S1) 4 1 := ⟨_, rfl⟩
      rw [← eS2] at hP
      have oS2 : ¬ cN S2 = none := by rw [eS2]; exact oS1
      have hok2 : okC N L b S2 := by rw [eS2]; exact okC_sT hok1 (by decide)
      refine lv_aload_n hx hb dX2_makeWay_30 rfl (lv_at hl 0 rfl) ?_
      refine c_gO hx hb hts hinX2 hown hK hP 7 (by decide) (hts (.fieldLink RX2 38 "FeedbackQueues" "onProcessor" "LFeedbackQueues$Task;") (by decide +kernel)) (cOf_7s ad oS2) dX2_makeWay_31 ?_
      refine lv_iconst (v := 1) hx hb dX2_makeWay_34 (by decide) ?_
      refine c_pTN (i := cI S2) (ty := .boolean) (v := 1) hx hb hts hinX1 hown hK hap hP hS (okC_on hok2 oS2) 10 (by decide) (hN.fld (args := _) (a := "FeedbackQueues") (i := 220) (b := "FeedbackQueues$Task") (n := "keepsQuantum") (d := "Z") (h' := "FeedbackQueues") (by decide +kernel)) rfl (by decide +kernel) rfl rfl (cTf_10 ad S2 (cI S2) _) (Nat.le_of_ble_eq_true rfl) dX2_makeWay_35 (fun H locs hP hS => ?_)
      obtain ⟨S3, eS3⟩ : ∃ z : Cs, z = sT S2 (cI S2) 10 1 := ⟨_, rfl⟩
      rw [← eS3] at hP
      have oS3 : ¬ cN S3 = none := by rw [eS3]; exact oS2
      have hok3 : okC N L b S3 := by rw [eS3]; exact okC_sT hok2 (by decide)
      refine lv_aload_n hx hb dX2_makeWay_38 rfl (lv_at hl 0 rfl) ?_
      refine c_gO hx hb hts hinX2 hown hK hP 7 (by decide) (hts (.fieldLink RX2 38 "FeedbackQueues" "onProcessor" "LFeedbackQueues$Task;") (by decide +kernel)) (cOf_7s ad oS3) dX2_makeWay_39 ?_
      refine lv_dup hx hb dX2_makeWay_42 rfl ?_
      refine c_gTN (i := cI S3) hx hb hts hinX1 hown hK hP (okC_on hok3 oS3) 18 (by decide) (hN.fld (args := _) (a := "FeedbackQueues") (i := 145) (b := "FeedbackQueues$Task") (n := "timesToFront") (d := "I") (h' := "FeedbackQueues") (by decide +kernel)) rfl dX2_makeWay_43 ?_
      refine lv_iconst (v := 1) hx hb dX2_makeWay_46 (by decide) ?_
      refine lv_iadd hx hb dX2_makeWay_47 ?_
      refine c_pTN (i := cI S3) (ty := .int) (v := (cT S3 (cI S3) 18) + 1) hx hb hts hinX1 hown hK hap hP hS (okC_on hok3 oS3) 18 (by decide) (hN.fld (args := _) (a := "FeedbackQueues") (i := 145) (b := "FeedbackQueues$Task") (n := "timesToFront") (d := "I") (h' := "FeedbackQueues") (by decide +kernel)) rfl (by decide +kernel) rfl rfl (cTf_18 ad S3 (cI S3) _) (Nat.le_of_ble_eq_true rfl) dX2_makeWay_48 (fun H locs hP hS => ?_)
      obtain ⟨S4, eS4⟩ : ∃ z : Cs, z = sT S3 (cI S3) 18 ((cT S3 (cI S3) 18) + 1) := ⟨_, rfl⟩
      rw [← eS4] at hP
      have oS4 : ¬ cN S4 = none := by rw [eS4]; exact oS3
      have hok4 : okC N L b S4 := by rw [eS4]; exact okC_sT hok3 (by decide)
      refine lv_aload_n hx hb dX2_makeWay_51 rfl (lv_at hl 0 rfl) ?_
      refine c_gO hx hb hts hinX2 hown hK hP 0 (by decide) (hts (.fieldLink RX2 11 "FeedbackQueues" "levelRows" "[LFeedbackQueues$Level;") (by decide +kernel)) rfl dX2_makeWay_52 ?_
      refine lv_aload_n hx hb dX2_makeWay_55 rfl (lv_at hl 0 rfl) ?_
      refine c_gO hx hb hts hinX2 hown hK hP 7 (by decide) (hts (.fieldLink RX2 38 "FeedbackQueues" "onProcessor" "LFeedbackQueues$Task;") (by decide +kernel)) (cOf_7s ad oS4) dX2_makeWay_56 ?_
      refine c_gTN (i := cI S4) hx hb hts hinX1 hown hK hP (okC_on hok4 oS4) 5 (by decide) (hN.fld (args := _) (a := "FeedbackQueues") (i := 121) (b := "FeedbackQueues$Task") (n := "level") (d := "I") (h' := "FeedbackQueues") (by decide +kernel)) rfl dX2_makeWay_59 ?_
      refine c_aL (k := ((cT S4 (cI S4) 5)).toNatClampNeg) hx hb hK hP (okC_ix hok4 (okC_on hok4 oS4)) dX2_makeWay_62 ?_
      refine lv_aload_n hx hb dX2_makeWay_63 rfl (lv_at hl 0 rfl) ?_
      refine c_gO hx hb hts hinX2 hown hK hP 7 (by decide) (hts (.fieldLink RX2 38 "FeedbackQueues" "onProcessor" "LFeedbackQueues$Task;") (by decide +kernel)) (cOf_7s ad oS4) dX2_makeWay_64 ?_
      refine c_gTN (i := cI S4) hx hb hts hinX1 hown hK hP (okC_on hok4 oS4) 0 (by decide) (hN.fld (args := _) (a := "FeedbackQueues") (i := 150) (b := "FeedbackQueues$Task") (n := "number") (d := "I") (h' := "FeedbackQueues") (by decide +kernel)) rfl dX2_makeWay_67 ?_
      refine c_cNv (As := [.int (cT S4 (cI S4) 0)]) (rest := []) (k := (4 + 2 * (((cT S4 (cI S4) 5)).toNatClampNeg))) (ci := 0) (q := (RX0, TX0, 4)) ⟨hx, hb, hml, hown, hts⟩ (k_X0_addFirst l D cy ad S4 (((cT S4 (cI S4) 5)).toNatClampNeg) (cT S4 (cI S4) 0) ((okC_ix hok4 (okC_on hok4 oS4)).2.2) (okC_sz hok4 (okC_ix hok4 (okC_on hok4 oS4)).2.2)) ⟨va_cnB (host := "FeedbackQueues") 1 hts gX2_makeWay_X0_addFirst_n224 rfl rfl rfl (hN.mth (a := RX2) (i := 224) (x := yX0_addFirst) (h' := "FeedbackQueues") (by decide +kernel)) (hts (.initialized RX0) (by decide +kernel)) (by decide +kernel) ⟨Nat.le_of_ble_eq_true rfl, Nat.le_of_ble_eq_true rfl⟩, hts (.instanceMethod yX0_addFirst) (by decide +kernel), hts (.selects RX0 yX0_addFirst yX0_addFirst) (by decide +kernel)⟩ hK hap hA hN hP hS (by have h9 := ((okC_ix hok4 (okC_on hok4 oS4)).2.2); omega) (cE_L cy ad S4 ((okC_ix hok4 (okC_on hok4 oS4)).2.2)) rfl rfl hl.1 rfl (Nat.le_of_ble_eq_true rfl) dX2_makeWay_70 ⟨Nat.zero_le _, Nat.zero_le _⟩ (fun H locs hP hS => ?_)
      obtain ⟨S5, eS5⟩ : ∃ z : Cs, z = F_X0_addFirst S4 (((cT S4 (cI S4) 5)).toNatClampNeg) (cT S4 (cI S4) 0) := ⟨_, rfl⟩
      rw [← eS5] at hP
      have hok5 : okC N L b S5 := by rw [eS5]; exact ok_X0_addFirst hok4 ((okC_ix hok4 (okC_on hok4 oS4)).2.2)
      refine lv_aload_n hx hb dX2_makeWay_73 rfl (lv_at hl 0 rfl) ?_
      refine lv_null hx hb dX2_makeWay_74 ?_
      refine c_pNn hx hb hts hinX2 hown hK hap hP hS (hts (.fieldLink RX2 38 "FeedbackQueues" "onProcessor" "LFeedbackQueues$Task;") (by decide +kernel)) dX2_makeWay_75 (fun H locs hP hS => ?_)
      obtain ⟨S6, eS6⟩ : ∃ z : Cs, z = sN S5 none := ⟨_, rfl⟩
      rw [← eS6] at hP
      have hok6 : okC N L b S6 := by rw [eS6]; exact okC_sN0 hok5
      have hF : F_X2_makeWay S  = S6 := by subst eS6 eS5 eS4 eS3 eS2 eS1; simp only [F_X2_makeWay, if_neg o_1, if_neg c_18]
      rw [hF]
      exact c_vret hx hb hr hlocks hP hS dX2_makeWay_78 (fun _ h => h)
    · skip
      have hF : F_X2_makeWay S  = S1 := by subst eS1; simp only [F_X2_makeWay, if_neg o_1, if_pos c_18]
      rw [hF]
      exact c_vret hx hb hr hlocks hP hS dX2_makeWay_21 (fun _ h => h)
set_option maxHeartbeats 4000000 in
set_option maxRecDepth 100000 in
theorem k_X2_switchTo (l : Launch) (D : va_G) (cy : Nat → ClassId) (ad : Nat → Nat) (S : Cs) (u : Nat)  (hu : u < 16) {N L b : Nat} (hok : okC N L b S) (hb30 : b < 2 ^ 30) (huN : u < N) : cMv l yX2_switchTo wsX2_switchTo { frames := 1, cells := 0, slots := 0, locals := 22 } D cy ad [.ref (ad 0), .ref (ad (16 + 2 * u))] S (F_X2_switchTo S u) := by
  intro sz
  refine Met.ofW (cc := cX2_switchTo) (maxL := 2) (ret := none) (by decide) rfl ?_
  intro p e s m args below meth c s₁ B hml hv
  obtain ⟨rfl, hsz, hP, hK, hap0, hN⟩ := hv
  have hx := B.exec
  have hb := B.bytes
  have hr := B.returns
  have hts := atoms_spec (ws := wsX2_switchTo) B.pre
  have hown : s.vm.findClass RX2 = some m.cls := findClass_of_methodNamed B.named
  have hlocks := B.notSynchronized
  subst hsz
  have hap := gw_self (sz := s.heap.size) hap0
  generalize hAe : gA 48 ad s.heap.size = A at hap ⊢
  have hA : ∀ q : Nat, s.heap.size ≤ q → A q := fun q h => by rw [← hAe]; exact Or.inr h
  have hS : va_S A s.heap s.heap [] := va_S.rf
  have hinX0 : ∀ w ∈ wsX00, w ∈ wsX2_switchTo := by decide +kernel
  have hinX1 : ∀ w ∈ wsX10, w ∈ wsX2_switchTo := by decide +kernel
  have hinX2 : ∀ w ∈ wsX20, w ∈ wsX2_switchTo := by decide +kernel
  have hl := lv_entry ([.ref (ad 0), .ref (ad (16 + 2 * u))]) (n := 2) (Nat.le_of_ble_eq_true rfl)
  rw [lg_entry_eq]
  generalize (lg_sl ([.ref (ad 0), .ref (ad (16 + 2 * u))]) ++ List.replicate (2 - (lg_sl ([.ref (ad 0), .ref (ad (16 + 2 * u))])).length) Slot.unset).toArray = ls at hl ⊢
  have hl : lv_has ls 2 [(0, .ref (ad 0)), (1, .ref (ad (16 + 2 * u)))] := hl
  obtain ⟨H, hH⟩ : ∃ H, H = s.heap := ⟨_, rfl⟩
  rw [← hH] at hP
  have hS : va_S A s.heap H [] := by rw [hH]; exact hS
  rw [← hH]
  generalize ([] : List Loc) = locs at hS ⊢
  refine lv_aload_n hx hb dX2_switchTo_0 rfl (lv_at hl 1 rfl) ?_
  refine lv_aload_n hx hb dX2_switchTo_1 rfl (lv_at hl 0 rfl) ?_
  refine c_gO hx hb hts hinX2 hown hK hP 6 (by decide) (hts (.fieldLink RX2 35 "FeedbackQueues" "now" "I") (by decide +kernel)) rfl dX2_switchTo_2 ?_
  refine lv_aload_n hx hb dX2_switchTo_5 rfl (lv_at hl 0 rfl) ?_
  refine c_gO hx hb hts hinX2 hown hK hP 0 (by decide) (hts (.fieldLink RX2 11 "FeedbackQueues" "levelRows" "[LFeedbackQueues$Level;") (by decide +kernel)) rfl dX2_switchTo_6 ?_
  refine lv_aload_n hx hb dX2_switchTo_9 rfl (lv_at hl 1 rfl) ?_
  refine c_gTN (i := u) hx hb hts hinX1 hown hK hP hu 5 (by decide) (hN.fld (args := _) (a := "FeedbackQueues") (i := 121) (b := "FeedbackQueues$Task") (n := "level") (d := "I") (h' := "FeedbackQueues") (by decide +kernel)) rfl dX2_switchTo_10 ?_
  refine c_aL (k := ((cT S u 5)).toNatClampNeg) hx hb hK hP (okC_ix hok hu) dX2_switchTo_13 ?_
  refine c_gLN (i := ((cT S u 5)).toNatClampNeg) hx hb hts hinX0 hown hK hP ((okC_ix hok hu).2.2) 0 (by decide) (hN.fld (args := _) (a := "FeedbackQueues") (i := 65) (b := "FeedbackQueues$Level") (n := "quantum") (d := "I") (h' := "FeedbackQueues") (by decide +kernel)) rfl dX2_switchTo_14 ?_
  refine c_cNv (As := [.int (cO S 6), .int (cL S (((cT S u 5)).toNatClampNeg) 0)]) (rest := []) (k := (16 + 2 * u)) (ci := 1) (q := (RX1, TX1, 19)) ⟨hx, hb, hml, hown, hts⟩ (k_X1_beginRunning l D cy ad S u (cO S 6) (cL S (((cT S u 5)).toNatClampNeg) 0) hu) ⟨va_cnB (host := "FeedbackQueues") 2 hts gX2_switchTo_X1_beginRunning_n237 rfl rfl rfl (hN.mth (a := RX2) (i := 237) (x := yX1_beginRunning) (h' := "FeedbackQueues") (by decide +kernel)) (hts (.initialized RX1) (by decide +kernel)) (by decide +kernel) ⟨Nat.le_of_ble_eq_true rfl, Nat.le_of_ble_eq_true rfl⟩, hts (.instanceMethod yX1_beginRunning) (by decide +kernel), hts (.selects RX1 yX1_beginRunning yX1_beginRunning) (by decide +kernel)⟩ hK hap hA hN hP hS (by have h9 := (hu); omega) (cE_T cy ad S u) rfl rfl hl.1 rfl (Nat.le_of_ble_eq_true rfl) dX2_switchTo_17 ⟨Nat.zero_le _, Nat.zero_le _⟩ (fun H locs hP hS => ?_)
  obtain ⟨S1, eS1⟩ : ∃ z : Cs, z = F_X1_beginRunning S u (cO S 6) (cL S (((cT S u 5)).toNatClampNeg) 0) := ⟨_, rfl⟩
  rw [← eS1] at hP
  have hok1 : okC N L b S1 := by rw [eS1]; exact ok_X1_beginRunning hok hu
  refine lv_aload_n hx hb dX2_switchTo_20 rfl (lv_at hl 0 rfl) ?_
  refine c_gO hx hb hts hinX2 hown hK hP 8 (by decide) (hts (.fieldLink RX2 42 "FeedbackQueues" "switchCount" "I") (by decide +kernel)) rfl dX2_switchTo_21 ?_
  refine lv_sipush (v := 400) hx hb dX2_switchTo_24 (by decide) ?_
  refine lv_icmp_ge (tgt := 51) hx hb dX2_switchTo_27 (by decide) (fun c_27 => ?_) (fun c_27 => ?_)
  · skip
    refine lv_aload_n hx hb dX2_switchTo_51 rfl (lv_at hl 0 rfl) ?_
    refine lv_dup hx hb dX2_switchTo_52 rfl ?_
    refine c_gO hx hb hts hinX2 hown hK hP 8 (by decide) (hts (.fieldLink RX2 42 "FeedbackQueues" "switchCount" "I") (by decide +kernel)) rfl dX2_switchTo_53 ?_
    refine lv_iconst (v := 1) hx hb dX2_switchTo_56 (by decide) ?_
    refine lv_iadd hx hb dX2_switchTo_57 ?_
    refine c_pO (ty := .int) (v := (cO S1 8) + 1) hx hb hts hinX2 hown hK hap hP hS 8 (by decide) (hts (.fieldLink RX2 42 "FeedbackQueues" "switchCount" "I") (by decide +kernel)) rfl (by decide +kernel) rfl rfl (cOf_8 ad S1 _) (Nat.le_of_ble_eq_true rfl) dX2_switchTo_58 (fun H locs hP hS => ?_)
    obtain ⟨S2, eS2⟩ : ∃ z : Cs, z = sO S1 8 ((cO S1 8) + 1) := ⟨_, rfl⟩
    rw [← eS2] at hP
    refine lv_aload_n hx hb dX2_switchTo_61 rfl (lv_at hl 0 rfl) ?_
    refine lv_aload_n hx hb dX2_switchTo_62 rfl (lv_at hl 1 rfl) ?_
    refine c_pNs (i := u) hx hb hts hinX2 hown hK hap hP hS (hts (.fieldLink RX2 38 "FeedbackQueues" "onProcessor" "LFeedbackQueues$Task;") (by decide +kernel)) dX2_switchTo_63 (fun H locs hP hS => ?_)
    obtain ⟨S3, eS3⟩ : ∃ z : Cs, z = sN S2 (some u) := ⟨_, rfl⟩
    rw [← eS3] at hP
    have hF : F_X2_switchTo S u = S3 := by subst eS3 eS2 eS1; simp only [F_X2_switchTo, if_pos c_27]
    rw [hF]
    exact c_vret hx hb hr hlocks hP hS dX2_switchTo_66 (fun _ h => h)
  · skip
    refine lv_aload_n hx hb dX2_switchTo_30 rfl (lv_at hl 0 rfl) ?_
    refine c_gO hx hb hts hinX2 hown hK hP 2 (by decide) (hts (.fieldLink RX2 21 "FeedbackQueues" "switchesKept" "[I") (by decide +kernel)) rfl dX2_switchTo_31 ?_
    refine lv_aload_n hx hb dX2_switchTo_34 rfl (lv_at hl 0 rfl) ?_
    refine c_gO hx hb hts hinX2 hown hK hP 8 (by decide) (hts (.fieldLink RX2 42 "FeedbackQueues" "switchCount" "I") (by decide +kernel)) rfl dX2_switchTo_35 ?_
    refine lv_bipush (v := 16) hx hb dX2_switchTo_38 (by decide) ?_
    refine lv_aload_n hx hb dX2_switchTo_40 rfl (lv_at hl 0 rfl) ?_
    refine c_gO hx hb hts hinX2 hown hK hP 6 (by decide) (hts (.fieldLink RX2 35 "FeedbackQueues" "now" "I") (by decide +kernel)) rfl dX2_switchTo_41 ?_
    refine lv_imul hx hb dX2_switchTo_44 ?_
    refine lv_aload_n hx hb dX2_switchTo_45 rfl (lv_at hl 1 rfl) ?_
    refine c_gTN (i := u) hx hb hts hinX1 hown hK hP hu 0 (by decide) (hN.fld (args := _) (a := "FeedbackQueues") (i := 150) (b := "FeedbackQueues$Task") (n := "number") (d := "I") (h' := "FeedbackQueues") (by decide +kernel)) rfl dX2_switchTo_46 ?_
    refine lv_iadd hx hb dX2_switchTo_49 ?_
    refine c_sW (k := ((cO S1 8)).toNatClampNeg) (v := (16 * (cO S1 6)) + (cT S1 u 0)) hx hb hK hap hP hS (okC_w hok1 hb30 c_27) dX2_switchTo_50 (fun H locs hP hS => ?_)
    obtain ⟨S4, eS4⟩ : ∃ z : Cs, z = sW S1 (((cO S1 8)).toNatClampNeg) ((16 * (cO S1 6)) + (cT S1 u 0)) := ⟨_, rfl⟩
    rw [← eS4] at hP
    have hok2 : okC N L b S4 := by rw [eS4]; exact okC_sW hok1
    refine lv_aload_n hx hb dX2_switchTo_51 rfl (lv_at hl 0 rfl) ?_
    refine lv_dup hx hb dX2_switchTo_52 rfl ?_
    refine c_gO hx hb hts hinX2 hown hK hP 8 (by decide) (hts (.fieldLink RX2 42 "FeedbackQueues" "switchCount" "I") (by decide +kernel)) rfl dX2_switchTo_53 ?_
    refine lv_iconst (v := 1) hx hb dX2_switchTo_56 (by decide) ?_
    refine lv_iadd hx hb dX2_switchTo_57 ?_
    refine c_pO (ty := .int) (v := (cO S4 8) + 1) hx hb hts hinX2 hown hK hap hP hS 8 (by decide) (hts (.fieldLink RX2 42 "FeedbackQueues" "switchCount" "I") (by decide +kernel)) rfl (by decide +kernel) rfl rfl (cOf_8 ad S4 _) (Nat.le_of_ble_eq_true rfl) dX2_switchTo_58 (fun H locs hP hS => ?_)
    obtain ⟨S5, eS5⟩ : ∃ z : Cs, z = sO S4 8 ((cO S4 8) + 1) := ⟨_, rfl⟩
    rw [← eS5] at hP
    refine lv_aload_n hx hb dX2_switchTo_61 rfl (lv_at hl 0 rfl) ?_
    refine lv_aload_n hx hb dX2_switchTo_62 rfl (lv_at hl 1 rfl) ?_
    refine c_pNs (i := u) hx hb hts hinX2 hown hK hap hP hS (hts (.fieldLink RX2 38 "FeedbackQueues" "onProcessor" "LFeedbackQueues$Task;") (by decide +kernel)) dX2_switchTo_63 (fun H locs hP hS => ?_)
    obtain ⟨S6, eS6⟩ : ∃ z : Cs, z = sN S5 (some u) := ⟨_, rfl⟩
    rw [← eS6] at hP
    have hF : F_X2_switchTo S u = S6 := by subst eS6 eS5 eS4 eS1; simp only [F_X2_switchTo, if_neg c_27]
    rw [hF]
    exact c_vret hx hb hr hlocks hP hS dX2_switchTo_66 (fun _ h => h)
set_option maxHeartbeats 4000000 in
set_option maxRecDepth 100000 in
theorem k_X2_switchToFirst (l : Launch) (D : va_G) (cy : Nat → ClassId) (ad : Nat → Nat) (S : Cs)   {N L b : Nat} (hok : okC N L b S) (hb30 : b < 2 ^ 30) : cMv l yX2_switchToFirst wsX2_switchToFirst { frames := 2, cells := 0, slots := 0, locals := 43 } D cy ad [.ref (ad 0)] S (F_X2_switchToFirst S ) := by
  intro sz
  refine Met.ofW (cc := cX2_switchToFirst) (maxL := 3) (ret := none) (by decide) rfl ?_
  intro p e s m args below meth c s₁ B hml hv
  obtain ⟨rfl, hsz, hP, hK, hap0, hN⟩ := hv
  have hx := B.exec
  have hb := B.bytes
  have hr := B.returns
  have hts := atoms_spec (ws := wsX2_switchToFirst) B.pre
  have hown : s.vm.findClass RX2 = some m.cls := findClass_of_methodNamed B.named
  have hlocks := B.notSynchronized
  subst hsz
  have hap := gw_self (sz := s.heap.size) hap0
  generalize hAe : gA 48 ad s.heap.size = A at hap ⊢
  have hA : ∀ q : Nat, s.heap.size ≤ q → A q := fun q h => by rw [← hAe]; exact Or.inr h
  have hS : va_S A s.heap s.heap [] := va_S.rf
  have hinX2 : ∀ w ∈ wsX20, w ∈ wsX2_switchToFirst := by decide +kernel
  have hl := lv_entry ([.ref (ad 0)]) (n := 3) (Nat.le_of_ble_eq_true rfl)
  rw [lg_entry_eq]
  generalize (lg_sl ([.ref (ad 0)]) ++ List.replicate (3 - (lg_sl ([.ref (ad 0)])).length) Slot.unset).toArray = ls at hl ⊢
  have hl : lv_has ls 3 [(0, .ref (ad 0))] := hl
  obtain ⟨H, hH⟩ : ∃ H, H = s.heap := ⟨_, rfl⟩
  rw [← hH] at hP
  have hS : va_S A s.heap H [] := by rw [hH]; exact hS
  rw [← hH]
  generalize ([] : List Loc) = locs at hS ⊢
  refine lv_iconst (v := 0) hx hb dX2_switchToFirst_0 (by decide) ?_
  refine lv_istore_n (lv' := [(1, .int 0), (0, .ref (ad 0))]) hx hb dX2_switchToFirst_1 rfl hl (by decide) rfl (fun ls hl => ?_)
  have hLe : (cO S 3).toNatClampNeg = L := okC_L hok
  have hL6 : L ≤ 6 := hok.2.2.2.2.1
  have hL1 : 1 ≤ L := hok.2.2.2.1
  have lp_2 : ∀ (n t : Nat) (Z : Cs) (H : Heap) (locs : List Loc) (ls : Array Slot), t + n = (cO S 3).toNatClampNeg → okC N L b Z → F_X2_switchToFirst S  = L_X2_switchToFirst_2 n t Z → va_P D vwCl (cwl cy ad Z) H → va_S A s.heap H locs → lv_has ls 3 [(1, .int (nI t)), (0, .ref (ad 0))] → W p l e (headSpec wsX2_switchToFirst { frames := 2, cells := 0, slots := 0, locals := 43 }).room s m ([.ref (ad 0)] : List Value).toArray below meth c H locs 0 0 (MQ below (va_Qv (fun _ : Unit => True) (fun _ t => cPost D cy ad (F_X2_switchToFirst S ) t) A) ([.ref (ad 0)] : List Value).toArray s 0 0 A) (F0 m 2 ls []) := by
    intro n
    induction n with
    | zero =>
      intro t Z H locs ls hk hI hT hP hS hl
      refine lv_iload_n hx hb dX2_switchToFirst_2 rfl (lv_at hl 0 rfl) ?_
      refine lv_aload_n hx hb dX2_switchToFirst_3 rfl (lv_at hl 1 rfl) ?_
      refine c_gO hx hb hts hinX2 hown hK hP 3 (by decide) (hts (.fieldLink RX2 25 "FeedbackQueues" "levelCount" "I") (by decide +kernel)) rfl dX2_switchToFirst_4 ?_
      refine lv_icmp_ge (tgt := 45) hx hb dX2_switchToFirst_7 (by decide) (fun c_7 => ?_) (fun c_7 => ?_)
      rotate_left
      · exact absurd (by rw [show cO Z 3 = nI ((cO S 3).toNatClampNeg) from by rw [hLe]; exact hI.2.1]; exact nI_le (by omega) (by omega)) c_7
      have hF : F_X2_switchToFirst S  = Z := hT.trans (by simp only [L_X2_switchToFirst_2])
      rw [hF]
      exact c_vret hx hb hr hlocks hP hS dX2_switchToFirst_45 (fun _ h => h)
    | succ n ih =>
      intro t Z H locs ls hk hI hT hP hS hl
      have ht : t < (cO S 3).toNatClampNeg := by omega
      refine lv_iload_n hx hb dX2_switchToFirst_2 rfl (lv_at hl 0 rfl) ?_
      refine lv_aload_n hx hb dX2_switchToFirst_3 rfl (lv_at hl 1 rfl) ?_
      refine c_gO hx hb hts hinX2 hown hK hP 3 (by decide) (hts (.fieldLink RX2 25 "FeedbackQueues" "levelCount" "I") (by decide +kernel)) rfl dX2_switchToFirst_4 ?_
      refine lv_icmp_ge (tgt := 45) hx hb dX2_switchToFirst_7 (by decide) (fun c_7 => ?_) (fun c_7 => ?_)
      · exact absurd c_7 (by rw [show cO Z 3 = nI ((cO S 3).toNatClampNeg) from by rw [hLe]; exact hI.2.1]; exact nI_ge (by omega) (by omega))
      refine lv_aload_n hx hb dX2_switchToFirst_10 rfl (lv_at hl 1 rfl) ?_
      refine c_gO hx hb hts hinX2 hown hK hP 0 (by decide) (hts (.fieldLink RX2 11 "FeedbackQueues" "levelRows" "[LFeedbackQueues$Level;") (by decide +kernel)) rfl dX2_switchToFirst_11 ?_
      refine lv_iload_n hx hb dX2_switchToFirst_14 rfl (lv_at hl 0 rfl) ?_
      refine c_aL (k := t) hx hb hK hP (ix_nI (by omega) (by omega)) dX2_switchToFirst_15 ?_
      refine c_cNi (As := []) (rest := []) (k := (4 + 2 * t)) (ci := 0) (q := (RX0, TX0, 4)) ⟨hx, hb, hml, hown, hts⟩ (k_X0_takeFirst l D cy ad Z t ((ix_nI (by omega) (by omega)).2.2) (okC_sz hI (by omega))) ⟨va_cnB (host := "FeedbackQueues") 0 hts gX2_switchToFirst_X0_takeFirst_n230 rfl rfl rfl (hN.mth (a := RX2) (i := 230) (x := yX0_takeFirst) (h' := "FeedbackQueues") (by decide +kernel)) (hts (.initialized RX0) (by decide +kernel)) (by decide +kernel) ⟨Nat.le_of_ble_eq_true rfl, Nat.le_of_ble_eq_true rfl⟩, hts (.instanceMethod yX0_takeFirst) (by decide +kernel), hts (.selects RX0 yX0_takeFirst yX0_takeFirst) (by decide +kernel)⟩ hK hap hA hN hP hS (by have h9 := ((ix_nI (by omega) (by omega)).2.2); omega) (cE_L cy ad Z ((ix_nI (by omega) (by omega)).2.2)) rfl rfl hl.1 rfl (Nat.le_of_ble_eq_true rfl) dX2_switchToFirst_16 ⟨Nat.zero_le _, Nat.zero_le _⟩ (fun H locs hP hS => ?_)
      obtain ⟨S1, eS1⟩ : ∃ z : Cs, z = (F_X0_takeFirst Z t).1 := ⟨_, rfl⟩
      rw [← eS1] at hP
      have hok1 : okC N L b S1 := by rw [eS1]; exact ok_X0_takeFirst hI ((ix_nI (by omega) (by omega)).2.2)
      refine lv_istore_n (lv' := [(2, .int ((F_X0_takeFirst Z t).2)), (1, .int (nI t)), (0, .ref (ad 0))]) hx hb dX2_switchToFirst_19 rfl hl (by decide) rfl (fun ls hl => ?_)
      refine lv_aload_n hx hb dX2_switchToFirst_20 rfl (lv_at hl 2 rfl) ?_
      refine lv_iload_n hx hb dX2_switchToFirst_21 rfl (lv_at hl 0 rfl) ?_
      refine c_cVi (As := [.int ((F_X0_takeFirst Z t).2)]) (rest := []) (k := 0) (ci := 2) (q := (RX2, TX2, 12)) ⟨hx, hb, hml, hown, hts⟩ (k_X2_isTask l D cy ad S1 ((F_X0_takeFirst Z t).2)) (cwV 1 hts gX2_switchToFirst_X2_isTask rfl rfl rfl (by decide +kernel) ⟨Nat.le_of_ble_eq_true rfl, Nat.le_of_ble_eq_true rfl⟩) hK hap hA hN hP hS (by omega) (cE_O cy ad S1) rfl rfl hl.1 rfl (Nat.le_of_ble_eq_true rfl) dX2_switchToFirst_22 ⟨Nat.zero_le _, Nat.zero_le _⟩ (fun H locs hP hS => ?_)
      obtain ⟨S2, eS2⟩ : ∃ z : Cs, z = (F_X2_isTask S1 ((F_X0_takeFirst Z t).2)).1 := ⟨_, rfl⟩
      rw [← eS2] at hP
      have hok2 : okC N L b S2 := by rw [eS2]; exact ok_X2_isTask hok1 
      refine lv_if_eq (tgt := 39) hx hb dX2_switchToFirst_25 (by decide) (fun c_25 => ?_) (fun c_25 => ?_)
      · skip
        refine lv_iinc (v := nI (t + 1)) (lv' := [(1, .int (nI (t + 1))), (2, .int ((F_X0_takeFirst Z t).2)), (0, .ref (ad 0))]) hx hb dX2_switchToFirst_39 hl (k := 1) rfl (inc_nI t) (by decide) rfl (fun ls hl => ?_)
        refine lv_goto (tgt := 2) hx hb dX2_switchToFirst_42 (by decide) ?_
        exact ih (t + 1) S2 H locs ls (by omega) (hok2) (hT.trans (by subst eS2 eS1; simp only [L_X2_switchToFirst_2, if_pos c_25])) hP hS (lv_sub hl [0, 2] rfl)
      · skip
        refine lv_aload_n hx hb dX2_switchToFirst_28 rfl (lv_at hl 2 rfl) ?_
        refine lv_aload_n hx hb dX2_switchToFirst_29 rfl (lv_at hl 2 rfl) ?_
        refine c_gO hx hb hts hinX2 hown hK hP 1 (by decide) (hts (.fieldLink RX2 17 "FeedbackQueues" "tasks" "[LFeedbackQueues$Task;") (by decide +kernel)) rfl dX2_switchToFirst_30 ?_
        refine lv_iload_n hx hb dX2_switchToFirst_33 rfl (lv_at hl 0 rfl) ?_
        refine c_aT (k := (((F_X0_takeFirst Z t).2)).toNatClampNeg) hx hb hK hP (isT_ix hok1 c_25) dX2_switchToFirst_34 ?_
        refine c_cVv (As := [.ref (ad (16 + 2 * ((((F_X0_takeFirst Z t).2)).toNatClampNeg)))]) (rest := []) (k := 0) (ci := 2) (q := (RX2, TX2, 12)) ⟨hx, hb, hml, hown, hts⟩ (k_X2_switchTo l D cy ad S2 ((((F_X0_takeFirst Z t).2)).toNatClampNeg) ((isT_ix hok1 c_25).2.2) hok2 hb30 (isT_N hok1 c_25)) (cwV 1 hts gX2_switchToFirst_X2_switchTo rfl rfl rfl (by decide +kernel) ⟨Nat.le_of_ble_eq_true rfl, Nat.le_of_ble_eq_true rfl⟩) hK hap hA hN hP hS (by omega) (cE_O cy ad S2) rfl rfl hl.1 rfl (Nat.le_of_ble_eq_true rfl) dX2_switchToFirst_35 ⟨Nat.zero_le _, Nat.zero_le _⟩ (fun H locs hP hS => ?_)
        obtain ⟨S3, eS3⟩ : ∃ z : Cs, z = F_X2_switchTo S2 ((((F_X0_takeFirst Z t).2)).toNatClampNeg) := ⟨_, rfl⟩
        rw [← eS3] at hP
        have hF : F_X2_switchToFirst S  = S3 := hT.trans (by subst eS3 eS2 eS1; simp only [L_X2_switchToFirst_2, if_neg c_25])
        rw [hF]
        exact c_vret hx hb hr hlocks hP hS dX2_switchToFirst_38 (fun _ h => h)
  exact lp_2 ((cO S 3).toNatClampNeg) 0 S H locs ls (by omega) (hok) (by simp only [F_X2_switchToFirst]) hP hS (by rw [show nI 0 = 0 from by decide]; exact lv_sub hl [0, 1] rfl)
set_option maxHeartbeats 4000000 in
set_option maxRecDepth 100000 in
theorem k_X2_doTick (l : Launch) (D : va_G) (cy : Nat → ClassId) (ad : Nat → Nat) (S : Cs)   {N L b : Nat} (hok : okC N L b S) (hb30 : b < 2 ^ 30) : cMv l yX2_doTick wsX2_doTick { frames := 4, cells := 0, slots := 0, locals := 85 } D cy ad [.ref (ad 0)] S (F_X2_doTick S ) := by
  intro sz
  refine Met.ofW (cc := cX2_doTick) (maxL := 1) (ret := none) (by decide) rfl ?_
  intro p e s m args below meth c s₁ B hml hv
  obtain ⟨rfl, hsz, hP, hK, hap0, hN⟩ := hv
  have hx := B.exec
  have hb := B.bytes
  have hr := B.returns
  have hts := atoms_spec (ws := wsX2_doTick) B.pre
  have hown : s.vm.findClass RX2 = some m.cls := findClass_of_methodNamed B.named
  have hlocks := B.notSynchronized
  subst hsz
  have hap := gw_self (sz := s.heap.size) hap0
  generalize hAe : gA 48 ad s.heap.size = A at hap ⊢
  have hA : ∀ q : Nat, s.heap.size ≤ q → A q := fun q h => by rw [← hAe]; exact Or.inr h
  have hS : va_S A s.heap s.heap [] := va_S.rf
  have hinX2 : ∀ w ∈ wsX20, w ∈ wsX2_doTick := by decide +kernel
  have hl := lv_entry ([.ref (ad 0)]) (n := 1) (Nat.le_of_ble_eq_true rfl)
  rw [lg_entry_eq]
  generalize (lg_sl ([.ref (ad 0)]) ++ List.replicate (1 - (lg_sl ([.ref (ad 0)])).length) Slot.unset).toArray = ls at hl ⊢
  have hl : lv_has ls 1 [(0, .ref (ad 0))] := hl
  obtain ⟨H, hH⟩ : ∃ H, H = s.heap := ⟨_, rfl⟩
  rw [← hH] at hP
  have hS : va_S A s.heap H [] := by rw [hH]; exact hS
  rw [← hH]
  generalize ([] : List Loc) = locs at hS ⊢
  have j_30 : ∀ (Y : Cs) (H : Heap) (locs : List Loc) (ls : Array Slot), okC N L b Y → F_X2_doTick S  = G_X2_doTick_30 Y  → va_P D vwCl (cwl cy ad Y) H → va_S A s.heap H locs → lv_has ls 1 [(0, .ref (ad 0))] → W p l e (headSpec wsX2_doTick { frames := 4, cells := 0, slots := 0, locals := 85 }).room s m ([.ref (ad 0)] : List Value).toArray below meth c H locs 0 0 (MQ below (va_Qv (fun _ : Unit => True) (fun _ t => cPost D cy ad (F_X2_doTick S ) t) A) ([.ref (ad 0)] : List Value).toArray s 0 0 A) (F0 m 30 ls []) := by
    intro Y H locs ls hokY hT hP hS hl
    refine lv_aload_n hx hb dX2_doTick_30 rfl (lv_at hl 0 rfl) ?_
    refine c_cVv (As := []) (rest := []) (k := 0) (ci := 2) (q := (RX2, TX2, 12)) ⟨hx, hb, hml, hown, hts⟩ (k_X2_letArrive l D cy ad Y   hokY) (cwV 0 hts gX2_doTick_X2_letArrive rfl rfl rfl (by decide +kernel) ⟨Nat.le_of_ble_eq_true rfl, Nat.le_of_ble_eq_true rfl⟩) hK hap hA hN hP hS (by omega) (cE_O cy ad Y) rfl rfl hl.1 rfl (Nat.le_of_ble_eq_true rfl) dX2_doTick_31 ⟨Nat.zero_le _, Nat.zero_le _⟩ (fun H locs hP hS => ?_)
    obtain ⟨S1, eS1⟩ : ∃ z : Cs, z = F_X2_letArrive Y := ⟨_, rfl⟩
    rw [← eS1] at hP
    have hok1 : okC N L b S1 := by rw [eS1]; exact ok_X2_letArrive hokY 
    refine lv_aload_n hx hb dX2_doTick_34 rfl (lv_at hl 0 rfl) ?_
    refine c_cVv (As := []) (rest := []) (k := 0) (ci := 2) (q := (RX2, TX2, 12)) ⟨hx, hb, hml, hown, hts⟩ (k_X2_letComeBack l D cy ad S1   hok1) (cwV 0 hts gX2_doTick_X2_letComeBack rfl rfl rfl (by decide +kernel) ⟨Nat.le_of_ble_eq_true rfl, Nat.le_of_ble_eq_true rfl⟩) hK hap hA hN hP hS (by omega) (cE_O cy ad S1) rfl rfl hl.1 rfl (Nat.le_of_ble_eq_true rfl) dX2_doTick_35 ⟨Nat.zero_le _, Nat.zero_le _⟩ (fun H locs hP hS => ?_)
    obtain ⟨S2, eS2⟩ : ∃ z : Cs, z = F_X2_letComeBack S1 := ⟨_, rfl⟩
    rw [← eS2] at hP
    have hok2 : okC N L b S2 := by rw [eS2]; exact ok_X2_letComeBack hok1 
    refine lv_aload_n hx hb dX2_doTick_38 rfl (lv_at hl 0 rfl) ?_
    refine c_cVv (As := []) (rest := []) (k := 0) (ci := 2) (q := (RX2, TX2, 12)) ⟨hx, hb, hml, hown, hts⟩ (k_X2_makeWay l D cy ad S2   hok2) (cwV 0 hts gX2_doTick_X2_makeWay rfl rfl rfl (by decide +kernel) ⟨Nat.le_of_ble_eq_true rfl, Nat.le_of_ble_eq_true rfl⟩) hK hap hA hN hP hS (by omega) (cE_O cy ad S2) rfl rfl hl.1 rfl (Nat.le_of_ble_eq_true rfl) dX2_doTick_39 ⟨Nat.zero_le _, Nat.zero_le _⟩ (fun H locs hP hS => ?_)
    obtain ⟨S3, eS3⟩ : ∃ z : Cs, z = F_X2_makeWay S2 := ⟨_, rfl⟩
    rw [← eS3] at hP
    have hok3 : okC N L b S3 := by rw [eS3]; exact ok_X2_makeWay hok2 
    refine lv_aload_n hx hb dX2_doTick_42 rfl (lv_at hl 0 rfl) ?_
    by_cases o_43 : cN S3 = none
    · skip
      refine c_gO hx hb hts hinX2 hown hK hP 7 (by decide) (hts (.fieldLink RX2 38 "FeedbackQueues" "onProcessor" "LFeedbackQueues$Task;") (by decide +kernel)) (cOf_7n ad o_43) dX2_doTick_43 ?_
      refine lv_ifnonnullN hx hb dX2_doTick_46 ?_
      refine lv_aload_n hx hb dX2_doTick_49 rfl (lv_at hl 0 rfl) ?_
      refine c_cVv (As := []) (rest := []) (k := 0) (ci := 2) (q := (RX2, TX2, 12)) ⟨hx, hb, hml, hown, hts⟩ (k_X2_switchToFirst l D cy ad S3   hok3 hb30) (cwV 0 hts gX2_doTick_X2_switchToFirst rfl rfl rfl (by decide +kernel) ⟨Nat.le_of_ble_eq_true rfl, Nat.le_of_ble_eq_true rfl⟩) hK hap hA hN hP hS (by omega) (cE_O cy ad S3) rfl rfl hl.1 rfl (Nat.le_of_ble_eq_true rfl) dX2_doTick_50 ⟨Nat.zero_le _, Nat.zero_le _⟩ (fun H locs hP hS => ?_)
      obtain ⟨S4, eS4⟩ : ∃ z : Cs, z = F_X2_switchToFirst S3 := ⟨_, rfl⟩
      rw [← eS4] at hP
      have hok4 : okC N L (b + 1) S4 := by rw [eS4]; exact ok_X2_switchToFirst hok3 hb30
      refine lv_aload_n hx hb dX2_doTick_53 rfl (lv_at hl 0 rfl) ?_
      refine c_cVv (As := []) (rest := []) (k := 0) (ci := 2) (q := (RX2, TX2, 12)) ⟨hx, hb, hml, hown, hts⟩ (k_X2_countWaiting l D cy ad S4   hok4) (cwV 0 hts gX2_doTick_X2_countWaiting rfl rfl rfl (by decide +kernel) ⟨Nat.le_of_ble_eq_true rfl, Nat.le_of_ble_eq_true rfl⟩) hK hap hA hN hP hS (by omega) (cE_O cy ad S4) rfl rfl hl.1 rfl (Nat.le_of_ble_eq_true rfl) dX2_doTick_54 ⟨Nat.zero_le _, Nat.zero_le _⟩ (fun H locs hP hS => ?_)
      obtain ⟨S5, eS5⟩ : ∃ z : Cs, z = F_X2_countWaiting S4 := ⟨_, rfl⟩
      rw [← eS5] at hP
      have hok5 : okC N L (b + 1) S5 := by rw [eS5]; exact ok_X2_countWaiting hok4 
      refine lv_aload_n hx hb dX2_doTick_57 rfl (lv_at hl 0 rfl) ?_
      by_cases o_58 : cN S5 = none
      · skip
        refine c_gO hx hb hts hinX2 hown hK hP 7 (by decide) (hts (.fieldLink RX2 38 "FeedbackQueues" "onProcessor" "LFeedbackQueues$Task;") (by decide +kernel)) (cOf_7n ad o_58) dX2_doTick_58 ?_
        refine lv_ifnonnullN hx hb dX2_doTick_61 ?_
        refine lv_aload_n hx hb dX2_doTick_64 rfl (lv_at hl 0 rfl) ?_
        refine lv_dup hx hb dX2_doTick_65 rfl ?_
        refine c_gO hx hb hts hinX2 hown hK hP 9 (by decide) (hts (.fieldLink RX2 45 "FeedbackQueues" "idleCount" "I") (by decide +kernel)) rfl dX2_doTick_66 ?_
        refine lv_iconst (v := 1) hx hb dX2_doTick_69 (by decide) ?_
        refine lv_iadd hx hb dX2_doTick_70 ?_
        refine c_pO (ty := .int) (v := (cO S5 9) + 1) hx hb hts hinX2 hown hK hap hP hS 9 (by decide) (hts (.fieldLink RX2 45 "FeedbackQueues" "idleCount" "I") (by decide +kernel)) rfl (by decide +kernel) rfl rfl (cOf_9 ad S5 _) (Nat.le_of_ble_eq_true rfl) dX2_doTick_71 (fun H locs hP hS => ?_)
        obtain ⟨S6, eS6⟩ : ∃ z : Cs, z = sO S5 9 ((cO S5 9) + 1) := ⟨_, rfl⟩
        rw [← eS6] at hP
        have oS6 : cN S6 = none := by rw [eS6]; exact o_58
        have hok6 : okC N L (b + 1) S6 := by rw [eS6]; exact okC_sO hok5 (by decide)
        refine lv_goto (tgt := 85) hx hb dX2_doTick_74 (by decide) ?_
        refine lv_aload_n hx hb dX2_doTick_85 rfl (lv_at hl 0 rfl) ?_
        refine lv_dup hx hb dX2_doTick_86 rfl ?_
        refine c_gO hx hb hts hinX2 hown hK hP 6 (by decide) (hts (.fieldLink RX2 35 "FeedbackQueues" "now" "I") (by decide +kernel)) rfl dX2_doTick_87 ?_
        refine lv_iconst (v := 1) hx hb dX2_doTick_90 (by decide) ?_
        refine lv_iadd hx hb dX2_doTick_91 ?_
        refine c_pO (ty := .int) (v := (cO S6 6) + 1) hx hb hts hinX2 hown hK hap hP hS 6 (by decide) (hts (.fieldLink RX2 35 "FeedbackQueues" "now" "I") (by decide +kernel)) rfl (by decide +kernel) rfl rfl (cOf_6 ad S6 _) (Nat.le_of_ble_eq_true rfl) dX2_doTick_92 (fun H locs hP hS => ?_)
        obtain ⟨S7, eS7⟩ : ∃ z : Cs, z = sO S6 6 ((cO S6 6) + 1) := ⟨_, rfl⟩
        rw [← eS7] at hP
        have oS7 : cN S7 = none := by rw [eS7]; exact oS6
        have hok7 : okC N L (b + 1) S7 := by rw [eS7]; exact okC_sO hok6 (by decide)
        have hF : F_X2_doTick S  = S7 := hT.trans (by subst eS7 eS6 eS5 eS4 eS3 eS2 eS1; simp only [G_X2_doTick_30, if_pos o_43, if_pos o_58])
        rw [hF]
        exact c_vret hx hb hr hlocks hP hS dX2_doTick_95 (fun _ h => h)
      · skip
        refine c_gO hx hb hts hinX2 hown hK hP 7 (by decide) (hts (.fieldLink RX2 38 "FeedbackQueues" "onProcessor" "LFeedbackQueues$Task;") (by decide +kernel)) (cOf_7s ad o_58) dX2_doTick_58 ?_
        refine lv_ifnonnull (tgt := 77) hx hb dX2_doTick_61 (by decide) ?_
        refine lv_aload_n hx hb dX2_doTick_77 rfl (lv_at hl 0 rfl) ?_
        refine lv_aload_n hx hb dX2_doTick_78 rfl (lv_at hl 0 rfl) ?_
        refine c_gO hx hb hts hinX2 hown hK hP 7 (by decide) (hts (.fieldLink RX2 38 "FeedbackQueues" "onProcessor" "LFeedbackQueues$Task;") (by decide +kernel)) (cOf_7s ad o_58) dX2_doTick_79 ?_
        refine c_cVv (As := [.ref (ad (16 + 2 * (cI S5)))]) (rest := []) (k := 0) (ci := 2) (q := (RX2, TX2, 12)) ⟨hx, hb, hml, hown, hts⟩ (k_X2_useTick l D cy ad S5 (cI S5) (okC_on hok5 o_58) hok5) (cwV 1 hts gX2_doTick_X2_useTick rfl rfl rfl (by decide +kernel) ⟨Nat.le_of_ble_eq_true rfl, Nat.le_of_ble_eq_true rfl⟩) hK hap hA hN hP hS (by omega) (cE_O cy ad S5) rfl rfl hl.1 rfl (Nat.le_of_ble_eq_true rfl) dX2_doTick_82 ⟨Nat.zero_le _, Nat.zero_le _⟩ (fun H locs hP hS => ?_)
        obtain ⟨S8, eS8⟩ : ∃ z : Cs, z = F_X2_useTick S5 (cI S5) := ⟨_, rfl⟩
        rw [← eS8] at hP
        have hok8 : okC N L (b + 1) S8 := by rw [eS8]; exact ok_X2_useTick hok5 (okC_on hok5 o_58)
        refine lv_aload_n hx hb dX2_doTick_85 rfl (lv_at hl 0 rfl) ?_
        refine lv_dup hx hb dX2_doTick_86 rfl ?_
        refine c_gO hx hb hts hinX2 hown hK hP 6 (by decide) (hts (.fieldLink RX2 35 "FeedbackQueues" "now" "I") (by decide +kernel)) rfl dX2_doTick_87 ?_
        refine lv_iconst (v := 1) hx hb dX2_doTick_90 (by decide) ?_
        refine lv_iadd hx hb dX2_doTick_91 ?_
        refine c_pO (ty := .int) (v := (cO S8 6) + 1) hx hb hts hinX2 hown hK hap hP hS 6 (by decide) (hts (.fieldLink RX2 35 "FeedbackQueues" "now" "I") (by decide +kernel)) rfl (by decide +kernel) rfl rfl (cOf_6 ad S8 _) (Nat.le_of_ble_eq_true rfl) dX2_doTick_92 (fun H locs hP hS => ?_)
        obtain ⟨S9, eS9⟩ : ∃ z : Cs, z = sO S8 6 ((cO S8 6) + 1) := ⟨_, rfl⟩
        rw [← eS9] at hP
        have hok9 : okC N L (b + 1) S9 := by rw [eS9]; exact okC_sO hok8 (by decide)
        have hF : F_X2_doTick S  = S9 := hT.trans (by subst eS9 eS8 eS5 eS4 eS3 eS2 eS1; simp only [G_X2_doTick_30, if_pos o_43, if_neg o_58])
        rw [hF]
        exact c_vret hx hb hr hlocks hP hS dX2_doTick_95 (fun _ h => h)
    · skip
      refine c_gO hx hb hts hinX2 hown hK hP 7 (by decide) (hts (.fieldLink RX2 38 "FeedbackQueues" "onProcessor" "LFeedbackQueues$Task;") (by decide +kernel)) (cOf_7s ad o_43) dX2_doTick_43 ?_
      refine lv_ifnonnull (tgt := 53) hx hb dX2_doTick_46 (by decide) ?_
      refine lv_aload_n hx hb dX2_doTick_53 rfl (lv_at hl 0 rfl) ?_
      refine c_cVv (As := []) (rest := []) (k := 0) (ci := 2) (q := (RX2, TX2, 12)) ⟨hx, hb, hml, hown, hts⟩ (k_X2_countWaiting l D cy ad S3   hok3) (cwV 0 hts gX2_doTick_X2_countWaiting rfl rfl rfl (by decide +kernel) ⟨Nat.le_of_ble_eq_true rfl, Nat.le_of_ble_eq_true rfl⟩) hK hap hA hN hP hS (by omega) (cE_O cy ad S3) rfl rfl hl.1 rfl (Nat.le_of_ble_eq_true rfl) dX2_doTick_54 ⟨Nat.zero_le _, Nat.zero_le _⟩ (fun H locs hP hS => ?_)
      obtain ⟨S10, eS10⟩ : ∃ z : Cs, z = F_X2_countWaiting S3 := ⟨_, rfl⟩
      rw [← eS10] at hP
      have hok10 : okC N L b S10 := by rw [eS10]; exact ok_X2_countWaiting hok3 
      refine lv_aload_n hx hb dX2_doTick_57 rfl (lv_at hl 0 rfl) ?_
      by_cases o_58 : cN S10 = none
      · skip
        refine c_gO hx hb hts hinX2 hown hK hP 7 (by decide) (hts (.fieldLink RX2 38 "FeedbackQueues" "onProcessor" "LFeedbackQueues$Task;") (by decide +kernel)) (cOf_7n ad o_58) dX2_doTick_58 ?_
        refine lv_ifnonnullN hx hb dX2_doTick_61 ?_
        refine lv_aload_n hx hb dX2_doTick_64 rfl (lv_at hl 0 rfl) ?_
        refine lv_dup hx hb dX2_doTick_65 rfl ?_
        refine c_gO hx hb hts hinX2 hown hK hP 9 (by decide) (hts (.fieldLink RX2 45 "FeedbackQueues" "idleCount" "I") (by decide +kernel)) rfl dX2_doTick_66 ?_
        refine lv_iconst (v := 1) hx hb dX2_doTick_69 (by decide) ?_
        refine lv_iadd hx hb dX2_doTick_70 ?_
        refine c_pO (ty := .int) (v := (cO S10 9) + 1) hx hb hts hinX2 hown hK hap hP hS 9 (by decide) (hts (.fieldLink RX2 45 "FeedbackQueues" "idleCount" "I") (by decide +kernel)) rfl (by decide +kernel) rfl rfl (cOf_9 ad S10 _) (Nat.le_of_ble_eq_true rfl) dX2_doTick_71 (fun H locs hP hS => ?_)
        obtain ⟨S11, eS11⟩ : ∃ z : Cs, z = sO S10 9 ((cO S10 9) + 1) := ⟨_, rfl⟩
        rw [← eS11] at hP
        have oS11 : cN S11 = none := by rw [eS11]; exact o_58
        have hok11 : okC N L b S11 := by rw [eS11]; exact okC_sO hok10 (by decide)
        refine lv_goto (tgt := 85) hx hb dX2_doTick_74 (by decide) ?_
        refine lv_aload_n hx hb dX2_doTick_85 rfl (lv_at hl 0 rfl) ?_
        refine lv_dup hx hb dX2_doTick_86 rfl ?_
        refine c_gO hx hb hts hinX2 hown hK hP 6 (by decide) (hts (.fieldLink RX2 35 "FeedbackQueues" "now" "I") (by decide +kernel)) rfl dX2_doTick_87 ?_
        refine lv_iconst (v := 1) hx hb dX2_doTick_90 (by decide) ?_
        refine lv_iadd hx hb dX2_doTick_91 ?_
        refine c_pO (ty := .int) (v := (cO S11 6) + 1) hx hb hts hinX2 hown hK hap hP hS 6 (by decide) (hts (.fieldLink RX2 35 "FeedbackQueues" "now" "I") (by decide +kernel)) rfl (by decide +kernel) rfl rfl (cOf_6 ad S11 _) (Nat.le_of_ble_eq_true rfl) dX2_doTick_92 (fun H locs hP hS => ?_)
        obtain ⟨S12, eS12⟩ : ∃ z : Cs, z = sO S11 6 ((cO S11 6) + 1) := ⟨_, rfl⟩
        rw [← eS12] at hP
        have oS12 : cN S12 = none := by rw [eS12]; exact oS11
        have hok12 : okC N L b S12 := by rw [eS12]; exact okC_sO hok11 (by decide)
        have hF : F_X2_doTick S  = S12 := hT.trans (by subst eS12 eS11 eS10 eS3 eS2 eS1; simp only [G_X2_doTick_30, if_neg o_43, if_pos o_58])
        rw [hF]
        exact c_vret hx hb hr hlocks hP hS dX2_doTick_95 (fun _ h => h)
      · skip
        refine c_gO hx hb hts hinX2 hown hK hP 7 (by decide) (hts (.fieldLink RX2 38 "FeedbackQueues" "onProcessor" "LFeedbackQueues$Task;") (by decide +kernel)) (cOf_7s ad o_58) dX2_doTick_58 ?_
        refine lv_ifnonnull (tgt := 77) hx hb dX2_doTick_61 (by decide) ?_
        refine lv_aload_n hx hb dX2_doTick_77 rfl (lv_at hl 0 rfl) ?_
        refine lv_aload_n hx hb dX2_doTick_78 rfl (lv_at hl 0 rfl) ?_
        refine c_gO hx hb hts hinX2 hown hK hP 7 (by decide) (hts (.fieldLink RX2 38 "FeedbackQueues" "onProcessor" "LFeedbackQueues$Task;") (by decide +kernel)) (cOf_7s ad o_58) dX2_doTick_79 ?_
        refine c_cVv (As := [.ref (ad (16 + 2 * (cI S10)))]) (rest := []) (k := 0) (ci := 2) (q := (RX2, TX2, 12)) ⟨hx, hb, hml, hown, hts⟩ (k_X2_useTick l D cy ad S10 (cI S10) (okC_on hok10 o_58) hok10) (cwV 1 hts gX2_doTick_X2_useTick rfl rfl rfl (by decide +kernel) ⟨Nat.le_of_ble_eq_true rfl, Nat.le_of_ble_eq_true rfl⟩) hK hap hA hN hP hS (by omega) (cE_O cy ad S10) rfl rfl hl.1 rfl (Nat.le_of_ble_eq_true rfl) dX2_doTick_82 ⟨Nat.zero_le _, Nat.zero_le _⟩ (fun H locs hP hS => ?_)
        obtain ⟨S13, eS13⟩ : ∃ z : Cs, z = F_X2_useTick S10 (cI S10) := ⟨_, rfl⟩
        rw [← eS13] at hP
        have hok13 : okC N L b S13 := by rw [eS13]; exact ok_X2_useTick hok10 (okC_on hok10 o_58)
        refine lv_aload_n hx hb dX2_doTick_85 rfl (lv_at hl 0 rfl) ?_
        refine lv_dup hx hb dX2_doTick_86 rfl ?_
        refine c_gO hx hb hts hinX2 hown hK hP 6 (by decide) (hts (.fieldLink RX2 35 "FeedbackQueues" "now" "I") (by decide +kernel)) rfl dX2_doTick_87 ?_
        refine lv_iconst (v := 1) hx hb dX2_doTick_90 (by decide) ?_
        refine lv_iadd hx hb dX2_doTick_91 ?_
        refine c_pO (ty := .int) (v := (cO S13 6) + 1) hx hb hts hinX2 hown hK hap hP hS 6 (by decide) (hts (.fieldLink RX2 35 "FeedbackQueues" "now" "I") (by decide +kernel)) rfl (by decide +kernel) rfl rfl (cOf_6 ad S13 _) (Nat.le_of_ble_eq_true rfl) dX2_doTick_92 (fun H locs hP hS => ?_)
        obtain ⟨S14, eS14⟩ : ∃ z : Cs, z = sO S13 6 ((cO S13 6) + 1) := ⟨_, rfl⟩
        rw [← eS14] at hP
        have hok14 : okC N L b S14 := by rw [eS14]; exact okC_sO hok13 (by decide)
        have hF : F_X2_doTick S  = S14 := hT.trans (by subst eS14 eS13 eS10 eS3 eS2 eS1; simp only [G_X2_doTick_30, if_neg o_43, if_neg o_58])
        rw [hF]
        exact c_vret hx hb hr hlocks hP hS dX2_doTick_95 (fun _ h => h)
  refine lv_aload_n hx hb dX2_doTick_0 rfl (lv_at hl 0 rfl) ?_
  refine c_gO hx hb hts hinX2 hown hK hP 5 (by decide) (hts (.fieldLink RX2 32 "FeedbackQueues" "periodTicks" "I") (by decide +kernel)) rfl dX2_doTick_1 ?_
  refine lv_if_eq (tgt := 30) hx hb dX2_doTick_4 (by decide) (fun c_4 => ?_) (fun c_4 => ?_)
  · skip
    exact j_30 S  H locs ls hok  (by simp only [F_X2_doTick, if_pos c_4]) hP hS (lv_sub hl [0] rfl)
  · skip
    refine lv_aload_n hx hb dX2_doTick_7 rfl (lv_at hl 0 rfl) ?_
    refine c_gO hx hb hts hinX2 hown hK hP 6 (by decide) (hts (.fieldLink RX2 35 "FeedbackQueues" "now" "I") (by decide +kernel)) rfl dX2_doTick_8 ?_
    refine lv_if_le (tgt := 30) hx hb dX2_doTick_11 (by decide) (fun c_11 => ?_) (fun c_11 => ?_)
    · skip
      exact j_30 S  H locs ls hok  (by simp only [F_X2_doTick, if_neg c_4, if_pos c_11]) hP hS (lv_sub hl [0] rfl)
    · skip
      refine lv_aload_n hx hb dX2_doTick_14 rfl (lv_at hl 0 rfl) ?_
      refine c_gO hx hb hts hinX2 hown hK hP 6 (by decide) (hts (.fieldLink RX2 35 "FeedbackQueues" "now" "I") (by decide +kernel)) rfl dX2_doTick_15 ?_
      refine lv_aload_n hx hb dX2_doTick_18 rfl (lv_at hl 0 rfl) ?_
      refine c_gO hx hb hts hinX2 hown hK hP 5 (by decide) (hts (.fieldLink RX2 32 "FeedbackQueues" "periodTicks" "I") (by decide +kernel)) rfl dX2_doTick_19 ?_
      refine lv_irem hx hb dX2_doTick_22 c_4 ?_
      refine lv_if_ne (tgt := 30) hx hb dX2_doTick_23 (by decide) (fun c_23 => ?_) (fun c_23 => ?_)
      · skip
        exact j_30 S  H locs ls hok  (by simp only [F_X2_doTick, if_neg c_4, if_neg c_11, if_neg c_23]) hP hS (lv_sub hl [0] rfl)
      · skip
        refine lv_aload_n hx hb dX2_doTick_26 rfl (lv_at hl 0 rfl) ?_
        refine c_cVv (As := []) (rest := []) (k := 0) (ci := 2) (q := (RX2, TX2, 12)) ⟨hx, hb, hml, hown, hts⟩ (k_X2_bringAllUp l D cy ad S   hok) (cwV 0 hts gX2_doTick_X2_bringAllUp rfl rfl rfl (by decide +kernel) ⟨Nat.le_of_ble_eq_true rfl, Nat.le_of_ble_eq_true rfl⟩) hK hap hA hN hP hS (by omega) (cE_O cy ad S) rfl rfl hl.1 rfl (Nat.le_of_ble_eq_true rfl) dX2_doTick_27 ⟨Nat.zero_le _, Nat.zero_le _⟩ (fun H locs hP hS => ?_)
        obtain ⟨S15, eS15⟩ : ∃ z : Cs, z = F_X2_bringAllUp S := ⟨_, rfl⟩
        rw [← eS15] at hP
        have hok15 : okC N L b S15 := by rw [eS15]; exact ok_X2_bringAllUp hok 
        exact j_30 S15  H locs ls hok15  (by subst eS15; simp only [F_X2_doTick, if_neg c_4, if_neg c_11, if_pos c_23]) hP hS (lv_sub hl [0] rfl)
set_option maxHeartbeats 4000000 in
set_option maxRecDepth 100000 in
theorem k_X2_startOver (l : Launch) (D : va_G) (cy : Nat → ClassId) (ad : Nat → Nat) (S : Cs)    : cMv l yX2_startOver wsX2_startOver { frames := 1, cells := 0, slots := 0, locals := 20 } D cy ad [.ref (ad 0)] S (F_X2_startOver S ) := by
  intro sz
  refine Met.ofW (cc := cX2_startOver) (maxL := 2) (ret := none) (by decide) rfl ?_
  intro p e s m args below meth c s₁ B hml hv
  obtain ⟨rfl, hsz, hP, hK, hap0, hN⟩ := hv
  have hx := B.exec
  have hb := B.bytes
  have hr := B.returns
  have hts := atoms_spec (ws := wsX2_startOver) B.pre
  have hown : s.vm.findClass RX2 = some m.cls := findClass_of_methodNamed B.named
  have hlocks := B.notSynchronized
  subst hsz
  have hap := gw_self (sz := s.heap.size) hap0
  generalize hAe : gA 48 ad s.heap.size = A at hap ⊢
  have hA : ∀ q : Nat, s.heap.size ≤ q → A q := fun q h => by rw [← hAe]; exact Or.inr h
  have hS : va_S A s.heap s.heap [] := va_S.rf
  have hinX2 : ∀ w ∈ wsX20, w ∈ wsX2_startOver := by decide +kernel
  have hl := lv_entry ([.ref (ad 0)]) (n := 2) (Nat.le_of_ble_eq_true rfl)
  rw [lg_entry_eq]
  generalize (lg_sl ([.ref (ad 0)]) ++ List.replicate (2 - (lg_sl ([.ref (ad 0)])).length) Slot.unset).toArray = ls at hl ⊢
  have hl : lv_has ls 2 [(0, .ref (ad 0))] := hl
  obtain ⟨H, hH⟩ : ∃ H, H = s.heap := ⟨_, rfl⟩
  rw [← hH] at hP
  have hS : va_S A s.heap H [] := by rw [hH]; exact hS
  rw [← hH]
  generalize ([] : List Loc) = locs at hS ⊢
  refine lv_aload_n hx hb dX2_startOver_0 rfl (lv_at hl 0 rfl) ?_
  refine lv_iconst (v := 0) hx hb dX2_startOver_1 (by decide) ?_
  refine c_pO (ty := .int) (v := 0) hx hb hts hinX2 hown hK hap hP hS 6 (by decide) (hts (.fieldLink RX2 35 "FeedbackQueues" "now" "I") (by decide +kernel)) rfl (by decide +kernel) rfl rfl (cOf_6 ad S _) (Nat.le_of_ble_eq_true rfl) dX2_startOver_2 (fun H locs hP hS => ?_)
  obtain ⟨S1, eS1⟩ : ∃ z : Cs, z = sO S 6 0 := ⟨_, rfl⟩
  rw [← eS1] at hP
  refine lv_aload_n hx hb dX2_startOver_5 rfl (lv_at hl 0 rfl) ?_
  refine lv_null hx hb dX2_startOver_6 ?_
  refine c_pNn hx hb hts hinX2 hown hK hap hP hS (hts (.fieldLink RX2 38 "FeedbackQueues" "onProcessor" "LFeedbackQueues$Task;") (by decide +kernel)) dX2_startOver_7 (fun H locs hP hS => ?_)
  obtain ⟨S2, eS2⟩ : ∃ z : Cs, z = sN S1 none := ⟨_, rfl⟩
  rw [← eS2] at hP
  refine lv_aload_n hx hb dX2_startOver_10 rfl (lv_at hl 0 rfl) ?_
  refine lv_iconst (v := 0) hx hb dX2_startOver_11 (by decide) ?_
  refine c_pO (ty := .int) (v := 0) hx hb hts hinX2 hown hK hap hP hS 8 (by decide) (hts (.fieldLink RX2 42 "FeedbackQueues" "switchCount" "I") (by decide +kernel)) rfl (by decide +kernel) rfl rfl (cOf_8 ad S2 _) (Nat.le_of_ble_eq_true rfl) dX2_startOver_12 (fun H locs hP hS => ?_)
  obtain ⟨S3, eS3⟩ : ∃ z : Cs, z = sO S2 8 0 := ⟨_, rfl⟩
  rw [← eS3] at hP
  refine lv_aload_n hx hb dX2_startOver_15 rfl (lv_at hl 0 rfl) ?_
  refine lv_iconst (v := 0) hx hb dX2_startOver_16 (by decide) ?_
  refine c_pO (ty := .int) (v := 0) hx hb hts hinX2 hown hK hap hP hS 9 (by decide) (hts (.fieldLink RX2 45 "FeedbackQueues" "idleCount" "I") (by decide +kernel)) rfl (by decide +kernel) rfl rfl (cOf_9 ad S3 _) (Nat.le_of_ble_eq_true rfl) dX2_startOver_17 (fun H locs hP hS => ?_)
  obtain ⟨S4, eS4⟩ : ∃ z : Cs, z = sO S3 9 0 := ⟨_, rfl⟩
  rw [← eS4] at hP
  refine lv_aload_n hx hb dX2_startOver_20 rfl (lv_at hl 0 rfl) ?_
  refine lv_iconst (v := 0) hx hb dX2_startOver_21 (by decide) ?_
  refine c_pO (ty := .int) (v := 0) hx hb hts hinX2 hown hK hap hP hS 10 (by decide) (hts (.fieldLink RX2 48 "FeedbackQueues" "comeUpCount" "I") (by decide +kernel)) rfl (by decide +kernel) rfl rfl (cOf_10 ad S4 _) (Nat.le_of_ble_eq_true rfl) dX2_startOver_22 (fun H locs hP hS => ?_)
  obtain ⟨S5, eS5⟩ : ∃ z : Cs, z = sO S4 10 0 := ⟨_, rfl⟩
  rw [← eS5] at hP
  refine lv_aload_n hx hb dX2_startOver_25 rfl (lv_at hl 0 rfl) ?_
  refine lv_iconst (v := 0) hx hb dX2_startOver_26 (by decide) ?_
  refine c_pO (ty := .int) (v := 0) hx hb hts hinX2 hown hK hap hP hS 11 (by decide) (hts (.fieldLink RX2 51 "FeedbackQueues" "endedCount" "I") (by decide +kernel)) rfl (by decide +kernel) rfl rfl (cOf_11 ad S5 _) (Nat.le_of_ble_eq_true rfl) dX2_startOver_27 (fun H locs hP hS => ?_)
  obtain ⟨S6, eS6⟩ : ∃ z : Cs, z = sO S5 11 0 := ⟨_, rfl⟩
  rw [← eS6] at hP
  refine lv_iconst (v := 0) hx hb dX2_startOver_30 (by decide) ?_
  refine lv_istore_n (lv' := [(1, .int 0), (0, .ref (ad 0))]) hx hb dX2_startOver_31 rfl hl (by decide) rfl (fun ls hl => ?_)
  have lp_32 : ∀ (Q : State → Prop) (n t : Nat) (Z : Cs) (H : Heap) (locs : List Loc) (ls : Array Slot), t + n = 6 → True → va_P D vwCl (cwl cy ad Z) H → va_S A s.heap H locs → lv_has ls 2 [(1, .int (nI t)), (0, .ref (ad 0))] → (∀ (H : Heap) (locs : List Loc) (ls : Array Slot), va_P D vwCl (cwl cy ad (itr B_X2_startOver_32 n t Z)) H → va_S A s.heap H locs → lv_has ls 2 [(1, .int (nI 6)), (0, .ref (ad 0))] → W p l e (headSpec wsX2_startOver { frames := 1, cells := 0, slots := 0, locals := 20 }).room s m ([.ref (ad 0)] : List Value).toArray below meth c H locs 0 0 Q (F0 m 53 ls [])) → W p l e (headSpec wsX2_startOver { frames := 1, cells := 0, slots := 0, locals := 20 }).room s m ([.ref (ad 0)] : List Value).toArray below meth c H locs 0 0 Q (F0 m 32 ls []) := by
    intro Q n
    induction n with
    | zero =>
      intro t Z H locs ls hk hI hP hS hl K
      refine lv_iload_n hx hb dX2_startOver_32 rfl (lv_at hl 0 rfl) ?_
      refine lv_bipush (v := 6) hx hb dX2_startOver_33 (by decide) ?_
      refine lv_icmp_ge (tgt := 53) hx hb dX2_startOver_35 (by decide) (fun c_35 => ?_) (fun c_35 => ?_)
      rotate_left
      · exact absurd (by rw [show (6 : Int32) = nI 6 from by decide]; exact nI_le (by omega) (by omega)) c_35
      have hiN : t = 6 := by omega
      rw [hiN] at hl
      exact K H locs ls hP hS (lv_sub hl [0, 1] rfl)
    | succ n ih =>
      intro t Z H locs ls hk hI hP hS hl K
      have ht : t < 6 := by omega
      refine lv_iload_n hx hb dX2_startOver_32 rfl (lv_at hl 0 rfl) ?_
      refine lv_bipush (v := 6) hx hb dX2_startOver_33 (by decide) ?_
      refine lv_icmp_ge (tgt := 53) hx hb dX2_startOver_35 (by decide) (fun c_35 => ?_) (fun c_35 => ?_)
      · exact absurd c_35 (by rw [show (6 : Int32) = nI 6 from by decide]; exact nI_ge (by omega) (by omega))
      refine lv_aload_n hx hb dX2_startOver_38 rfl (lv_at hl 1 rfl) ?_
      refine c_gO hx hb hts hinX2 hown hK hP 0 (by decide) (hts (.fieldLink RX2 11 "FeedbackQueues" "levelRows" "[LFeedbackQueues$Level;") (by decide +kernel)) rfl dX2_startOver_39 ?_
      refine lv_iload_n hx hb dX2_startOver_42 rfl (lv_at hl 0 rfl) ?_
      refine c_aL (k := t) hx hb hK hP (ix_nI (by omega) (by omega)) dX2_startOver_43 ?_
      refine c_cNv (As := []) (rest := []) (k := (4 + 2 * t)) (ci := 0) (q := (RX0, TX0, 4)) ⟨hx, hb, hml, hown, hts⟩ (k_X0_clear l D cy ad Z t ((ix_nI (by omega) (by omega)).2.2)) ⟨va_cnB (host := "FeedbackQueues") 0 hts gX2_startOver_X0_clear_n160 rfl rfl rfl (hN.mth (a := RX2) (i := 160) (x := yX0_clear) (h' := "FeedbackQueues") (by decide +kernel)) (hts (.initialized RX0) (by decide +kernel)) (by decide +kernel) ⟨Nat.le_of_ble_eq_true rfl, Nat.le_of_ble_eq_true rfl⟩, hts (.instanceMethod yX0_clear) (by decide +kernel), hts (.selects RX0 yX0_clear yX0_clear) (by decide +kernel)⟩ hK hap hA hN hP hS (by have h9 := ((ix_nI (by omega) (by omega)).2.2); omega) (cE_L cy ad Z ((ix_nI (by omega) (by omega)).2.2)) rfl rfl hl.1 rfl (Nat.le_of_ble_eq_true rfl) dX2_startOver_44 ⟨Nat.zero_le _, Nat.zero_le _⟩ (fun H locs hP hS => ?_)
      obtain ⟨S7, eS7⟩ : ∃ z : Cs, z = F_X0_clear Z t := ⟨_, rfl⟩
      rw [← eS7] at hP
      refine lv_iinc (v := nI (t + 1)) (lv' := [(1, .int (nI (t + 1))), (0, .ref (ad 0))]) hx hb dX2_startOver_47 hl (k := 0) rfl (inc_nI t) (by decide) rfl (fun ls hl => ?_)
      refine lv_goto (tgt := 32) hx hb dX2_startOver_50 (by decide) ?_
      have hF : B_X2_startOver_32 t Z = S7 := by subst eS7; simp only [B_X2_startOver_32]
      rw [← hF] at hP
      exact ih (t + 1) (B_X2_startOver_32 t Z) H locs ls (by omega) (trivial) hP hS (lv_sub hl [0, 1] rfl) K
  refine lp_32 _ (6) 0 S6 H locs ls (rfl) (trivial) hP hS (by rw [show nI 0 = 0 from by decide]; exact lv_sub hl [0, 1] rfl) (fun H locs ls hP hS hl => ?_)
  obtain ⟨S8, eS8⟩ : ∃ z : Cs, z = itr B_X2_startOver_32 6 0 S6 := ⟨_, rfl⟩
  rw [← eS8] at hP
  refine lv_iconst (v := 0) hx hb dX2_startOver_53 (by decide) ?_
  refine lv_istore_n (lv' := [(1, .int 0), (0, .ref (ad 0))]) hx hb dX2_startOver_54 rfl hl (by decide) rfl (fun ls hl => ?_)
  have lp_55 : ∀ (Q : State → Prop) (n t : Nat) (Z : Cs) (H : Heap) (locs : List Loc) (ls : Array Slot), t + n = 16 → True → va_P D vwCl (cwl cy ad Z) H → va_S A s.heap H locs → lv_has ls 2 [(1, .int (nI t)), (0, .ref (ad 0))] → (∀ (H : Heap) (locs : List Loc) (ls : Array Slot), va_P D vwCl (cwl cy ad (itr B_X2_startOver_55 n t Z)) H → va_S A s.heap H locs → lv_has ls 2 [(1, .int (nI 16)), (0, .ref (ad 0))] → W p l e (headSpec wsX2_startOver { frames := 1, cells := 0, slots := 0, locals := 20 }).room s m ([.ref (ad 0)] : List Value).toArray below meth c H locs 0 0 Q (F0 m 76 ls [])) → W p l e (headSpec wsX2_startOver { frames := 1, cells := 0, slots := 0, locals := 20 }).room s m ([.ref (ad 0)] : List Value).toArray below meth c H locs 0 0 Q (F0 m 55 ls []) := by
    intro Q n
    induction n with
    | zero =>
      intro t Z H locs ls hk hI hP hS hl K
      refine lv_iload_n hx hb dX2_startOver_55 rfl (lv_at hl 0 rfl) ?_
      refine lv_bipush (v := 16) hx hb dX2_startOver_56 (by decide) ?_
      refine lv_icmp_ge (tgt := 76) hx hb dX2_startOver_58 (by decide) (fun c_58 => ?_) (fun c_58 => ?_)
      rotate_left
      · exact absurd (by rw [show (16 : Int32) = nI 16 from by decide]; exact nI_le (by omega) (by omega)) c_58
      have hiN : t = 16 := by omega
      rw [hiN] at hl
      exact K H locs ls hP hS (lv_sub hl [0, 1] rfl)
    | succ n ih =>
      intro t Z H locs ls hk hI hP hS hl K
      have ht : t < 16 := by omega
      refine lv_iload_n hx hb dX2_startOver_55 rfl (lv_at hl 0 rfl) ?_
      refine lv_bipush (v := 16) hx hb dX2_startOver_56 (by decide) ?_
      refine lv_icmp_ge (tgt := 76) hx hb dX2_startOver_58 (by decide) (fun c_58 => ?_) (fun c_58 => ?_)
      · exact absurd c_58 (by rw [show (16 : Int32) = nI 16 from by decide]; exact nI_ge (by omega) (by omega))
      refine lv_aload_n hx hb dX2_startOver_61 rfl (lv_at hl 1 rfl) ?_
      refine c_gO hx hb hts hinX2 hown hK hP 1 (by decide) (hts (.fieldLink RX2 17 "FeedbackQueues" "tasks" "[LFeedbackQueues$Task;") (by decide +kernel)) rfl dX2_startOver_62 ?_
      refine lv_iload_n hx hb dX2_startOver_65 rfl (lv_at hl 0 rfl) ?_
      refine c_aT (k := t) hx hb hK hP (ix_nI (by omega) (by omega)) dX2_startOver_66 ?_
      refine c_cNv (As := []) (rest := []) (k := (16 + 2 * t)) (ci := 1) (q := (RX1, TX1, 19)) ⟨hx, hb, hml, hown, hts⟩ (k_X1_startOver l D cy ad Z t ((ix_nI (by omega) (by omega)).2.2)) ⟨va_cnB (host := "FeedbackQueues") 0 hts gX2_startOver_X1_startOver_n163 rfl rfl rfl (hN.mth (a := RX2) (i := 163) (x := yX1_startOver) (h' := "FeedbackQueues") (by decide +kernel)) (hts (.initialized RX1) (by decide +kernel)) (by decide +kernel) ⟨Nat.le_of_ble_eq_true rfl, Nat.le_of_ble_eq_true rfl⟩, hts (.instanceMethod yX1_startOver) (by decide +kernel), hts (.selects RX1 yX1_startOver yX1_startOver) (by decide +kernel)⟩ hK hap hA hN hP hS (by have h9 := ((ix_nI (by omega) (by omega)).2.2); omega) (cE_T cy ad Z t) rfl rfl hl.1 rfl (Nat.le_of_ble_eq_true rfl) dX2_startOver_67 ⟨Nat.zero_le _, Nat.zero_le _⟩ (fun H locs hP hS => ?_)
      obtain ⟨S9, eS9⟩ : ∃ z : Cs, z = F_X1_startOver Z t := ⟨_, rfl⟩
      rw [← eS9] at hP
      refine lv_iinc (v := nI (t + 1)) (lv' := [(1, .int (nI (t + 1))), (0, .ref (ad 0))]) hx hb dX2_startOver_70 hl (k := 0) rfl (inc_nI t) (by decide) rfl (fun ls hl => ?_)
      refine lv_goto (tgt := 55) hx hb dX2_startOver_73 (by decide) ?_
      have hF : B_X2_startOver_55 t Z = S9 := by subst eS9; simp only [B_X2_startOver_55]
      rw [← hF] at hP
      exact ih (t + 1) (B_X2_startOver_55 t Z) H locs ls (by omega) (trivial) hP hS (lv_sub hl [0, 1] rfl) K
  refine lp_55 _ (16) 0 S8 H locs ls (rfl) (trivial) hP hS (by rw [show nI 0 = 0 from by decide]; exact lv_sub hl [0, 1] rfl) (fun H locs ls hP hS hl => ?_)
  obtain ⟨S10, eS10⟩ : ∃ z : Cs, z = itr B_X2_startOver_55 16 0 S8 := ⟨_, rfl⟩
  rw [← eS10] at hP
  have hF : F_X2_startOver S  = S10 := by subst eS10 eS8 eS6 eS5 eS4 eS3 eS2 eS1; simp only [F_X2_startOver]
  rw [hF]
  exact c_vret hx hb hr hlocks hP hS dX2_startOver_76 (fun _ h => h)
end
section
set_option maxRecDepth 20000 in
theorem ggX3_init_X3_set : GoodIn wsX3_init wsX3_set := goodIn_r _ [28, 29, 5, 6, 30, 31, 32, 33, 27, 34, 35, 36, 22, 21, 10, 11, 12, 17, 19, 37, 38, 39, 40, 41, 42, 43, 44, 45, 46, 47, 48, 49, 50, 51, 52, 53, 54, 55, 56, 57, 58, 59, 60] (by decide +kernel) (by decide +kernel)
set_option maxRecDepth 20000 in
theorem gX3_init_X3_set : GoodIn wsX3_init (wsV RX3 65 RX3 yX3_set wsX3_set) := goodIn_app (goodIn_of _ (by decide +kernel)) ggX3_init_X3_set
theorem dX3_init_0 : decode cX3_init 0 = .ok (.aload_n 0, 1) := by decide +kernel
theorem dX3_init_1 : decode cX3_init 1 = .ok (.invokespecial 1, 3) := by decide +kernel
theorem dX3_init_4 : decode cX3_init 4 = .ok (.aload_n 0, 1) := by decide +kernel
theorem dX3_init_5 : decode cX3_init 5 = .ok (.bipush 6, 2) := by decide +kernel
theorem dX3_init_7 : decode cX3_init 7 = .ok (.newarray .int, 2) := by decide +kernel
theorem dX3_init_9 : decode cX3_init 9 = .ok (.putfield 7, 3) := by decide +kernel
theorem dX3_init_12 : decode cX3_init 12 = .ok (.aload_n 0, 1) := by decide +kernel
theorem dX3_init_13 : decode cX3_init 13 = .ok (.bipush 6, 2) := by decide +kernel
theorem dX3_init_15 : decode cX3_init 15 = .ok (.newarray .int, 2) := by decide +kernel
theorem dX3_init_17 : decode cX3_init 17 = .ok (.putfield 13, 3) := by decide +kernel
theorem dX3_init_20 : decode cX3_init 20 = .ok (.aload_n 0, 1) := by decide +kernel
theorem dX3_init_21 : decode cX3_init 21 = .ok (.bipush 16, 2) := by decide +kernel
theorem dX3_init_23 : decode cX3_init 23 = .ok (.newarray .int, 2) := by decide +kernel
theorem dX3_init_25 : decode cX3_init 25 = .ok (.putfield 16, 3) := by decide +kernel
theorem dX3_init_28 : decode cX3_init 28 = .ok (.aload_n 0, 1) := by decide +kernel
theorem dX3_init_29 : decode cX3_init 29 = .ok (.bipush 16, 2) := by decide +kernel
theorem dX3_init_31 : decode cX3_init 31 = .ok (.newarray .int, 2) := by decide +kernel
theorem dX3_init_33 : decode cX3_init 33 = .ok (.putfield 19, 3) := by decide +kernel
theorem dX3_init_36 : decode cX3_init 36 = .ok (.aload_n 0, 1) := by decide +kernel
theorem dX3_init_37 : decode cX3_init 37 = .ok (.sipush 192, 3) := by decide +kernel
theorem dX3_init_40 : decode cX3_init 40 = .ok (.newarray .int, 2) := by decide +kernel
theorem dX3_init_42 : decode cX3_init 42 = .ok (.putfield 22, 3) := by decide +kernel
theorem dX3_init_45 : decode cX3_init 45 = .ok (.aload_n 0, 1) := by decide +kernel
theorem dX3_init_46 : decode cX3_init 46 = .ok (.bipush 16, 2) := by decide +kernel
theorem dX3_init_48 : decode cX3_init 48 = .ok (.newarray .int, 2) := by decide +kernel
theorem dX3_init_50 : decode cX3_init 50 = .ok (.putfield 25, 3) := by decide +kernel
theorem dX3_init_53 : decode cX3_init 53 = .ok (.aload_n 0, 1) := by decide +kernel
theorem dX3_init_54 : decode cX3_init 54 = .ok (.bipush 16, 2) := by decide +kernel
theorem dX3_init_56 : decode cX3_init 56 = .ok (.newarray .int, 2) := by decide +kernel
theorem dX3_init_58 : decode cX3_init 58 = .ok (.putfield 28, 3) := by decide +kernel
theorem dX3_init_61 : decode cX3_init 61 = .ok (.aload_n 0, 1) := by decide +kernel
theorem dX3_init_62 : decode cX3_init 62 = .ok (.bipush 16, 2) := by decide +kernel
theorem dX3_init_64 : decode cX3_init 64 = .ok (.newarray .int, 2) := by decide +kernel
theorem dX3_init_66 : decode cX3_init 66 = .ok (.putfield 31, 3) := by decide +kernel
theorem dX3_init_69 : decode cX3_init 69 = .ok (.aload_n 0, 1) := by decide +kernel
theorem dX3_init_70 : decode cX3_init 70 = .ok (.bipush 16, 2) := by decide +kernel
theorem dX3_init_72 : decode cX3_init 72 = .ok (.newarray .int, 2) := by decide +kernel
theorem dX3_init_74 : decode cX3_init 74 = .ok (.putfield 34, 3) := by decide +kernel
theorem dX3_init_77 : decode cX3_init 77 = .ok (.aload_n 0, 1) := by decide +kernel
theorem dX3_init_78 : decode cX3_init 78 = .ok (.bipush 16, 2) := by decide +kernel
theorem dX3_init_80 : decode cX3_init 80 = .ok (.newarray .int, 2) := by decide +kernel
theorem dX3_init_82 : decode cX3_init 82 = .ok (.putfield 37, 3) := by decide +kernel
theorem dX3_init_85 : decode cX3_init 85 = .ok (.aload_n 0, 1) := by decide +kernel
theorem dX3_init_86 : decode cX3_init 86 = .ok (.bipush 16, 2) := by decide +kernel
theorem dX3_init_88 : decode cX3_init 88 = .ok (.newarray .int, 2) := by decide +kernel
theorem dX3_init_90 : decode cX3_init 90 = .ok (.putfield 40, 3) := by decide +kernel
theorem dX3_init_93 : decode cX3_init 93 = .ok (.aload_n 0, 1) := by decide +kernel
theorem dX3_init_94 : decode cX3_init 94 = .ok (.bipush 16, 2) := by decide +kernel
theorem dX3_init_96 : decode cX3_init 96 = .ok (.newarray .boolean, 2) := by decide +kernel
theorem dX3_init_98 : decode cX3_init 98 = .ok (.putfield 43, 3) := by decide +kernel
theorem dX3_init_101 : decode cX3_init 101 = .ok (.aload_n 0, 1) := by decide +kernel
theorem dX3_init_102 : decode cX3_init 102 = .ok (.bipush 16, 2) := by decide +kernel
theorem dX3_init_104 : decode cX3_init 104 = .ok (.newarray .int, 2) := by decide +kernel
theorem dX3_init_106 : decode cX3_init 106 = .ok (.putfield 47, 3) := by decide +kernel
theorem dX3_init_109 : decode cX3_init 109 = .ok (.aload_n 0, 1) := by decide +kernel
theorem dX3_init_110 : decode cX3_init 110 = .ok (.sipush 160, 3) := by decide +kernel
theorem dX3_init_113 : decode cX3_init 113 = .ok (.newarray .int, 2) := by decide +kernel
theorem dX3_init_115 : decode cX3_init 115 = .ok (.putfield 50, 3) := by decide +kernel
theorem dX3_init_118 : decode cX3_init 118 = .ok (.aload_n 0, 1) := by decide +kernel
theorem dX3_init_119 : decode cX3_init 119 = .ok (.bipush 96, 2) := by decide +kernel
theorem dX3_init_121 : decode cX3_init 121 = .ok (.newarray .int, 2) := by decide +kernel
theorem dX3_init_123 : decode cX3_init 123 = .ok (.putfield 53, 3) := by decide +kernel
theorem dX3_init_126 : decode cX3_init 126 = .ok (.aload_n 0, 1) := by decide +kernel
theorem dX3_init_127 : decode cX3_init 127 = .ok (.bipush 6, 2) := by decide +kernel
theorem dX3_init_129 : decode cX3_init 129 = .ok (.newarray .int, 2) := by decide +kernel
theorem dX3_init_131 : decode cX3_init 131 = .ok (.putfield 56, 3) := by decide +kernel
theorem dX3_init_134 : decode cX3_init 134 = .ok (.aload_n 0, 1) := by decide +kernel
theorem dX3_init_135 : decode cX3_init 135 = .ok (.iconst 4, 1) := by decide +kernel
theorem dX3_init_136 : decode cX3_init 136 = .ok (.newarray .int, 2) := by decide +kernel
theorem dX3_init_138 : decode cX3_init 138 = .ok (.putfield 59, 3) := by decide +kernel
theorem dX3_init_141 : decode cX3_init 141 = .ok (.aload_n 0, 1) := by decide +kernel
theorem dX3_init_142 : decode cX3_init 142 = .ok (.sipush 400, 3) := by decide +kernel
theorem dX3_init_145 : decode cX3_init 145 = .ok (.newarray .int, 2) := by decide +kernel
theorem dX3_init_147 : decode cX3_init 147 = .ok (.putfield 62, 3) := by decide +kernel
theorem dX3_init_150 : decode cX3_init 150 = .ok (.aload_n 0, 1) := by decide +kernel
theorem dX3_init_151 : decode cX3_init 151 = .ok (.iconst 1, 1) := by decide +kernel
theorem dX3_init_152 : decode cX3_init 152 = .ok (.invokevirtual 65, 3) := by decide +kernel
theorem dX3_init_155 : decode cX3_init 155 = .ok (.return_, 1) := by decide +kernel
theorem dX3_thrown_0 : decode cX3_thrown 0 = .ok (.aload_n 0, 1) := by decide +kernel
theorem dX3_thrown_1 : decode cX3_thrown 1 = .ok (.getfield 69, 3) := by decide +kernel
theorem dX3_thrown_4 : decode cX3_thrown 4 = .ok (.ireturn, 1) := by decide +kernel
set_option maxRecDepth 20000 in
theorem ggX3_set_X3_begin : GoodIn wsX3_set wsX3_begin := goodIn_r _ [9, 10, 11, 12, 13, 14, 15, 16, 17, 18, 19, 20, 21, 22, 23, 24, 25, 26, 27, 28, 29, 30, 31, 32, 33, 34, 35, 36, 37, 38, 39, 40, 41, 42] (by decide +kernel) (by decide +kernel)
set_option maxRecDepth 20000 in
theorem gX3_set_X3_begin : GoodIn wsX3_set (wsV RX3 79 RX3 yX3_begin wsX3_begin) := goodIn_app (goodIn_of _ (by decide +kernel)) ggX3_set_X3_begin
theorem dX3_set_0 : decode cX3_set 0 = .ok (.aload_n 0, 1) := by decide +kernel
theorem dX3_set_1 : decode cX3_set 1 = .ok (.iload_n 1, 1) := by decide +kernel
theorem dX3_set_2 : decode cX3_set 2 = .ok (.putfield 73, 3) := by decide +kernel
theorem dX3_set_5 : decode cX3_set 5 = .ok (.iconst 0, 1) := by decide +kernel
theorem dX3_set_6 : decode cX3_set 6 = .ok (.istore_n 2, 1) := by decide +kernel
theorem dX3_set_7 : decode cX3_set 7 = .ok (.iload_n 2, 1) := by decide +kernel
theorem dX3_set_8 : decode cX3_set 8 = .ok (.bipush 6, 2) := by decide +kernel
theorem dX3_set_10 : decode cX3_set 10 = .ok (.if_icmp .ge 23, 3) := by decide +kernel
theorem dX3_set_13 : decode cX3_set 13 = .ok (.aload_n 0, 1) := by decide +kernel
theorem dX3_set_14 : decode cX3_set 14 = .ok (.getfield 7, 3) := by decide +kernel
theorem dX3_set_17 : decode cX3_set 17 = .ok (.iload_n 2, 1) := by decide +kernel
theorem dX3_set_18 : decode cX3_set 18 = .ok (.iconst 1, 1) := by decide +kernel
theorem dX3_set_19 : decode cX3_set 19 = .ok (.iastore, 1) := by decide +kernel
theorem dX3_set_20 : decode cX3_set 20 = .ok (.aload_n 0, 1) := by decide +kernel
theorem dX3_set_21 : decode cX3_set 21 = .ok (.getfield 13, 3) := by decide +kernel
theorem dX3_set_24 : decode cX3_set 24 = .ok (.iload_n 2, 1) := by decide +kernel
theorem dX3_set_25 : decode cX3_set 25 = .ok (.iconst 1, 1) := by decide +kernel
theorem dX3_set_26 : decode cX3_set 26 = .ok (.iastore, 1) := by decide +kernel
theorem dX3_set_27 : decode cX3_set 27 = .ok (.iinc 2 1, 3) := by decide +kernel
theorem dX3_set_30 : decode cX3_set 30 = .ok (.goto (-23), 3) := by decide +kernel
theorem dX3_set_33 : decode cX3_set 33 = .ok (.aload_n 0, 1) := by decide +kernel
theorem dX3_set_34 : decode cX3_set 34 = .ok (.iconst 0, 1) := by decide +kernel
theorem dX3_set_35 : decode cX3_set 35 = .ok (.putfield 76, 3) := by decide +kernel
theorem dX3_set_38 : decode cX3_set 38 = .ok (.aload_n 0, 1) := by decide +kernel
theorem dX3_set_39 : decode cX3_set 39 = .ok (.invokevirtual 79, 3) := by decide +kernel
theorem dX3_set_42 : decode cX3_set 42 = .ok (.return_, 1) := by decide +kernel
theorem dX3_begin_0 : decode cX3_begin 0 = .ok (.aload_n 0, 1) := by decide +kernel
theorem dX3_begin_1 : decode cX3_begin 1 = .ok (.iconst 0, 1) := by decide +kernel
theorem dX3_begin_2 : decode cX3_begin 2 = .ok (.putfield 82, 3) := by decide +kernel
theorem dX3_begin_5 : decode cX3_begin 5 = .ok (.aload_n 0, 1) := by decide +kernel
theorem dX3_begin_6 : decode cX3_begin 6 = .ok (.iconst (-1), 1) := by decide +kernel
theorem dX3_begin_7 : decode cX3_begin 7 = .ok (.putfield 85, 3) := by decide +kernel
theorem dX3_begin_10 : decode cX3_begin 10 = .ok (.iconst 0, 1) := by decide +kernel
theorem dX3_begin_11 : decode cX3_begin 11 = .ok (.istore_n 1, 1) := by decide +kernel
theorem dX3_begin_12 : decode cX3_begin 12 = .ok (.iload_n 1, 1) := by decide +kernel
theorem dX3_begin_13 : decode cX3_begin 13 = .ok (.iconst 4, 1) := by decide +kernel
theorem dX3_begin_14 : decode cX3_begin 14 = .ok (.if_icmp .ge 16, 3) := by decide +kernel
theorem dX3_begin_17 : decode cX3_begin 17 = .ok (.aload_n 0, 1) := by decide +kernel
theorem dX3_begin_18 : decode cX3_begin 18 = .ok (.getfield 59, 3) := by decide +kernel
theorem dX3_begin_21 : decode cX3_begin 21 = .ok (.iload_n 1, 1) := by decide +kernel
theorem dX3_begin_22 : decode cX3_begin 22 = .ok (.iconst 0, 1) := by decide +kernel
theorem dX3_begin_23 : decode cX3_begin 23 = .ok (.iastore, 1) := by decide +kernel
theorem dX3_begin_24 : decode cX3_begin 24 = .ok (.iinc 1 1, 3) := by decide +kernel
theorem dX3_begin_27 : decode cX3_begin 27 = .ok (.goto (-15), 3) := by decide +kernel
theorem dX3_begin_30 : decode cX3_begin 30 = .ok (.iconst 0, 1) := by decide +kernel
theorem dX3_begin_31 : decode cX3_begin 31 = .ok (.istore_n 1, 1) := by decide +kernel
theorem dX3_begin_32 : decode cX3_begin 32 = .ok (.iload_n 1, 1) := by decide +kernel
theorem dX3_begin_33 : decode cX3_begin 33 = .ok (.bipush 6, 2) := by decide +kernel
theorem dX3_begin_35 : decode cX3_begin 35 = .ok (.if_icmp .ge 16, 3) := by decide +kernel
theorem dX3_begin_38 : decode cX3_begin 38 = .ok (.aload_n 0, 1) := by decide +kernel
theorem dX3_begin_39 : decode cX3_begin 39 = .ok (.getfield 56, 3) := by decide +kernel
theorem dX3_begin_42 : decode cX3_begin 42 = .ok (.iload_n 1, 1) := by decide +kernel
theorem dX3_begin_43 : decode cX3_begin 43 = .ok (.iconst 0, 1) := by decide +kernel
theorem dX3_begin_44 : decode cX3_begin 44 = .ok (.iastore, 1) := by decide +kernel
theorem dX3_begin_45 : decode cX3_begin 45 = .ok (.iinc 1 1, 3) := by decide +kernel
theorem dX3_begin_48 : decode cX3_begin 48 = .ok (.goto (-16), 3) := by decide +kernel
theorem dX3_begin_51 : decode cX3_begin 51 = .ok (.iconst 0, 1) := by decide +kernel
theorem dX3_begin_52 : decode cX3_begin 52 = .ok (.istore_n 1, 1) := by decide +kernel
theorem dX3_begin_53 : decode cX3_begin 53 = .ok (.iload_n 1, 1) := by decide +kernel
theorem dX3_begin_54 : decode cX3_begin 54 = .ok (.bipush 16, 2) := by decide +kernel
theorem dX3_begin_56 : decode cX3_begin 56 = .ok (.if_icmp .ge 78, 3) := by decide +kernel
theorem dX3_begin_59 : decode cX3_begin 59 = .ok (.aload_n 0, 1) := by decide +kernel
theorem dX3_begin_60 : decode cX3_begin 60 = .ok (.getfield 25, 3) := by decide +kernel
theorem dX3_begin_63 : decode cX3_begin 63 = .ok (.iload_n 1, 1) := by decide +kernel
theorem dX3_begin_64 : decode cX3_begin 64 = .ok (.iconst 0, 1) := by decide +kernel
theorem dX3_begin_65 : decode cX3_begin 65 = .ok (.iastore, 1) := by decide +kernel
theorem dX3_begin_66 : decode cX3_begin 66 = .ok (.aload_n 0, 1) := by decide +kernel
theorem dX3_begin_67 : decode cX3_begin 67 = .ok (.getfield 28, 3) := by decide +kernel
theorem dX3_begin_70 : decode cX3_begin 70 = .ok (.iload_n 1, 1) := by decide +kernel
theorem dX3_begin_71 : decode cX3_begin 71 = .ok (.iconst 0, 1) := by decide +kernel
theorem dX3_begin_72 : decode cX3_begin 72 = .ok (.iastore, 1) := by decide +kernel
theorem dX3_begin_73 : decode cX3_begin 73 = .ok (.aload_n 0, 1) := by decide +kernel
theorem dX3_begin_74 : decode cX3_begin 74 = .ok (.getfield 31, 3) := by decide +kernel
theorem dX3_begin_77 : decode cX3_begin 77 = .ok (.iload_n 1, 1) := by decide +kernel
theorem dX3_begin_78 : decode cX3_begin 78 = .ok (.iconst 0, 1) := by decide +kernel
theorem dX3_begin_79 : decode cX3_begin 79 = .ok (.iastore, 1) := by decide +kernel
theorem dX3_begin_80 : decode cX3_begin 80 = .ok (.aload_n 0, 1) := by decide +kernel
theorem dX3_begin_81 : decode cX3_begin 81 = .ok (.getfield 43, 3) := by decide +kernel
theorem dX3_begin_84 : decode cX3_begin 84 = .ok (.iload_n 1, 1) := by decide +kernel
theorem dX3_begin_85 : decode cX3_begin 85 = .ok (.iconst 0, 1) := by decide +kernel
theorem dX3_begin_86 : decode cX3_begin 86 = .ok (.bastore, 1) := by decide +kernel
theorem dX3_begin_87 : decode cX3_begin 87 = .ok (.iconst 0, 1) := by decide +kernel
theorem dX3_begin_88 : decode cX3_begin 88 = .ok (.istore_n 2, 1) := by decide +kernel
theorem dX3_begin_89 : decode cX3_begin 89 = .ok (.iload_n 2, 1) := by decide +kernel
theorem dX3_begin_90 : decode cX3_begin 90 = .ok (.bipush 10, 2) := by decide +kernel
theorem dX3_begin_92 : decode cX3_begin 92 = .ok (.if_icmp .ge 36, 3) := by decide +kernel
theorem dX3_begin_95 : decode cX3_begin 95 = .ok (.aload_n 0, 1) := by decide +kernel
theorem dX3_begin_96 : decode cX3_begin 96 = .ok (.getfield 50, 3) := by decide +kernel
theorem dX3_begin_99 : decode cX3_begin 99 = .ok (.bipush 10, 2) := by decide +kernel
theorem dX3_begin_101 : decode cX3_begin 101 = .ok (.iload_n 1, 1) := by decide +kernel
theorem dX3_begin_102 : decode cX3_begin 102 = .ok (.imul, 1) := by decide +kernel
theorem dX3_begin_103 : decode cX3_begin 103 = .ok (.iload_n 2, 1) := by decide +kernel
theorem dX3_begin_104 : decode cX3_begin 104 = .ok (.iadd, 1) := by decide +kernel
theorem dX3_begin_105 : decode cX3_begin 105 = .ok (.iload_n 2, 1) := by decide +kernel
theorem dX3_begin_106 : decode cX3_begin 106 = .ok (.iconst 5, 1) := by decide +kernel
theorem dX3_begin_107 : decode cX3_begin 107 = .ok (.if_icmp .eq 9, 3) := by decide +kernel
theorem dX3_begin_110 : decode cX3_begin 110 = .ok (.iload_n 2, 1) := by decide +kernel
theorem dX3_begin_111 : decode cX3_begin 111 = .ok (.bipush 6, 2) := by decide +kernel
theorem dX3_begin_113 : decode cX3_begin 113 = .ok (.if_icmp .ne 7, 3) := by decide +kernel
theorem dX3_begin_116 : decode cX3_begin 116 = .ok (.iconst (-1), 1) := by decide +kernel
theorem dX3_begin_117 : decode cX3_begin 117 = .ok (.goto 4, 3) := by decide +kernel
theorem dX3_begin_120 : decode cX3_begin 120 = .ok (.iconst 0, 1) := by decide +kernel
theorem dX3_begin_121 : decode cX3_begin 121 = .ok (.iastore, 1) := by decide +kernel
theorem dX3_begin_122 : decode cX3_begin 122 = .ok (.iinc 2 1, 3) := by decide +kernel
theorem dX3_begin_125 : decode cX3_begin 125 = .ok (.goto (-36), 3) := by decide +kernel
theorem dX3_begin_128 : decode cX3_begin 128 = .ok (.iinc 1 1, 3) := by decide +kernel
theorem dX3_begin_131 : decode cX3_begin 131 = .ok (.goto (-78), 3) := by decide +kernel
theorem dX3_begin_134 : decode cX3_begin 134 = .ok (.return_, 1) := by decide +kernel
set_option maxRecDepth 20000 in
theorem ggX3_levels_X3_set : GoodIn wsX3_levels wsX3_set := goodIn_r _ [6, 7, 8, 9, 10, 11, 12, 13, 5, 14, 15, 16, 17, 18, 19, 20, 21, 22, 23, 24, 25, 26, 27, 28, 29, 30, 31, 32, 33, 34, 35, 36, 37, 38, 39, 40, 41, 42, 43, 44, 45, 46, 47] (by decide +kernel) (by decide +kernel)
set_option maxRecDepth 20000 in
theorem gX3_levels_X3_set : GoodIn wsX3_levels (wsV RX3 65 RX3 yX3_set wsX3_set) := goodIn_app (goodIn_of _ (by decide +kernel)) ggX3_levels_X3_set
theorem dX3_levels_0 : decode cX3_levels 0 = .ok (.aload_n 0, 1) := by decide +kernel
theorem dX3_levels_1 : decode cX3_levels 1 = .ok (.iload_n 1, 1) := by decide +kernel
theorem dX3_levels_2 : decode cX3_levels 2 = .ok (.iconst 1, 1) := by decide +kernel
theorem dX3_levels_3 : decode cX3_levels 3 = .ok (.if_icmp .lt 9, 3) := by decide +kernel
theorem dX3_levels_6 : decode cX3_levels 6 = .ok (.iload_n 1, 1) := by decide +kernel
theorem dX3_levels_7 : decode cX3_levels 7 = .ok (.bipush 6, 2) := by decide +kernel
theorem dX3_levels_9 : decode cX3_levels 9 = .ok (.if_icmp .le 7, 3) := by decide +kernel
theorem dX3_levels_12 : decode cX3_levels 12 = .ok (.iconst 1, 1) := by decide +kernel
theorem dX3_levels_13 : decode cX3_levels 13 = .ok (.goto 4, 3) := by decide +kernel
theorem dX3_levels_16 : decode cX3_levels 16 = .ok (.iconst 0, 1) := by decide +kernel
theorem dX3_levels_17 : decode cX3_levels 17 = .ok (.putfield 69, 3) := by decide +kernel
theorem dX3_levels_20 : decode cX3_levels 20 = .ok (.aload_n 0, 1) := by decide +kernel
theorem dX3_levels_21 : decode cX3_levels 21 = .ok (.getfield 69, 3) := by decide +kernel
theorem dX3_levels_24 : decode cX3_levels 24 = .ok (.ifCond .ne 8, 3) := by decide +kernel
theorem dX3_levels_27 : decode cX3_levels 27 = .ok (.aload_n 0, 1) := by decide +kernel
theorem dX3_levels_28 : decode cX3_levels 28 = .ok (.iload_n 1, 1) := by decide +kernel
theorem dX3_levels_29 : decode cX3_levels 29 = .ok (.invokevirtual 65, 3) := by decide +kernel
theorem dX3_levels_32 : decode cX3_levels 32 = .ok (.return_, 1) := by decide +kernel
theorem dX3_level_0 : decode cX3_level 0 = .ok (.aload_n 0, 1) := by decide +kernel
theorem dX3_level_1 : decode cX3_level 1 = .ok (.iload_n 1, 1) := by decide +kernel
theorem dX3_level_2 : decode cX3_level 2 = .ok (.ifCond .lt 11, 3) := by decide +kernel
theorem dX3_level_5 : decode cX3_level 5 = .ok (.iload_n 1, 1) := by decide +kernel
theorem dX3_level_6 : decode cX3_level 6 = .ok (.aload_n 0, 1) := by decide +kernel
theorem dX3_level_7 : decode cX3_level 7 = .ok (.getfield 73, 3) := by decide +kernel
theorem dX3_level_10 : decode cX3_level 10 = .ok (.if_icmp .lt 7, 3) := by decide +kernel
theorem dX3_level_13 : decode cX3_level 13 = .ok (.iconst 1, 1) := by decide +kernel
theorem dX3_level_14 : decode cX3_level 14 = .ok (.goto 42, 3) := by decide +kernel
theorem dX3_level_17 : decode cX3_level 17 = .ok (.iload_n 2, 1) := by decide +kernel
theorem dX3_level_18 : decode cX3_level 18 = .ok (.iconst 1, 1) := by decide +kernel
theorem dX3_level_19 : decode cX3_level 19 = .ok (.if_icmp .lt 21, 3) := by decide +kernel
theorem dX3_level_22 : decode cX3_level 22 = .ok (.iload_n 2, 1) := by decide +kernel
theorem dX3_level_23 : decode cX3_level 23 = .ok (.bipush 100, 2) := by decide +kernel
theorem dX3_level_25 : decode cX3_level 25 = .ok (.if_icmp .gt 15, 3) := by decide +kernel
theorem dX3_level_28 : decode cX3_level 28 = .ok (.iload_n 3, 1) := by decide +kernel
theorem dX3_level_29 : decode cX3_level 29 = .ok (.iconst 1, 1) := by decide +kernel
theorem dX3_level_30 : decode cX3_level 30 = .ok (.if_icmp .lt 10, 3) := by decide +kernel
theorem dX3_level_33 : decode cX3_level 33 = .ok (.iload_n 3, 1) := by decide +kernel
theorem dX3_level_34 : decode cX3_level 34 = .ok (.sipush 1000, 3) := by decide +kernel
theorem dX3_level_37 : decode cX3_level 37 = .ok (.if_icmp .le 7, 3) := by decide +kernel
theorem dX3_level_40 : decode cX3_level 40 = .ok (.iconst 2, 1) := by decide +kernel
theorem dX3_level_41 : decode cX3_level 41 = .ok (.goto 15, 3) := by decide +kernel
theorem dX3_level_44 : decode cX3_level 44 = .ok (.aload_n 0, 1) := by decide +kernel
theorem dX3_level_45 : decode cX3_level 45 = .ok (.getfield 82, 3) := by decide +kernel
theorem dX3_level_48 : decode cX3_level 48 = .ok (.ifCond .le 7, 3) := by decide +kernel
theorem dX3_level_51 : decode cX3_level 51 = .ok (.iconst 3, 1) := by decide +kernel
theorem dX3_level_52 : decode cX3_level 52 = .ok (.goto 4, 3) := by decide +kernel
theorem dX3_level_55 : decode cX3_level 55 = .ok (.iconst 0, 1) := by decide +kernel
theorem dX3_level_56 : decode cX3_level 56 = .ok (.putfield 69, 3) := by decide +kernel
theorem dX3_level_59 : decode cX3_level 59 = .ok (.aload_n 0, 1) := by decide +kernel
theorem dX3_level_60 : decode cX3_level 60 = .ok (.getfield 69, 3) := by decide +kernel
theorem dX3_level_63 : decode cX3_level 63 = .ok (.ifCond .ne 17, 3) := by decide +kernel
theorem dX3_level_66 : decode cX3_level 66 = .ok (.aload_n 0, 1) := by decide +kernel
theorem dX3_level_67 : decode cX3_level 67 = .ok (.getfield 7, 3) := by decide +kernel
theorem dX3_level_70 : decode cX3_level 70 = .ok (.iload_n 1, 1) := by decide +kernel
theorem dX3_level_71 : decode cX3_level 71 = .ok (.iload_n 2, 1) := by decide +kernel
theorem dX3_level_72 : decode cX3_level 72 = .ok (.iastore, 1) := by decide +kernel
theorem dX3_level_73 : decode cX3_level 73 = .ok (.aload_n 0, 1) := by decide +kernel
theorem dX3_level_74 : decode cX3_level 74 = .ok (.getfield 13, 3) := by decide +kernel
theorem dX3_level_77 : decode cX3_level 77 = .ok (.iload_n 1, 1) := by decide +kernel
theorem dX3_level_78 : decode cX3_level 78 = .ok (.iload_n 3, 1) := by decide +kernel
theorem dX3_level_79 : decode cX3_level 79 = .ok (.iastore, 1) := by decide +kernel
theorem dX3_level_80 : decode cX3_level 80 = .ok (.return_, 1) := by decide +kernel
theorem dX3_period_0 : decode cX3_period 0 = .ok (.aload_n 0, 1) := by decide +kernel
theorem dX3_period_1 : decode cX3_period 1 = .ok (.iload_n 1, 1) := by decide +kernel
theorem dX3_period_2 : decode cX3_period 2 = .ok (.ifCond .lt 10, 3) := by decide +kernel
theorem dX3_period_5 : decode cX3_period 5 = .ok (.iload_n 1, 1) := by decide +kernel
theorem dX3_period_6 : decode cX3_period 6 = .ok (.sipush 10000, 3) := by decide +kernel
theorem dX3_period_9 : decode cX3_period 9 = .ok (.if_icmp .le 7, 3) := by decide +kernel
theorem dX3_period_12 : decode cX3_period 12 = .ok (.iconst 1, 1) := by decide +kernel
theorem dX3_period_13 : decode cX3_period 13 = .ok (.goto 15, 3) := by decide +kernel
theorem dX3_period_16 : decode cX3_period 16 = .ok (.aload_n 0, 1) := by decide +kernel
theorem dX3_period_17 : decode cX3_period 17 = .ok (.getfield 82, 3) := by decide +kernel
theorem dX3_period_20 : decode cX3_period 20 = .ok (.ifCond .le 7, 3) := by decide +kernel
theorem dX3_period_23 : decode cX3_period 23 = .ok (.iconst 2, 1) := by decide +kernel
theorem dX3_period_24 : decode cX3_period 24 = .ok (.goto 4, 3) := by decide +kernel
theorem dX3_period_27 : decode cX3_period 27 = .ok (.iconst 0, 1) := by decide +kernel
theorem dX3_period_28 : decode cX3_period 28 = .ok (.putfield 69, 3) := by decide +kernel
theorem dX3_period_31 : decode cX3_period 31 = .ok (.aload_n 0, 1) := by decide +kernel
theorem dX3_period_32 : decode cX3_period 32 = .ok (.getfield 69, 3) := by decide +kernel
theorem dX3_period_35 : decode cX3_period 35 = .ok (.ifCond .ne 8, 3) := by decide +kernel
theorem dX3_period_38 : decode cX3_period 38 = .ok (.aload_n 0, 1) := by decide +kernel
theorem dX3_period_39 : decode cX3_period 39 = .ok (.iload_n 1, 1) := by decide +kernel
theorem dX3_period_40 : decode cX3_period 40 = .ok (.putfield 88, 3) := by decide +kernel
theorem dX3_period_43 : decode cX3_period 43 = .ok (.return_, 1) := by decide +kernel
theorem dX3_process_0 : decode cX3_process 0 = .ok (.aload_n 0, 1) := by decide +kernel
theorem dX3_process_1 : decode cX3_process 1 = .ok (.iload_n 1, 1) := by decide +kernel
theorem dX3_process_2 : decode cX3_process 2 = .ok (.ifCond .lt 10, 3) := by decide +kernel
theorem dX3_process_5 : decode cX3_process 5 = .ok (.iload_n 1, 1) := by decide +kernel
theorem dX3_process_6 : decode cX3_process 6 = .ok (.sipush 20000, 3) := by decide +kernel
theorem dX3_process_9 : decode cX3_process 9 = .ok (.if_icmp .le 7, 3) := by decide +kernel
theorem dX3_process_12 : decode cX3_process 12 = .ok (.iconst 1, 1) := by decide +kernel
theorem dX3_process_13 : decode cX3_process 13 = .ok (.goto 15, 3) := by decide +kernel
theorem dX3_process_16 : decode cX3_process 16 = .ok (.aload_n 0, 1) := by decide +kernel
theorem dX3_process_17 : decode cX3_process 17 = .ok (.getfield 82, 3) := by decide +kernel
theorem dX3_process_20 : decode cX3_process 20 = .ok (.ifCond .le 7, 3) := by decide +kernel
theorem dX3_process_23 : decode cX3_process 23 = .ok (.iconst 2, 1) := by decide +kernel
theorem dX3_process_24 : decode cX3_process 24 = .ok (.goto 4, 3) := by decide +kernel
theorem dX3_process_27 : decode cX3_process 27 = .ok (.iconst 0, 1) := by decide +kernel
theorem dX3_process_28 : decode cX3_process 28 = .ok (.putfield 69, 3) := by decide +kernel
theorem dX3_process_31 : decode cX3_process 31 = .ok (.aload_n 0, 1) := by decide +kernel
theorem dX3_process_32 : decode cX3_process 32 = .ok (.getfield 69, 3) := by decide +kernel
theorem dX3_process_35 : decode cX3_process 35 = .ok (.ifCond .le 5, 3) := by decide +kernel
theorem dX3_process_38 : decode cX3_process 38 = .ok (.iconst 0, 1) := by decide +kernel
theorem dX3_process_39 : decode cX3_process 39 = .ok (.ireturn, 1) := by decide +kernel
theorem dX3_process_40 : decode cX3_process 40 = .ok (.aload_n 0, 1) := by decide +kernel
theorem dX3_process_41 : decode cX3_process 41 = .ok (.getfield 76, 3) := by decide +kernel
theorem dX3_process_44 : decode cX3_process 44 = .ok (.bipush 16, 2) := by decide +kernel
theorem dX3_process_46 : decode cX3_process 46 = .ok (.if_icmp .ne 5, 3) := by decide +kernel
theorem dX3_process_49 : decode cX3_process 49 = .ok (.iconst (-1), 1) := by decide +kernel
theorem dX3_process_50 : decode cX3_process 50 = .ok (.ireturn, 1) := by decide +kernel
theorem dX3_process_51 : decode cX3_process 51 = .ok (.aload_n 0, 1) := by decide +kernel
theorem dX3_process_52 : decode cX3_process 52 = .ok (.getfield 16, 3) := by decide +kernel
theorem dX3_process_55 : decode cX3_process 55 = .ok (.aload_n 0, 1) := by decide +kernel
theorem dX3_process_56 : decode cX3_process 56 = .ok (.getfield 76, 3) := by decide +kernel
theorem dX3_process_59 : decode cX3_process 59 = .ok (.iload_n 1, 1) := by decide +kernel
theorem dX3_process_60 : decode cX3_process 60 = .ok (.iastore, 1) := by decide +kernel
theorem dX3_process_61 : decode cX3_process 61 = .ok (.aload_n 0, 1) := by decide +kernel
theorem dX3_process_62 : decode cX3_process 62 = .ok (.getfield 19, 3) := by decide +kernel
theorem dX3_process_65 : decode cX3_process 65 = .ok (.aload_n 0, 1) := by decide +kernel
theorem dX3_process_66 : decode cX3_process 66 = .ok (.getfield 76, 3) := by decide +kernel
theorem dX3_process_69 : decode cX3_process 69 = .ok (.iconst 0, 1) := by decide +kernel
theorem dX3_process_70 : decode cX3_process 70 = .ok (.iastore, 1) := by decide +kernel
theorem dX3_process_71 : decode cX3_process 71 = .ok (.aload_n 0, 1) := by decide +kernel
theorem dX3_process_72 : decode cX3_process 72 = .ok (.dup, 1) := by decide +kernel
theorem dX3_process_73 : decode cX3_process 73 = .ok (.getfield 76, 3) := by decide +kernel
theorem dX3_process_76 : decode cX3_process 76 = .ok (.iconst 1, 1) := by decide +kernel
theorem dX3_process_77 : decode cX3_process 77 = .ok (.iadd, 1) := by decide +kernel
theorem dX3_process_78 : decode cX3_process 78 = .ok (.putfield 76, 3) := by decide +kernel
theorem dX3_process_81 : decode cX3_process 81 = .ok (.aload_n 0, 1) := by decide +kernel
theorem dX3_process_82 : decode cX3_process 82 = .ok (.getfield 76, 3) := by decide +kernel
theorem dX3_process_85 : decode cX3_process 85 = .ok (.iconst 1, 1) := by decide +kernel
theorem dX3_process_86 : decode cX3_process 86 = .ok (.isub, 1) := by decide +kernel
theorem dX3_process_87 : decode cX3_process 87 = .ok (.ireturn, 1) := by decide +kernel
theorem dX3_noProcess_0 : decode cX3_noProcess 0 = .ok (.iload_n 1, 1) := by decide +kernel
theorem dX3_noProcess_1 : decode cX3_noProcess 1 = .ok (.ifCond .lt 11, 3) := by decide +kernel
theorem dX3_noProcess_4 : decode cX3_noProcess 4 = .ok (.iload_n 1, 1) := by decide +kernel
theorem dX3_noProcess_5 : decode cX3_noProcess 5 = .ok (.aload_n 0, 1) := by decide +kernel
theorem dX3_noProcess_6 : decode cX3_noProcess 6 = .ok (.getfield 76, 3) := by decide +kernel
theorem dX3_noProcess_9 : decode cX3_noProcess 9 = .ok (.if_icmp .lt 7, 3) := by decide +kernel
theorem dX3_noProcess_12 : decode cX3_noProcess 12 = .ok (.iconst 1, 1) := by decide +kernel
theorem dX3_noProcess_13 : decode cX3_noProcess 13 = .ok (.goto 4, 3) := by decide +kernel
theorem dX3_noProcess_16 : decode cX3_noProcess 16 = .ok (.iconst 0, 1) := by decide +kernel
theorem dX3_noProcess_17 : decode cX3_noProcess 17 = .ok (.ireturn, 1) := by decide +kernel
set_option maxRecDepth 20000 in
theorem ggX3_burst_X3_noProcess : GoodIn wsX3_burst wsX3_noProcess := goodIn_r _ [9, 10, 11, 12, 13, 14, 15, 16, 17, 18, 19, 20, 21, 22, 23, 24, 25, 26, 27, 28, 29, 30, 31, 32, 33, 34] (by decide +kernel) (by decide +kernel)
set_option maxRecDepth 20000 in
theorem gX3_burst_X3_noProcess : GoodIn wsX3_burst (wsV RX3 91 RX3 yX3_noProcess wsX3_noProcess) := goodIn_app (goodIn_of _ (by decide +kernel)) ggX3_burst_X3_noProcess
theorem dX3_burst_0 : decode cX3_burst 0 = .ok (.aload_n 0, 1) := by decide +kernel
theorem dX3_burst_1 : decode cX3_burst 1 = .ok (.aload_n 0, 1) := by decide +kernel
theorem dX3_burst_2 : decode cX3_burst 2 = .ok (.iload_n 1, 1) := by decide +kernel
theorem dX3_burst_3 : decode cX3_burst 3 = .ok (.invokevirtual 91, 3) := by decide +kernel
theorem dX3_burst_6 : decode cX3_burst 6 = .ok (.ifCond .eq 7, 3) := by decide +kernel
theorem dX3_burst_9 : decode cX3_burst 9 = .ok (.iconst 1, 1) := by decide +kernel
theorem dX3_burst_10 : decode cX3_burst 10 = .ok (.goto 31, 3) := by decide +kernel
theorem dX3_burst_13 : decode cX3_burst 13 = .ok (.iload_n 2, 1) := by decide +kernel
theorem dX3_burst_14 : decode cX3_burst 14 = .ok (.iconst 1, 1) := by decide +kernel
theorem dX3_burst_15 : decode cX3_burst 15 = .ok (.if_icmp .lt 10, 3) := by decide +kernel
theorem dX3_burst_18 : decode cX3_burst 18 = .ok (.iload_n 2, 1) := by decide +kernel
theorem dX3_burst_19 : decode cX3_burst 19 = .ok (.sipush 5000, 3) := by decide +kernel
theorem dX3_burst_22 : decode cX3_burst 22 = .ok (.if_icmp .le 7, 3) := by decide +kernel
theorem dX3_burst_25 : decode cX3_burst 25 = .ok (.iconst 2, 1) := by decide +kernel
theorem dX3_burst_26 : decode cX3_burst 26 = .ok (.goto 15, 3) := by decide +kernel
theorem dX3_burst_29 : decode cX3_burst 29 = .ok (.aload_n 0, 1) := by decide +kernel
theorem dX3_burst_30 : decode cX3_burst 30 = .ok (.getfield 82, 3) := by decide +kernel
theorem dX3_burst_33 : decode cX3_burst 33 = .ok (.ifCond .le 7, 3) := by decide +kernel
theorem dX3_burst_36 : decode cX3_burst 36 = .ok (.iconst 3, 1) := by decide +kernel
theorem dX3_burst_37 : decode cX3_burst 37 = .ok (.goto 4, 3) := by decide +kernel
theorem dX3_burst_40 : decode cX3_burst 40 = .ok (.iconst 0, 1) := by decide +kernel
theorem dX3_burst_41 : decode cX3_burst 41 = .ok (.putfield 69, 3) := by decide +kernel
theorem dX3_burst_44 : decode cX3_burst 44 = .ok (.aload_n 0, 1) := by decide +kernel
theorem dX3_burst_45 : decode cX3_burst 45 = .ok (.getfield 69, 3) := by decide +kernel
theorem dX3_burst_48 : decode cX3_burst 48 = .ok (.ifCond .le 5, 3) := by decide +kernel
theorem dX3_burst_51 : decode cX3_burst 51 = .ok (.iconst 0, 1) := by decide +kernel
theorem dX3_burst_52 : decode cX3_burst 52 = .ok (.ireturn, 1) := by decide +kernel
theorem dX3_burst_53 : decode cX3_burst 53 = .ok (.aload_n 0, 1) := by decide +kernel
theorem dX3_burst_54 : decode cX3_burst 54 = .ok (.getfield 19, 3) := by decide +kernel
theorem dX3_burst_57 : decode cX3_burst 57 = .ok (.iload_n 1, 1) := by decide +kernel
theorem dX3_burst_58 : decode cX3_burst 58 = .ok (.iaload, 1) := by decide +kernel
theorem dX3_burst_59 : decode cX3_burst 59 = .ok (.bipush 12, 2) := by decide +kernel
theorem dX3_burst_61 : decode cX3_burst 61 = .ok (.if_icmp .ne 5, 3) := by decide +kernel
theorem dX3_burst_64 : decode cX3_burst 64 = .ok (.iconst (-1), 1) := by decide +kernel
theorem dX3_burst_65 : decode cX3_burst 65 = .ok (.ireturn, 1) := by decide +kernel
theorem dX3_burst_66 : decode cX3_burst 66 = .ok (.aload_n 0, 1) := by decide +kernel
theorem dX3_burst_67 : decode cX3_burst 67 = .ok (.getfield 22, 3) := by decide +kernel
theorem dX3_burst_70 : decode cX3_burst 70 = .ok (.bipush 12, 2) := by decide +kernel
theorem dX3_burst_72 : decode cX3_burst 72 = .ok (.iload_n 1, 1) := by decide +kernel
theorem dX3_burst_73 : decode cX3_burst 73 = .ok (.imul, 1) := by decide +kernel
theorem dX3_burst_74 : decode cX3_burst 74 = .ok (.aload_n 0, 1) := by decide +kernel
theorem dX3_burst_75 : decode cX3_burst 75 = .ok (.getfield 19, 3) := by decide +kernel
theorem dX3_burst_78 : decode cX3_burst 78 = .ok (.iload_n 1, 1) := by decide +kernel
theorem dX3_burst_79 : decode cX3_burst 79 = .ok (.iaload, 1) := by decide +kernel
theorem dX3_burst_80 : decode cX3_burst 80 = .ok (.iadd, 1) := by decide +kernel
theorem dX3_burst_81 : decode cX3_burst 81 = .ok (.iload_n 2, 1) := by decide +kernel
theorem dX3_burst_82 : decode cX3_burst 82 = .ok (.iastore, 1) := by decide +kernel
theorem dX3_burst_83 : decode cX3_burst 83 = .ok (.aload_n 0, 1) := by decide +kernel
theorem dX3_burst_84 : decode cX3_burst 84 = .ok (.getfield 19, 3) := by decide +kernel
theorem dX3_burst_87 : decode cX3_burst 87 = .ok (.iload_n 1, 1) := by decide +kernel
theorem dX3_burst_88 : decode cX3_burst 88 = .ok (.dup2, 1) := by decide +kernel
theorem dX3_burst_89 : decode cX3_burst 89 = .ok (.iaload, 1) := by decide +kernel
theorem dX3_burst_90 : decode cX3_burst 90 = .ok (.iconst 1, 1) := by decide +kernel
theorem dX3_burst_91 : decode cX3_burst 91 = .ok (.iadd, 1) := by decide +kernel
theorem dX3_burst_92 : decode cX3_burst 92 = .ok (.iastore, 1) := by decide +kernel
theorem dX3_burst_93 : decode cX3_burst 93 = .ok (.aload_n 0, 1) := by decide +kernel
theorem dX3_burst_94 : decode cX3_burst 94 = .ok (.getfield 19, 3) := by decide +kernel
theorem dX3_burst_97 : decode cX3_burst 97 = .ok (.iload_n 1, 1) := by decide +kernel
theorem dX3_burst_98 : decode cX3_burst 98 = .ok (.iaload, 1) := by decide +kernel
theorem dX3_burst_99 : decode cX3_burst 99 = .ok (.ireturn, 1) := by decide +kernel
theorem dX3_toEnd_0 : decode cX3_toEnd 0 = .ok (.aload_n 0, 1) := by decide +kernel
theorem dX3_toEnd_1 : decode cX3_toEnd 1 = .ok (.getfield 53, 3) := by decide +kernel
theorem dX3_toEnd_4 : decode cX3_toEnd 4 = .ok (.bipush 16, 2) := by decide +kernel
theorem dX3_toEnd_6 : decode cX3_toEnd 6 = .ok (.iload_n 1, 1) := by decide +kernel
theorem dX3_toEnd_7 : decode cX3_toEnd 7 = .ok (.imul, 1) := by decide +kernel
theorem dX3_toEnd_8 : decode cX3_toEnd 8 = .ok (.aload_n 0, 1) := by decide +kernel
theorem dX3_toEnd_9 : decode cX3_toEnd 9 = .ok (.getfield 56, 3) := by decide +kernel
theorem dX3_toEnd_12 : decode cX3_toEnd 12 = .ok (.iload_n 1, 1) := by decide +kernel
theorem dX3_toEnd_13 : decode cX3_toEnd 13 = .ok (.iaload, 1) := by decide +kernel
theorem dX3_toEnd_14 : decode cX3_toEnd 14 = .ok (.iadd, 1) := by decide +kernel
theorem dX3_toEnd_15 : decode cX3_toEnd 15 = .ok (.iload_n 2, 1) := by decide +kernel
theorem dX3_toEnd_16 : decode cX3_toEnd 16 = .ok (.iastore, 1) := by decide +kernel
theorem dX3_toEnd_17 : decode cX3_toEnd 17 = .ok (.aload_n 0, 1) := by decide +kernel
theorem dX3_toEnd_18 : decode cX3_toEnd 18 = .ok (.getfield 56, 3) := by decide +kernel
theorem dX3_toEnd_21 : decode cX3_toEnd 21 = .ok (.iload_n 1, 1) := by decide +kernel
theorem dX3_toEnd_22 : decode cX3_toEnd 22 = .ok (.dup2, 1) := by decide +kernel
theorem dX3_toEnd_23 : decode cX3_toEnd 23 = .ok (.iaload, 1) := by decide +kernel
theorem dX3_toEnd_24 : decode cX3_toEnd 24 = .ok (.iconst 1, 1) := by decide +kernel
theorem dX3_toEnd_25 : decode cX3_toEnd 25 = .ok (.iadd, 1) := by decide +kernel
theorem dX3_toEnd_26 : decode cX3_toEnd 26 = .ok (.iastore, 1) := by decide +kernel
theorem dX3_toEnd_27 : decode cX3_toEnd 27 = .ok (.aload_n 0, 1) := by decide +kernel
theorem dX3_toEnd_28 : decode cX3_toEnd 28 = .ok (.getfield 25, 3) := by decide +kernel
theorem dX3_toEnd_31 : decode cX3_toEnd 31 = .ok (.iload_n 2, 1) := by decide +kernel
theorem dX3_toEnd_32 : decode cX3_toEnd 32 = .ok (.iconst 1, 1) := by decide +kernel
theorem dX3_toEnd_33 : decode cX3_toEnd 33 = .ok (.iastore, 1) := by decide +kernel
theorem dX3_toEnd_34 : decode cX3_toEnd 34 = .ok (.return_, 1) := by decide +kernel
theorem dX3_toFront_0 : decode cX3_toFront 0 = .ok (.aload_n 0, 1) := by decide +kernel
theorem dX3_toFront_1 : decode cX3_toFront 1 = .ok (.getfield 56, 3) := by decide +kernel
theorem dX3_toFront_4 : decode cX3_toFront 4 = .ok (.iload_n 1, 1) := by decide +kernel
theorem dX3_toFront_5 : decode cX3_toFront 5 = .ok (.iaload, 1) := by decide +kernel
theorem dX3_toFront_6 : decode cX3_toFront 6 = .ok (.istore_n 3, 1) := by decide +kernel
theorem dX3_toFront_7 : decode cX3_toFront 7 = .ok (.iload_n 3, 1) := by decide +kernel
theorem dX3_toFront_8 : decode cX3_toFront 8 = .ok (.ifCond .le 33, 3) := by decide +kernel
theorem dX3_toFront_11 : decode cX3_toFront 11 = .ok (.aload_n 0, 1) := by decide +kernel
theorem dX3_toFront_12 : decode cX3_toFront 12 = .ok (.getfield 53, 3) := by decide +kernel
theorem dX3_toFront_15 : decode cX3_toFront 15 = .ok (.bipush 16, 2) := by decide +kernel
theorem dX3_toFront_17 : decode cX3_toFront 17 = .ok (.iload_n 1, 1) := by decide +kernel
theorem dX3_toFront_18 : decode cX3_toFront 18 = .ok (.imul, 1) := by decide +kernel
theorem dX3_toFront_19 : decode cX3_toFront 19 = .ok (.iload_n 3, 1) := by decide +kernel
theorem dX3_toFront_20 : decode cX3_toFront 20 = .ok (.iadd, 1) := by decide +kernel
theorem dX3_toFront_21 : decode cX3_toFront 21 = .ok (.aload_n 0, 1) := by decide +kernel
theorem dX3_toFront_22 : decode cX3_toFront 22 = .ok (.getfield 53, 3) := by decide +kernel
theorem dX3_toFront_25 : decode cX3_toFront 25 = .ok (.bipush 16, 2) := by decide +kernel
theorem dX3_toFront_27 : decode cX3_toFront 27 = .ok (.iload_n 1, 1) := by decide +kernel
theorem dX3_toFront_28 : decode cX3_toFront 28 = .ok (.imul, 1) := by decide +kernel
theorem dX3_toFront_29 : decode cX3_toFront 29 = .ok (.iload_n 3, 1) := by decide +kernel
theorem dX3_toFront_30 : decode cX3_toFront 30 = .ok (.iadd, 1) := by decide +kernel
theorem dX3_toFront_31 : decode cX3_toFront 31 = .ok (.iconst 1, 1) := by decide +kernel
theorem dX3_toFront_32 : decode cX3_toFront 32 = .ok (.isub, 1) := by decide +kernel
theorem dX3_toFront_33 : decode cX3_toFront 33 = .ok (.iaload, 1) := by decide +kernel
theorem dX3_toFront_34 : decode cX3_toFront 34 = .ok (.iastore, 1) := by decide +kernel
theorem dX3_toFront_35 : decode cX3_toFront 35 = .ok (.iinc 3 (-1), 3) := by decide +kernel
theorem dX3_toFront_38 : decode cX3_toFront 38 = .ok (.goto (-31), 3) := by decide +kernel
theorem dX3_toFront_41 : decode cX3_toFront 41 = .ok (.aload_n 0, 1) := by decide +kernel
theorem dX3_toFront_42 : decode cX3_toFront 42 = .ok (.getfield 53, 3) := by decide +kernel
theorem dX3_toFront_45 : decode cX3_toFront 45 = .ok (.bipush 16, 2) := by decide +kernel
theorem dX3_toFront_47 : decode cX3_toFront 47 = .ok (.iload_n 1, 1) := by decide +kernel
theorem dX3_toFront_48 : decode cX3_toFront 48 = .ok (.imul, 1) := by decide +kernel
theorem dX3_toFront_49 : decode cX3_toFront 49 = .ok (.iload_n 2, 1) := by decide +kernel
theorem dX3_toFront_50 : decode cX3_toFront 50 = .ok (.iastore, 1) := by decide +kernel
theorem dX3_toFront_51 : decode cX3_toFront 51 = .ok (.aload_n 0, 1) := by decide +kernel
theorem dX3_toFront_52 : decode cX3_toFront 52 = .ok (.getfield 56, 3) := by decide +kernel
theorem dX3_toFront_55 : decode cX3_toFront 55 = .ok (.iload_n 1, 1) := by decide +kernel
theorem dX3_toFront_56 : decode cX3_toFront 56 = .ok (.dup2, 1) := by decide +kernel
theorem dX3_toFront_57 : decode cX3_toFront 57 = .ok (.iaload, 1) := by decide +kernel
theorem dX3_toFront_58 : decode cX3_toFront 58 = .ok (.iconst 1, 1) := by decide +kernel
theorem dX3_toFront_59 : decode cX3_toFront 59 = .ok (.iadd, 1) := by decide +kernel
theorem dX3_toFront_60 : decode cX3_toFront 60 = .ok (.iastore, 1) := by decide +kernel
theorem dX3_toFront_61 : decode cX3_toFront 61 = .ok (.aload_n 0, 1) := by decide +kernel
theorem dX3_toFront_62 : decode cX3_toFront 62 = .ok (.getfield 25, 3) := by decide +kernel
theorem dX3_toFront_65 : decode cX3_toFront 65 = .ok (.iload_n 2, 1) := by decide +kernel
theorem dX3_toFront_66 : decode cX3_toFront 66 = .ok (.iconst 1, 1) := by decide +kernel
theorem dX3_toFront_67 : decode cX3_toFront 67 = .ok (.iastore, 1) := by decide +kernel
theorem dX3_toFront_68 : decode cX3_toFront 68 = .ok (.return_, 1) := by decide +kernel
end
section
theorem dX3_takeFirst_0 : decode cX3_takeFirst 0 = .ok (.aload_n 0, 1) := by decide +kernel
theorem dX3_takeFirst_1 : decode cX3_takeFirst 1 = .ok (.getfield 53, 3) := by decide +kernel
theorem dX3_takeFirst_4 : decode cX3_takeFirst 4 = .ok (.bipush 16, 2) := by decide +kernel
theorem dX3_takeFirst_6 : decode cX3_takeFirst 6 = .ok (.iload_n 1, 1) := by decide +kernel
theorem dX3_takeFirst_7 : decode cX3_takeFirst 7 = .ok (.imul, 1) := by decide +kernel
theorem dX3_takeFirst_8 : decode cX3_takeFirst 8 = .ok (.iaload, 1) := by decide +kernel
theorem dX3_takeFirst_9 : decode cX3_takeFirst 9 = .ok (.istore_n 2, 1) := by decide +kernel
theorem dX3_takeFirst_10 : decode cX3_takeFirst 10 = .ok (.aload_n 0, 1) := by decide +kernel
theorem dX3_takeFirst_11 : decode cX3_takeFirst 11 = .ok (.getfield 56, 3) := by decide +kernel
theorem dX3_takeFirst_14 : decode cX3_takeFirst 14 = .ok (.iload_n 1, 1) := by decide +kernel
theorem dX3_takeFirst_15 : decode cX3_takeFirst 15 = .ok (.dup2, 1) := by decide +kernel
theorem dX3_takeFirst_16 : decode cX3_takeFirst 16 = .ok (.iaload, 1) := by decide +kernel
theorem dX3_takeFirst_17 : decode cX3_takeFirst 17 = .ok (.iconst 1, 1) := by decide +kernel
theorem dX3_takeFirst_18 : decode cX3_takeFirst 18 = .ok (.isub, 1) := by decide +kernel
theorem dX3_takeFirst_19 : decode cX3_takeFirst 19 = .ok (.iastore, 1) := by decide +kernel
theorem dX3_takeFirst_20 : decode cX3_takeFirst 20 = .ok (.iconst 0, 1) := by decide +kernel
theorem dX3_takeFirst_21 : decode cX3_takeFirst 21 = .ok (.istore_n 3, 1) := by decide +kernel
theorem dX3_takeFirst_22 : decode cX3_takeFirst 22 = .ok (.iload_n 3, 1) := by decide +kernel
theorem dX3_takeFirst_23 : decode cX3_takeFirst 23 = .ok (.aload_n 0, 1) := by decide +kernel
theorem dX3_takeFirst_24 : decode cX3_takeFirst 24 = .ok (.getfield 56, 3) := by decide +kernel
theorem dX3_takeFirst_27 : decode cX3_takeFirst 27 = .ok (.iload_n 1, 1) := by decide +kernel
theorem dX3_takeFirst_28 : decode cX3_takeFirst 28 = .ok (.iaload, 1) := by decide +kernel
theorem dX3_takeFirst_29 : decode cX3_takeFirst 29 = .ok (.if_icmp .ge 33, 3) := by decide +kernel
theorem dX3_takeFirst_32 : decode cX3_takeFirst 32 = .ok (.aload_n 0, 1) := by decide +kernel
theorem dX3_takeFirst_33 : decode cX3_takeFirst 33 = .ok (.getfield 53, 3) := by decide +kernel
theorem dX3_takeFirst_36 : decode cX3_takeFirst 36 = .ok (.bipush 16, 2) := by decide +kernel
theorem dX3_takeFirst_38 : decode cX3_takeFirst 38 = .ok (.iload_n 1, 1) := by decide +kernel
theorem dX3_takeFirst_39 : decode cX3_takeFirst 39 = .ok (.imul, 1) := by decide +kernel
theorem dX3_takeFirst_40 : decode cX3_takeFirst 40 = .ok (.iload_n 3, 1) := by decide +kernel
theorem dX3_takeFirst_41 : decode cX3_takeFirst 41 = .ok (.iadd, 1) := by decide +kernel
theorem dX3_takeFirst_42 : decode cX3_takeFirst 42 = .ok (.aload_n 0, 1) := by decide +kernel
theorem dX3_takeFirst_43 : decode cX3_takeFirst 43 = .ok (.getfield 53, 3) := by decide +kernel
theorem dX3_takeFirst_46 : decode cX3_takeFirst 46 = .ok (.bipush 16, 2) := by decide +kernel
theorem dX3_takeFirst_48 : decode cX3_takeFirst 48 = .ok (.iload_n 1, 1) := by decide +kernel
theorem dX3_takeFirst_49 : decode cX3_takeFirst 49 = .ok (.imul, 1) := by decide +kernel
theorem dX3_takeFirst_50 : decode cX3_takeFirst 50 = .ok (.iload_n 3, 1) := by decide +kernel
theorem dX3_takeFirst_51 : decode cX3_takeFirst 51 = .ok (.iadd, 1) := by decide +kernel
theorem dX3_takeFirst_52 : decode cX3_takeFirst 52 = .ok (.iconst 1, 1) := by decide +kernel
theorem dX3_takeFirst_53 : decode cX3_takeFirst 53 = .ok (.iadd, 1) := by decide +kernel
theorem dX3_takeFirst_54 : decode cX3_takeFirst 54 = .ok (.iaload, 1) := by decide +kernel
theorem dX3_takeFirst_55 : decode cX3_takeFirst 55 = .ok (.iastore, 1) := by decide +kernel
theorem dX3_takeFirst_56 : decode cX3_takeFirst 56 = .ok (.iinc 3 1, 3) := by decide +kernel
theorem dX3_takeFirst_59 : decode cX3_takeFirst 59 = .ok (.goto (-37), 3) := by decide +kernel
theorem dX3_takeFirst_62 : decode cX3_takeFirst 62 = .ok (.iload_n 2, 1) := by decide +kernel
theorem dX3_takeFirst_63 : decode cX3_takeFirst 63 = .ok (.ireturn, 1) := by decide +kernel
set_option maxRecDepth 20000 in
theorem ggX3_allUp_X3_takeFirst : GoodIn wsX3_allUp wsX3_takeFirst := goodIn_r _ [17, 18, 3, 23, 24, 25, 26, 27, 28, 29, 30, 31, 32, 33, 34, 35, 36, 37, 38, 39, 40, 41, 42, 43, 44, 45, 46] (by decide +kernel) (by decide +kernel)
set_option maxRecDepth 20000 in
theorem gX3_allUp_X3_takeFirst : GoodIn wsX3_allUp (wsV RX3 95 RX3 yX3_takeFirst wsX3_takeFirst) := goodIn_app (goodIn_of _ (by decide +kernel)) ggX3_allUp_X3_takeFirst
set_option maxRecDepth 20000 in
theorem ggX3_allUp_X3_toEnd : GoodIn wsX3_allUp wsX3_toEnd := goodIn_r _ [22, 18, 3, 5, 23, 24, 25, 26, 27, 28, 29, 30, 31, 32, 33, 34, 35, 36, 37, 38, 39, 40, 41, 42, 43, 44, 45, 46] (by decide +kernel) (by decide +kernel)
set_option maxRecDepth 20000 in
theorem gX3_allUp_X3_toEnd : GoodIn wsX3_allUp (wsV RX3 99 RX3 yX3_toEnd wsX3_toEnd) := goodIn_app (goodIn_of _ (by decide +kernel)) ggX3_allUp_X3_toEnd
theorem dX3_allUp_0 : decode cX3_allUp 0 = .ok (.aload_n 0, 1) := by decide +kernel
theorem dX3_allUp_1 : decode cX3_allUp 1 = .ok (.getfield 59, 3) := by decide +kernel
theorem dX3_allUp_4 : decode cX3_allUp 4 = .ok (.iconst 2, 1) := by decide +kernel
theorem dX3_allUp_5 : decode cX3_allUp 5 = .ok (.dup2, 1) := by decide +kernel
theorem dX3_allUp_6 : decode cX3_allUp 6 = .ok (.iaload, 1) := by decide +kernel
theorem dX3_allUp_7 : decode cX3_allUp 7 = .ok (.iconst 1, 1) := by decide +kernel
theorem dX3_allUp_8 : decode cX3_allUp 8 = .ok (.iadd, 1) := by decide +kernel
theorem dX3_allUp_9 : decode cX3_allUp 9 = .ok (.iastore, 1) := by decide +kernel
theorem dX3_allUp_10 : decode cX3_allUp 10 = .ok (.iconst 1, 1) := by decide +kernel
theorem dX3_allUp_11 : decode cX3_allUp 11 = .ok (.istore_n 1, 1) := by decide +kernel
theorem dX3_allUp_12 : decode cX3_allUp 12 = .ok (.iload_n 1, 1) := by decide +kernel
theorem dX3_allUp_13 : decode cX3_allUp 13 = .ok (.aload_n 0, 1) := by decide +kernel
theorem dX3_allUp_14 : decode cX3_allUp 14 = .ok (.getfield 73, 3) := by decide +kernel
theorem dX3_allUp_17 : decode cX3_allUp 17 = .ok (.if_icmp .ge 31, 3) := by decide +kernel
theorem dX3_allUp_20 : decode cX3_allUp 20 = .ok (.aload_n 0, 1) := by decide +kernel
theorem dX3_allUp_21 : decode cX3_allUp 21 = .ok (.getfield 56, 3) := by decide +kernel
theorem dX3_allUp_24 : decode cX3_allUp 24 = .ok (.iload_n 1, 1) := by decide +kernel
theorem dX3_allUp_25 : decode cX3_allUp 25 = .ok (.iaload, 1) := by decide +kernel
theorem dX3_allUp_26 : decode cX3_allUp 26 = .ok (.ifCond .le 16, 3) := by decide +kernel
theorem dX3_allUp_29 : decode cX3_allUp 29 = .ok (.aload_n 0, 1) := by decide +kernel
theorem dX3_allUp_30 : decode cX3_allUp 30 = .ok (.iconst 0, 1) := by decide +kernel
theorem dX3_allUp_31 : decode cX3_allUp 31 = .ok (.aload_n 0, 1) := by decide +kernel
theorem dX3_allUp_32 : decode cX3_allUp 32 = .ok (.iload_n 1, 1) := by decide +kernel
theorem dX3_allUp_33 : decode cX3_allUp 33 = .ok (.invokevirtual 95, 3) := by decide +kernel
theorem dX3_allUp_36 : decode cX3_allUp 36 = .ok (.invokevirtual 99, 3) := by decide +kernel
theorem dX3_allUp_39 : decode cX3_allUp 39 = .ok (.goto (-19), 3) := by decide +kernel
theorem dX3_allUp_42 : decode cX3_allUp 42 = .ok (.iinc 1 1, 3) := by decide +kernel
theorem dX3_allUp_45 : decode cX3_allUp 45 = .ok (.goto (-33), 3) := by decide +kernel
theorem dX3_allUp_48 : decode cX3_allUp 48 = .ok (.iconst 0, 1) := by decide +kernel
theorem dX3_allUp_49 : decode cX3_allUp 49 = .ok (.istore_n 1, 1) := by decide +kernel
theorem dX3_allUp_50 : decode cX3_allUp 50 = .ok (.iload_n 1, 1) := by decide +kernel
theorem dX3_allUp_51 : decode cX3_allUp 51 = .ok (.aload_n 0, 1) := by decide +kernel
theorem dX3_allUp_52 : decode cX3_allUp 52 = .ok (.getfield 76, 3) := by decide +kernel
theorem dX3_allUp_55 : decode cX3_allUp 55 = .ok (.if_icmp .ge 83, 3) := by decide +kernel
theorem dX3_allUp_58 : decode cX3_allUp 58 = .ok (.aload_n 0, 1) := by decide +kernel
theorem dX3_allUp_59 : decode cX3_allUp 59 = .ok (.getfield 25, 3) := by decide +kernel
theorem dX3_allUp_62 : decode cX3_allUp 62 = .ok (.iload_n 1, 1) := by decide +kernel
theorem dX3_allUp_63 : decode cX3_allUp 63 = .ok (.iaload, 1) := by decide +kernel
theorem dX3_allUp_64 : decode cX3_allUp 64 = .ok (.ifCond .eq 68, 3) := by decide +kernel
theorem dX3_allUp_67 : decode cX3_allUp 67 = .ok (.aload_n 0, 1) := by decide +kernel
theorem dX3_allUp_68 : decode cX3_allUp 68 = .ok (.getfield 25, 3) := by decide +kernel
theorem dX3_allUp_71 : decode cX3_allUp 71 = .ok (.iload_n 1, 1) := by decide +kernel
theorem dX3_allUp_72 : decode cX3_allUp 72 = .ok (.iaload, 1) := by decide +kernel
theorem dX3_allUp_73 : decode cX3_allUp 73 = .ok (.iconst 4, 1) := by decide +kernel
theorem dX3_allUp_74 : decode cX3_allUp 74 = .ok (.if_icmp .eq 58, 3) := by decide +kernel
theorem dX3_allUp_77 : decode cX3_allUp 77 = .ok (.aload_n 0, 1) := by decide +kernel
theorem dX3_allUp_78 : decode cX3_allUp 78 = .ok (.getfield 28, 3) := by decide +kernel
theorem dX3_allUp_81 : decode cX3_allUp 81 = .ok (.iload_n 1, 1) := by decide +kernel
theorem dX3_allUp_82 : decode cX3_allUp 82 = .ok (.iconst 0, 1) := by decide +kernel
theorem dX3_allUp_83 : decode cX3_allUp 83 = .ok (.iastore, 1) := by decide +kernel
theorem dX3_allUp_84 : decode cX3_allUp 84 = .ok (.aload_n 0, 1) := by decide +kernel
theorem dX3_allUp_85 : decode cX3_allUp 85 = .ok (.getfield 40, 3) := by decide +kernel
theorem dX3_allUp_88 : decode cX3_allUp 88 = .ok (.iload_n 1, 1) := by decide +kernel
theorem dX3_allUp_89 : decode cX3_allUp 89 = .ok (.aload_n 0, 1) := by decide +kernel
theorem dX3_allUp_90 : decode cX3_allUp 90 = .ok (.getfield 13, 3) := by decide +kernel
theorem dX3_allUp_93 : decode cX3_allUp 93 = .ok (.iconst 0, 1) := by decide +kernel
theorem dX3_allUp_94 : decode cX3_allUp 94 = .ok (.iaload, 1) := by decide +kernel
theorem dX3_allUp_95 : decode cX3_allUp 95 = .ok (.iastore, 1) := by decide +kernel
theorem dX3_allUp_96 : decode cX3_allUp 96 = .ok (.aload_n 0, 1) := by decide +kernel
theorem dX3_allUp_97 : decode cX3_allUp 97 = .ok (.getfield 43, 3) := by decide +kernel
theorem dX3_allUp_100 : decode cX3_allUp 100 = .ok (.iload_n 1, 1) := by decide +kernel
theorem dX3_allUp_101 : decode cX3_allUp 101 = .ok (.baload, 1) := by decide +kernel
theorem dX3_allUp_102 : decode cX3_allUp 102 = .ok (.ifCond .eq 30, 3) := by decide +kernel
theorem dX3_allUp_105 : decode cX3_allUp 105 = .ok (.aload_n 0, 1) := by decide +kernel
theorem dX3_allUp_106 : decode cX3_allUp 106 = .ok (.getfield 37, 3) := by decide +kernel
theorem dX3_allUp_109 : decode cX3_allUp 109 = .ok (.iload_n 1, 1) := by decide +kernel
theorem dX3_allUp_110 : decode cX3_allUp 110 = .ok (.iaload, 1) := by decide +kernel
theorem dX3_allUp_111 : decode cX3_allUp 111 = .ok (.aload_n 0, 1) := by decide +kernel
theorem dX3_allUp_112 : decode cX3_allUp 112 = .ok (.getfield 7, 3) := by decide +kernel
theorem dX3_allUp_115 : decode cX3_allUp 115 = .ok (.iconst 0, 1) := by decide +kernel
theorem dX3_allUp_116 : decode cX3_allUp 116 = .ok (.iaload, 1) := by decide +kernel
theorem dX3_allUp_117 : decode cX3_allUp 117 = .ok (.if_icmp .le 15, 3) := by decide +kernel
theorem dX3_allUp_120 : decode cX3_allUp 120 = .ok (.aload_n 0, 1) := by decide +kernel
theorem dX3_allUp_121 : decode cX3_allUp 121 = .ok (.getfield 37, 3) := by decide +kernel
theorem dX3_allUp_124 : decode cX3_allUp 124 = .ok (.iload_n 1, 1) := by decide +kernel
theorem dX3_allUp_125 : decode cX3_allUp 125 = .ok (.aload_n 0, 1) := by decide +kernel
theorem dX3_allUp_126 : decode cX3_allUp 126 = .ok (.getfield 7, 3) := by decide +kernel
theorem dX3_allUp_129 : decode cX3_allUp 129 = .ok (.iconst 0, 1) := by decide +kernel
theorem dX3_allUp_130 : decode cX3_allUp 130 = .ok (.iaload, 1) := by decide +kernel
theorem dX3_allUp_131 : decode cX3_allUp 131 = .ok (.iastore, 1) := by decide +kernel
theorem dX3_allUp_132 : decode cX3_allUp 132 = .ok (.iinc 1 1, 3) := by decide +kernel
theorem dX3_allUp_135 : decode cX3_allUp 135 = .ok (.goto (-85), 3) := by decide +kernel
theorem dX3_allUp_138 : decode cX3_allUp 138 = .ok (.aload_n 0, 1) := by decide +kernel
theorem dX3_allUp_139 : decode cX3_allUp 139 = .ok (.getfield 85, 3) := by decide +kernel
theorem dX3_allUp_142 : decode cX3_allUp 142 = .ok (.ifCond .lt 18, 3) := by decide +kernel
theorem dX3_allUp_145 : decode cX3_allUp 145 = .ok (.aload_n 0, 1) := by decide +kernel
theorem dX3_allUp_146 : decode cX3_allUp 146 = .ok (.getfield 37, 3) := by decide +kernel
theorem dX3_allUp_149 : decode cX3_allUp 149 = .ok (.aload_n 0, 1) := by decide +kernel
theorem dX3_allUp_150 : decode cX3_allUp 150 = .ok (.getfield 85, 3) := by decide +kernel
theorem dX3_allUp_153 : decode cX3_allUp 153 = .ok (.aload_n 0, 1) := by decide +kernel
theorem dX3_allUp_154 : decode cX3_allUp 154 = .ok (.getfield 7, 3) := by decide +kernel
theorem dX3_allUp_157 : decode cX3_allUp 157 = .ok (.iconst 0, 1) := by decide +kernel
theorem dX3_allUp_158 : decode cX3_allUp 158 = .ok (.iaload, 1) := by decide +kernel
theorem dX3_allUp_159 : decode cX3_allUp 159 = .ok (.iastore, 1) := by decide +kernel
theorem dX3_allUp_160 : decode cX3_allUp 160 = .ok (.return_, 1) := by decide +kernel
theorem dX3_end_0 : decode cX3_end 0 = .ok (.aload_n 0, 1) := by decide +kernel
theorem dX3_end_1 : decode cX3_end 1 = .ok (.getfield 25, 3) := by decide +kernel
theorem dX3_end_4 : decode cX3_end 4 = .ok (.iload_n 1, 1) := by decide +kernel
theorem dX3_end_5 : decode cX3_end 5 = .ok (.iconst 4, 1) := by decide +kernel
theorem dX3_end_6 : decode cX3_end 6 = .ok (.iastore, 1) := by decide +kernel
theorem dX3_end_7 : decode cX3_end 7 = .ok (.aload_n 0, 1) := by decide +kernel
theorem dX3_end_8 : decode cX3_end 8 = .ok (.getfield 50, 3) := by decide +kernel
theorem dX3_end_11 : decode cX3_end 11 = .ok (.bipush 10, 2) := by decide +kernel
theorem dX3_end_13 : decode cX3_end 13 = .ok (.iload_n 1, 1) := by decide +kernel
theorem dX3_end_14 : decode cX3_end 14 = .ok (.imul, 1) := by decide +kernel
theorem dX3_end_15 : decode cX3_end 15 = .ok (.bipush 6, 2) := by decide +kernel
theorem dX3_end_17 : decode cX3_end 17 = .ok (.iadd, 1) := by decide +kernel
theorem dX3_end_18 : decode cX3_end 18 = .ok (.iload_n 2, 1) := by decide +kernel
theorem dX3_end_19 : decode cX3_end 19 = .ok (.iastore, 1) := by decide +kernel
theorem dX3_end_20 : decode cX3_end 20 = .ok (.aload_n 0, 1) := by decide +kernel
theorem dX3_end_21 : decode cX3_end 21 = .ok (.getfield 59, 3) := by decide +kernel
theorem dX3_end_24 : decode cX3_end 24 = .ok (.iconst 3, 1) := by decide +kernel
theorem dX3_end_25 : decode cX3_end 25 = .ok (.dup2, 1) := by decide +kernel
theorem dX3_end_26 : decode cX3_end 26 = .ok (.iaload, 1) := by decide +kernel
theorem dX3_end_27 : decode cX3_end 27 = .ok (.iconst 1, 1) := by decide +kernel
theorem dX3_end_28 : decode cX3_end 28 = .ok (.iadd, 1) := by decide +kernel
theorem dX3_end_29 : decode cX3_end 29 = .ok (.iastore, 1) := by decide +kernel
theorem dX3_end_30 : decode cX3_end 30 = .ok (.return_, 1) := by decide +kernel
set_option maxRecDepth 20000 in
theorem ggX3_come_X3_end : GoodIn wsX3_come wsX3_end := goodIn_r _ [13, 14, 15, 16, 23, 24, 25, 26, 27, 28, 29, 30, 31, 32, 33, 34, 35, 36, 37, 38, 39, 40, 41, 42, 43, 44, 45, 46] (by decide +kernel) (by decide +kernel)
set_option maxRecDepth 20000 in
theorem gX3_come_X3_end : GoodIn wsX3_come (wsV RX3 103 RX3 yX3_end wsX3_end) := goodIn_app (goodIn_of _ (by decide +kernel)) ggX3_come_X3_end
set_option maxRecDepth 20000 in
theorem ggX3_come_X3_toEnd : GoodIn wsX3_come wsX3_toEnd := goodIn_r _ [20, 21, 22, 14, 23, 24, 25, 26, 27, 28, 29, 30, 31, 32, 33, 34, 35, 36, 37, 38, 39, 40, 41, 42, 43, 44, 45, 46] (by decide +kernel) (by decide +kernel)
set_option maxRecDepth 20000 in
theorem gX3_come_X3_toEnd : GoodIn wsX3_come (wsV RX3 99 RX3 yX3_toEnd wsX3_toEnd) := goodIn_app (goodIn_of _ (by decide +kernel)) ggX3_come_X3_toEnd
theorem dX3_come_0 : decode cX3_come 0 = .ok (.iconst 0, 1) := by decide +kernel
theorem dX3_come_1 : decode cX3_come 1 = .ok (.istore_n 2, 1) := by decide +kernel
theorem dX3_come_2 : decode cX3_come 2 = .ok (.iload_n 2, 1) := by decide +kernel
theorem dX3_come_3 : decode cX3_come 3 = .ok (.aload_n 0, 1) := by decide +kernel
theorem dX3_come_4 : decode cX3_come 4 = .ok (.getfield 76, 3) := by decide +kernel
theorem dX3_come_7 : decode cX3_come 7 = .ok (.if_icmp .ge 87, 3) := by decide +kernel
theorem dX3_come_10 : decode cX3_come 10 = .ok (.aload_n 0, 1) := by decide +kernel
theorem dX3_come_11 : decode cX3_come 11 = .ok (.getfield 16, 3) := by decide +kernel
theorem dX3_come_14 : decode cX3_come 14 = .ok (.iload_n 2, 1) := by decide +kernel
theorem dX3_come_15 : decode cX3_come 15 = .ok (.iaload, 1) := by decide +kernel
theorem dX3_come_16 : decode cX3_come 16 = .ok (.iload_n 1, 1) := by decide +kernel
theorem dX3_come_17 : decode cX3_come 17 = .ok (.if_icmp .ne 21, 3) := by decide +kernel
theorem dX3_come_20 : decode cX3_come 20 = .ok (.aload_n 0, 1) := by decide +kernel
theorem dX3_come_21 : decode cX3_come 21 = .ok (.getfield 19, 3) := by decide +kernel
theorem dX3_come_24 : decode cX3_come 24 = .ok (.iload_n 2, 1) := by decide +kernel
theorem dX3_come_25 : decode cX3_come 25 = .ok (.iaload, 1) := by decide +kernel
theorem dX3_come_26 : decode cX3_come 26 = .ok (.ifCond .ne 12, 3) := by decide +kernel
theorem dX3_come_29 : decode cX3_come 29 = .ok (.aload_n 0, 1) := by decide +kernel
theorem dX3_come_30 : decode cX3_come 30 = .ok (.iload_n 2, 1) := by decide +kernel
theorem dX3_come_31 : decode cX3_come 31 = .ok (.iload_n 1, 1) := by decide +kernel
theorem dX3_come_32 : decode cX3_come 32 = .ok (.invokevirtual 103, 3) := by decide +kernel
theorem dX3_come_35 : decode cX3_come 35 = .ok (.goto 53, 3) := by decide +kernel
theorem dX3_come_38 : decode cX3_come 38 = .ok (.aload_n 0, 1) := by decide +kernel
theorem dX3_come_39 : decode cX3_come 39 = .ok (.getfield 16, 3) := by decide +kernel
theorem dX3_come_42 : decode cX3_come 42 = .ok (.iload_n 2, 1) := by decide +kernel
theorem dX3_come_43 : decode cX3_come 43 = .ok (.iaload, 1) := by decide +kernel
theorem dX3_come_44 : decode cX3_come 44 = .ok (.iload_n 1, 1) := by decide +kernel
theorem dX3_come_45 : decode cX3_come 45 = .ok (.if_icmp .ne 43, 3) := by decide +kernel
theorem dX3_come_48 : decode cX3_come 48 = .ok (.aload_n 0, 1) := by decide +kernel
theorem dX3_come_49 : decode cX3_come 49 = .ok (.getfield 28, 3) := by decide +kernel
theorem dX3_come_52 : decode cX3_come 52 = .ok (.iload_n 2, 1) := by decide +kernel
theorem dX3_come_53 : decode cX3_come 53 = .ok (.iconst 0, 1) := by decide +kernel
theorem dX3_come_54 : decode cX3_come 54 = .ok (.iastore, 1) := by decide +kernel
theorem dX3_come_55 : decode cX3_come 55 = .ok (.aload_n 0, 1) := by decide +kernel
theorem dX3_come_56 : decode cX3_come 56 = .ok (.getfield 40, 3) := by decide +kernel
theorem dX3_come_59 : decode cX3_come 59 = .ok (.iload_n 2, 1) := by decide +kernel
theorem dX3_come_60 : decode cX3_come 60 = .ok (.aload_n 0, 1) := by decide +kernel
theorem dX3_come_61 : decode cX3_come 61 = .ok (.getfield 13, 3) := by decide +kernel
theorem dX3_come_64 : decode cX3_come 64 = .ok (.iconst 0, 1) := by decide +kernel
theorem dX3_come_65 : decode cX3_come 65 = .ok (.iaload, 1) := by decide +kernel
theorem dX3_come_66 : decode cX3_come 66 = .ok (.iastore, 1) := by decide +kernel
theorem dX3_come_67 : decode cX3_come 67 = .ok (.aload_n 0, 1) := by decide +kernel
theorem dX3_come_68 : decode cX3_come 68 = .ok (.getfield 34, 3) := by decide +kernel
theorem dX3_come_71 : decode cX3_come 71 = .ok (.iload_n 2, 1) := by decide +kernel
theorem dX3_come_72 : decode cX3_come 72 = .ok (.aload_n 0, 1) := by decide +kernel
theorem dX3_come_73 : decode cX3_come 73 = .ok (.getfield 22, 3) := by decide +kernel
theorem dX3_come_76 : decode cX3_come 76 = .ok (.bipush 12, 2) := by decide +kernel
theorem dX3_come_78 : decode cX3_come 78 = .ok (.iload_n 2, 1) := by decide +kernel
theorem dX3_come_79 : decode cX3_come 79 = .ok (.imul, 1) := by decide +kernel
theorem dX3_come_80 : decode cX3_come 80 = .ok (.iaload, 1) := by decide +kernel
theorem dX3_come_81 : decode cX3_come 81 = .ok (.iastore, 1) := by decide +kernel
theorem dX3_come_82 : decode cX3_come 82 = .ok (.aload_n 0, 1) := by decide +kernel
theorem dX3_come_83 : decode cX3_come 83 = .ok (.iconst 0, 1) := by decide +kernel
theorem dX3_come_84 : decode cX3_come 84 = .ok (.iload_n 2, 1) := by decide +kernel
theorem dX3_come_85 : decode cX3_come 85 = .ok (.invokevirtual 99, 3) := by decide +kernel
theorem dX3_come_88 : decode cX3_come 88 = .ok (.iinc 2 1, 3) := by decide +kernel
theorem dX3_come_91 : decode cX3_come 91 = .ok (.goto (-89), 3) := by decide +kernel
theorem dX3_come_94 : decode cX3_come 94 = .ok (.return_, 1) := by decide +kernel
set_option maxRecDepth 20000 in
theorem ggX3_comeBack_X3_end : GoodIn wsX3_comeBack wsX3_end := goodIn_r _ [13, 2, 14, 15, 22, 23, 24, 25, 26, 27, 28, 29, 30, 31, 32, 33, 34, 35, 36, 37, 38, 39, 40, 41, 42, 43, 44, 45] (by decide +kernel) (by decide +kernel)
set_option maxRecDepth 20000 in
theorem gX3_comeBack_X3_end : GoodIn wsX3_comeBack (wsV RX3 103 RX3 yX3_end wsX3_end) := goodIn_app (goodIn_of _ (by decide +kernel)) ggX3_comeBack_X3_end
set_option maxRecDepth 20000 in
theorem ggX3_comeBack_X3_toEnd : GoodIn wsX3_comeBack wsX3_toEnd := goodIn_r _ [19, 20, 21, 2, 22, 23, 24, 25, 26, 27, 28, 29, 30, 31, 32, 33, 34, 35, 36, 37, 38, 39, 40, 41, 42, 43, 44, 45] (by decide +kernel) (by decide +kernel)
set_option maxRecDepth 20000 in
theorem gX3_comeBack_X3_toEnd : GoodIn wsX3_comeBack (wsV RX3 99 RX3 yX3_toEnd wsX3_toEnd) := goodIn_app (goodIn_of _ (by decide +kernel)) ggX3_comeBack_X3_toEnd
theorem dX3_comeBack_0 : decode cX3_comeBack 0 = .ok (.iconst 0, 1) := by decide +kernel
theorem dX3_comeBack_1 : decode cX3_comeBack 1 = .ok (.istore_n 2, 1) := by decide +kernel
theorem dX3_comeBack_2 : decode cX3_comeBack 2 = .ok (.iload_n 2, 1) := by decide +kernel
theorem dX3_comeBack_3 : decode cX3_comeBack 3 = .ok (.aload_n 0, 1) := by decide +kernel
theorem dX3_comeBack_4 : decode cX3_comeBack 4 = .ok (.getfield 76, 3) := by decide +kernel
theorem dX3_comeBack_7 : decode cX3_comeBack 7 = .ok (.if_icmp .ge 96, 3) := by decide +kernel
theorem dX3_comeBack_10 : decode cX3_comeBack 10 = .ok (.aload_n 0, 1) := by decide +kernel
theorem dX3_comeBack_11 : decode cX3_comeBack 11 = .ok (.getfield 25, 3) := by decide +kernel
theorem dX3_comeBack_14 : decode cX3_comeBack 14 = .ok (.iload_n 2, 1) := by decide +kernel
theorem dX3_comeBack_15 : decode cX3_comeBack 15 = .ok (.iaload, 1) := by decide +kernel
theorem dX3_comeBack_16 : decode cX3_comeBack 16 = .ok (.iconst 3, 1) := by decide +kernel
theorem dX3_comeBack_17 : decode cX3_comeBack 17 = .ok (.if_icmp .ne 80, 3) := by decide +kernel
theorem dX3_comeBack_20 : decode cX3_comeBack 20 = .ok (.aload_n 0, 1) := by decide +kernel
theorem dX3_comeBack_21 : decode cX3_comeBack 21 = .ok (.getfield 47, 3) := by decide +kernel
theorem dX3_comeBack_24 : decode cX3_comeBack 24 = .ok (.iload_n 2, 1) := by decide +kernel
theorem dX3_comeBack_25 : decode cX3_comeBack 25 = .ok (.iaload, 1) := by decide +kernel
theorem dX3_comeBack_26 : decode cX3_comeBack 26 = .ok (.iload_n 1, 1) := by decide +kernel
theorem dX3_comeBack_27 : decode cX3_comeBack 27 = .ok (.if_icmp .ne 70, 3) := by decide +kernel
theorem dX3_comeBack_30 : decode cX3_comeBack 30 = .ok (.aload_n 0, 1) := by decide +kernel
theorem dX3_comeBack_31 : decode cX3_comeBack 31 = .ok (.getfield 31, 3) := by decide +kernel
theorem dX3_comeBack_34 : decode cX3_comeBack 34 = .ok (.iload_n 2, 1) := by decide +kernel
theorem dX3_comeBack_35 : decode cX3_comeBack 35 = .ok (.dup2, 1) := by decide +kernel
theorem dX3_comeBack_36 : decode cX3_comeBack 36 = .ok (.iaload, 1) := by decide +kernel
theorem dX3_comeBack_37 : decode cX3_comeBack 37 = .ok (.iconst 1, 1) := by decide +kernel
theorem dX3_comeBack_38 : decode cX3_comeBack 38 = .ok (.iadd, 1) := by decide +kernel
theorem dX3_comeBack_39 : decode cX3_comeBack 39 = .ok (.iastore, 1) := by decide +kernel
theorem dX3_comeBack_40 : decode cX3_comeBack 40 = .ok (.aload_n 0, 1) := by decide +kernel
theorem dX3_comeBack_41 : decode cX3_comeBack 41 = .ok (.getfield 31, 3) := by decide +kernel
theorem dX3_comeBack_44 : decode cX3_comeBack 44 = .ok (.iload_n 2, 1) := by decide +kernel
theorem dX3_comeBack_45 : decode cX3_comeBack 45 = .ok (.iaload, 1) := by decide +kernel
theorem dX3_comeBack_46 : decode cX3_comeBack 46 = .ok (.aload_n 0, 1) := by decide +kernel
theorem dX3_comeBack_47 : decode cX3_comeBack 47 = .ok (.getfield 19, 3) := by decide +kernel
theorem dX3_comeBack_50 : decode cX3_comeBack 50 = .ok (.iload_n 2, 1) := by decide +kernel
theorem dX3_comeBack_51 : decode cX3_comeBack 51 = .ok (.iaload, 1) := by decide +kernel
theorem dX3_comeBack_52 : decode cX3_comeBack 52 = .ok (.if_icmp .ne 12, 3) := by decide +kernel
theorem dX3_comeBack_55 : decode cX3_comeBack 55 = .ok (.aload_n 0, 1) := by decide +kernel
theorem dX3_comeBack_56 : decode cX3_comeBack 56 = .ok (.iload_n 2, 1) := by decide +kernel
theorem dX3_comeBack_57 : decode cX3_comeBack 57 = .ok (.iload_n 1, 1) := by decide +kernel
theorem dX3_comeBack_58 : decode cX3_comeBack 58 = .ok (.invokevirtual 103, 3) := by decide +kernel
theorem dX3_comeBack_61 : decode cX3_comeBack 61 = .ok (.goto 36, 3) := by decide +kernel
theorem dX3_comeBack_64 : decode cX3_comeBack 64 = .ok (.aload_n 0, 1) := by decide +kernel
theorem dX3_comeBack_65 : decode cX3_comeBack 65 = .ok (.getfield 34, 3) := by decide +kernel
theorem dX3_comeBack_68 : decode cX3_comeBack 68 = .ok (.iload_n 2, 1) := by decide +kernel
theorem dX3_comeBack_69 : decode cX3_comeBack 69 = .ok (.aload_n 0, 1) := by decide +kernel
theorem dX3_comeBack_70 : decode cX3_comeBack 70 = .ok (.getfield 22, 3) := by decide +kernel
theorem dX3_comeBack_73 : decode cX3_comeBack 73 = .ok (.bipush 12, 2) := by decide +kernel
theorem dX3_comeBack_75 : decode cX3_comeBack 75 = .ok (.iload_n 2, 1) := by decide +kernel
theorem dX3_comeBack_76 : decode cX3_comeBack 76 = .ok (.imul, 1) := by decide +kernel
theorem dX3_comeBack_77 : decode cX3_comeBack 77 = .ok (.aload_n 0, 1) := by decide +kernel
theorem dX3_comeBack_78 : decode cX3_comeBack 78 = .ok (.getfield 31, 3) := by decide +kernel
theorem dX3_comeBack_81 : decode cX3_comeBack 81 = .ok (.iload_n 2, 1) := by decide +kernel
theorem dX3_comeBack_82 : decode cX3_comeBack 82 = .ok (.iaload, 1) := by decide +kernel
theorem dX3_comeBack_83 : decode cX3_comeBack 83 = .ok (.iadd, 1) := by decide +kernel
theorem dX3_comeBack_84 : decode cX3_comeBack 84 = .ok (.iaload, 1) := by decide +kernel
theorem dX3_comeBack_85 : decode cX3_comeBack 85 = .ok (.iastore, 1) := by decide +kernel
theorem dX3_comeBack_86 : decode cX3_comeBack 86 = .ok (.aload_n 0, 1) := by decide +kernel
theorem dX3_comeBack_87 : decode cX3_comeBack 87 = .ok (.aload_n 0, 1) := by decide +kernel
theorem dX3_comeBack_88 : decode cX3_comeBack 88 = .ok (.getfield 28, 3) := by decide +kernel
theorem dX3_comeBack_91 : decode cX3_comeBack 91 = .ok (.iload_n 2, 1) := by decide +kernel
theorem dX3_comeBack_92 : decode cX3_comeBack 92 = .ok (.iaload, 1) := by decide +kernel
theorem dX3_comeBack_93 : decode cX3_comeBack 93 = .ok (.iload_n 2, 1) := by decide +kernel
theorem dX3_comeBack_94 : decode cX3_comeBack 94 = .ok (.invokevirtual 99, 3) := by decide +kernel
theorem dX3_comeBack_97 : decode cX3_comeBack 97 = .ok (.iinc 2 1, 3) := by decide +kernel
theorem dX3_comeBack_100 : decode cX3_comeBack 100 = .ok (.goto (-98), 3) := by decide +kernel
theorem dX3_comeBack_103 : decode cX3_comeBack 103 = .ok (.return_, 1) := by decide +kernel
theorem dX3_firstLevel_0 : decode cX3_firstLevel 0 = .ok (.iconst 0, 1) := by decide +kernel
theorem dX3_firstLevel_1 : decode cX3_firstLevel 1 = .ok (.istore_n 1, 1) := by decide +kernel
theorem dX3_firstLevel_2 : decode cX3_firstLevel 2 = .ok (.iload_n 1, 1) := by decide +kernel
theorem dX3_firstLevel_3 : decode cX3_firstLevel 3 = .ok (.aload_n 0, 1) := by decide +kernel
theorem dX3_firstLevel_4 : decode cX3_firstLevel 4 = .ok (.getfield 73, 3) := by decide +kernel
theorem dX3_firstLevel_7 : decode cX3_firstLevel 7 = .ok (.if_icmp .ge 20, 3) := by decide +kernel
theorem dX3_firstLevel_10 : decode cX3_firstLevel 10 = .ok (.aload_n 0, 1) := by decide +kernel
theorem dX3_firstLevel_11 : decode cX3_firstLevel 11 = .ok (.getfield 56, 3) := by decide +kernel
theorem dX3_firstLevel_14 : decode cX3_firstLevel 14 = .ok (.iload_n 1, 1) := by decide +kernel
theorem dX3_firstLevel_15 : decode cX3_firstLevel 15 = .ok (.iaload, 1) := by decide +kernel
theorem dX3_firstLevel_16 : decode cX3_firstLevel 16 = .ok (.ifCond .le 5, 3) := by decide +kernel
theorem dX3_firstLevel_19 : decode cX3_firstLevel 19 = .ok (.iload_n 1, 1) := by decide +kernel
theorem dX3_firstLevel_20 : decode cX3_firstLevel 20 = .ok (.ireturn, 1) := by decide +kernel
theorem dX3_firstLevel_21 : decode cX3_firstLevel 21 = .ok (.iinc 1 1, 3) := by decide +kernel
theorem dX3_firstLevel_24 : decode cX3_firstLevel 24 = .ok (.goto (-22), 3) := by decide +kernel
theorem dX3_firstLevel_27 : decode cX3_firstLevel 27 = .ok (.iconst (-1), 1) := by decide +kernel
theorem dX3_firstLevel_28 : decode cX3_firstLevel 28 = .ok (.ireturn, 1) := by decide +kernel
set_option maxRecDepth 20000 in
theorem ggX3_choose_X3_firstLevel : GoodIn wsX3_choose wsX3_firstLevel := goodIn_r _ [14, 15, 16, 26, 27, 28, 29, 30, 31, 32, 33, 34, 35, 36, 37, 38, 39, 40, 41, 42, 43, 44, 45, 46, 47, 48, 49] (by decide +kernel) (by decide +kernel)
set_option maxRecDepth 20000 in
theorem gX3_choose_X3_firstLevel : GoodIn wsX3_choose (wsV RX3 106 RX3 yX3_firstLevel wsX3_firstLevel) := goodIn_app (goodIn_of _ (by decide +kernel)) ggX3_choose_X3_firstLevel
set_option maxRecDepth 20000 in
theorem ggX3_choose_X3_toFront : GoodIn wsX3_choose wsX3_toFront := goodIn_r _ [20, 16, 21, 5, 26, 27, 28, 29, 30, 31, 32, 33, 34, 35, 36, 37, 38, 39, 40, 41, 42, 43, 44, 45, 46, 47, 48, 49] (by decide +kernel) (by decide +kernel)
set_option maxRecDepth 20000 in
theorem gX3_choose_X3_toFront : GoodIn wsX3_choose (wsV RX3 110 RX3 yX3_toFront wsX3_toFront) := goodIn_app (goodIn_of _ (by decide +kernel)) ggX3_choose_X3_toFront
set_option maxRecDepth 20000 in
theorem ggX3_choose_X3_takeFirst : GoodIn wsX3_choose wsX3_takeFirst := goodIn_r _ [25, 21, 16, 26, 27, 28, 29, 30, 31, 32, 33, 34, 35, 36, 37, 38, 39, 40, 41, 42, 43, 44, 45, 46, 47, 48, 49] (by decide +kernel) (by decide +kernel)
set_option maxRecDepth 20000 in
theorem gX3_choose_X3_takeFirst : GoodIn wsX3_choose (wsV RX3 95 RX3 yX3_takeFirst wsX3_takeFirst) := goodIn_app (goodIn_of _ (by decide +kernel)) ggX3_choose_X3_takeFirst
theorem dX3_choose_0 : decode cX3_choose 0 = .ok (.aload_n 0, 1) := by decide +kernel
theorem dX3_choose_1 : decode cX3_choose 1 = .ok (.invokevirtual 106, 3) := by decide +kernel
theorem dX3_choose_4 : decode cX3_choose 4 = .ok (.istore_n 2, 1) := by decide +kernel
theorem dX3_choose_5 : decode cX3_choose 5 = .ok (.aload_n 0, 1) := by decide +kernel
theorem dX3_choose_6 : decode cX3_choose 6 = .ok (.getfield 85, 3) := by decide +kernel
theorem dX3_choose_9 : decode cX3_choose 9 = .ok (.ifCond .lt 71, 3) := by decide +kernel
theorem dX3_choose_12 : decode cX3_choose 12 = .ok (.iload_n 2, 1) := by decide +kernel
theorem dX3_choose_13 : decode cX3_choose 13 = .ok (.ifCond .lt 67, 3) := by decide +kernel
theorem dX3_choose_16 : decode cX3_choose 16 = .ok (.iload_n 2, 1) := by decide +kernel
theorem dX3_choose_17 : decode cX3_choose 17 = .ok (.aload_n 0, 1) := by decide +kernel
theorem dX3_choose_18 : decode cX3_choose 18 = .ok (.getfield 28, 3) := by decide +kernel
theorem dX3_choose_21 : decode cX3_choose 21 = .ok (.aload_n 0, 1) := by decide +kernel
theorem dX3_choose_22 : decode cX3_choose 22 = .ok (.getfield 85, 3) := by decide +kernel
theorem dX3_choose_25 : decode cX3_choose 25 = .ok (.iaload, 1) := by decide +kernel
theorem dX3_choose_26 : decode cX3_choose 26 = .ok (.if_icmp .ge 54, 3) := by decide +kernel
theorem dX3_choose_29 : decode cX3_choose 29 = .ok (.aload_n 0, 1) := by decide +kernel
theorem dX3_choose_30 : decode cX3_choose 30 = .ok (.getfield 43, 3) := by decide +kernel
theorem dX3_choose_33 : decode cX3_choose 33 = .ok (.aload_n 0, 1) := by decide +kernel
theorem dX3_choose_34 : decode cX3_choose 34 = .ok (.getfield 85, 3) := by decide +kernel
theorem dX3_choose_37 : decode cX3_choose 37 = .ok (.iconst 1, 1) := by decide +kernel
theorem dX3_choose_38 : decode cX3_choose 38 = .ok (.bastore, 1) := by decide +kernel
theorem dX3_choose_39 : decode cX3_choose 39 = .ok (.aload_n 0, 1) := by decide +kernel
theorem dX3_choose_40 : decode cX3_choose 40 = .ok (.getfield 50, 3) := by decide +kernel
theorem dX3_choose_43 : decode cX3_choose 43 = .ok (.bipush 10, 2) := by decide +kernel
theorem dX3_choose_45 : decode cX3_choose 45 = .ok (.aload_n 0, 1) := by decide +kernel
theorem dX3_choose_46 : decode cX3_choose 46 = .ok (.getfield 85, 3) := by decide +kernel
theorem dX3_choose_49 : decode cX3_choose 49 = .ok (.imul, 1) := by decide +kernel
theorem dX3_choose_50 : decode cX3_choose 50 = .ok (.bipush 9, 2) := by decide +kernel
theorem dX3_choose_52 : decode cX3_choose 52 = .ok (.iadd, 1) := by decide +kernel
theorem dX3_choose_53 : decode cX3_choose 53 = .ok (.dup2, 1) := by decide +kernel
theorem dX3_choose_54 : decode cX3_choose 54 = .ok (.iaload, 1) := by decide +kernel
theorem dX3_choose_55 : decode cX3_choose 55 = .ok (.iconst 1, 1) := by decide +kernel
theorem dX3_choose_56 : decode cX3_choose 56 = .ok (.iadd, 1) := by decide +kernel
theorem dX3_choose_57 : decode cX3_choose 57 = .ok (.iastore, 1) := by decide +kernel
theorem dX3_choose_58 : decode cX3_choose 58 = .ok (.aload_n 0, 1) := by decide +kernel
theorem dX3_choose_59 : decode cX3_choose 59 = .ok (.aload_n 0, 1) := by decide +kernel
theorem dX3_choose_60 : decode cX3_choose 60 = .ok (.getfield 28, 3) := by decide +kernel
theorem dX3_choose_63 : decode cX3_choose 63 = .ok (.aload_n 0, 1) := by decide +kernel
theorem dX3_choose_64 : decode cX3_choose 64 = .ok (.getfield 85, 3) := by decide +kernel
theorem dX3_choose_67 : decode cX3_choose 67 = .ok (.iaload, 1) := by decide +kernel
theorem dX3_choose_68 : decode cX3_choose 68 = .ok (.aload_n 0, 1) := by decide +kernel
theorem dX3_choose_69 : decode cX3_choose 69 = .ok (.getfield 85, 3) := by decide +kernel
theorem dX3_choose_72 : decode cX3_choose 72 = .ok (.invokevirtual 110, 3) := by decide +kernel
theorem dX3_choose_75 : decode cX3_choose 75 = .ok (.aload_n 0, 1) := by decide +kernel
theorem dX3_choose_76 : decode cX3_choose 76 = .ok (.iconst (-1), 1) := by decide +kernel
theorem dX3_choose_77 : decode cX3_choose 77 = .ok (.putfield 85, 3) := by decide +kernel
theorem dX3_choose_80 : decode cX3_choose 80 = .ok (.aload_n 0, 1) := by decide +kernel
theorem dX3_choose_81 : decode cX3_choose 81 = .ok (.getfield 85, 3) := by decide +kernel
theorem dX3_choose_84 : decode cX3_choose 84 = .ok (.ifCond .ge 7, 3) := by decide +kernel
theorem dX3_choose_87 : decode cX3_choose 87 = .ok (.iload_n 2, 1) := by decide +kernel
theorem dX3_choose_88 : decode cX3_choose 88 = .ok (.ifCond .ge 4, 3) := by decide +kernel
theorem dX3_choose_91 : decode cX3_choose 91 = .ok (.return_, 1) := by decide +kernel
theorem dX3_choose_92 : decode cX3_choose 92 = .ok (.aload_n 0, 1) := by decide +kernel
theorem dX3_choose_93 : decode cX3_choose 93 = .ok (.iload_n 2, 1) := by decide +kernel
theorem dX3_choose_94 : decode cX3_choose 94 = .ok (.invokevirtual 95, 3) := by decide +kernel
theorem dX3_choose_97 : decode cX3_choose 97 = .ok (.istore_n 3, 1) := by decide +kernel
theorem dX3_choose_98 : decode cX3_choose 98 = .ok (.aload_n 0, 1) := by decide +kernel
theorem dX3_choose_99 : decode cX3_choose 99 = .ok (.iload_n 3, 1) := by decide +kernel
theorem dX3_choose_100 : decode cX3_choose 100 = .ok (.putfield 85, 3) := by decide +kernel
theorem dX3_choose_103 : decode cX3_choose 103 = .ok (.aload_n 0, 1) := by decide +kernel
theorem dX3_choose_104 : decode cX3_choose 104 = .ok (.getfield 25, 3) := by decide +kernel
theorem dX3_choose_107 : decode cX3_choose 107 = .ok (.iload_n 3, 1) := by decide +kernel
theorem dX3_choose_108 : decode cX3_choose 108 = .ok (.iconst 2, 1) := by decide +kernel
theorem dX3_choose_109 : decode cX3_choose 109 = .ok (.iastore, 1) := by decide +kernel
theorem dX3_choose_110 : decode cX3_choose 110 = .ok (.aload_n 0, 1) := by decide +kernel
theorem dX3_choose_111 : decode cX3_choose 111 = .ok (.getfield 37, 3) := by decide +kernel
theorem dX3_choose_114 : decode cX3_choose 114 = .ok (.iload_n 3, 1) := by decide +kernel
theorem dX3_choose_115 : decode cX3_choose 115 = .ok (.aload_n 0, 1) := by decide +kernel
theorem dX3_choose_116 : decode cX3_choose 116 = .ok (.getfield 43, 3) := by decide +kernel
theorem dX3_choose_119 : decode cX3_choose 119 = .ok (.iload_n 3, 1) := by decide +kernel
theorem dX3_choose_120 : decode cX3_choose 120 = .ok (.baload, 1) := by decide +kernel
theorem dX3_choose_121 : decode cX3_choose 121 = .ok (.ifCond .eq 12, 3) := by decide +kernel
theorem dX3_choose_124 : decode cX3_choose 124 = .ok (.aload_n 0, 1) := by decide +kernel
theorem dX3_choose_125 : decode cX3_choose 125 = .ok (.getfield 37, 3) := by decide +kernel
theorem dX3_choose_128 : decode cX3_choose 128 = .ok (.iload_n 3, 1) := by decide +kernel
theorem dX3_choose_129 : decode cX3_choose 129 = .ok (.iaload, 1) := by decide +kernel
theorem dX3_choose_130 : decode cX3_choose 130 = .ok (.goto 14, 3) := by decide +kernel
theorem dX3_choose_133 : decode cX3_choose 133 = .ok (.aload_n 0, 1) := by decide +kernel
theorem dX3_choose_134 : decode cX3_choose 134 = .ok (.getfield 7, 3) := by decide +kernel
theorem dX3_choose_137 : decode cX3_choose 137 = .ok (.aload_n 0, 1) := by decide +kernel
theorem dX3_choose_138 : decode cX3_choose 138 = .ok (.getfield 28, 3) := by decide +kernel
theorem dX3_choose_141 : decode cX3_choose 141 = .ok (.iload_n 3, 1) := by decide +kernel
theorem dX3_choose_142 : decode cX3_choose 142 = .ok (.iaload, 1) := by decide +kernel
theorem dX3_choose_143 : decode cX3_choose 143 = .ok (.iaload, 1) := by decide +kernel
theorem dX3_choose_144 : decode cX3_choose 144 = .ok (.iastore, 1) := by decide +kernel
theorem dX3_choose_145 : decode cX3_choose 145 = .ok (.aload_n 0, 1) := by decide +kernel
theorem dX3_choose_146 : decode cX3_choose 146 = .ok (.getfield 43, 3) := by decide +kernel
theorem dX3_choose_149 : decode cX3_choose 149 = .ok (.iload_n 3, 1) := by decide +kernel
theorem dX3_choose_150 : decode cX3_choose 150 = .ok (.iconst 0, 1) := by decide +kernel
theorem dX3_choose_151 : decode cX3_choose 151 = .ok (.bastore, 1) := by decide +kernel
theorem dX3_choose_152 : decode cX3_choose 152 = .ok (.aload_n 0, 1) := by decide +kernel
theorem dX3_choose_153 : decode cX3_choose 153 = .ok (.getfield 50, 3) := by decide +kernel
theorem dX3_choose_156 : decode cX3_choose 156 = .ok (.bipush 10, 2) := by decide +kernel
theorem dX3_choose_158 : decode cX3_choose 158 = .ok (.iload_n 3, 1) := by decide +kernel
theorem dX3_choose_159 : decode cX3_choose 159 = .ok (.imul, 1) := by decide +kernel
theorem dX3_choose_160 : decode cX3_choose 160 = .ok (.bipush 7, 2) := by decide +kernel
theorem dX3_choose_162 : decode cX3_choose 162 = .ok (.iadd, 1) := by decide +kernel
theorem dX3_choose_163 : decode cX3_choose 163 = .ok (.dup2, 1) := by decide +kernel
theorem dX3_choose_164 : decode cX3_choose 164 = .ok (.iaload, 1) := by decide +kernel
theorem dX3_choose_165 : decode cX3_choose 165 = .ok (.iconst 1, 1) := by decide +kernel
theorem dX3_choose_166 : decode cX3_choose 166 = .ok (.iadd, 1) := by decide +kernel
theorem dX3_choose_167 : decode cX3_choose 167 = .ok (.iastore, 1) := by decide +kernel
theorem dX3_choose_168 : decode cX3_choose 168 = .ok (.aload_n 0, 1) := by decide +kernel
theorem dX3_choose_169 : decode cX3_choose 169 = .ok (.getfield 50, 3) := by decide +kernel
theorem dX3_choose_172 : decode cX3_choose 172 = .ok (.bipush 10, 2) := by decide +kernel
theorem dX3_choose_174 : decode cX3_choose 174 = .ok (.iload_n 3, 1) := by decide +kernel
theorem dX3_choose_175 : decode cX3_choose 175 = .ok (.imul, 1) := by decide +kernel
theorem dX3_choose_176 : decode cX3_choose 176 = .ok (.iconst 5, 1) := by decide +kernel
theorem dX3_choose_177 : decode cX3_choose 177 = .ok (.iadd, 1) := by decide +kernel
theorem dX3_choose_178 : decode cX3_choose 178 = .ok (.aload_n 0, 1) := by decide +kernel
theorem dX3_choose_179 : decode cX3_choose 179 = .ok (.getfield 50, 3) := by decide +kernel
theorem dX3_choose_182 : decode cX3_choose 182 = .ok (.bipush 10, 2) := by decide +kernel
theorem dX3_choose_184 : decode cX3_choose 184 = .ok (.iload_n 3, 1) := by decide +kernel
theorem dX3_choose_185 : decode cX3_choose 185 = .ok (.imul, 1) := by decide +kernel
theorem dX3_choose_186 : decode cX3_choose 186 = .ok (.iconst 5, 1) := by decide +kernel
theorem dX3_choose_187 : decode cX3_choose 187 = .ok (.iadd, 1) := by decide +kernel
theorem dX3_choose_188 : decode cX3_choose 188 = .ok (.iaload, 1) := by decide +kernel
theorem dX3_choose_189 : decode cX3_choose 189 = .ok (.ifCond .ge 7, 3) := by decide +kernel
theorem dX3_choose_192 : decode cX3_choose 192 = .ok (.iload_n 1, 1) := by decide +kernel
theorem dX3_choose_193 : decode cX3_choose 193 = .ok (.goto 14, 3) := by decide +kernel
theorem dX3_choose_196 : decode cX3_choose 196 = .ok (.aload_n 0, 1) := by decide +kernel
theorem dX3_choose_197 : decode cX3_choose 197 = .ok (.getfield 50, 3) := by decide +kernel
theorem dX3_choose_200 : decode cX3_choose 200 = .ok (.bipush 10, 2) := by decide +kernel
theorem dX3_choose_202 : decode cX3_choose 202 = .ok (.iload_n 3, 1) := by decide +kernel
theorem dX3_choose_203 : decode cX3_choose 203 = .ok (.imul, 1) := by decide +kernel
theorem dX3_choose_204 : decode cX3_choose 204 = .ok (.iconst 5, 1) := by decide +kernel
theorem dX3_choose_205 : decode cX3_choose 205 = .ok (.iadd, 1) := by decide +kernel
theorem dX3_choose_206 : decode cX3_choose 206 = .ok (.iaload, 1) := by decide +kernel
theorem dX3_choose_207 : decode cX3_choose 207 = .ok (.iastore, 1) := by decide +kernel
theorem dX3_choose_208 : decode cX3_choose 208 = .ok (.aload_n 0, 1) := by decide +kernel
theorem dX3_choose_209 : decode cX3_choose 209 = .ok (.getfield 59, 3) := by decide +kernel
theorem dX3_choose_212 : decode cX3_choose 212 = .ok (.iconst 0, 1) := by decide +kernel
theorem dX3_choose_213 : decode cX3_choose 213 = .ok (.iaload, 1) := by decide +kernel
theorem dX3_choose_214 : decode cX3_choose 214 = .ok (.sipush 400, 3) := by decide +kernel
theorem dX3_choose_217 : decode cX3_choose 217 = .ok (.if_icmp .ge 20, 3) := by decide +kernel
theorem dX3_choose_220 : decode cX3_choose 220 = .ok (.aload_n 0, 1) := by decide +kernel
theorem dX3_choose_221 : decode cX3_choose 221 = .ok (.getfield 62, 3) := by decide +kernel
theorem dX3_choose_224 : decode cX3_choose 224 = .ok (.aload_n 0, 1) := by decide +kernel
theorem dX3_choose_225 : decode cX3_choose 225 = .ok (.getfield 59, 3) := by decide +kernel
theorem dX3_choose_228 : decode cX3_choose 228 = .ok (.iconst 0, 1) := by decide +kernel
theorem dX3_choose_229 : decode cX3_choose 229 = .ok (.iaload, 1) := by decide +kernel
theorem dX3_choose_230 : decode cX3_choose 230 = .ok (.bipush 16, 2) := by decide +kernel
theorem dX3_choose_232 : decode cX3_choose 232 = .ok (.iload_n 1, 1) := by decide +kernel
theorem dX3_choose_233 : decode cX3_choose 233 = .ok (.imul, 1) := by decide +kernel
theorem dX3_choose_234 : decode cX3_choose 234 = .ok (.iload_n 3, 1) := by decide +kernel
theorem dX3_choose_235 : decode cX3_choose 235 = .ok (.iadd, 1) := by decide +kernel
theorem dX3_choose_236 : decode cX3_choose 236 = .ok (.iastore, 1) := by decide +kernel
theorem dX3_choose_237 : decode cX3_choose 237 = .ok (.aload_n 0, 1) := by decide +kernel
theorem dX3_choose_238 : decode cX3_choose 238 = .ok (.getfield 59, 3) := by decide +kernel
theorem dX3_choose_241 : decode cX3_choose 241 = .ok (.iconst 0, 1) := by decide +kernel
theorem dX3_choose_242 : decode cX3_choose 242 = .ok (.dup2, 1) := by decide +kernel
theorem dX3_choose_243 : decode cX3_choose 243 = .ok (.iaload, 1) := by decide +kernel
theorem dX3_choose_244 : decode cX3_choose 244 = .ok (.iconst 1, 1) := by decide +kernel
theorem dX3_choose_245 : decode cX3_choose 245 = .ok (.iadd, 1) := by decide +kernel
theorem dX3_choose_246 : decode cX3_choose 246 = .ok (.iastore, 1) := by decide +kernel
theorem dX3_choose_247 : decode cX3_choose 247 = .ok (.return_, 1) := by decide +kernel
set_option maxRecDepth 20000 in
theorem ggX3_work_X3_end : GoodIn wsX3_work wsX3_end := goodIn_r _ [18, 8, 2, 19, 26, 27, 28, 29, 30, 31, 32, 33, 34, 35, 36, 37, 38, 39, 40, 41, 42, 43, 44, 45, 46, 47, 48, 49] (by decide +kernel) (by decide +kernel)
set_option maxRecDepth 20000 in
theorem gX3_work_X3_end : GoodIn wsX3_work (wsV RX3 103 RX3 yX3_end wsX3_end) := goodIn_app (goodIn_of _ (by decide +kernel)) ggX3_work_X3_end
set_option maxRecDepth 20000 in
theorem ggX3_work_X3_toEnd : GoodIn wsX3_work wsX3_toEnd := goodIn_r _ [23, 24, 25, 8, 26, 27, 28, 29, 30, 31, 32, 33, 34, 35, 36, 37, 38, 39, 40, 41, 42, 43, 44, 45, 46, 47, 48, 49] (by decide +kernel) (by decide +kernel)
set_option maxRecDepth 20000 in
theorem gX3_work_X3_toEnd : GoodIn wsX3_work (wsV RX3 99 RX3 yX3_toEnd wsX3_toEnd) := goodIn_app (goodIn_of _ (by decide +kernel)) ggX3_work_X3_toEnd
theorem dX3_work_0 : decode cX3_work 0 = .ok (.aload_n 0, 1) := by decide +kernel
theorem dX3_work_1 : decode cX3_work 1 = .ok (.getfield 85, 3) := by decide +kernel
theorem dX3_work_4 : decode cX3_work 4 = .ok (.istore_n 2, 1) := by decide +kernel
theorem dX3_work_5 : decode cX3_work 5 = .ok (.aload_n 0, 1) := by decide +kernel
theorem dX3_work_6 : decode cX3_work 6 = .ok (.getfield 50, 3) := by decide +kernel
theorem dX3_work_9 : decode cX3_work 9 = .ok (.bipush 10, 2) := by decide +kernel
theorem dX3_work_11 : decode cX3_work 11 = .ok (.iload_n 2, 1) := by decide +kernel
theorem dX3_work_12 : decode cX3_work 12 = .ok (.imul, 1) := by decide +kernel
theorem dX3_work_13 : decode cX3_work 13 = .ok (.iconst 2, 1) := by decide +kernel
theorem dX3_work_14 : decode cX3_work 14 = .ok (.iadd, 1) := by decide +kernel
theorem dX3_work_15 : decode cX3_work 15 = .ok (.dup2, 1) := by decide +kernel
theorem dX3_work_16 : decode cX3_work 16 = .ok (.iaload, 1) := by decide +kernel
theorem dX3_work_17 : decode cX3_work 17 = .ok (.iconst 1, 1) := by decide +kernel
theorem dX3_work_18 : decode cX3_work 18 = .ok (.iadd, 1) := by decide +kernel
theorem dX3_work_19 : decode cX3_work 19 = .ok (.iastore, 1) := by decide +kernel
theorem dX3_work_20 : decode cX3_work 20 = .ok (.aload_n 0, 1) := by decide +kernel
theorem dX3_work_21 : decode cX3_work 21 = .ok (.getfield 34, 3) := by decide +kernel
theorem dX3_work_24 : decode cX3_work 24 = .ok (.iload_n 2, 1) := by decide +kernel
theorem dX3_work_25 : decode cX3_work 25 = .ok (.dup2, 1) := by decide +kernel
theorem dX3_work_26 : decode cX3_work 26 = .ok (.iaload, 1) := by decide +kernel
theorem dX3_work_27 : decode cX3_work 27 = .ok (.iconst 1, 1) := by decide +kernel
theorem dX3_work_28 : decode cX3_work 28 = .ok (.isub, 1) := by decide +kernel
theorem dX3_work_29 : decode cX3_work 29 = .ok (.iastore, 1) := by decide +kernel
theorem dX3_work_30 : decode cX3_work 30 = .ok (.aload_n 0, 1) := by decide +kernel
theorem dX3_work_31 : decode cX3_work 31 = .ok (.getfield 37, 3) := by decide +kernel
theorem dX3_work_34 : decode cX3_work 34 = .ok (.iload_n 2, 1) := by decide +kernel
theorem dX3_work_35 : decode cX3_work 35 = .ok (.dup2, 1) := by decide +kernel
theorem dX3_work_36 : decode cX3_work 36 = .ok (.iaload, 1) := by decide +kernel
theorem dX3_work_37 : decode cX3_work 37 = .ok (.iconst 1, 1) := by decide +kernel
theorem dX3_work_38 : decode cX3_work 38 = .ok (.isub, 1) := by decide +kernel
theorem dX3_work_39 : decode cX3_work 39 = .ok (.iastore, 1) := by decide +kernel
theorem dX3_work_40 : decode cX3_work 40 = .ok (.aload_n 0, 1) := by decide +kernel
theorem dX3_work_41 : decode cX3_work 41 = .ok (.getfield 40, 3) := by decide +kernel
theorem dX3_work_44 : decode cX3_work 44 = .ok (.iload_n 2, 1) := by decide +kernel
theorem dX3_work_45 : decode cX3_work 45 = .ok (.dup2, 1) := by decide +kernel
theorem dX3_work_46 : decode cX3_work 46 = .ok (.iaload, 1) := by decide +kernel
theorem dX3_work_47 : decode cX3_work 47 = .ok (.iconst 1, 1) := by decide +kernel
theorem dX3_work_48 : decode cX3_work 48 = .ok (.isub, 1) := by decide +kernel
theorem dX3_work_49 : decode cX3_work 49 = .ok (.iastore, 1) := by decide +kernel
theorem dX3_work_50 : decode cX3_work 50 = .ok (.aload_n 0, 1) := by decide +kernel
theorem dX3_work_51 : decode cX3_work 51 = .ok (.getfield 34, 3) := by decide +kernel
theorem dX3_work_54 : decode cX3_work 54 = .ok (.iload_n 2, 1) := by decide +kernel
theorem dX3_work_55 : decode cX3_work 55 = .ok (.iaload, 1) := by decide +kernel
theorem dX3_work_56 : decode cX3_work 56 = .ok (.ifCond .ne 80, 3) := by decide +kernel
theorem dX3_work_59 : decode cX3_work 59 = .ok (.aload_n 0, 1) := by decide +kernel
theorem dX3_work_60 : decode cX3_work 60 = .ok (.iconst (-1), 1) := by decide +kernel
theorem dX3_work_61 : decode cX3_work 61 = .ok (.putfield 85, 3) := by decide +kernel
theorem dX3_work_64 : decode cX3_work 64 = .ok (.aload_n 0, 1) := by decide +kernel
theorem dX3_work_65 : decode cX3_work 65 = .ok (.getfield 31, 3) := by decide +kernel
theorem dX3_work_68 : decode cX3_work 68 = .ok (.iload_n 2, 1) := by decide +kernel
theorem dX3_work_69 : decode cX3_work 69 = .ok (.dup2, 1) := by decide +kernel
theorem dX3_work_70 : decode cX3_work 70 = .ok (.iaload, 1) := by decide +kernel
theorem dX3_work_71 : decode cX3_work 71 = .ok (.iconst 1, 1) := by decide +kernel
theorem dX3_work_72 : decode cX3_work 72 = .ok (.iadd, 1) := by decide +kernel
theorem dX3_work_73 : decode cX3_work 73 = .ok (.iastore, 1) := by decide +kernel
theorem dX3_work_74 : decode cX3_work 74 = .ok (.aload_n 0, 1) := by decide +kernel
theorem dX3_work_75 : decode cX3_work 75 = .ok (.getfield 31, 3) := by decide +kernel
theorem dX3_work_78 : decode cX3_work 78 = .ok (.iload_n 2, 1) := by decide +kernel
theorem dX3_work_79 : decode cX3_work 79 = .ok (.iaload, 1) := by decide +kernel
theorem dX3_work_80 : decode cX3_work 80 = .ok (.aload_n 0, 1) := by decide +kernel
theorem dX3_work_81 : decode cX3_work 81 = .ok (.getfield 19, 3) := by decide +kernel
theorem dX3_work_84 : decode cX3_work 84 = .ok (.iload_n 2, 1) := by decide +kernel
theorem dX3_work_85 : decode cX3_work 85 = .ok (.iaload, 1) := by decide +kernel
theorem dX3_work_86 : decode cX3_work 86 = .ok (.if_icmp .ne 14, 3) := by decide +kernel
theorem dX3_work_89 : decode cX3_work 89 = .ok (.aload_n 0, 1) := by decide +kernel
theorem dX3_work_90 : decode cX3_work 90 = .ok (.iload_n 2, 1) := by decide +kernel
theorem dX3_work_91 : decode cX3_work 91 = .ok (.iload_n 1, 1) := by decide +kernel
theorem dX3_work_92 : decode cX3_work 92 = .ok (.iconst 1, 1) := by decide +kernel
theorem dX3_work_93 : decode cX3_work 93 = .ok (.iadd, 1) := by decide +kernel
theorem dX3_work_94 : decode cX3_work 94 = .ok (.invokevirtual 103, 3) := by decide +kernel
theorem dX3_work_97 : decode cX3_work 97 = .ok (.goto 150, 3) := by decide +kernel
theorem dX3_work_100 : decode cX3_work 100 = .ok (.aload_n 0, 1) := by decide +kernel
theorem dX3_work_101 : decode cX3_work 101 = .ok (.getfield 25, 3) := by decide +kernel
theorem dX3_work_104 : decode cX3_work 104 = .ok (.iload_n 2, 1) := by decide +kernel
theorem dX3_work_105 : decode cX3_work 105 = .ok (.iconst 3, 1) := by decide +kernel
theorem dX3_work_106 : decode cX3_work 106 = .ok (.iastore, 1) := by decide +kernel
theorem dX3_work_107 : decode cX3_work 107 = .ok (.aload_n 0, 1) := by decide +kernel
theorem dX3_work_108 : decode cX3_work 108 = .ok (.getfield 47, 3) := by decide +kernel
theorem dX3_work_111 : decode cX3_work 111 = .ok (.iload_n 2, 1) := by decide +kernel
theorem dX3_work_112 : decode cX3_work 112 = .ok (.iload_n 1, 1) := by decide +kernel
theorem dX3_work_113 : decode cX3_work 113 = .ok (.iconst 1, 1) := by decide +kernel
theorem dX3_work_114 : decode cX3_work 114 = .ok (.iadd, 1) := by decide +kernel
theorem dX3_work_115 : decode cX3_work 115 = .ok (.aload_n 0, 1) := by decide +kernel
theorem dX3_work_116 : decode cX3_work 116 = .ok (.getfield 22, 3) := by decide +kernel
theorem dX3_work_119 : decode cX3_work 119 = .ok (.bipush 12, 2) := by decide +kernel
theorem dX3_work_121 : decode cX3_work 121 = .ok (.iload_n 2, 1) := by decide +kernel
theorem dX3_work_122 : decode cX3_work 122 = .ok (.imul, 1) := by decide +kernel
theorem dX3_work_123 : decode cX3_work 123 = .ok (.aload_n 0, 1) := by decide +kernel
theorem dX3_work_124 : decode cX3_work 124 = .ok (.getfield 31, 3) := by decide +kernel
theorem dX3_work_127 : decode cX3_work 127 = .ok (.iload_n 2, 1) := by decide +kernel
theorem dX3_work_128 : decode cX3_work 128 = .ok (.iaload, 1) := by decide +kernel
theorem dX3_work_129 : decode cX3_work 129 = .ok (.iadd, 1) := by decide +kernel
theorem dX3_work_130 : decode cX3_work 130 = .ok (.iaload, 1) := by decide +kernel
theorem dX3_work_131 : decode cX3_work 131 = .ok (.iadd, 1) := by decide +kernel
theorem dX3_work_132 : decode cX3_work 132 = .ok (.iastore, 1) := by decide +kernel
theorem dX3_work_133 : decode cX3_work 133 = .ok (.goto 114, 3) := by decide +kernel
theorem dX3_work_136 : decode cX3_work 136 = .ok (.aload_n 0, 1) := by decide +kernel
theorem dX3_work_137 : decode cX3_work 137 = .ok (.getfield 40, 3) := by decide +kernel
theorem dX3_work_140 : decode cX3_work 140 = .ok (.iload_n 2, 1) := by decide +kernel
theorem dX3_work_141 : decode cX3_work 141 = .ok (.iaload, 1) := by decide +kernel
theorem dX3_work_142 : decode cX3_work 142 = .ok (.ifCond .gt 80, 3) := by decide +kernel
theorem dX3_work_145 : decode cX3_work 145 = .ok (.aload_n 0, 1) := by decide +kernel
theorem dX3_work_146 : decode cX3_work 146 = .ok (.iconst (-1), 1) := by decide +kernel
theorem dX3_work_147 : decode cX3_work 147 = .ok (.putfield 85, 3) := by decide +kernel
theorem dX3_work_150 : decode cX3_work 150 = .ok (.aload_n 0, 1) := by decide +kernel
theorem dX3_work_151 : decode cX3_work 151 = .ok (.getfield 28, 3) := by decide +kernel
theorem dX3_work_154 : decode cX3_work 154 = .ok (.iload_n 2, 1) := by decide +kernel
theorem dX3_work_155 : decode cX3_work 155 = .ok (.iaload, 1) := by decide +kernel
theorem dX3_work_156 : decode cX3_work 156 = .ok (.aload_n 0, 1) := by decide +kernel
theorem dX3_work_157 : decode cX3_work 157 = .ok (.getfield 73, 3) := by decide +kernel
theorem dX3_work_160 : decode cX3_work 160 = .ok (.iconst 1, 1) := by decide +kernel
theorem dX3_work_161 : decode cX3_work 161 = .ok (.isub, 1) := by decide +kernel
theorem dX3_work_162 : decode cX3_work 162 = .ok (.if_icmp .ge 29, 3) := by decide +kernel
theorem dX3_work_165 : decode cX3_work 165 = .ok (.aload_n 0, 1) := by decide +kernel
theorem dX3_work_166 : decode cX3_work 166 = .ok (.getfield 28, 3) := by decide +kernel
theorem dX3_work_169 : decode cX3_work 169 = .ok (.iload_n 2, 1) := by decide +kernel
theorem dX3_work_170 : decode cX3_work 170 = .ok (.dup2, 1) := by decide +kernel
theorem dX3_work_171 : decode cX3_work 171 = .ok (.iaload, 1) := by decide +kernel
theorem dX3_work_172 : decode cX3_work 172 = .ok (.iconst 1, 1) := by decide +kernel
theorem dX3_work_173 : decode cX3_work 173 = .ok (.iadd, 1) := by decide +kernel
theorem dX3_work_174 : decode cX3_work 174 = .ok (.iastore, 1) := by decide +kernel
theorem dX3_work_175 : decode cX3_work 175 = .ok (.aload_n 0, 1) := by decide +kernel
theorem dX3_work_176 : decode cX3_work 176 = .ok (.getfield 50, 3) := by decide +kernel
theorem dX3_work_179 : decode cX3_work 179 = .ok (.bipush 10, 2) := by decide +kernel
theorem dX3_work_181 : decode cX3_work 181 = .ok (.iload_n 2, 1) := by decide +kernel
theorem dX3_work_182 : decode cX3_work 182 = .ok (.imul, 1) := by decide +kernel
theorem dX3_work_183 : decode cX3_work 183 = .ok (.bipush 8, 2) := by decide +kernel
theorem dX3_work_185 : decode cX3_work 185 = .ok (.iadd, 1) := by decide +kernel
theorem dX3_work_186 : decode cX3_work 186 = .ok (.dup2, 1) := by decide +kernel
theorem dX3_work_187 : decode cX3_work 187 = .ok (.iaload, 1) := by decide +kernel
theorem dX3_work_188 : decode cX3_work 188 = .ok (.iconst 1, 1) := by decide +kernel
theorem dX3_work_189 : decode cX3_work 189 = .ok (.iadd, 1) := by decide +kernel
theorem dX3_work_190 : decode cX3_work 190 = .ok (.iastore, 1) := by decide +kernel
theorem dX3_work_191 : decode cX3_work 191 = .ok (.aload_n 0, 1) := by decide +kernel
theorem dX3_work_192 : decode cX3_work 192 = .ok (.getfield 40, 3) := by decide +kernel
theorem dX3_work_195 : decode cX3_work 195 = .ok (.iload_n 2, 1) := by decide +kernel
theorem dX3_work_196 : decode cX3_work 196 = .ok (.aload_n 0, 1) := by decide +kernel
theorem dX3_work_197 : decode cX3_work 197 = .ok (.getfield 13, 3) := by decide +kernel
theorem dX3_work_200 : decode cX3_work 200 = .ok (.aload_n 0, 1) := by decide +kernel
theorem dX3_work_201 : decode cX3_work 201 = .ok (.getfield 28, 3) := by decide +kernel
theorem dX3_work_204 : decode cX3_work 204 = .ok (.iload_n 2, 1) := by decide +kernel
theorem dX3_work_205 : decode cX3_work 205 = .ok (.iaload, 1) := by decide +kernel
theorem dX3_work_206 : decode cX3_work 206 = .ok (.iaload, 1) := by decide +kernel
theorem dX3_work_207 : decode cX3_work 207 = .ok (.iastore, 1) := by decide +kernel
theorem dX3_work_208 : decode cX3_work 208 = .ok (.aload_n 0, 1) := by decide +kernel
theorem dX3_work_209 : decode cX3_work 209 = .ok (.aload_n 0, 1) := by decide +kernel
theorem dX3_work_210 : decode cX3_work 210 = .ok (.getfield 28, 3) := by decide +kernel
theorem dX3_work_213 : decode cX3_work 213 = .ok (.iload_n 2, 1) := by decide +kernel
theorem dX3_work_214 : decode cX3_work 214 = .ok (.iaload, 1) := by decide +kernel
theorem dX3_work_215 : decode cX3_work 215 = .ok (.iload_n 2, 1) := by decide +kernel
theorem dX3_work_216 : decode cX3_work 216 = .ok (.invokevirtual 99, 3) := by decide +kernel
theorem dX3_work_219 : decode cX3_work 219 = .ok (.goto 28, 3) := by decide +kernel
theorem dX3_work_222 : decode cX3_work 222 = .ok (.aload_n 0, 1) := by decide +kernel
theorem dX3_work_223 : decode cX3_work 223 = .ok (.getfield 37, 3) := by decide +kernel
theorem dX3_work_226 : decode cX3_work 226 = .ok (.iload_n 2, 1) := by decide +kernel
theorem dX3_work_227 : decode cX3_work 227 = .ok (.iaload, 1) := by decide +kernel
theorem dX3_work_228 : decode cX3_work 228 = .ok (.ifCond .ne 19, 3) := by decide +kernel
theorem dX3_work_231 : decode cX3_work 231 = .ok (.aload_n 0, 1) := by decide +kernel
theorem dX3_work_232 : decode cX3_work 232 = .ok (.iconst (-1), 1) := by decide +kernel
theorem dX3_work_233 : decode cX3_work 233 = .ok (.putfield 85, 3) := by decide +kernel
theorem dX3_work_236 : decode cX3_work 236 = .ok (.aload_n 0, 1) := by decide +kernel
theorem dX3_work_237 : decode cX3_work 237 = .ok (.aload_n 0, 1) := by decide +kernel
theorem dX3_work_238 : decode cX3_work 238 = .ok (.getfield 28, 3) := by decide +kernel
theorem dX3_work_241 : decode cX3_work 241 = .ok (.iload_n 2, 1) := by decide +kernel
theorem dX3_work_242 : decode cX3_work 242 = .ok (.iaload, 1) := by decide +kernel
theorem dX3_work_243 : decode cX3_work 243 = .ok (.iload_n 2, 1) := by decide +kernel
theorem dX3_work_244 : decode cX3_work 244 = .ok (.invokevirtual 99, 3) := by decide +kernel
theorem dX3_work_247 : decode cX3_work 247 = .ok (.return_, 1) := by decide +kernel
theorem dX3_count_0 : decode cX3_count 0 = .ok (.iconst 0, 1) := by decide +kernel
theorem dX3_count_1 : decode cX3_count 1 = .ok (.istore_n 1, 1) := by decide +kernel
theorem dX3_count_2 : decode cX3_count 2 = .ok (.iload_n 1, 1) := by decide +kernel
theorem dX3_count_3 : decode cX3_count 3 = .ok (.aload_n 0, 1) := by decide +kernel
theorem dX3_count_4 : decode cX3_count 4 = .ok (.getfield 76, 3) := by decide +kernel
theorem dX3_count_7 : decode cX3_count 7 = .ok (.if_icmp .ge 62, 3) := by decide +kernel
theorem dX3_count_10 : decode cX3_count 10 = .ok (.aload_n 0, 1) := by decide +kernel
theorem dX3_count_11 : decode cX3_count 11 = .ok (.getfield 25, 3) := by decide +kernel
theorem dX3_count_14 : decode cX3_count 14 = .ok (.iload_n 1, 1) := by decide +kernel
theorem dX3_count_15 : decode cX3_count 15 = .ok (.iaload, 1) := by decide +kernel
theorem dX3_count_16 : decode cX3_count 16 = .ok (.iconst 1, 1) := by decide +kernel
theorem dX3_count_17 : decode cX3_count 17 = .ok (.if_icmp .ne 21, 3) := by decide +kernel
theorem dX3_count_20 : decode cX3_count 20 = .ok (.aload_n 0, 1) := by decide +kernel
theorem dX3_count_21 : decode cX3_count 21 = .ok (.getfield 50, 3) := by decide +kernel
theorem dX3_count_24 : decode cX3_count 24 = .ok (.bipush 10, 2) := by decide +kernel
theorem dX3_count_26 : decode cX3_count 26 = .ok (.iload_n 1, 1) := by decide +kernel
theorem dX3_count_27 : decode cX3_count 27 = .ok (.imul, 1) := by decide +kernel
theorem dX3_count_28 : decode cX3_count 28 = .ok (.iconst 3, 1) := by decide +kernel
theorem dX3_count_29 : decode cX3_count 29 = .ok (.iadd, 1) := by decide +kernel
theorem dX3_count_30 : decode cX3_count 30 = .ok (.dup2, 1) := by decide +kernel
theorem dX3_count_31 : decode cX3_count 31 = .ok (.iaload, 1) := by decide +kernel
theorem dX3_count_32 : decode cX3_count 32 = .ok (.iconst 1, 1) := by decide +kernel
theorem dX3_count_33 : decode cX3_count 33 = .ok (.iadd, 1) := by decide +kernel
theorem dX3_count_34 : decode cX3_count 34 = .ok (.iastore, 1) := by decide +kernel
theorem dX3_count_35 : decode cX3_count 35 = .ok (.goto 28, 3) := by decide +kernel
theorem dX3_count_38 : decode cX3_count 38 = .ok (.aload_n 0, 1) := by decide +kernel
theorem dX3_count_39 : decode cX3_count 39 = .ok (.getfield 25, 3) := by decide +kernel
theorem dX3_count_42 : decode cX3_count 42 = .ok (.iload_n 1, 1) := by decide +kernel
theorem dX3_count_43 : decode cX3_count 43 = .ok (.iaload, 1) := by decide +kernel
theorem dX3_count_44 : decode cX3_count 44 = .ok (.iconst 3, 1) := by decide +kernel
theorem dX3_count_45 : decode cX3_count 45 = .ok (.if_icmp .ne 18, 3) := by decide +kernel
theorem dX3_count_48 : decode cX3_count 48 = .ok (.aload_n 0, 1) := by decide +kernel
theorem dX3_count_49 : decode cX3_count 49 = .ok (.getfield 50, 3) := by decide +kernel
theorem dX3_count_52 : decode cX3_count 52 = .ok (.bipush 10, 2) := by decide +kernel
theorem dX3_count_54 : decode cX3_count 54 = .ok (.iload_n 1, 1) := by decide +kernel
theorem dX3_count_55 : decode cX3_count 55 = .ok (.imul, 1) := by decide +kernel
theorem dX3_count_56 : decode cX3_count 56 = .ok (.iconst 4, 1) := by decide +kernel
theorem dX3_count_57 : decode cX3_count 57 = .ok (.iadd, 1) := by decide +kernel
theorem dX3_count_58 : decode cX3_count 58 = .ok (.dup2, 1) := by decide +kernel
theorem dX3_count_59 : decode cX3_count 59 = .ok (.iaload, 1) := by decide +kernel
theorem dX3_count_60 : decode cX3_count 60 = .ok (.iconst 1, 1) := by decide +kernel
theorem dX3_count_61 : decode cX3_count 61 = .ok (.iadd, 1) := by decide +kernel
theorem dX3_count_62 : decode cX3_count 62 = .ok (.iastore, 1) := by decide +kernel
theorem dX3_count_63 : decode cX3_count 63 = .ok (.iinc 1 1, 3) := by decide +kernel
theorem dX3_count_66 : decode cX3_count 66 = .ok (.goto (-64), 3) := by decide +kernel
theorem dX3_count_69 : decode cX3_count 69 = .ok (.return_, 1) := by decide +kernel
end
section
set_option maxRecDepth 20000 in
theorem ggX3_run_X3_allUp : GoodIn wsX3_run wsX3_allUp := goodIn_r _ [11, 6, 12, 13, 14, 15, 16, 17, 18, 19, 20, 21, 5, 22, 23, 24, 10, 25, 26, 27, 28, 29, 30, 71, 72, 73, 74, 75, 76, 77, 78, 79, 80, 81, 82, 83, 84, 85, 86, 87, 88, 89, 90, 91, 92, 93, 94] (by decide +kernel) (by decide +kernel)
set_option maxRecDepth 20000 in
theorem gX3_run_X3_allUp : GoodIn wsX3_run (wsV RX3 114 RX3 yX3_allUp wsX3_allUp) := goodIn_app (goodIn_of _ (by decide +kernel)) ggX3_run_X3_allUp
set_option maxRecDepth 20000 in
theorem ggX3_run_X3_come : GoodIn wsX3_run wsX3_come := goodIn_r _ [34, 14, 35, 36, 16, 17, 18, 37, 38, 39, 40, 41, 10, 42, 15, 43, 6, 27, 28, 29, 30, 26, 13, 71, 72, 73, 74, 75, 76, 77, 78, 79, 80, 81, 82, 83, 84, 85, 86, 87, 88, 89, 90, 91, 92, 93, 94] (by decide +kernel) (by decide +kernel)
set_option maxRecDepth 20000 in
theorem gX3_run_X3_come : GoodIn wsX3_run (wsV RX3 117 RX3 yX3_come wsX3_come) := goodIn_app (goodIn_of _ (by decide +kernel)) ggX3_run_X3_come
set_option maxRecDepth 20000 in
theorem ggX3_run_X3_comeBack : GoodIn wsX3_run wsX3_comeBack := goodIn_r _ [47, 14, 15, 48, 49, 36, 37, 38, 16, 39, 40, 41, 10, 42, 43, 6, 27, 28, 29, 30, 26, 13, 71, 72, 73, 74, 75, 76, 77, 78, 79, 80, 81, 82, 83, 84, 85, 86, 87, 88, 89, 90, 91, 92, 93, 94] (by decide +kernel) (by decide +kernel)
set_option maxRecDepth 20000 in
theorem gX3_run_X3_comeBack : GoodIn wsX3_run (wsV RX3 120 RX3 yX3_comeBack wsX3_comeBack) := goodIn_app (goodIn_of _ (by decide +kernel)) ggX3_run_X3_comeBack
set_option maxRecDepth 20000 in
theorem ggX3_run_X3_choose : GoodIn wsX3_run wsX3_choose := goodIn_r _ [53, 5, 16, 19, 43, 15, 20, 21, 6, 54, 55, 56, 57, 10, 58, 12, 13, 59, 60, 61, 62, 26, 22, 23, 24, 25, 71, 72, 73, 74, 75, 76, 77, 78, 79, 80, 81, 82, 83, 84, 85, 86, 87, 88, 89, 90, 91, 92, 93, 94] (by decide +kernel) (by decide +kernel)
set_option maxRecDepth 20000 in
theorem gX3_run_X3_choose : GoodIn wsX3_run (wsV RX3 123 RX3 yX3_choose wsX3_choose) := goodIn_app (goodIn_of _ (by decide +kernel)) ggX3_run_X3_choose
set_option maxRecDepth 20000 in
theorem ggX3_run_X3_count : GoodIn wsX3_run wsX3_count := goodIn_r _ [66, 14, 15, 43, 71, 72, 73, 74, 75, 76, 77, 78, 79, 80, 81, 82, 83, 84, 85, 86, 87, 88, 89, 90, 91, 92, 93, 94] (by decide +kernel) (by decide +kernel)
set_option maxRecDepth 20000 in
theorem gX3_run_X3_count : GoodIn wsX3_run (wsV RX3 126 RX3 yX3_count wsX3_count) := goodIn_app (goodIn_of _ (by decide +kernel)) ggX3_run_X3_count
set_option maxRecDepth 20000 in
theorem ggX3_run_X3_work : GoodIn wsX3_run wsX3_work := goodIn_r _ [70, 5, 43, 37, 20, 17, 49, 36, 15, 48, 38, 16, 12, 18, 39, 40, 41, 10, 42, 6, 27, 28, 29, 30, 26, 13, 71, 72, 73, 74, 75, 76, 77, 78, 79, 80, 81, 82, 83, 84, 85, 86, 87, 88, 89, 90, 91, 92, 93, 94] (by decide +kernel) (by decide +kernel)
set_option maxRecDepth 20000 in
theorem gX3_run_X3_work : GoodIn wsX3_run (wsV RX3 129 RX3 yX3_work wsX3_work) := goodIn_app (goodIn_of _ (by decide +kernel)) ggX3_run_X3_work
theorem dX3_run_0 : decode cX3_run 0 = .ok (.aload_n 0, 1) := by decide +kernel
theorem dX3_run_1 : decode cX3_run 1 = .ok (.iload_n 1, 1) := by decide +kernel
theorem dX3_run_2 : decode cX3_run 2 = .ok (.ifCond .lt 21, 3) := by decide +kernel
theorem dX3_run_5 : decode cX3_run 5 = .ok (.iload_n 1, 1) := by decide +kernel
theorem dX3_run_6 : decode cX3_run 6 = .ok (.sipush 30000, 3) := by decide +kernel
theorem dX3_run_9 : decode cX3_run 9 = .ok (.if_icmp .gt 14, 3) := by decide +kernel
theorem dX3_run_12 : decode cX3_run 12 = .ok (.aload_n 0, 1) := by decide +kernel
theorem dX3_run_13 : decode cX3_run 13 = .ok (.getfield 82, 3) := by decide +kernel
theorem dX3_run_16 : decode cX3_run 16 = .ok (.iload_n 1, 1) := by decide +kernel
theorem dX3_run_17 : decode cX3_run 17 = .ok (.iadd, 1) := by decide +kernel
theorem dX3_run_18 : decode cX3_run 18 = .ok (.ldc 113, 2) := by decide +kernel
theorem dX3_run_20 : decode cX3_run 20 = .ok (.if_icmp .le 7, 3) := by decide +kernel
theorem dX3_run_23 : decode cX3_run 23 = .ok (.iconst 1, 1) := by decide +kernel
theorem dX3_run_24 : decode cX3_run 24 = .ok (.goto 4, 3) := by decide +kernel
theorem dX3_run_27 : decode cX3_run 27 = .ok (.iconst 0, 1) := by decide +kernel
theorem dX3_run_28 : decode cX3_run 28 = .ok (.putfield 69, 3) := by decide +kernel
theorem dX3_run_31 : decode cX3_run 31 = .ok (.iconst 0, 1) := by decide +kernel
theorem dX3_run_32 : decode cX3_run 32 = .ok (.istore_n 2, 1) := by decide +kernel
theorem dX3_run_33 : decode cX3_run 33 = .ok (.iconst 0, 1) := by decide +kernel
theorem dX3_run_34 : decode cX3_run 34 = .ok (.istore_n 3, 1) := by decide +kernel
theorem dX3_run_35 : decode cX3_run 35 = .ok (.iload_n 3, 1) := by decide +kernel
theorem dX3_run_36 : decode cX3_run 36 = .ok (.iload_n 1, 1) := by decide +kernel
theorem dX3_run_37 : decode cX3_run 37 = .ok (.if_icmp .ge 109, 3) := by decide +kernel
theorem dX3_run_40 : decode cX3_run 40 = .ok (.aload_n 0, 1) := by decide +kernel
theorem dX3_run_41 : decode cX3_run 41 = .ok (.getfield 69, 3) := by decide +kernel
theorem dX3_run_44 : decode cX3_run 44 = .ok (.ifCond .ne 102, 3) := by decide +kernel
theorem dX3_run_47 : decode cX3_run 47 = .ok (.aload_n 0, 1) := by decide +kernel
theorem dX3_run_48 : decode cX3_run 48 = .ok (.getfield 82, 3) := by decide +kernel
theorem dX3_run_51 : decode cX3_run 51 = .ok (.istore 4, 2) := by decide +kernel
theorem dX3_run_53 : decode cX3_run 53 = .ok (.aload_n 0, 1) := by decide +kernel
theorem dX3_run_54 : decode cX3_run 54 = .ok (.getfield 88, 3) := by decide +kernel
theorem dX3_run_57 : decode cX3_run 57 = .ok (.ifCond .le 22, 3) := by decide +kernel
theorem dX3_run_60 : decode cX3_run 60 = .ok (.iload 4, 2) := by decide +kernel
theorem dX3_run_62 : decode cX3_run 62 = .ok (.ifCond .le 17, 3) := by decide +kernel
theorem dX3_run_65 : decode cX3_run 65 = .ok (.iload 4, 2) := by decide +kernel
theorem dX3_run_67 : decode cX3_run 67 = .ok (.aload_n 0, 1) := by decide +kernel
theorem dX3_run_68 : decode cX3_run 68 = .ok (.getfield 88, 3) := by decide +kernel
theorem dX3_run_71 : decode cX3_run 71 = .ok (.irem, 1) := by decide +kernel
theorem dX3_run_72 : decode cX3_run 72 = .ok (.ifCond .ne 7, 3) := by decide +kernel
theorem dX3_run_75 : decode cX3_run 75 = .ok (.aload_n 0, 1) := by decide +kernel
theorem dX3_run_76 : decode cX3_run 76 = .ok (.invokevirtual 114, 3) := by decide +kernel
theorem dX3_run_79 : decode cX3_run 79 = .ok (.aload_n 0, 1) := by decide +kernel
theorem dX3_run_80 : decode cX3_run 80 = .ok (.iload 4, 2) := by decide +kernel
theorem dX3_run_82 : decode cX3_run 82 = .ok (.invokevirtual 117, 3) := by decide +kernel
theorem dX3_run_85 : decode cX3_run 85 = .ok (.aload_n 0, 1) := by decide +kernel
theorem dX3_run_86 : decode cX3_run 86 = .ok (.iload 4, 2) := by decide +kernel
theorem dX3_run_88 : decode cX3_run 88 = .ok (.invokevirtual 120, 3) := by decide +kernel
theorem dX3_run_91 : decode cX3_run 91 = .ok (.aload_n 0, 1) := by decide +kernel
theorem dX3_run_92 : decode cX3_run 92 = .ok (.iload 4, 2) := by decide +kernel
theorem dX3_run_94 : decode cX3_run 94 = .ok (.invokevirtual 123, 3) := by decide +kernel
theorem dX3_run_97 : decode cX3_run 97 = .ok (.aload_n 0, 1) := by decide +kernel
theorem dX3_run_98 : decode cX3_run 98 = .ok (.invokevirtual 126, 3) := by decide +kernel
theorem dX3_run_101 : decode cX3_run 101 = .ok (.aload_n 0, 1) := by decide +kernel
theorem dX3_run_102 : decode cX3_run 102 = .ok (.getfield 85, 3) := by decide +kernel
theorem dX3_run_105 : decode cX3_run 105 = .ok (.ifCond .lt 12, 3) := by decide +kernel
theorem dX3_run_108 : decode cX3_run 108 = .ok (.aload_n 0, 1) := by decide +kernel
theorem dX3_run_109 : decode cX3_run 109 = .ok (.iload 4, 2) := by decide +kernel
theorem dX3_run_111 : decode cX3_run 111 = .ok (.invokevirtual 129, 3) := by decide +kernel
theorem dX3_run_114 : decode cX3_run 114 = .ok (.goto 16, 3) := by decide +kernel
theorem dX3_run_117 : decode cX3_run 117 = .ok (.iinc 2 1, 3) := by decide +kernel
theorem dX3_run_120 : decode cX3_run 120 = .ok (.aload_n 0, 1) := by decide +kernel
theorem dX3_run_121 : decode cX3_run 121 = .ok (.getfield 59, 3) := by decide +kernel
theorem dX3_run_124 : decode cX3_run 124 = .ok (.iconst 1, 1) := by decide +kernel
theorem dX3_run_125 : decode cX3_run 125 = .ok (.dup2, 1) := by decide +kernel
theorem dX3_run_126 : decode cX3_run 126 = .ok (.iaload, 1) := by decide +kernel
theorem dX3_run_127 : decode cX3_run 127 = .ok (.iconst 1, 1) := by decide +kernel
theorem dX3_run_128 : decode cX3_run 128 = .ok (.iadd, 1) := by decide +kernel
theorem dX3_run_129 : decode cX3_run 129 = .ok (.iastore, 1) := by decide +kernel
theorem dX3_run_130 : decode cX3_run 130 = .ok (.aload_n 0, 1) := by decide +kernel
theorem dX3_run_131 : decode cX3_run 131 = .ok (.dup, 1) := by decide +kernel
theorem dX3_run_132 : decode cX3_run 132 = .ok (.getfield 82, 3) := by decide +kernel
theorem dX3_run_135 : decode cX3_run 135 = .ok (.iconst 1, 1) := by decide +kernel
theorem dX3_run_136 : decode cX3_run 136 = .ok (.iadd, 1) := by decide +kernel
theorem dX3_run_137 : decode cX3_run 137 = .ok (.putfield 82, 3) := by decide +kernel
theorem dX3_run_140 : decode cX3_run 140 = .ok (.iinc 3 1, 3) := by decide +kernel
theorem dX3_run_143 : decode cX3_run 143 = .ok (.goto (-108), 3) := by decide +kernel
theorem dX3_run_146 : decode cX3_run 146 = .ok (.iload_n 2, 1) := by decide +kernel
theorem dX3_run_147 : decode cX3_run 147 = .ok (.ireturn, 1) := by decide +kernel
set_option maxRecDepth 20000 in
theorem ggX3_restart_X3_begin : GoodIn wsX3_restart wsX3_begin := goodIn_r _ [6, 7, 8, 9, 10, 11, 12, 13, 14, 15, 16, 17, 18, 19, 20, 21, 22, 23, 24, 25, 26, 27, 28, 29, 30, 31, 32, 33, 34, 35, 36, 37, 38, 39] (by decide +kernel) (by decide +kernel)
set_option maxRecDepth 20000 in
theorem gX3_restart_X3_begin : GoodIn wsX3_restart (wsV RX3 79 RX3 yX3_begin wsX3_begin) := goodIn_app (goodIn_of _ (by decide +kernel)) ggX3_restart_X3_begin
theorem dX3_restart_0 : decode cX3_restart 0 = .ok (.aload_n 0, 1) := by decide +kernel
theorem dX3_restart_1 : decode cX3_restart 1 = .ok (.iconst 0, 1) := by decide +kernel
theorem dX3_restart_2 : decode cX3_restart 2 = .ok (.putfield 69, 3) := by decide +kernel
theorem dX3_restart_5 : decode cX3_restart 5 = .ok (.aload_n 0, 1) := by decide +kernel
theorem dX3_restart_6 : decode cX3_restart 6 = .ok (.invokevirtual 79, 3) := by decide +kernel
theorem dX3_restart_9 : decode cX3_restart 9 = .ok (.return_, 1) := by decide +kernel
theorem dX3_time_0 : decode cX3_time 0 = .ok (.aload_n 0, 1) := by decide +kernel
theorem dX3_time_1 : decode cX3_time 1 = .ok (.iconst 0, 1) := by decide +kernel
theorem dX3_time_2 : decode cX3_time 2 = .ok (.putfield 69, 3) := by decide +kernel
theorem dX3_time_5 : decode cX3_time 5 = .ok (.aload_n 0, 1) := by decide +kernel
theorem dX3_time_6 : decode cX3_time 6 = .ok (.getfield 82, 3) := by decide +kernel
theorem dX3_time_9 : decode cX3_time 9 = .ok (.ireturn, 1) := by decide +kernel
set_option maxRecDepth 20000 in
theorem ggX3_told_X3_noProcess : GoodIn wsX3_told wsX3_noProcess := goodIn_r _ [9, 10, 11, 12, 13, 14, 15, 16, 17, 18, 19, 20, 21, 22, 23, 24, 25, 26, 27, 28, 29, 30, 31, 32, 33, 34] (by decide +kernel) (by decide +kernel)
set_option maxRecDepth 20000 in
theorem gX3_told_X3_noProcess : GoodIn wsX3_told (wsV RX3 91 RX3 yX3_noProcess wsX3_noProcess) := goodIn_app (goodIn_of _ (by decide +kernel)) ggX3_told_X3_noProcess
theorem dX3_told_0 : decode cX3_told 0 = .ok (.aload_n 0, 1) := by decide +kernel
theorem dX3_told_1 : decode cX3_told 1 = .ok (.aload_n 0, 1) := by decide +kernel
theorem dX3_told_2 : decode cX3_told 2 = .ok (.iload_n 1, 1) := by decide +kernel
theorem dX3_told_3 : decode cX3_told 3 = .ok (.invokevirtual 91, 3) := by decide +kernel
theorem dX3_told_6 : decode cX3_told 6 = .ok (.ifCond .eq 7, 3) := by decide +kernel
theorem dX3_told_9 : decode cX3_told 9 = .ok (.iconst 1, 1) := by decide +kernel
theorem dX3_told_10 : decode cX3_told 10 = .ok (.goto 18, 3) := by decide +kernel
theorem dX3_told_13 : decode cX3_told 13 = .ok (.iload_n 2, 1) := by decide +kernel
theorem dX3_told_14 : decode cX3_told 14 = .ok (.ifCond .lt 9, 3) := by decide +kernel
theorem dX3_told_17 : decode cX3_told 17 = .ok (.iload_n 2, 1) := by decide +kernel
theorem dX3_told_18 : decode cX3_told 18 = .ok (.bipush 9, 2) := by decide +kernel
theorem dX3_told_20 : decode cX3_told 20 = .ok (.if_icmp .le 7, 3) := by decide +kernel
theorem dX3_told_23 : decode cX3_told 23 = .ok (.iconst 2, 1) := by decide +kernel
theorem dX3_told_24 : decode cX3_told 24 = .ok (.goto 4, 3) := by decide +kernel
theorem dX3_told_27 : decode cX3_told 27 = .ok (.iconst 0, 1) := by decide +kernel
theorem dX3_told_28 : decode cX3_told 28 = .ok (.putfield 69, 3) := by decide +kernel
theorem dX3_told_31 : decode cX3_told 31 = .ok (.aload_n 0, 1) := by decide +kernel
theorem dX3_told_32 : decode cX3_told 32 = .ok (.getfield 69, 3) := by decide +kernel
theorem dX3_told_35 : decode cX3_told 35 = .ok (.ifCond .le 5, 3) := by decide +kernel
theorem dX3_told_38 : decode cX3_told 38 = .ok (.iconst 0, 1) := by decide +kernel
theorem dX3_told_39 : decode cX3_told 39 = .ok (.ireturn, 1) := by decide +kernel
theorem dX3_told_40 : decode cX3_told 40 = .ok (.iload_n 2, 1) := by decide +kernel
theorem dX3_told_41 : decode cX3_told 41 = .ok (.ifCond .ne 12, 3) := by decide +kernel
theorem dX3_told_44 : decode cX3_told 44 = .ok (.aload_n 0, 1) := by decide +kernel
theorem dX3_told_45 : decode cX3_told 45 = .ok (.getfield 25, 3) := by decide +kernel
theorem dX3_told_48 : decode cX3_told 48 = .ok (.iload_n 1, 1) := by decide +kernel
theorem dX3_told_49 : decode cX3_told 49 = .ok (.iaload, 1) := by decide +kernel
theorem dX3_told_50 : decode cX3_told 50 = .ok (.goto 28, 3) := by decide +kernel
theorem dX3_told_53 : decode cX3_told 53 = .ok (.iload_n 2, 1) := by decide +kernel
theorem dX3_told_54 : decode cX3_told 54 = .ok (.iconst 1, 1) := by decide +kernel
theorem dX3_told_55 : decode cX3_told 55 = .ok (.if_icmp .ne 12, 3) := by decide +kernel
theorem dX3_told_58 : decode cX3_told 58 = .ok (.aload_n 0, 1) := by decide +kernel
theorem dX3_told_59 : decode cX3_told 59 = .ok (.getfield 28, 3) := by decide +kernel
theorem dX3_told_62 : decode cX3_told 62 = .ok (.iload_n 1, 1) := by decide +kernel
theorem dX3_told_63 : decode cX3_told 63 = .ok (.iaload, 1) := by decide +kernel
theorem dX3_told_64 : decode cX3_told 64 = .ok (.goto 14, 3) := by decide +kernel
theorem dX3_told_67 : decode cX3_told 67 = .ok (.aload_n 0, 1) := by decide +kernel
theorem dX3_told_68 : decode cX3_told 68 = .ok (.getfield 50, 3) := by decide +kernel
theorem dX3_told_71 : decode cX3_told 71 = .ok (.bipush 10, 2) := by decide +kernel
theorem dX3_told_73 : decode cX3_told 73 = .ok (.iload_n 1, 1) := by decide +kernel
theorem dX3_told_74 : decode cX3_told 74 = .ok (.imul, 1) := by decide +kernel
theorem dX3_told_75 : decode cX3_told 75 = .ok (.iload_n 2, 1) := by decide +kernel
theorem dX3_told_76 : decode cX3_told 76 = .ok (.iadd, 1) := by decide +kernel
theorem dX3_told_77 : decode cX3_told 77 = .ok (.iaload, 1) := by decide +kernel
theorem dX3_told_78 : decode cX3_told 78 = .ok (.ireturn, 1) := by decide +kernel
theorem dX3_running_0 : decode cX3_running 0 = .ok (.aload_n 0, 1) := by decide +kernel
theorem dX3_running_1 : decode cX3_running 1 = .ok (.iconst 0, 1) := by decide +kernel
theorem dX3_running_2 : decode cX3_running 2 = .ok (.putfield 69, 3) := by decide +kernel
theorem dX3_running_5 : decode cX3_running 5 = .ok (.aload_n 0, 1) := by decide +kernel
theorem dX3_running_6 : decode cX3_running 6 = .ok (.getfield 85, 3) := by decide +kernel
theorem dX3_running_9 : decode cX3_running 9 = .ok (.ireturn, 1) := by decide +kernel
theorem dX3_queued_0 : decode cX3_queued 0 = .ok (.aload_n 0, 1) := by decide +kernel
theorem dX3_queued_1 : decode cX3_queued 1 = .ok (.iload_n 1, 1) := by decide +kernel
theorem dX3_queued_2 : decode cX3_queued 2 = .ok (.ifCond .lt 11, 3) := by decide +kernel
theorem dX3_queued_5 : decode cX3_queued 5 = .ok (.iload_n 1, 1) := by decide +kernel
theorem dX3_queued_6 : decode cX3_queued 6 = .ok (.aload_n 0, 1) := by decide +kernel
theorem dX3_queued_7 : decode cX3_queued 7 = .ok (.getfield 73, 3) := by decide +kernel
theorem dX3_queued_10 : decode cX3_queued 10 = .ok (.if_icmp .lt 7, 3) := by decide +kernel
theorem dX3_queued_13 : decode cX3_queued 13 = .ok (.iconst 1, 1) := by decide +kernel
theorem dX3_queued_14 : decode cX3_queued 14 = .ok (.goto 4, 3) := by decide +kernel
theorem dX3_queued_17 : decode cX3_queued 17 = .ok (.iconst 0, 1) := by decide +kernel
theorem dX3_queued_18 : decode cX3_queued 18 = .ok (.putfield 69, 3) := by decide +kernel
theorem dX3_queued_21 : decode cX3_queued 21 = .ok (.aload_n 0, 1) := by decide +kernel
theorem dX3_queued_22 : decode cX3_queued 22 = .ok (.getfield 69, 3) := by decide +kernel
theorem dX3_queued_25 : decode cX3_queued 25 = .ok (.ifCond .le 5, 3) := by decide +kernel
theorem dX3_queued_28 : decode cX3_queued 28 = .ok (.iconst 0, 1) := by decide +kernel
theorem dX3_queued_29 : decode cX3_queued 29 = .ok (.ireturn, 1) := by decide +kernel
theorem dX3_queued_30 : decode cX3_queued 30 = .ok (.iload_n 2, 1) := by decide +kernel
theorem dX3_queued_31 : decode cX3_queued 31 = .ok (.ifCond .lt 13, 3) := by decide +kernel
theorem dX3_queued_34 : decode cX3_queued 34 = .ok (.iload_n 2, 1) := by decide +kernel
theorem dX3_queued_35 : decode cX3_queued 35 = .ok (.aload_n 0, 1) := by decide +kernel
theorem dX3_queued_36 : decode cX3_queued 36 = .ok (.getfield 56, 3) := by decide +kernel
theorem dX3_queued_39 : decode cX3_queued 39 = .ok (.iload_n 1, 1) := by decide +kernel
theorem dX3_queued_40 : decode cX3_queued 40 = .ok (.iaload, 1) := by decide +kernel
theorem dX3_queued_41 : decode cX3_queued 41 = .ok (.if_icmp .lt 7, 3) := by decide +kernel
theorem dX3_queued_44 : decode cX3_queued 44 = .ok (.iconst (-1), 1) := by decide +kernel
theorem dX3_queued_45 : decode cX3_queued 45 = .ok (.goto 14, 3) := by decide +kernel
theorem dX3_queued_48 : decode cX3_queued 48 = .ok (.aload_n 0, 1) := by decide +kernel
theorem dX3_queued_49 : decode cX3_queued 49 = .ok (.getfield 53, 3) := by decide +kernel
theorem dX3_queued_52 : decode cX3_queued 52 = .ok (.bipush 16, 2) := by decide +kernel
theorem dX3_queued_54 : decode cX3_queued 54 = .ok (.iload_n 1, 1) := by decide +kernel
theorem dX3_queued_55 : decode cX3_queued 55 = .ok (.imul, 1) := by decide +kernel
theorem dX3_queued_56 : decode cX3_queued 56 = .ok (.iload_n 2, 1) := by decide +kernel
theorem dX3_queued_57 : decode cX3_queued 57 = .ok (.iadd, 1) := by decide +kernel
theorem dX3_queued_58 : decode cX3_queued 58 = .ok (.iaload, 1) := by decide +kernel
theorem dX3_queued_59 : decode cX3_queued 59 = .ok (.ireturn, 1) := by decide +kernel
theorem dX3_all_0 : decode cX3_all 0 = .ok (.aload_n 0, 1) := by decide +kernel
theorem dX3_all_1 : decode cX3_all 1 = .ok (.iload_n 1, 1) := by decide +kernel
theorem dX3_all_2 : decode cX3_all 2 = .ok (.ifCond .lt 8, 3) := by decide +kernel
theorem dX3_all_5 : decode cX3_all 5 = .ok (.iload_n 1, 1) := by decide +kernel
theorem dX3_all_6 : decode cX3_all 6 = .ok (.iconst 3, 1) := by decide +kernel
theorem dX3_all_7 : decode cX3_all 7 = .ok (.if_icmp .le 7, 3) := by decide +kernel
theorem dX3_all_10 : decode cX3_all 10 = .ok (.iconst 1, 1) := by decide +kernel
theorem dX3_all_11 : decode cX3_all 11 = .ok (.goto 4, 3) := by decide +kernel
theorem dX3_all_14 : decode cX3_all 14 = .ok (.iconst 0, 1) := by decide +kernel
theorem dX3_all_15 : decode cX3_all 15 = .ok (.putfield 69, 3) := by decide +kernel
theorem dX3_all_18 : decode cX3_all 18 = .ok (.aload_n 0, 1) := by decide +kernel
theorem dX3_all_19 : decode cX3_all 19 = .ok (.getfield 69, 3) := by decide +kernel
theorem dX3_all_22 : decode cX3_all 22 = .ok (.ifCond .le 7, 3) := by decide +kernel
theorem dX3_all_25 : decode cX3_all 25 = .ok (.iconst 0, 1) := by decide +kernel
theorem dX3_all_26 : decode cX3_all 26 = .ok (.goto 9, 3) := by decide +kernel
theorem dX3_all_29 : decode cX3_all 29 = .ok (.aload_n 0, 1) := by decide +kernel
theorem dX3_all_30 : decode cX3_all 30 = .ok (.getfield 59, 3) := by decide +kernel
theorem dX3_all_33 : decode cX3_all 33 = .ok (.iload_n 1, 1) := by decide +kernel
theorem dX3_all_34 : decode cX3_all 34 = .ok (.iaload, 1) := by decide +kernel
theorem dX3_all_35 : decode cX3_all 35 = .ok (.ireturn, 1) := by decide +kernel
theorem dX3_switched_0 : decode cX3_switched 0 = .ok (.aload_n 0, 1) := by decide +kernel
theorem dX3_switched_1 : decode cX3_switched 1 = .ok (.iload_n 1, 1) := by decide +kernel
theorem dX3_switched_2 : decode cX3_switched 2 = .ok (.ifCond .lt 20, 3) := by decide +kernel
theorem dX3_switched_5 : decode cX3_switched 5 = .ok (.iload_n 1, 1) := by decide +kernel
theorem dX3_switched_6 : decode cX3_switched 6 = .ok (.aload_n 0, 1) := by decide +kernel
theorem dX3_switched_7 : decode cX3_switched 7 = .ok (.getfield 59, 3) := by decide +kernel
theorem dX3_switched_10 : decode cX3_switched 10 = .ok (.iconst 0, 1) := by decide +kernel
theorem dX3_switched_11 : decode cX3_switched 11 = .ok (.iaload, 1) := by decide +kernel
theorem dX3_switched_12 : decode cX3_switched 12 = .ok (.if_icmp .ge 10, 3) := by decide +kernel
theorem dX3_switched_15 : decode cX3_switched 15 = .ok (.iload_n 1, 1) := by decide +kernel
theorem dX3_switched_16 : decode cX3_switched 16 = .ok (.sipush 400, 3) := by decide +kernel
theorem dX3_switched_19 : decode cX3_switched 19 = .ok (.if_icmp .lt 7, 3) := by decide +kernel
theorem dX3_switched_22 : decode cX3_switched 22 = .ok (.iconst 1, 1) := by decide +kernel
theorem dX3_switched_23 : decode cX3_switched 23 = .ok (.goto 4, 3) := by decide +kernel
theorem dX3_switched_26 : decode cX3_switched 26 = .ok (.iconst 0, 1) := by decide +kernel
theorem dX3_switched_27 : decode cX3_switched 27 = .ok (.putfield 69, 3) := by decide +kernel
theorem dX3_switched_30 : decode cX3_switched 30 = .ok (.aload_n 0, 1) := by decide +kernel
theorem dX3_switched_31 : decode cX3_switched 31 = .ok (.getfield 69, 3) := by decide +kernel
theorem dX3_switched_34 : decode cX3_switched 34 = .ok (.ifCond .le 7, 3) := by decide +kernel
theorem dX3_switched_37 : decode cX3_switched 37 = .ok (.iconst 0, 1) := by decide +kernel
theorem dX3_switched_38 : decode cX3_switched 38 = .ok (.goto 9, 3) := by decide +kernel
theorem dX3_switched_41 : decode cX3_switched 41 = .ok (.aload_n 0, 1) := by decide +kernel
theorem dX3_switched_42 : decode cX3_switched 42 = .ok (.getfield 62, 3) := by decide +kernel
theorem dX3_switched_45 : decode cX3_switched 45 = .ok (.iload_n 1, 1) := by decide +kernel
theorem dX3_switched_46 : decode cX3_switched 46 = .ok (.iaload, 1) := by decide +kernel
theorem dX3_switched_47 : decode cX3_switched 47 = .ok (.ireturn, 1) := by decide +kernel
end
section
/-! THE MODEL: its object's numbers O and its arrays A, by the number of the field. Cells: 0 the object, then the arrays in the order of the fields -/
abbrev Ms : Type := (Nat → Int32) × (Nat → Nat → Int32)
def mO (S : Ms) (j : Nat) : Int32 := S.1 j
def mA (S : Ms) (a k : Nat) : Int32 := S.2 a k
def mP (S : Ms) (j : Nat) (v : Int32) : Ms := (upd S.1 j v, S.2)
def mQ (S : Ms) (a k : Nat) (v : Int32) : Ms := (S.1, fun a2 k2 => if a2 = a ∧ k2 = k then v else S.2 a2 k2)
theorem mO_mP (S : Ms) (j : Nat) (v : Int32) (j2 : Nat) : mO (mP S j v) j2 = if j2 = j then v else mO S j2 := rfl
theorem mO_mQ (S : Ms) (a k : Nat) (v : Int32) (j2 : Nat) : mO (mQ S a k v) j2 = mO S j2 := rfl
theorem mA_mP (S : Ms) (j : Nat) (v : Int32) (a2 k2 : Nat) : mA (mP S j v) a2 k2 = mA S a2 k2 := rfl
theorem mA_mQ (S : Ms) (a k : Nat) (v : Int32) (a2 k2 : Nat) : mA (mQ S a k v) a2 k2 = if a2 = a ∧ k2 = k then v else mA S a2 k2 := rfl
def mlen (c : Nat) : Nat := ([0, 6, 6, 16, 16, 192, 16, 16, 16, 16, 16, 16, 16, 16, 160, 96, 6, 4, 400] : List Nat).getD c 0
def mfld (c : Nat) : Nat := ([0, 2, 3, 6, 7, 8, 11, 12, 13, 14, 15, 16, 17, 18, 19, 20, 21, 22, 23] : List Nat).getD c 0
def mty (c : Nat) : Nat := if c = 12 then 1 else 0
theorem mfld_inj : ∀ c, c < 19 → ∀ d, d < 19 → 1 ≤ c → 1 ≤ d → mfld c = mfld d → c = d := by decide
def mOf (ad : Nat → Nat) (S : Ms) : List Value := [.int (mO S 0), .int (mO S 1), .ref (ad 1), .ref (ad 2), .int (mO S 4), .int (mO S 5), .ref (ad 3), .ref (ad 4), .ref (ad 5), .int (mO S 9), .int (mO S 10), .ref (ad 6), .ref (ad 7), .ref (ad 8), .ref (ad 9), .ref (ad 10), .ref (ad 11), .ref (ad 12), .ref (ad 13), .ref (ad 14), .ref (ad 15), .ref (ad 16), .ref (ad 17), .ref (ad 18)]
def mE (cy : Nat → ClassId) (ad : Nat → Nat) (S : Ms) (c : Nat) : va_E := if c = 0 then .inr (3, mOf ad S) else .inl (cy (mty c), mlen c, .inl (fun j => mA S (mfld c) j))
def mwl (cy : Nat → ClassId) (ad : Nat → Nat) (S : Ms) : va_W := gw 19 ad (mE cy ad S)
theorem mwl_set (cy : Nat → ClassId) (ad : Nat → Nat) (S : Ms) (k : Nat) (e : va_E) : (mwl cy ad S).set k (ad k, e) = gw 19 ad (va_up (mE cy ad S) k e) := gw_set k e
theorem mE_O (cy : Nat → ClassId) (ad : Nat → Nat) (S : Ms) : mE cy ad S 0 = .inr (3, mOf ad S) := rfl
theorem mE_A (cy : Nat → ClassId) (ad : Nat → Nat) (S : Ms) {c : Nat} (h : 1 ≤ c) : mE cy ad S c = .inl (cy (mty c), mlen c, .inl (fun j => mA S (mfld c) j)) := by
  unfold mE
  rw [if_neg (by omega)]
theorem mE_pO (cy : Nat → ClassId) (ad : Nat → Nat) (S : Ms) (j : Nat) (v : Int32) : va_up (mE cy ad S) 0 (.inr (3, mOf ad (mP S j v))) = mE cy ad (mP S j v) := by
  funext k
  by_cases h : k = 0
  · subst h; simp [va_up, mE_O]
  · simp only [va_up, h, if_false]
    rw [mE_A cy ad S (by omega), mE_A cy ad (mP S j v) (by omega)]
    rfl
/-- another cell's contents stay; a cell beyond the world isn't looked at -/
theorem mw_pA (cy : Nat → ClassId) (ad : Nat → Nat) (S : Ms) {c : Nat} (h : 1 ≤ c) (hc : c < 19) (k : Nat) (v : Int32) : gw 19 ad (va_up (mE cy ad S) c (.inl (cy (mty c), mlen c, .inl (upd (fun q => mA S (mfld c) q) k v)))) = mwl cy ad (mQ S (mfld c) k v) := by
  unfold mwl gw
  apply List.map_congr_left
  intro d hd
  have hd := List.mem_range.mp hd
  refine Prod.ext rfl ?_
  show va_up (mE cy ad S) c _ d = _
  by_cases e : d = c
  · subst e
    rw [mE_A cy ad _ h]
    simp only [va_up, if_true]
    congr 4
    funext q
    simp [upd, mA_mQ]
  · simp only [va_up, e, if_false]
    by_cases h0 : d = 0
    · subst h0; rfl
    · rw [mE_A cy ad _ (by omega), mE_A cy ad _ (by omega)]
      congr 4
      funext q
      have hn : mfld d ≠ mfld c := fun z => e (mfld_inj d hd c hc (by omega) h z)
      simp [mA_mQ, hn]
theorem mOf_0 (ad : Nat → Nat) (S : Ms) (v : Int32) : (mOf ad S).set 0 (.int v) = mOf ad (mP S 0 v) := by simp [mOf, mO_mP]
theorem mOf_1 (ad : Nat → Nat) (S : Ms) (v : Int32) : (mOf ad S).set 1 (.int v) = mOf ad (mP S 1 v) := by simp [mOf, mO_mP]
theorem mOf_4 (ad : Nat → Nat) (S : Ms) (v : Int32) : (mOf ad S).set 4 (.int v) = mOf ad (mP S 4 v) := by simp [mOf, mO_mP]
theorem mOf_5 (ad : Nat → Nat) (S : Ms) (v : Int32) : (mOf ad S).set 5 (.int v) = mOf ad (mP S 5 v) := by simp [mOf, mO_mP]
theorem mOf_9 (ad : Nat → Nat) (S : Ms) (v : Int32) : (mOf ad S).set 9 (.int v) = mOf ad (mP S 9 v) := by simp [mOf, mO_mP]
theorem mOf_10 (ad : Nat → Nat) (S : Ms) (v : Int32) : (mOf ad S).set 10 (.int v) = mOf ad (mP S 10 v) := by simp [mOf, mO_mP]
def mPre (D : va_G) (cy : Nat → ClassId) (ad : Nat → Nat) (S : Ms) (sz : Nat) (U : State) : Prop := U.heap.size = sz ∧ va_P D vwCl (mwl cy ad S) U.heap ∧ va_K D vwCl (tyL cy) U ∧ gw_ap 19 ad (fun _ => True)
def mPost (D : va_G) (cy : Nat → ClassId) (ad : Nat → Nat) (S : Ms) (t : State) : Prop := va_P D vwCl (mwl cy ad S) t.heap
def mMv (l : Launch) (y : MethodName) (ws : List Cond) (rm : Room) (D : va_G) (cy : Nat → ClassId) (ad : Nat → Nat) (av : List Value) (S S' : Ms) : Prop :=
  ∀ sz, Met l y ws rm (va_Pc av (mPre D cy ad S sz)) (va_Qv (fun _ : Unit => True) (fun _ t => mPost D cy ad S' t) (gA 19 ad sz)) 0 0 (gA 19 ad sz)
def mMi (l : Launch) (y : MethodName) (ws : List Cond) (rm : Room) (D : va_G) (cy : Nat → ClassId) (ad : Nat → Nat) (av : List Value) (S S' : Ms) (r : Int32) : Prop :=
  ∀ sz, Met l y ws rm (va_Pc av (mPre D cy ad S sz)) (va_Qi (fun (x : Int32) (_ : Unit) => x = r) (fun _ t => mPost D cy ad S' t) (gA 19 ad sz)) 0 0 (gA 19 ad sz)
theorem mPre_blind {D : va_G} {cy : Nat → ClassId} {ad : Nat → Nat} {S : Ms} {sz : Nat} {av : List Value} : FrameBlind (va_Pc av (mPre D cy ad S sz)) := by
  intro a U g mk q
  obtain ⟨q0, q1, qP, qK, qD⟩ := q
  exact ⟨q0, q1, qP, va_K.moved (u := U) (U := U.calling g mk a) (Vm.Alike.refl U.vm) qK, qD⟩
section MR
variable {p : Program} {l : Launch} {e : Env} {R : Room} {s : State} {m : MethodId} {args : Array Value} {below : List Frame} {meth : Method} {c : Code} {H : Heap} {locs : List Loc} {cells slots : Nat} {Q : State → Prop}
variable {cc : ByteArray} {pc : Nat} {ls : Array Slot} {rest st0 : List Value} {D : va_G} {A : Nat → Prop} {cy : Nat → ClassId} {ad : Nat → Nat} {S : Ms} {H0 : Heap} {own : String} {index : Nat} {Ts : List Cond}
theorem m_gO (hx : p.tables.exec = Jvm.exec) (hb : c.code = cc) (hts : ∀ w ∈ Ts, w.before args s = true) (hin : ∀ w ∈ wsX30, w ∈ Ts) (hown : s.vm.findClass own = some m.cls) (hK : va_K D vwCl (tyL cy) s) (hP : va_P D vwCl (mwl cy ad S) H) (j : Nat) (hj : j < 24) (hlink : (Cond.fieldLink own index (TX3 j).1 (TX3 j).2.1 (TX3 j).2.2.1).before args s = true) {v : Value} (hv : (mOf ad S)[j]? = some v) (hdg : decode cc pc = .ok (.getfield index, 3))
    (kk : W p l e R s m args below meth c H locs cells slots Q (F0 m (pc + 3) ls (v :: rest))) : W p l e R s m args below meth c H locs cells slots Q (F0 m pc ls (.ref (ad 0) :: rest)) :=
  va_get (C := RX3) (T := TX3) (N := 24) (ci := 3) hx hb hts hin hown hK hP 0 ((gw_get (by omega)).trans (by rw [mE_O])) rfl j hj hlink (fun _ h9 => h9) hv hdg kk
theorem m_pO (hx : p.tables.exec = Jvm.exec) (hb : c.code = cc) (hts : ∀ w ∈ Ts, w.before args s = true) (hin : ∀ w ∈ wsX30, w ∈ Ts) (hown : s.vm.findClass own = some m.cls) (hK : va_K D vwCl (tyL cy) s) (hap : gw_ap 19 ad A) (hP : va_P D vwCl (mwl cy ad S) H) (hS : va_S A H0 H locs) (j : Nat) (hj : j < 24) (hlink : (Cond.fieldLink own index (TX3 j).1 (TX3 j).2.1 (TX3 j).2.2.1).before args s = true) (hfin : (TX3 j).2.2.2 = false) {ty : FieldType} {v : Int32} (hd : parseFieldDescriptor (TX3 j).2.2.1 = some ty) (hn : narrow ty (.int v) = .int v) (hfit : fits ty (.int v) = true) (hset : (mOf ad S).set j (.int v) = mOf ad (mP S j v)) (hl : j < (mOf ad S).length) (hdg : decode cc pc = .ok (.putfield index, 3))
    (kk : ∀ (H1 : Heap) (locs1 : List Loc), va_P D vwCl (mwl cy ad (mP S j v)) H1 → va_S A H0 H1 locs1 → W p l e R s m args below meth c H1 locs1 cells slots Q (F0 m (pc + 3) ls rest)) : W p l e R s m args below meth c H locs cells slots Q (F0 m pc ls (.int v :: .ref (ad 0) :: rest)) :=
  va_put (C := RX3) (T := TX3) (N := 24) (ci := 3) hx hb hts hin tyX3 tyX3_ok nmX3 hown hK hP (gw_D hap _) hS 0 ((gw_get (by omega)).trans (by rw [mE_O])) rfl j hj hlink (fun _ h9 => h9) hfin hd hn hfit hl hdg (fun H1 locs1 hP1 _ hS1 => kk H1 locs1 (by
    rw [hset, mwl_set, mE_pO] at hP1; exact hP1) hS1)
theorem m_iA {d a n : Nat} (hx : p.tables.exec = Jvm.exec) (hb : c.code = cc) (hK : va_K D vwCl (tyL cy) s) (hP : va_P D vwCl (mwl cy ad S) H) (hd : 1 ≤ d ∧ d < 19 ∧ mty d = 0) (ha : mfld d = a) (hn : mlen d = n) {x : Int32} {k : Nat} (hix : ix x k n) (hdg : decode cc pc = .ok (.iaload, 1))
    (kk : W p l e R s m args below meth c H locs cells slots Q (F0 m (pc + 1) ls (.int (mA S a k) :: rest))) : W p l e R s m args below meth c H locs cells slots Q (F0 m pc ls (.int x :: .ref (ad d) :: rest)) := by
  subst ha; subst hn
  exact va_iald hx hb hK hP d 0 ((gw_get hd.2.1).trans (by rw [mE_A cy ad S hd.1, hd.2.2])) rfl hix.vp hdg (by rw [hix.2.1]; exact kk)
theorem m_sA {d a n : Nat} (hx : p.tables.exec = Jvm.exec) (hb : c.code = cc) (hK : va_K D vwCl (tyL cy) s) (hap : gw_ap 19 ad A) (hP : va_P D vwCl (mwl cy ad S) H) (hS : va_S A H0 H locs) (hd : 1 ≤ d ∧ d < 19 ∧ mty d = 0) (ha : mfld d = a) (hn : mlen d = n) {x v : Int32} {k : Nat} (hix : ix x k n) (hdg : decode cc pc = .ok (.iastore, 1))
    (kk : ∀ (H1 : Heap) (locs1 : List Loc), va_P D vwCl (mwl cy ad (mQ S a k v)) H1 → va_S A H0 H1 locs1 → W p l e R s m args below meth c H1 locs1 cells slots Q (F0 m (pc + 1) ls rest)) : W p l e R s m args below meth c H locs cells slots Q (F0 m pc ls (.int v :: .int x :: .ref (ad d) :: rest)) := by
  subst ha; subst hn
  refine va_iast hx hb hK hP (gw_D hap _) hS d 0 ((gw_get hd.2.1).trans (by rw [mE_A cy ad S hd.1, hd.2.2])) rfl hix.vp hdg (fun H1 locs1 hP1 _ hS1 => kk H1 locs1 ?_ hS1)
  rw [hix.2.1, mwl_set] at hP1
  have h9 := mw_pA cy ad S hd.1 hd.2.1 k v
  rw [hd.2.2] at h9
  rw [h9] at hP1
  exact hP1
theorem m_zA {d a n : Nat} (hx : p.tables.exec = Jvm.exec) (hb : c.code = cc) (hK : va_K D vwCl (tyL cy) s) (hP : va_P D vwCl (mwl cy ad S) H) (hd : 1 ≤ d ∧ d < 19 ∧ mty d = 1) (ha : mfld d = a) (hn : mlen d = n) {x : Int32} {k : Nat} (hix : ix x k n) (hdg : decode cc pc = .ok (.baload, 1))
    (kk : W p l e R s m args below meth c H locs cells slots Q (F0 m (pc + 1) ls (.int (mA S a k) :: rest))) : W p l e R s m args below meth c H locs cells slots Q (F0 m pc ls (.int x :: .ref (ad d) :: rest)) := by
  subst ha; subst hn
  exact va_zald hx hb hK hP d 1 ((gw_get hd.2.1).trans (by rw [mE_A cy ad S hd.1, hd.2.2])) rfl hix.vp hdg (by rw [hix.2.1]; exact kk)
theorem m_tA {d a n : Nat} (hx : p.tables.exec = Jvm.exec) (hb : c.code = cc) (hK : va_K D vwCl (tyL cy) s) (hap : gw_ap 19 ad A) (hP : va_P D vwCl (mwl cy ad S) H) (hS : va_S A H0 H locs) (hd : 1 ≤ d ∧ d < 19 ∧ mty d = 1) (ha : mfld d = a) (hn : mlen d = n) {x v : Int32} {k : Nat} (hv : vp_nar .boolean v = v) (hix : ix x k n) (hdg : decode cc pc = .ok (.bastore, 1))
    (kk : ∀ (H1 : Heap) (locs1 : List Loc), va_P D vwCl (mwl cy ad (mQ S a k v)) H1 → va_S A H0 H1 locs1 → W p l e R s m args below meth c H1 locs1 cells slots Q (F0 m (pc + 1) ls rest)) : W p l e R s m args below meth c H locs cells slots Q (F0 m pc ls (.int v :: .int x :: .ref (ad d) :: rest)) := by
  subst ha; subst hn
  refine va_zast hx hb hK hP (gw_D hap _) hS d 1 ((gw_get hd.2.1).trans (by rw [mE_A cy ad S hd.1, hd.2.2])) rfl hix.vp hdg (fun H1 locs1 hP1 _ hS1 => kk H1 locs1 ?_ hS1)
  rw [hix.2.1, hv, mwl_set] at hP1
  have h9 := mw_pA cy ad S hd.1 hd.2.1 k v
  rw [hd.2.2] at h9
  rw [h9] at hP1
  exact hP1
variable {y : MethodName} {bytes : ByteArray} {maxL nL n : Nat} {ret : Option FieldType} {ws : List Cond} {rm : Room} {As : List Value} {S' : Ms}
theorem m_recv (hK : va_K D vwCl (tyL cy) s) (hP : va_P D vwCl (mwl cy ad S) H) : ∃ cell : Cell, H[ad 0]? = some cell ∧ cell.vm.isStatics = false ∧ s.vm.findClass RX3 = some cell.cls :=
  va_recv (q0 := 0) (q := (RX3, TX3, 24)) (ci := 3) hK hP rfl ((gw_get (by omega)).trans (by rw [mE_O]))
theorem m_pre (hK : va_K D vwCl (tyL cy) s) (hap : gw_ap 19 ad A) (hP : va_P D vwCl (mwl cy ad S) H) {av : List Value} : ∀ U : State, U.heap = H → s.WarmedH U.vm → va_Pc av (mPre D cy ad S H.size) av.toArray U :=
  fun U hU hW => ⟨rfl, by rw [hU], by rw [hU]; exact hP, va_K.moved hW.alike hK, ⟨hap.1, fun _ _ => trivial⟩⟩
theorem m_cVv (F : CallFix p m c cc nL s args Ts own) (hM : mMv l y ws rm D cy ad (.ref (ad 0) :: As) S S') (cw : CallW R s args own RX3 index y bytes maxL ret ws rm 0 0 n) (hK : va_K D vwCl (tyL cy) s) (hap : gw_ap 19 ad A) (hA : ∀ q, H0.size ≤ q → A q) (hP : va_P D vwCl (mwl cy ad S) H) (hS : va_S A H0 H locs) (hn : As.length = n) (hsz : ls.size = nL) (hst : st0 = As.reverse ++ .ref (ad 0) :: rest) (hW : (rest.map fun v => v.category).sum ≤ 8) (hdg : decode cc pc = .ok (.invokevirtual index, 3)) (hf : cells ≤ R.cells ∧ slots ≤ R.slots)
    (kk : ∀ (H1 : Heap) (locs1 : List Loc), va_P D vwCl (mwl cy ad S') H1 → va_S A H0 H1 locs1 → W p l e R s m args below meth c H1 locs1 cells slots Q (F0 m (pc + 3) ls rest)) : W p l e R s m args below meth c H locs cells slots Q (F0 m pc ls st0) :=
  va_callv (mc := 0) (ms := 0) (va_runV (rest := rest) F (hM H.size) cw ⟨mPre_blind, m_recv hK hP, m_pre hK hap hP⟩ rfl hn hsz hst (lv_room hW) hdg hf) hS (fun q _ h => gA_free hap hS hA q h) (gA_free hap hS hA) (fun _ t H1 locs1 ht _ _ hB _ _ hS1 => kk H1 locs1 (by rw [← ht]; exact hB) hS1)
theorem m_cVi {r : Int32} (F : CallFix p m c cc nL s args Ts own) (hM : mMi l y ws rm D cy ad (.ref (ad 0) :: As) S S' r) (cw : CallW R s args own RX3 index y bytes maxL ret ws rm 0 0 n) (hK : va_K D vwCl (tyL cy) s) (hap : gw_ap 19 ad A) (hA : ∀ q, H0.size ≤ q → A q) (hP : va_P D vwCl (mwl cy ad S) H) (hS : va_S A H0 H locs) (hn : As.length = n) (hsz : ls.size = nL) (hst : st0 = As.reverse ++ .ref (ad 0) :: rest) (hW : (rest.map fun v => v.category).sum ≤ 8) (hdg : decode cc pc = .ok (.invokevirtual index, 3)) (hf : cells ≤ R.cells ∧ slots ≤ R.slots)
    (kk : ∀ (H1 : Heap) (locs1 : List Loc), va_P D vwCl (mwl cy ad S') H1 → va_S A H0 H1 locs1 → W p l e R s m args below meth c H1 locs1 cells slots Q (F0 m (pc + 3) ls (.int r :: rest))) : W p l e R s m args below meth c H locs cells slots Q (F0 m pc ls st0) :=
  va_calli (mc := 0) (ms := 0) (va_runV (rest := rest) F (hM H.size) cw ⟨mPre_blind, m_recv hK hP, m_pre hK hap hP⟩ rfl hn hsz hst (lv_room hW) hdg hf) hS (fun q _ h => gA_free hap hS hA q h) (gA_free hap hS hA) (fun x _ t H1 locs1 ht _ hx hB _ _ hS1 => by subst hx; exact kk H1 locs1 (by rw [← ht]; exact hB) hS1)
theorem m_vret {free : Addr → Prop} (hx : p.tables.exec = Jvm.exec) (hb : c.code = cc) (hr : meth.sig.returnType = none) (hlocks : meth.locks = false) (hP : va_P D vwCl (mwl cy ad S') H) (hS : va_S A s.heap H locs) (hdg : decode cc pc = .ok (.return_, 1)) (hlf : ∀ q, A q → free q) :
    W p l e R s m args below meth c H locs cells slots (MQ below (va_Qv (fun _ : Unit => True) (fun _ t => mPost D cy ad S' t) A) args s cells slots free) (F0 m pc ls []) :=
  W.vret hx hb hr (fun t ht _ => ⟨⟨(), rfl, trivial, by show va_P _ _ _ t.heap; rw [ht]; exact hP⟩, hS.F ht⟩) (fun q hq => hlf _ (hS.2.2 q hq)) hdg
theorem m_iret {free : Addr → Prop} {v : Int32} (hx : p.tables.exec = Jvm.exec) (hb : c.code = cc) (hr : meth.sig.returnType = some .int) (hlocks : meth.locks = false) (hP : va_P D vwCl (mwl cy ad S') H) (hS : va_S A s.heap H locs) (hdg : decode cc pc = .ok (.ireturn, 1)) (hlf : ∀ q, A q → free q) :
    W p l e R s m args below meth c H locs cells slots (MQ below (va_Qi (fun (x : Int32) (_ : Unit) => x = v) (fun _ t => mPost D cy ad S' t) A) args s cells slots free) (F0 m pc ls [.int v]) :=
  W.iret hx hb hr (fun t ht _ => ⟨⟨v, (), rfl, rfl, by show va_P _ _ _ t.heap; rw [ht]; exact hP⟩, hS.F ht⟩) (fun q hq => hlf _ (hS.2.2 q hq)) hdg
theorem m_zret {free : Addr → Prop} {v : Int32} (hx : p.tables.exec = Jvm.exec) (hb : c.code = cc) (hr : meth.sig.returnType = some .boolean) (hlocks : meth.locks = false) (hv : narrow .boolean (.int v) = .int v) (hP : va_P D vwCl (mwl cy ad S') H) (hS : va_S A s.heap H locs) (hdg : decode cc pc = .ok (.ireturn, 1)) (hlf : ∀ q, A q → free q) :
    W p l e R s m args below meth c H locs cells slots (MQ below (va_Qi (fun (x : Int32) (_ : Unit) => x = v) (fun _ t => mPost D cy ad S' t) A) args s cells slots free) (F0 m pc ls [.int v]) :=
  W.zret hx hb hr hv (fun t ht _ => ⟨⟨v, (), rfl, rfl, by show va_P _ _ _ t.heap; rw [ht]; exact hP⟩, hS.F ht⟩) (fun q hq => hlf _ (hS.2.2 q hq)) hdg
end MR
/-! indices that are reckoned -/
theorem ix_lin {c k j q : Nat} {C x y : Int32} (hC : C = nI c) (hx : x = nI k) (hy : y = nI j) (h : c * k + j < q) (hq : q < 2 ^ 31) : ix (C * x + y) (c * k + j) q := by
  rw [hC, hx, hy, pk_mul, nI_add]; exact ix_nI h hq
theorem ix_linp {c k j q : Nat} {C x y : Int32} (hC : C = nI c) (hx : x = nI k) (hy : y = nI j) (h : c * k + j + 1 < q) (hq : q < 2 ^ 31) : ix (C * x + y + 1) (c * k + j + 1) q := by
  rw [hC, hx, hy, pk_mul, nI_add, nI_1]; exact ix_nI h hq
theorem ix_linm {c k j q : Nat} {C x y : Int32} (hC : C = nI c) (hx : x = nI k) (hy : y = nI (j + 1)) (h : c * k + j < q) (hq : q < 2 ^ 31) : ix (C * x + y - 1) (c * k + j) q := by
  rw [hC, hx, hy, pk_mul, nI_add, ← Nat.add_assoc, nI_pred]; exact ix_nI h hq
theorem ix_mulc {c k q : Nat} {C x : Int32} (hC : C = nI c) (hx : x = nI k) (h : c * k < q) (hq : q < 2 ^ 31) : ix (C * x) (c * k) q := by
  rw [hC, hx, pk_mul]; exact ix_nI h hq
end
section
def F_X3_thrown (S : Ms)  : Ms × Int32 :=
  (S, mO S 0)
def B_X3_begin_12   (t : Nat) (Z : Ms) : Ms :=
  let S3 : Ms := mQ Z 22 t 0
  S3
def B_X3_begin_32   (t : Nat) (Z : Ms) : Ms :=
  let S5 : Ms := mQ Z 21 t 0
  S5
def B_X3_begin_89  (t : Nat) (tx : Nat) (Zx : Ms) : Ms :=
  if (nI tx) = 5 then
    let S11 : Ms := mQ Zx 19 (10 * t + tx) ((-1))
    S11
  else
    if (nI tx) = 6 then
      let S13 : Ms := mQ Zx 19 (10 * t + tx) ((-1))
      S13
    else
      let S12 : Ms := mQ Zx 19 (10 * t + tx) 0
      S12
def B_X3_begin_53   (t : Nat) (Z : Ms) : Ms :=
  let S7 : Ms := mQ Z 11 t 0
  let S8 : Ms := mQ S7 12 t 0
  let S9 : Ms := mQ S8 13 t 0
  let S10 : Ms := mQ S9 17 t 0
  let S14 : Ms := itr (B_X3_begin_89 t) 10 0 S10
  S14
def F_X3_begin (S : Ms)  : Ms :=
  let S1 : Ms := mP S 9 0
  let S2 : Ms := mP S1 10 ((-1))
  let S4 : Ms := itr B_X3_begin_12 4 0 S2
  let S6 : Ms := itr B_X3_begin_32 6 0 S4
  let S15 : Ms := itr B_X3_begin_53 16 0 S6
  S15
def B_X3_set_7 (p1 : Int32)  (t : Nat) (Z : Ms) : Ms :=
  let S2 : Ms := mQ Z 2 t 1
  let S3 : Ms := mQ S2 3 t 1
  S3
def F_X3_set (S : Ms) (p1 : Int32) : Ms :=
  let S1 : Ms := mP S 1 p1
  let S4 : Ms := itr (B_X3_set_7 p1) 6 0 S1
  let S5 : Ms := mP S4 5 0
  let S6 : Ms := F_X3_begin S5
  S6
def F_X3_levels (S : Ms) (p1 : Int32) : Ms :=
  if p1 < 1 then
    let S1 : Ms := mP S 0 1
    S1
  else
    if p1 ≤ 6 then
      let S2 : Ms := mP S 0 0
      let S3 : Ms := F_X3_set S2 p1
      S3
    else
      let S4 : Ms := mP S 0 1
      S4
def F_X3_level (S : Ms) (p1 : Int32) (p2 : Int32) (p3 : Int32) : Ms :=
  if p1 < 0 then
    let S1 : Ms := mP S 0 1
    S1
  else
    if p1 < (mO S 1) then
      if p2 < 1 then
        let S2 : Ms := mP S 0 2
        S2
      else
        if 100 < p2 then
          let S3 : Ms := mP S 0 2
          S3
        else
          if p3 < 1 then
            let S4 : Ms := mP S 0 2
            S4
          else
            if p3 ≤ 1000 then
              if (mO S 9) ≤ 0 then
                let S5 : Ms := mP S 0 0
                let S6 : Ms := mQ S5 2 ((p1).toNatClampNeg) p2
                let S7 : Ms := mQ S6 3 ((p1).toNatClampNeg) p3
                S7
              else
                let S8 : Ms := mP S 0 3
                S8
            else
              let S9 : Ms := mP S 0 2
              S9
    else
      let S10 : Ms := mP S 0 1
      S10
def F_X3_period (S : Ms) (p1 : Int32) : Ms :=
  if p1 < 0 then
    let S1 : Ms := mP S 0 1
    S1
  else
    if p1 ≤ 10000 then
      if (mO S 9) ≤ 0 then
        let S2 : Ms := mP S 0 0
        let S3 : Ms := mP S2 4 p1
        S3
      else
        let S4 : Ms := mP S 0 2
        S4
    else
      let S5 : Ms := mP S 0 1
      S5
def F_X3_process (S : Ms) (p1 : Int32) : Ms × Int32 :=
  if p1 < 0 then
    let S1 : Ms := mP S 0 1
    (S1, 0)
  else
    if p1 ≤ 20000 then
      if (mO S 9) ≤ 0 then
        let S2 : Ms := mP S 0 0
        if (mO S2 5) = 16 then
          (S2, (-1))
        else
          let S3 : Ms := mQ S2 6 (((mO S2 5)).toNatClampNeg) p1
          let S4 : Ms := mQ S3 7 (((mO S3 5)).toNatClampNeg) 0
          let S5 : Ms := mP S4 5 ((mO S4 5) + 1)
          (S5, (mO S5 5) - 1)
      else
        let S6 : Ms := mP S 0 2
        (S6, 0)
    else
      let S7 : Ms := mP S 0 1
      (S7, 0)
def F_X3_noProcess (S : Ms) (p1 : Int32) : Ms × Int32 :=
  if p1 < 0 then
    (S, 1)
  else
    if p1 < (mO S 5) then
      (S, 0)
    else
      (S, 1)
def F_X3_burst (S : Ms) (p1 : Int32) (p2 : Int32) : Ms × Int32 :=
  let S1 : Ms := (F_X3_noProcess S p1).1
  if ((F_X3_noProcess S p1).2) = 0 then
    if p2 < 1 then
      let S2 : Ms := mP S1 0 2
      (S2, 0)
    else
      if p2 ≤ 5000 then
        if (mO S1 9) ≤ 0 then
          let S3 : Ms := mP S1 0 0
          if (mA S3 7 ((p1).toNatClampNeg)) = 12 then
            (S3, (-1))
          else
            let S4 : Ms := mQ S3 8 (12 * (p1).toNatClampNeg + (mA S3 7 (p1).toNatClampNeg).toNatClampNeg) p2
            let S5 : Ms := mQ S4 7 ((p1).toNatClampNeg) ((mA S4 7 ((p1).toNatClampNeg)) + 1)
            (S5, mA S5 7 ((p1).toNatClampNeg))
        else
          let S6 : Ms := mP S1 0 3
          (S6, 0)
      else
        let S7 : Ms := mP S1 0 2
        (S7, 0)
  else
    let S8 : Ms := mP S1 0 1
    (S8, 0)
def F_X3_toEnd (S : Ms) (p1 : Int32) (p2 : Int32) : Ms :=
  let S1 : Ms := mQ S 20 (16 * (p1).toNatClampNeg + (mA S 21 (p1).toNatClampNeg).toNatClampNeg) p2
  let S2 : Ms := mQ S1 21 ((p1).toNatClampNeg) ((mA S1 21 ((p1).toNatClampNeg)) + 1)
  let S3 : Ms := mQ S2 11 ((p2).toNatClampNeg) 1
  S3
def B_X3_toFront_7 (p1 : Int32) (p2 : Int32) (n : Nat) (Z : Ms) : Ms :=
  let S1 : Ms := mQ Z 20 (16 * (p1).toNatClampNeg + (n + 1)) (mA Z 20 (16 * (p1).toNatClampNeg + n))
  S1
def F_X3_toFront (S : Ms) (p1 : Int32) (p2 : Int32) : Ms :=
  let S2 : Ms := itd (B_X3_toFront_7 p1 p2) ((mA S 21 (p1).toNatClampNeg).toNatClampNeg) S
  let S3 : Ms := mQ S2 20 (16 * (p1).toNatClampNeg) p2
  let S4 : Ms := mQ S3 21 ((p1).toNatClampNeg) ((mA S3 21 ((p1).toNatClampNeg)) + 1)
  let S5 : Ms := mQ S4 11 ((p2).toNatClampNeg) 1
  S5
def B_X3_takeFirst_22 (p1 : Int32)  (t : Nat) (Z : Ms) : Ms :=
  let S2 : Ms := mQ Z 20 (16 * (p1).toNatClampNeg + t) (mA Z 20 (16 * (p1).toNatClampNeg + t + 1))
  S2
def F_X3_takeFirst (S : Ms) (p1 : Int32) : Ms × Int32 :=
  let S1 : Ms := mQ S 21 ((p1).toNatClampNeg) ((mA S 21 ((p1).toNatClampNeg)) - 1)
  let S3 : Ms := itr (B_X3_takeFirst_22 p1) ((mA S1 21 (p1).toNatClampNeg).toNatClampNeg) 0 S1
  (S3, mA S 20 (16 * (p1).toNatClampNeg))
def F_X3_end (S : Ms) (p1 : Int32) (p2 : Int32) : Ms :=
  let S1 : Ms := mQ S 11 ((p1).toNatClampNeg) 4
  let S2 : Ms := mQ S1 19 (10 * (p1).toNatClampNeg + 6) p2
  let S3 : Ms := mQ S2 22 3 ((mA S2 22 3) + 1)
  S3
def L_X3_firstLevel_2  : Nat → Nat → Ms → Ms × Int32
  | 0, t, Z =>
    (Z, (-1))
  | n + 1, t, Z =>
    if (mA Z 21 t) ≤ 0 then
      L_X3_firstLevel_2 n (t + 1) Z
    else
      (Z, nI t)
def F_X3_firstLevel (S : Ms)  : Ms × Int32 :=
  L_X3_firstLevel_2 ((mO S 1).toNatClampNeg) 0 S
def F_X3_restart (S : Ms)  : Ms :=
  let S1 : Ms := mP S 0 0
  let S2 : Ms := F_X3_begin S1
  S2
def F_X3_time (S : Ms)  : Ms × Int32 :=
  let S1 : Ms := mP S 0 0
  (S1, mO S1 9)
def F_X3_running (S : Ms)  : Ms × Int32 :=
  let S1 : Ms := mP S 0 0
  (S1, mO S1 10)
def F_X3_told (S : Ms) (p1 : Int32) (p2 : Int32) : Ms × Int32 :=
  let S1 : Ms := (F_X3_noProcess S p1).1
  if ((F_X3_noProcess S p1).2) = 0 then
    if p2 < 0 then
      let S2 : Ms := mP S1 0 2
      (S2, 0)
    else
      if p2 ≤ 9 then
        let S3 : Ms := mP S1 0 0
        if p2 = 0 then
          (S3, mA S3 11 ((p1).toNatClampNeg))
        else
          if p2 = 1 then
            (S3, mA S3 12 ((p1).toNatClampNeg))
          else
            (S3, mA S3 19 (10 * (p1).toNatClampNeg + (p2).toNatClampNeg))
      else
        let S4 : Ms := mP S1 0 2
        (S4, 0)
  else
    let S5 : Ms := mP S1 0 1
    (S5, 0)
def F_X3_queued (S : Ms) (p1 : Int32) (p2 : Int32) : Ms × Int32 :=
  if p1 < 0 then
    let S1 : Ms := mP S 0 1
    (S1, 0)
  else
    if p1 < (mO S 1) then
      let S2 : Ms := mP S 0 0
      if p2 < 0 then
        (S2, (-1))
      else
        if p2 < (mA S2 21 ((p1).toNatClampNeg)) then
          (S2, mA S2 20 (16 * (p1).toNatClampNeg + (p2).toNatClampNeg))
        else
          (S2, (-1))
    else
      let S3 : Ms := mP S 0 1
      (S3, 0)
def F_X3_all (S : Ms) (p1 : Int32) : Ms × Int32 :=
  if p1 < 0 then
    let S1 : Ms := mP S 0 1
    (S1, 0)
  else
    if p1 ≤ 3 then
      let S2 : Ms := mP S 0 0
      (S2, mA S2 22 ((p1).toNatClampNeg))
    else
      let S3 : Ms := mP S 0 1
      (S3, 0)
def F_X3_switched (S : Ms) (p1 : Int32) : Ms × Int32 :=
  if p1 < 0 then
    let S1 : Ms := mP S 0 1
    (S1, 0)
  else
    if (mA S 22 0) ≤ p1 then
      let S2 : Ms := mP S 0 1
      (S2, 0)
    else
      if p1 < 400 then
        let S3 : Ms := mP S 0 0
        (S3, mA S3 23 ((p1).toNatClampNeg))
      else
        let S4 : Ms := mP S 0 1
        (S4, 0)
def B_X3_count_2   (t : Nat) (Z : Ms) : Ms :=
  if (mA Z 11 t) = 1 then
    let S2 : Ms := mQ Z 19 (10 * t + 3) ((mA Z 19 (10 * t + 3)) + 1)
    S2
  else
    if (mA Z 11 t) = 3 then
      let S1 : Ms := mQ Z 19 (10 * t + 4) ((mA Z 19 (10 * t + 4)) + 1)
      S1
    else
      Z
def F_X3_count (S : Ms)  : Ms :=
  let S3 : Ms := itr B_X3_count_2 ((mO S 5).toNatClampNeg) 0 S
  S3
def B_X3_come_2 (p1 : Int32)  (t : Nat) (Z : Ms) : Ms :=
  if (mA Z 6 t) = p1 then
    if (mA Z 7 t) = 0 then
      let S9 : Ms := F_X3_end Z (nI t) p1
      S9
    else
      if (mA Z 6 t) = p1 then
        let S5 : Ms := mQ Z 12 t 0
        let S6 : Ms := mQ S5 16 t (mA S5 3 0)
        let S7 : Ms := mQ S6 14 t (mA S6 8 (12 * t))
        let S8 : Ms := F_X3_toEnd S7 0 (nI t)
        S8
      else
        Z
  else
    if (mA Z 6 t) = p1 then
      let S1 : Ms := mQ Z 12 t 0
      let S2 : Ms := mQ S1 16 t (mA S1 3 0)
      let S3 : Ms := mQ S2 14 t (mA S2 8 (12 * t))
      let S4 : Ms := F_X3_toEnd S3 0 (nI t)
      S4
    else
      Z
def F_X3_come (S : Ms) (p1 : Int32) : Ms :=
  let S10 : Ms := itr (B_X3_come_2 p1) ((mO S 5).toNatClampNeg) 0 S
  S10
def B_X3_comeBack_2 (p1 : Int32)  (t : Nat) (Z : Ms) : Ms :=
  if (mA Z 11 t) = 3 then
    if (mA Z 18 t) = p1 then
      let S1 : Ms := mQ Z 13 t ((mA Z 13 t) + 1)
      if (mA S1 13 t) = (mA S1 7 t) then
        let S4 : Ms := F_X3_end S1 (nI t) p1
        S4
      else
        let S2 : Ms := mQ S1 14 t (mA S1 8 (12 * t + (mA S1 13 t).toNatClampNeg))
        let S3 : Ms := F_X3_toEnd S2 (mA S2 12 t) (nI t)
        S3
    else
      Z
  else
    Z
def F_X3_comeBack (S : Ms) (p1 : Int32) : Ms :=
  let S5 : Ms := itr (B_X3_comeBack_2 p1) ((mO S 5).toNatClampNeg) 0 S
  S5
def B_X3_allUp_20  (t : Nat) (nx : Nat) (Zx : Ms) : Ms :=
  let S2 : Ms := (F_X3_takeFirst Zx (nI t)).1
  let S3 : Ms := F_X3_toEnd S2 0 ((F_X3_takeFirst Zx (nI t)).2)
  S3
def B_X3_allUp_12   (t : Nat) (Z : Ms) : Ms :=
  let S4 : Ms := itd (B_X3_allUp_20 t) ((mA Z 21 t).toNatClampNeg) Z
  S4
def B_X3_allUp_50   (t : Nat) (Z : Ms) : Ms :=
  if (mA Z 11 t) = 0 then
    Z
  else
    if (mA Z 11 t) = 4 then
      Z
    else
      let S6 : Ms := mQ Z 12 t 0
      let S7 : Ms := mQ S6 16 t (mA S6 3 0)
      if (mA S7 17 t) = 0 then
        S7
      else
        if (mA S7 15 t) ≤ (mA S7 2 0) then
          S7
        else
          let S8 : Ms := mQ S7 15 t (mA S7 2 0)
          S8
def F_X3_allUp (S : Ms)  : Ms :=
  let S1 : Ms := mQ S 22 2 ((mA S 22 2) + 1)
  let S5 : Ms := itr B_X3_allUp_12 ((mO S1 1).toNatClampNeg - 1) 1 S1
  let S9 : Ms := itr B_X3_allUp_50 ((mO S5 5).toNatClampNeg) 0 S5
  if (mO S9 10) < 0 then
    S9
  else
    let S10 : Ms := mQ S9 15 (((mO S9 10)).toNatClampNeg) (mA S9 2 0)
    S10
def G_X3_choose_208 (Y : Ms) (p1 : Int32) (p9 : Int32) : Ms :=
  if 400 ≤ (mA Y 22 0) then
    let S1 : Ms := mQ Y 22 0 ((mA Y 22 0) + 1)
    S1
  else
    let S2 : Ms := mQ Y 23 (((mA Y 22 0)).toNatClampNeg) ((16 * p1) + p9)
    let S3 : Ms := mQ S2 22 0 ((mA S2 22 0) + 1)
    S3
def G_X3_choose_145 (Y : Ms) (p1 : Int32) (p9 : Int32) : Ms :=
  let S4 : Ms := mQ Y 17 ((p9).toNatClampNeg) 0
  let S5 : Ms := mQ S4 19 (10 * (p9).toNatClampNeg + 7) ((mA S4 19 (10 * (p9).toNatClampNeg + 7)) + 1)
  if 0 ≤ (mA S5 19 (10 * (p9).toNatClampNeg + 5)) then
    let S6 : Ms := mQ S5 19 (10 * (p9).toNatClampNeg + 5) (mA S5 19 (10 * (p9).toNatClampNeg + 5))
    G_X3_choose_208 S6 p1 p9
  else
    let S7 : Ms := mQ S5 19 (10 * (p9).toNatClampNeg + 5) p1
    G_X3_choose_208 S7 p1 p9
def G_X3_choose_103 (Y : Ms) (p1 : Int32) (p9 : Int32) : Ms :=
  let S8 : Ms := mQ Y 11 ((p9).toNatClampNeg) 2
  if (mA S8 17 ((p9).toNatClampNeg)) = 0 then
    let S9 : Ms := mQ S8 15 ((p9).toNatClampNeg) (mA S8 2 ((mA S8 12 (p9).toNatClampNeg).toNatClampNeg))
    G_X3_choose_145 S9 p1 p9
  else
    let S10 : Ms := mQ S8 15 ((p9).toNatClampNeg) (mA S8 15 ((p9).toNatClampNeg))
    G_X3_choose_145 S10 p1 p9
def G_X3_choose_80 (Y : Ms) (p1 : Int32) (p8 : Int32) : Ms :=
  if 0 ≤ (mO Y 10) then
    Y
  else
    if 0 ≤ p8 then
      let S11 : Ms := (F_X3_takeFirst Y p8).1
      let S12 : Ms := mP S11 10 ((F_X3_takeFirst Y p8).2)
      G_X3_choose_103 S12 p1 ((F_X3_takeFirst Y p8).2)
    else
      Y
def F_X3_choose (S : Ms) (p1 : Int32) : Ms :=
  let S13 : Ms := (F_X3_firstLevel S).1
  if (mO S13 10) < 0 then
    G_X3_choose_80 S13 p1 ((F_X3_firstLevel S).2)
  else
    if ((F_X3_firstLevel S).2) < 0 then
      G_X3_choose_80 S13 p1 ((F_X3_firstLevel S).2)
    else
      if (mA S13 12 ((mO S13 10).toNatClampNeg)) ≤ ((F_X3_firstLevel S).2) then
        G_X3_choose_80 S13 p1 ((F_X3_firstLevel S).2)
      else
        let S14 : Ms := mQ S13 17 ((mO S13 10).toNatClampNeg) 1
        let S15 : Ms := mQ S14 19 (10 * (mO S14 10).toNatClampNeg + 9) ((mA S14 19 (10 * (mO S14 10).toNatClampNeg + 9)) + 1)
        let S16 : Ms := F_X3_toFront S15 (mA S15 12 ((mO S15 10).toNatClampNeg)) (mO S15 10)
        let S17 : Ms := mP S16 10 ((-1))
        G_X3_choose_80 S17 p1 ((F_X3_firstLevel S).2)
def F_X3_work (S : Ms) (p1 : Int32) : Ms :=
  let S1 : Ms := mQ S 19 (10 * (mO S 10).toNatClampNeg + 2) ((mA S 19 (10 * (mO S 10).toNatClampNeg + 2)) + 1)
  let S2 : Ms := mQ S1 14 ((mO S 10).toNatClampNeg) ((mA S1 14 ((mO S 10).toNatClampNeg)) - 1)
  let S3 : Ms := mQ S2 15 ((mO S 10).toNatClampNeg) ((mA S2 15 ((mO S 10).toNatClampNeg)) - 1)
  let S4 : Ms := mQ S3 16 ((mO S 10).toNatClampNeg) ((mA S3 16 ((mO S 10).toNatClampNeg)) - 1)
  if (mA S4 14 ((mO S 10).toNatClampNeg)) = 0 then
    let S14 : Ms := mP S4 10 ((-1))
    let S15 : Ms := mQ S14 13 ((mO S 10).toNatClampNeg) ((mA S14 13 ((mO S 10).toNatClampNeg)) + 1)
    if (mA S15 13 ((mO S 10).toNatClampNeg)) = (mA S15 7 ((mO S 10).toNatClampNeg)) then
      let S18 : Ms := F_X3_end S15 (mO S 10) (p1 + 1)
      S18
    else
      let S16 : Ms := mQ S15 11 ((mO S 10).toNatClampNeg) 3
      let S17 : Ms := mQ S16 18 ((mO S 10).toNatClampNeg) ((p1 + 1) + (mA S16 8 (12 * (mO S 10).toNatClampNeg + (mA S16 13 (mO S 10).toNatClampNeg).toNatClampNeg)))
      S17
  else
    if 0 < (mA S4 16 ((mO S 10).toNatClampNeg)) then
      if (mA S4 15 ((mO S 10).toNatClampNeg)) = 0 then
        let S5 : Ms := mP S4 10 ((-1))
        let S6 : Ms := F_X3_toEnd S5 (mA S5 12 ((mO S 10).toNatClampNeg)) (mO S 10)
        S6
      else
        S4
    else
      let S7 : Ms := mP S4 10 ((-1))
      if ((mO S7 1) - 1) ≤ (mA S7 12 ((mO S 10).toNatClampNeg)) then
        let S8 : Ms := mQ S7 16 ((mO S 10).toNatClampNeg) (mA S7 3 ((mA S7 12 (mO S 10).toNatClampNeg).toNatClampNeg))
        let S9 : Ms := F_X3_toEnd S8 (mA S8 12 ((mO S 10).toNatClampNeg)) (mO S 10)
        S9
      else
        let S10 : Ms := mQ S7 12 ((mO S 10).toNatClampNeg) ((mA S7 12 ((mO S 10).toNatClampNeg)) + 1)
        let S11 : Ms := mQ S10 19 (10 * (mO S 10).toNatClampNeg + 8) ((mA S10 19 (10 * (mO S 10).toNatClampNeg + 8)) + 1)
        let S12 : Ms := mQ S11 16 ((mO S 10).toNatClampNeg) (mA S11 3 ((mA S11 12 (mO S 10).toNatClampNeg).toNatClampNeg))
        let S13 : Ms := F_X3_toEnd S12 (mA S12 12 ((mO S 10).toNatClampNeg)) (mO S 10)
        S13
def L_X3_run_35 (p1 : Int32) : Nat → Nat → Ms → Int32 → Ms × Int32
  | 0, t, Z, w =>
    (Z, w)
  | n + 1, t, Z, w =>
    if (mO Z 4) ≤ 0 then
      let S4 : Ms := F_X3_come Z (mO Z 9)
      let S5 : Ms := F_X3_comeBack S4 (mO Z 9)
      let S6 : Ms := F_X3_choose S5 (mO Z 9)
      let S7 : Ms := F_X3_count S6
      if (mO S7 10) < 0 then
        let S8 : Ms := mQ S7 22 1 ((mA S7 22 1) + 1)
        let S9 : Ms := mP S8 9 ((mO S8 9) + 1)
        L_X3_run_35 p1 n (t + 1) S9 (w + 1)
      else
        let S10 : Ms := F_X3_work S7 (mO Z 9)
        let S11 : Ms := mP S10 9 ((mO S10 9) + 1)
        L_X3_run_35 p1 n (t + 1) S11 w
    else
      if (mO Z 9) ≤ 0 then
        let S12 : Ms := F_X3_come Z (mO Z 9)
        let S13 : Ms := F_X3_comeBack S12 (mO Z 9)
        let S14 : Ms := F_X3_choose S13 (mO Z 9)
        let S15 : Ms := F_X3_count S14
        if (mO S15 10) < 0 then
          let S16 : Ms := mQ S15 22 1 ((mA S15 22 1) + 1)
          let S17 : Ms := mP S16 9 ((mO S16 9) + 1)
          L_X3_run_35 p1 n (t + 1) S17 (w + 1)
        else
          let S18 : Ms := F_X3_work S15 (mO Z 9)
          let S19 : Ms := mP S18 9 ((mO S18 9) + 1)
          L_X3_run_35 p1 n (t + 1) S19 w
      else
        if ((mO Z 9) - (mO Z 9) / (mO Z 4) * (mO Z 4)) = 0 then
          let S28 : Ms := F_X3_allUp Z
          let S29 : Ms := F_X3_come S28 (mO Z 9)
          let S30 : Ms := F_X3_comeBack S29 (mO Z 9)
          let S31 : Ms := F_X3_choose S30 (mO Z 9)
          let S32 : Ms := F_X3_count S31
          if (mO S32 10) < 0 then
            let S33 : Ms := mQ S32 22 1 ((mA S32 22 1) + 1)
            let S34 : Ms := mP S33 9 ((mO S33 9) + 1)
            L_X3_run_35 p1 n (t + 1) S34 (w + 1)
          else
            let S35 : Ms := F_X3_work S32 (mO Z 9)
            let S36 : Ms := mP S35 9 ((mO S35 9) + 1)
            L_X3_run_35 p1 n (t + 1) S36 w
        else
          let S20 : Ms := F_X3_come Z (mO Z 9)
          let S21 : Ms := F_X3_comeBack S20 (mO Z 9)
          let S22 : Ms := F_X3_choose S21 (mO Z 9)
          let S23 : Ms := F_X3_count S22
          if (mO S23 10) < 0 then
            let S24 : Ms := mQ S23 22 1 ((mA S23 22 1) + 1)
            let S25 : Ms := mP S24 9 ((mO S24 9) + 1)
            L_X3_run_35 p1 n (t + 1) S25 (w + 1)
          else
            let S26 : Ms := F_X3_work S23 (mO Z 9)
            let S27 : Ms := mP S26 9 ((mO S26 9) + 1)
            L_X3_run_35 p1 n (t + 1) S27 w
def F_X3_run (S : Ms) (p1 : Int32) : Ms × Int32 :=
  if p1 < 0 then
    let S1 : Ms := mP S 0 1
    if p1 ≤ 0 then
      (S1, 0)
    else
      (S1, 0)
  else
    if 30000 < p1 then
      let S2 : Ms := mP S 0 1
      if p1 ≤ 0 then
        (S2, 0)
      else
        (S2, 0)
    else
      if ((mO S 9) + p1) ≤ 100000 then
        let S3 : Ms := mP S 0 0
        L_X3_run_35 p1 ((p1).toNatClampNeg) 0 S3 0
      else
        let S37 : Ms := mP S 0 1
        if p1 ≤ 0 then
          (S37, 0)
        else
          (S37, 0)
end
section
/-! what holds of the model's state at every call -/
abbrev sZ (M : Ms) (l : Nat) : Nat := (mA M 21 l).toNatClampNeg
/-- the queues: no longer than 16, their entries are processes that are ready, no two alike -/
def qOK (N : Nat) (M : Ms) : Prop := (∀ l, l < 6 → ub 16 (mA M 21 l)) ∧ (∀ l k, l < 6 → k < sZ M l → ∃ q, q < N ∧ mA M 20 (16 * l + k) = nI q ∧ mA M 11 q = 1) ∧ (∀ l k l2 k2, l < 6 → l2 < 6 → k < sZ M l → k2 < sZ M l2 → mA M 20 (16 * l + k) = mA M 20 (16 * l2 + k2) → l = l2 ∧ k = k2)
/-- a process, by its state -/
def uOK (N L : Nat) (M : Ms) (u : Nat) : Prop := (∃ v, v < L ∧ mA M 12 u = nI v) ∧ ub 12 (mA M 7 u) ∧ (mA M 11 u = 0 → mA M 13 u = 0) ∧ (mA M 11 u = 0 ∨ mA M 11 u = 4 ∧ u < N ∨ (mA M 11 u = 1 ∨ mA M 11 u = 2 ∨ mA M 11 u = 3) ∧ u < N ∧ ∃ a c, mA M 13 u = nI a ∧ mA M 7 u = nI c ∧ a < c ∧ c ≤ 12)
def okM (N L b : Nat) (M : Ms) : Prop := mO M 5 = nI N ∧ mO M 1 = nI L ∧ N ≤ 16 ∧ 1 ≤ L ∧ L ≤ 6 ∧ ub b (mA M 22 0) ∧ (∀ u, u < 16 → uOK N L M u) ∧ (mO M 10 = -1 ∨ ∃ r, r < N ∧ mO M 10 = nI r ∧ mA M 11 r = 2) ∧ qOK N M
section OKM
variable {N L b : Nat} {S : Ms}
theorem okM_N (h : okM N L b S) : (mO S 5).toNatClampNeg = N := by rw [h.1]; have := h.2.2.1; exact nI_clamp (by omega)
theorem okM_L (h : okM N L b S) : (mO S 1).toNatClampNeg = L := by rw [h.2.1]; have := h.2.2.2.2.1; exact nI_clamp (by omega)
theorem okM_u (h : okM N L b S) {u : Nat} (hu : u < 16) : uOK N L S u := h.2.2.2.2.2.2.1 u hu
theorem okM_q (h : okM N L b S) : qOK N S := h.2.2.2.2.2.2.2.2
theorem okM_run (h : okM N L b S) : mO S 10 = -1 ∨ ∃ r, r < N ∧ mO S 10 = nI r ∧ mA S 11 r = 2 := h.2.2.2.2.2.2.2.1
theorem okM_l1 (h : okM N L b S) {x : Int32} (h0 : ¬ x < 0) (hc : x < mO S 1) : ix x x.toNatClampNeg 6 := by
  obtain ⟨j, hj, rfl⟩ := nI_of h0
  have hL := h.2.2.2.2.1
  rw [h.2.1] at hc
  have := (nI_ltI hj (by omega)).mp hc
  rw [nI_clamp hj]
  exact ix_nI (by omega) (by omega)
theorem okM_np (h : okM N L b S) (hc : ¬ mO S 5 = 16) : ix (mO S 5) (mO S 5).toNatClampNeg 16 := by
  have h1 := h.2.2.1
  have h2 := okM_N h
  have h3 : N ≠ 16 := fun q => hc (by rw [h.1, q]; decide)
  rw [h2, h.1]
  exact ix_nI (by omega) (by omega)
theorem noP_ixN (h : okM N L b S) {x : Int32} (hc : (F_X3_noProcess S x).2 = 0) : ix x x.toNatClampNeg N := by
  unfold F_X3_noProcess at hc
  by_cases c1 : x < 0
  · rw [if_pos c1] at hc; exact absurd hc (show ¬ (1 : Int32) = 0 from by decide)
  · rw [if_neg c1] at hc
    by_cases c2 : x < mO S 5
    · obtain ⟨j, hj, rfl⟩ := nI_of c1
      have hN := h.2.2.1
      rw [h.1] at c2
      have := (nI_ltI hj (by omega)).mp c2
      rw [nI_clamp hj]
      exact ix_nI (by omega) (by omega)
    · rw [if_neg c2] at hc; exact absurd hc (show ¬ (1 : Int32) = 0 from by decide)
theorem noP_ix (h : okM N L b S) {x : Int32} (hc : (F_X3_noProcess S x).2 = 0) : ix x x.toNatClampNeg 16 := by
  obtain ⟨h1, h2, h3⟩ := noP_ixN h hc
  exact ⟨h1, h2, Nat.lt_of_lt_of_le h3 h.2.2.1⟩
theorem noP_fst {S : Ms} {x : Int32} : (F_X3_noProcess S x).1 = S := by
  unfold F_X3_noProcess
  repeat' split
  all_goals rfl
theorem ok_X3_noProcess (h : okM N L b S) {x : Int32} : okM N L b (F_X3_noProcess S x).1 := by rw [noP_fst]; exact h
theorem okM_bx (h : okM N L b S) {x : Int32} (hx : ix x x.toNatClampNeg 16) (hc : ¬ mA S 7 x.toNatClampNeg = 12) : ix (12 * x + mA S 7 x.toNatClampNeg) (12 * x.toNatClampNeg + (mA S 7 x.toNatClampNeg).toNatClampNeg) 192 := by
  have h1 := (okM_u h hx.2.2).2.1
  have h2 := ub_le h1 (by omega)
  have h3 := ub_nI h1 (by omega)
  have h4 : (mA S 7 x.toNatClampNeg).toNatClampNeg ≠ 12 := fun q => hc (by rw [h3, q]; decide)
  have h5 := hx.2.2
  exact ix_lin (by decide) hx.nI h3 (by omega) (by omega)
theorem le_ix {x M : Int32} {n : Nat} (hM : M.toInt = n) (hn : n < 2 ^ 30) (h0 : ¬ x < 0) (h : x ≤ M) : ix x x.toNatClampNeg (n + 1) := by
  obtain ⟨j, hj, rfl⟩ := nI_of2 hM h0 h
  rw [nI_clamp (by omega)]
  exact ix_nI (by omega) (by omega)
theorem told_ix {x y : Int32} (hx : ix x x.toNatClampNeg 16) (h0 : ¬ y < 0) (h9 : y ≤ 9) : ix (10 * x + y) (10 * x.toNatClampNeg + y.toNatClampNeg) 160 := by
  have h1 := le_ix (n := 9) (by decide) (by omega) h0 h9
  have h2 := h1.2.2
  have h3 := hx.2.2
  exact ix_lin (by decide) hx.nI h1.nI (by omega) (by omega)
theorem all_ix {x : Int32} (h0 : ¬ x < 0) (h3 : x ≤ 3) : ix x x.toNatClampNeg 4 := le_ix (n := 3) (by decide) (by omega) h0 h3
theorem sw_ix {x : Int32} (h0 : ¬ x < 0) (h : x < 400) : ix x x.toNatClampNeg 400 := by
  obtain ⟨j, hj, rfl⟩ := nI_of h0
  have := (nI_ltI (a := j) (b := 400) hj (by omega)).mp h
  rw [nI_clamp hj]
  exact ix_nI (by omega) (by omega)
theorem okM_qx (h : okM N L b S) {x y : Int32} (hx : ix x x.toNatClampNeg 6) (h0 : ¬ y < 0) (hc : y < mA S 21 x.toNatClampNeg) : ix (16 * x + y) (16 * x.toNatClampNeg + y.toNatClampNeg) 96 := by
  have h1 := (okM_q h).1 _ hx.2.2
  obtain ⟨j, hj, rfl⟩ := nI_of h0
  obtain ⟨z, hz, hz2⟩ := h1
  rw [hz2] at hc
  have h2 := (nI_ltI hj (by omega)).mp hc
  have h3 := hx.2.2
  rw [nI_clamp hj]
  exact ix_lin (by decide) hx.nI rfl (by omega) (by omega)
theorem okM_mP (h : okM N L b S) {j : Nat} {v : Int32} (hj : j ≠ 1 ∧ j ≠ 5 ∧ j ≠ 10) : okM N L b (mP S j v) := by
  obtain ⟨h1, h2, h3, h4, h5, h6, h7, h8, h9⟩ := h
  refine ⟨?_, ?_, h3, h4, h5, h6, h7, ?_, h9⟩
  · rw [mO_mP, if_neg (Ne.symm hj.2.1)]; exact h1
  · rw [mO_mP, if_neg (Ne.symm hj.1)]; exact h2
  · rw [mO_mP, if_neg (Ne.symm hj.2.2)]; exact h8
theorem mA_ne (S : Ms) {a a2 : Nat} (k : Nat) (v : Int32) (k2 : Nat) (h : a2 ≠ a) : mA (mQ S a k v) a2 k2 = mA S a2 k2 := by rw [mA_mQ, if_neg (fun q => h q.1)]
theorem mA_eq (S : Ms) (a k : Nat) (v : Int32) : mA (mQ S a k v) a k = v := by rw [mA_mQ, if_pos ⟨rfl, rfl⟩]
theorem mA_nk (S : Ms) (a : Nat) {k k2 : Nat} (v : Int32) (a2 : Nat) (h : k2 ≠ k) : mA (mQ S a k v) a2 k2 = mA S a2 k2 := by rw [mA_mQ, if_neg (fun q => h q.2)]
theorem okM_mQ (h : okM N L b S) {a k : Nat} {v : Int32} (ha : a ≠ 7 ∧ a ≠ 11 ∧ a ≠ 12 ∧ a ≠ 13 ∧ a ≠ 20 ∧ a ≠ 21 ∧ a ≠ 22) : okM N L b (mQ S a k v) := by
  obtain ⟨h1, h2, h3, h4, h5, h6, h7, h8, h9⟩ := h
  have e7 := fun k2 => mA_ne S k v k2 (a2 := 7) (Ne.symm ha.1)
  have e11 := fun k2 => mA_ne S k v k2 (a2 := 11) (Ne.symm ha.2.1)
  have e12 := fun k2 => mA_ne S k v k2 (a2 := 12) (Ne.symm ha.2.2.1)
  have e13 := fun k2 => mA_ne S k v k2 (a2 := 13) (Ne.symm ha.2.2.2.1)
  have e20 := fun k2 => mA_ne S k v k2 (a2 := 20) (Ne.symm ha.2.2.2.2.1)
  have e21 := fun k2 => mA_ne S k v k2 (a2 := 21) (Ne.symm ha.2.2.2.2.2.1)
  have e22 := fun k2 => mA_ne S k v k2 (a2 := 22) (Ne.symm ha.2.2.2.2.2.2)
  refine ⟨h1, h2, h3, h4, h5, by rw [e22]; exact h6, fun u hu => ?_, ?_, ?_⟩
  · unfold uOK
    rw [e12, e7, e11, e13]
    exact h7 u hu
  · rcases h8 with q | ⟨r, q1, q2, q3⟩
    · exact Or.inl q
    · exact Or.inr ⟨r, q1, q2, by rw [e11]; exact q3⟩
  · unfold qOK sZ
    simp only [e20, e21, e11]
    exact h9
theorem ok_B_count {t : Nat} (h : okM N L b S) : okM N L b (B_X3_count_2 t S) := by
  unfold B_X3_count_2
  dsimp only
  repeat' split
  · exact okM_mQ h (by decide)
  · exact okM_mQ h (by decide)
  · exact h
theorem ok_X3_count (h : okM N L b S) : okM N L b (F_X3_count S) :=
  itr_ind (P := okM N L b) _ _ _ h (fun k Z _ _ hZ => ok_B_count hZ)
end OKM
end
section
/-! pigeons -/
theorem pig : ∀ (n z : Nat) (f : Nat → Nat), (∀ k, k < z → f k < n) → (∀ j k, j < z → k < z → f j = f k → j = k) → z ≤ n := by
  intro n
  induction n with
  | zero =>
    intro z f h _
    rcases Nat.eq_zero_or_pos z with q | q
    · omega
    · exact absurd (h 0 q) (by omega)
  | succ n ih =>
    intro z f h hi
    cases z with
    | zero => omega
    | succ z =>
      -- take the last pigeon away, and let whoever sits at n take its hole
      have h1 := ih z (fun k => if f k = n then f z else f k) (fun k hk => by
        have a := h k (by omega)
        have c := h z (by omega)
        by_cases q : f k = n
        · have : f z ≠ n := fun e => by have := hi k z (by omega) (by omega) (by rw [q, e]); omega
          simp only [q, if_true]; omega
        · simp only [q, if_false]; omega) (fun j k hj hk e => by
        by_cases q : f j = n
        · by_cases r : f k = n
          · exact hi j k (by omega) (by omega) (by rw [q, r])
          · simp only [q, r, if_true, if_false] at e
            have := hi z k (by omega) (by omega) e
            omega
        · by_cases r : f k = n
          · simp only [q, r, if_true, if_false] at e
            have := hi j z (by omega) (by omega) e
            omega
          · simp only [q, r, if_false] at e
            exact hi j k (by omega) (by omega) e)
      omega
/-- u stands in no queue -/
def notin (M : Ms) (u : Nat) : Prop := ∀ l k, l < 6 → k < sZ M l → ¬ mA M 20 (16 * l + k) = nI u
section QQ
variable {N : Nat} {M : Ms}
theorem qOK_sz (h : qOK N M) {l : Nat} (hl : l < 6) : sZ M l ≤ 16 := ub_le (h.1 l hl) (by omega)
theorem qOK_15 (h : qOK N M) (hN : N ≤ 16) {u l : Nat} (hu : u < N) (hl : l < 6) (hn : notin M u) : ub 15 (mA M 21 l) := by
  have h1 := h.1 l hl
  have h2 := qOK_sz h hl
  refine ⟨sZ M l, ?_, ub_nI h1 (by omega)⟩
  have h3 := pig N (sZ M l + 1) (fun k => if k < sZ M l then (mA M 20 (16 * l + k)).toNatClampNeg else u) (fun k hk => by
    by_cases q : k < sZ M l
    · obtain ⟨r, r1, r2, -⟩ := h.2.1 l k hl q
      simp only [q, if_true]
      rw [r2, nI_clamp (by omega)]; exact r1
    · simp only [q, if_false]; exact hu) (fun j k hj hk e => by
    by_cases q : j < sZ M l
    · obtain ⟨r, r1, r2, -⟩ := h.2.1 l j hl q
      by_cases p : k < sZ M l
      · obtain ⟨x, x1, x2, -⟩ := h.2.1 l k hl p
        simp only [q, p, if_true] at e
        rw [r2, x2, nI_clamp (by omega), nI_clamp (by omega)] at e
        exact (h.2.2 l j l k hl hl q p (by rw [r2, x2, e])).2
      · simp only [q, p, if_true, if_false] at e
        rw [r2, nI_clamp (by omega)] at e
        exact absurd (by rw [r2, e]) (hn l j hl q)
    · by_cases p : k < sZ M l
      · obtain ⟨x, x1, x2, -⟩ := h.2.1 l k hl p
        simp only [q, p, if_true, if_false] at e
        rw [x2, nI_clamp (by omega)] at e
        exact absurd (by rw [x2, ← e]) (hn l k hl p)
      · omega)
  omega
theorem notin_of (h : qOK N M) (hN : N ≤ 16) {u : Nat} (hu : u < 16) (hs : ¬ mA M 11 u = 1) : notin M u := by
  intro l k hl hk e
  obtain ⟨q, q1, q2, q3⟩ := h.2.1 l k hl hk
  have : q = u := (nI_eq (by omega) (by omega)).mp (by rw [← q2, e])
  rw [this] at q3
  exact hs q3
/-- queue l gets u at its end; nobody else's state changes -/
theorem qOK_end (h : qOK N M) (hN : N ≤ 16) {M2 : Ms} {l u : Nat} (hl : l < 6) (hu : u < N) (hn : notin M u)
    (h21 : ∀ i, i < 6 → mA M2 21 i = if i = l then nI (sZ M l + 1) else mA M 21 i)
    (h20 : ∀ i k, i < 6 → k < 16 → mA M2 20 (16 * i + k) = if i = l ∧ k = sZ M l then nI u else mA M 20 (16 * i + k))
    (h11 : ∀ i, i < 16 → mA M2 11 i = if i = u then 1 else mA M 11 i) : qOK N M2 := by
  have h15 : sZ M l ≤ 15 := ub_le (qOK_15 h hN hu hl hn) (by omega)
  have hzl : sZ M2 l = sZ M l + 1 := by show (mA M2 21 l).toNatClampNeg = _; rw [h21 l hl, if_pos rfl, nI_clamp (by omega)]
  have hzo : ∀ i, i < 6 → i ≠ l → sZ M2 i = sZ M i := fun i hi hne => by show (mA M2 21 i).toNatClampNeg = _; rw [h21 i hi, if_neg hne]
  -- the old entries
  have hold : ∀ i k, i < 6 → k < sZ M i → mA M2 20 (16 * i + k) = mA M 20 (16 * i + k) := fun i k hi hk => by
    have := qOK_sz h hi
    rw [h20 i k hi (by omega), if_neg (fun q => by rw [q.1, q.2] at hk; omega)]
  have hnew : mA M2 20 (16 * l + sZ M l) = nI u := by rw [h20 l _ hl (by omega), if_pos ⟨rfl, rfl⟩]
  have hcase : ∀ i k, i < 6 → k < sZ M2 i → k < sZ M i ∨ (i = l ∧ k = sZ M l) := fun i k hi hk => by
    by_cases e : i = l
    · subst e; rw [hzl] at hk; omega
    · rw [hzo i hi e] at hk; exact Or.inl hk
  refine ⟨fun i hi => ?_, fun i k hi hk => ?_, fun i k i2 k2 hi hi2 hk hk2 e => ?_⟩
  · rw [h21 i hi]
    by_cases e : i = l
    · rw [if_pos e]; exact ⟨_, by omega, rfl⟩
    · rw [if_neg e]; exact h.1 i hi
  · rcases hcase i k hi hk with q | ⟨q1, q2⟩
    · obtain ⟨r, r1, r2, r3⟩ := h.2.1 i k hi q
      refine ⟨r, r1, by rw [hold i k hi q]; exact r2, ?_⟩
      rw [h11 r (by omega)]
      by_cases e : r = u
      · rw [if_pos e]
      · rw [if_neg e]; exact r3
    · rw [q1, q2]
      exact ⟨u, hu, hnew, by rw [h11 u (by omega), if_pos rfl]⟩
  · rcases hcase i k hi hk with q | ⟨q1, q2⟩
    · rcases hcase i2 k2 hi2 hk2 with r | ⟨r1, r2⟩
      · rw [hold i k hi q, hold i2 k2 hi2 r] at e
        exact h.2.2 i k i2 k2 hi hi2 q r e
      · rw [r1, r2, hnew, hold i k hi q] at e
        exact absurd e (hn i k hi q)
    · rcases hcase i2 k2 hi2 hk2 with r | ⟨r1, r2⟩
      · rw [q1, q2, hnew, hold i2 k2 hi2 r] at e
        exact absurd e.symm (hn i2 k2 hi2 r)
      · exact ⟨by rw [q1, r1], by rw [q2, r2]⟩
/-- queue l gets u at its front -/
theorem qOK_front (h : qOK N M) (hN : N ≤ 16) {M2 : Ms} {l u : Nat} (hl : l < 6) (hu : u < N) (hn : notin M u)
    (h21 : ∀ i, i < 6 → mA M2 21 i = if i = l then nI (sZ M l + 1) else mA M 21 i)
    (h20 : ∀ i k, i < 6 → k < 16 → mA M2 20 (16 * i + k) = if i = l then (if k = 0 then nI u else if k ≤ sZ M l then mA M 20 (16 * l + (k - 1)) else mA M 20 (16 * i + k)) else mA M 20 (16 * i + k))
    (h11 : ∀ i, i < 16 → mA M2 11 i = if i = u then 1 else mA M 11 i) : qOK N M2 := by
  have h15 : sZ M l ≤ 15 := ub_le (qOK_15 h hN hu hl hn) (by omega)
  have hzl : sZ M2 l = sZ M l + 1 := by show (mA M2 21 l).toNatClampNeg = _; rw [h21 l hl, if_pos rfl, nI_clamp (by omega)]
  have hzo : ∀ i, i < 6 → i ≠ l → sZ M2 i = sZ M i := fun i hi hne => by show (mA M2 21 i).toNatClampNeg = _; rw [h21 i hi, if_neg hne]
  have hnew : mA M2 20 (16 * l + 0) = nI u := by rw [h20 l 0 hl (by omega), if_pos rfl, if_pos rfl]
  -- what stands at place k of queue i in M2
  have hcase : ∀ i k, i < 6 → k < sZ M2 i → (i = l ∧ k = 0) ∨ (i = l ∧ 0 < k ∧ k - 1 < sZ M l ∧ mA M2 20 (16 * i + k) = mA M 20 (16 * l + (k - 1))) ∨ (i ≠ l ∧ k < sZ M i ∧ mA M2 20 (16 * i + k) = mA M 20 (16 * i + k)) := fun i k hi hk => by
    by_cases e : i = l
    · subst e
      rw [hzl] at hk
      by_cases k0 : k = 0
      · exact Or.inl ⟨rfl, k0⟩
      · refine Or.inr (Or.inl ⟨rfl, by omega, by omega, ?_⟩)
        rw [h20 i k hi (by omega), if_pos rfl, if_neg k0, if_pos (by omega)]
    · rw [hzo i hi e] at hk
      have := qOK_sz h hi
      refine Or.inr (Or.inr ⟨e, hk, ?_⟩)
      rw [h20 i k hi (by omega), if_neg e]
  refine ⟨fun i hi => ?_, fun i k hi hk => ?_, fun i k i2 k2 hi hi2 hk hk2 e => ?_⟩
  · rw [h21 i hi]
    by_cases e : i = l
    · rw [if_pos e]; exact ⟨_, by omega, rfl⟩
    · rw [if_neg e]; exact h.1 i hi
  · have fin : ∀ r, r < N → mA M 11 r = 1 → mA M2 11 r = 1 := fun r hr h1 => by
      rw [h11 r (by omega)]
      by_cases e : r = u
      · rw [if_pos e]
      · rw [if_neg e]; exact h1
    rcases hcase i k hi hk with ⟨q1, q2⟩ | ⟨q1, q2, q3, q4⟩ | ⟨q1, q2, q3⟩
    · rw [q1, q2]; exact ⟨u, hu, hnew, by rw [h11 u (by omega), if_pos rfl]⟩
    · obtain ⟨r, r1, r2, r3⟩ := h.2.1 l (k - 1) hl q3
      exact ⟨r, r1, by rw [q4]; exact r2, fin r r1 r3⟩
    · obtain ⟨r, r1, r2, r3⟩ := h.2.1 i k hi q2
      exact ⟨r, r1, by rw [q3]; exact r2, fin r r1 r3⟩
  · rcases hcase i k hi hk with ⟨q1, q2⟩ | ⟨q1, q2, q3, q4⟩ | ⟨q1, q2, q3⟩
    · rcases hcase i2 k2 hi2 hk2 with ⟨r1, r2⟩ | ⟨r1, r2, r3, r4⟩ | ⟨r1, r2, r3⟩
      · exact ⟨by rw [q1, r1], by rw [q2, r2]⟩
      · rw [q1, q2, hnew, r4] at e
        exact absurd e.symm (hn l (k2 - 1) hl r3)
      · rw [q1, q2, hnew, r3] at e
        exact absurd e.symm (hn i2 k2 hi2 r2)
    · rcases hcase i2 k2 hi2 hk2 with ⟨r1, r2⟩ | ⟨r1, r2, r3, r4⟩ | ⟨r1, r2, r3⟩
      · rw [r1, r2, hnew, q4] at e
        exact absurd e (hn l (k - 1) hl q3)
      · rw [q4, r4] at e
        have := h.2.2 l (k - 1) l (k2 - 1) hl hl q3 r3 e
        exact ⟨by rw [q1, r1], by omega⟩
      · rw [q4, r3] at e
        have := h.2.2 l (k - 1) i2 k2 hl hi2 q3 r2 e
        exact absurd this.1.symm r1
    · rcases hcase i2 k2 hi2 hk2 with ⟨r1, r2⟩ | ⟨r1, r2, r3, r4⟩ | ⟨r1, r2, r3⟩
      · rw [r1, r2, hnew, q3] at e
        exact absurd e (hn i k hi q2)
      · rw [q3, r4] at e
        have := h.2.2 i k l (k2 - 1) hi hl q2 r3 e
        exact absurd this.1 q1
      · rw [q3, r3] at e
        exact h.2.2 i k i2 k2 hi hi2 q2 r2 e
/-- the first one of queue l is taken -/
theorem qOK_take (h : qOK N M) (hN : N ≤ 16) {M2 : Ms} {l : Nat} (hl : l < 6) (h0 : 0 < sZ M l)
    (h21 : ∀ i, i < 6 → mA M2 21 i = if i = l then nI (sZ M l - 1) else mA M 21 i)
    (h20 : ∀ i k, i < 6 → k < 16 → mA M2 20 (16 * i + k) = if i = l ∧ k + 1 < sZ M l then mA M 20 (16 * i + (k + 1)) else mA M 20 (16 * i + k))
    (h11 : ∀ i, mA M2 11 i = mA M 11 i) : qOK N M2 ∧ ∃ q, q < N ∧ mA M 20 (16 * l) = nI q ∧ mA M 11 q = 1 ∧ notin M2 q := by
  have h16 := qOK_sz h hl
  have hzl : sZ M2 l = sZ M l - 1 := by show (mA M2 21 l).toNatClampNeg = _; rw [h21 l hl, if_pos rfl, nI_clamp (by omega)]
  have hzo : ∀ i, i < 6 → i ≠ l → sZ M2 i = sZ M i := fun i hi hne => by show (mA M2 21 i).toNatClampNeg = _; rw [h21 i hi, if_neg hne]
  have hcase : ∀ i k, i < 6 → k < sZ M2 i → (i = l ∧ k + 1 < sZ M l ∧ mA M2 20 (16 * i + k) = mA M 20 (16 * l + (k + 1))) ∨ (i ≠ l ∧ k < sZ M i ∧ mA M2 20 (16 * i + k) = mA M 20 (16 * i + k)) := fun i k hi hk => by
    by_cases e : i = l
    · subst e
      rw [hzl] at hk
      refine Or.inl ⟨rfl, by omega, ?_⟩
      rw [h20 i k hi (by omega), if_pos ⟨rfl, by omega⟩]
    · rw [hzo i hi e] at hk
      have := qOK_sz h hi
      refine Or.inr ⟨e, hk, ?_⟩
      rw [h20 i k hi (by omega), if_neg (fun q => e q.1)]
  refine ⟨⟨fun i hi => ?_, fun i k hi hk => ?_, fun i k i2 k2 hi hi2 hk hk2 e => ?_⟩, ?_⟩
  · rw [h21 i hi]
    by_cases e : i = l
    · rw [if_pos e]; exact ⟨_, by omega, rfl⟩
    · rw [if_neg e]; exact h.1 i hi
  · rcases hcase i k hi hk with ⟨q1, q2, q3⟩ | ⟨q1, q2, q3⟩
    · obtain ⟨r, r1, r2, r3⟩ := h.2.1 l (k + 1) hl q2
      exact ⟨r, r1, by rw [q3]; exact r2, by rw [h11]; exact r3⟩
    · obtain ⟨r, r1, r2, r3⟩ := h.2.1 i k hi q2
      exact ⟨r, r1, by rw [q3]; exact r2, by rw [h11]; exact r3⟩
  · rcases hcase i k hi hk with ⟨q1, q2, q3⟩ | ⟨q1, q2, q3⟩
    · rcases hcase i2 k2 hi2 hk2 with ⟨r1, r2, r3⟩ | ⟨r1, r2, r3⟩
      · rw [q3, r3] at e
        have := h.2.2 l (k + 1) l (k2 + 1) hl hl q2 r2 e
        exact ⟨by rw [q1, r1], by omega⟩
      · rw [q3, r3] at e
        exact absurd (h.2.2 l (k + 1) i2 k2 hl hi2 q2 r2 e).1.symm r1
    · rcases hcase i2 k2 hi2 hk2 with ⟨r1, r2, r3⟩ | ⟨r1, r2, r3⟩
      · rw [q3, r3] at e
        exact absurd (h.2.2 i k l (k2 + 1) hi hl q2 r2 e).1 q1
      · rw [q3, r3] at e
        exact h.2.2 i k i2 k2 hi hi2 q2 r2 e
  · obtain ⟨r, r1, r2, r3⟩ := h.2.1 l 0 hl h0
    refine ⟨r, r1, by rw [show 16 * l = 16 * l + 0 by omega]; exact r2, r3, fun i k hi hk e => ?_⟩
    rcases hcase i k hi hk with ⟨q1, q2, q3⟩ | ⟨q1, q2, q3⟩
    · rw [q3, ← r2] at e
      have := (h.2.2 l (k + 1) l 0 hl hl q2 h0 e).2
      omega
    · rw [q3, ← r2] at e
      exact absurd (h.2.2 i k l 0 hi hl q2 h0 e).1 q1
end QQ
end
section
/-! the queues' moves, place by place -/
section QM
theorem ub_sz {x : Int32} (hz : ub 16 x) : x + 1 = nI (x.toNatClampNeg + 1) := by
  obtain ⟨z, h1, rfl⟩ := hz
  rw [nI_clamp (by omega), nI_1]
variable {N : Nat} {M : Ms} {x y : Int32} {l u : Nat}
theorem toEnd_21 (hx : ix x l 6) (hz : ub 16 (mA M 21 l)) (i : Nat) : mA (F_X3_toEnd M x y) 21 i = if i = l then nI (sZ M l + 1) else mA M 21 i := by
  unfold F_X3_toEnd
  dsimp only
  rw [hx.2.1, mA_ne _ _ _ _ (by decide), mA_mQ]
  by_cases e : i = l
  · rw [if_pos ⟨rfl, e⟩, if_pos e, mA_ne _ _ _ _ (by decide)]; exact ub_sz hz
  · rw [if_neg (fun q => e q.2), if_neg e, mA_ne _ _ _ _ (by decide)]
theorem toEnd_20 (hx : ix x l 6) (i k : Nat) (hi : i < 6) (hk : k < 16) (hz : sZ M l ≤ 15) : mA (F_X3_toEnd M x y) 20 (16 * i + k) = if i = l ∧ k = sZ M l then y else mA M 20 (16 * i + k) := by
  unfold F_X3_toEnd
  dsimp only
  rw [hx.2.1, mA_ne _ _ _ _ (by decide), mA_ne _ _ _ _ (by decide), mA_mQ]
  by_cases e : i = l ∧ k = sZ M l
  · rw [if_pos e, if_pos ⟨rfl, by rw [e.1, e.2]⟩]
  · rw [if_neg e, if_neg]
    intro q
    have h2 := q.2
    have hz' : (mA M 21 l).toNatClampNeg ≤ 15 := hz
    refine e ⟨by omega, ?_⟩
    show k = (mA M 21 l).toNatClampNeg
    omega
theorem toEnd_11 (hy : ix y u 16) (i : Nat) : mA (F_X3_toEnd M x y) 11 i = if i = u then 1 else mA M 11 i := by
  unfold F_X3_toEnd
  dsimp only
  rw [hy.2.1, mA_mQ]
  by_cases e : i = u
  · rw [if_pos ⟨rfl, e⟩, if_pos e]
  · rw [if_neg (fun q => e q.2), if_neg e, mA_ne _ _ _ _ (by decide), mA_ne _ _ _ _ (by decide)]
theorem toEnd_o (a i : Nat) (ha : a ≠ 11 ∧ a ≠ 20 ∧ a ≠ 21) : mA (F_X3_toEnd M x y) a i = mA M a i := by
  unfold F_X3_toEnd
  dsimp only
  rw [mA_ne _ _ _ _ ha.1, mA_ne _ _ _ _ ha.2.2, mA_ne _ _ _ _ ha.2.1]
theorem toEnd_O (j : Nat) : mO (F_X3_toEnd M x y) j = mO M j := rfl
theorem qOK_toEnd (h : qOK N M) (hN : N ≤ 16) (hx : ix x l 6) (hy : ix y u 16) (hu : u < N) (hn : notin M u) : qOK N (F_X3_toEnd M x y) := by
  have hl := hx.2.2
  have h15 : sZ M l ≤ 15 := ub_le (qOK_15 h hN hu hl hn) (by omega)
  exact qOK_end h hN hl hu hn (fun i _ => toEnd_21 hx (h.1 l hl) i) (fun i k hi hk => by rw [toEnd_20 hx i k hi hk h15, hy.nI]) (fun i _ => toEnd_11 hy i)
/-- the shift up -/
theorem shiftU (x y : Int32) : ∀ (n : Nat) (Z : Ms) (a k : Nat), mA (itd (B_X3_toFront_7 x y) n Z) a k = if a = 20 ∧ 16 * x.toNatClampNeg < k ∧ k ≤ 16 * x.toNatClampNeg + n then mA Z 20 (k - 1) else mA Z a k := by
  intro n
  induction n with
  | zero =>
    intro Z a k
    show mA Z a k = _
    rw [if_neg (by omega)]
  | succ n ih =>
    intro Z a k
    show mA (itd (B_X3_toFront_7 x y) n (B_X3_toFront_7 x y n Z)) a k = _
    rw [ih]
    unfold B_X3_toFront_7
    dsimp only
    by_cases c1 : a = 20 ∧ 16 * x.toNatClampNeg < k ∧ k ≤ 16 * x.toNatClampNeg + n
    · rw [if_pos c1, if_pos (by omega), mA_nk _ _ _ _ (by omega)]
    · rw [if_neg c1]
      by_cases c2 : a = 20 ∧ k = 16 * x.toNatClampNeg + (n + 1)
      · rw [if_pos (by omega), c2.1, c2.2, mA_eq, show 16 * x.toNatClampNeg + (n + 1) - 1 = 16 * x.toNatClampNeg + n by omega]
      · rw [if_neg (by omega), mA_mQ, if_neg (by omega)]
theorem itd_O {f : Nat → Ms → Ms} (hf : ∀ n Z j, mO (f n Z) j = mO Z j) : ∀ (n : Nat) (Z : Ms) (j : Nat), mO (itd f n Z) j = mO Z j := by
  intro n
  induction n with
  | zero => intro Z j; rfl
  | succ n ih => intro Z j; exact (ih (f n Z) j).trans (hf n Z j)
theorem itr_O {f : Nat → Ms → Ms} (hf : ∀ n Z j, mO (f n Z) j = mO Z j) : ∀ (n t : Nat) (Z : Ms) (j : Nat), mO (itr f n t Z) j = mO Z j := by
  intro n
  induction n with
  | zero => intro t Z j; rfl
  | succ n ih => intro t Z j; exact (ih (t + 1) (f t Z) j).trans (hf t Z j)
theorem toFront_O (j : Nat) : mO (F_X3_toFront M x y) j = mO M j := itd_O (f := B_X3_toFront_7 x y) (fun _ _ _ => rfl) _ _ _
theorem toFront_21 (hx : ix x l 6) (hz : ub 16 (mA M 21 l)) (i : Nat) : mA (F_X3_toFront M x y) 21 i = if i = l then nI (sZ M l + 1) else mA M 21 i := by
  unfold F_X3_toFront
  dsimp only
  have e21 : ∀ (n k i : Nat), mA (mQ (itd (B_X3_toFront_7 x y) n M) 20 k y) 21 i = mA M 21 i := fun n k i => by
    rw [mA_ne _ _ _ _ (by decide), shiftU, if_neg (fun q => absurd q.1 (by decide))]
  rw [mA_ne _ _ _ _ (by decide), mA_mQ, hx.2.1, e21, e21]
  by_cases e : i = l
  · rw [if_pos ⟨rfl, e⟩, if_pos e]; exact ub_sz hz
  · rw [if_neg (fun q => e q.2), if_neg e]
theorem toFront_20 (hx : ix x l 6) (i k : Nat) (hi : i < 6) (hk : k < 16) (hz : sZ M l ≤ 15) : mA (F_X3_toFront M x y) 20 (16 * i + k) = if i = l then (if k = 0 then y else if k ≤ sZ M l then mA M 20 (16 * l + (k - 1)) else mA M 20 (16 * i + k)) else mA M 20 (16 * i + k) := by
  have hz' : (mA M 21 l).toNatClampNeg ≤ 15 := hz
  unfold F_X3_toFront
  dsimp only
  rw [mA_ne _ _ _ _ (by decide), mA_ne _ _ _ _ (by decide), mA_mQ, hx.2.1]
  by_cases e : i = l
  · subst e
    rw [if_pos rfl]
    by_cases k0 : k = 0
    · rw [if_pos k0, if_pos ⟨rfl, by omega⟩]
    · rw [if_neg k0, if_neg (by omega), shiftU, hx.2.1]
      by_cases c : k ≤ sZ M i
      · have c' : k ≤ (mA M 21 i).toNatClampNeg := c
        rw [if_pos c, if_pos (by omega), show 16 * i + k - 1 = 16 * i + (k - 1) by omega]
      · have c' : ¬ k ≤ (mA M 21 i).toNatClampNeg := c
        rw [if_neg c, if_neg (by omega)]
  · rw [if_neg e, if_neg (by omega), shiftU, hx.2.1, if_neg (by omega)]
theorem toFront_11 (hy : ix y u 16) (i : Nat) : mA (F_X3_toFront M x y) 11 i = if i = u then 1 else mA M 11 i := by
  unfold F_X3_toFront
  dsimp only
  rw [hy.2.1, mA_mQ]
  by_cases e : i = u
  · rw [if_pos ⟨rfl, e⟩, if_pos e]
  · rw [if_neg (fun q => e q.2), if_neg e, mA_ne _ _ _ _ (by decide), mA_ne _ _ _ _ (by decide), shiftU, if_neg (by omega)]
theorem toFront_o (a i : Nat) (ha : a ≠ 11 ∧ a ≠ 20 ∧ a ≠ 21) : mA (F_X3_toFront M x y) a i = mA M a i := by
  unfold F_X3_toFront
  dsimp only
  rw [mA_ne _ _ _ _ ha.1, mA_ne _ _ _ _ ha.2.2, mA_ne _ _ _ _ ha.2.1, shiftU, if_neg (fun q => ha.2.1 q.1)]
theorem qOK_toFront (h : qOK N M) (hN : N ≤ 16) (hx : ix x l 6) (hy : ix y u 16) (hu : u < N) (hn : notin M u) : qOK N (F_X3_toFront M x y) := by
  have hl := hx.2.2
  have h15 : sZ M l ≤ 15 := ub_le (qOK_15 h hN hu hl hn) (by omega)
  exact qOK_front h hN hl hu hn (fun i _ => toFront_21 hx (h.1 l hl) i) (fun i k hi hk => by rw [toFront_20 hx i k hi hk h15, hy.nI]) (fun i _ => toFront_11 hy i)
/-- the shift down -/
theorem shiftD (x : Int32) : ∀ (n t : Nat) (Z : Ms) (a k : Nat), mA (itr (B_X3_takeFirst_22 x) n t Z) a k = if a = 20 ∧ 16 * x.toNatClampNeg + t ≤ k ∧ k < 16 * x.toNatClampNeg + t + n then mA Z 20 (k + 1) else mA Z a k := by
  intro n
  induction n with
  | zero =>
    intro t Z a k
    show mA Z a k = _
    rw [if_neg (by omega)]
  | succ n ih =>
    intro t Z a k
    show mA (itr (B_X3_takeFirst_22 x) n (t + 1) (B_X3_takeFirst_22 x t Z)) a k = _
    rw [ih]
    unfold B_X3_takeFirst_22
    dsimp only
    by_cases c1 : a = 20 ∧ 16 * x.toNatClampNeg + (t + 1) ≤ k ∧ k < 16 * x.toNatClampNeg + (t + 1) + n
    · rw [if_pos c1, if_pos (by omega), mA_nk _ _ _ _ (by omega)]
    · rw [if_neg c1]
      by_cases c2 : a = 20 ∧ k = 16 * x.toNatClampNeg + t
      · rw [if_pos (by omega), c2.1, c2.2, mA_eq]
      · rw [if_neg (by omega), mA_mQ, if_neg (by omega)]
theorem take_O (j : Nat) : mO (F_X3_takeFirst M x).1 j = mO M j := itr_O (f := B_X3_takeFirst_22 x) (fun _ _ _ => rfl) _ _ _ _
theorem take_o (a i : Nat) (ha : a ≠ 20 ∧ a ≠ 21) : mA (F_X3_takeFirst M x).1 a i = mA M a i := by
  unfold F_X3_takeFirst
  dsimp only
  rw [shiftD, if_neg (fun q => ha.1 q.1), mA_ne _ _ _ _ ha.2]
theorem take_21 (hx : ix x l 6) (hz : ub 16 (mA M 21 l)) (h0 : 0 < sZ M l) (i : Nat) : mA (F_X3_takeFirst M x).1 21 i = if i = l then nI (sZ M l - 1) else mA M 21 i := by
  unfold F_X3_takeFirst
  dsimp only
  rw [shiftD, if_neg (by omega), mA_mQ, hx.2.1]
  by_cases e : i = l
  · rw [if_pos ⟨rfl, e⟩, if_pos e]
    have h1 := ub_nI hz (by omega)
    have h0' : 0 < (mA M 21 l).toNatClampNeg := h0
    obtain ⟨z, hz2⟩ : ∃ z, (mA M 21 l).toNatClampNeg = z + 1 := ⟨(mA M 21 l).toNatClampNeg - 1, by omega⟩
    show _ = nI ((mA M 21 l).toNatClampNeg - 1)
    rw [hz2] at h1 ⊢
    rw [h1, nI_pred]
    rfl
  · rw [if_neg (fun q => e q.2), if_neg e]
theorem take_20 (hx : ix x l 6) (hz : ub 16 (mA M 21 l)) (h0 : 0 < sZ M l) (i k : Nat) (_ : i < 6) (hk : k < 16) : mA (F_X3_takeFirst M x).1 20 (16 * i + k) = if i = l ∧ k + 1 < sZ M l then mA M 20 (16 * i + (k + 1)) else mA M 20 (16 * i + k) := by
  have h21 : (mA (mQ M 21 x.toNatClampNeg (mA M 21 x.toNatClampNeg - 1)) 21 x.toNatClampNeg).toNatClampNeg = sZ M l - 1 := by
    rw [mA_eq, hx.2.1]
    have h1 := ub_nI hz (by omega)
    have h2 := ub_le hz (by omega)
    have h0' : 0 < (mA M 21 l).toNatClampNeg := h0
    obtain ⟨z, hz2⟩ : ∃ z, (mA M 21 l).toNatClampNeg = z + 1 := ⟨(mA M 21 l).toNatClampNeg - 1, by omega⟩
    show _ = (mA M 21 l).toNatClampNeg - 1
    rw [hz2] at h1 h2 ⊢
    rw [h1, nI_pred, nI_clamp (by omega)]
    rfl
  have h16 : sZ M l ≤ 16 := ub_le hz (by omega)
  unfold F_X3_takeFirst
  dsimp only
  rw [h21, shiftD, mA_ne _ _ _ _ (by decide), mA_ne _ _ _ _ (by decide), hx.2.1]
  by_cases e : i = l ∧ k + 1 < sZ M l
  · rw [if_pos e, if_pos (by omega), show 16 * i + k + 1 = 16 * i + (k + 1) by omega]
  · rw [if_neg e, if_neg (by omega)]
theorem qOK_takeFirst (h : qOK N M) (hN : N ≤ 16) (hx : ix x l 6) (h0 : 0 < sZ M l) : qOK N (F_X3_takeFirst M x).1 ∧ ∃ q, q < N ∧ (F_X3_takeFirst M x).2 = nI q ∧ mA M 11 q = 1 ∧ notin (F_X3_takeFirst M x).1 q := by
  have hl := hx.2.2
  obtain ⟨h1, q, q1, q2, q3, q4⟩ := qOK_take h hN hl h0 (fun i _ => take_21 hx (h.1 l hl) h0 i) (fun i k hi hk => take_20 hx (h.1 l hl) h0 i k hi hk) (fun i => take_o 11 i (by decide))
  refine ⟨h1, q, q1, ?_, q3, q4⟩
  show mA M 20 (16 * x.toNatClampNeg) = _
  rw [hx.2.1]; exact q2
end QM
end
section
theorem ixc {x : Int32} {k n : Nat} (h : ix x k n) : ix x x.toNatClampNeg n := by rw [h.2.1]; exact h
theorem lvx {x : Int32} (h : ∃ v, v < 6 ∧ x = nI v) : ix x x.toNatClampNeg 6 := by
  obtain ⟨v, h1, rfl⟩ := h
  rw [nI_clamp (by omega)]; exact ix_nI h1 (by omega)
theorem ten {x C : Int32} {c : Nat} (hx : ix x x.toNatClampNeg 16) (hc : C = nI c := by decide) (h : c < 10 := by omega) : ix (10 * x + C) (10 * x.toNatClampNeg + c) 160 := by
  have := hx.2.2
  exact ix_lin (by decide) hx.nI hc (by omega) (by omega)
theorem ne1 {x : Int32} (h : x = 0) : ¬ x = 1 := by rw [h]; decide
theorem ne2 {x : Int32} (h : x = 0) : ¬ x = 2 := by rw [h]; decide
theorem ne31 {x : Int32} (h : x = 3) : ¬ x = 1 := by rw [h]; decide
theorem ne32 {x : Int32} (h : x = 3) : ¬ x = 2 := by rw [h]; decide
theorem ne21 {x : Int32} (h : x = 2) : ¬ x = 1 := by rw [h]; decide
theorem pos_ne {x : Int32} (h : ¬ x ≤ 0) : ¬ x = 0 := fun q => h (by rw [q]; decide)
theorem wst3 (X : Ms) (k : Nat) : mA (mQ X 11 k 3) 11 k = 1 ∨ mA (mQ X 11 k 3) 11 k = 2 ∨ mA (mQ X 11 k 3) 11 k = 3 := Or.inr (Or.inr (mA_eq X 11 k 3))
/-- those whose arrival is to come are still to come -/
def tiM (N T : Nat) (M : Ms) : Prop := ∀ u, u < N → ∃ ar, mA M 6 u = nI ar ∧ ar ≤ 20000 ∧ (T ≤ ar → mA M 11 u = 0)
def tiC (N T t : Nat) (M : Ms) : Prop := ∀ u, u < N → ∃ ar, mA M 6 u = nI ar ∧ ar ≤ 20000 ∧ (t ≤ u → T ≤ ar → mA M 11 u = 0) ∧ (T + 1 ≤ ar → mA M 11 u = 0)
theorem ti_0 {N T : Nat} {M : Ms} (h : tiM N T M) : tiC N T 0 M := fun u hu => by
  obtain ⟨ar, h1, h2, h3⟩ := h u hu
  exact ⟨ar, h1, h2, fun _ => h3, fun q => h3 (by omega)⟩
theorem ti_at {N T t : Nat} {M : Ms} {x : Int32} (h : tiC N T t M) (ht : t < N) (hT : x = nI T) (hc : mA M 6 t = x) (hT2 : T < 2 ^ 31 := by omega) : mA M 11 t = 0 := by
  obtain ⟨ar, h1, h2, h3, -⟩ := h t ht
  rw [h1, hT] at hc
  have := (nI_eq (by omega) hT2).mp hc
  exact h3 (Nat.le_refl t) (by omega)
/-- nothing that is to come moves -/
def keep0 (M M2 : Ms) : Prop := (∀ k, mA M2 6 k = mA M 6 k) ∧ ∀ u, u < 16 → mA M 11 u = 0 → mA M2 11 u = 0
theorem keep0.rf {M : Ms} : keep0 M M := ⟨fun _ => rfl, fun _ _ h => h⟩
theorem keep0.tr {M M2 M3 : Ms} (h : keep0 M M2) (h2 : keep0 M2 M3) : keep0 M M3 := ⟨fun k => (h2.1 k).trans (h.1 k), fun u hu q => h2.2 u hu (h.2 u hu q)⟩
theorem keep0.ti {N T : Nat} {M M2 : Ms} (h : keep0 M M2) (hN : N ≤ 16) (ht : tiM N T M) : tiM N T M2 := fun u hu => by
  obtain ⟨ar, h1, h2, h3⟩ := ht u hu
  exact ⟨ar, by rw [h.1]; exact h1, h2, fun q => h.2 u (by omega) (h3 q)⟩
theorem keep0.mQ {M : Ms} {a k : Nat} {v : Int32} (ha : a ≠ 6 ∧ a ≠ 11) : keep0 M (mQ M a k v) := ⟨fun k2 => mA_ne M k v k2 (Ne.symm ha.1), fun u _ h => by rw [mA_ne M k v u (Ne.symm ha.2)]; exact h⟩
theorem keep0.mP {M : Ms} {j : Nat} {v : Int32} : keep0 M (mP M j v) := ⟨fun _ => rfl, fun _ _ h => h⟩
theorem keep0.s11 {M : Ms} {k : Nat} {v : Int32} (h : ¬ mA M 11 k = 0) : keep0 M (mQ M 11 k v) := ⟨fun k2 => mA_ne M k v k2 (by decide), fun u _ q => by rw [mA_nk M 11 v 11 (fun e => h (by rw [← e]; exact q))]; exact q⟩
theorem keep0.toEnd {M : Ms} {x y : Int32} {u : Nat} (hy : ix y u 16) (h : ¬ mA M 11 u = 0) : keep0 M (F_X3_toEnd M x y) := ⟨fun k => toEnd_o 6 k (by decide), fun i _ q => by rw [toEnd_11 hy, if_neg (fun e => h (by rw [← e]; exact q))]; exact q⟩
theorem keep0.toFront {M : Ms} {x y : Int32} {u : Nat} (hy : ix y u 16) (h : ¬ mA M 11 u = 0) : keep0 M (F_X3_toFront M x y) := ⟨fun k => toFront_o 6 k (by decide), fun i _ q => by rw [toFront_11 hy, if_neg (fun e => h (by rw [← e]; exact q))]; exact q⟩
theorem keep0.take {M : Ms} {x : Int32} : keep0 M (F_X3_takeFirst M x).1 := ⟨fun k => take_o 6 k (by decide), fun i _ q => by rw [take_o 11 i (by decide)]; exact q⟩
theorem end_11 {M : Ms} {y w : Int32} {u : Nat} (hy : y.toNatClampNeg = u) (i : Nat) : mA (F_X3_end M y w) 11 i = if i = u then 4 else mA M 11 i := by
  unfold F_X3_end
  dsimp only
  rw [mA_ne _ _ _ _ (by decide), mA_ne _ _ _ _ (by decide), mA_mQ, hy]
  by_cases e : i = u
  · rw [if_pos ⟨rfl, e⟩, if_pos e]
  · rw [if_neg (fun q => e q.2), if_neg e]
theorem end_o {M : Ms} {y w : Int32} (a i : Nat) (ha : a ≠ 11 ∧ a ≠ 19 ∧ a ≠ 22) : mA (F_X3_end M y w) a i = mA M a i := by
  unfold F_X3_end
  dsimp only
  rw [mA_ne _ _ _ _ ha.2.2, mA_ne _ _ _ _ ha.2.1, mA_ne _ _ _ _ ha.1]
theorem end_22 {M : Ms} {y w : Int32} (i : Nat) (hi : i ≠ 3) : mA (F_X3_end M y w) 22 i = mA M 22 i := by
  unfold F_X3_end
  dsimp only
  rw [mA_nk _ _ _ _ hi, mA_ne _ _ _ _ (by decide), mA_ne _ _ _ _ (by decide)]
theorem keep0.fin {M : Ms} {y w : Int32} {u : Nat} (hy : y.toNatClampNeg = u) (h : ¬ mA M 11 u = 0) : keep0 M (F_X3_end M y w) := ⟨fun k => end_o 6 k (by decide), fun i _ q => by rw [end_11 hy, if_neg (fun e => h (by rw [← e]; exact q))]; exact q⟩
section OM4
variable {N L b : Nat} {S M2 : Ms}
theorem uOK_same {u : Nat} (h : uOK N L S u) (h12 : mA M2 12 u = mA S 12 u) (h7 : mA M2 7 u = mA S 7 u) (h11 : mA M2 11 u = mA S 11 u) (h13 : mA M2 13 u = mA S 13 u) : uOK N L M2 u := by
  unfold uOK; rw [h12, h7, h11, h13]; exact h
theorem okM_ab (h : okM N L b S) {u : Nat} (hu : u < 16) (hs : mA S 11 u = 1 ∨ mA S 11 u = 2 ∨ mA S 11 u = 3) : u < N ∧ ∃ a c, mA S 13 u = nI a ∧ mA S 7 u = nI c ∧ a < c ∧ c ≤ 12 := by
  rcases (okM_u h hu).2.2.2 with q | ⟨q, -⟩ | q
  · rw [q] at hs; exact absurd hs (by decide)
  · rw [q] at hs; exact absurd hs (by decide)
  · exact q.2
theorem okM_rcase (h : okM N L b S) (hr : ¬ mO S 10 < 0) : ∃ r, r < N ∧ mO S 10 = nI r ∧ mA S 11 r = 2 := by
  rcases okM_run h with q | q
  · rw [q] at hr; exact absurd (by decide) hr
  · exact q
theorem okM_rx (h : okM N L b S) (hr : ¬ mO S 10 < 0) : ix (mO S 10) (mO S 10).toNatClampNeg 16 := by
  obtain ⟨r, h1, h2, -⟩ := okM_rcase h hr
  have := h.2.2.1
  rw [h2, nI_clamp (by omega)]; exact ix_nI (by omega) (by omega)
theorem okM_rN (h : okM N L b S) (hr : ¬ mO S 10 < 0) : (mO S 10).toNatClampNeg < N := by
  obtain ⟨r, h1, h2, -⟩ := okM_rcase h hr
  have := h.2.2.1
  rw [h2, nI_clamp (by omega)]; exact h1
theorem okM_rs (h : okM N L b S) (hr : ¬ mO S 10 < 0) : mA S 11 (mO S 10).toNatClampNeg = 2 := by
  obtain ⟨r, h1, h2, h3⟩ := okM_rcase h hr
  have := h.2.2.1
  rw [h2, nI_clamp (by omega)]; exact h3
theorem okM_r10 (h : okM N L b S) (hr : ¬ mO S 10 < 0) : ix (10 * mO S 10 + 9) (10 * (mO S 10).toNatClampNeg + 9) 160 := ten (okM_rx h hr)
theorem okM_lx (h : okM N L b S) {u : Nat} (hu : u < 16) : ix (mA S 12 u) (mA S 12 u).toNatClampNeg 6 := by
  obtain ⟨v, h1, h2⟩ := (okM_u h hu).1
  have := h.2.2.2.2.1
  exact lvx ⟨v, by omega, h2⟩
theorem okM_ixl (h : okM N L b S) {u : Nat} (hu : u < 16) : ix (mA S 12 u) (mA S 12 u).toNatClampNeg 6 := okM_lx h hu
theorem okM_15 (h : okM N L b S) {u : Nat} {x : Int32} (hu : u < N) (hs : ¬ mA S 11 u = 1) (hx : ix x x.toNatClampNeg 6) : ub 15 (mA S 21 x.toNatClampNeg) := by
  have hN := h.2.2.1
  exact qOK_15 (okM_q h) hN hu hx.2.2 (notin_of (okM_q h) hN (by omega) hs)
theorem okM_15r (h : okM N L b S) {x : Int32} (hr : ¬ mO S 10 < 0) (hx : ix x x.toNatClampNeg 6) : ub 15 (mA S 21 x.toNatClampNeg) := okM_15 h (okM_rN h hr) (ne21 (okM_rs h hr)) hx
theorem okM_tab (h : okM N L b S) {u : Nat} (hu : u < 16) (hs : mA S 11 u = 1 ∨ mA S 11 u = 2 ∨ mA S 11 u = 3) : (mA S 13 u).toNatClampNeg < 12 ∧ mA S 13 u = nI (mA S 13 u).toNatClampNeg := by
  obtain ⟨-, a, c, h1, h2, h3, h4⟩ := okM_ab h hu hs
  rw [h1, nI_clamp (by omega)]
  exact ⟨by omega, rfl⟩
theorem okM_tx (h : okM N L b S) {t : Nat} (hu : t < 16) (hs : mA S 11 t = 1 ∨ mA S 11 t = 2 ∨ mA S 11 t = 3) : ix (12 * nI t + mA S 13 t) (12 * t + (mA S 13 t).toNatClampNeg) 192 := by
  obtain ⟨h1, h2⟩ := okM_tab h hu hs
  exact ix_lin (by decide) rfl h2 (by omega) (by omega)
theorem okM_txx (h : okM N L b S) {x : Int32} (hx : ix x x.toNatClampNeg 16) (hs : mA S 11 x.toNatClampNeg = 1 ∨ mA S 11 x.toNatClampNeg = 2 ∨ mA S 11 x.toNatClampNeg = 3) : ix (12 * x + mA S 13 x.toNatClampNeg) (12 * x.toNatClampNeg + (mA S 13 x.toNatClampNeg).toNatClampNeg) 192 := by
  obtain ⟨h1, h2⟩ := okM_tab h hx.2.2 hs
  have := hx.2.2
  exact ix_lin (by decide) hx.nI h2 (by omega) (by omega)
/-- okM anew: nothing of the queues, the processes but one -/
theorem okM_one (h : okM N L b S) {b2 u : Nat} (h5 : mO M2 5 = mO S 5) (h1 : mO M2 1 = mO S 1) (h22 : ub b2 (mA M2 22 0)) (hu : uOK N L M2 u) (ho : ∀ i, i < 16 → i ≠ u → mA M2 12 i = mA S 12 i ∧ mA M2 7 i = mA S 7 i ∧ mA M2 11 i = mA S 11 i ∧ mA M2 13 i = mA S 13 i)
    (hr : mO M2 10 = -1 ∨ ∃ r, r < N ∧ mO M2 10 = nI r ∧ mA M2 11 r = 2) (hq : qOK N M2) : okM N L b2 M2 := by
  obtain ⟨g1, g2, g3, g4, g5, g6, g7, g8, g9⟩ := h
  refine ⟨by rw [h5]; exact g1, by rw [h1]; exact g2, g3, g4, g5, h22, fun i hi => ?_, hr, hq⟩
  by_cases e : i = u
  · rw [e]; exact hu
  · obtain ⟨a1, a2, a3, a4⟩ := ho i hi e
    exact uOK_same (g7 i hi) a1 a2 a3 a4
theorem qOK_same (h : qOK N S) (h20 : ∀ k, mA M2 20 k = mA S 20 k) (h21 : ∀ k, mA M2 21 k = mA S 21 k) (h11 : ∀ u, mA S 11 u = 1 → mA M2 11 u = 1) : qOK N M2 := by
  unfold qOK sZ at h ⊢
  simp only [h20, h21]
  refine ⟨h.1, fun l k hl hk => ?_, h.2.2⟩
  obtain ⟨q, q1, q2, q3⟩ := h.2.1 l k hl hk
  exact ⟨q, q1, q2, h11 q q3⟩
theorem okM_mQ12 (h : okM N L b S) {u : Nat} {x : Int32} (hx : ∃ v, v < L ∧ x = nI v) : okM N L b (mQ S 12 u x) := by
  obtain ⟨g1, g2, g3, g4, g5, g6, g7, g8, g9⟩ := h
  refine ⟨g1, g2, g3, g4, g5, g6, fun i hi => ?_, g8, g9⟩
  obtain ⟨a1, a2, a3, a4⟩ := g7 i hi
  refine ⟨?_, a2, a3, a4⟩
  rw [mA_mQ]
  by_cases e : 12 = 12 ∧ i = u
  · rw [if_pos e]; exact hx
  · rw [if_neg e]; exact a1
theorem okM_mQ22 (h : okM N L b S) {k : Nat} {v : Int32} (hk : k ≠ 0) : okM N L b (mQ S 22 k v) := by
  obtain ⟨g1, g2, g3, g4, g5, g6, g7, g8, g9⟩ := h
  exact ⟨g1, g2, g3, g4, g5, by rw [mA_nk _ _ _ _ (Ne.symm hk)]; exact g6, g7, g8, g9⟩
theorem okM_r0 (h : okM N L b S) : okM N L b (mP S 10 (-1)) := by
  obtain ⟨g1, g2, g3, g4, g5, g6, g7, g8, g9⟩ := h
  exact ⟨g1, g2, g3, g4, g5, g6, g7, Or.inl rfl, g9⟩
theorem okM_run_ne (h : okM N L b S) {u : Nat} (h2 : mO S 10 = -1 ∨ ¬ mA S 11 u = 2) (h11 : ∀ i, i < 16 → i ≠ u → mA M2 11 i = mA S 11 i) (h10 : mO M2 10 = mO S 10) : mO M2 10 = -1 ∨ ∃ r, r < N ∧ mO M2 10 = nI r ∧ mA M2 11 r = 2 := by
  have hN := h.2.2.1
  rcases okM_run h with q | ⟨r, q1, q2, q3⟩
  · exact Or.inl (h10.trans q)
  · rcases h2 with e | e
    · exact Or.inl (h10.trans e)
    · exact Or.inr ⟨r, q1, h10.trans q2, by rw [h11 r (by omega) (fun z => e (by rw [← z]; exact q3))]; exact q3⟩
theorem okM_end (h : okM N L b S) {u : Nat} {y w : Int32} (hu : u < N) (hy : y.toNatClampNeg = u) (h1 : ¬ mA S 11 u = 1) (h2 : mO S 10 = -1 ∨ ¬ mA S 11 u = 2) : okM N L b (F_X3_end S y w) := by
  have hN := h.2.2.1
  have g := okM_u h (u := u) (by omega)
  refine okM_one h (u := u) rfl rfl (by rw [end_22 0 (by decide)]; exact h.2.2.2.2.2.1) ?_ (fun i _ hne => ⟨end_o 12 i (by decide), end_o 7 i (by decide), by rw [end_11 hy, if_neg hne], end_o 13 i (by decide)⟩) (okM_run_ne h h2 (fun i _ hne => by rw [end_11 hy, if_neg hne]) rfl) (qOK_same (okM_q h) (fun k => end_o 20 k (by decide)) (fun k => end_o 21 k (by decide)) (fun i hi => by rw [end_11 hy, if_neg (fun e => h1 (by rw [← e]; exact hi))]; exact hi))
  unfold uOK
  rw [end_o 12 u (by decide), end_o 7 u (by decide), end_11 hy, if_pos rfl, end_o 13 u (by decide)]
  exact ⟨g.1, g.2.1, fun q => absurd q (by decide), Or.inr (Or.inl ⟨rfl, hu⟩)⟩
theorem okM_toEnd (h : okM N L b S) {l u : Nat} {x y : Int32} (hx : ix x l 6) (hy : ix y u 16) (hu : u < N) (hn : notin S u) (hab : ∃ a c, mA S 13 u = nI a ∧ mA S 7 u = nI c ∧ a < c ∧ c ≤ 12) (h2 : mO S 10 = -1 ∨ ¬ mA S 11 u = 2) : okM N L b (F_X3_toEnd S x y) := by
  have hN := h.2.2.1
  have g := okM_u h hy.2.2
  refine okM_one h (u := u) rfl rfl (by rw [toEnd_o 22 0 (by decide)]; exact h.2.2.2.2.2.1) ?_ (fun i _ hne => ⟨toEnd_o 12 i (by decide), toEnd_o 7 i (by decide), by rw [toEnd_11 hy, if_neg hne], toEnd_o 13 i (by decide)⟩) (okM_run_ne h h2 (fun i _ hne => by rw [toEnd_11 hy, if_neg hne]) rfl) (qOK_toEnd (okM_q h) hN hx hy hu hn)
  unfold uOK
  rw [toEnd_o 12 u (by decide), toEnd_o 7 u (by decide), toEnd_11 hy, if_pos rfl, toEnd_o 13 u (by decide)]
  exact ⟨g.1, g.2.1, fun q => absurd q (by decide), Or.inr (Or.inr ⟨Or.inl rfl, hu, hab⟩)⟩
theorem okM_at (h : okM N L b S) {u : Nat} (hu : u < 16) (hs : mA S 11 u = 1 ∨ mA S 11 u = 2 ∨ mA S 11 u = 3) (hc : ¬ mA (mQ S 13 u (mA S 13 u + 1)) 13 u = mA (mQ S 13 u (mA S 13 u + 1)) 7 u) : okM N L b (mQ S 13 u (mA S 13 u + 1)) := by
  obtain ⟨huN, a, c, h1, h2, h3, h4⟩ := okM_ab h hu hs
  have g := okM_u h hu
  rw [mA_eq, mA_ne _ _ _ _ (by decide), h1, h2, nI_1] at hc
  have hne : a + 1 ≠ c := fun e => hc (by rw [e])
  refine okM_one h (u := u) rfl rfl h.2.2.2.2.2.1 ?_ (fun i _ hne => ⟨rfl, rfl, rfl, mA_nk _ _ _ _ hne⟩) (okM_run h) (okM_q h)
  refine ⟨g.1, g.2.1, fun q => ?_, Or.inr (Or.inr ⟨hs, huN, a + 1, c, ?_, h2, by omega, h4⟩)⟩
  · have q' : mA S 11 u = 0 := q
    rw [q'] at hs; exact absurd hs (by decide)
  · rw [mA_eq, h1, nI_1]
theorem okM_atEnd (h : okM N L b S) {u : Nat} {y w v : Int32} (hu : u < N) (hy : y.toNatClampNeg = u) (h1 : ¬ mA S 11 u = 1) (h2 : mO S 10 = -1 ∨ ¬ mA S 11 u = 2) : okM N L b (F_X3_end (mQ S 13 u v) y w) := by
  have hN := h.2.2.1
  have g := okM_u h (u := u) (by omega)
  refine okM_one h (u := u) rfl rfl (by rw [end_22 0 (by decide)]; exact h.2.2.2.2.2.1) ?_ (fun i _ hne => ⟨by rw [end_o 12 i (by decide)]; rfl, by rw [end_o 7 i (by decide)]; rfl, by rw [end_11 hy, if_neg hne]; rfl, by rw [end_o 13 i (by decide)]; exact mA_nk _ _ _ _ hne⟩) (okM_run_ne h h2 (fun i _ hne => by rw [end_11 hy, if_neg hne]; rfl) rfl) (qOK_same (okM_q h) (fun k => by rw [end_o 20 k (by decide)]; rfl) (fun k => by rw [end_o 21 k (by decide)]; rfl) (fun i hi => by rw [end_11 hy, if_neg (fun e => h1 (by rw [← e]; exact hi))]; exact hi))
  unfold uOK
  rw [end_o 12 u (by decide), end_o 7 u (by decide), end_11 hy, if_pos rfl]
  exact ⟨g.1, g.2.1, fun q => absurd q (by decide), Or.inr (Or.inl ⟨rfl, hu⟩)⟩
theorem okM_blk (h : okM N L b S) {u : Nat} (hu : u < 16) (hs : mA S 11 u = 2) (hc : ¬ mA (mQ S 13 u (mA S 13 u + 1)) 13 u = mA (mQ S 13 u (mA S 13 u + 1)) 7 u) (hr : mO S 10 = -1) : okM N L b (mQ (mQ S 13 u (mA S 13 u + 1)) 11 u 3) := by
  have h1 := okM_at h hu (Or.inr (Or.inl hs)) hc
  obtain ⟨huN, hab⟩ := okM_ab h1 hu (Or.inr (Or.inl hs))
  have g := okM_u h1 hu
  refine okM_one h1 (u := u) rfl rfl h1.2.2.2.2.2.1 ⟨g.1, g.2.1, fun q => ?_, Or.inr (Or.inr ⟨Or.inr (Or.inr (mA_eq _ _ _ _)), huN, hab⟩)⟩ (fun i _ hne => ⟨rfl, rfl, mA_nk _ _ _ _ hne, rfl⟩) (Or.inl hr) (qOK_same (okM_q h1) (fun _ => rfl) (fun _ => rfl) (fun i hi => by
    rw [mA_nk _ _ _ _ (fun e => ?_)]; exact hi
    have hi' : mA S 11 i = 1 := hi
    rw [e, hs] at hi'
    exact absurd hi' (by decide)))
  rw [mA_eq] at q; exact absurd q (by decide)
theorem okM_dn (h : okM N L b S) {u : Nat} (hu : u < 16) (hc : ¬ mO S 1 - 1 ≤ mA S 12 u) : ∃ v, v < L ∧ mA S 12 u + 1 = nI v := by
  obtain ⟨v, h1, h2⟩ := (okM_u h hu).1
  have h6 := h.2.2.2.2.1
  have hl := h.2.2.2.1
  obtain ⟨k, rfl⟩ : ∃ k, L = k + 1 := ⟨L - 1, by omega⟩
  rw [h2, h.2.1, nI_pred] at hc
  rw [h2, nI_1]
  refine ⟨v + 1, ?_, rfl⟩
  rcases Nat.lt_or_ge v k with q | q
  · omega
  · exact absurd (nI_le q (by omega)) hc
theorem okM_front (h : okM N L b S) (hr : ¬ mO S 10 < 0) : okM N L b (mP (F_X3_toFront S (mA S 12 (mO S 10).toNatClampNeg) (mO S 10)) 10 (-1)) := by
  have hN := h.2.2.1
  have hx := okM_rx h hr
  have huN := okM_rN h hr
  have hst := okM_rs h hr
  have g := okM_u h hx.2.2
  obtain ⟨-, hab⟩ := okM_ab h hx.2.2 (Or.inr (Or.inl hst))
  have hn := notin_of (okM_q h) hN hx.2.2 (ne21 hst)
  refine okM_one h (u := (mO S 10).toNatClampNeg) (toFront_O 5) (toFront_O 1) (by rw [mA_mP, toFront_o 22 0 (by decide)]; exact h.2.2.2.2.2.1) ?_ (fun i _ hne => ⟨toFront_o 12 i (by decide), toFront_o 7 i (by decide), by rw [mA_mP, toFront_11 hx, if_neg hne], toFront_o 13 i (by decide)⟩) (Or.inl rfl) (qOK_same (qOK_toFront (okM_q h) hN (okM_lx h hx.2.2) hx huN hn) (fun _ => rfl) (fun _ => rfl) (fun _ q => q))
  unfold uOK
  rw [mA_mP, mA_mP, mA_mP, mA_mP, toFront_o 12 _ (by decide), toFront_o 7 _ (by decide), toFront_11 hx, if_pos rfl, toFront_o 13 _ (by decide)]
  exact ⟨g.1, g.2.1, fun q => absurd q (by decide), Or.inr (Or.inr ⟨Or.inl rfl, huN, hab⟩)⟩
theorem come_inv {T t : Nat} {x : Int32} (h : okM N L b S ∧ tiC N T t S) (ht : t < N) (hT : x = nI T) (hT2 : T < 2 ^ 31 := by omega) : okM N L b (B_X3_come_2 x t S) ∧ tiC N T (t + 1) (B_X3_come_2 x t S) := by
  obtain ⟨h, hti⟩ := h
  have hN := h.2.2.1
  -- where nothing is done
  have stay : ¬ mA S 6 t = x → okM N L b S ∧ tiC N T (t + 1) S := fun hc => ⟨h, fun u hu => by
    obtain ⟨ar, a1, a2, a3, a4⟩ := hti u hu
    exact ⟨ar, a1, a2, fun q => a3 (by omega), a4⟩⟩
  -- where t's state is another then
  have move : ∀ M2 : Ms, mA S 6 t = x → (∀ k, mA M2 6 k = mA S 6 k) → (∀ i, i ≠ t → mA M2 11 i = mA S 11 i) → tiC N T (t + 1) M2 := fun M2 hc e6 e11 u hu => by
    obtain ⟨ar, a1, a2, a3, a4⟩ := hti u hu
    refine ⟨ar, by rw [e6]; exact a1, a2, fun q r => by rw [e11 u (by omega)]; exact a3 (by omega) r, fun q => ?_⟩
    by_cases e : u = t
    · rw [e, hc, hT] at a1
      have := (nI_eq (by omega) (by omega)).mp a1
      omega
    · rw [e11 u e]; exact a4 q
  unfold B_X3_come_2
  dsimp only
  by_cases c1 : mA S 6 t = x
  · have hs := ti_at hti ht hT c1 hT2
    rw [if_pos c1]
    by_cases c2 : mA S 7 t = 0
    · rw [if_pos c2]
      exact ⟨okM_end h ht (nI_clamp (by omega)) (ne1 hs) (Or.inr (ne2 hs)), move _ c1 (fun k => end_o 6 k (by decide)) (fun i hi => by rw [end_11 (nI_clamp (by omega)), if_neg hi])⟩
    · rw [if_neg c2, if_pos c1]
      have g := okM_u h (u := t) (by omega)
      have h3 : okM N L b (mQ (mQ (mQ S 12 t 0) 16 t (mA (mQ S 12 t 0) 3 0)) 14 t (mA (mQ (mQ S 12 t 0) 16 t (mA (mQ S 12 t 0) 3 0)) 8 (12 * t))) := okM_mQ (okM_mQ (okM_mQ12 h ⟨0, h.2.2.2.1, by decide⟩) (by decide)) (by decide)
      have hy : ix (nI t) t 16 := ix_nI (by omega) (by omega)
      have hx : ix (0 : Int32) 0 6 := ix_lit (by decide) (by omega) (by omega)
      refine ⟨okM_toEnd h3 hx hy ht (notin_of (okM_q h3) hN (by omega) (ne1 hs)) ?_ (Or.inr (ne2 hs)), move _ c1 (fun k => by rw [toEnd_o 6 k (by decide)]; rfl) (fun i hi => by rw [toEnd_11 hy, if_neg hi]; rfl)⟩
      obtain ⟨c, c3, c4⟩ := g.2.1
      refine ⟨0, c, by rw [nI_0]; exact g.2.2.1 hs, c4, ?_, c3⟩
      rcases Nat.eq_zero_or_pos c with q | q
      · rw [q, nI_0] at c4; exact absurd c4 c2
      · exact q
  · rw [if_neg c1, if_neg c1]
    exact stay c1
theorem ok_B_comeBack {t : Nat} {x : Int32} (h : okM N L b S) (ht : t < N) : okM N L b (B_X3_comeBack_2 x t S) := by
  have hN := h.2.2.1
  unfold B_X3_comeBack_2
  dsimp only
  by_cases c1 : mA S 11 t = 3
  · rw [if_pos c1]
    by_cases c2 : mA S 18 t = x
    · rw [if_pos c2]
      split
      · exact okM_atEnd h ht (nI_clamp (by omega)) (ne31 c1) (Or.inr (ne32 c1))
      · next c3 =>
        have h1 := okM_at h (u := t) (by omega) (Or.inr (Or.inr c1)) c3
        have h2 : ∀ v, okM N L b (mQ (mQ S 13 t (mA S 13 t + 1)) 14 t v) := fun v => okM_mQ h1 (by decide)
        have hy : ix (nI t) t 16 := ix_nI (by omega) (by omega)
        exact okM_toEnd (h2 _) (okM_lx (h2 _) (by omega)) hy ht (notin_of (okM_q (h2 _)) hN (by omega) (ne31 c1)) (okM_ab (h2 _) (by omega) (Or.inr (Or.inr c1))).2 (Or.inr (ne32 c1))
    · rw [if_neg c2]; exact h
  · rw [if_neg c1]; exact h
theorem nx_16 (h : okM N L b S) {t n : Nat} (ht : t < 6) (hn : mA S 21 t = nI (n + 1)) (h31 : n + 1 < 2 ^ 31 := by omega) : n + 1 ≤ 16 := by
  have h1 := qOK_sz (okM_q h) ht
  have h2 : sZ S t = n + 1 := by show (mA S 21 t).toNatClampNeg = _; rw [hn, nI_clamp h31]
  omega
end OM4
end
