section
-- ===== PART A: goes FIRST, ahead of the names: the tables' words, and 'selects' of the private methods out of them =====
/-- a private method of a class that the tables say can be made, by its rows of tables_1 -/
def lw_okq (q : MethodName × Nat) : Prop := (q.1.cls ≠ "java/lang/invoke/MethodHandle" ∧ q.1.cls ≠ "java/lang/invoke/VarHandle") ∧ Cond.instantiable q.1.cls q.2 ∈ tables_1 ∧ Cond.privateMethod q.1 ∈ tables_1 ∧ Cond.instanceMethod q.1 ∈ tables_1
theorem lw_p0 : lw_okq (⟨"BootNet$Station", "select", "()V"⟩, 12) := ⟨⟨by decide +kernel, by decide +kernel⟩, List.mem_of_getElem? (i := 318) (by decide +kernel), List.mem_of_getElem? (i := 521) (by decide +kernel), List.mem_of_getElem? (i := 522) (by decide +kernel)⟩
theorem lw_p1 : lw_okq (⟨"BootNet$Station", "sendDiscover", "()V"⟩, 12) := ⟨⟨by decide +kernel, by decide +kernel⟩, List.mem_of_getElem? (i := 318) (by decide +kernel), List.mem_of_getElem? (i := 529) (by decide +kernel), List.mem_of_getElem? (i := 530) (by decide +kernel)⟩
theorem lw_p2 : lw_okq (⟨"BootNet", "arrive", "(LBootNet$Message;)V"⟩, 6) := ⟨⟨by decide +kernel, by decide +kernel⟩, List.mem_of_getElem? (i := 18) (by decide +kernel), List.mem_of_getElem? (i := 553) (by decide +kernel), List.mem_of_getElem? (i := 554) (by decide +kernel)⟩
theorem lw_p3 : lw_okq (⟨"BootNet$Server", "onDiscover", "(LBootNet$Message;)V"⟩, 7) := ⟨⟨by decide +kernel, by decide +kernel⟩, List.mem_of_getElem? (i := 209) (by decide +kernel), List.mem_of_getElem? (i := 581) (by decide +kernel), List.mem_of_getElem? (i := 582) (by decide +kernel)⟩
theorem lw_p4 : lw_okq (⟨"BootNet$Server", "leasedChoice", "(I)I"⟩, 7) := ⟨⟨by decide +kernel, by decide +kernel⟩, List.mem_of_getElem? (i := 209) (by decide +kernel), List.mem_of_getElem? (i := 585) (by decide +kernel), List.mem_of_getElem? (i := 586) (by decide +kernel)⟩
theorem lw_p5 : lw_okq (⟨"BootNet$Server", "reservedChoice", "(I)I"⟩, 7) := ⟨⟨by decide +kernel, by decide +kernel⟩, List.mem_of_getElem? (i := 209) (by decide +kernel), List.mem_of_getElem? (i := 607) (by decide +kernel), List.mem_of_getElem? (i := 608) (by decide +kernel)⟩
theorem lw_p6 : lw_okq (⟨"BootNet$Server", "poolChoice", "(I)I"⟩, 7) := ⟨⟨by decide +kernel, by decide +kernel⟩, List.mem_of_getElem? (i := 209) (by decide +kernel), List.mem_of_getElem? (i := 612) (by decide +kernel), List.mem_of_getElem? (i := 613) (by decide +kernel)⟩
theorem lw_p7 : lw_okq (⟨"BootNet$Server", "send", "(IIIII)LBootNet$Message;"⟩, 7) := ⟨⟨by decide +kernel, by decide +kernel⟩, List.mem_of_getElem? (i := 209) (by decide +kernel), List.mem_of_getElem? (i := 632) (by decide +kernel), List.mem_of_getElem? (i := 633) (by decide +kernel)⟩
theorem lw_p8 : lw_okq (⟨"BootNet$Server", "onRequest", "(LBootNet$Message;)V"⟩, 7) := ⟨⟨by decide +kernel, by decide +kernel⟩, List.mem_of_getElem? (i := 209) (by decide +kernel), List.mem_of_getElem? (i := 638) (by decide +kernel), List.mem_of_getElem? (i := 639) (by decide +kernel)⟩
theorem lw_p9 : lw_okq (⟨"BootNet$Server", "mayHave", "(II)Z"⟩, 7) := ⟨⟨by decide +kernel, by decide +kernel⟩, List.mem_of_getElem? (i := 209) (by decide +kernel), List.mem_of_getElem? (i := 642) (by decide +kernel), List.mem_of_getElem? (i := 643) (by decide +kernel)⟩
theorem lw_p10 : lw_okq (⟨"BootNet$Server", "recordLease", "(II)Z"⟩, 7) := ⟨⟨by decide +kernel, by decide +kernel⟩, List.mem_of_getElem? (i := 209) (by decide +kernel), List.mem_of_getElem? (i := 649) (by decide +kernel), List.mem_of_getElem? (i := 650) (by decide +kernel)⟩
theorem lw_p11 : lw_okq (⟨"BootNet$Records", "dropStale", "(I)V"⟩, 4) := ⟨⟨by decide +kernel, by decide +kernel⟩, List.mem_of_getElem? (i := 217) (by decide +kernel), List.mem_of_getElem? (i := 657) (by decide +kernel), List.mem_of_getElem? (i := 658) (by decide +kernel)⟩
theorem lw_p12 : lw_okq (⟨"BootNet$Records", "isLatestOfAddress", "(I)Z"⟩, 4) := ⟨⟨by decide +kernel, by decide +kernel⟩, List.mem_of_getElem? (i := 217) (by decide +kernel), List.mem_of_getElem? (i := 661) (by decide +kernel), List.mem_of_getElem? (i := 662) (by decide +kernel)⟩
theorem lw_p13 : lw_okq (⟨"BootNet$Server", "onDecline", "(LBootNet$Message;)V"⟩, 7) := ⟨⟨by decide +kernel, by decide +kernel⟩, List.mem_of_getElem? (i := 209) (by decide +kernel), List.mem_of_getElem? (i := 673) (by decide +kernel), List.mem_of_getElem? (i := 674) (by decide +kernel)⟩
theorem lw_p14 : lw_okq (⟨"BootNet$Server", "onRead", "(LBootNet$Message;)V"⟩, 7) := ⟨⟨by decide +kernel, by decide +kernel⟩, List.mem_of_getElem? (i := 209) (by decide +kernel), List.mem_of_getElem? (i := 681) (by decide +kernel), List.mem_of_getElem? (i := 682) (by decide +kernel)⟩
theorem lw_p15 : lw_okq (⟨"BootNet$Server", "sendBlock", "(ILBootNet$Transfer;)V"⟩, 7) := ⟨⟨by decide +kernel, by decide +kernel⟩, List.mem_of_getElem? (i := 209) (by decide +kernel), List.mem_of_getElem? (i := 689) (by decide +kernel), List.mem_of_getElem? (i := 690) (by decide +kernel)⟩
def lw_privs_1 : List (MethodName × Nat) := [(⟨"BootNet$Station", "select", "()V"⟩, 12), (⟨"BootNet$Station", "sendDiscover", "()V"⟩, 12), (⟨"BootNet", "arrive", "(LBootNet$Message;)V"⟩, 6), (⟨"BootNet$Server", "onDiscover", "(LBootNet$Message;)V"⟩, 7), (⟨"BootNet$Server", "leasedChoice", "(I)I"⟩, 7), (⟨"BootNet$Server", "reservedChoice", "(I)I"⟩, 7), (⟨"BootNet$Server", "poolChoice", "(I)I"⟩, 7), (⟨"BootNet$Server", "send", "(IIIII)LBootNet$Message;"⟩, 7), (⟨"BootNet$Server", "onRequest", "(LBootNet$Message;)V"⟩, 7), (⟨"BootNet$Server", "mayHave", "(II)Z"⟩, 7), (⟨"BootNet$Server", "recordLease", "(II)Z"⟩, 7), (⟨"BootNet$Records", "dropStale", "(I)V"⟩, 4), (⟨"BootNet$Records", "isLatestOfAddress", "(I)Z"⟩, 4), (⟨"BootNet$Server", "onDecline", "(LBootNet$Message;)V"⟩, 7), (⟨"BootNet$Server", "onRead", "(LBootNet$Message;)V"⟩, 7), (⟨"BootNet$Server", "sendBlock", "(ILBootNet$Transfer;)V"⟩, 7)]
theorem lw_r1 : ∀ q ∈ lw_privs_1, lw_okq q := List.forall_mem_cons.mpr ⟨lw_p0, List.forall_mem_cons.mpr ⟨lw_p1, List.forall_mem_cons.mpr ⟨lw_p2, List.forall_mem_cons.mpr ⟨lw_p3, List.forall_mem_cons.mpr ⟨lw_p4, List.forall_mem_cons.mpr ⟨lw_p5, List.forall_mem_cons.mpr ⟨lw_p6, List.forall_mem_cons.mpr ⟨lw_p7, List.forall_mem_cons.mpr ⟨lw_p8, List.forall_mem_cons.mpr ⟨lw_p9, List.forall_mem_cons.mpr ⟨lw_p10, List.forall_mem_cons.mpr ⟨lw_p11, List.forall_mem_cons.mpr ⟨lw_p12, List.forall_mem_cons.mpr ⟨lw_p13, List.forall_mem_cons.mpr ⟨lw_p14, List.forall_mem_cons.mpr ⟨lw_p15, fun _ h => absurd h List.not_mem_nil⟩⟩⟩⟩⟩⟩⟩⟩⟩⟩⟩⟩⟩⟩⟩⟩
theorem lw_p16 : lw_okq (⟨"BootNet$Server", "onGot", "(LBootNet$Message;)V"⟩, 7) := ⟨⟨by decide +kernel, by decide +kernel⟩, List.mem_of_getElem? (i := 209) (by decide +kernel), List.mem_of_getElem? (i := 699) (by decide +kernel), List.mem_of_getElem? (i := 700) (by decide +kernel)⟩
theorem lw_p17 : lw_okq (⟨"BootNet", "answerProbe", "(LBootNet$Message;)V"⟩, 6) := ⟨⟨by decide +kernel, by decide +kernel⟩, List.mem_of_getElem? (i := 18) (by decide +kernel), List.mem_of_getElem? (i := 703) (by decide +kernel), List.mem_of_getElem? (i := 704) (by decide +kernel)⟩
theorem lw_p18 : lw_okq (⟨"BootNet", "isHeldByAnother", "(II)Z"⟩, 6) := ⟨⟨by decide +kernel, by decide +kernel⟩, List.mem_of_getElem? (i := 18) (by decide +kernel), List.mem_of_getElem? (i := 711) (by decide +kernel), List.mem_of_getElem? (i := 712) (by decide +kernel)⟩
theorem lw_p19 : lw_okq (⟨"BootNet$Station", "onOffer", "(LBootNet$Message;)V"⟩, 12) := ⟨⟨by decide +kernel, by decide +kernel⟩, List.mem_of_getElem? (i := 318) (by decide +kernel), List.mem_of_getElem? (i := 724) (by decide +kernel), List.mem_of_getElem? (i := 725) (by decide +kernel)⟩
theorem lw_p20 : lw_okq (⟨"BootNet$Station", "ask", "()V"⟩, 12) := ⟨⟨by decide +kernel, by decide +kernel⟩, List.mem_of_getElem? (i := 318) (by decide +kernel), List.mem_of_getElem? (i := 728) (by decide +kernel), List.mem_of_getElem? (i := 729) (by decide +kernel)⟩
theorem lw_p21 : lw_okq (⟨"BootNet$Station", "onAck", "(LBootNet$Message;)V"⟩, 12) := ⟨⟨by decide +kernel, by decide +kernel⟩, List.mem_of_getElem? (i := 318) (by decide +kernel), List.mem_of_getElem? (i := 732) (by decide +kernel), List.mem_of_getElem? (i := 733) (by decide +kernel)⟩
theorem lw_p22 : lw_okq (⟨"BootNet$Station", "onNak", "(LBootNet$Message;)V"⟩, 12) := ⟨⟨by decide +kernel, by decide +kernel⟩, List.mem_of_getElem? (i := 318) (by decide +kernel), List.mem_of_getElem? (i := 736) (by decide +kernel), List.mem_of_getElem? (i := 737) (by decide +kernel)⟩
theorem lw_p23 : lw_okq (⟨"BootNet$Station", "onHere", "(LBootNet$Message;)V"⟩, 12) := ⟨⟨by decide +kernel, by decide +kernel⟩, List.mem_of_getElem? (i := 318) (by decide +kernel), List.mem_of_getElem? (i := 740) (by decide +kernel), List.mem_of_getElem? (i := 741) (by decide +kernel)⟩
theorem lw_p24 : lw_okq (⟨"BootNet$Station", "fail", "(I)V"⟩, 12) := ⟨⟨by decide +kernel, by decide +kernel⟩, List.mem_of_getElem? (i := 318) (by decide +kernel), List.mem_of_getElem? (i := 744) (by decide +kernel), List.mem_of_getElem? (i := 745) (by decide +kernel)⟩
theorem lw_p25 : lw_okq (⟨"BootNet$Loading", "addBytes", "(LBootNet$Message;)V"⟩, 12) := ⟨⟨by decide +kernel, by decide +kernel⟩, List.mem_of_getElem? (i := 324) (by decide +kernel), List.mem_of_getElem? (i := 753) (by decide +kernel), List.mem_of_getElem? (i := 754) (by decide +kernel)⟩
theorem lw_p26 : lw_okq (⟨"BootNet$Loading", "waitAnew", "()V"⟩, 12) := ⟨⟨by decide +kernel, by decide +kernel⟩, List.mem_of_getElem? (i := 324) (by decide +kernel), List.mem_of_getElem? (i := 758) (by decide +kernel), List.mem_of_getElem? (i := 759) (by decide +kernel)⟩
theorem lw_p27 : lw_okq (⟨"BootNet$Loading", "resultOfEntry", "()I"⟩, 12) := ⟨⟨by decide +kernel, by decide +kernel⟩, List.mem_of_getElem? (i := 324) (by decide +kernel), List.mem_of_getElem? (i := 766) (by decide +kernel), List.mem_of_getElem? (i := 767) (by decide +kernel)⟩
theorem lw_p28 : lw_okq (⟨"BootNet$Loading", "sendRead", "()V"⟩, 12) := ⟨⟨by decide +kernel, by decide +kernel⟩, List.mem_of_getElem? (i := 324) (by decide +kernel), List.mem_of_getElem? (i := 779) (by decide +kernel), List.mem_of_getElem? (i := 780) (by decide +kernel)⟩
theorem lw_p29 : lw_okq (⟨"BootNet$Station", "tryAgain", "()V"⟩, 12) := ⟨⟨by decide +kernel, by decide +kernel⟩, List.mem_of_getElem? (i := 318) (by decide +kernel), List.mem_of_getElem? (i := 804) (by decide +kernel), List.mem_of_getElem? (i := 805) (by decide +kernel)⟩
theorem lw_p30 : lw_okq (⟨"BootNet$Station", "endProbe", "()V"⟩, 12) := ⟨⟨by decide +kernel, by decide +kernel⟩, List.mem_of_getElem? (i := 318) (by decide +kernel), List.mem_of_getElem? (i := 808) (by decide +kernel), List.mem_of_getElem? (i := 809) (by decide +kernel)⟩
theorem lw_p31 : lw_okq (⟨"BootNet$Station", "isTimeToRebind", "()Z"⟩, 12) := ⟨⟨by decide +kernel, by decide +kernel⟩, List.mem_of_getElem? (i := 318) (by decide +kernel), List.mem_of_getElem? (i := 813) (by decide +kernel), List.mem_of_getElem? (i := 814) (by decide +kernel)⟩
def lw_privs_2 : List (MethodName × Nat) := [(⟨"BootNet$Server", "onGot", "(LBootNet$Message;)V"⟩, 7), (⟨"BootNet", "answerProbe", "(LBootNet$Message;)V"⟩, 6), (⟨"BootNet", "isHeldByAnother", "(II)Z"⟩, 6), (⟨"BootNet$Station", "onOffer", "(LBootNet$Message;)V"⟩, 12), (⟨"BootNet$Station", "ask", "()V"⟩, 12), (⟨"BootNet$Station", "onAck", "(LBootNet$Message;)V"⟩, 12), (⟨"BootNet$Station", "onNak", "(LBootNet$Message;)V"⟩, 12), (⟨"BootNet$Station", "onHere", "(LBootNet$Message;)V"⟩, 12), (⟨"BootNet$Station", "fail", "(I)V"⟩, 12), (⟨"BootNet$Loading", "addBytes", "(LBootNet$Message;)V"⟩, 12), (⟨"BootNet$Loading", "waitAnew", "()V"⟩, 12), (⟨"BootNet$Loading", "resultOfEntry", "()I"⟩, 12), (⟨"BootNet$Loading", "sendRead", "()V"⟩, 12), (⟨"BootNet$Station", "tryAgain", "()V"⟩, 12), (⟨"BootNet$Station", "endProbe", "()V"⟩, 12), (⟨"BootNet$Station", "isTimeToRebind", "()Z"⟩, 12)]
theorem lw_r2 : ∀ q ∈ lw_privs_2, lw_okq q := List.forall_mem_cons.mpr ⟨lw_p16, List.forall_mem_cons.mpr ⟨lw_p17, List.forall_mem_cons.mpr ⟨lw_p18, List.forall_mem_cons.mpr ⟨lw_p19, List.forall_mem_cons.mpr ⟨lw_p20, List.forall_mem_cons.mpr ⟨lw_p21, List.forall_mem_cons.mpr ⟨lw_p22, List.forall_mem_cons.mpr ⟨lw_p23, List.forall_mem_cons.mpr ⟨lw_p24, List.forall_mem_cons.mpr ⟨lw_p25, List.forall_mem_cons.mpr ⟨lw_p26, List.forall_mem_cons.mpr ⟨lw_p27, List.forall_mem_cons.mpr ⟨lw_p28, List.forall_mem_cons.mpr ⟨lw_p29, List.forall_mem_cons.mpr ⟨lw_p30, List.forall_mem_cons.mpr ⟨lw_p31, fun _ h => absurd h List.not_mem_nil⟩⟩⟩⟩⟩⟩⟩⟩⟩⟩⟩⟩⟩⟩⟩⟩
theorem lw_p32 : lw_okq (⟨"BootNetModel", "isStation", "(I)Z"⟩, 58) := ⟨⟨by decide +kernel, by decide +kernel⟩, List.mem_of_getElem? (i := 883) (by decide +kernel), List.mem_of_getElem? (i := 1076) (by decide +kernel), List.mem_of_getElem? (i := 1077) (by decide +kernel)⟩
theorem lw_p33 : lw_okq (⟨"BootNetModel", "copy", "(II)V"⟩, 58) := ⟨⟨by decide +kernel, by decide +kernel⟩, List.mem_of_getElem? (i := 883) (by decide +kernel), List.mem_of_getElem? (i := 1110) (by decide +kernel), List.mem_of_getElem? (i := 1111) (by decide +kernel)⟩
theorem lw_p34 : lw_okq (⟨"BootNetModel", "take", "(I)V"⟩, 58) := ⟨⟨by decide +kernel, by decide +kernel⟩, List.mem_of_getElem? (i := 883) (by decide +kernel), List.mem_of_getElem? (i := 1114) (by decide +kernel), List.mem_of_getElem? (i := 1115) (by decide +kernel)⟩
theorem lw_p35 : lw_okq (⟨"BootNetModel", "swap", "(II)V"⟩, 58) := ⟨⟨by decide +kernel, by decide +kernel⟩, List.mem_of_getElem? (i := 883) (by decide +kernel), List.mem_of_getElem? (i := 1128) (by decide +kernel), List.mem_of_getElem? (i := 1129) (by decide +kernel)⟩
theorem lw_p36 : lw_okq (⟨"BootNetModel", "serve", "(IIIII)V"⟩, 58) := ⟨⟨by decide +kernel, by decide +kernel⟩, List.mem_of_getElem? (i := 883) (by decide +kernel), List.mem_of_getElem? (i := 1132) (by decide +kernel), List.mem_of_getElem? (i := 1133) (by decide +kernel)⟩
theorem lw_p37 : lw_okq (⟨"BootNetModel", "offer", "(II)V"⟩, 58) := ⟨⟨by decide +kernel, by decide +kernel⟩, List.mem_of_getElem? (i := 883) (by decide +kernel), List.mem_of_getElem? (i := 1136) (by decide +kernel), List.mem_of_getElem? (i := 1137) (by decide +kernel)⟩
theorem lw_p38 : lw_okq (⟨"BootNetModel", "choice", "(I)I"⟩, 58) := ⟨⟨by decide +kernel, by decide +kernel⟩, List.mem_of_getElem? (i := 883) (by decide +kernel), List.mem_of_getElem? (i := 1140) (by decide +kernel), List.mem_of_getElem? (i := 1141) (by decide +kernel)⟩
theorem lw_p39 : lw_okq (⟨"BootNetModel", "leased", "(II)Z"⟩, 58) := ⟨⟨by decide +kernel, by decide +kernel⟩, List.mem_of_getElem? (i := 883) (by decide +kernel), List.mem_of_getElem? (i := 1144) (by decide +kernel), List.mem_of_getElem? (i := 1145) (by decide +kernel)⟩
theorem lw_p40 : lw_okq (⟨"BootNetModel", "free", "(II)Z"⟩, 58) := ⟨⟨by decide +kernel, by decide +kernel⟩, List.mem_of_getElem? (i := 883) (by decide +kernel), List.mem_of_getElem? (i := 1148) (by decide +kernel), List.mem_of_getElem? (i := 1149) (by decide +kernel)⟩
theorem lw_p41 : lw_okq (⟨"BootNetModel", "send", "(IIIII)V"⟩, 58) := ⟨⟨by decide +kernel, by decide +kernel⟩, List.mem_of_getElem? (i := 883) (by decide +kernel), List.mem_of_getElem? (i := 1152) (by decide +kernel), List.mem_of_getElem? (i := 1153) (by decide +kernel)⟩
theorem lw_p42 : lw_okq (⟨"BootNetModel", "grant", "(III)V"⟩, 58) := ⟨⟨by decide +kernel, by decide +kernel⟩, List.mem_of_getElem? (i := 883) (by decide +kernel), List.mem_of_getElem? (i := 1156) (by decide +kernel), List.mem_of_getElem? (i := 1157) (by decide +kernel)⟩
theorem lw_p43 : lw_okq (⟨"BootNetModel", "offered", "(II)Z"⟩, 58) := ⟨⟨by decide +kernel, by decide +kernel⟩, List.mem_of_getElem? (i := 883) (by decide +kernel), List.mem_of_getElem? (i := 1160) (by decide +kernel), List.mem_of_getElem? (i := 1161) (by decide +kernel)⟩
theorem lw_p44 : lw_okq (⟨"BootNetModel", "recorded", "(III)Z"⟩, 58) := ⟨⟨by decide +kernel, by decide +kernel⟩, List.mem_of_getElem? (i := 883) (by decide +kernel), List.mem_of_getElem? (i := 1164) (by decide +kernel), List.mem_of_getElem? (i := 1165) (by decide +kernel)⟩
theorem lw_p45 : lw_okq (⟨"BootNetModel", "drop", "()V"⟩, 58) := ⟨⟨by decide +kernel, by decide +kernel⟩, List.mem_of_getElem? (i := 883) (by decide +kernel), List.mem_of_getElem? (i := 1168) (by decide +kernel), List.mem_of_getElem? (i := 1169) (by decide +kernel)⟩
theorem lw_p46 : lw_okq (⟨"BootNetModel", "latest", "(I)Z"⟩, 58) := ⟨⟨by decide +kernel, by decide +kernel⟩, List.mem_of_getElem? (i := 883) (by decide +kernel), List.mem_of_getElem? (i := 1172) (by decide +kernel), List.mem_of_getElem? (i := 1173) (by decide +kernel)⟩
theorem lw_p47 : lw_okq (⟨"BootNetModel", "again", "(I)V"⟩, 58) := ⟨⟨by decide +kernel, by decide +kernel⟩, List.mem_of_getElem? (i := 883) (by decide +kernel), List.mem_of_getElem? (i := 1176) (by decide +kernel), List.mem_of_getElem? (i := 1177) (by decide +kernel)⟩
def lw_privs_3 : List (MethodName × Nat) := [(⟨"BootNetModel", "isStation", "(I)Z"⟩, 58), (⟨"BootNetModel", "copy", "(II)V"⟩, 58), (⟨"BootNetModel", "take", "(I)V"⟩, 58), (⟨"BootNetModel", "swap", "(II)V"⟩, 58), (⟨"BootNetModel", "serve", "(IIIII)V"⟩, 58), (⟨"BootNetModel", "offer", "(II)V"⟩, 58), (⟨"BootNetModel", "choice", "(I)I"⟩, 58), (⟨"BootNetModel", "leased", "(II)Z"⟩, 58), (⟨"BootNetModel", "free", "(II)Z"⟩, 58), (⟨"BootNetModel", "send", "(IIIII)V"⟩, 58), (⟨"BootNetModel", "grant", "(III)V"⟩, 58), (⟨"BootNetModel", "offered", "(II)Z"⟩, 58), (⟨"BootNetModel", "recorded", "(III)Z"⟩, 58), (⟨"BootNetModel", "drop", "()V"⟩, 58), (⟨"BootNetModel", "latest", "(I)Z"⟩, 58), (⟨"BootNetModel", "again", "(I)V"⟩, 58)]
theorem lw_r3 : ∀ q ∈ lw_privs_3, lw_okq q := List.forall_mem_cons.mpr ⟨lw_p32, List.forall_mem_cons.mpr ⟨lw_p33, List.forall_mem_cons.mpr ⟨lw_p34, List.forall_mem_cons.mpr ⟨lw_p35, List.forall_mem_cons.mpr ⟨lw_p36, List.forall_mem_cons.mpr ⟨lw_p37, List.forall_mem_cons.mpr ⟨lw_p38, List.forall_mem_cons.mpr ⟨lw_p39, List.forall_mem_cons.mpr ⟨lw_p40, List.forall_mem_cons.mpr ⟨lw_p41, List.forall_mem_cons.mpr ⟨lw_p42, List.forall_mem_cons.mpr ⟨lw_p43, List.forall_mem_cons.mpr ⟨lw_p44, List.forall_mem_cons.mpr ⟨lw_p45, List.forall_mem_cons.mpr ⟨lw_p46, List.forall_mem_cons.mpr ⟨lw_p47, fun _ h => absurd h List.not_mem_nil⟩⟩⟩⟩⟩⟩⟩⟩⟩⟩⟩⟩⟩⟩⟩⟩
theorem lw_p48 : lw_okq (⟨"BootNetModel", "probed", "(II)V"⟩, 58) := ⟨⟨by decide +kernel, by decide +kernel⟩, List.mem_of_getElem? (i := 883) (by decide +kernel), List.mem_of_getElem? (i := 1180) (by decide +kernel), List.mem_of_getElem? (i := 1181) (by decide +kernel)⟩
theorem lw_p49 : lw_okq (⟨"BootNetModel", "holds", "(I)Z"⟩, 58) := ⟨⟨by decide +kernel, by decide +kernel⟩, List.mem_of_getElem? (i := 883) (by decide +kernel), List.mem_of_getElem? (i := 1184) (by decide +kernel), List.mem_of_getElem? (i := 1185) (by decide +kernel)⟩
theorem lw_p50 : lw_okq (⟨"BootNetModel", "hear", "(IIIIII)V"⟩, 58) := ⟨⟨by decide +kernel, by decide +kernel⟩, List.mem_of_getElem? (i := 883) (by decide +kernel), List.mem_of_getElem? (i := 1188) (by decide +kernel), List.mem_of_getElem? (i := 1189) (by decide +kernel)⟩
theorem lw_p51 : lw_okq (⟨"BootNetModel", "ask", "(I)V"⟩, 58) := ⟨⟨by decide +kernel, by decide +kernel⟩, List.mem_of_getElem? (i := 883) (by decide +kernel), List.mem_of_getElem? (i := 1192) (by decide +kernel), List.mem_of_getElem? (i := 1193) (by decide +kernel)⟩
theorem lw_p52 : lw_okq (⟨"BootNetModel", "renumber", "(I)V"⟩, 58) := ⟨⟨by decide +kernel, by decide +kernel⟩, List.mem_of_getElem? (i := 883) (by decide +kernel), List.mem_of_getElem? (i := 1196) (by decide +kernel), List.mem_of_getElem? (i := 1197) (by decide +kernel)⟩
theorem lw_p53 : lw_okq (⟨"BootNetModel", "select", "(I)V"⟩, 58) := ⟨⟨by decide +kernel, by decide +kernel⟩, List.mem_of_getElem? (i := 883) (by decide +kernel), List.mem_of_getElem? (i := 1200) (by decide +kernel), List.mem_of_getElem? (i := 1201) (by decide +kernel)⟩
theorem lw_p54 : lw_okq (⟨"BootNetModel", "conflict", "(I)V"⟩, 58) := ⟨⟨by decide +kernel, by decide +kernel⟩, List.mem_of_getElem? (i := 883) (by decide +kernel), List.mem_of_getElem? (i := 1204) (by decide +kernel), List.mem_of_getElem? (i := 1205) (by decide +kernel)⟩
theorem lw_p55 : lw_okq (⟨"BootNetModel", "fail", "(II)V"⟩, 58) := ⟨⟨by decide +kernel, by decide +kernel⟩, List.mem_of_getElem? (i := 883) (by decide +kernel), List.mem_of_getElem? (i := 1208) (by decide +kernel), List.mem_of_getElem? (i := 1209) (by decide +kernel)⟩
theorem lw_p56 : lw_okq (⟨"BootNetModel", "receive", "(IIII)V"⟩, 58) := ⟨⟨by decide +kernel, by decide +kernel⟩, List.mem_of_getElem? (i := 883) (by decide +kernel), List.mem_of_getElem? (i := 1212) (by decide +kernel), List.mem_of_getElem? (i := 1213) (by decide +kernel)⟩
theorem lw_p57 : lw_okq (⟨"BootNetModel", "load", "(II)V"⟩, 58) := ⟨⟨by decide +kernel, by decide +kernel⟩, List.mem_of_getElem? (i := 883) (by decide +kernel), List.mem_of_getElem? (i := 1216) (by decide +kernel), List.mem_of_getElem? (i := 1217) (by decide +kernel)⟩
theorem lw_p58 : lw_okq (⟨"BootNetModel", "live", "(I)V"⟩, 58) := ⟨⟨by decide +kernel, by decide +kernel⟩, List.mem_of_getElem? (i := 883) (by decide +kernel), List.mem_of_getElem? (i := 1244) (by decide +kernel), List.mem_of_getElem? (i := 1245) (by decide +kernel)⟩
theorem lw_p59 : lw_okq (⟨"BootNetModel", "selectAgain", "(I)V"⟩, 58) := ⟨⟨by decide +kernel, by decide +kernel⟩, List.mem_of_getElem? (i := 883) (by decide +kernel), List.mem_of_getElem? (i := 1248) (by decide +kernel), List.mem_of_getElem? (i := 1249) (by decide +kernel)⟩
theorem lw_p60 : lw_okq (⟨"BootNetModel", "settle", "(I)V"⟩, 58) := ⟨⟨by decide +kernel, by decide +kernel⟩, List.mem_of_getElem? (i := 883) (by decide +kernel), List.mem_of_getElem? (i := 1252) (by decide +kernel), List.mem_of_getElem? (i := 1253) (by decide +kernel)⟩
theorem lw_p61 : lw_okq (⟨"BootNetModel", "loadAgain", "(I)V"⟩, 58) := ⟨⟨by decide +kernel, by decide +kernel⟩, List.mem_of_getElem? (i := 883) (by decide +kernel), List.mem_of_getElem? (i := 1256) (by decide +kernel), List.mem_of_getElem? (i := 1257) (by decide +kernel)⟩
def lw_privs_4 : List (MethodName × Nat) := [(⟨"BootNetModel", "probed", "(II)V"⟩, 58), (⟨"BootNetModel", "holds", "(I)Z"⟩, 58), (⟨"BootNetModel", "hear", "(IIIIII)V"⟩, 58), (⟨"BootNetModel", "ask", "(I)V"⟩, 58), (⟨"BootNetModel", "renumber", "(I)V"⟩, 58), (⟨"BootNetModel", "select", "(I)V"⟩, 58), (⟨"BootNetModel", "conflict", "(I)V"⟩, 58), (⟨"BootNetModel", "fail", "(II)V"⟩, 58), (⟨"BootNetModel", "receive", "(IIII)V"⟩, 58), (⟨"BootNetModel", "load", "(II)V"⟩, 58), (⟨"BootNetModel", "live", "(I)V"⟩, 58), (⟨"BootNetModel", "selectAgain", "(I)V"⟩, 58), (⟨"BootNetModel", "settle", "(I)V"⟩, 58), (⟨"BootNetModel", "loadAgain", "(I)V"⟩, 58)]
theorem lw_r4 : ∀ q ∈ lw_privs_4, lw_okq q := List.forall_mem_cons.mpr ⟨lw_p48, List.forall_mem_cons.mpr ⟨lw_p49, List.forall_mem_cons.mpr ⟨lw_p50, List.forall_mem_cons.mpr ⟨lw_p51, List.forall_mem_cons.mpr ⟨lw_p52, List.forall_mem_cons.mpr ⟨lw_p53, List.forall_mem_cons.mpr ⟨lw_p54, List.forall_mem_cons.mpr ⟨lw_p55, List.forall_mem_cons.mpr ⟨lw_p56, List.forall_mem_cons.mpr ⟨lw_p57, List.forall_mem_cons.mpr ⟨lw_p58, List.forall_mem_cons.mpr ⟨lw_p59, List.forall_mem_cons.mpr ⟨lw_p60, List.forall_mem_cons.mpr ⟨lw_p61, fun _ h => absurd h List.not_mem_nil⟩⟩⟩⟩⟩⟩⟩⟩⟩⟩⟩⟩⟩⟩
def lw_privs : List (MethodName × Nat) := lw_privs_1 ++ (lw_privs_2 ++ (lw_privs_3 ++ (lw_privs_4)))
def lw_tbl : List Cond := k2_sels lw_privs ++ tables_1
theorem lw_privs_ok : ∀ q ∈ lw_privs, lw_okq q := by
  show ∀ q ∈ lw_privs_1 ++ (lw_privs_2 ++ (lw_privs_3 ++ (lw_privs_4))), lw_okq q
  exact List.forall_mem_append.mpr ⟨lw_r1, List.forall_mem_append.mpr ⟨lw_r2, List.forall_mem_append.mpr ⟨lw_r3, lw_r4⟩⟩⟩
end
section
/-! The tables of the X machine: classes, methods, code with what it links. Written by prog/gen_tables.py out of the listing and of the Statement's words. -/
def xt_cn (i : Nat) : String := (["BootNet", "BootNet$AddressBook", "BootNet$Ground", "BootNet$Layout", "BootNet$Library", "BootNet$Loading", "BootNet$Message", "BootNet$Records", "BootNet$Server", "BootNet$Station", "BootNet$Transfer", "BootNet$Wire", "BootNetModel", "java/util/Arrays", "BootNetLaw"] : List String).getD i ""
def xt_F0 : u_T := fun k => ([("BootNet", "ground", "LBootNet$Ground;", true), ("BootNet", "wire", "LBootNet$Wire;", true), ("BootNet", "layout", "LBootNet$Layout;", true), ("BootNet", "library", "LBootNet$Library;", true), ("BootNet", "server", "LBootNet$Server;", true), ("BootNet", "stations", "[LBootNet$Station;", true)] : List (String × String × String × Bool)).getD k ("", "", "", false)
def xt_F1 : u_T := fun k => ([("BootNet$AddressBook", "ground", "LBootNet$Ground;", true), ("BootNet$AddressBook", "layout", "LBootNet$Layout;", true), ("BootNet$AddressBook", "leasedTo", "[I", true), ("BootNet$AddressBook", "leasedUntil", "[I", true), ("BootNet$AddressBook", "offeredTo", "[I", true), ("BootNet$AddressBook", "offeredUntil", "[I", true), ("BootNet$AddressBook", "barredUntil", "[I", true)] : List (String × String × String × Bool)).getD k ("", "", "", false)
def xt_F2 : u_T := fun k => ([("BootNet$Ground", "leaseTicks", "I", true), ("BootNet$Ground", "limit", "I", true), ("BootNet$Ground", "blockSize", "I", true), ("BootNet$Ground", "now", "I", false), ("BootNet$Ground", "latestNumber", "I", false)] : List (String × String × String × Bool)).getD k ("", "", "", false)
def xt_F3 : u_T := fun k => ([("BootNet$Layout", "poolLow", "[I", true), ("BootNet$Layout", "poolHigh", "[I", true), ("BootNet$Layout", "subnetOf", "[I", true), ("BootNet$Layout", "reservedFor", "[I", true), ("BootNet$Layout", "taken", "[Z", true), ("BootNet$Layout", "stationCount", "I", false)] : List (String × String × String × Bool)).getD k ("", "", "", false)
def xt_F4 : u_T := fun k => ([("BootNet$Library", "bytes", "[[I", true), ("BootNet$Library", "byteCounts", "[I", true), ("BootNet$Library", "entryFiles", "[I", true), ("BootNet$Library", "entryLengths", "[I", true), ("BootNet$Library", "entryChecks", "[I", true), ("BootNet$Library", "entryCount", "I", false)] : List (String × String × String × Bool)).getD k ("", "", "", false)
def xt_F5 : u_T := fun k => ([("BootNet$Loading", "owner", "I", true), ("BootNet$Loading", "ground", "LBootNet$Ground;", true), ("BootNet$Loading", "wire", "LBootNet$Wire;", true), ("BootNet$Loading", "library", "LBootNet$Library;", true), ("BootNet$Loading", "bytes", "[I", true), ("BootNet$Loading", "byteCount", "I", false), ("BootNet$Loading", "entryStart", "I", false), ("BootNet$Loading", "block", "I", false), ("BootNet$Loading", "tries", "I", false), ("BootNet$Loading", "due", "I", false), ("BootNet$Loading", "entryAt", "I", false), ("BootNet$Loading", "result", "I", false)] : List (String × String × String × Bool)).getD k ("", "", "", false)
def xt_F6 : u_T := fun k => ([("BootNet$Message", "kind", "I", false), ("BootNet$Message", "station", "I", false), ("BootNet$Message", "number", "I", false), ("BootNet$Message", "item", "I", false), ("BootNet$Message", "block", "I", false), ("BootNet$Message", "leg", "I", false), ("BootNet$Message", "byteCount", "I", false), ("BootNet$Message", "bytes", "[I", true)] : List (String × String × String × Bool)).getD k ("", "", "", false)
def xt_F7 : u_T := fun k => ([("BootNet$Records", "addresses", "[I", true), ("BootNet$Records", "holders", "[I", true), ("BootNet$Records", "ticks", "[I", true), ("BootNet$Records", "count", "I", false)] : List (String × String × String × Bool)).getD k ("", "", "", false)
def xt_F8 : u_T := fun k => ([("BootNet$Server", "ground", "LBootNet$Ground;", true), ("BootNet$Server", "wire", "LBootNet$Wire;", true), ("BootNet$Server", "layout", "LBootNet$Layout;", true), ("BootNet$Server", "library", "LBootNet$Library;", true), ("BootNet$Server", "transfers", "[LBootNet$Transfer;", true), ("BootNet$Server", "book", "LBootNet$AddressBook;", true), ("BootNet$Server", "records", "LBootNet$Records;", true)] : List (String × String × String × Bool)).getD k ("", "", "", false)
def xt_F9 : u_T := fun k => ([("BootNet$Station", "self", "I", true), ("BootNet$Station", "ground", "LBootNet$Ground;", true), ("BootNet$Station", "wire", "LBootNet$Wire;", true), ("BootNet$Station", "loading", "LBootNet$Loading;", true), ("BootNet$Station", "state", "I", false), ("BootNet$Station", "address", "I", false), ("BootNet$Station", "number", "I", false), ("BootNet$Station", "sent", "I", false), ("BootNet$Station", "end", "I", false), ("BootNet$Station", "due", "I", false), ("BootNet$Station", "tries", "I", false), ("BootNet$Station", "conflicts", "I", false)] : List (String × String × String × Bool)).getD k ("", "", "", false)
def xt_F10 : u_T := fun k => ([("BootNet$Transfer", "open", "Z", false), ("BootNet$Transfer", "file", "I", false), ("BootNet$Transfer", "block", "I", false), ("BootNet$Transfer", "tries", "I", false), ("BootNet$Transfer", "due", "I", false), ("BootNet$Transfer", "sentBytes", "I", false)] : List (String × String × String × Bool)).getD k ("", "", "", false)
def xt_F11 : u_T := fun k => ([("BootNet$Wire", "slots", "[LBootNet$Message;", true), ("BootNet$Wire", "count", "I", false), ("BootNet$Wire", "outside", "LBootNet$Message;", false), ("BootNet$Wire", "lost", "LBootNet$Message;", true)] : List (String × String × String × Bool)).getD k ("", "", "", false)
def xt_F12 : u_T := fun k => ([("BootNetModel", "lease", "I", true), ("BootNetModel", "limit", "I", true), ("BootNetModel", "size", "I", true), ("BootNetModel", "now", "I", false), ("BootNetModel", "numbers", "I", false), ("BootNetModel", "low", "[I", true), ("BootNetModel", "high", "[I", true), ("BootNetModel", "reserved", "[I", true), ("BootNetModel", "strange", "[Z", true), ("BootNetModel", "rows", "I", false), ("BootNetModel", "kind", "[I", true), ("BootNetModel", "whose", "[I", true), ("BootNetModel", "number", "[I", true), ("BootNetModel", "subject", "[I", true), ("BootNetModel", "block", "[I", true), ("BootNetModel", "many", "[I", true), ("BootNetModel", "leg", "[I", true), ("BootNetModel", "bytes", "[I", true), ("BootNetModel", "length", "[I", true), ("BootNetModel", "content", "[I", true), ("BootNetModel", "entries", "I", false), ("BootNetModel", "entryFile", "[I", true), ("BootNetModel", "entryLength", "[I", true), ("BootNetModel", "entryCheck", "[I", true), ("BootNetModel", "leaseTo", "[I", true), ("BootNetModel", "leaseTill", "[I", true), ("BootNetModel", "offerTo", "[I", true), ("BootNetModel", "offerTill", "[I", true), ("BootNetModel", "barTill", "[I", true), ("BootNetModel", "records", "I", false), ("BootNetModel", "recordAddress", "[I", true), ("BootNetModel", "recordStation", "[I", true), ("BootNetModel", "recordTill", "[I", true), ("BootNetModel", "sendFile", "[I", true), ("BootNetModel", "sendBlock", "[I", true), ("BootNetModel", "sendMany", "[I", true), ("BootNetModel", "sendTries", "[I", true), ("BootNetModel", "sendDue", "[I", true), ("BootNetModel", "stations", "I", false), ("BootNetModel", "subnet", "[I", true), ("BootNetModel", "state", "[I", true), ("BootNetModel", "address", "[I", true), ("BootNetModel", "own", "[I", true), ("BootNetModel", "sent", "[I", true), ("BootNetModel", "end", "[I", true), ("BootNetModel", "due", "[I", true), ("BootNetModel", "tries", "[I", true), ("BootNetModel", "conflicts", "[I", true), ("BootNetModel", "result", "[I", true), ("BootNetModel", "entry", "[I", true), ("BootNetModel", "wanted", "[I", true), ("BootNetModel", "loadTries", "[I", true), ("BootNetModel", "loadDue", "[I", true), ("BootNetModel", "got", "[I", true), ("BootNetModel", "start", "[I", true), ("BootNetModel", "image", "[I", true), ("BootNetModel", "arrived", "[I", true), ("BootNetModel", "aside", "[I", true)] : List (String × String × String × Bool)).getD k ("", "", "", false)
def xt_cs : List vw_C := [("BootNet", xt_F0, 6), ("BootNet$AddressBook", xt_F1, 7), ("BootNet$Ground", xt_F2, 5), ("BootNet$Layout", xt_F3, 6), ("BootNet$Library", xt_F4, 6), ("BootNet$Loading", xt_F5, 12), ("BootNet$Message", xt_F6, 8), ("BootNet$Records", xt_F7, 4), ("BootNet$Server", xt_F8, 7), ("BootNet$Station", xt_F9, 12), ("BootNet$Transfer", xt_F10, 6), ("BootNet$Wire", xt_F11, 4), ("BootNetModel", xt_F12, 58)]
def xt_fts : List (List FieldType) := [[(.object "BootNet$Ground"), (.object "BootNet$Wire"), (.object "BootNet$Layout"), (.object "BootNet$Library"), (.object "BootNet$Server"), (.array (.object "BootNet$Station"))], [(.object "BootNet$Ground"), (.object "BootNet$Layout"), (.array .int), (.array .int), (.array .int), (.array .int), (.array .int)], [.int, .int, .int, .int, .int], [(.array .int), (.array .int), (.array .int), (.array .int), (.array .boolean), .int], [(.array (.array .int)), (.array .int), (.array .int), (.array .int), (.array .int), .int], [.int, (.object "BootNet$Ground"), (.object "BootNet$Wire"), (.object "BootNet$Library"), (.array .int), .int, .int, .int, .int, .int, .int, .int], [.int, .int, .int, .int, .int, .int, .int, (.array .int)], [(.array .int), (.array .int), (.array .int), .int], [(.object "BootNet$Ground"), (.object "BootNet$Wire"), (.object "BootNet$Layout"), (.object "BootNet$Library"), (.array (.object "BootNet$Transfer")), (.object "BootNet$AddressBook"), (.object "BootNet$Records")], [.int, (.object "BootNet$Ground"), (.object "BootNet$Wire"), (.object "BootNet$Loading"), .int, .int, .int, .int, .int, .int, .int, .int], [.boolean, .int, .int, .int, .int, .int], [(.array (.object "BootNet$Message")), .int, (.object "BootNet$Message"), (.object "BootNet$Message")], [.int, .int, .int, .int, .int, (.array .int), (.array .int), (.array .int), (.array .boolean), .int, (.array .int), (.array .int), (.array .int), (.array .int), (.array .int), (.array .int), (.array .int), (.array .int), (.array .int), (.array .int), .int, (.array .int), (.array .int), (.array .int), (.array .int), (.array .int), (.array .int), (.array .int), (.array .int), .int, (.array .int), (.array .int), (.array .int), (.array .int), (.array .int), (.array .int), (.array .int), (.array .int), .int, (.array .int), (.array .int), (.array .int), (.array .int), (.array .int), (.array .int), (.array .int), (.array .int), (.array .int), (.array .int), (.array .int), (.array .int), (.array .int), (.array .int), (.array .int), (.array .int), (.array .int), (.array .int), (.array .int)]]
def xt_ft (ci k : Nat) : FieldType := (xt_fts.getD ci []).getD k .int
def xt_tt (t : Nat) : FieldType := if t = 0 then .int else .boolean
def xt_an (t : Nat) : String := (["BootNet$Message", "BootNet$Station", "BootNet$Transfer"] : List String).getD (t - 3) ""
def xt_iso (t : FieldType) : Bool := match t with
  | .object _ => true
  | _ => false
def xt_N : Nat := 176
def xt_M : List (MethodName × ByteArray × Nat × Option FieldType × Nat × Nat × Nat × Nat) := [
  (⟨"BootNet", "<init>", "(III)V"⟩, prog_1_method_1_code, 5, none, 0, 3, 124, 2425),
  (⟨"BootNet", "pool", "(III)Z"⟩, prog_1_method_2_code, 4, (some .boolean), 0, 3, 0, 0),
  (⟨"BootNet", "attach", "(I)I"⟩, prog_1_method_3_code, 2, (some .int), 0, 1, 0, 0),
  (⟨"BootNet", "reserve", "(II)Z"⟩, prog_1_method_4_code, 3, (some .boolean), 0, 2, 0, 0),
  (⟨"BootNet", "stranger", "(IZ)Z"⟩, prog_1_method_5_code, 3, (some .boolean), 0, 2, 0, 0),
  (⟨"BootNet", "put", "(II)Z"⟩, prog_1_method_6_code, 3, (some .boolean), 0, 2, 0, 0),
  (⟨"BootNet", "entry", "(III)Z"⟩, prog_1_method_7_code, 4, (some .boolean), 0, 3, 0, 0),
  (⟨"BootNet", "check", "(I)I"⟩, prog_1_method_8_code, 2, (some .int), 0, 1, 0, 0),
  (⟨"BootNet", "boot", "(I)Z"⟩, prog_1_method_9_code, 2, (some .boolean), 0, 1, 0, 0),
  (⟨"BootNet", "deliver", "(I)I"⟩, prog_1_method_10_code, 3, (some .int), 0, 1, 0, 0),
  (⟨"BootNet", "alter", "(IZ)Z"⟩, prog_1_method_11_code, 3, (some .boolean), 0, 2, 0, 0),
  (⟨"BootNet", "tick", "()I"⟩, prog_1_method_12_code, 2, (some .int), 0, 0, 0, 0),
  (⟨"BootNet", "crash", "()I"⟩, prog_1_method_13_code, 1, (some .int), 0, 0, 0, 0),
  (⟨"BootNet", "message", "(II)I"⟩, prog_1_method_14_code, 3, (some .int), 0, 2, 0, 0),
  (⟨"BootNet", "station", "(II)I"⟩, prog_1_method_15_code, 3, (some .int), 0, 2, 0, 0),
  (⟨"BootNet", "image", "(II)I"⟩, prog_1_method_16_code, 3, (some .int), 0, 2, 0, 0),
  (⟨"BootNet", "lease", "(II)I"⟩, prog_1_method_17_code, 3, (some .int), 0, 2, 0, 0),
  (⟨"BootNet", "journal", "()I"⟩, prog_1_method_18_code, 1, (some .int), 0, 0, 0, 0),
  (⟨"BootNet", "arrive", "(LBootNet$Message;)V"⟩, prog_1_method_19_code, 2, none, 0, 1, 0, 0),
  (⟨"BootNet", "answerProbe", "(LBootNet$Message;)V"⟩, prog_1_method_20_code, 2, none, 0, 1, 0, 0),
  (⟨"BootNet", "isHeldByAnother", "(II)Z"⟩, prog_1_method_21_code, 4, (some .boolean), 0, 2, 0, 0),
  (⟨"BootNet$AddressBook", "<init>", "(LBootNet$Ground;LBootNet$Layout;)V"⟩, prog_2_method_1_code, 3, none, 1, 2, 5, 150),
  (⟨"BootNet$AddressBook", "forgetAll", "()V"⟩, prog_2_method_2_code, 1, none, 1, 0, 0, 0),
  (⟨"BootNet$AddressBook", "lessee", "(I)I"⟩, prog_2_method_3_code, 2, (some .int), 1, 1, 0, 0),
  (⟨"BootNet$AddressBook", "offeree", "(I)I"⟩, prog_2_method_4_code, 2, (some .int), 1, 1, 0, 0),
  (⟨"BootNet$AddressBook", "isBarred", "(I)Z"⟩, prog_2_method_5_code, 2, (some .boolean), 1, 1, 0, 0),
  (⟨"BootNet$AddressBook", "isFree", "(II)Z"⟩, prog_2_method_6_code, 5, (some .boolean), 1, 2, 0, 0),
  (⟨"BootNet$AddressBook", "leaseTo", "(III)V"⟩, prog_2_method_7_code, 4, none, 1, 3, 0, 0),
  (⟨"BootNet$AddressBook", "offerOnly", "(III)V"⟩, prog_2_method_8_code, 5, none, 1, 3, 0, 0),
  (⟨"BootNet$AddressBook", "endOffer", "(I)V"⟩, prog_2_method_9_code, 2, none, 1, 1, 0, 0),
  (⟨"BootNet$AddressBook", "bar", "(II)V"⟩, prog_2_method_10_code, 3, none, 1, 2, 0, 0),
  (⟨"BootNet$AddressBook", "tell", "(II)I"⟩, prog_2_method_11_code, 3, (some .int), 1, 2, 0, 0),
  (⟨"BootNet$Ground", "<init>", "(III)V"⟩, prog_3_method_1_code, 4, none, 2, 3, 0, 0),
  (⟨"BootNet$Ground", "within", "(III)I"⟩, prog_3_method_2_code, 3, (some .int), 2, 3, 0, 0),
  (⟨"BootNet$Ground", "newNumber", "()I"⟩, prog_3_method_3_code, 1, (some .int), 2, 0, 0, 0),
  (⟨"BootNet$Layout", "<init>", "()V"⟩, prog_4_method_1_code, 1, none, 3, 0, 5, 72),
  (⟨"BootNet$Layout", "isAddress", "(I)Z"⟩, prog_4_method_2_code, 1, (some .boolean), 3, 1, 0, 0),
  (⟨"BootNet$Layout", "isSubnet", "(I)Z"⟩, prog_4_method_3_code, 1, (some .boolean), 3, 1, 0, 0),
  (⟨"BootNet$Layout", "hasStation", "(I)Z"⟩, prog_4_method_4_code, 2, (some .boolean), 3, 1, 0, 0),
  (⟨"BootNet$Layout", "setPool", "(III)Z"⟩, prog_4_method_5_code, 4, (some .boolean), 3, 3, 0, 0),
  (⟨"BootNet$Layout", "addStation", "(I)I"⟩, prog_4_method_6_code, 2, (some .int), 3, 1, 0, 0),
  (⟨"BootNet$Layout", "reserveFor", "(II)Z"⟩, prog_4_method_7_code, 5, (some .boolean), 3, 2, 0, 0),
  (⟨"BootNet$Layout", "reservedAddress", "(I)I"⟩, prog_4_method_8_code, 3, (some .int), 3, 1, 0, 0),
  (⟨"BootNet$Layout", "isReservedForAnother", "(II)Z"⟩, prog_4_method_9_code, 3, (some .boolean), 3, 2, 0, 0),
  (⟨"BootNet$Layout", "setTaken", "(IZ)Z"⟩, prog_4_method_10_code, 3, (some .boolean), 3, 2, 0, 0),
  (⟨"BootNet$Layout", "isTaken", "(I)Z"⟩, prog_4_method_11_code, 2, (some .boolean), 3, 1, 0, 0),
  (⟨"BootNet$Layout", "isBehindRelay", "(I)Z"⟩, prog_4_method_12_code, 2, (some .boolean), 3, 1, 0, 0),
  (⟨"BootNet$Layout", "hasPool", "(I)Z"⟩, prog_4_method_13_code, 2, (some .boolean), 3, 1, 0, 0),
  (⟨"BootNet$Layout", "firstOfPool", "(I)I"⟩, prog_4_method_14_code, 2, (some .int), 3, 1, 0, 0),
  (⟨"BootNet$Layout", "lastOfPool", "(I)I"⟩, prog_4_method_15_code, 2, (some .int), 3, 1, 0, 0),
  (⟨"BootNet$Library", "<init>", "()V"⟩, prog_5_method_1_code, 1, none, 4, 0, 9, 180),
  (⟨"BootNet$Library", "isFile", "(I)Z"⟩, prog_5_method_2_code, 1, (some .boolean), 4, 1, 0, 0),
  (⟨"BootNet$Library", "checkOfRow", "([III)I"⟩, prog_5_method_3_code, 6, (some .int), 4, 3, 0, 0),
  (⟨"BootNet$Library", "addByte", "(II)Z"⟩, prog_5_method_4_code, 3, (some .boolean), 4, 2, 0, 0),
  (⟨"BootNet$Library", "checkOf", "(I)I"⟩, prog_5_method_5_code, 2, (some .int), 4, 1, 0, 0),
  (⟨"BootNet$Library", "has", "(I)Z"⟩, prog_5_method_6_code, 2, (some .boolean), 4, 1, 0, 0),
  (⟨"BootNet$Library", "copyBlock", "(IIILBootNet$Message;)V"⟩, prog_5_method_7_code, 6, none, 4, 4, 0, 0),
  (⟨"BootNet$Library", "addEntry", "(III)Z"⟩, prog_5_method_8_code, 4, (some .boolean), 4, 3, 0, 0),
  (⟨"BootNet$Library", "bytesBefore", "(I)I"⟩, prog_5_method_9_code, 4, (some .int), 4, 1, 0, 0),
  (⟨"BootNet$Loading", "<init>", "(ILBootNet$Ground;LBootNet$Wire;LBootNet$Library;)V"⟩, prog_6_method_1_code, 5, none, 5, 4, 1, 172),
  (⟨"BootNet$Loading", "forgetAll", "()V"⟩, prog_6_method_2_code, 1, none, 5, 0, 0, 0),
  (⟨"BootNet$Loading", "begin", "(I)V"⟩, prog_6_method_3_code, 2, none, 5, 1, 0, 0),
  (⟨"BootNet$Loading", "interrupt", "()V"⟩, prog_6_method_4_code, 1, none, 5, 0, 0, 0),
  (⟨"BootNet$Loading", "onData", "(LBootNet$Message;)V"⟩, prog_6_method_5_code, 2, none, 5, 1, 0, 0),
  (⟨"BootNet$Loading", "onError", "(LBootNet$Message;)V"⟩, prog_6_method_6_code, 2, none, 5, 1, 0, 0),
  (⟨"BootNet$Loading", "isLate", "()Z"⟩, prog_6_method_7_code, 1, (some .boolean), 5, 0, 0, 0),
  (⟨"BootNet$Loading", "tryAgain", "()V"⟩, prog_6_method_8_code, 1, none, 5, 0, 0, 0),
  (⟨"BootNet$Loading", "bytesOfEntry", "()I"⟩, prog_6_method_9_code, 1, (some .int), 5, 0, 0, 0),
  (⟨"BootNet$Loading", "byteAt", "(I)I"⟩, prog_6_method_10_code, 2, (some .int), 5, 1, 0, 0),
  (⟨"BootNet$Loading", "resultOfEntry", "()I"⟩, prog_6_method_11_code, 2, (some .int), 5, 0, 0, 0),
  (⟨"BootNet$Loading", "addBytes", "(LBootNet$Message;)V"⟩, prog_6_method_12_code, 3, none, 5, 1, 0, 0),
  (⟨"BootNet$Loading", "sendRead", "()V"⟩, prog_6_method_13_code, 1, none, 5, 0, 0, 0),
  (⟨"BootNet$Loading", "waitAnew", "()V"⟩, prog_6_method_14_code, 1, none, 5, 0, 0, 0),
  (⟨"BootNet$Message", "<init>", "()V"⟩, prog_7_method_1_code, 1, none, 6, 0, 1, 12),
  (⟨"BootNet$Message", "copyBytes", "([III)V"⟩, prog_7_method_2_code, 4, none, 6, 3, 0, 0),
  (⟨"BootNet$Message", "goesToServer", "()Z"⟩, prog_7_method_3_code, 1, (some .boolean), 6, 0, 0, 0),
  (⟨"BootNet$Message", "tell", "(I)I"⟩, prog_7_method_4_code, 2, (some .int), 6, 1, 0, 0),
  (⟨"BootNet$Records", "<init>", "()V"⟩, prog_8_method_1_code, 1, none, 7, 0, 3, 48),
  (⟨"BootNet$Records", "add", "(IIII)Z"⟩, prog_8_method_2_code, 5, (some .boolean), 7, 4, 0, 0),
  (⟨"BootNet$Records", "dropStale", "(I)V"⟩, prog_8_method_3_code, 4, none, 7, 1, 0, 0),
  (⟨"BootNet$Records", "isLatestOfAddress", "(I)Z"⟩, prog_8_method_4_code, 3, (some .boolean), 7, 1, 0, 0),
  (⟨"BootNet$Server", "<init>", "(LBootNet$Ground;LBootNet$Wire;LBootNet$Layout;LBootNet$Library;)V"⟩, prog_9_method_1_code, 6, none, 8, 4, 17, 251),
  (⟨"BootNet$Server", "receive", "(LBootNet$Message;)V"⟩, prog_9_method_2_code, 2, none, 8, 1, 0, 0),
  (⟨"BootNet$Server", "startAnew", "()I"⟩, prog_9_method_3_code, 2, (some .int), 8, 0, 0, 0),
  (⟨"BootNet$Server", "repeatDueBlocks", "()V"⟩, prog_9_method_4_code, 3, none, 8, 0, 0, 0),
  (⟨"BootNet$Server", "onDiscover", "(LBootNet$Message;)V"⟩, prog_9_method_5_code, 3, none, 8, 1, 0, 0),
  (⟨"BootNet$Server", "leasedChoice", "(I)I"⟩, prog_9_method_6_code, 3, (some .int), 8, 1, 0, 0),
  (⟨"BootNet$Server", "reservedChoice", "(I)I"⟩, prog_9_method_7_code, 4, (some .int), 8, 1, 0, 0),
  (⟨"BootNet$Server", "poolChoice", "(I)I"⟩, prog_9_method_8_code, 4, (some .int), 8, 1, 0, 0),
  (⟨"BootNet$Server", "onRequest", "(LBootNet$Message;)V"⟩, prog_9_method_9_code, 2, none, 8, 1, 0, 0),
  (⟨"BootNet$Server", "mayHave", "(II)Z"⟩, prog_9_method_10_code, 3, (some .boolean), 8, 2, 0, 0),
  (⟨"BootNet$Server", "recordLease", "(II)Z"⟩, prog_9_method_11_code, 4, (some .boolean), 8, 2, 0, 0),
  (⟨"BootNet$Server", "onDecline", "(LBootNet$Message;)V"⟩, prog_9_method_12_code, 2, none, 8, 1, 0, 0),
  (⟨"BootNet$Server", "onRead", "(LBootNet$Message;)V"⟩, prog_9_method_13_code, 3, none, 8, 1, 0, 0),
  (⟨"BootNet$Server", "onGot", "(LBootNet$Message;)V"⟩, prog_9_method_14_code, 3, none, 8, 1, 0, 0),
  (⟨"BootNet$Server", "sendBlock", "(ILBootNet$Transfer;)V"⟩, prog_9_method_15_code, 4, none, 8, 2, 0, 0),
  (⟨"BootNet$Server", "send", "(IIIII)LBootNet$Message;"⟩, prog_9_method_16_code, 7, (some (.object "BootNet$Message")), 8, 5, 0, 0),
  (⟨"BootNet$Station", "<init>", "(ILBootNet$Ground;LBootNet$Wire;LBootNet$Library;)V"⟩, prog_10_method_1_code, 5, none, 9, 4, 2, 184),
  (⟨"BootNet$Station", "holds", "()Z"⟩, prog_10_method_2_code, 1, (some .boolean), 9, 0, 0, 0),
  (⟨"BootNet$Station", "restart", "()V"⟩, prog_10_method_3_code, 1, none, 9, 0, 0, 0),
  (⟨"BootNet$Station", "receive", "(LBootNet$Message;)V"⟩, prog_10_method_4_code, 2, none, 9, 1, 0, 0),
  (⟨"BootNet$Station", "passTime", "()V"⟩, prog_10_method_5_code, 2, none, 9, 0, 0, 0),
  (⟨"BootNet$Station", "tell", "(I)I"⟩, prog_10_method_6_code, 2, (some .int), 9, 1, 0, 0),
  (⟨"BootNet$Station", "select", "()V"⟩, prog_10_method_7_code, 1, none, 9, 0, 0, 0),
  (⟨"BootNet$Station", "sendDiscover", "()V"⟩, prog_10_method_8_code, 1, none, 9, 0, 0, 0),
  (⟨"BootNet$Station", "ask", "()V"⟩, prog_10_method_9_code, 1, none, 9, 0, 0, 0),
  (⟨"BootNet$Station", "fail", "(I)V"⟩, prog_10_method_10_code, 2, none, 9, 1, 0, 0),
  (⟨"BootNet$Station", "tryAgain", "()V"⟩, prog_10_method_11_code, 1, none, 9, 0, 0, 0),
  (⟨"BootNet$Station", "endProbe", "()V"⟩, prog_10_method_12_code, 1, none, 9, 0, 0, 0),
  (⟨"BootNet$Station", "isTimeToRebind", "()Z"⟩, prog_10_method_13_code, 1, (some .boolean), 9, 0, 0, 0),
  (⟨"BootNet$Station", "onOffer", "(LBootNet$Message;)V"⟩, prog_10_method_14_code, 2, none, 9, 1, 0, 0),
  (⟨"BootNet$Station", "onAck", "(LBootNet$Message;)V"⟩, prog_10_method_15_code, 2, none, 9, 1, 0, 0),
  (⟨"BootNet$Station", "onNak", "(LBootNet$Message;)V"⟩, prog_10_method_16_code, 3, none, 9, 1, 0, 0),
  (⟨"BootNet$Station", "onHere", "(LBootNet$Message;)V"⟩, prog_10_method_17_code, 2, none, 9, 1, 0, 0),
  (⟨"BootNet$Transfer", "<init>", "()V"⟩, prog_11_method_1_code, 1, none, 10, 0, 0, 0),
  (⟨"BootNet$Wire", "<init>", "()V"⟩, prog_12_method_1_code, 2, none, 11, 0, 69, 712),
  (⟨"BootNet$Wire", "has", "(I)Z"⟩, prog_12_method_2_code, 2, (some .boolean), 11, 1, 0, 0),
  (⟨"BootNet$Wire", "post", "(IIIIII)LBootNet$Message;"⟩, prog_12_method_3_code, 8, (some (.object "BootNet$Message")), 11, 6, 0, 0),
  (⟨"BootNet$Wire", "take", "(I)LBootNet$Message;"⟩, prog_12_method_4_code, 4, (some (.object "BootNet$Message")), 11, 1, 0, 0),
  (⟨"BootNet$Wire", "postCopy", "(LBootNet$Message;I)V"⟩, prog_12_method_5_code, 4, none, 11, 2, 0, 0),
  (⟨"BootNet$Wire", "repeat", "(I)Z"⟩, prog_12_method_6_code, 2, (some .boolean), 11, 1, 0, 0),
  (⟨"BootNetModel", "<init>", "(III)V"⟩, prog_14_method_1_code, 4, none, 12, 3, 49, 2633),
  (⟨"BootNetModel", "isStation", "(I)Z"⟩, prog_14_method_2_code, 2, (some .boolean), 12, 1, 0, 0),
  (⟨"BootNetModel", "isAddress", "(I)Z"⟩, prog_14_method_3_code, 1, (some .boolean), 12, 1, 0, 0),
  (⟨"BootNetModel", "isFile", "(I)Z"⟩, prog_14_method_4_code, 1, (some .boolean), 12, 1, 0, 0),
  (⟨"BootNetModel", "pool", "(III)Z"⟩, prog_14_method_5_code, 4, (some .boolean), 12, 3, 0, 0),
  (⟨"BootNetModel", "attach", "(I)I"⟩, prog_14_method_6_code, 2, (some .int), 12, 1, 0, 0),
  (⟨"BootNetModel", "reserve", "(II)Z"⟩, prog_14_method_7_code, 5, (some .boolean), 12, 2, 0, 0),
  (⟨"BootNetModel", "stranger", "(IZ)Z"⟩, prog_14_method_8_code, 3, (some .boolean), 12, 2, 0, 0),
  (⟨"BootNetModel", "put", "(II)Z"⟩, prog_14_method_9_code, 3, (some .boolean), 12, 2, 0, 0),
  (⟨"BootNetModel", "entry", "(III)Z"⟩, prog_14_method_10_code, 4, (some .boolean), 12, 3, 0, 0),
  (⟨"BootNetModel", "mixed", "(II)I"⟩, prog_14_method_11_code, 4, (some .int), 12, 2, 0, 0),
  (⟨"BootNetModel", "check", "(I)I"⟩, prog_14_method_12_code, 4, (some .int), 12, 1, 0, 0),
  (⟨"BootNetModel", "toServer", "(I)Z"⟩, prog_14_method_13_code, 1, (some .boolean), 12, 1, 0, 0),
  (⟨"BootNetModel", "fromServer", "(I)Z"⟩, prog_14_method_14_code, 1, (some .boolean), 12, 1, 0, 0),
  (⟨"BootNetModel", "send", "(IIIII)V"⟩, prog_14_method_15_code, 6, none, 12, 5, 0, 0),
  (⟨"BootNetModel", "copy", "(II)V"⟩, prog_14_method_16_code, 4, none, 12, 2, 0, 0),
  (⟨"BootNetModel", "take", "(I)V"⟩, prog_14_method_17_code, 3, none, 12, 1, 0, 0),
  (⟨"BootNetModel", "alter", "(IZ)Z"⟩, prog_14_method_18_code, 3, (some .boolean), 12, 2, 0, 0),
  (⟨"BootNetModel", "deliver", "(I)I"⟩, prog_14_method_19_code, 11, (some .int), 12, 1, 0, 0),
  (⟨"BootNetModel", "swap", "(II)V"⟩, prog_14_method_20_code, 4, none, 12, 2, 0, 0),
  (⟨"BootNetModel", "message", "(II)I"⟩, prog_14_method_21_code, 3, (some .int), 12, 2, 0, 0),
  (⟨"BootNetModel", "leased", "(II)Z"⟩, prog_14_method_22_code, 3, (some .boolean), 12, 2, 0, 0),
  (⟨"BootNetModel", "offered", "(II)Z"⟩, prog_14_method_23_code, 3, (some .boolean), 12, 2, 0, 0),
  (⟨"BootNetModel", "free", "(II)Z"⟩, prog_14_method_24_code, 4, (some .boolean), 12, 2, 0, 0),
  (⟨"BootNetModel", "choice", "(I)I"⟩, prog_14_method_25_code, 4, (some .int), 12, 1, 0, 0),
  (⟨"BootNetModel", "serve", "(IIIII)V"⟩, prog_14_method_26_code, 6, none, 12, 5, 0, 0),
  (⟨"BootNetModel", "offer", "(II)V"⟩, prog_14_method_27_code, 5, none, 12, 2, 0, 0),
  (⟨"BootNetModel", "grant", "(III)V"⟩, prog_14_method_28_code, 5, none, 12, 3, 0, 0),
  (⟨"BootNetModel", "latest", "(I)Z"⟩, prog_14_method_29_code, 3, (some .boolean), 12, 1, 0, 0),
  (⟨"BootNetModel", "drop", "()V"⟩, prog_14_method_30_code, 4, none, 12, 0, 0, 0),
  (⟨"BootNetModel", "recorded", "(III)Z"⟩, prog_14_method_31_code, 4, (some .boolean), 12, 3, 0, 0),
  (⟨"BootNetModel", "again", "(I)V"⟩, prog_14_method_32_code, 7, none, 12, 1, 0, 0),
  (⟨"BootNetModel", "crash", "()I"⟩, prog_14_method_33_code, 2, (some .int), 12, 0, 0, 0),
  (⟨"BootNetModel", "lease", "(II)I"⟩, prog_14_method_34_code, 3, (some .int), 12, 2, 0, 0),
  (⟨"BootNetModel", "journal", "()I"⟩, prog_14_method_35_code, 1, (some .int), 12, 0, 0, 0),
  (⟨"BootNetModel", "holds", "(I)Z"⟩, prog_14_method_36_code, 2, (some .boolean), 12, 1, 0, 0),
  (⟨"BootNetModel", "renumber", "(I)V"⟩, prog_14_method_37_code, 2, none, 12, 1, 0, 0),
  (⟨"BootNetModel", "select", "(I)V"⟩, prog_14_method_38_code, 2, none, 12, 1, 0, 0),
  (⟨"BootNetModel", "ask", "(I)V"⟩, prog_14_method_39_code, 2, none, 12, 1, 0, 0),
  (⟨"BootNetModel", "fail", "(II)V"⟩, prog_14_method_40_code, 3, none, 12, 2, 0, 0),
  (⟨"BootNetModel", "load", "(II)V"⟩, prog_14_method_41_code, 3, none, 12, 2, 0, 0),
  (⟨"BootNetModel", "boot", "(I)Z"⟩, prog_14_method_42_code, 2, (some .boolean), 12, 1, 0, 0),
  (⟨"BootNetModel", "probed", "(II)V"⟩, prog_14_method_43_code, 5, none, 12, 2, 0, 0),
  (⟨"BootNetModel", "hear", "(IIIIII)V"⟩, prog_14_method_44_code, 9, none, 12, 6, 0, 0),
  (⟨"BootNetModel", "conflict", "(I)V"⟩, prog_14_method_45_code, 2, none, 12, 1, 0, 0),
  (⟨"BootNetModel", "receive", "(IIII)V"⟩, prog_14_method_46_code, 8, none, 12, 4, 0, 0),
  (⟨"BootNetModel", "selectAgain", "(I)V"⟩, prog_14_method_47_code, 2, none, 12, 1, 0, 0),
  (⟨"BootNetModel", "settle", "(I)V"⟩, prog_14_method_48_code, 2, none, 12, 1, 0, 0),
  (⟨"BootNetModel", "loadAgain", "(I)V"⟩, prog_14_method_49_code, 2, none, 12, 1, 0, 0),
  (⟨"BootNetModel", "live", "(I)V"⟩, prog_14_method_50_code, 3, none, 12, 1, 0, 0),
  (⟨"BootNetModel", "tick", "()I"⟩, prog_14_method_51_code, 2, (some .int), 12, 0, 0, 0),
  (⟨"BootNetModel", "station", "(II)I"⟩, prog_14_method_52_code, 3, (some .int), 12, 2, 0, 0),
  (⟨"BootNetModel", "image", "(II)I"⟩, prog_14_method_53_code, 3, (some .int), 12, 2, 0, 0),
  (⟨"java/util/Arrays", "fill", "([II)V"⟩, prog_17_method_103_code, 4, none, 13, 2, 0, 0),
  (⟨"BootNetLaw", "cell", "([II)I"⟩, method_2_code, 2, (some .int), 14, 2, 0, 0),
  (⟨"BootNetLaw", "law", "([I)Z"⟩, code, 4, (some .boolean), 14, 1, 0, 0)]
def xt_m (y : Nat) : MethodName × ByteArray × Nat × Option FieldType × Nat × Nat × Nat × Nat := xt_M.getD y (⟨"", "", ""⟩, ⟨#[]⟩, 0, none, 0, 0, 0, 0)
def xt_nm (y : Nat) : MethodName := (xt_m y).1
def xt_bc (y : Nat) : ByteArray := (xt_m y).2.1
def xt_ml (y : Nat) : Nat := (xt_m y).2.2.1
def xt_rt (y : Nat) : Option FieldType := (xt_m y).2.2.2.1
def xt_oc (y : Nat) : Nat := (xt_m y).2.2.2.2.1
def xt_na (y : Nat) : Nat := (xt_m y).2.2.2.2.2.1
def xt_gc (y : Nat) : Nat := (xt_m y).2.2.2.2.2.2.1
def xt_gs (y : Nat) : Nat := (xt_m y).2.2.2.2.2.2.2
def xt_ow (y : Nat) : String := xt_cn (xt_oc y)
def xt_ini (y : Nat) : Bool := decide ((xt_nm y).name = "<init>")
def xt_io (y : Nat) : Bool := match xt_rt y with
  | some (.object _) => true
  | _ => false
def xt_fin (ci k : Nat) : Bool := match xt_cs[ci]? with
  | some r => (r.2.1 k).2.2.2
  | none => false
-- 0: BootNet.<init>(III)V
def xt_c0 : List (Nat × Jvm.ClassFile.Instr × Nat × Nat × Nat × Int32) := [(0, .aload_n 0, 1, 0, 0, 0), (1, .invokespecial 1, 3, 1, 0, 0), (4, .aload_n 0, 1, 0, 0, 0), (5, .new 7, 3, 2, 5, 0), (8, .dup, 1, 0, 0, 0), (9, .iload_n 1, 1, 1, 0, 0), (10, .iload_n 2, 1, 2, 0, 0), (11, .iload_n 3, 1, 3, 0, 0), (12, .invokespecial 9, 3, 7, 32, 0), (15, .putfield 12, 3, 0, 0, 0), (18, .aload_n 0, 1, 0, 0, 0), (19, .new 18, 3, 11, 4, 0), (22, .dup, 1, 0, 0, 0), (23, .invokespecial 20, 3, 7, 115, 0), (26, .putfield 21, 3, 0, 1, 0), (29, .aload_n 0, 1, 0, 0, 0), (30, .new 25, 3, 3, 6, 0), (33, .dup, 1, 0, 0, 0), (34, .invokespecial 27, 3, 7, 35, 0), (37, .putfield 28, 3, 0, 2, 0), (40, .aload_n 0, 1, 0, 0, 0), (41, .new 32, 3, 4, 6, 0), (44, .dup, 1, 0, 0, 0), (45, .invokespecial 34, 3, 5, 50, 0), (48, .putfield 35, 3, 0, 3, 0), (51, .aload_n 0, 1, 0, 0, 0), (52, .new 39, 3, 8, 7, 0), (55, .dup, 1, 0, 0, 0), (56, .aload_n 0, 1, 0, 0, 0), (57, .getfield 12, 3, 0, 0, 0), (60, .aload_n 0, 1, 0, 0, 0), (61, .getfield 21, 3, 0, 1, 0), (64, .aload_n 0, 1, 0, 0, 0), (65, .getfield 28, 3, 0, 2, 0), (68, .aload_n 0, 1, 0, 0, 0), (69, .getfield 35, 3, 0, 3, 0), (72, .invokespecial 41, 3, 7, 81, 0), (75, .putfield 44, 3, 0, 4, 0), (78, .aload_n 0, 1, 0, 0, 0), (79, .bipush 6, 2, 0, 0, 6), (81, .anewarray 48, 3, 4, 0, 0), (84, .putfield 50, 3, 0, 5, 0), (87, .iconst 0, 1, 0, 0, 0), (88, .istore 4, 2, 4, 0, 0), (90, .iload 4, 2, 4, 0, 0), (92, .aload_n 0, 1, 0, 0, 0), (93, .getfield 50, 3, 0, 5, 0), (96, .arraylength, 1, 0, 0, 0), (97, .if_icmp .ge 37, 3, 134, 0, 0), (100, .aload_n 0, 1, 0, 0, 0), (101, .getfield 50, 3, 0, 5, 0), (104, .iload 4, 2, 4, 0, 0), (106, .new 48, 3, 9, 12, 0), (109, .dup, 1, 0, 0, 0), (110, .iload 4, 2, 4, 0, 0), (112, .aload_n 0, 1, 0, 0, 0), (113, .getfield 12, 3, 0, 0, 0), (116, .aload_n 0, 1, 0, 0, 0), (117, .getfield 21, 3, 0, 1, 0), (120, .aload_n 0, 1, 0, 0, 0), (121, .getfield 35, 3, 0, 3, 0), (124, .invokespecial 54, 3, 7, 97, 0), (127, .aastore, 1, 0, 0, 0), (128, .iinc 4 1, 3, 4, 0, 1), (131, .goto (-41), 3, 90, 0, 0), (134, .return_, 1, 0, 0, 0)]
-- 1: BootNet.pool(III)Z
def xt_c1 : List (Nat × Jvm.ClassFile.Instr × Nat × Nat × Nat × Int32) := [(0, .aload_n 0, 1, 0, 0, 0), (1, .getfield 28, 3, 0, 2, 0), (4, .iload_n 1, 1, 1, 0, 0), (5, .iload_n 2, 1, 2, 0, 0), (6, .iload_n 3, 1, 3, 0, 0), (7, .invokevirtual 57, 3, 0, 39, 0), (10, .ireturn, 1, 0, 1, 0)]
-- 2: BootNet.attach(I)I
def xt_c2 : List (Nat × Jvm.ClassFile.Instr × Nat × Nat × Nat × Int32) := [(0, .aload_n 0, 1, 0, 0, 0), (1, .getfield 28, 3, 0, 2, 0), (4, .iload_n 1, 1, 1, 0, 0), (5, .invokevirtual 61, 3, 0, 40, 0), (8, .ireturn, 1, 0, 0, 0)]
-- 3: BootNet.reserve(II)Z
def xt_c3 : List (Nat × Jvm.ClassFile.Instr × Nat × Nat × Nat × Int32) := [(0, .aload_n 0, 1, 0, 0, 0), (1, .getfield 28, 3, 0, 2, 0), (4, .iload_n 1, 1, 1, 0, 0), (5, .iload_n 2, 1, 2, 0, 0), (6, .invokevirtual 65, 3, 0, 41, 0), (9, .ireturn, 1, 0, 1, 0)]
-- 4: BootNet.stranger(IZ)Z
def xt_c4 : List (Nat × Jvm.ClassFile.Instr × Nat × Nat × Nat × Int32) := [(0, .aload_n 0, 1, 0, 0, 0), (1, .getfield 28, 3, 0, 2, 0), (4, .iload_n 1, 1, 1, 0, 0), (5, .iload_n 2, 1, 2, 0, 0), (6, .invokevirtual 69, 3, 0, 44, 0), (9, .ireturn, 1, 0, 1, 0)]
-- 5: BootNet.put(II)Z
def xt_c5 : List (Nat × Jvm.ClassFile.Instr × Nat × Nat × Nat × Int32) := [(0, .aload_n 0, 1, 0, 0, 0), (1, .getfield 35, 3, 0, 3, 0), (4, .iload_n 1, 1, 1, 0, 0), (5, .iload_n 2, 1, 2, 0, 0), (6, .invokevirtual 73, 3, 0, 53, 0), (9, .ireturn, 1, 0, 1, 0)]
-- 6: BootNet.entry(III)Z
def xt_c6 : List (Nat × Jvm.ClassFile.Instr × Nat × Nat × Nat × Int32) := [(0, .aload_n 0, 1, 0, 0, 0), (1, .getfield 35, 3, 0, 3, 0), (4, .iload_n 1, 1, 1, 0, 0), (5, .iload_n 2, 1, 2, 0, 0), (6, .iload_n 3, 1, 3, 0, 0), (7, .invokevirtual 76, 3, 0, 57, 0), (10, .ireturn, 1, 0, 1, 0)]
-- 7: BootNet.check(I)I
def xt_c7 : List (Nat × Jvm.ClassFile.Instr × Nat × Nat × Nat × Int32) := [(0, .aload_n 0, 1, 0, 0, 0), (1, .getfield 35, 3, 0, 3, 0), (4, .iload_n 1, 1, 1, 0, 0), (5, .invokevirtual 79, 3, 0, 54, 0), (8, .ireturn, 1, 0, 0, 0)]
-- 8: BootNet.boot(I)Z
def xt_c8 : List (Nat × Jvm.ClassFile.Instr × Nat × Nat × Nat × Int32) := [(0, .aload_n 0, 1, 0, 0, 0), (1, .getfield 28, 3, 0, 2, 0), (4, .iload_n 1, 1, 1, 0, 0), (5, .invokevirtual 82, 3, 0, 38, 0), (8, .ifCond .ne 5, 3, 13, 0, 0), (11, .iconst 0, 1, 0, 0, 0), (12, .ireturn, 1, 0, 1, 0), (13, .aload_n 0, 1, 0, 0, 0), (14, .getfield 50, 3, 0, 5, 0), (17, .iload_n 1, 1, 1, 0, 0), (18, .aaload, 1, 0, 0, 0), (19, .invokevirtual 86, 3, 0, 99, 0), (22, .iconst 1, 1, 0, 0, 1), (23, .ireturn, 1, 0, 1, 0)]
-- 9: BootNet.deliver(I)I
def xt_c9 : List (Nat × Jvm.ClassFile.Instr × Nat × Nat × Nat × Int32) := [(0, .aload_n 0, 1, 0, 0, 0), (1, .getfield 21, 3, 0, 1, 0), (4, .iload_n 1, 1, 1, 0, 0), (5, .invokevirtual 89, 3, 0, 116, 0), (8, .ifCond .ne 5, 3, 13, 0, 0), (11, .iconst (-1), 1, 0, 0, (-1)), (12, .ireturn, 1, 0, 0, 0), (13, .aload_n 0, 1, 0, 0, 0), (14, .getfield 21, 3, 0, 1, 0), (17, .iload_n 1, 1, 1, 0, 0), (18, .invokevirtual 92, 3, 0, 118, 0), (21, .astore_n 2, 1, 2, 0, 0), (22, .aload_n 0, 1, 0, 0, 0), (23, .aload_n 2, 1, 2, 0, 0), (24, .invokevirtual 96, 3, 0, 18, 0), (27, .aload_n 2, 1, 2, 0, 0), (28, .getfield 100, 3, 6, 0, 0), (31, .ireturn, 1, 0, 0, 0)]
-- 10: BootNet.alter(IZ)Z
def xt_c10 : List (Nat × Jvm.ClassFile.Instr × Nat × Nat × Nat × Int32) := [(0, .aload_n 0, 1, 0, 0, 0), (1, .getfield 21, 3, 0, 1, 0), (4, .iload_n 1, 1, 1, 0, 0), (5, .invokevirtual 89, 3, 0, 116, 0), (8, .ifCond .ne 5, 3, 13, 0, 0), (11, .iconst 0, 1, 0, 0, 0), (12, .ireturn, 1, 0, 1, 0), (13, .iload_n 2, 1, 2, 0, 0), (14, .ifCond .eq 12, 3, 26, 0, 0), (17, .aload_n 0, 1, 0, 0, 0), (18, .getfield 21, 3, 0, 1, 0), (21, .iload_n 1, 1, 1, 0, 0), (22, .invokevirtual 106, 3, 0, 120, 0), (25, .ireturn, 1, 0, 1, 0), (26, .aload_n 0, 1, 0, 0, 0), (27, .getfield 21, 3, 0, 1, 0), (30, .iload_n 1, 1, 1, 0, 0), (31, .invokevirtual 92, 3, 0, 118, 0), (34, .pop, 1, 0, 0, 0), (35, .iconst 1, 1, 0, 0, 1), (36, .ireturn, 1, 0, 1, 0)]
-- 11: BootNet.tick()I
def xt_c11 : List (Nat × Jvm.ClassFile.Instr × Nat × Nat × Nat × Int32) := [(0, .aload_n 0, 1, 0, 0, 0), (1, .getfield 12, 3, 0, 0, 0), (4, .dup, 1, 0, 0, 0), (5, .getfield 109, 3, 2, 3, 0), (8, .iconst 1, 1, 0, 0, 1), (9, .iadd, 1, 0, 0, 0), (10, .putfield 109, 3, 2, 3, 0), (13, .iconst 0, 1, 0, 0, 0), (14, .istore_n 1, 1, 1, 0, 0), (15, .iload_n 1, 1, 1, 0, 0), (16, .aload_n 0, 1, 0, 0, 0), (17, .getfield 28, 3, 0, 2, 0), (20, .getfield 112, 3, 3, 5, 0), (23, .if_icmp .ge 18, 3, 41, 0, 0), (26, .aload_n 0, 1, 0, 0, 0), (27, .getfield 50, 3, 0, 5, 0), (30, .iload_n 1, 1, 1, 0, 0), (31, .aaload, 1, 0, 0, 0), (32, .invokevirtual 115, 3, 0, 101, 0), (35, .iinc 1 1, 3, 1, 0, 1), (38, .goto (-23), 3, 15, 0, 0), (41, .aload_n 0, 1, 0, 0, 0), (42, .getfield 44, 3, 0, 4, 0), (45, .invokevirtual 118, 3, 0, 84, 0), (48, .aload_n 0, 1, 0, 0, 0), (49, .getfield 21, 3, 0, 1, 0), (52, .getfield 121, 3, 11, 1, 0), (55, .ireturn, 1, 0, 0, 0)]
-- 12: BootNet.crash()I
def xt_c12 : List (Nat × Jvm.ClassFile.Instr × Nat × Nat × Nat × Int32) := [(0, .aload_n 0, 1, 0, 0, 0), (1, .getfield 44, 3, 0, 4, 0), (4, .invokevirtual 124, 3, 0, 83, 0), (7, .ireturn, 1, 0, 0, 0)]
-- 13: BootNet.message(II)I
def xt_c13 : List (Nat × Jvm.ClassFile.Instr × Nat × Nat × Nat × Int32) := [(0, .aload_n 0, 1, 0, 0, 0), (1, .getfield 21, 3, 0, 1, 0), (4, .iload_n 1, 1, 1, 0, 0), (5, .invokevirtual 89, 3, 0, 116, 0), (8, .ifCond .eq 19, 3, 27, 0, 0), (11, .aload_n 0, 1, 0, 0, 0), (12, .getfield 21, 3, 0, 1, 0), (15, .getfield 128, 3, 11, 0, 0), (18, .iload_n 1, 1, 1, 0, 0), (19, .aaload, 1, 0, 0, 0), (20, .iload_n 2, 1, 2, 0, 0), (21, .invokevirtual 132, 3, 0, 76, 0), (24, .goto 4, 3, 28, 0, 0), (27, .iconst (-1), 1, 0, 0, (-1)), (28, .ireturn, 1, 0, 0, 0)]
-- 14: BootNet.station(II)I
def xt_c14 : List (Nat × Jvm.ClassFile.Instr × Nat × Nat × Nat × Int32) := [(0, .aload_n 0, 1, 0, 0, 0), (1, .getfield 28, 3, 0, 2, 0), (4, .iload_n 1, 1, 1, 0, 0), (5, .invokevirtual 82, 3, 0, 38, 0), (8, .ifCond .eq 16, 3, 24, 0, 0), (11, .aload_n 0, 1, 0, 0, 0), (12, .getfield 50, 3, 0, 5, 0), (15, .iload_n 1, 1, 1, 0, 0), (16, .aaload, 1, 0, 0, 0), (17, .iload_n 2, 1, 2, 0, 0), (18, .invokevirtual 135, 3, 0, 102, 0), (21, .goto 4, 3, 25, 0, 0), (24, .iconst (-1), 1, 0, 0, (-1)), (25, .ireturn, 1, 0, 0, 0)]
-- 15: BootNet.image(II)I
def xt_c15 : List (Nat × Jvm.ClassFile.Instr × Nat × Nat × Nat × Int32) := [(0, .aload_n 0, 1, 0, 0, 0), (1, .getfield 28, 3, 0, 2, 0), (4, .iload_n 1, 1, 1, 0, 0), (5, .invokevirtual 82, 3, 0, 38, 0), (8, .ifCond .eq 19, 3, 27, 0, 0), (11, .aload_n 0, 1, 0, 0, 0), (12, .getfield 50, 3, 0, 5, 0), (15, .iload_n 1, 1, 1, 0, 0), (16, .aaload, 1, 0, 0, 0), (17, .getfield 136, 3, 9, 3, 0), (20, .iload_n 2, 1, 2, 0, 0), (21, .invokevirtual 140, 3, 0, 68, 0), (24, .goto 4, 3, 28, 0, 0), (27, .iconst (-1), 1, 0, 0, (-1)), (28, .ireturn, 1, 0, 0, 0)]
-- 16: BootNet.lease(II)I
def xt_c16 : List (Nat × Jvm.ClassFile.Instr × Nat × Nat × Nat × Int32) := [(0, .iload_n 1, 1, 1, 0, 0), (1, .invokestatic 145, 3, 6, 36, 0), (4, .ifCond .eq 18, 3, 22, 0, 0), (7, .aload_n 0, 1, 0, 0, 0), (8, .getfield 44, 3, 0, 4, 0), (11, .getfield 148, 3, 8, 5, 0), (14, .iload_n 1, 1, 1, 0, 0), (15, .iload_n 2, 1, 2, 0, 0), (16, .invokevirtual 152, 3, 0, 31, 0), (19, .goto 4, 3, 23, 0, 0), (22, .iconst (-1), 1, 0, 0, (-1)), (23, .ireturn, 1, 0, 0, 0)]
-- 17: BootNet.journal()I
def xt_c17 : List (Nat × Jvm.ClassFile.Instr × Nat × Nat × Nat × Int32) := [(0, .aload_n 0, 1, 0, 0, 0), (1, .getfield 44, 3, 0, 4, 0), (4, .getfield 157, 3, 8, 6, 0), (7, .getfield 161, 3, 7, 3, 0), (10, .ireturn, 1, 0, 0, 0)]
-- 18: BootNet.arrive(LBootNet$Message;)V
def xt_c18 : List (Nat × Jvm.ClassFile.Instr × Nat × Nat × Nat × Int32) := [(0, .aload_n 1, 1, 1, 0, 0), (1, .invokevirtual 164, 3, 0, 75, 0), (4, .ifCond .eq 47, 3, 51, 0, 0), (7, .aload_n 1, 1, 1, 0, 0), (8, .getfield 168, 3, 6, 5, 0), (11, .ifCond .ne 29, 3, 40, 0, 0), (14, .aload_n 0, 1, 0, 0, 0), (15, .getfield 28, 3, 0, 2, 0), (18, .aload_n 1, 1, 1, 0, 0), (19, .getfield 171, 3, 6, 1, 0), (22, .invokevirtual 174, 3, 0, 46, 0), (25, .ifCond .eq 15, 3, 40, 0, 0), (28, .aload_n 0, 1, 0, 0, 0), (29, .getfield 21, 3, 0, 1, 0), (32, .aload_n 1, 1, 1, 0, 0), (33, .iconst 1, 1, 0, 0, 1), (34, .invokevirtual 177, 3, 0, 119, 0), (37, .goto 64, 3, 101, 0, 0), (40, .aload_n 0, 1, 0, 0, 0), (41, .getfield 44, 3, 0, 4, 0), (44, .aload_n 1, 1, 1, 0, 0), (45, .invokevirtual 181, 3, 0, 82, 0), (48, .goto 53, 3, 101, 0, 0), (51, .aload_n 1, 1, 1, 0, 0), (52, .getfield 100, 3, 6, 0, 0), (55, .bipush 6, 2, 0, 0, 6), (57, .if_icmp .ne 11, 3, 68, 0, 0), (60, .aload_n 0, 1, 0, 0, 0), (61, .aload_n 1, 1, 1, 0, 0), (62, .invokevirtual 184, 3, 0, 19, 0), (65, .goto 36, 3, 101, 0, 0), (68, .aload_n 1, 1, 1, 0, 0), (69, .getfield 168, 3, 6, 5, 0), (72, .iconst 1, 1, 0, 0, 1), (73, .if_icmp .ne 15, 3, 88, 0, 0), (76, .aload_n 0, 1, 0, 0, 0), (77, .getfield 21, 3, 0, 1, 0), (80, .aload_n 1, 1, 1, 0, 0), (81, .iconst 0, 1, 0, 0, 0), (82, .invokevirtual 177, 3, 0, 119, 0), (85, .goto 16, 3, 101, 0, 0), (88, .aload_n 0, 1, 0, 0, 0), (89, .getfield 50, 3, 0, 5, 0), (92, .aload_n 1, 1, 1, 0, 0), (93, .getfield 171, 3, 6, 1, 0), (96, .aaload, 1, 0, 0, 0), (97, .aload_n 1, 1, 1, 0, 0), (98, .invokevirtual 187, 3, 0, 100, 0), (101, .return_, 1, 0, 0, 0)]
-- 19: BootNet.answerProbe(LBootNet$Message;)V
def xt_c19 : List (Nat × Jvm.ClassFile.Instr × Nat × Nat × Nat × Int32) := [(0, .aload_n 0, 1, 0, 0, 0), (1, .getfield 28, 3, 0, 2, 0), (4, .aload_n 1, 1, 1, 0, 0), (5, .getfield 188, 3, 6, 3, 0), (8, .invokevirtual 191, 3, 0, 45, 0), (11, .ifCond .ne 18, 3, 29, 0, 0), (14, .aload_n 0, 1, 0, 0, 0), (15, .aload_n 1, 1, 1, 0, 0), (16, .getfield 188, 3, 6, 3, 0), (19, .aload_n 1, 1, 1, 0, 0), (20, .getfield 171, 3, 6, 1, 0), (23, .invokevirtual 194, 3, 0, 20, 0), (26, .ifCond .eq 24, 3, 50, 0, 0), (29, .aload_n 0, 1, 0, 0, 0), (30, .getfield 21, 3, 0, 1, 0), (33, .bipush 7, 2, 0, 0, 7), (35, .aload_n 1, 1, 1, 0, 0), (36, .getfield 171, 3, 6, 1, 0), (39, .iconst 0, 1, 0, 0, 0), (40, .iconst 0, 1, 0, 0, 0), (41, .aload_n 1, 1, 1, 0, 0), (42, .getfield 188, 3, 6, 3, 0), (45, .iconst 0, 1, 0, 0, 0), (46, .invokevirtual 197, 3, 0, 117, 0), (49, .pop, 1, 0, 0, 0), (50, .return_, 1, 0, 0, 0)]
-- 20: BootNet.isHeldByAnother(II)Z
def xt_c20 : List (Nat × Jvm.ClassFile.Instr × Nat × Nat × Nat × Int32) := [(0, .iconst 0, 1, 0, 0, 0), (1, .istore_n 3, 1, 3, 0, 0), (2, .iload_n 3, 1, 3, 0, 0), (3, .aload_n 0, 1, 0, 0, 0), (4, .getfield 28, 3, 0, 2, 0), (7, .getfield 112, 3, 3, 5, 0), (10, .if_icmp .ge 41, 3, 51, 0, 0), (13, .iload_n 3, 1, 3, 0, 0), (14, .iload_n 2, 1, 2, 0, 0), (15, .if_icmp .eq 30, 3, 45, 0, 0), (18, .aload_n 0, 1, 0, 0, 0), (19, .getfield 50, 3, 0, 5, 0), (22, .iload_n 3, 1, 3, 0, 0), (23, .aaload, 1, 0, 0, 0), (24, .invokevirtual 201, 3, 0, 98, 0), (27, .ifCond .eq 18, 3, 45, 0, 0), (30, .aload_n 0, 1, 0, 0, 0), (31, .getfield 50, 3, 0, 5, 0), (34, .iload_n 3, 1, 3, 0, 0), (35, .aaload, 1, 0, 0, 0), (36, .getfield 204, 3, 9, 5, 0), (39, .iload_n 1, 1, 1, 0, 0), (40, .if_icmp .ne 5, 3, 45, 0, 0), (43, .iconst 1, 1, 0, 0, 1), (44, .ireturn, 1, 0, 1, 0), (45, .iinc 3 1, 3, 3, 0, 1), (48, .goto (-46), 3, 2, 0, 0), (51, .iconst 0, 1, 0, 0, 0), (52, .ireturn, 1, 0, 1, 0)]
-- 21: BootNet$AddressBook.<init>(LBootNet$Ground;LBootNet$Layout;)V
def xt_c21 : List (Nat × Jvm.ClassFile.Instr × Nat × Nat × Nat × Int32) := [(0, .aload_n 0, 1, 0, 0, 0), (1, .invokespecial 3, 3, 1, 0, 0), (4, .aload_n 0, 1, 0, 0, 0), (5, .bipush 30, 2, 0, 0, 30), (7, .newarray .int, 2, 0, 0, 0), (9, .putfield 11, 3, 1, 2, 0), (12, .aload_n 0, 1, 0, 0, 0), (13, .bipush 30, 2, 0, 0, 30), (15, .newarray .int, 2, 0, 0, 0), (17, .putfield 17, 3, 1, 3, 0), (20, .aload_n 0, 1, 0, 0, 0), (21, .bipush 30, 2, 0, 0, 30), (23, .newarray .int, 2, 0, 0, 0), (25, .putfield 20, 3, 1, 4, 0), (28, .aload_n 0, 1, 0, 0, 0), (29, .bipush 30, 2, 0, 0, 30), (31, .newarray .int, 2, 0, 0, 0), (33, .putfield 23, 3, 1, 5, 0), (36, .aload_n 0, 1, 0, 0, 0), (37, .bipush 30, 2, 0, 0, 30), (39, .newarray .int, 2, 0, 0, 0), (41, .putfield 26, 3, 1, 6, 0), (44, .aload_n 0, 1, 0, 0, 0), (45, .aload_n 1, 1, 1, 0, 0), (46, .putfield 29, 3, 1, 0, 0), (49, .aload_n 0, 1, 0, 0, 0), (50, .aload_n 2, 1, 2, 0, 0), (51, .putfield 33, 3, 1, 1, 0), (54, .return_, 1, 0, 0, 0)]
-- 22: BootNet$AddressBook.forgetAll()V
def xt_c22 : List (Nat × Jvm.ClassFile.Instr × Nat × Nat × Nat × Int32) := [(0, .aload_n 0, 1, 0, 0, 0), (1, .getfield 17, 3, 1, 3, 0), (4, .iconst 0, 1, 0, 0, 0), (5, .invokestatic 37, 3, 6, 174, 0), (8, .aload_n 0, 1, 0, 0, 0), (9, .getfield 23, 3, 1, 5, 0), (12, .iconst 0, 1, 0, 0, 0), (13, .invokestatic 37, 3, 6, 174, 0), (16, .aload_n 0, 1, 0, 0, 0), (17, .getfield 26, 3, 1, 6, 0), (20, .iconst 0, 1, 0, 0, 0), (21, .invokestatic 37, 3, 6, 174, 0), (24, .return_, 1, 0, 0, 0)]
-- 23: BootNet$AddressBook.lessee(I)I
def xt_c23 : List (Nat × Jvm.ClassFile.Instr × Nat × Nat × Nat × Int32) := [(0, .aload_n 0, 1, 0, 0, 0), (1, .getfield 17, 3, 1, 3, 0), (4, .iload_n 1, 1, 1, 0, 0), (5, .iaload, 1, 0, 0, 0), (6, .aload_n 0, 1, 0, 0, 0), (7, .getfield 29, 3, 1, 0, 0), (10, .getfield 43, 3, 2, 3, 0), (13, .if_icmp .le 12, 3, 25, 0, 0), (16, .aload_n 0, 1, 0, 0, 0), (17, .getfield 11, 3, 1, 2, 0), (20, .iload_n 1, 1, 1, 0, 0), (21, .iaload, 1, 0, 0, 0), (22, .goto 4, 3, 26, 0, 0), (25, .iconst (-1), 1, 0, 0, (-1)), (26, .ireturn, 1, 0, 0, 0)]
-- 24: BootNet$AddressBook.offeree(I)I
def xt_c24 : List (Nat × Jvm.ClassFile.Instr × Nat × Nat × Nat × Int32) := [(0, .aload_n 0, 1, 0, 0, 0), (1, .getfield 23, 3, 1, 5, 0), (4, .iload_n 1, 1, 1, 0, 0), (5, .iaload, 1, 0, 0, 0), (6, .aload_n 0, 1, 0, 0, 0), (7, .getfield 29, 3, 1, 0, 0), (10, .getfield 43, 3, 2, 3, 0), (13, .if_icmp .le 12, 3, 25, 0, 0), (16, .aload_n 0, 1, 0, 0, 0), (17, .getfield 20, 3, 1, 4, 0), (20, .iload_n 1, 1, 1, 0, 0), (21, .iaload, 1, 0, 0, 0), (22, .goto 4, 3, 26, 0, 0), (25, .iconst (-1), 1, 0, 0, (-1)), (26, .ireturn, 1, 0, 0, 0)]
-- 25: BootNet$AddressBook.isBarred(I)Z
def xt_c25 : List (Nat × Jvm.ClassFile.Instr × Nat × Nat × Nat × Int32) := [(0, .aload_n 0, 1, 0, 0, 0), (1, .getfield 26, 3, 1, 6, 0), (4, .iload_n 1, 1, 1, 0, 0), (5, .iaload, 1, 0, 0, 0), (6, .aload_n 0, 1, 0, 0, 0), (7, .getfield 29, 3, 1, 0, 0), (10, .getfield 43, 3, 2, 3, 0), (13, .if_icmp .le 7, 3, 20, 0, 0), (16, .iconst 1, 1, 0, 0, 1), (17, .goto 4, 3, 21, 0, 0), (20, .iconst 0, 1, 0, 0, 0), (21, .ireturn, 1, 0, 1, 0)]
-- 26: BootNet$AddressBook.isFree(II)Z
def xt_c26 : List (Nat × Jvm.ClassFile.Instr × Nat × Nat × Nat × Int32) := [(0, .aload_n 0, 1, 0, 0, 0), (1, .iload_n 1, 1, 1, 0, 0), (2, .invokevirtual 49, 3, 0, 23, 0), (5, .istore_n 3, 1, 3, 0, 0), (6, .aload_n 0, 1, 0, 0, 0), (7, .iload_n 1, 1, 1, 0, 0), (8, .invokevirtual 53, 3, 0, 24, 0), (11, .istore 4, 2, 4, 0, 0), (13, .aload_n 0, 1, 0, 0, 0), (14, .iload_n 1, 1, 1, 0, 0), (15, .invokevirtual 56, 3, 0, 25, 0), (18, .ifCond .ne 41, 3, 59, 0, 0), (21, .iload_n 3, 1, 3, 0, 0), (22, .iconst (-1), 1, 0, 0, (-1)), (23, .if_icmp .eq 8, 3, 31, 0, 0), (26, .iload_n 3, 1, 3, 0, 0), (27, .iload_n 2, 1, 2, 0, 0), (28, .if_icmp .ne 31, 3, 59, 0, 0), (31, .iload 4, 2, 4, 0, 0), (33, .iconst (-1), 1, 0, 0, (-1)), (34, .if_icmp .eq 9, 3, 43, 0, 0), (37, .iload 4, 2, 4, 0, 0), (39, .iload_n 2, 1, 2, 0, 0), (40, .if_icmp .ne 19, 3, 59, 0, 0), (43, .aload_n 0, 1, 0, 0, 0), (44, .getfield 33, 3, 1, 1, 0), (47, .iload_n 1, 1, 1, 0, 0), (48, .iload_n 2, 1, 2, 0, 0), (49, .invokevirtual 60, 3, 0, 43, 0), (52, .ifCond .ne 7, 3, 59, 0, 0), (55, .iconst 1, 1, 0, 0, 1), (56, .goto 4, 3, 60, 0, 0), (59, .iconst 0, 1, 0, 0, 0), (60, .ireturn, 1, 0, 1, 0)]
-- 27: BootNet$AddressBook.leaseTo(III)V
def xt_c27 : List (Nat × Jvm.ClassFile.Instr × Nat × Nat × Nat × Int32) := [(0, .aload_n 0, 1, 0, 0, 0), (1, .getfield 11, 3, 1, 2, 0), (4, .iload_n 1, 1, 1, 0, 0), (5, .iload_n 2, 1, 2, 0, 0), (6, .iastore, 1, 0, 0, 0), (7, .aload_n 0, 1, 0, 0, 0), (8, .getfield 17, 3, 1, 3, 0), (11, .iload_n 1, 1, 1, 0, 0), (12, .iload_n 3, 1, 3, 0, 0), (13, .iastore, 1, 0, 0, 0), (14, .return_, 1, 0, 0, 0)]
-- 28: BootNet$AddressBook.offerOnly(III)V
def xt_c28 : List (Nat × Jvm.ClassFile.Instr × Nat × Nat × Nat × Int32) := [(0, .iconst 0, 1, 0, 0, 0), (1, .istore 4, 2, 4, 0, 0), (3, .iload 4, 2, 4, 0, 0), (5, .aload_n 0, 1, 0, 0, 0), (6, .getfield 20, 3, 1, 4, 0), (9, .arraylength, 1, 0, 0, 0), (10, .if_icmp .ge 28, 3, 38, 0, 0), (13, .aload_n 0, 1, 0, 0, 0), (14, .getfield 20, 3, 1, 4, 0), (17, .iload 4, 2, 4, 0, 0), (19, .iaload, 1, 0, 0, 0), (20, .iload_n 2, 1, 2, 0, 0), (21, .if_icmp .ne 11, 3, 32, 0, 0), (24, .aload_n 0, 1, 0, 0, 0), (25, .getfield 23, 3, 1, 5, 0), (28, .iload 4, 2, 4, 0, 0), (30, .iconst 0, 1, 0, 0, 0), (31, .iastore, 1, 0, 0, 0), (32, .iinc 4 1, 3, 4, 0, 1), (35, .goto (-32), 3, 3, 0, 0), (38, .aload_n 0, 1, 0, 0, 0), (39, .getfield 20, 3, 1, 4, 0), (42, .iload_n 1, 1, 1, 0, 0), (43, .iload_n 2, 1, 2, 0, 0), (44, .iastore, 1, 0, 0, 0), (45, .aload_n 0, 1, 0, 0, 0), (46, .getfield 23, 3, 1, 5, 0), (49, .iload_n 1, 1, 1, 0, 0), (50, .iload_n 3, 1, 3, 0, 0), (51, .iastore, 1, 0, 0, 0), (52, .return_, 1, 0, 0, 0)]
-- 29: BootNet$AddressBook.endOffer(I)V
def xt_c29 : List (Nat × Jvm.ClassFile.Instr × Nat × Nat × Nat × Int32) := [(0, .aload_n 0, 1, 0, 0, 0), (1, .getfield 23, 3, 1, 5, 0), (4, .iload_n 1, 1, 1, 0, 0), (5, .iconst 0, 1, 0, 0, 0), (6, .iastore, 1, 0, 0, 0), (7, .return_, 1, 0, 0, 0)]
-- 30: BootNet$AddressBook.bar(II)V
def xt_c30 : List (Nat × Jvm.ClassFile.Instr × Nat × Nat × Nat × Int32) := [(0, .aload_n 0, 1, 0, 0, 0), (1, .getfield 26, 3, 1, 6, 0), (4, .iload_n 1, 1, 1, 0, 0), (5, .iload_n 2, 1, 2, 0, 0), (6, .iastore, 1, 0, 0, 0), (7, .return_, 1, 0, 0, 0)]
-- 31: BootNet$AddressBook.tell(II)I
def xt_c31 : List (Nat × Jvm.ClassFile.Instr × Nat × Nat × Nat × Int32) := [(0, .iload_n 2, 1, 2, 0, 0), (1, .tableswitch 82 0 3 #[31, 37, 57, 63], 31, 83, 0, 0), (32, .aload_n 0, 1, 0, 0, 0), (33, .iload_n 1, 1, 1, 0, 0), (34, .invokevirtual 49, 3, 0, 23, 0), (37, .ireturn, 1, 0, 0, 0), (38, .aload_n 0, 1, 0, 0, 0), (39, .iload_n 1, 1, 1, 0, 0), (40, .invokevirtual 49, 3, 0, 23, 0), (43, .iconst (-1), 1, 0, 0, (-1)), (44, .if_icmp .ne 7, 3, 51, 0, 0), (47, .iconst (-1), 1, 0, 0, (-1)), (48, .goto 9, 3, 57, 0, 0), (51, .aload_n 0, 1, 0, 0, 0), (52, .getfield 17, 3, 1, 3, 0), (55, .iload_n 1, 1, 1, 0, 0), (56, .iaload, 1, 0, 0, 0), (57, .ireturn, 1, 0, 0, 0), (58, .aload_n 0, 1, 0, 0, 0), (59, .iload_n 1, 1, 1, 0, 0), (60, .invokevirtual 53, 3, 0, 24, 0), (63, .ireturn, 1, 0, 0, 0), (64, .aload_n 0, 1, 0, 0, 0), (65, .iload_n 1, 1, 1, 0, 0), (66, .invokevirtual 56, 3, 0, 25, 0), (69, .ifCond .eq 12, 3, 81, 0, 0), (72, .aload_n 0, 1, 0, 0, 0), (73, .getfield 26, 3, 1, 6, 0), (76, .iload_n 1, 1, 1, 0, 0), (77, .iaload, 1, 0, 0, 0), (78, .goto 4, 3, 82, 0, 0), (81, .iconst (-1), 1, 0, 0, (-1)), (82, .ireturn, 1, 0, 0, 0), (83, .iconst (-1), 1, 0, 0, (-1)), (84, .ireturn, 1, 0, 0, 0)]
-- 32: BootNet$Ground.<init>(III)V
def xt_c32 : List (Nat × Jvm.ClassFile.Instr × Nat × Nat × Nat × Int32) := [(0, .aload_n 0, 1, 0, 0, 0), (1, .invokespecial 1, 3, 1, 0, 0), (4, .aload_n 0, 1, 0, 0, 0), (5, .iload_n 1, 1, 1, 0, 0), (6, .bipush 8, 2, 0, 0, 8), (8, .bipush 60, 2, 0, 0, 60), (10, .invokestatic 7, 3, 6, 33, 0), (13, .putfield 13, 3, 2, 0, 0), (16, .aload_n 0, 1, 0, 0, 0), (17, .iload_n 2, 1, 2, 0, 0), (18, .iconst 1, 1, 0, 0, 1), (19, .iconst 5, 1, 0, 0, 5), (20, .invokestatic 7, 3, 6, 33, 0), (23, .putfield 17, 3, 2, 1, 0), (26, .aload_n 0, 1, 0, 0, 0), (27, .iload_n 3, 1, 3, 0, 0), (28, .iconst 4, 1, 0, 0, 4), (29, .bipush 12, 2, 0, 0, 12), (31, .invokestatic 7, 3, 6, 33, 0), (34, .putfield 22, 3, 2, 2, 0), (37, .return_, 1, 0, 0, 0)]
-- 33: BootNet$Ground.within(III)I
def xt_c33 : List (Nat × Jvm.ClassFile.Instr × Nat × Nat × Nat × Int32) := [(0, .iload_n 1, 1, 1, 0, 0), (1, .iload_n 2, 1, 2, 0, 0), (2, .iload_n 0, 1, 0, 0, 0), (3, .invokestatic 25, 3, 3, 0, 0), (6, .invokestatic 31, 3, 2, 0, 0), (9, .ireturn, 1, 0, 0, 0)]
-- 34: BootNet$Ground.newNumber()I
def xt_c34 : List (Nat × Jvm.ClassFile.Instr × Nat × Nat × Nat × Int32) := [(0, .aload_n 0, 1, 0, 0, 0), (1, .dup, 1, 0, 0, 0), (2, .getfield 34, 3, 2, 4, 0), (5, .iconst 1, 1, 0, 0, 1), (6, .iadd, 1, 0, 0, 0), (7, .putfield 34, 3, 2, 4, 0), (10, .aload_n 0, 1, 0, 0, 0), (11, .getfield 34, 3, 2, 4, 0), (14, .ireturn, 1, 0, 0, 0)]
-- 35: BootNet$Layout.<init>()V
def xt_c35 : List (Nat × Jvm.ClassFile.Instr × Nat × Nat × Nat × Int32) := [(0, .aload_n 0, 1, 0, 0, 0), (1, .invokespecial 5, 3, 1, 0, 0), (4, .aload_n 0, 1, 0, 0, 0), (5, .iconst 3, 1, 0, 0, 3), (6, .newarray .int, 2, 0, 0, 0), (8, .putfield 11, 3, 3, 0, 0), (11, .aload_n 0, 1, 0, 0, 0), (12, .iconst 3, 1, 0, 0, 3), (13, .newarray .int, 2, 0, 0, 0), (15, .putfield 15, 3, 3, 1, 0), (18, .aload_n 0, 1, 0, 0, 0), (19, .bipush 6, 2, 0, 0, 6), (21, .newarray .int, 2, 0, 0, 0), (23, .putfield 18, 3, 3, 2, 0), (26, .aload_n 0, 1, 0, 0, 0), (27, .bipush 30, 2, 0, 0, 30), (29, .newarray .int, 2, 0, 0, 0), (31, .putfield 21, 3, 3, 3, 0), (34, .aload_n 0, 1, 0, 0, 0), (35, .bipush 30, 2, 0, 0, 30), (37, .newarray .boolean, 2, 1, 0, 0), (39, .putfield 24, 3, 3, 4, 0), (42, .aload_n 0, 1, 0, 0, 0), (43, .getfield 21, 3, 3, 3, 0), (46, .iconst (-1), 1, 0, 0, (-1)), (47, .invokestatic 28, 3, 6, 174, 0), (50, .return_, 1, 0, 0, 0)]
-- 36: BootNet$Layout.isAddress(I)Z
def xt_c36 : List (Nat × Jvm.ClassFile.Instr × Nat × Nat × Nat × Int32) := [(0, .iload_n 0, 1, 0, 0, 0), (1, .ifCond .le 20, 3, 21, 0, 0), (4, .iload_n 0, 1, 0, 0, 0), (5, .bipush 30, 2, 0, 0, 30), (7, .if_icmp .ge 14, 3, 21, 0, 0), (10, .iload_n 0, 1, 0, 0, 0), (11, .bipush 10, 2, 0, 0, 10), (13, .irem, 1, 0, 0, 0), (14, .ifCond .eq 7, 3, 21, 0, 0), (17, .iconst 1, 1, 0, 0, 1), (18, .goto 4, 3, 22, 0, 0), (21, .iconst 0, 1, 0, 0, 0), (22, .ireturn, 1, 0, 1, 0)]
-- 37: BootNet$Layout.isSubnet(I)Z
def xt_c37 : List (Nat × Jvm.ClassFile.Instr × Nat × Nat × Nat × Int32) := [(0, .iload_n 0, 1, 0, 0, 0), (1, .ifCond .lt 12, 3, 13, 0, 0), (4, .iload_n 0, 1, 0, 0, 0), (5, .iconst 3, 1, 0, 0, 3), (6, .if_icmp .ge 7, 3, 13, 0, 0), (9, .iconst 1, 1, 0, 0, 1), (10, .goto 4, 3, 14, 0, 0), (13, .iconst 0, 1, 0, 0, 0), (14, .ireturn, 1, 0, 1, 0)]
-- 38: BootNet$Layout.hasStation(I)Z
def xt_c38 : List (Nat × Jvm.ClassFile.Instr × Nat × Nat × Nat × Int32) := [(0, .iload_n 1, 1, 1, 0, 0), (1, .ifCond .lt 15, 3, 16, 0, 0), (4, .iload_n 1, 1, 1, 0, 0), (5, .aload_n 0, 1, 0, 0, 0), (6, .getfield 34, 3, 3, 5, 0), (9, .if_icmp .ge 7, 3, 16, 0, 0), (12, .iconst 1, 1, 0, 0, 1), (13, .goto 4, 3, 17, 0, 0), (16, .iconst 0, 1, 0, 0, 0), (17, .ireturn, 1, 0, 1, 0)]
-- 39: BootNet$Layout.setPool(III)Z
def xt_c39 : List (Nat × Jvm.ClassFile.Instr × Nat × Nat × Nat × Int32) := [(0, .iload_n 1, 1, 1, 0, 0), (1, .invokestatic 38, 3, 6, 37, 0), (4, .ifCond .eq 12, 3, 16, 0, 0), (7, .aload_n 0, 1, 0, 0, 0), (8, .getfield 11, 3, 3, 0, 0), (11, .iload_n 1, 1, 1, 0, 0), (12, .iaload, 1, 0, 0, 0), (13, .ifCond .eq 5, 3, 18, 0, 0), (16, .iconst 0, 1, 0, 0, 0), (17, .ireturn, 1, 0, 1, 0), (18, .iload_n 2, 1, 2, 0, 0), (19, .iconst 1, 1, 0, 0, 1), (20, .if_icmp .lt 14, 3, 34, 0, 0), (23, .iload_n 2, 1, 2, 0, 0), (24, .iload_n 3, 1, 3, 0, 0), (25, .if_icmp .gt 9, 3, 34, 0, 0), (28, .iload_n 3, 1, 3, 0, 0), (29, .bipush 9, 2, 0, 0, 9), (31, .if_icmp .le 5, 3, 36, 0, 0), (34, .iconst 0, 1, 0, 0, 0), (35, .ireturn, 1, 0, 1, 0), (36, .aload_n 0, 1, 0, 0, 0), (37, .getfield 11, 3, 3, 0, 0), (40, .iload_n 1, 1, 1, 0, 0), (41, .iload_n 2, 1, 2, 0, 0), (42, .iastore, 1, 0, 0, 0), (43, .aload_n 0, 1, 0, 0, 0), (44, .getfield 15, 3, 3, 1, 0), (47, .iload_n 1, 1, 1, 0, 0), (48, .iload_n 3, 1, 3, 0, 0), (49, .iastore, 1, 0, 0, 0), (50, .iconst 1, 1, 0, 0, 1), (51, .ireturn, 1, 0, 1, 0)]
-- 40: BootNet$Layout.addStation(I)I
def xt_c40 : List (Nat × Jvm.ClassFile.Instr × Nat × Nat × Nat × Int32) := [(0, .iload_n 1, 1, 1, 0, 0), (1, .invokestatic 38, 3, 6, 37, 0), (4, .ifCond .eq 12, 3, 16, 0, 0), (7, .aload_n 0, 1, 0, 0, 0), (8, .getfield 34, 3, 3, 5, 0), (11, .bipush 6, 2, 0, 0, 6), (13, .if_icmp .lt 5, 3, 18, 0, 0), (16, .iconst (-1), 1, 0, 0, (-1)), (17, .ireturn, 1, 0, 0, 0), (18, .aload_n 0, 1, 0, 0, 0), (19, .getfield 18, 3, 3, 2, 0), (22, .aload_n 0, 1, 0, 0, 0), (23, .getfield 34, 3, 3, 5, 0), (26, .iload_n 1, 1, 1, 0, 0), (27, .iastore, 1, 0, 0, 0), (28, .aload_n 0, 1, 0, 0, 0), (29, .dup, 1, 0, 0, 0), (30, .getfield 34, 3, 3, 5, 0), (33, .iconst 1, 1, 0, 0, 1), (34, .iadd, 1, 0, 0, 0), (35, .putfield 34, 3, 3, 5, 0), (38, .aload_n 0, 1, 0, 0, 0), (39, .getfield 34, 3, 3, 5, 0), (42, .iconst 1, 1, 0, 0, 1), (43, .isub, 1, 0, 0, 0), (44, .ireturn, 1, 0, 0, 0)]
-- 41: BootNet$Layout.reserveFor(II)Z
def xt_c41 : List (Nat × Jvm.ClassFile.Instr × Nat × Nat × Nat × Int32) := [(0, .aload_n 0, 1, 0, 0, 0), (1, .iload_n 1, 1, 1, 0, 0), (2, .invokevirtual 42, 3, 0, 38, 0), (5, .ifCond .eq 14, 3, 19, 0, 0), (8, .iload_n 2, 1, 2, 0, 0), (9, .iconst 1, 1, 0, 0, 1), (10, .if_icmp .lt 9, 3, 19, 0, 0), (13, .iload_n 2, 1, 2, 0, 0), (14, .bipush 9, 2, 0, 0, 9), (16, .if_icmp .le 5, 3, 21, 0, 0), (19, .iconst 0, 1, 0, 0, 0), (20, .ireturn, 1, 0, 1, 0), (21, .bipush 10, 2, 0, 0, 10), (23, .aload_n 0, 1, 0, 0, 0), (24, .getfield 18, 3, 3, 2, 0), (27, .iload_n 1, 1, 1, 0, 0), (28, .iaload, 1, 0, 0, 0), (29, .imul, 1, 0, 0, 0), (30, .iload_n 2, 1, 2, 0, 0), (31, .iadd, 1, 0, 0, 0), (32, .istore_n 3, 1, 3, 0, 0), (33, .aload_n 0, 1, 0, 0, 0), (34, .iload_n 3, 1, 3, 0, 0), (35, .iload_n 1, 1, 1, 0, 0), (36, .invokevirtual 45, 3, 0, 43, 0), (39, .ifCond .eq 5, 3, 44, 0, 0), (42, .iconst 0, 1, 0, 0, 0), (43, .ireturn, 1, 0, 1, 0), (44, .aload_n 0, 1, 0, 0, 0), (45, .iload_n 1, 1, 1, 0, 0), (46, .invokevirtual 49, 3, 0, 42, 0), (49, .istore 4, 2, 4, 0, 0), (51, .iload 4, 2, 4, 0, 0), (53, .ifCond .eq 11, 3, 64, 0, 0), (56, .aload_n 0, 1, 0, 0, 0), (57, .getfield 21, 3, 3, 3, 0), (60, .iload 4, 2, 4, 0, 0), (62, .iconst (-1), 1, 0, 0, (-1)), (63, .iastore, 1, 0, 0, 0), (64, .aload_n 0, 1, 0, 0, 0), (65, .getfield 21, 3, 3, 3, 0), (68, .iload_n 3, 1, 3, 0, 0), (69, .iload_n 1, 1, 1, 0, 0), (70, .iastore, 1, 0, 0, 0), (71, .iconst 1, 1, 0, 0, 1), (72, .ireturn, 1, 0, 1, 0)]
-- 42: BootNet$Layout.reservedAddress(I)I
def xt_c42 : List (Nat × Jvm.ClassFile.Instr × Nat × Nat × Nat × Int32) := [(0, .iconst 1, 1, 0, 0, 1), (1, .istore_n 2, 1, 2, 0, 0), (2, .iload_n 2, 1, 2, 0, 0), (3, .bipush 30, 2, 0, 0, 30), (5, .if_icmp .ge 21, 3, 26, 0, 0), (8, .aload_n 0, 1, 0, 0, 0), (9, .getfield 21, 3, 3, 3, 0), (12, .iload_n 2, 1, 2, 0, 0), (13, .iaload, 1, 0, 0, 0), (14, .iload_n 1, 1, 1, 0, 0), (15, .if_icmp .ne 5, 3, 20, 0, 0), (18, .iload_n 2, 1, 2, 0, 0), (19, .ireturn, 1, 0, 0, 0), (20, .iinc 2 1, 3, 2, 0, 1), (23, .goto (-21), 3, 2, 0, 0), (26, .iconst 0, 1, 0, 0, 0), (27, .ireturn, 1, 0, 0, 0)]
-- 43: BootNet$Layout.isReservedForAnother(II)Z
def xt_c43 : List (Nat × Jvm.ClassFile.Instr × Nat × Nat × Nat × Int32) := [(0, .aload_n 0, 1, 0, 0, 0), (1, .getfield 21, 3, 3, 3, 0), (4, .iload_n 1, 1, 1, 0, 0), (5, .iaload, 1, 0, 0, 0), (6, .iconst (-1), 1, 0, 0, (-1)), (7, .if_icmp .eq 17, 3, 24, 0, 0), (10, .aload_n 0, 1, 0, 0, 0), (11, .getfield 21, 3, 3, 3, 0), (14, .iload_n 1, 1, 1, 0, 0), (15, .iaload, 1, 0, 0, 0), (16, .iload_n 2, 1, 2, 0, 0), (17, .if_icmp .eq 7, 3, 24, 0, 0), (20, .iconst 1, 1, 0, 0, 1), (21, .goto 4, 3, 25, 0, 0), (24, .iconst 0, 1, 0, 0, 0), (25, .ireturn, 1, 0, 1, 0)]
-- 44: BootNet$Layout.setTaken(IZ)Z
def xt_c44 : List (Nat × Jvm.ClassFile.Instr × Nat × Nat × Nat × Int32) := [(0, .iload_n 1, 1, 1, 0, 0), (1, .invokestatic 53, 3, 6, 36, 0), (4, .ifCond .eq 13, 3, 17, 0, 0), (7, .aload_n 0, 1, 0, 0, 0), (8, .getfield 24, 3, 3, 4, 0), (11, .iload_n 1, 1, 1, 0, 0), (12, .baload, 1, 0, 0, 0), (13, .iload_n 2, 1, 2, 0, 0), (14, .if_icmp .ne 5, 3, 19, 0, 0), (17, .iconst 0, 1, 0, 0, 0), (18, .ireturn, 1, 0, 1, 0), (19, .aload_n 0, 1, 0, 0, 0), (20, .getfield 24, 3, 3, 4, 0), (23, .iload_n 1, 1, 1, 0, 0), (24, .iload_n 2, 1, 2, 0, 0), (25, .bastore, 1, 0, 0, 0), (26, .iconst 1, 1, 0, 0, 1), (27, .ireturn, 1, 0, 1, 0)]
-- 45: BootNet$Layout.isTaken(I)Z
def xt_c45 : List (Nat × Jvm.ClassFile.Instr × Nat × Nat × Nat × Int32) := [(0, .iload_n 1, 1, 1, 0, 0), (1, .invokestatic 53, 3, 6, 36, 0), (4, .ifCond .eq 16, 3, 20, 0, 0), (7, .aload_n 0, 1, 0, 0, 0), (8, .getfield 24, 3, 3, 4, 0), (11, .iload_n 1, 1, 1, 0, 0), (12, .baload, 1, 0, 0, 0), (13, .ifCond .eq 7, 3, 20, 0, 0), (16, .iconst 1, 1, 0, 0, 1), (17, .goto 4, 3, 21, 0, 0), (20, .iconst 0, 1, 0, 0, 0), (21, .ireturn, 1, 0, 1, 0)]
-- 46: BootNet$Layout.isBehindRelay(I)Z
def xt_c46 : List (Nat × Jvm.ClassFile.Instr × Nat × Nat × Nat × Int32) := [(0, .aload_n 0, 1, 0, 0, 0), (1, .getfield 18, 3, 3, 2, 0), (4, .iload_n 1, 1, 1, 0, 0), (5, .iaload, 1, 0, 0, 0), (6, .ifCond .eq 7, 3, 13, 0, 0), (9, .iconst 1, 1, 0, 0, 1), (10, .goto 4, 3, 14, 0, 0), (13, .iconst 0, 1, 0, 0, 0), (14, .ireturn, 1, 0, 1, 0)]
-- 47: BootNet$Layout.hasPool(I)Z
def xt_c47 : List (Nat × Jvm.ClassFile.Instr × Nat × Nat × Nat × Int32) := [(0, .aload_n 0, 1, 0, 0, 0), (1, .getfield 11, 3, 3, 0, 0), (4, .aload_n 0, 1, 0, 0, 0), (5, .getfield 18, 3, 3, 2, 0), (8, .iload_n 1, 1, 1, 0, 0), (9, .iaload, 1, 0, 0, 0), (10, .iaload, 1, 0, 0, 0), (11, .ifCond .eq 7, 3, 18, 0, 0), (14, .iconst 1, 1, 0, 0, 1), (15, .goto 4, 3, 19, 0, 0), (18, .iconst 0, 1, 0, 0, 0), (19, .ireturn, 1, 0, 1, 0)]
-- 48: BootNet$Layout.firstOfPool(I)I
def xt_c48 : List (Nat × Jvm.ClassFile.Instr × Nat × Nat × Nat × Int32) := [(0, .bipush 10, 2, 0, 0, 10), (2, .aload_n 0, 1, 0, 0, 0), (3, .getfield 18, 3, 3, 2, 0), (6, .iload_n 1, 1, 1, 0, 0), (7, .iaload, 1, 0, 0, 0), (8, .imul, 1, 0, 0, 0), (9, .aload_n 0, 1, 0, 0, 0), (10, .getfield 11, 3, 3, 0, 0), (13, .aload_n 0, 1, 0, 0, 0), (14, .getfield 18, 3, 3, 2, 0), (17, .iload_n 1, 1, 1, 0, 0), (18, .iaload, 1, 0, 0, 0), (19, .iaload, 1, 0, 0, 0), (20, .iadd, 1, 0, 0, 0), (21, .ireturn, 1, 0, 0, 0)]
-- 49: BootNet$Layout.lastOfPool(I)I
def xt_c49 : List (Nat × Jvm.ClassFile.Instr × Nat × Nat × Nat × Int32) := [(0, .bipush 10, 2, 0, 0, 10), (2, .aload_n 0, 1, 0, 0, 0), (3, .getfield 18, 3, 3, 2, 0), (6, .iload_n 1, 1, 1, 0, 0), (7, .iaload, 1, 0, 0, 0), (8, .imul, 1, 0, 0, 0), (9, .aload_n 0, 1, 0, 0, 0), (10, .getfield 15, 3, 3, 1, 0), (13, .aload_n 0, 1, 0, 0, 0), (14, .getfield 18, 3, 3, 2, 0), (17, .iload_n 1, 1, 1, 0, 0), (18, .iaload, 1, 0, 0, 0), (19, .iaload, 1, 0, 0, 0), (20, .iadd, 1, 0, 0, 0), (21, .ireturn, 1, 0, 0, 0)]
-- 50: BootNet$Library.<init>()V
def xt_c50 : List (Nat × Jvm.ClassFile.Instr × Nat × Nat × Nat × Int32) := [(0, .aload_n 0, 1, 0, 0, 0), (1, .invokespecial 1, 3, 1, 0, 0), (4, .aload_n 0, 1, 0, 0, 0), (5, .iconst 4, 1, 0, 0, 4), (6, .bipush 40, 2, 0, 0, 40), (8, .multianewarray 9 2, 4, 2, 0, 0), (12, .putfield 11, 3, 4, 0, 0), (15, .aload_n 0, 1, 0, 0, 0), (16, .iconst 4, 1, 0, 0, 4), (17, .newarray .int, 2, 0, 0, 0), (19, .putfield 14, 3, 4, 1, 0), (22, .aload_n 0, 1, 0, 0, 0), (23, .iconst 4, 1, 0, 0, 4), (24, .newarray .int, 2, 0, 0, 0), (26, .putfield 18, 3, 4, 2, 0), (29, .aload_n 0, 1, 0, 0, 0), (30, .iconst 4, 1, 0, 0, 4), (31, .newarray .int, 2, 0, 0, 0), (33, .putfield 21, 3, 4, 3, 0), (36, .aload_n 0, 1, 0, 0, 0), (37, .iconst 4, 1, 0, 0, 4), (38, .newarray .int, 2, 0, 0, 0), (40, .putfield 24, 3, 4, 4, 0), (43, .return_, 1, 0, 0, 0)]
-- 51: BootNet$Library.isFile(I)Z
def xt_c51 : List (Nat × Jvm.ClassFile.Instr × Nat × Nat × Nat × Int32) := [(0, .iload_n 0, 1, 0, 0, 0), (1, .ifCond .lt 12, 3, 13, 0, 0), (4, .iload_n 0, 1, 0, 0, 0), (5, .iconst 4, 1, 0, 0, 4), (6, .if_icmp .ge 7, 3, 13, 0, 0), (9, .iconst 1, 1, 0, 0, 1), (10, .goto 4, 3, 14, 0, 0), (13, .iconst 0, 1, 0, 0, 0), (14, .ireturn, 1, 0, 1, 0)]
-- 52: BootNet$Library.checkOfRow([III)I
def xt_c52 : List (Nat × Jvm.ClassFile.Instr × Nat × Nat × Nat × Int32) := [(0, .iconst (-1), 1, 0, 0, (-1)), (1, .istore_n 3, 1, 3, 0, 0), (2, .iload_n 1, 1, 1, 0, 0), (3, .istore 4, 2, 4, 0, 0), (5, .iload 4, 2, 4, 0, 0), (7, .iload_n 2, 1, 2, 0, 0), (8, .if_icmp .ge 50, 3, 58, 0, 0), (11, .iload_n 3, 1, 3, 0, 0), (12, .aload_n 0, 1, 0, 0, 0), (13, .iload 4, 2, 4, 0, 0), (15, .iaload, 1, 0, 0, 0), (16, .ixor, 1, 0, 0, 0), (17, .istore_n 3, 1, 3, 0, 0), (18, .iconst 0, 1, 0, 0, 0), (19, .istore 5, 2, 5, 0, 0), (21, .iload 5, 2, 5, 0, 0), (23, .bipush 8, 2, 0, 0, 8), (25, .if_icmp .ge 27, 3, 52, 0, 0), (28, .iload_n 3, 1, 3, 0, 0), (29, .iconst 1, 1, 0, 0, 1), (30, .iushr, 1, 0, 0, 0), (31, .iload_n 3, 1, 3, 0, 0), (32, .iconst 1, 1, 0, 0, 1), (33, .iand, 1, 0, 0, 0), (34, .iconst 1, 1, 0, 0, 1), (35, .if_icmp .ne 8, 3, 43, 0, 0), (38, .ldc 27, 2, 0, 0, (-306674912)), (40, .goto 4, 3, 44, 0, 0), (43, .iconst 0, 1, 0, 0, 0), (44, .ixor, 1, 0, 0, 0), (45, .istore_n 3, 1, 3, 0, 0), (46, .iinc 5 1, 3, 5, 0, 1), (49, .goto (-28), 3, 21, 0, 0), (52, .iinc 4 1, 3, 4, 0, 1), (55, .goto (-50), 3, 5, 0, 0), (58, .iload_n 3, 1, 3, 0, 0), (59, .iconst (-1), 1, 0, 0, (-1)), (60, .ixor, 1, 0, 0, 0), (61, .ireturn, 1, 0, 0, 0)]
-- 53: BootNet$Library.addByte(II)Z
def xt_c53 : List (Nat × Jvm.ClassFile.Instr × Nat × Nat × Nat × Int32) := [(0, .iload_n 1, 1, 1, 0, 0), (1, .invokestatic 28, 3, 6, 51, 0), (4, .ifCond .eq 25, 3, 29, 0, 0), (7, .iload_n 2, 1, 2, 0, 0), (8, .ifCond .lt 21, 3, 29, 0, 0), (11, .iload_n 2, 1, 2, 0, 0), (12, .sipush 255, 3, 0, 0, 255), (15, .if_icmp .gt 14, 3, 29, 0, 0), (18, .aload_n 0, 1, 0, 0, 0), (19, .getfield 14, 3, 4, 1, 0), (22, .iload_n 1, 1, 1, 0, 0), (23, .iaload, 1, 0, 0, 0), (24, .bipush 40, 2, 0, 0, 40), (26, .if_icmp .lt 5, 3, 31, 0, 0), (29, .iconst 0, 1, 0, 0, 0), (30, .ireturn, 1, 0, 1, 0), (31, .aload_n 0, 1, 0, 0, 0), (32, .getfield 11, 3, 4, 0, 0), (35, .iload_n 1, 1, 1, 0, 0), (36, .aaload, 1, 0, 0, 0), (37, .aload_n 0, 1, 0, 0, 0), (38, .getfield 14, 3, 4, 1, 0), (41, .iload_n 1, 1, 1, 0, 0), (42, .iaload, 1, 0, 0, 0), (43, .iload_n 2, 1, 2, 0, 0), (44, .iastore, 1, 0, 0, 0), (45, .aload_n 0, 1, 0, 0, 0), (46, .getfield 14, 3, 4, 1, 0), (49, .iload_n 1, 1, 1, 0, 0), (50, .dup2, 1, 0, 0, 0), (51, .iaload, 1, 0, 0, 0), (52, .iconst 1, 1, 0, 0, 1), (53, .iadd, 1, 0, 0, 0), (54, .iastore, 1, 0, 0, 0), (55, .iconst 1, 1, 0, 0, 1), (56, .ireturn, 1, 0, 1, 0)]
-- 54: BootNet$Library.checkOf(I)I
def xt_c54 : List (Nat × Jvm.ClassFile.Instr × Nat × Nat × Nat × Int32) := [(0, .iload_n 1, 1, 1, 0, 0), (1, .invokestatic 28, 3, 6, 51, 0), (4, .ifCond .eq 22, 3, 26, 0, 0), (7, .aload_n 0, 1, 0, 0, 0), (8, .getfield 11, 3, 4, 0, 0), (11, .iload_n 1, 1, 1, 0, 0), (12, .aaload, 1, 0, 0, 0), (13, .iconst 0, 1, 0, 0, 0), (14, .aload_n 0, 1, 0, 0, 0), (15, .getfield 14, 3, 4, 1, 0), (18, .iload_n 1, 1, 1, 0, 0), (19, .iaload, 1, 0, 0, 0), (20, .invokestatic 32, 3, 6, 52, 0), (23, .goto 4, 3, 27, 0, 0), (26, .iconst 0, 1, 0, 0, 0), (27, .ireturn, 1, 0, 0, 0)]
-- 55: BootNet$Library.has(I)Z
def xt_c55 : List (Nat × Jvm.ClassFile.Instr × Nat × Nat × Nat × Int32) := [(0, .iload_n 1, 1, 1, 0, 0), (1, .invokestatic 28, 3, 6, 51, 0), (4, .ifCond .eq 16, 3, 20, 0, 0), (7, .aload_n 0, 1, 0, 0, 0), (8, .getfield 14, 3, 4, 1, 0), (11, .iload_n 1, 1, 1, 0, 0), (12, .iaload, 1, 0, 0, 0), (13, .ifCond .le 7, 3, 20, 0, 0), (16, .iconst 1, 1, 0, 0, 1), (17, .goto 4, 3, 21, 0, 0), (20, .iconst 0, 1, 0, 0, 0), (21, .ireturn, 1, 0, 1, 0)]
-- 56: BootNet$Library.copyBlock(IIILBootNet$Message;)V
def xt_c56 : List (Nat × Jvm.ClassFile.Instr × Nat × Nat × Nat × Int32) := [(0, .iload_n 2, 1, 2, 0, 0), (1, .iconst 1, 1, 0, 0, 1), (2, .isub, 1, 0, 0, 0), (3, .iload_n 3, 1, 3, 0, 0), (4, .imul, 1, 0, 0, 0), (5, .aload_n 0, 1, 0, 0, 0), (6, .getfield 14, 3, 4, 1, 0), (9, .iload_n 1, 1, 1, 0, 0), (10, .iaload, 1, 0, 0, 0), (11, .invokestatic 36, 3, 3, 0, 0), (14, .istore 5, 2, 5, 0, 0), (16, .aload 4, 2, 4, 0, 0), (18, .aload_n 0, 1, 0, 0, 0), (19, .getfield 11, 3, 4, 0, 0), (22, .iload_n 1, 1, 1, 0, 0), (23, .aaload, 1, 0, 0, 0), (24, .iload 5, 2, 5, 0, 0), (26, .iload_n 3, 1, 3, 0, 0), (27, .aload_n 0, 1, 0, 0, 0), (28, .getfield 14, 3, 4, 1, 0), (31, .iload_n 1, 1, 1, 0, 0), (32, .iaload, 1, 0, 0, 0), (33, .iload 5, 2, 5, 0, 0), (35, .isub, 1, 0, 0, 0), (36, .invokestatic 36, 3, 3, 0, 0), (39, .invokevirtual 42, 3, 0, 74, 0), (42, .return_, 1, 0, 0, 0)]
-- 57: BootNet$Library.addEntry(III)Z
def xt_c57 : List (Nat × Jvm.ClassFile.Instr × Nat × Nat × Nat × Int32) := [(0, .iload_n 1, 1, 1, 0, 0), (1, .invokestatic 28, 3, 6, 51, 0), (4, .ifCond .eq 21, 3, 25, 0, 0), (7, .iload_n 2, 1, 2, 0, 0), (8, .ifCond .lt 17, 3, 25, 0, 0), (11, .iload_n 2, 1, 2, 0, 0), (12, .bipush 40, 2, 0, 0, 40), (14, .if_icmp .gt 11, 3, 25, 0, 0), (17, .aload_n 0, 1, 0, 0, 0), (18, .getfield 48, 3, 4, 5, 0), (21, .iconst 4, 1, 0, 0, 4), (22, .if_icmp .lt 5, 3, 27, 0, 0), (25, .iconst 0, 1, 0, 0, 0), (26, .ireturn, 1, 0, 1, 0), (27, .aload_n 0, 1, 0, 0, 0), (28, .getfield 18, 3, 4, 2, 0), (31, .aload_n 0, 1, 0, 0, 0), (32, .getfield 48, 3, 4, 5, 0), (35, .iload_n 1, 1, 1, 0, 0), (36, .iastore, 1, 0, 0, 0), (37, .aload_n 0, 1, 0, 0, 0), (38, .getfield 21, 3, 4, 3, 0), (41, .aload_n 0, 1, 0, 0, 0), (42, .getfield 48, 3, 4, 5, 0), (45, .iload_n 2, 1, 2, 0, 0), (46, .iastore, 1, 0, 0, 0), (47, .aload_n 0, 1, 0, 0, 0), (48, .getfield 24, 3, 4, 4, 0), (51, .aload_n 0, 1, 0, 0, 0), (52, .getfield 48, 3, 4, 5, 0), (55, .iload_n 3, 1, 3, 0, 0), (56, .iastore, 1, 0, 0, 0), (57, .aload_n 0, 1, 0, 0, 0), (58, .dup, 1, 0, 0, 0), (59, .getfield 48, 3, 4, 5, 0), (62, .iconst 1, 1, 0, 0, 1), (63, .iadd, 1, 0, 0, 0), (64, .putfield 48, 3, 4, 5, 0), (67, .iconst 1, 1, 0, 0, 1), (68, .ireturn, 1, 0, 1, 0)]
-- 58: BootNet$Library.bytesBefore(I)I
def xt_c58 : List (Nat × Jvm.ClassFile.Instr × Nat × Nat × Nat × Int32) := [(0, .iconst 0, 1, 0, 0, 0), (1, .istore_n 2, 1, 2, 0, 0), (2, .iconst 0, 1, 0, 0, 0), (3, .istore_n 3, 1, 3, 0, 0), (4, .iload_n 3, 1, 3, 0, 0), (5, .iload_n 1, 1, 1, 0, 0), (6, .if_icmp .ge 18, 3, 24, 0, 0), (9, .iload_n 2, 1, 2, 0, 0), (10, .aload_n 0, 1, 0, 0, 0), (11, .getfield 21, 3, 4, 3, 0), (14, .iload_n 3, 1, 3, 0, 0), (15, .iaload, 1, 0, 0, 0), (16, .iadd, 1, 0, 0, 0), (17, .istore_n 2, 1, 2, 0, 0), (18, .iinc 3 1, 3, 3, 0, 1), (21, .goto (-17), 3, 4, 0, 0), (24, .iload_n 2, 1, 2, 0, 0), (25, .ireturn, 1, 0, 0, 0)]
-- 59: BootNet$Loading.<init>(ILBootNet$Ground;LBootNet$Wire;LBootNet$Library;)V
def xt_c59 : List (Nat × Jvm.ClassFile.Instr × Nat × Nat × Nat × Int32) := [(0, .aload_n 0, 1, 0, 0, 0), (1, .invokespecial 7, 3, 1, 0, 0), (4, .aload_n 0, 1, 0, 0, 0), (5, .sipush 172, 3, 0, 0, 172), (8, .newarray .int, 2, 0, 0, 0), (10, .putfield 15, 3, 5, 4, 0), (13, .aload_n 0, 1, 0, 0, 0), (14, .iload_n 1, 1, 1, 0, 0), (15, .putfield 19, 3, 5, 0, 0), (18, .aload_n 0, 1, 0, 0, 0), (19, .aload_n 2, 1, 2, 0, 0), (20, .putfield 23, 3, 5, 1, 0), (23, .aload_n 0, 1, 0, 0, 0), (24, .aload_n 3, 1, 3, 0, 0), (25, .putfield 27, 3, 5, 2, 0), (28, .aload_n 0, 1, 0, 0, 0), (29, .aload 4, 2, 4, 0, 0), (31, .putfield 31, 3, 5, 3, 0), (34, .return_, 1, 0, 0, 0)]
-- 60: BootNet$Loading.forgetAll()V
def xt_c60 : List (Nat × Jvm.ClassFile.Instr × Nat × Nat × Nat × Int32) := [(0, .aload_n 0, 1, 0, 0, 0), (1, .iconst 0, 1, 0, 0, 0), (2, .putfield 35, 3, 5, 11, 0), (5, .aload_n 0, 1, 0, 0, 0), (6, .iconst 0, 1, 0, 0, 0), (7, .putfield 38, 3, 5, 10, 0), (10, .aload_n 0, 1, 0, 0, 0), (11, .iconst 0, 1, 0, 0, 0), (12, .putfield 41, 3, 5, 6, 0), (15, .aload_n 0, 1, 0, 0, 0), (16, .iconst 0, 1, 0, 0, 0), (17, .putfield 44, 3, 5, 5, 0), (20, .return_, 1, 0, 0, 0)]
-- 61: BootNet$Loading.begin(I)V
def xt_c61 : List (Nat × Jvm.ClassFile.Instr × Nat × Nat × Nat × Int32) := [(0, .iload_n 1, 1, 1, 0, 0), (1, .aload_n 0, 1, 0, 0, 0), (2, .getfield 31, 3, 5, 3, 0), (5, .getfield 47, 3, 4, 5, 0), (8, .if_icmp .lt 9, 3, 17, 0, 0), (11, .aload_n 0, 1, 0, 0, 0), (12, .iconst 2, 1, 0, 0, 2), (13, .putfield 35, 3, 5, 11, 0), (16, .return_, 1, 0, 0, 0), (17, .aload_n 0, 1, 0, 0, 0), (18, .iconst 1, 1, 0, 0, 1), (19, .putfield 35, 3, 5, 11, 0), (22, .aload_n 0, 1, 0, 0, 0), (23, .iload_n 1, 1, 1, 0, 0), (24, .putfield 38, 3, 5, 10, 0), (27, .aload_n 0, 1, 0, 0, 0), (28, .aload_n 0, 1, 0, 0, 0), (29, .getfield 31, 3, 5, 3, 0), (32, .iload_n 1, 1, 1, 0, 0), (33, .invokevirtual 50, 3, 0, 58, 0), (36, .putfield 41, 3, 5, 6, 0), (39, .aload_n 0, 1, 0, 0, 0), (40, .aload_n 0, 1, 0, 0, 0), (41, .getfield 41, 3, 5, 6, 0), (44, .putfield 44, 3, 5, 5, 0), (47, .aload_n 0, 1, 0, 0, 0), (48, .iconst 1, 1, 0, 0, 1), (49, .putfield 54, 3, 5, 7, 0), (52, .aload_n 0, 1, 0, 0, 0), (53, .invokevirtual 57, 3, 0, 71, 0), (56, .aload_n 0, 1, 0, 0, 0), (57, .invokevirtual 60, 3, 0, 72, 0), (60, .return_, 1, 0, 0, 0)]
-- 62: BootNet$Loading.interrupt()V
def xt_c62 : List (Nat × Jvm.ClassFile.Instr × Nat × Nat × Nat × Int32) := [(0, .aload_n 0, 1, 0, 0, 0), (1, .getfield 35, 3, 5, 11, 0), (4, .iconst 1, 1, 0, 0, 1), (5, .if_icmp .ne 8, 3, 13, 0, 0), (8, .aload_n 0, 1, 0, 0, 0), (9, .iconst 0, 1, 0, 0, 0), (10, .putfield 35, 3, 5, 11, 0), (13, .return_, 1, 0, 0, 0)]
-- 63: BootNet$Loading.onData(LBootNet$Message;)V
def xt_c63 : List (Nat × Jvm.ClassFile.Instr × Nat × Nat × Nat × Int32) := [(0, .aload_n 0, 1, 0, 0, 0), (1, .getfield 35, 3, 5, 11, 0), (4, .iconst 1, 1, 0, 0, 1), (5, .if_icmp .ne 33, 3, 38, 0, 0), (8, .aload_n 1, 1, 1, 0, 0), (9, .getfield 63, 3, 6, 3, 0), (12, .aload_n 0, 1, 0, 0, 0), (13, .getfield 31, 3, 5, 3, 0), (16, .getfield 66, 3, 4, 2, 0), (19, .aload_n 0, 1, 0, 0, 0), (20, .getfield 38, 3, 5, 10, 0), (23, .iaload, 1, 0, 0, 0), (24, .if_icmp .ne 14, 3, 38, 0, 0), (27, .aload_n 1, 1, 1, 0, 0), (28, .getfield 69, 3, 6, 4, 0), (31, .aload_n 0, 1, 0, 0, 0), (32, .getfield 54, 3, 5, 7, 0), (35, .if_icmp .eq 4, 3, 39, 0, 0), (38, .return_, 1, 0, 0, 0), (39, .aload_n 0, 1, 0, 0, 0), (40, .aload_n 1, 1, 1, 0, 0), (41, .invokevirtual 70, 3, 0, 70, 0), (44, .aload_n 0, 1, 0, 0, 0), (45, .getfield 27, 3, 5, 2, 0), (48, .bipush 10, 2, 0, 0, 10), (50, .aload_n 0, 1, 0, 0, 0), (51, .getfield 19, 3, 5, 0, 0), (54, .iconst 0, 1, 0, 0, 0), (55, .iconst 0, 1, 0, 0, 0), (56, .aload_n 1, 1, 1, 0, 0), (57, .getfield 63, 3, 6, 3, 0), (60, .aload_n 1, 1, 1, 0, 0), (61, .getfield 69, 3, 6, 4, 0), (64, .invokevirtual 74, 3, 0, 117, 0), (67, .pop, 1, 0, 0, 0), (68, .aload_n 0, 1, 0, 0, 0), (69, .invokevirtual 60, 3, 0, 72, 0), (72, .aload_n 1, 1, 1, 0, 0), (73, .getfield 80, 3, 6, 6, 0), (76, .aload_n 0, 1, 0, 0, 0), (77, .getfield 23, 3, 5, 1, 0), (80, .getfield 81, 3, 2, 2, 0), (83, .if_icmp .ne 32, 3, 115, 0, 0), (86, .aload_n 0, 1, 0, 0, 0), (87, .dup, 1, 0, 0, 0), (88, .getfield 54, 3, 5, 7, 0), (91, .iconst 1, 1, 0, 0, 1), (92, .iadd, 1, 0, 0, 0), (93, .putfield 54, 3, 5, 7, 0), (96, .aload_n 0, 1, 0, 0, 0), (97, .aload_n 0, 1, 0, 0, 0), (98, .invokevirtual 86, 3, 0, 67, 0), (101, .bipush 40, 2, 0, 0, 40), (103, .if_icmp .le 7, 3, 110, 0, 0), (106, .iconst 4, 1, 0, 0, 4), (107, .goto 4, 3, 111, 0, 0), (110, .iconst 1, 1, 0, 0, 1), (111, .putfield 35, 3, 5, 11, 0), (114, .return_, 1, 0, 0, 0), (115, .aload_n 0, 1, 0, 0, 0), (116, .aload_n 0, 1, 0, 0, 0), (117, .invokevirtual 90, 3, 0, 69, 0), (120, .putfield 35, 3, 5, 11, 0), (123, .aload_n 0, 1, 0, 0, 0), (124, .getfield 35, 3, 5, 11, 0), (127, .iconst 1, 1, 0, 0, 1), (128, .if_icmp .ne 13, 3, 141, 0, 0), (131, .aload_n 0, 1, 0, 0, 0), (132, .aload_n 0, 1, 0, 0, 0), (133, .getfield 38, 3, 5, 10, 0), (136, .iconst 1, 1, 0, 0, 1), (137, .iadd, 1, 0, 0, 0), (138, .invokevirtual 93, 3, 0, 61, 0), (141, .return_, 1, 0, 0, 0)]
-- 64: BootNet$Loading.onError(LBootNet$Message;)V
def xt_c64 : List (Nat × Jvm.ClassFile.Instr × Nat × Nat × Nat × Int32) := [(0, .aload_n 0, 1, 0, 0, 0), (1, .getfield 35, 3, 5, 11, 0), (4, .iconst 1, 1, 0, 0, 1), (5, .if_icmp .ne 27, 3, 32, 0, 0), (8, .aload_n 1, 1, 1, 0, 0), (9, .getfield 63, 3, 6, 3, 0), (12, .aload_n 0, 1, 0, 0, 0), (13, .getfield 31, 3, 5, 3, 0), (16, .getfield 66, 3, 4, 2, 0), (19, .aload_n 0, 1, 0, 0, 0), (20, .getfield 38, 3, 5, 10, 0), (23, .iaload, 1, 0, 0, 0), (24, .if_icmp .ne 8, 3, 32, 0, 0), (27, .aload_n 0, 1, 0, 0, 0), (28, .iconst 3, 1, 0, 0, 3), (29, .putfield 35, 3, 5, 11, 0), (32, .return_, 1, 0, 0, 0)]
-- 65: BootNet$Loading.isLate()Z
def xt_c65 : List (Nat × Jvm.ClassFile.Instr × Nat × Nat × Nat × Int32) := [(0, .aload_n 0, 1, 0, 0, 0), (1, .getfield 35, 3, 5, 11, 0), (4, .iconst 1, 1, 0, 0, 1), (5, .if_icmp .ne 21, 3, 26, 0, 0), (8, .aload_n 0, 1, 0, 0, 0), (9, .getfield 23, 3, 5, 1, 0), (12, .getfield 97, 3, 2, 3, 0), (15, .aload_n 0, 1, 0, 0, 0), (16, .getfield 100, 3, 5, 9, 0), (19, .if_icmp .lt 7, 3, 26, 0, 0), (22, .iconst 1, 1, 0, 0, 1), (23, .goto 4, 3, 27, 0, 0), (26, .iconst 0, 1, 0, 0, 0), (27, .ireturn, 1, 0, 1, 0)]
-- 66: BootNet$Loading.tryAgain()V
def xt_c66 : List (Nat × Jvm.ClassFile.Instr × Nat × Nat × Nat × Int32) := [(0, .aload_n 0, 1, 0, 0, 0), (1, .getfield 103, 3, 5, 8, 0), (4, .aload_n 0, 1, 0, 0, 0), (5, .getfield 23, 3, 5, 1, 0), (8, .getfield 106, 3, 2, 1, 0), (11, .if_icmp .lt 10, 3, 21, 0, 0), (14, .aload_n 0, 1, 0, 0, 0), (15, .bipush 6, 2, 0, 0, 6), (17, .putfield 35, 3, 5, 11, 0), (20, .return_, 1, 0, 0, 0), (21, .aload_n 0, 1, 0, 0, 0), (22, .dup, 1, 0, 0, 0), (23, .getfield 103, 3, 5, 8, 0), (26, .iconst 1, 1, 0, 0, 1), (27, .iadd, 1, 0, 0, 0), (28, .putfield 103, 3, 5, 8, 0), (31, .aload_n 0, 1, 0, 0, 0), (32, .aload_n 0, 1, 0, 0, 0), (33, .getfield 23, 3, 5, 1, 0), (36, .getfield 97, 3, 2, 3, 0), (39, .iconst 3, 1, 0, 0, 3), (40, .iadd, 1, 0, 0, 0), (41, .putfield 100, 3, 5, 9, 0), (44, .aload_n 0, 1, 0, 0, 0), (45, .getfield 54, 3, 5, 7, 0), (48, .iconst 1, 1, 0, 0, 1), (49, .if_icmp .ne 7, 3, 56, 0, 0), (52, .aload_n 0, 1, 0, 0, 0), (53, .invokevirtual 57, 3, 0, 71, 0), (56, .return_, 1, 0, 0, 0)]
-- 67: BootNet$Loading.bytesOfEntry()I
def xt_c67 : List (Nat × Jvm.ClassFile.Instr × Nat × Nat × Nat × Int32) := [(0, .aload_n 0, 1, 0, 0, 0), (1, .getfield 44, 3, 5, 5, 0), (4, .aload_n 0, 1, 0, 0, 0), (5, .getfield 41, 3, 5, 6, 0), (8, .isub, 1, 0, 0, 0), (9, .ireturn, 1, 0, 0, 0)]
-- 68: BootNet$Loading.byteAt(I)I
def xt_c68 : List (Nat × Jvm.ClassFile.Instr × Nat × Nat × Nat × Int32) := [(0, .iload_n 1, 1, 1, 0, 0), (1, .ifCond .lt 20, 3, 21, 0, 0), (4, .iload_n 1, 1, 1, 0, 0), (5, .aload_n 0, 1, 0, 0, 0), (6, .getfield 44, 3, 5, 5, 0), (9, .if_icmp .ge 12, 3, 21, 0, 0), (12, .aload_n 0, 1, 0, 0, 0), (13, .getfield 15, 3, 5, 4, 0), (16, .iload_n 1, 1, 1, 0, 0), (17, .iaload, 1, 0, 0, 0), (18, .goto 4, 3, 22, 0, 0), (21, .iconst (-1), 1, 0, 0, (-1)), (22, .ireturn, 1, 0, 0, 0)]
-- 69: BootNet$Loading.resultOfEntry()I
def xt_c69 : List (Nat × Jvm.ClassFile.Instr × Nat × Nat × Nat × Int32) := [(0, .aload_n 0, 1, 0, 0, 0), (1, .invokevirtual 86, 3, 0, 67, 0), (4, .aload_n 0, 1, 0, 0, 0), (5, .getfield 31, 3, 5, 3, 0), (8, .getfield 109, 3, 4, 3, 0), (11, .aload_n 0, 1, 0, 0, 0), (12, .getfield 38, 3, 5, 10, 0), (15, .iaload, 1, 0, 0, 0), (16, .if_icmp .eq 5, 3, 21, 0, 0), (19, .iconst 4, 1, 0, 0, 4), (20, .ireturn, 1, 0, 0, 0), (21, .aload_n 0, 1, 0, 0, 0), (22, .getfield 15, 3, 5, 4, 0), (25, .aload_n 0, 1, 0, 0, 0), (26, .getfield 41, 3, 5, 6, 0), (29, .aload_n 0, 1, 0, 0, 0), (30, .getfield 44, 3, 5, 5, 0), (33, .invokestatic 112, 3, 6, 52, 0), (36, .istore_n 1, 1, 1, 0, 0), (37, .iload_n 1, 1, 1, 0, 0), (38, .aload_n 0, 1, 0, 0, 0), (39, .getfield 31, 3, 5, 3, 0), (42, .getfield 116, 3, 4, 4, 0), (45, .aload_n 0, 1, 0, 0, 0), (46, .getfield 38, 3, 5, 10, 0), (49, .iaload, 1, 0, 0, 0), (50, .if_icmp .ne 7, 3, 57, 0, 0), (53, .iconst 1, 1, 0, 0, 1), (54, .goto 4, 3, 58, 0, 0), (57, .iconst 5, 1, 0, 0, 5), (58, .ireturn, 1, 0, 0, 0)]
-- 70: BootNet$Loading.addBytes(LBootNet$Message;)V
def xt_c70 : List (Nat × Jvm.ClassFile.Instr × Nat × Nat × Nat × Int32) := [(0, .iconst 0, 1, 0, 0, 0), (1, .istore_n 2, 1, 2, 0, 0), (2, .iload_n 2, 1, 2, 0, 0), (3, .aload_n 1, 1, 1, 0, 0), (4, .getfield 80, 3, 6, 6, 0), (7, .if_icmp .ge 44, 3, 51, 0, 0), (10, .aload_n 0, 1, 0, 0, 0), (11, .getfield 44, 3, 5, 5, 0), (14, .sipush 172, 3, 0, 0, 172), (17, .if_icmp .ge 34, 3, 51, 0, 0), (20, .aload_n 0, 1, 0, 0, 0), (21, .getfield 15, 3, 5, 4, 0), (24, .aload_n 0, 1, 0, 0, 0), (25, .getfield 44, 3, 5, 5, 0), (28, .aload_n 1, 1, 1, 0, 0), (29, .getfield 119, 3, 6, 7, 0), (32, .iload_n 2, 1, 2, 0, 0), (33, .iaload, 1, 0, 0, 0), (34, .iastore, 1, 0, 0, 0), (35, .aload_n 0, 1, 0, 0, 0), (36, .dup, 1, 0, 0, 0), (37, .getfield 44, 3, 5, 5, 0), (40, .iconst 1, 1, 0, 0, 1), (41, .iadd, 1, 0, 0, 0), (42, .putfield 44, 3, 5, 5, 0), (45, .iinc 2 1, 3, 2, 0, 1), (48, .goto (-46), 3, 2, 0, 0), (51, .return_, 1, 0, 0, 0)]
-- 71: BootNet$Loading.sendRead()V
def xt_c71 : List (Nat × Jvm.ClassFile.Instr × Nat × Nat × Nat × Int32) := [(0, .aload_n 0, 1, 0, 0, 0), (1, .getfield 27, 3, 5, 2, 0), (4, .bipush 8, 2, 0, 0, 8), (6, .aload_n 0, 1, 0, 0, 0), (7, .getfield 19, 3, 5, 0, 0), (10, .iconst 0, 1, 0, 0, 0), (11, .iconst 0, 1, 0, 0, 0), (12, .aload_n 0, 1, 0, 0, 0), (13, .getfield 31, 3, 5, 3, 0), (16, .getfield 66, 3, 4, 2, 0), (19, .aload_n 0, 1, 0, 0, 0), (20, .getfield 38, 3, 5, 10, 0), (23, .iaload, 1, 0, 0, 0), (24, .iconst 0, 1, 0, 0, 0), (25, .invokevirtual 74, 3, 0, 117, 0), (28, .pop, 1, 0, 0, 0), (29, .return_, 1, 0, 0, 0)]
-- 72: BootNet$Loading.waitAnew()V
def xt_c72 : List (Nat × Jvm.ClassFile.Instr × Nat × Nat × Nat × Int32) := [(0, .aload_n 0, 1, 0, 0, 0), (1, .iconst 1, 1, 0, 0, 1), (2, .putfield 103, 3, 5, 8, 0), (5, .aload_n 0, 1, 0, 0, 0), (6, .aload_n 0, 1, 0, 0, 0), (7, .getfield 23, 3, 5, 1, 0), (10, .getfield 97, 3, 2, 3, 0), (13, .iconst 3, 1, 0, 0, 3), (14, .iadd, 1, 0, 0, 0), (15, .putfield 100, 3, 5, 9, 0), (18, .return_, 1, 0, 0, 0)]
-- 73: BootNet$Message.<init>()V
def xt_c73 : List (Nat × Jvm.ClassFile.Instr × Nat × Nat × Nat × Int32) := [(0, .aload_n 0, 1, 0, 0, 0), (1, .invokespecial 3, 3, 1, 0, 0), (4, .aload_n 0, 1, 0, 0, 0), (5, .bipush 12, 2, 0, 0, 12), (7, .newarray .int, 2, 0, 0, 0), (9, .putfield 11, 3, 6, 7, 0), (12, .return_, 1, 0, 0, 0)]
-- 74: BootNet$Message.copyBytes([III)V
def xt_c74 : List (Nat × Jvm.ClassFile.Instr × Nat × Nat × Nat × Int32) := [(0, .aload_n 1, 1, 1, 0, 0), (1, .iload_n 2, 1, 2, 0, 0), (2, .aload_n 0, 1, 0, 0, 0), (3, .getfield 11, 3, 6, 7, 0), (6, .iconst 0, 1, 0, 0, 0), (7, .iload_n 3, 1, 3, 0, 0), (8, .invokestatic 15, 3, 4, 0, 0), (11, .aload_n 0, 1, 0, 0, 0), (12, .iload_n 3, 1, 3, 0, 0), (13, .putfield 21, 3, 6, 6, 0), (16, .return_, 1, 0, 0, 0)]
-- 75: BootNet$Message.goesToServer()Z
def xt_c75 : List (Nat × Jvm.ClassFile.Instr × Nat × Nat × Nat × Int32) := [(0, .aload_n 0, 1, 0, 0, 0), (1, .getfield 25, 3, 6, 0, 0), (4, .ifCond .eq 37, 3, 41, 0, 0), (7, .aload_n 0, 1, 0, 0, 0), (8, .getfield 25, 3, 6, 0, 0), (11, .iconst 2, 1, 0, 0, 2), (12, .if_icmp .eq 29, 3, 41, 0, 0), (15, .aload_n 0, 1, 0, 0, 0), (16, .getfield 25, 3, 6, 0, 0), (19, .iconst 5, 1, 0, 0, 5), (20, .if_icmp .eq 21, 3, 41, 0, 0), (23, .aload_n 0, 1, 0, 0, 0), (24, .getfield 25, 3, 6, 0, 0), (27, .bipush 8, 2, 0, 0, 8), (29, .if_icmp .eq 12, 3, 41, 0, 0), (32, .aload_n 0, 1, 0, 0, 0), (33, .getfield 25, 3, 6, 0, 0), (36, .bipush 10, 2, 0, 0, 10), (38, .if_icmp .ne 7, 3, 45, 0, 0), (41, .iconst 1, 1, 0, 0, 1), (42, .goto 4, 3, 46, 0, 0), (45, .iconst 0, 1, 0, 0, 0), (46, .ireturn, 1, 0, 1, 0)]
-- 76: BootNet$Message.tell(I)I
def xt_c76 : List (Nat × Jvm.ClassFile.Instr × Nat × Nat × Nat × Int32) := [(0, .iload_n 1, 1, 1, 0, 0), (1, .tableswitch 78 0 6 #[43, 48, 53, 58, 63, 68, 73], 43, 79, 0, 0), (44, .aload_n 0, 1, 0, 0, 0), (45, .getfield 25, 3, 6, 0, 0), (48, .ireturn, 1, 0, 0, 0), (49, .aload_n 0, 1, 0, 0, 0), (50, .getfield 28, 3, 6, 1, 0), (53, .ireturn, 1, 0, 0, 0), (54, .aload_n 0, 1, 0, 0, 0), (55, .getfield 31, 3, 6, 2, 0), (58, .ireturn, 1, 0, 0, 0), (59, .aload_n 0, 1, 0, 0, 0), (60, .getfield 34, 3, 6, 3, 0), (63, .ireturn, 1, 0, 0, 0), (64, .aload_n 0, 1, 0, 0, 0), (65, .getfield 37, 3, 6, 4, 0), (68, .ireturn, 1, 0, 0, 0), (69, .aload_n 0, 1, 0, 0, 0), (70, .getfield 21, 3, 6, 6, 0), (73, .ireturn, 1, 0, 0, 0), (74, .aload_n 0, 1, 0, 0, 0), (75, .getfield 40, 3, 6, 5, 0), (78, .ireturn, 1, 0, 0, 0), (79, .iconst (-1), 1, 0, 0, (-1)), (80, .ireturn, 1, 0, 0, 0)]
-- 77: BootNet$Records.<init>()V
def xt_c77 : List (Nat × Jvm.ClassFile.Instr × Nat × Nat × Nat × Int32) := [(0, .aload_n 0, 1, 0, 0, 0), (1, .invokespecial 1, 3, 1, 0, 0), (4, .aload_n 0, 1, 0, 0, 0), (5, .bipush 16, 2, 0, 0, 16), (7, .newarray .int, 2, 0, 0, 0), (9, .putfield 9, 3, 7, 0, 0), (12, .aload_n 0, 1, 0, 0, 0), (13, .bipush 16, 2, 0, 0, 16), (15, .newarray .int, 2, 0, 0, 0), (17, .putfield 13, 3, 7, 1, 0), (20, .aload_n 0, 1, 0, 0, 0), (21, .bipush 16, 2, 0, 0, 16), (23, .newarray .int, 2, 0, 0, 0), (25, .putfield 16, 3, 7, 2, 0), (28, .return_, 1, 0, 0, 0)]
-- 78: BootNet$Records.add(IIII)Z
def xt_c78 : List (Nat × Jvm.ClassFile.Instr × Nat × Nat × Nat × Int32) := [(0, .aload_n 0, 1, 0, 0, 0), (1, .getfield 19, 3, 7, 3, 0), (4, .bipush 16, 2, 0, 0, 16), (6, .if_icmp .lt 9, 3, 15, 0, 0), (9, .aload_n 0, 1, 0, 0, 0), (10, .iload 4, 2, 4, 0, 0), (12, .invokevirtual 23, 3, 0, 79, 0), (15, .aload_n 0, 1, 0, 0, 0), (16, .getfield 19, 3, 7, 3, 0), (19, .bipush 16, 2, 0, 0, 16), (21, .if_icmp .lt 5, 3, 26, 0, 0), (24, .iconst 0, 1, 0, 0, 0), (25, .ireturn, 1, 0, 1, 0), (26, .aload_n 0, 1, 0, 0, 0), (27, .getfield 9, 3, 7, 0, 0), (30, .aload_n 0, 1, 0, 0, 0), (31, .getfield 19, 3, 7, 3, 0), (34, .iload_n 1, 1, 1, 0, 0), (35, .iastore, 1, 0, 0, 0), (36, .aload_n 0, 1, 0, 0, 0), (37, .getfield 13, 3, 7, 1, 0), (40, .aload_n 0, 1, 0, 0, 0), (41, .getfield 19, 3, 7, 3, 0), (44, .iload_n 2, 1, 2, 0, 0), (45, .iastore, 1, 0, 0, 0), (46, .aload_n 0, 1, 0, 0, 0), (47, .getfield 16, 3, 7, 2, 0), (50, .aload_n 0, 1, 0, 0, 0), (51, .getfield 19, 3, 7, 3, 0), (54, .iload_n 3, 1, 3, 0, 0), (55, .iastore, 1, 0, 0, 0), (56, .aload_n 0, 1, 0, 0, 0), (57, .dup, 1, 0, 0, 0), (58, .getfield 19, 3, 7, 3, 0), (61, .iconst 1, 1, 0, 0, 1), (62, .iadd, 1, 0, 0, 0), (63, .putfield 19, 3, 7, 3, 0), (66, .iconst 1, 1, 0, 0, 1), (67, .ireturn, 1, 0, 1, 0)]
-- 79: BootNet$Records.dropStale(I)V
def xt_c79 : List (Nat × Jvm.ClassFile.Instr × Nat × Nat × Nat × Int32) := [(0, .iconst 0, 1, 0, 0, 0), (1, .istore_n 2, 1, 2, 0, 0), (2, .iconst 0, 1, 0, 0, 0), (3, .istore_n 3, 1, 3, 0, 0), (4, .iload_n 3, 1, 3, 0, 0), (5, .aload_n 0, 1, 0, 0, 0), (6, .getfield 19, 3, 7, 3, 0), (9, .if_icmp .ge 66, 3, 75, 0, 0), (12, .aload_n 0, 1, 0, 0, 0), (13, .getfield 16, 3, 7, 2, 0), (16, .iload_n 3, 1, 3, 0, 0), (17, .iaload, 1, 0, 0, 0), (18, .iload_n 1, 1, 1, 0, 0), (19, .if_icmp .le 50, 3, 69, 0, 0), (22, .aload_n 0, 1, 0, 0, 0), (23, .iload_n 3, 1, 3, 0, 0), (24, .invokevirtual 27, 3, 0, 80, 0), (27, .ifCond .eq 42, 3, 69, 0, 0), (30, .aload_n 0, 1, 0, 0, 0), (31, .getfield 9, 3, 7, 0, 0), (34, .iload_n 2, 1, 2, 0, 0), (35, .aload_n 0, 1, 0, 0, 0), (36, .getfield 9, 3, 7, 0, 0), (39, .iload_n 3, 1, 3, 0, 0), (40, .iaload, 1, 0, 0, 0), (41, .iastore, 1, 0, 0, 0), (42, .aload_n 0, 1, 0, 0, 0), (43, .getfield 13, 3, 7, 1, 0), (46, .iload_n 2, 1, 2, 0, 0), (47, .aload_n 0, 1, 0, 0, 0), (48, .getfield 13, 3, 7, 1, 0), (51, .iload_n 3, 1, 3, 0, 0), (52, .iaload, 1, 0, 0, 0), (53, .iastore, 1, 0, 0, 0), (54, .aload_n 0, 1, 0, 0, 0), (55, .getfield 16, 3, 7, 2, 0), (58, .iload_n 2, 1, 2, 0, 0), (59, .aload_n 0, 1, 0, 0, 0), (60, .getfield 16, 3, 7, 2, 0), (63, .iload_n 3, 1, 3, 0, 0), (64, .iaload, 1, 0, 0, 0), (65, .iastore, 1, 0, 0, 0), (66, .iinc 2 1, 3, 2, 0, 1), (69, .iinc 3 1, 3, 3, 0, 1), (72, .goto (-68), 3, 4, 0, 0), (75, .aload_n 0, 1, 0, 0, 0), (76, .iload_n 2, 1, 2, 0, 0), (77, .putfield 19, 3, 7, 3, 0), (80, .return_, 1, 0, 0, 0)]
-- 80: BootNet$Records.isLatestOfAddress(I)Z
def xt_c80 : List (Nat × Jvm.ClassFile.Instr × Nat × Nat × Nat × Int32) := [(0, .iload_n 1, 1, 1, 0, 0), (1, .iconst 1, 1, 0, 0, 1), (2, .iadd, 1, 0, 0, 0), (3, .istore_n 2, 1, 2, 0, 0), (4, .iload_n 2, 1, 2, 0, 0), (5, .aload_n 0, 1, 0, 0, 0), (6, .getfield 19, 3, 7, 3, 0), (9, .if_icmp .ge 26, 3, 35, 0, 0), (12, .aload_n 0, 1, 0, 0, 0), (13, .getfield 9, 3, 7, 0, 0), (16, .iload_n 2, 1, 2, 0, 0), (17, .iaload, 1, 0, 0, 0), (18, .aload_n 0, 1, 0, 0, 0), (19, .getfield 9, 3, 7, 0, 0), (22, .iload_n 1, 1, 1, 0, 0), (23, .iaload, 1, 0, 0, 0), (24, .if_icmp .ne 5, 3, 29, 0, 0), (27, .iconst 0, 1, 0, 0, 0), (28, .ireturn, 1, 0, 1, 0), (29, .iinc 2 1, 3, 2, 0, 1), (32, .goto (-28), 3, 4, 0, 0), (35, .iconst 1, 1, 0, 0, 1), (36, .ireturn, 1, 0, 1, 0)]
-- 81: BootNet$Server.<init>(LBootNet$Ground;LBootNet$Wire;LBootNet$Layout;LBootNet$Library;)V
def xt_c81 : List (Nat × Jvm.ClassFile.Instr × Nat × Nat × Nat × Int32) := [(0, .aload_n 0, 1, 0, 0, 0), (1, .invokespecial 3, 3, 1, 0, 0), (4, .aload_n 0, 1, 0, 0, 0), (5, .bipush 6, 2, 0, 0, 6), (7, .anewarray 11, 3, 5, 0, 0), (10, .putfield 13, 3, 8, 4, 0), (13, .aload_n 0, 1, 0, 0, 0), (14, .new 19, 3, 7, 4, 0), (17, .dup, 1, 0, 0, 0), (18, .invokespecial 21, 3, 5, 77, 0), (21, .putfield 22, 3, 8, 6, 0), (24, .aload_n 0, 1, 0, 0, 0), (25, .aload_n 1, 1, 1, 0, 0), (26, .putfield 26, 3, 8, 0, 0), (29, .aload_n 0, 1, 0, 0, 0), (30, .aload_n 2, 1, 2, 0, 0), (31, .putfield 30, 3, 8, 1, 0), (34, .aload_n 0, 1, 0, 0, 0), (35, .aload_n 3, 1, 3, 0, 0), (36, .putfield 34, 3, 8, 2, 0), (39, .aload_n 0, 1, 0, 0, 0), (40, .aload 4, 2, 4, 0, 0), (42, .putfield 38, 3, 8, 3, 0), (45, .aload_n 0, 1, 0, 0, 0), (46, .new 42, 3, 1, 7, 0), (49, .dup, 1, 0, 0, 0), (50, .aload_n 1, 1, 1, 0, 0), (51, .aload_n 3, 1, 3, 0, 0), (52, .invokespecial 44, 3, 7, 21, 0), (55, .putfield 47, 3, 8, 5, 0), (58, .iconst 0, 1, 0, 0, 0), (59, .istore 5, 2, 5, 0, 0), (61, .iload 5, 2, 5, 0, 0), (63, .aload_n 0, 1, 0, 0, 0), (64, .getfield 13, 3, 8, 4, 0), (67, .arraylength, 1, 0, 0, 0), (68, .if_icmp .ge 23, 3, 91, 0, 0), (71, .aload_n 0, 1, 0, 0, 0), (72, .getfield 13, 3, 8, 4, 0), (75, .iload 5, 2, 5, 0, 0), (77, .new 11, 3, 10, 6, 0), (80, .dup, 1, 0, 0, 0), (81, .invokespecial 51, 3, 5, 114, 0), (84, .aastore, 1, 0, 0, 0), (85, .iinc 5 1, 3, 5, 0, 1), (88, .goto (-27), 3, 61, 0, 0), (91, .return_, 1, 0, 0, 0)]
-- 82: BootNet$Server.receive(LBootNet$Message;)V
def xt_c82 : List (Nat × Jvm.ClassFile.Instr × Nat × Nat × Nat × Int32) := [(0, .aload_n 1, 1, 1, 0, 0), (1, .getfield 52, 3, 6, 0, 0), (4, .tableswitch 100 0 10 #[60, 100, 68, 100, 100, 76, 100, 100, 84, 100, 92], 60, 104, 0, 0), (64, .aload_n 0, 1, 0, 0, 0), (65, .aload_n 1, 1, 1, 0, 0), (66, .invokevirtual 58, 3, 0, 85, 0), (69, .goto 35, 3, 104, 0, 0), (72, .aload_n 0, 1, 0, 0, 0), (73, .aload_n 1, 1, 1, 0, 0), (74, .invokevirtual 62, 3, 0, 89, 0), (77, .goto 27, 3, 104, 0, 0), (80, .aload_n 0, 1, 0, 0, 0), (81, .aload_n 1, 1, 1, 0, 0), (82, .invokevirtual 65, 3, 0, 92, 0), (85, .goto 19, 3, 104, 0, 0), (88, .aload_n 0, 1, 0, 0, 0), (89, .aload_n 1, 1, 1, 0, 0), (90, .invokevirtual 68, 3, 0, 93, 0), (93, .goto 11, 3, 104, 0, 0), (96, .aload_n 0, 1, 0, 0, 0), (97, .aload_n 1, 1, 1, 0, 0), (98, .invokevirtual 71, 3, 0, 94, 0), (101, .goto 3, 3, 104, 0, 0), (104, .return_, 1, 0, 0, 0)]
-- 83: BootNet$Server.startAnew()I
def xt_c83 : List (Nat × Jvm.ClassFile.Instr × Nat × Nat × Nat × Int32) := [(0, .aload_n 0, 1, 0, 0, 0), (1, .getfield 47, 3, 8, 5, 0), (4, .invokevirtual 74, 3, 0, 22, 0), (7, .iconst 0, 1, 0, 0, 0), (8, .istore_n 1, 1, 1, 0, 0), (9, .iload_n 1, 1, 1, 0, 0), (10, .aload_n 0, 1, 0, 0, 0), (11, .getfield 13, 3, 8, 4, 0), (14, .arraylength, 1, 0, 0, 0), (15, .if_icmp .ge 19, 3, 34, 0, 0), (18, .aload_n 0, 1, 0, 0, 0), (19, .getfield 13, 3, 8, 4, 0), (22, .iload_n 1, 1, 1, 0, 0), (23, .aaload, 1, 0, 0, 0), (24, .iconst 0, 1, 0, 0, 0), (25, .putfield 77, 3, 10, 0, 0), (28, .iinc 1 1, 3, 1, 0, 1), (31, .goto (-22), 3, 9, 0, 0), (34, .iconst 0, 1, 0, 0, 0), (35, .istore_n 1, 1, 1, 0, 0), (36, .iload_n 1, 1, 1, 0, 0), (37, .aload_n 0, 1, 0, 0, 0), (38, .getfield 22, 3, 8, 6, 0), (41, .getfield 81, 3, 7, 3, 0), (44, .if_icmp .ge 43, 3, 87, 0, 0), (47, .aload_n 0, 1, 0, 0, 0), (48, .getfield 47, 3, 8, 5, 0), (51, .aload_n 0, 1, 0, 0, 0), (52, .getfield 22, 3, 8, 6, 0), (55, .getfield 84, 3, 7, 0, 0), (58, .iload_n 1, 1, 1, 0, 0), (59, .iaload, 1, 0, 0, 0), (60, .aload_n 0, 1, 0, 0, 0), (61, .getfield 22, 3, 8, 6, 0), (64, .getfield 88, 3, 7, 1, 0), (67, .iload_n 1, 1, 1, 0, 0), (68, .iaload, 1, 0, 0, 0), (69, .aload_n 0, 1, 0, 0, 0), (70, .getfield 22, 3, 8, 6, 0), (73, .getfield 91, 3, 7, 2, 0), (76, .iload_n 1, 1, 1, 0, 0), (77, .iaload, 1, 0, 0, 0), (78, .invokevirtual 94, 3, 0, 27, 0), (81, .iinc 1 1, 3, 1, 0, 1), (84, .goto (-48), 3, 36, 0, 0), (87, .aload_n 0, 1, 0, 0, 0), (88, .getfield 22, 3, 8, 6, 0), (91, .getfield 81, 3, 7, 3, 0), (94, .ireturn, 1, 0, 0, 0)]
-- 84: BootNet$Server.repeatDueBlocks()V
def xt_c84 : List (Nat × Jvm.ClassFile.Instr × Nat × Nat × Nat × Int32) := [(0, .iconst 0, 1, 0, 0, 0), (1, .istore_n 1, 1, 1, 0, 0), (2, .iload_n 1, 1, 1, 0, 0), (3, .aload_n 0, 1, 0, 0, 0), (4, .getfield 34, 3, 8, 2, 0), (7, .getfield 98, 3, 3, 5, 0), (10, .if_icmp .ge 75, 3, 85, 0, 0), (13, .aload_n 0, 1, 0, 0, 0), (14, .getfield 13, 3, 8, 4, 0), (17, .iload_n 1, 1, 1, 0, 0), (18, .aaload, 1, 0, 0, 0), (19, .astore_n 2, 1, 2, 0, 0), (20, .aload_n 2, 1, 2, 0, 0), (21, .getfield 77, 3, 10, 0, 0), (24, .ifCond .eq 55, 3, 79, 0, 0), (27, .aload_n 0, 1, 0, 0, 0), (28, .getfield 26, 3, 8, 0, 0), (31, .getfield 101, 3, 2, 3, 0), (34, .aload_n 2, 1, 2, 0, 0), (35, .getfield 106, 3, 10, 4, 0), (38, .if_icmp .lt 41, 3, 79, 0, 0), (41, .aload_n 2, 1, 2, 0, 0), (42, .getfield 109, 3, 10, 3, 0), (45, .aload_n 0, 1, 0, 0, 0), (46, .getfield 26, 3, 8, 0, 0), (49, .getfield 112, 3, 2, 1, 0), (52, .if_icmp .lt 11, 3, 63, 0, 0), (55, .aload_n 2, 1, 2, 0, 0), (56, .iconst 0, 1, 0, 0, 0), (57, .putfield 77, 3, 10, 0, 0), (60, .goto 19, 3, 79, 0, 0), (63, .aload_n 2, 1, 2, 0, 0), (64, .dup, 1, 0, 0, 0), (65, .getfield 109, 3, 10, 3, 0), (68, .iconst 1, 1, 0, 0, 1), (69, .iadd, 1, 0, 0, 0), (70, .putfield 109, 3, 10, 3, 0), (73, .aload_n 0, 1, 0, 0, 0), (74, .iload_n 1, 1, 1, 0, 0), (75, .aload_n 2, 1, 2, 0, 0), (76, .invokevirtual 115, 3, 0, 95, 0), (79, .iinc 1 1, 3, 1, 0, 1), (82, .goto (-80), 3, 2, 0, 0), (85, .return_, 1, 0, 0, 0)]
-- 85: BootNet$Server.onDiscover(LBootNet$Message;)V
def xt_c85 : List (Nat × Jvm.ClassFile.Instr × Nat × Nat × Nat × Int32) := [(0, .aload_n 0, 1, 0, 0, 0), (1, .aload_n 1, 1, 1, 0, 0), (2, .getfield 119, 3, 6, 1, 0), (5, .invokevirtual 122, 3, 0, 86, 0), (8, .istore_n 2, 1, 2, 0, 0), (9, .iload_n 2, 1, 2, 0, 0), (10, .ifCond .ne 12, 3, 22, 0, 0), (13, .aload_n 0, 1, 0, 0, 0), (14, .aload_n 1, 1, 1, 0, 0), (15, .getfield 119, 3, 6, 1, 0), (18, .invokevirtual 126, 3, 0, 87, 0), (21, .istore_n 2, 1, 2, 0, 0), (22, .iload_n 2, 1, 2, 0, 0), (23, .ifCond .ne 12, 3, 35, 0, 0), (26, .aload_n 0, 1, 0, 0, 0), (27, .aload_n 1, 1, 1, 0, 0), (28, .getfield 119, 3, 6, 1, 0), (31, .invokevirtual 129, 3, 0, 88, 0), (34, .istore_n 2, 1, 2, 0, 0), (35, .iload_n 2, 1, 2, 0, 0), (36, .ifCond .eq 41, 3, 77, 0, 0), (39, .aload_n 0, 1, 0, 0, 0), (40, .getfield 47, 3, 8, 5, 0), (43, .iload_n 2, 1, 2, 0, 0), (44, .aload_n 1, 1, 1, 0, 0), (45, .getfield 119, 3, 6, 1, 0), (48, .aload_n 0, 1, 0, 0, 0), (49, .getfield 26, 3, 8, 0, 0), (52, .getfield 101, 3, 2, 3, 0), (55, .bipush 6, 2, 0, 0, 6), (57, .iadd, 1, 0, 0, 0), (58, .invokevirtual 132, 3, 0, 28, 0), (61, .aload_n 0, 1, 0, 0, 0), (62, .iconst 1, 1, 0, 0, 1), (63, .aload_n 1, 1, 1, 0, 0), (64, .getfield 119, 3, 6, 1, 0), (67, .aload_n 1, 1, 1, 0, 0), (68, .getfield 135, 3, 6, 2, 0), (71, .iload_n 2, 1, 2, 0, 0), (72, .iconst 0, 1, 0, 0, 0), (73, .invokevirtual 138, 3, 0, 96, 0), (76, .pop, 1, 0, 0, 0), (77, .return_, 1, 0, 0, 0)]
-- 86: BootNet$Server.leasedChoice(I)I
def xt_c86 : List (Nat × Jvm.ClassFile.Instr × Nat × Nat × Nat × Int32) := [(0, .iconst 1, 1, 0, 0, 1), (1, .istore_n 2, 1, 2, 0, 0), (2, .iload_n 2, 1, 2, 0, 0), (3, .bipush 30, 2, 0, 0, 30), (5, .if_icmp .ge 35, 3, 40, 0, 0), (8, .aload_n 0, 1, 0, 0, 0), (9, .getfield 47, 3, 8, 5, 0), (12, .iload_n 2, 1, 2, 0, 0), (13, .invokevirtual 142, 3, 0, 23, 0), (16, .iload_n 1, 1, 1, 0, 0), (17, .if_icmp .ne 17, 3, 34, 0, 0), (20, .aload_n 0, 1, 0, 0, 0), (21, .getfield 47, 3, 8, 5, 0), (24, .iload_n 2, 1, 2, 0, 0), (25, .iload_n 1, 1, 1, 0, 0), (26, .invokevirtual 145, 3, 0, 26, 0), (29, .ifCond .eq 5, 3, 34, 0, 0), (32, .iload_n 2, 1, 2, 0, 0), (33, .ireturn, 1, 0, 0, 0), (34, .iinc 2 1, 3, 2, 0, 1), (37, .goto (-35), 3, 2, 0, 0), (40, .iconst 0, 1, 0, 0, 0), (41, .ireturn, 1, 0, 0, 0)]
-- 87: BootNet$Server.reservedChoice(I)I
def xt_c87 : List (Nat × Jvm.ClassFile.Instr × Nat × Nat × Nat × Int32) := [(0, .aload_n 0, 1, 0, 0, 0), (1, .getfield 34, 3, 8, 2, 0), (4, .iload_n 1, 1, 1, 0, 0), (5, .invokevirtual 149, 3, 0, 42, 0), (8, .istore_n 2, 1, 2, 0, 0), (9, .iload_n 2, 1, 2, 0, 0), (10, .ifCond .eq 19, 3, 29, 0, 0), (13, .aload_n 0, 1, 0, 0, 0), (14, .getfield 47, 3, 8, 5, 0), (17, .iload_n 2, 1, 2, 0, 0), (18, .iload_n 1, 1, 1, 0, 0), (19, .invokevirtual 145, 3, 0, 26, 0), (22, .ifCond .eq 7, 3, 29, 0, 0), (25, .iconst 1, 1, 0, 0, 1), (26, .goto 4, 3, 30, 0, 0), (29, .iconst 0, 1, 0, 0, 0), (30, .istore_n 3, 1, 3, 0, 0), (31, .iload_n 3, 1, 3, 0, 0), (32, .ifCond .eq 7, 3, 39, 0, 0), (35, .iload_n 2, 1, 2, 0, 0), (36, .goto 4, 3, 40, 0, 0), (39, .iconst 0, 1, 0, 0, 0), (40, .ireturn, 1, 0, 0, 0)]
-- 88: BootNet$Server.poolChoice(I)I
def xt_c88 : List (Nat × Jvm.ClassFile.Instr × Nat × Nat × Nat × Int32) := [(0, .aload_n 0, 1, 0, 0, 0), (1, .getfield 34, 3, 8, 2, 0), (4, .iload_n 1, 1, 1, 0, 0), (5, .invokevirtual 152, 3, 0, 47, 0), (8, .ifCond .ne 5, 3, 13, 0, 0), (11, .iconst 0, 1, 0, 0, 0), (12, .ireturn, 1, 0, 0, 0), (13, .aload_n 0, 1, 0, 0, 0), (14, .getfield 34, 3, 8, 2, 0), (17, .iload_n 1, 1, 1, 0, 0), (18, .invokevirtual 156, 3, 0, 49, 0), (21, .istore_n 2, 1, 2, 0, 0), (22, .aload_n 0, 1, 0, 0, 0), (23, .getfield 34, 3, 8, 2, 0), (26, .iload_n 1, 1, 1, 0, 0), (27, .invokevirtual 159, 3, 0, 48, 0), (30, .istore_n 3, 1, 3, 0, 0), (31, .iload_n 3, 1, 3, 0, 0), (32, .iload_n 2, 1, 2, 0, 0), (33, .if_icmp .gt 23, 3, 56, 0, 0), (36, .aload_n 0, 1, 0, 0, 0), (37, .getfield 47, 3, 8, 5, 0), (40, .iload_n 3, 1, 3, 0, 0), (41, .iload_n 1, 1, 1, 0, 0), (42, .invokevirtual 145, 3, 0, 26, 0), (45, .ifCond .eq 5, 3, 50, 0, 0), (48, .iload_n 3, 1, 3, 0, 0), (49, .ireturn, 1, 0, 0, 0), (50, .iinc 3 1, 3, 3, 0, 1), (53, .goto (-22), 3, 31, 0, 0), (56, .iconst 0, 1, 0, 0, 0), (57, .ireturn, 1, 0, 0, 0)]
-- 89: BootNet$Server.onRequest(LBootNet$Message;)V
def xt_c89 : List (Nat × Jvm.ClassFile.Instr × Nat × Nat × Nat × Int32) := [(0, .aload_n 0, 1, 0, 0, 0), (1, .aload_n 1, 1, 1, 0, 0), (2, .getfield 162, 3, 6, 3, 0), (5, .aload_n 1, 1, 1, 0, 0), (6, .getfield 119, 3, 6, 1, 0), (9, .invokevirtual 165, 3, 0, 90, 0), (12, .ifCond .eq 51, 3, 63, 0, 0), (15, .aload_n 0, 1, 0, 0, 0), (16, .aload_n 1, 1, 1, 0, 0), (17, .getfield 162, 3, 6, 3, 0), (20, .aload_n 1, 1, 1, 0, 0), (21, .getfield 119, 3, 6, 1, 0), (24, .invokevirtual 168, 3, 0, 91, 0), (27, .ifCond .eq 36, 3, 63, 0, 0), (30, .aload_n 0, 1, 0, 0, 0), (31, .getfield 47, 3, 8, 5, 0), (34, .aload_n 1, 1, 1, 0, 0), (35, .getfield 162, 3, 6, 3, 0), (38, .invokevirtual 171, 3, 0, 29, 0), (41, .aload_n 0, 1, 0, 0, 0), (42, .iconst 3, 1, 0, 0, 3), (43, .aload_n 1, 1, 1, 0, 0), (44, .getfield 119, 3, 6, 1, 0), (47, .aload_n 1, 1, 1, 0, 0), (48, .getfield 135, 3, 6, 2, 0), (51, .aload_n 1, 1, 1, 0, 0), (52, .getfield 162, 3, 6, 3, 0), (55, .iconst 0, 1, 0, 0, 0), (56, .invokevirtual 138, 3, 0, 96, 0), (59, .pop, 1, 0, 0, 0), (60, .goto 22, 3, 82, 0, 0), (63, .aload_n 0, 1, 0, 0, 0), (64, .iconst 4, 1, 0, 0, 4), (65, .aload_n 1, 1, 1, 0, 0), (66, .getfield 119, 3, 6, 1, 0), (69, .aload_n 1, 1, 1, 0, 0), (70, .getfield 135, 3, 6, 2, 0), (73, .aload_n 1, 1, 1, 0, 0), (74, .getfield 162, 3, 6, 3, 0), (77, .iconst 0, 1, 0, 0, 0), (78, .invokevirtual 138, 3, 0, 96, 0), (81, .pop, 1, 0, 0, 0), (82, .return_, 1, 0, 0, 0)]
-- 90: BootNet$Server.mayHave(II)Z
def xt_c90 : List (Nat × Jvm.ClassFile.Instr × Nat × Nat × Nat × Int32) := [(0, .iload_n 1, 1, 1, 0, 0), (1, .invokestatic 175, 3, 6, 36, 0), (4, .ifCond .eq 42, 3, 46, 0, 0), (7, .aload_n 0, 1, 0, 0, 0), (8, .getfield 47, 3, 8, 5, 0), (11, .iload_n 1, 1, 1, 0, 0), (12, .invokevirtual 178, 3, 0, 25, 0), (15, .ifCond .ne 31, 3, 46, 0, 0), (18, .aload_n 0, 1, 0, 0, 0), (19, .getfield 47, 3, 8, 5, 0), (22, .iload_n 1, 1, 1, 0, 0), (23, .invokevirtual 142, 3, 0, 23, 0), (26, .iload_n 2, 1, 2, 0, 0), (27, .if_icmp .eq 15, 3, 42, 0, 0), (30, .aload_n 0, 1, 0, 0, 0), (31, .getfield 47, 3, 8, 5, 0), (34, .iload_n 1, 1, 1, 0, 0), (35, .invokevirtual 181, 3, 0, 24, 0), (38, .iload_n 2, 1, 2, 0, 0), (39, .if_icmp .ne 7, 3, 46, 0, 0), (42, .iconst 1, 1, 0, 0, 1), (43, .goto 4, 3, 47, 0, 0), (46, .iconst 0, 1, 0, 0, 0), (47, .ireturn, 1, 0, 1, 0)]
-- 91: BootNet$Server.recordLease(II)Z
def xt_c91 : List (Nat × Jvm.ClassFile.Instr × Nat × Nat × Nat × Int32) := [(0, .aload_n 0, 1, 0, 0, 0), (1, .getfield 26, 3, 8, 0, 0), (4, .getfield 101, 3, 2, 3, 0), (7, .aload_n 0, 1, 0, 0, 0), (8, .getfield 26, 3, 8, 0, 0), (11, .getfield 184, 3, 2, 0, 0), (14, .iadd, 1, 0, 0, 0), (15, .istore_n 3, 1, 3, 0, 0), (16, .aload_n 0, 1, 0, 0, 0), (17, .getfield 22, 3, 8, 6, 0), (20, .iload_n 1, 1, 1, 0, 0), (21, .iload_n 2, 1, 2, 0, 0), (22, .iload_n 3, 1, 3, 0, 0), (23, .aload_n 0, 1, 0, 0, 0), (24, .getfield 26, 3, 8, 0, 0), (27, .getfield 101, 3, 2, 3, 0), (30, .invokevirtual 187, 3, 0, 78, 0), (33, .ifCond .ne 5, 3, 38, 0, 0), (36, .iconst 0, 1, 0, 0, 0), (37, .ireturn, 1, 0, 1, 0), (38, .aload_n 0, 1, 0, 0, 0), (39, .getfield 47, 3, 8, 5, 0), (42, .iload_n 1, 1, 1, 0, 0), (43, .iload_n 2, 1, 2, 0, 0), (44, .iload_n 3, 1, 3, 0, 0), (45, .invokevirtual 94, 3, 0, 27, 0), (48, .iconst 1, 1, 0, 0, 1), (49, .ireturn, 1, 0, 1, 0)]
-- 92: BootNet$Server.onDecline(LBootNet$Message;)V
def xt_c92 : List (Nat × Jvm.ClassFile.Instr × Nat × Nat × Nat × Int32) := [(0, .aload_n 1, 1, 1, 0, 0), (1, .getfield 162, 3, 6, 3, 0), (4, .invokestatic 175, 3, 6, 36, 0), (7, .ifCond .eq 47, 3, 54, 0, 0), (10, .aload_n 0, 1, 0, 0, 0), (11, .getfield 47, 3, 8, 5, 0), (14, .aload_n 1, 1, 1, 0, 0), (15, .getfield 162, 3, 6, 3, 0), (18, .invokevirtual 142, 3, 0, 23, 0), (21, .aload_n 1, 1, 1, 0, 0), (22, .getfield 119, 3, 6, 1, 0), (25, .if_icmp .ne 29, 3, 54, 0, 0), (28, .aload_n 0, 1, 0, 0, 0), (29, .getfield 47, 3, 8, 5, 0), (32, .aload_n 1, 1, 1, 0, 0), (33, .getfield 162, 3, 6, 3, 0), (36, .aload_n 0, 1, 0, 0, 0), (37, .getfield 26, 3, 8, 0, 0), (40, .getfield 101, 3, 2, 3, 0), (43, .aload_n 0, 1, 0, 0, 0), (44, .getfield 26, 3, 8, 0, 0), (47, .getfield 184, 3, 2, 0, 0), (50, .iadd, 1, 0, 0, 0), (51, .invokevirtual 191, 3, 0, 30, 0), (54, .return_, 1, 0, 0, 0)]
-- 93: BootNet$Server.onRead(LBootNet$Message;)V
def xt_c93 : List (Nat × Jvm.ClassFile.Instr × Nat × Nat × Nat × Int32) := [(0, .aload_n 0, 1, 0, 0, 0), (1, .getfield 38, 3, 8, 3, 0), (4, .aload_n 1, 1, 1, 0, 0), (5, .getfield 162, 3, 6, 3, 0), (8, .invokevirtual 195, 3, 0, 55, 0), (11, .ifCond .ne 21, 3, 32, 0, 0), (14, .aload_n 0, 1, 0, 0, 0), (15, .bipush 11, 2, 0, 0, 11), (17, .aload_n 1, 1, 1, 0, 0), (18, .getfield 119, 3, 6, 1, 0), (21, .iconst 0, 1, 0, 0, 0), (22, .aload_n 1, 1, 1, 0, 0), (23, .getfield 162, 3, 6, 3, 0), (26, .iconst 0, 1, 0, 0, 0), (27, .invokevirtual 138, 3, 0, 96, 0), (30, .pop, 1, 0, 0, 0), (31, .return_, 1, 0, 0, 0), (32, .aload_n 0, 1, 0, 0, 0), (33, .getfield 13, 3, 8, 4, 0), (36, .aload_n 1, 1, 1, 0, 0), (37, .getfield 119, 3, 6, 1, 0), (40, .aaload, 1, 0, 0, 0), (41, .astore_n 2, 1, 2, 0, 0), (42, .aload_n 2, 1, 2, 0, 0), (43, .iconst 1, 1, 0, 0, 1), (44, .putfield 77, 3, 10, 0, 0), (47, .aload_n 2, 1, 2, 0, 0), (48, .aload_n 1, 1, 1, 0, 0), (49, .getfield 162, 3, 6, 3, 0), (52, .putfield 200, 3, 10, 1, 0), (55, .aload_n 2, 1, 2, 0, 0), (56, .iconst 1, 1, 0, 0, 1), (57, .putfield 203, 3, 10, 2, 0), (60, .aload_n 2, 1, 2, 0, 0), (61, .iconst 1, 1, 0, 0, 1), (62, .putfield 109, 3, 10, 3, 0), (65, .aload_n 0, 1, 0, 0, 0), (66, .aload_n 1, 1, 1, 0, 0), (67, .getfield 119, 3, 6, 1, 0), (70, .aload_n 2, 1, 2, 0, 0), (71, .invokevirtual 115, 3, 0, 95, 0), (74, .return_, 1, 0, 0, 0)]
-- 94: BootNet$Server.onGot(LBootNet$Message;)V
def xt_c94 : List (Nat × Jvm.ClassFile.Instr × Nat × Nat × Nat × Int32) := [(0, .aload_n 0, 1, 0, 0, 0), (1, .getfield 13, 3, 8, 4, 0), (4, .aload_n 1, 1, 1, 0, 0), (5, .getfield 119, 3, 6, 1, 0), (8, .aaload, 1, 0, 0, 0), (9, .astore_n 2, 1, 2, 0, 0), (10, .aload_n 2, 1, 2, 0, 0), (11, .getfield 77, 3, 10, 0, 0), (14, .ifCond .eq 25, 3, 39, 0, 0), (17, .aload_n 2, 1, 2, 0, 0), (18, .getfield 200, 3, 10, 1, 0), (21, .aload_n 1, 1, 1, 0, 0), (22, .getfield 162, 3, 6, 3, 0), (25, .if_icmp .ne 14, 3, 39, 0, 0), (28, .aload_n 2, 1, 2, 0, 0), (29, .getfield 203, 3, 10, 2, 0), (32, .aload_n 1, 1, 1, 0, 0), (33, .getfield 206, 3, 6, 4, 0), (36, .if_icmp .eq 4, 3, 40, 0, 0), (39, .return_, 1, 0, 0, 0), (40, .aload_n 2, 1, 2, 0, 0), (41, .getfield 207, 3, 10, 5, 0), (44, .aload_n 0, 1, 0, 0, 0), (45, .getfield 26, 3, 8, 0, 0), (48, .getfield 210, 3, 2, 2, 0), (51, .if_icmp .ge 11, 3, 62, 0, 0), (54, .aload_n 2, 1, 2, 0, 0), (55, .iconst 0, 1, 0, 0, 0), (56, .putfield 77, 3, 10, 0, 0), (59, .goto 27, 3, 86, 0, 0), (62, .aload_n 2, 1, 2, 0, 0), (63, .dup, 1, 0, 0, 0), (64, .getfield 203, 3, 10, 2, 0), (67, .iconst 1, 1, 0, 0, 1), (68, .iadd, 1, 0, 0, 0), (69, .putfield 203, 3, 10, 2, 0), (72, .aload_n 2, 1, 2, 0, 0), (73, .iconst 1, 1, 0, 0, 1), (74, .putfield 109, 3, 10, 3, 0), (77, .aload_n 0, 1, 0, 0, 0), (78, .aload_n 1, 1, 1, 0, 0), (79, .getfield 119, 3, 6, 1, 0), (82, .aload_n 2, 1, 2, 0, 0), (83, .invokevirtual 115, 3, 0, 95, 0), (86, .return_, 1, 0, 0, 0)]
-- 95: BootNet$Server.sendBlock(ILBootNet$Transfer;)V
def xt_c95 : List (Nat × Jvm.ClassFile.Instr × Nat × Nat × Nat × Int32) := [(0, .aload_n 0, 1, 0, 0, 0), (1, .bipush 9, 2, 0, 0, 9), (3, .iload_n 1, 1, 1, 0, 0), (4, .iconst 0, 1, 0, 0, 0), (5, .aload_n 2, 1, 2, 0, 0), (6, .getfield 200, 3, 10, 1, 0), (9, .aload_n 2, 1, 2, 0, 0), (10, .getfield 203, 3, 10, 2, 0), (13, .invokevirtual 138, 3, 0, 96, 0), (16, .astore_n 3, 1, 3, 0, 0), (17, .aload_n 0, 1, 0, 0, 0), (18, .getfield 38, 3, 8, 3, 0), (21, .aload_n 2, 1, 2, 0, 0), (22, .getfield 200, 3, 10, 1, 0), (25, .aload_n 2, 1, 2, 0, 0), (26, .getfield 203, 3, 10, 2, 0), (29, .aload_n 0, 1, 0, 0, 0), (30, .getfield 26, 3, 8, 0, 0), (33, .getfield 210, 3, 2, 2, 0), (36, .aload_n 3, 1, 3, 0, 0), (37, .invokevirtual 213, 3, 0, 56, 0), (40, .aload_n 2, 1, 2, 0, 0), (41, .aload_n 3, 1, 3, 0, 0), (42, .getfield 217, 3, 6, 6, 0), (45, .putfield 207, 3, 10, 5, 0), (48, .aload_n 2, 1, 2, 0, 0), (49, .aload_n 0, 1, 0, 0, 0), (50, .getfield 26, 3, 8, 0, 0), (53, .getfield 101, 3, 2, 3, 0), (56, .iconst 3, 1, 0, 0, 3), (57, .iadd, 1, 0, 0, 0), (58, .putfield 106, 3, 10, 4, 0), (61, .return_, 1, 0, 0, 0)]
-- 96: BootNet$Server.send(IIIII)LBootNet$Message;
def xt_c96 : List (Nat × Jvm.ClassFile.Instr × Nat × Nat × Nat × Int32) := [(0, .aload_n 0, 1, 0, 0, 0), (1, .getfield 34, 3, 8, 2, 0), (4, .iload_n 2, 1, 2, 0, 0), (5, .invokevirtual 220, 3, 0, 46, 0), (8, .ifCond .eq 7, 3, 15, 0, 0), (11, .iconst 1, 1, 0, 0, 1), (12, .goto 4, 3, 16, 0, 0), (15, .iconst 0, 1, 0, 0, 0), (16, .istore 6, 2, 6, 0, 0), (18, .aload_n 0, 1, 0, 0, 0), (19, .getfield 30, 3, 8, 1, 0), (22, .iload_n 1, 1, 1, 0, 0), (23, .iload_n 2, 1, 2, 0, 0), (24, .iload 6, 2, 6, 0, 0), (26, .iload_n 3, 1, 3, 0, 0), (27, .iload 4, 2, 4, 0, 0), (29, .iload 5, 2, 5, 0, 0), (31, .invokevirtual 223, 3, 0, 117, 0), (34, .areturn, 1, 0, 0, 0)]
-- 97: BootNet$Station.<init>(ILBootNet$Ground;LBootNet$Wire;LBootNet$Library;)V
def xt_c97 : List (Nat × Jvm.ClassFile.Instr × Nat × Nat × Nat × Int32) := [(0, .aload_n 0, 1, 0, 0, 0), (1, .invokespecial 3, 3, 1, 0, 0), (4, .aload_n 0, 1, 0, 0, 0), (5, .iconst 0, 1, 0, 0, 0), (6, .putfield 11, 3, 9, 4, 0), (9, .aload_n 0, 1, 0, 0, 0), (10, .iconst 0, 1, 0, 0, 0), (11, .putfield 17, 3, 9, 5, 0), (14, .aload_n 0, 1, 0, 0, 0), (15, .iload_n 1, 1, 1, 0, 0), (16, .putfield 20, 3, 9, 0, 0), (19, .aload_n 0, 1, 0, 0, 0), (20, .aload_n 2, 1, 2, 0, 0), (21, .putfield 23, 3, 9, 1, 0), (24, .aload_n 0, 1, 0, 0, 0), (25, .aload_n 3, 1, 3, 0, 0), (26, .putfield 27, 3, 9, 2, 0), (29, .aload_n 0, 1, 0, 0, 0), (30, .new 31, 3, 5, 12, 0), (33, .dup, 1, 0, 0, 0), (34, .iload_n 1, 1, 1, 0, 0), (35, .aload_n 2, 1, 2, 0, 0), (36, .aload_n 3, 1, 3, 0, 0), (37, .aload 4, 2, 4, 0, 0), (39, .invokespecial 33, 3, 7, 59, 0), (42, .putfield 36, 3, 9, 3, 0), (45, .return_, 1, 0, 0, 0)]
-- 98: BootNet$Station.holds()Z
def xt_c98 : List (Nat × Jvm.ClassFile.Instr × Nat × Nat × Nat × Int32) := [(0, .aload_n 0, 1, 0, 0, 0), (1, .getfield 11, 3, 9, 4, 0), (4, .iconst 4, 1, 0, 0, 4), (5, .if_icmp .eq 20, 3, 25, 0, 0), (8, .aload_n 0, 1, 0, 0, 0), (9, .getfield 11, 3, 9, 4, 0), (12, .iconst 5, 1, 0, 0, 5), (13, .if_icmp .eq 12, 3, 25, 0, 0), (16, .aload_n 0, 1, 0, 0, 0), (17, .getfield 11, 3, 9, 4, 0), (20, .bipush 6, 2, 0, 0, 6), (22, .if_icmp .ne 7, 3, 29, 0, 0), (25, .iconst 1, 1, 0, 0, 1), (26, .goto 4, 3, 30, 0, 0), (29, .iconst 0, 1, 0, 0, 0), (30, .ireturn, 1, 0, 1, 0)]
-- 99: BootNet$Station.restart()V
def xt_c99 : List (Nat × Jvm.ClassFile.Instr × Nat × Nat × Nat × Int32) := [(0, .aload_n 0, 1, 0, 0, 0), (1, .iconst 0, 1, 0, 0, 0), (2, .putfield 40, 3, 9, 8, 0), (5, .aload_n 0, 1, 0, 0, 0), (6, .iconst 0, 1, 0, 0, 0), (7, .putfield 43, 3, 9, 11, 0), (10, .aload_n 0, 1, 0, 0, 0), (11, .getfield 36, 3, 9, 3, 0), (14, .invokevirtual 46, 3, 0, 60, 0), (17, .aload_n 0, 1, 0, 0, 0), (18, .invokevirtual 49, 3, 0, 103, 0), (21, .return_, 1, 0, 0, 0)]
-- 100: BootNet$Station.receive(LBootNet$Message;)V
def xt_c100 : List (Nat × Jvm.ClassFile.Instr × Nat × Nat × Nat × Int32) := [(0, .aload_n 1, 1, 1, 0, 0), (1, .getfield 52, 3, 6, 0, 0), (4, .tableswitch 128 1 11 #[60, 128, 68, 76, 128, 128, 84, 128, 92, 128, 110], 60, 132, 0, 0), (64, .aload_n 0, 1, 0, 0, 0), (65, .aload_n 1, 1, 1, 0, 0), (66, .invokevirtual 57, 3, 0, 110, 0), (69, .goto 63, 3, 132, 0, 0), (72, .aload_n 0, 1, 0, 0, 0), (73, .aload_n 1, 1, 1, 0, 0), (74, .invokevirtual 61, 3, 0, 111, 0), (77, .goto 55, 3, 132, 0, 0), (80, .aload_n 0, 1, 0, 0, 0), (81, .aload_n 1, 1, 1, 0, 0), (82, .invokevirtual 64, 3, 0, 112, 0), (85, .goto 47, 3, 132, 0, 0), (88, .aload_n 0, 1, 0, 0, 0), (89, .aload_n 1, 1, 1, 0, 0), (90, .invokevirtual 67, 3, 0, 113, 0), (93, .goto 39, 3, 132, 0, 0), (96, .aload_n 0, 1, 0, 0, 0), (97, .invokevirtual 70, 3, 0, 98, 0), (100, .ifCond .eq 32, 3, 132, 0, 0), (103, .aload_n 0, 1, 0, 0, 0), (104, .getfield 36, 3, 9, 3, 0), (107, .aload_n 1, 1, 1, 0, 0), (108, .invokevirtual 74, 3, 0, 63, 0), (111, .goto 21, 3, 132, 0, 0), (114, .aload_n 0, 1, 0, 0, 0), (115, .invokevirtual 70, 3, 0, 98, 0), (118, .ifCond .eq 14, 3, 132, 0, 0), (121, .aload_n 0, 1, 0, 0, 0), (122, .getfield 36, 3, 9, 3, 0), (125, .aload_n 1, 1, 1, 0, 0), (126, .invokevirtual 77, 3, 0, 64, 0), (129, .goto 3, 3, 132, 0, 0), (132, .return_, 1, 0, 0, 0)]
-- 101: BootNet$Station.passTime()V
def xt_c101 : List (Nat × Jvm.ClassFile.Instr × Nat × Nat × Nat × Int32) := [(0, .aload_n 0, 1, 0, 0, 0), (1, .getfield 23, 3, 9, 1, 0), (4, .getfield 80, 3, 2, 3, 0), (7, .aload_n 0, 1, 0, 0, 0), (8, .getfield 85, 3, 9, 9, 0), (11, .if_icmp .lt 7, 3, 18, 0, 0), (14, .iconst 1, 1, 0, 0, 1), (15, .goto 4, 3, 19, 0, 0), (18, .iconst 0, 1, 0, 0, 0), (19, .istore_n 1, 1, 1, 0, 0), (20, .aload_n 0, 1, 0, 0, 0), (21, .invokevirtual 70, 3, 0, 98, 0), (24, .ifCond .eq 24, 3, 48, 0, 0), (27, .aload_n 0, 1, 0, 0, 0), (28, .getfield 23, 3, 9, 1, 0), (31, .getfield 80, 3, 2, 3, 0), (34, .aload_n 0, 1, 0, 0, 0), (35, .getfield 40, 3, 9, 8, 0), (38, .if_icmp .lt 10, 3, 48, 0, 0), (41, .aload_n 0, 1, 0, 0, 0), (42, .invokevirtual 49, 3, 0, 103, 0), (45, .goto 173, 3, 218, 0, 0), (48, .aload_n 0, 1, 0, 0, 0), (49, .getfield 11, 3, 9, 4, 0), (52, .iconst 1, 1, 0, 0, 1), (53, .if_icmp .eq 11, 3, 64, 0, 0), (56, .aload_n 0, 1, 0, 0, 0), (57, .getfield 11, 3, 9, 4, 0), (60, .iconst 2, 1, 0, 0, 2), (61, .if_icmp .ne 14, 3, 75, 0, 0), (64, .iload_n 1, 1, 1, 0, 0), (65, .ifCond .eq 10, 3, 75, 0, 0), (68, .aload_n 0, 1, 0, 0, 0), (69, .invokevirtual 88, 3, 0, 107, 0), (72, .goto 146, 3, 218, 0, 0), (75, .aload_n 0, 1, 0, 0, 0), (76, .getfield 11, 3, 9, 4, 0), (79, .iconst 3, 1, 0, 0, 3), (80, .if_icmp .ne 14, 3, 94, 0, 0), (83, .iload_n 1, 1, 1, 0, 0), (84, .ifCond .eq 10, 3, 94, 0, 0), (87, .aload_n 0, 1, 0, 0, 0), (88, .invokevirtual 91, 3, 0, 108, 0), (91, .goto 127, 3, 218, 0, 0), (94, .aload_n 0, 1, 0, 0, 0), (95, .getfield 11, 3, 9, 4, 0), (98, .iconst 4, 1, 0, 0, 4), (99, .if_icmp .ne 39, 3, 138, 0, 0), (102, .iconst 2, 1, 0, 0, 2), (103, .aload_n 0, 1, 0, 0, 0), (104, .getfield 23, 3, 9, 1, 0), (107, .getfield 80, 3, 2, 3, 0), (110, .aload_n 0, 1, 0, 0, 0), (111, .getfield 94, 3, 9, 7, 0), (114, .isub, 1, 0, 0, 0), (115, .imul, 1, 0, 0, 0), (116, .aload_n 0, 1, 0, 0, 0), (117, .getfield 23, 3, 9, 1, 0), (120, .getfield 97, 3, 2, 0, 0), (123, .if_icmp .lt 15, 3, 138, 0, 0), (126, .aload_n 0, 1, 0, 0, 0), (127, .iconst 5, 1, 0, 0, 5), (128, .putfield 11, 3, 9, 4, 0), (131, .aload_n 0, 1, 0, 0, 0), (132, .invokevirtual 100, 3, 0, 105, 0), (135, .goto 83, 3, 218, 0, 0), (138, .aload_n 0, 1, 0, 0, 0), (139, .getfield 11, 3, 9, 4, 0), (142, .iconst 5, 1, 0, 0, 5), (143, .if_icmp .ne 23, 3, 166, 0, 0), (146, .aload_n 0, 1, 0, 0, 0), (147, .invokevirtual 103, 3, 0, 109, 0), (150, .ifCond .eq 16, 3, 166, 0, 0), (153, .aload_n 0, 1, 0, 0, 0), (154, .bipush 6, 2, 0, 0, 6), (156, .putfield 11, 3, 9, 4, 0), (159, .aload_n 0, 1, 0, 0, 0), (160, .invokevirtual 100, 3, 0, 105, 0), (163, .goto 55, 3, 218, 0, 0), (166, .aload_n 0, 1, 0, 0, 0), (167, .getfield 11, 3, 9, 4, 0), (170, .iconst 5, 1, 0, 0, 5), (171, .if_icmp .eq 12, 3, 183, 0, 0), (174, .aload_n 0, 1, 0, 0, 0), (175, .getfield 11, 3, 9, 4, 0), (178, .bipush 6, 2, 0, 0, 6), (180, .if_icmp .ne 14, 3, 194, 0, 0), (183, .iload_n 1, 1, 1, 0, 0), (184, .ifCond .eq 10, 3, 194, 0, 0), (187, .aload_n 0, 1, 0, 0, 0), (188, .invokevirtual 100, 3, 0, 105, 0), (191, .goto 27, 3, 218, 0, 0), (194, .aload_n 0, 1, 0, 0, 0), (195, .invokevirtual 70, 3, 0, 98, 0), (198, .ifCond .eq 20, 3, 218, 0, 0), (201, .aload_n 0, 1, 0, 0, 0), (202, .getfield 36, 3, 9, 3, 0), (205, .invokevirtual 106, 3, 0, 65, 0), (208, .ifCond .eq 10, 3, 218, 0, 0), (211, .aload_n 0, 1, 0, 0, 0), (212, .getfield 36, 3, 9, 3, 0), (215, .invokevirtual 109, 3, 0, 66, 0), (218, .return_, 1, 0, 0, 0)]
-- 102: BootNet$Station.tell(I)I
def xt_c102 : List (Nat × Jvm.ClassFile.Instr × Nat × Nat × Nat × Int32) := [(0, .iload_n 1, 1, 1, 0, 0), (1, .tableswitch 96 0 7 #[47, 52, 57, 62, 67, 72, 80, 88], 47, 97, 0, 0), (48, .aload_n 0, 1, 0, 0, 0), (49, .getfield 11, 3, 9, 4, 0), (52, .ireturn, 1, 0, 0, 0), (53, .aload_n 0, 1, 0, 0, 0), (54, .getfield 17, 3, 9, 5, 0), (57, .ireturn, 1, 0, 0, 0), (58, .aload_n 0, 1, 0, 0, 0), (59, .getfield 110, 3, 9, 6, 0), (62, .ireturn, 1, 0, 0, 0), (63, .aload_n 0, 1, 0, 0, 0), (64, .getfield 40, 3, 9, 8, 0), (67, .ireturn, 1, 0, 0, 0), (68, .aload_n 0, 1, 0, 0, 0), (69, .getfield 43, 3, 9, 11, 0), (72, .ireturn, 1, 0, 0, 0), (73, .aload_n 0, 1, 0, 0, 0), (74, .getfield 36, 3, 9, 3, 0), (77, .getfield 113, 3, 5, 11, 0), (80, .ireturn, 1, 0, 0, 0), (81, .aload_n 0, 1, 0, 0, 0), (82, .getfield 36, 3, 9, 3, 0), (85, .getfield 116, 3, 5, 10, 0), (88, .ireturn, 1, 0, 0, 0), (89, .aload_n 0, 1, 0, 0, 0), (90, .getfield 36, 3, 9, 3, 0), (93, .invokevirtual 119, 3, 0, 67, 0), (96, .ireturn, 1, 0, 0, 0), (97, .iconst (-1), 1, 0, 0, (-1)), (98, .ireturn, 1, 0, 0, 0)]
-- 103: BootNet$Station.select()V
def xt_c103 : List (Nat × Jvm.ClassFile.Instr × Nat × Nat × Nat × Int32) := [(0, .aload_n 0, 1, 0, 0, 0), (1, .iconst 1, 1, 0, 0, 1), (2, .putfield 11, 3, 9, 4, 0), (5, .aload_n 0, 1, 0, 0, 0), (6, .iconst 0, 1, 0, 0, 0), (7, .putfield 17, 3, 9, 5, 0), (10, .aload_n 0, 1, 0, 0, 0), (11, .aload_n 0, 1, 0, 0, 0), (12, .getfield 23, 3, 9, 1, 0), (15, .invokevirtual 123, 3, 0, 34, 0), (18, .putfield 110, 3, 9, 6, 0), (21, .aload_n 0, 1, 0, 0, 0), (22, .iconst 1, 1, 0, 0, 1), (23, .putfield 126, 3, 9, 10, 0), (26, .aload_n 0, 1, 0, 0, 0), (27, .invokevirtual 129, 3, 0, 104, 0), (30, .aload_n 0, 1, 0, 0, 0), (31, .getfield 36, 3, 9, 3, 0), (34, .invokevirtual 132, 3, 0, 62, 0), (37, .return_, 1, 0, 0, 0)]
-- 104: BootNet$Station.sendDiscover()V
def xt_c104 : List (Nat × Jvm.ClassFile.Instr × Nat × Nat × Nat × Int32) := [(0, .aload_n 0, 1, 0, 0, 0), (1, .getfield 27, 3, 9, 2, 0), (4, .iconst 0, 1, 0, 0, 0), (5, .aload_n 0, 1, 0, 0, 0), (6, .getfield 20, 3, 9, 0, 0), (9, .iconst 0, 1, 0, 0, 0), (10, .aload_n 0, 1, 0, 0, 0), (11, .getfield 110, 3, 9, 6, 0), (14, .iconst 0, 1, 0, 0, 0), (15, .iconst 0, 1, 0, 0, 0), (16, .invokevirtual 135, 3, 0, 117, 0), (19, .pop, 1, 0, 0, 0), (20, .aload_n 0, 1, 0, 0, 0), (21, .aload_n 0, 1, 0, 0, 0), (22, .getfield 23, 3, 9, 1, 0), (25, .getfield 80, 3, 2, 3, 0), (28, .iconst 3, 1, 0, 0, 3), (29, .iadd, 1, 0, 0, 0), (30, .putfield 85, 3, 9, 9, 0), (33, .return_, 1, 0, 0, 0)]
-- 105: BootNet$Station.ask()V
def xt_c105 : List (Nat × Jvm.ClassFile.Instr × Nat × Nat × Nat × Int32) := [(0, .aload_n 0, 1, 0, 0, 0), (1, .aload_n 0, 1, 0, 0, 0), (2, .getfield 23, 3, 9, 1, 0), (5, .invokevirtual 123, 3, 0, 34, 0), (8, .putfield 110, 3, 9, 6, 0), (11, .aload_n 0, 1, 0, 0, 0), (12, .getfield 27, 3, 9, 2, 0), (15, .iconst 2, 1, 0, 0, 2), (16, .aload_n 0, 1, 0, 0, 0), (17, .getfield 20, 3, 9, 0, 0), (20, .iconst 0, 1, 0, 0, 0), (21, .aload_n 0, 1, 0, 0, 0), (22, .getfield 110, 3, 9, 6, 0), (25, .aload_n 0, 1, 0, 0, 0), (26, .getfield 17, 3, 9, 5, 0), (29, .iconst 0, 1, 0, 0, 0), (30, .invokevirtual 135, 3, 0, 117, 0), (33, .pop, 1, 0, 0, 0), (34, .aload_n 0, 1, 0, 0, 0), (35, .aload_n 0, 1, 0, 0, 0), (36, .getfield 23, 3, 9, 1, 0), (39, .getfield 80, 3, 2, 3, 0), (42, .putfield 94, 3, 9, 7, 0), (45, .aload_n 0, 1, 0, 0, 0), (46, .aload_n 0, 1, 0, 0, 0), (47, .getfield 23, 3, 9, 1, 0), (50, .getfield 80, 3, 2, 3, 0), (53, .iconst 3, 1, 0, 0, 3), (54, .iadd, 1, 0, 0, 0), (55, .putfield 85, 3, 9, 9, 0), (58, .return_, 1, 0, 0, 0)]
-- 106: BootNet$Station.fail(I)V
def xt_c106 : List (Nat × Jvm.ClassFile.Instr × Nat × Nat × Nat × Int32) := [(0, .aload_n 0, 1, 0, 0, 0), (1, .bipush 7, 2, 0, 0, 7), (3, .putfield 11, 3, 9, 4, 0), (6, .aload_n 0, 1, 0, 0, 0), (7, .iconst 0, 1, 0, 0, 0), (8, .putfield 17, 3, 9, 5, 0), (11, .aload_n 0, 1, 0, 0, 0), (12, .getfield 36, 3, 9, 3, 0), (15, .iload_n 1, 1, 1, 0, 0), (16, .putfield 113, 3, 5, 11, 0), (19, .return_, 1, 0, 0, 0)]
-- 107: BootNet$Station.tryAgain()V
def xt_c107 : List (Nat × Jvm.ClassFile.Instr × Nat × Nat × Nat × Int32) := [(0, .aload_n 0, 1, 0, 0, 0), (1, .getfield 126, 3, 9, 10, 0), (4, .aload_n 0, 1, 0, 0, 0), (5, .getfield 23, 3, 9, 1, 0), (8, .getfield 141, 3, 2, 1, 0), (11, .if_icmp .lt 10, 3, 21, 0, 0), (14, .aload_n 0, 1, 0, 0, 0), (15, .bipush 7, 2, 0, 0, 7), (17, .invokevirtual 144, 3, 0, 106, 0), (20, .return_, 1, 0, 0, 0), (21, .aload_n 0, 1, 0, 0, 0), (22, .dup, 1, 0, 0, 0), (23, .getfield 126, 3, 9, 10, 0), (26, .iconst 1, 1, 0, 0, 1), (27, .iadd, 1, 0, 0, 0), (28, .putfield 126, 3, 9, 10, 0), (31, .aload_n 0, 1, 0, 0, 0), (32, .getfield 11, 3, 9, 4, 0), (35, .iconst 1, 1, 0, 0, 1), (36, .if_icmp .ne 10, 3, 46, 0, 0), (39, .aload_n 0, 1, 0, 0, 0), (40, .invokevirtual 129, 3, 0, 104, 0), (43, .goto 7, 3, 50, 0, 0), (46, .aload_n 0, 1, 0, 0, 0), (47, .invokevirtual 100, 3, 0, 105, 0), (50, .return_, 1, 0, 0, 0)]
-- 108: BootNet$Station.endProbe()V
def xt_c108 : List (Nat × Jvm.ClassFile.Instr × Nat × Nat × Nat × Int32) := [(0, .aload_n 0, 1, 0, 0, 0), (1, .getfield 23, 3, 9, 1, 0), (4, .getfield 80, 3, 2, 3, 0), (7, .aload_n 0, 1, 0, 0, 0), (8, .getfield 40, 3, 9, 8, 0), (11, .if_icmp .lt 8, 3, 19, 0, 0), (14, .aload_n 0, 1, 0, 0, 0), (15, .invokevirtual 49, 3, 0, 103, 0), (18, .return_, 1, 0, 0, 0), (19, .aload_n 0, 1, 0, 0, 0), (20, .iconst 4, 1, 0, 0, 4), (21, .putfield 11, 3, 9, 4, 0), (24, .aload_n 0, 1, 0, 0, 0), (25, .getfield 36, 3, 9, 3, 0), (28, .getfield 113, 3, 5, 11, 0), (31, .ifCond .ne 11, 3, 42, 0, 0), (34, .aload_n 0, 1, 0, 0, 0), (35, .getfield 36, 3, 9, 3, 0), (38, .iconst 0, 1, 0, 0, 0), (39, .invokevirtual 148, 3, 0, 61, 0), (42, .return_, 1, 0, 0, 0)]
-- 109: BootNet$Station.isTimeToRebind()Z
def xt_c109 : List (Nat × Jvm.ClassFile.Instr × Nat × Nat × Nat × Int32) := [(0, .bipush 8, 2, 0, 0, 8), (2, .aload_n 0, 1, 0, 0, 0), (3, .getfield 23, 3, 9, 1, 0), (6, .getfield 80, 3, 2, 3, 0), (9, .aload_n 0, 1, 0, 0, 0), (10, .getfield 40, 3, 9, 8, 0), (13, .aload_n 0, 1, 0, 0, 0), (14, .getfield 23, 3, 9, 1, 0), (17, .getfield 97, 3, 2, 0, 0), (20, .isub, 1, 0, 0, 0), (21, .isub, 1, 0, 0, 0), (22, .imul, 1, 0, 0, 0), (23, .bipush 7, 2, 0, 0, 7), (25, .aload_n 0, 1, 0, 0, 0), (26, .getfield 23, 3, 9, 1, 0), (29, .getfield 97, 3, 2, 0, 0), (32, .imul, 1, 0, 0, 0), (33, .if_icmp .lt 7, 3, 40, 0, 0), (36, .iconst 1, 1, 0, 0, 1), (37, .goto 4, 3, 41, 0, 0), (40, .iconst 0, 1, 0, 0, 0), (41, .ireturn, 1, 0, 1, 0)]
-- 110: BootNet$Station.onOffer(LBootNet$Message;)V
def xt_c110 : List (Nat × Jvm.ClassFile.Instr × Nat × Nat × Nat × Int32) := [(0, .aload_n 0, 1, 0, 0, 0), (1, .getfield 11, 3, 9, 4, 0), (4, .iconst 1, 1, 0, 0, 1), (5, .if_icmp .ne 36, 3, 41, 0, 0), (8, .aload_n 1, 1, 1, 0, 0), (9, .getfield 151, 3, 6, 2, 0), (12, .aload_n 0, 1, 0, 0, 0), (13, .getfield 110, 3, 9, 6, 0), (16, .if_icmp .ne 25, 3, 41, 0, 0), (19, .aload_n 0, 1, 0, 0, 0), (20, .aload_n 1, 1, 1, 0, 0), (21, .getfield 152, 3, 6, 3, 0), (24, .putfield 17, 3, 9, 5, 0), (27, .aload_n 0, 1, 0, 0, 0), (28, .iconst 2, 1, 0, 0, 2), (29, .putfield 11, 3, 9, 4, 0), (32, .aload_n 0, 1, 0, 0, 0), (33, .iconst 1, 1, 0, 0, 1), (34, .putfield 126, 3, 9, 10, 0), (37, .aload_n 0, 1, 0, 0, 0), (38, .invokevirtual 100, 3, 0, 105, 0), (41, .return_, 1, 0, 0, 0)]
-- 111: BootNet$Station.onAck(LBootNet$Message;)V
def xt_c111 : List (Nat × Jvm.ClassFile.Instr × Nat × Nat × Nat × Int32) := [(0, .aload_n 1, 1, 1, 0, 0), (1, .getfield 151, 3, 6, 2, 0), (4, .aload_n 0, 1, 0, 0, 0), (5, .getfield 110, 3, 9, 6, 0), (8, .if_icmp .ne 14, 3, 22, 0, 0), (11, .aload_n 1, 1, 1, 0, 0), (12, .getfield 152, 3, 6, 3, 0), (15, .aload_n 0, 1, 0, 0, 0), (16, .getfield 17, 3, 9, 5, 0), (19, .if_icmp .eq 4, 3, 23, 0, 0), (22, .return_, 1, 0, 0, 0), (23, .aload_n 0, 1, 0, 0, 0), (24, .getfield 11, 3, 9, 4, 0), (27, .iconst 2, 1, 0, 0, 2), (28, .if_icmp .ne 61, 3, 89, 0, 0), (31, .aload_n 0, 1, 0, 0, 0), (32, .aload_n 0, 1, 0, 0, 0), (33, .getfield 94, 3, 9, 7, 0), (36, .aload_n 0, 1, 0, 0, 0), (37, .getfield 23, 3, 9, 1, 0), (40, .getfield 97, 3, 2, 0, 0), (43, .iadd, 1, 0, 0, 0), (44, .putfield 40, 3, 9, 8, 0), (47, .aload_n 0, 1, 0, 0, 0), (48, .iconst 3, 1, 0, 0, 3), (49, .putfield 11, 3, 9, 4, 0), (52, .aload_n 0, 1, 0, 0, 0), (53, .getfield 27, 3, 9, 2, 0), (56, .bipush 6, 2, 0, 0, 6), (58, .aload_n 0, 1, 0, 0, 0), (59, .getfield 20, 3, 9, 0, 0), (62, .iconst 0, 1, 0, 0, 0), (63, .iconst 0, 1, 0, 0, 0), (64, .aload_n 0, 1, 0, 0, 0), (65, .getfield 17, 3, 9, 5, 0), (68, .iconst 0, 1, 0, 0, 0), (69, .invokevirtual 135, 3, 0, 117, 0), (72, .pop, 1, 0, 0, 0), (73, .aload_n 0, 1, 0, 0, 0), (74, .aload_n 0, 1, 0, 0, 0), (75, .getfield 23, 3, 9, 1, 0), (78, .getfield 80, 3, 2, 3, 0), (81, .iconst 3, 1, 0, 0, 3), (82, .iadd, 1, 0, 0, 0), (83, .putfield 85, 3, 9, 9, 0), (86, .goto 41, 3, 127, 0, 0), (89, .aload_n 0, 1, 0, 0, 0), (90, .getfield 11, 3, 9, 4, 0), (93, .iconst 5, 1, 0, 0, 5), (94, .if_icmp .eq 12, 3, 106, 0, 0), (97, .aload_n 0, 1, 0, 0, 0), (98, .getfield 11, 3, 9, 4, 0), (101, .bipush 6, 2, 0, 0, 6), (103, .if_icmp .ne 24, 3, 127, 0, 0), (106, .aload_n 0, 1, 0, 0, 0), (107, .aload_n 0, 1, 0, 0, 0), (108, .getfield 94, 3, 9, 7, 0), (111, .aload_n 0, 1, 0, 0, 0), (112, .getfield 23, 3, 9, 1, 0), (115, .getfield 97, 3, 2, 0, 0), (118, .iadd, 1, 0, 0, 0), (119, .putfield 40, 3, 9, 8, 0), (122, .aload_n 0, 1, 0, 0, 0), (123, .iconst 4, 1, 0, 0, 4), (124, .putfield 11, 3, 9, 4, 0), (127, .return_, 1, 0, 0, 0)]
-- 112: BootNet$Station.onNak(LBootNet$Message;)V
def xt_c112 : List (Nat × Jvm.ClassFile.Instr × Nat × Nat × Nat × Int32) := [(0, .aload_n 0, 1, 0, 0, 0), (1, .getfield 11, 3, 9, 4, 0), (4, .iconst 2, 1, 0, 0, 2), (5, .if_icmp .eq 20, 3, 25, 0, 0), (8, .aload_n 0, 1, 0, 0, 0), (9, .getfield 11, 3, 9, 4, 0), (12, .iconst 5, 1, 0, 0, 5), (13, .if_icmp .eq 12, 3, 25, 0, 0), (16, .aload_n 0, 1, 0, 0, 0), (17, .getfield 11, 3, 9, 4, 0), (20, .bipush 6, 2, 0, 0, 6), (22, .if_icmp .ne 7, 3, 29, 0, 0), (25, .iconst 1, 1, 0, 0, 1), (26, .goto 4, 3, 30, 0, 0), (29, .iconst 0, 1, 0, 0, 0), (30, .istore_n 2, 1, 2, 0, 0), (31, .iload_n 2, 1, 2, 0, 0), (32, .ifCond .eq 18, 3, 50, 0, 0), (35, .aload_n 1, 1, 1, 0, 0), (36, .getfield 151, 3, 6, 2, 0), (39, .aload_n 0, 1, 0, 0, 0), (40, .getfield 110, 3, 9, 6, 0), (43, .if_icmp .ne 7, 3, 50, 0, 0), (46, .aload_n 0, 1, 0, 0, 0), (47, .invokevirtual 49, 3, 0, 103, 0), (50, .return_, 1, 0, 0, 0)]
-- 113: BootNet$Station.onHere(LBootNet$Message;)V
def xt_c113 : List (Nat × Jvm.ClassFile.Instr × Nat × Nat × Nat × Int32) := [(0, .aload_n 0, 1, 0, 0, 0), (1, .getfield 11, 3, 9, 4, 0), (4, .iconst 3, 1, 0, 0, 3), (5, .if_icmp .ne 14, 3, 19, 0, 0), (8, .aload_n 1, 1, 1, 0, 0), (9, .getfield 152, 3, 6, 3, 0), (12, .aload_n 0, 1, 0, 0, 0), (13, .getfield 17, 3, 9, 5, 0), (16, .if_icmp .eq 4, 3, 20, 0, 0), (19, .return_, 1, 0, 0, 0), (20, .aload_n 0, 1, 0, 0, 0), (21, .getfield 27, 3, 9, 2, 0), (24, .iconst 5, 1, 0, 0, 5), (25, .aload_n 0, 1, 0, 0, 0), (26, .getfield 20, 3, 9, 0, 0), (29, .iconst 0, 1, 0, 0, 0), (30, .iconst 0, 1, 0, 0, 0), (31, .aload_n 0, 1, 0, 0, 0), (32, .getfield 17, 3, 9, 5, 0), (35, .iconst 0, 1, 0, 0, 0), (36, .invokevirtual 135, 3, 0, 117, 0), (39, .pop, 1, 0, 0, 0), (40, .aload_n 0, 1, 0, 0, 0), (41, .dup, 1, 0, 0, 0), (42, .getfield 43, 3, 9, 11, 0), (45, .iconst 1, 1, 0, 0, 1), (46, .iadd, 1, 0, 0, 0), (47, .putfield 43, 3, 9, 11, 0), (50, .aload_n 0, 1, 0, 0, 0), (51, .getfield 43, 3, 9, 11, 0), (54, .aload_n 0, 1, 0, 0, 0), (55, .getfield 23, 3, 9, 1, 0), (58, .getfield 141, 3, 2, 1, 0), (61, .if_icmp .lt 12, 3, 73, 0, 0), (64, .aload_n 0, 1, 0, 0, 0), (65, .bipush 8, 2, 0, 0, 8), (67, .invokevirtual 144, 3, 0, 106, 0), (70, .goto 7, 3, 77, 0, 0), (73, .aload_n 0, 1, 0, 0, 0), (74, .invokevirtual 49, 3, 0, 103, 0), (77, .return_, 1, 0, 0, 0)]
-- 114: BootNet$Transfer.<init>()V
def xt_c114 : List (Nat × Jvm.ClassFile.Instr × Nat × Nat × Nat × Int32) := [(0, .aload_n 0, 1, 0, 0, 0), (1, .invokespecial 1, 3, 1, 0, 0), (4, .return_, 1, 0, 0, 0)]
-- 115: BootNet$Wire.<init>()V
def xt_c115 : List (Nat × Jvm.ClassFile.Instr × Nat × Nat × Nat × Int32) := [(0, .aload_n 0, 1, 0, 0, 0), (1, .invokespecial 1, 3, 1, 0, 0), (4, .aload_n 0, 1, 0, 0, 0), (5, .bipush 32, 2, 0, 0, 32), (7, .anewarray 9, 3, 3, 0, 0), (10, .putfield 11, 3, 11, 0, 0), (13, .aload_n 0, 1, 0, 0, 0), (14, .new 9, 3, 6, 8, 0), (17, .dup, 1, 0, 0, 0), (18, .invokespecial 15, 3, 5, 73, 0), (21, .putfield 16, 3, 11, 2, 0), (24, .aload_n 0, 1, 0, 0, 0), (25, .new 9, 3, 6, 8, 0), (28, .dup, 1, 0, 0, 0), (29, .invokespecial 15, 3, 5, 73, 0), (32, .putfield 20, 3, 11, 3, 0), (35, .iconst 0, 1, 0, 0, 0), (36, .istore_n 1, 1, 1, 0, 0), (37, .iload_n 1, 1, 1, 0, 0), (38, .bipush 32, 2, 0, 0, 32), (40, .if_icmp .ge 22, 3, 62, 0, 0), (43, .aload_n 0, 1, 0, 0, 0), (44, .getfield 11, 3, 11, 0, 0), (47, .iload_n 1, 1, 1, 0, 0), (48, .new 9, 3, 6, 8, 0), (51, .dup, 1, 0, 0, 0), (52, .invokespecial 15, 3, 5, 73, 0), (55, .aastore, 1, 0, 0, 0), (56, .iinc 1 1, 3, 1, 0, 1), (59, .goto (-22), 3, 37, 0, 0), (62, .return_, 1, 0, 0, 0)]
-- 116: BootNet$Wire.has(I)Z
def xt_c116 : List (Nat × Jvm.ClassFile.Instr × Nat × Nat × Nat × Int32) := [(0, .iload_n 1, 1, 1, 0, 0), (1, .ifCond .lt 15, 3, 16, 0, 0), (4, .iload_n 1, 1, 1, 0, 0), (5, .aload_n 0, 1, 0, 0, 0), (6, .getfield 23, 3, 11, 1, 0), (9, .if_icmp .ge 7, 3, 16, 0, 0), (12, .iconst 1, 1, 0, 0, 1), (13, .goto 4, 3, 17, 0, 0), (16, .iconst 0, 1, 0, 0, 0), (17, .ireturn, 1, 0, 1, 0)]
-- 117: BootNet$Wire.post(IIIIII)LBootNet$Message;
def xt_c117 : List (Nat × Jvm.ClassFile.Instr × Nat × Nat × Nat × Int32) := [(0, .aload_n 0, 1, 0, 0, 0), (1, .getfield 20, 3, 11, 3, 0), (4, .astore 7, 2, 7, 0, 0), (6, .aload_n 0, 1, 0, 0, 0), (7, .getfield 23, 3, 11, 1, 0), (10, .bipush 32, 2, 0, 0, 32), (12, .if_icmp .ge 24, 3, 36, 0, 0), (15, .aload_n 0, 1, 0, 0, 0), (16, .getfield 11, 3, 11, 0, 0), (19, .aload_n 0, 1, 0, 0, 0), (20, .getfield 23, 3, 11, 1, 0), (23, .aaload, 1, 0, 0, 0), (24, .astore 7, 2, 7, 0, 0), (26, .aload_n 0, 1, 0, 0, 0), (27, .dup, 1, 0, 0, 0), (28, .getfield 23, 3, 11, 1, 0), (31, .iconst 1, 1, 0, 0, 1), (32, .iadd, 1, 0, 0, 0), (33, .putfield 23, 3, 11, 1, 0), (36, .aload 7, 2, 7, 0, 0), (38, .iload_n 1, 1, 1, 0, 0), (39, .putfield 27, 3, 6, 0, 0), (42, .aload 7, 2, 7, 0, 0), (44, .iload_n 2, 1, 2, 0, 0), (45, .putfield 30, 3, 6, 1, 0), (48, .aload 7, 2, 7, 0, 0), (50, .iload_n 3, 1, 3, 0, 0), (51, .putfield 33, 3, 6, 5, 0), (54, .aload 7, 2, 7, 0, 0), (56, .iload 4, 2, 4, 0, 0), (58, .putfield 36, 3, 6, 2, 0), (61, .aload 7, 2, 7, 0, 0), (63, .iload 5, 2, 5, 0, 0), (65, .putfield 39, 3, 6, 3, 0), (68, .aload 7, 2, 7, 0, 0), (70, .iload 6, 2, 6, 0, 0), (72, .putfield 42, 3, 6, 4, 0), (75, .aload 7, 2, 7, 0, 0), (77, .iconst 0, 1, 0, 0, 0), (78, .putfield 45, 3, 6, 6, 0), (81, .aload 7, 2, 7, 0, 0), (83, .areturn, 1, 0, 0, 0)]
-- 118: BootNet$Wire.take(I)LBootNet$Message;
def xt_c118 : List (Nat × Jvm.ClassFile.Instr × Nat × Nat × Nat × Int32) := [(0, .aload_n 0, 1, 0, 0, 0), (1, .getfield 11, 3, 11, 0, 0), (4, .iload_n 1, 1, 1, 0, 0), (5, .aaload, 1, 0, 0, 0), (6, .astore_n 2, 1, 2, 0, 0), (7, .iload_n 1, 1, 1, 0, 0), (8, .iconst 1, 1, 0, 0, 1), (9, .iadd, 1, 0, 0, 0), (10, .istore_n 3, 1, 3, 0, 0), (11, .iload_n 3, 1, 3, 0, 0), (12, .aload_n 0, 1, 0, 0, 0), (13, .getfield 23, 3, 11, 1, 0), (16, .if_icmp .ge 23, 3, 39, 0, 0), (19, .aload_n 0, 1, 0, 0, 0), (20, .getfield 11, 3, 11, 0, 0), (23, .iload_n 3, 1, 3, 0, 0), (24, .iconst 1, 1, 0, 0, 1), (25, .isub, 1, 0, 0, 0), (26, .aload_n 0, 1, 0, 0, 0), (27, .getfield 11, 3, 11, 0, 0), (30, .iload_n 3, 1, 3, 0, 0), (31, .aaload, 1, 0, 0, 0), (32, .aastore, 1, 0, 0, 0), (33, .iinc 3 1, 3, 3, 0, 1), (36, .goto (-25), 3, 11, 0, 0), (39, .aload_n 0, 1, 0, 0, 0), (40, .dup, 1, 0, 0, 0), (41, .getfield 23, 3, 11, 1, 0), (44, .iconst 1, 1, 0, 0, 1), (45, .isub, 1, 0, 0, 0), (46, .putfield 23, 3, 11, 1, 0), (49, .aload_n 0, 1, 0, 0, 0), (50, .getfield 11, 3, 11, 0, 0), (53, .aload_n 0, 1, 0, 0, 0), (54, .getfield 23, 3, 11, 1, 0), (57, .aload_n 0, 1, 0, 0, 0), (58, .getfield 16, 3, 11, 2, 0), (61, .aastore, 1, 0, 0, 0), (62, .aload_n 0, 1, 0, 0, 0), (63, .aload_n 2, 1, 2, 0, 0), (64, .putfield 16, 3, 11, 2, 0), (67, .aload_n 2, 1, 2, 0, 0), (68, .areturn, 1, 0, 0, 0)]
-- 119: BootNet$Wire.postCopy(LBootNet$Message;I)V
def xt_c119 : List (Nat × Jvm.ClassFile.Instr × Nat × Nat × Nat × Int32) := [(0, .aload_n 0, 1, 0, 0, 0), (1, .aload_n 1, 1, 1, 0, 0), (2, .getfield 27, 3, 6, 0, 0), (5, .aload_n 1, 1, 1, 0, 0), (6, .getfield 30, 3, 6, 1, 0), (9, .iload_n 2, 1, 2, 0, 0), (10, .aload_n 1, 1, 1, 0, 0), (11, .getfield 36, 3, 6, 2, 0), (14, .aload_n 1, 1, 1, 0, 0), (15, .getfield 39, 3, 6, 3, 0), (18, .aload_n 1, 1, 1, 0, 0), (19, .getfield 42, 3, 6, 4, 0), (22, .invokevirtual 48, 3, 0, 117, 0), (25, .astore_n 3, 1, 3, 0, 0), (26, .aload_n 3, 1, 3, 0, 0), (27, .aload_n 1, 1, 1, 0, 0), (28, .getfield 52, 3, 6, 7, 0), (31, .iconst 0, 1, 0, 0, 0), (32, .aload_n 1, 1, 1, 0, 0), (33, .getfield 45, 3, 6, 6, 0), (36, .invokevirtual 56, 3, 0, 74, 0), (39, .return_, 1, 0, 0, 0)]
-- 120: BootNet$Wire.repeat(I)Z
def xt_c120 : List (Nat × Jvm.ClassFile.Instr × Nat × Nat × Nat × Int32) := [(0, .aload_n 0, 1, 0, 0, 0), (1, .getfield 23, 3, 11, 1, 0), (4, .bipush 32, 2, 0, 0, 32), (6, .if_icmp .lt 5, 3, 11, 0, 0), (9, .iconst 0, 1, 0, 0, 0), (10, .ireturn, 1, 0, 1, 0), (11, .aload_n 0, 1, 0, 0, 0), (12, .aload_n 0, 1, 0, 0, 0), (13, .getfield 11, 3, 11, 0, 0), (16, .iload_n 1, 1, 1, 0, 0), (17, .aaload, 1, 0, 0, 0), (18, .aload_n 0, 1, 0, 0, 0), (19, .getfield 11, 3, 11, 0, 0), (22, .iload_n 1, 1, 1, 0, 0), (23, .aaload, 1, 0, 0, 0), (24, .getfield 33, 3, 6, 5, 0), (27, .invokevirtual 60, 3, 0, 119, 0), (30, .iconst 1, 1, 0, 0, 1), (31, .ireturn, 1, 0, 1, 0)]
-- 121: BootNetModel.<init>(III)V
def xt_c121 : List (Nat × Jvm.ClassFile.Instr × Nat × Nat × Nat × Int32) := [(0, .aload_n 0, 1, 0, 0, 0), (1, .invokespecial 1, 3, 1, 0, 0), (4, .aload_n 0, 1, 0, 0, 0), (5, .iconst 3, 1, 0, 0, 3), (6, .newarray .int, 2, 0, 0, 0), (8, .putfield 7, 3, 12, 5, 0), (11, .aload_n 0, 1, 0, 0, 0), (12, .iconst 3, 1, 0, 0, 3), (13, .newarray .int, 2, 0, 0, 0), (15, .putfield 13, 3, 12, 6, 0), (18, .aload_n 0, 1, 0, 0, 0), (19, .bipush 30, 2, 0, 0, 30), (21, .newarray .int, 2, 0, 0, 0), (23, .putfield 16, 3, 12, 7, 0), (26, .aload_n 0, 1, 0, 0, 0), (27, .bipush 30, 2, 0, 0, 30), (29, .newarray .boolean, 2, 1, 0, 0), (31, .putfield 19, 3, 12, 8, 0), (34, .aload_n 0, 1, 0, 0, 0), (35, .bipush 32, 2, 0, 0, 32), (37, .newarray .int, 2, 0, 0, 0), (39, .putfield 23, 3, 12, 10, 0), (42, .aload_n 0, 1, 0, 0, 0), (43, .bipush 32, 2, 0, 0, 32), (45, .newarray .int, 2, 0, 0, 0), (47, .putfield 26, 3, 12, 11, 0), (50, .aload_n 0, 1, 0, 0, 0), (51, .bipush 32, 2, 0, 0, 32), (53, .newarray .int, 2, 0, 0, 0), (55, .putfield 29, 3, 12, 12, 0), (58, .aload_n 0, 1, 0, 0, 0), (59, .bipush 32, 2, 0, 0, 32), (61, .newarray .int, 2, 0, 0, 0), (63, .putfield 32, 3, 12, 13, 0), (66, .aload_n 0, 1, 0, 0, 0), (67, .bipush 32, 2, 0, 0, 32), (69, .newarray .int, 2, 0, 0, 0), (71, .putfield 35, 3, 12, 14, 0), (74, .aload_n 0, 1, 0, 0, 0), (75, .bipush 32, 2, 0, 0, 32), (77, .newarray .int, 2, 0, 0, 0), (79, .putfield 38, 3, 12, 15, 0), (82, .aload_n 0, 1, 0, 0, 0), (83, .bipush 32, 2, 0, 0, 32), (85, .newarray .int, 2, 0, 0, 0), (87, .putfield 41, 3, 12, 16, 0), (90, .aload_n 0, 1, 0, 0, 0), (91, .sipush 384, 3, 0, 0, 384), (94, .newarray .int, 2, 0, 0, 0), (96, .putfield 44, 3, 12, 17, 0), (99, .aload_n 0, 1, 0, 0, 0), (100, .iconst 4, 1, 0, 0, 4), (101, .newarray .int, 2, 0, 0, 0), (103, .putfield 47, 3, 12, 18, 0), (106, .aload_n 0, 1, 0, 0, 0), (107, .sipush 160, 3, 0, 0, 160), (110, .newarray .int, 2, 0, 0, 0), (112, .putfield 50, 3, 12, 19, 0), (115, .aload_n 0, 1, 0, 0, 0), (116, .iconst 4, 1, 0, 0, 4), (117, .newarray .int, 2, 0, 0, 0), (119, .putfield 53, 3, 12, 21, 0), (122, .aload_n 0, 1, 0, 0, 0), (123, .iconst 4, 1, 0, 0, 4), (124, .newarray .int, 2, 0, 0, 0), (126, .putfield 56, 3, 12, 22, 0), (129, .aload_n 0, 1, 0, 0, 0), (130, .iconst 4, 1, 0, 0, 4), (131, .newarray .int, 2, 0, 0, 0), (133, .putfield 59, 3, 12, 23, 0), (136, .aload_n 0, 1, 0, 0, 0), (137, .bipush 30, 2, 0, 0, 30), (139, .newarray .int, 2, 0, 0, 0), (141, .putfield 62, 3, 12, 24, 0), (144, .aload_n 0, 1, 0, 0, 0), (145, .bipush 30, 2, 0, 0, 30), (147, .newarray .int, 2, 0, 0, 0), (149, .putfield 65, 3, 12, 25, 0), (152, .aload_n 0, 1, 0, 0, 0), (153, .bipush 30, 2, 0, 0, 30), (155, .newarray .int, 2, 0, 0, 0), (157, .putfield 68, 3, 12, 26, 0), (160, .aload_n 0, 1, 0, 0, 0), (161, .bipush 30, 2, 0, 0, 30), (163, .newarray .int, 2, 0, 0, 0), (165, .putfield 71, 3, 12, 27, 0), (168, .aload_n 0, 1, 0, 0, 0), (169, .bipush 30, 2, 0, 0, 30), (171, .newarray .int, 2, 0, 0, 0), (173, .putfield 74, 3, 12, 28, 0), (176, .aload_n 0, 1, 0, 0, 0), (177, .bipush 16, 2, 0, 0, 16), (179, .newarray .int, 2, 0, 0, 0), (181, .putfield 77, 3, 12, 30, 0), (184, .aload_n 0, 1, 0, 0, 0), (185, .bipush 16, 2, 0, 0, 16), (187, .newarray .int, 2, 0, 0, 0), (189, .putfield 80, 3, 12, 31, 0), (192, .aload_n 0, 1, 0, 0, 0), (193, .bipush 16, 2, 0, 0, 16), (195, .newarray .int, 2, 0, 0, 0), (197, .putfield 83, 3, 12, 32, 0), (200, .aload_n 0, 1, 0, 0, 0), (201, .bipush 6, 2, 0, 0, 6), (203, .newarray .int, 2, 0, 0, 0), (205, .putfield 86, 3, 12, 33, 0), (208, .aload_n 0, 1, 0, 0, 0), (209, .bipush 6, 2, 0, 0, 6), (211, .newarray .int, 2, 0, 0, 0), (213, .putfield 89, 3, 12, 34, 0), (216, .aload_n 0, 1, 0, 0, 0), (217, .bipush 6, 2, 0, 0, 6), (219, .newarray .int, 2, 0, 0, 0), (221, .putfield 92, 3, 12, 35, 0), (224, .aload_n 0, 1, 0, 0, 0), (225, .bipush 6, 2, 0, 0, 6), (227, .newarray .int, 2, 0, 0, 0), (229, .putfield 95, 3, 12, 36, 0), (232, .aload_n 0, 1, 0, 0, 0), (233, .bipush 6, 2, 0, 0, 6), (235, .newarray .int, 2, 0, 0, 0), (237, .putfield 98, 3, 12, 37, 0), (240, .aload_n 0, 1, 0, 0, 0), (241, .bipush 6, 2, 0, 0, 6), (243, .newarray .int, 2, 0, 0, 0), (245, .putfield 101, 3, 12, 39, 0), (248, .aload_n 0, 1, 0, 0, 0), (249, .bipush 6, 2, 0, 0, 6), (251, .newarray .int, 2, 0, 0, 0), (253, .putfield 104, 3, 12, 40, 0), (256, .aload_n 0, 1, 0, 0, 0), (257, .bipush 6, 2, 0, 0, 6), (259, .newarray .int, 2, 0, 0, 0), (261, .putfield 107, 3, 12, 41, 0), (264, .aload_n 0, 1, 0, 0, 0), (265, .bipush 6, 2, 0, 0, 6), (267, .newarray .int, 2, 0, 0, 0), (269, .putfield 110, 3, 12, 42, 0), (272, .aload_n 0, 1, 0, 0, 0), (273, .bipush 6, 2, 0, 0, 6), (275, .newarray .int, 2, 0, 0, 0), (277, .putfield 113, 3, 12, 43, 0), (280, .aload_n 0, 1, 0, 0, 0), (281, .bipush 6, 2, 0, 0, 6), (283, .newarray .int, 2, 0, 0, 0), (285, .putfield 116, 3, 12, 44, 0), (288, .aload_n 0, 1, 0, 0, 0), (289, .bipush 6, 2, 0, 0, 6), (291, .newarray .int, 2, 0, 0, 0), (293, .putfield 119, 3, 12, 45, 0), (296, .aload_n 0, 1, 0, 0, 0), (297, .bipush 6, 2, 0, 0, 6), (299, .newarray .int, 2, 0, 0, 0), (301, .putfield 122, 3, 12, 46, 0), (304, .aload_n 0, 1, 0, 0, 0), (305, .bipush 6, 2, 0, 0, 6), (307, .newarray .int, 2, 0, 0, 0), (309, .putfield 125, 3, 12, 47, 0), (312, .aload_n 0, 1, 0, 0, 0), (313, .bipush 6, 2, 0, 0, 6), (315, .newarray .int, 2, 0, 0, 0), (317, .putfield 128, 3, 12, 48, 0), (320, .aload_n 0, 1, 0, 0, 0), (321, .bipush 6, 2, 0, 0, 6), (323, .newarray .int, 2, 0, 0, 0), (325, .putfield 131, 3, 12, 49, 0), (328, .aload_n 0, 1, 0, 0, 0), (329, .bipush 6, 2, 0, 0, 6), (331, .newarray .int, 2, 0, 0, 0), (333, .putfield 134, 3, 12, 50, 0), (336, .aload_n 0, 1, 0, 0, 0), (337, .bipush 6, 2, 0, 0, 6), (339, .newarray .int, 2, 0, 0, 0), (341, .putfield 137, 3, 12, 51, 0), (344, .aload_n 0, 1, 0, 0, 0), (345, .bipush 6, 2, 0, 0, 6), (347, .newarray .int, 2, 0, 0, 0), (349, .putfield 140, 3, 12, 52, 0), (352, .aload_n 0, 1, 0, 0, 0), (353, .bipush 6, 2, 0, 0, 6), (355, .newarray .int, 2, 0, 0, 0), (357, .putfield 143, 3, 12, 53, 0), (360, .aload_n 0, 1, 0, 0, 0), (361, .bipush 6, 2, 0, 0, 6), (363, .newarray .int, 2, 0, 0, 0), (365, .putfield 146, 3, 12, 54, 0), (368, .aload_n 0, 1, 0, 0, 0), (369, .sipush 1440, 3, 0, 0, 1440), (372, .newarray .int, 2, 0, 0, 0), (374, .putfield 149, 3, 12, 55, 0), (377, .aload_n 0, 1, 0, 0, 0), (378, .bipush 12, 2, 0, 0, 12), (380, .newarray .int, 2, 0, 0, 0), (382, .putfield 152, 3, 12, 56, 0), (385, .aload_n 0, 1, 0, 0, 0), (386, .bipush 7, 2, 0, 0, 7), (388, .newarray .int, 2, 0, 0, 0), (390, .putfield 155, 3, 12, 57, 0), (393, .aload_n 0, 1, 0, 0, 0), (394, .iload_n 1, 1, 1, 0, 0), (395, .bipush 8, 2, 0, 0, 8), (397, .if_icmp .ge 8, 3, 405, 0, 0), (400, .bipush 8, 2, 0, 0, 8), (402, .goto 15, 3, 417, 0, 0), (405, .iload_n 1, 1, 1, 0, 0), (406, .bipush 60, 2, 0, 0, 60), (408, .if_icmp .le 8, 3, 416, 0, 0), (411, .bipush 60, 2, 0, 0, 60), (413, .goto 4, 3, 417, 0, 0), (416, .iload_n 1, 1, 1, 0, 0), (417, .putfield 158, 3, 12, 0, 0), (420, .aload_n 0, 1, 0, 0, 0), (421, .iload_n 2, 1, 2, 0, 0), (422, .iconst 1, 1, 0, 0, 1), (423, .if_icmp .ge 7, 3, 430, 0, 0), (426, .iconst 1, 1, 0, 0, 1), (427, .goto 13, 3, 440, 0, 0), (430, .iload_n 2, 1, 2, 0, 0), (431, .iconst 5, 1, 0, 0, 5), (432, .if_icmp .le 7, 3, 439, 0, 0), (435, .iconst 5, 1, 0, 0, 5), (436, .goto 4, 3, 440, 0, 0), (439, .iload_n 2, 1, 2, 0, 0), (440, .putfield 162, 3, 12, 1, 0), (443, .aload_n 0, 1, 0, 0, 0), (444, .iload_n 3, 1, 3, 0, 0), (445, .iconst 4, 1, 0, 0, 4), (446, .if_icmp .ge 7, 3, 453, 0, 0), (449, .iconst 4, 1, 0, 0, 4), (450, .goto 15, 3, 465, 0, 0), (453, .iload_n 3, 1, 3, 0, 0), (454, .bipush 12, 2, 0, 0, 12), (456, .if_icmp .le 8, 3, 464, 0, 0), (459, .bipush 12, 2, 0, 0, 12), (461, .goto 4, 3, 465, 0, 0), (464, .iload_n 3, 1, 3, 0, 0), (465, .putfield 165, 3, 12, 2, 0), (468, .return_, 1, 0, 0, 0)]
-- 122: BootNetModel.isStation(I)Z
def xt_c122 : List (Nat × Jvm.ClassFile.Instr × Nat × Nat × Nat × Int32) := [(0, .iload_n 1, 1, 1, 0, 0), (1, .ifCond .lt 15, 3, 16, 0, 0), (4, .iload_n 1, 1, 1, 0, 0), (5, .aload_n 0, 1, 0, 0, 0), (6, .getfield 168, 3, 12, 38, 0), (9, .if_icmp .ge 7, 3, 16, 0, 0), (12, .iconst 1, 1, 0, 0, 1), (13, .goto 4, 3, 17, 0, 0), (16, .iconst 0, 1, 0, 0, 0), (17, .ireturn, 1, 0, 1, 0)]
-- 123: BootNetModel.isAddress(I)Z
def xt_c123 : List (Nat × Jvm.ClassFile.Instr × Nat × Nat × Nat × Int32) := [(0, .iload_n 0, 1, 0, 0, 0), (1, .iconst 1, 1, 0, 0, 1), (2, .if_icmp .lt 20, 3, 22, 0, 0), (5, .iload_n 0, 1, 0, 0, 0), (6, .bipush 29, 2, 0, 0, 29), (8, .if_icmp .gt 14, 3, 22, 0, 0), (11, .iload_n 0, 1, 0, 0, 0), (12, .bipush 10, 2, 0, 0, 10), (14, .irem, 1, 0, 0, 0), (15, .ifCond .eq 7, 3, 22, 0, 0), (18, .iconst 1, 1, 0, 0, 1), (19, .goto 4, 3, 23, 0, 0), (22, .iconst 0, 1, 0, 0, 0), (23, .ireturn, 1, 0, 1, 0)]
-- 124: BootNetModel.isFile(I)Z
def xt_c124 : List (Nat × Jvm.ClassFile.Instr × Nat × Nat × Nat × Int32) := [(0, .iload_n 0, 1, 0, 0, 0), (1, .ifCond .lt 12, 3, 13, 0, 0), (4, .iload_n 0, 1, 0, 0, 0), (5, .iconst 3, 1, 0, 0, 3), (6, .if_icmp .gt 7, 3, 13, 0, 0), (9, .iconst 1, 1, 0, 0, 1), (10, .goto 4, 3, 14, 0, 0), (13, .iconst 0, 1, 0, 0, 0), (14, .ireturn, 1, 0, 1, 0)]
-- 125: BootNetModel.pool(III)Z
def xt_c125 : List (Nat × Jvm.ClassFile.Instr × Nat × Nat × Nat × Int32) := [(0, .iload_n 1, 1, 1, 0, 0), (1, .ifCond .lt 33, 3, 34, 0, 0), (4, .iload_n 1, 1, 1, 0, 0), (5, .iconst 2, 1, 0, 0, 2), (6, .if_icmp .gt 28, 3, 34, 0, 0), (9, .aload_n 0, 1, 0, 0, 0), (10, .getfield 7, 3, 12, 5, 0), (13, .iload_n 1, 1, 1, 0, 0), (14, .iaload, 1, 0, 0, 0), (15, .ifCond .gt 19, 3, 34, 0, 0), (18, .iload_n 2, 1, 2, 0, 0), (19, .iconst 1, 1, 0, 0, 1), (20, .if_icmp .lt 14, 3, 34, 0, 0), (23, .iload_n 2, 1, 2, 0, 0), (24, .iload_n 3, 1, 3, 0, 0), (25, .if_icmp .gt 9, 3, 34, 0, 0), (28, .iload_n 3, 1, 3, 0, 0), (29, .bipush 9, 2, 0, 0, 9), (31, .if_icmp .le 5, 3, 36, 0, 0), (34, .iconst 0, 1, 0, 0, 0), (35, .ireturn, 1, 0, 1, 0), (36, .aload_n 0, 1, 0, 0, 0), (37, .getfield 7, 3, 12, 5, 0), (40, .iload_n 1, 1, 1, 0, 0), (41, .iload_n 2, 1, 2, 0, 0), (42, .iastore, 1, 0, 0, 0), (43, .aload_n 0, 1, 0, 0, 0), (44, .getfield 13, 3, 12, 6, 0), (47, .iload_n 1, 1, 1, 0, 0), (48, .iload_n 3, 1, 3, 0, 0), (49, .iastore, 1, 0, 0, 0), (50, .iconst 1, 1, 0, 0, 1), (51, .ireturn, 1, 0, 1, 0)]
-- 126: BootNetModel.attach(I)I
def xt_c126 : List (Nat × Jvm.ClassFile.Instr × Nat × Nat × Nat × Int32) := [(0, .iload_n 1, 1, 1, 0, 0), (1, .ifCond .lt 17, 3, 18, 0, 0), (4, .iload_n 1, 1, 1, 0, 0), (5, .iconst 2, 1, 0, 0, 2), (6, .if_icmp .gt 12, 3, 18, 0, 0), (9, .aload_n 0, 1, 0, 0, 0), (10, .getfield 168, 3, 12, 38, 0), (13, .bipush 6, 2, 0, 0, 6), (15, .if_icmp .ne 5, 3, 20, 0, 0), (18, .iconst (-1), 1, 0, 0, (-1)), (19, .ireturn, 1, 0, 0, 0), (20, .aload_n 0, 1, 0, 0, 0), (21, .getfield 101, 3, 12, 39, 0), (24, .aload_n 0, 1, 0, 0, 0), (25, .getfield 168, 3, 12, 38, 0), (28, .iload_n 1, 1, 1, 0, 0), (29, .iastore, 1, 0, 0, 0), (30, .aload_n 0, 1, 0, 0, 0), (31, .dup, 1, 0, 0, 0), (32, .getfield 168, 3, 12, 38, 0), (35, .iconst 1, 1, 0, 0, 1), (36, .iadd, 1, 0, 0, 0), (37, .putfield 168, 3, 12, 38, 0), (40, .aload_n 0, 1, 0, 0, 0), (41, .getfield 168, 3, 12, 38, 0), (44, .iconst 1, 1, 0, 0, 1), (45, .isub, 1, 0, 0, 0), (46, .ireturn, 1, 0, 0, 0)]
-- 127: BootNetModel.reserve(II)Z
def xt_c127 : List (Nat × Jvm.ClassFile.Instr × Nat × Nat × Nat × Int32) := [(0, .aload_n 0, 1, 0, 0, 0), (1, .iload_n 1, 1, 1, 0, 0), (2, .invokevirtual 171, 3, 0, 122, 0), (5, .ifCond .eq 14, 3, 19, 0, 0), (8, .iload_n 2, 1, 2, 0, 0), (9, .iconst 1, 1, 0, 0, 1), (10, .if_icmp .lt 9, 3, 19, 0, 0), (13, .iload_n 2, 1, 2, 0, 0), (14, .bipush 9, 2, 0, 0, 9), (16, .if_icmp .le 5, 3, 21, 0, 0), (19, .iconst 0, 1, 0, 0, 0), (20, .ireturn, 1, 0, 1, 0), (21, .bipush 10, 2, 0, 0, 10), (23, .aload_n 0, 1, 0, 0, 0), (24, .getfield 101, 3, 12, 39, 0), (27, .iload_n 1, 1, 1, 0, 0), (28, .iaload, 1, 0, 0, 0), (29, .imul, 1, 0, 0, 0), (30, .iload_n 2, 1, 2, 0, 0), (31, .iadd, 1, 0, 0, 0), (32, .istore_n 3, 1, 3, 0, 0), (33, .aload_n 0, 1, 0, 0, 0), (34, .getfield 16, 3, 12, 7, 0), (37, .iload_n 3, 1, 3, 0, 0), (38, .iaload, 1, 0, 0, 0), (39, .ifCond .eq 17, 3, 56, 0, 0), (42, .aload_n 0, 1, 0, 0, 0), (43, .getfield 16, 3, 12, 7, 0), (46, .iload_n 3, 1, 3, 0, 0), (47, .iaload, 1, 0, 0, 0), (48, .iload_n 1, 1, 1, 0, 0), (49, .iconst 1, 1, 0, 0, 1), (50, .iadd, 1, 0, 0, 0), (51, .if_icmp .eq 5, 3, 56, 0, 0), (54, .iconst 0, 1, 0, 0, 0), (55, .ireturn, 1, 0, 1, 0), (56, .iconst 0, 1, 0, 0, 0), (57, .istore 4, 2, 4, 0, 0), (59, .iload 4, 2, 4, 0, 0), (61, .bipush 30, 2, 0, 0, 30), (63, .if_icmp .ge 40, 3, 103, 0, 0), (66, .aload_n 0, 1, 0, 0, 0), (67, .getfield 16, 3, 12, 7, 0), (70, .iload 4, 2, 4, 0, 0), (72, .aload_n 0, 1, 0, 0, 0), (73, .getfield 16, 3, 12, 7, 0), (76, .iload 4, 2, 4, 0, 0), (78, .iaload, 1, 0, 0, 0), (79, .iload_n 1, 1, 1, 0, 0), (80, .iconst 1, 1, 0, 0, 1), (81, .iadd, 1, 0, 0, 0), (82, .if_icmp .ne 7, 3, 89, 0, 0), (85, .iconst 0, 1, 0, 0, 0), (86, .goto 10, 3, 96, 0, 0), (89, .aload_n 0, 1, 0, 0, 0), (90, .getfield 16, 3, 12, 7, 0), (93, .iload 4, 2, 4, 0, 0), (95, .iaload, 1, 0, 0, 0), (96, .iastore, 1, 0, 0, 0), (97, .iinc 4 1, 3, 4, 0, 1), (100, .goto (-41), 3, 59, 0, 0), (103, .aload_n 0, 1, 0, 0, 0), (104, .getfield 16, 3, 12, 7, 0), (107, .iload_n 3, 1, 3, 0, 0), (108, .iload_n 1, 1, 1, 0, 0), (109, .iconst 1, 1, 0, 0, 1), (110, .iadd, 1, 0, 0, 0), (111, .iastore, 1, 0, 0, 0), (112, .iconst 1, 1, 0, 0, 1), (113, .ireturn, 1, 0, 1, 0)]
-- 128: BootNetModel.stranger(IZ)Z
def xt_c128 : List (Nat × Jvm.ClassFile.Instr × Nat × Nat × Nat × Int32) := [(0, .iload_n 1, 1, 1, 0, 0), (1, .invokestatic 175, 3, 6, 123, 0), (4, .ifCond .eq 13, 3, 17, 0, 0), (7, .aload_n 0, 1, 0, 0, 0), (8, .getfield 19, 3, 12, 8, 0), (11, .iload_n 1, 1, 1, 0, 0), (12, .baload, 1, 0, 0, 0), (13, .iload_n 2, 1, 2, 0, 0), (14, .if_icmp .ne 5, 3, 19, 0, 0), (17, .iconst 0, 1, 0, 0, 0), (18, .ireturn, 1, 0, 1, 0), (19, .aload_n 0, 1, 0, 0, 0), (20, .getfield 19, 3, 12, 8, 0), (23, .iload_n 1, 1, 1, 0, 0), (24, .iload_n 2, 1, 2, 0, 0), (25, .bastore, 1, 0, 0, 0), (26, .iconst 1, 1, 0, 0, 1), (27, .ireturn, 1, 0, 1, 0)]
-- 129: BootNetModel.put(II)Z
def xt_c129 : List (Nat × Jvm.ClassFile.Instr × Nat × Nat × Nat × Int32) := [(0, .iload_n 1, 1, 1, 0, 0), (1, .invokestatic 178, 3, 6, 124, 0), (4, .ifCond .eq 25, 3, 29, 0, 0), (7, .iload_n 2, 1, 2, 0, 0), (8, .ifCond .lt 21, 3, 29, 0, 0), (11, .iload_n 2, 1, 2, 0, 0), (12, .sipush 255, 3, 0, 0, 255), (15, .if_icmp .gt 14, 3, 29, 0, 0), (18, .aload_n 0, 1, 0, 0, 0), (19, .getfield 47, 3, 12, 18, 0), (22, .iload_n 1, 1, 1, 0, 0), (23, .iaload, 1, 0, 0, 0), (24, .bipush 40, 2, 0, 0, 40), (26, .if_icmp .ne 5, 3, 31, 0, 0), (29, .iconst 0, 1, 0, 0, 0), (30, .ireturn, 1, 0, 1, 0), (31, .aload_n 0, 1, 0, 0, 0), (32, .getfield 50, 3, 12, 19, 0), (35, .bipush 40, 2, 0, 0, 40), (37, .iload_n 1, 1, 1, 0, 0), (38, .imul, 1, 0, 0, 0), (39, .aload_n 0, 1, 0, 0, 0), (40, .getfield 47, 3, 12, 18, 0), (43, .iload_n 1, 1, 1, 0, 0), (44, .iaload, 1, 0, 0, 0), (45, .iadd, 1, 0, 0, 0), (46, .iload_n 2, 1, 2, 0, 0), (47, .iastore, 1, 0, 0, 0), (48, .aload_n 0, 1, 0, 0, 0), (49, .getfield 47, 3, 12, 18, 0), (52, .iload_n 1, 1, 1, 0, 0), (53, .dup2, 1, 0, 0, 0), (54, .iaload, 1, 0, 0, 0), (55, .iconst 1, 1, 0, 0, 1), (56, .iadd, 1, 0, 0, 0), (57, .iastore, 1, 0, 0, 0), (58, .iconst 1, 1, 0, 0, 1), (59, .ireturn, 1, 0, 1, 0)]
-- 130: BootNetModel.entry(III)Z
def xt_c130 : List (Nat × Jvm.ClassFile.Instr × Nat × Nat × Nat × Int32) := [(0, .iload_n 1, 1, 1, 0, 0), (1, .invokestatic 178, 3, 6, 124, 0), (4, .ifCond .eq 21, 3, 25, 0, 0), (7, .iload_n 2, 1, 2, 0, 0), (8, .ifCond .lt 17, 3, 25, 0, 0), (11, .iload_n 2, 1, 2, 0, 0), (12, .bipush 40, 2, 0, 0, 40), (14, .if_icmp .gt 11, 3, 25, 0, 0), (17, .aload_n 0, 1, 0, 0, 0), (18, .getfield 181, 3, 12, 20, 0), (21, .iconst 4, 1, 0, 0, 4), (22, .if_icmp .ne 5, 3, 27, 0, 0), (25, .iconst 0, 1, 0, 0, 0), (26, .ireturn, 1, 0, 1, 0), (27, .aload_n 0, 1, 0, 0, 0), (28, .getfield 53, 3, 12, 21, 0), (31, .aload_n 0, 1, 0, 0, 0), (32, .getfield 181, 3, 12, 20, 0), (35, .iload_n 1, 1, 1, 0, 0), (36, .iastore, 1, 0, 0, 0), (37, .aload_n 0, 1, 0, 0, 0), (38, .getfield 56, 3, 12, 22, 0), (41, .aload_n 0, 1, 0, 0, 0), (42, .getfield 181, 3, 12, 20, 0), (45, .iload_n 2, 1, 2, 0, 0), (46, .iastore, 1, 0, 0, 0), (47, .aload_n 0, 1, 0, 0, 0), (48, .getfield 59, 3, 12, 23, 0), (51, .aload_n 0, 1, 0, 0, 0), (52, .getfield 181, 3, 12, 20, 0), (55, .iload_n 3, 1, 3, 0, 0), (56, .iastore, 1, 0, 0, 0), (57, .aload_n 0, 1, 0, 0, 0), (58, .dup, 1, 0, 0, 0), (59, .getfield 181, 3, 12, 20, 0), (62, .iconst 1, 1, 0, 0, 1), (63, .iadd, 1, 0, 0, 0), (64, .putfield 181, 3, 12, 20, 0), (67, .iconst 1, 1, 0, 0, 1), (68, .ireturn, 1, 0, 1, 0)]
-- 131: BootNetModel.mixed(II)I
def xt_c131 : List (Nat × Jvm.ClassFile.Instr × Nat × Nat × Nat × Int32) := [(0, .iload_n 0, 1, 0, 0, 0), (1, .iload_n 1, 1, 1, 0, 0), (2, .ixor, 1, 0, 0, 0), (3, .istore_n 2, 1, 2, 0, 0), (4, .iconst 0, 1, 0, 0, 0), (5, .istore_n 3, 1, 3, 0, 0), (6, .iload_n 3, 1, 3, 0, 0), (7, .bipush 8, 2, 0, 0, 8), (9, .if_icmp .ge 29, 3, 38, 0, 0), (12, .iload_n 2, 1, 2, 0, 0), (13, .iconst 1, 1, 0, 0, 1), (14, .iand, 1, 0, 0, 0), (15, .iconst 1, 1, 0, 0, 1), (16, .if_icmp .ne 12, 3, 28, 0, 0), (19, .iload_n 2, 1, 2, 0, 0), (20, .iconst 1, 1, 0, 0, 1), (21, .iushr, 1, 0, 0, 0), (22, .ldc 184, 2, 0, 0, (-306674912)), (24, .ixor, 1, 0, 0, 0), (25, .goto 6, 3, 31, 0, 0), (28, .iload_n 2, 1, 2, 0, 0), (29, .iconst 1, 1, 0, 0, 1), (30, .iushr, 1, 0, 0, 0), (31, .istore_n 2, 1, 2, 0, 0), (32, .iinc 3 1, 3, 3, 0, 1), (35, .goto (-29), 3, 6, 0, 0), (38, .iload_n 2, 1, 2, 0, 0), (39, .ireturn, 1, 0, 0, 0)]
-- 132: BootNetModel.check(I)I
def xt_c132 : List (Nat × Jvm.ClassFile.Instr × Nat × Nat × Nat × Int32) := [(0, .iload_n 1, 1, 1, 0, 0), (1, .invokestatic 178, 3, 6, 124, 0), (4, .ifCond .ne 5, 3, 9, 0, 0), (7, .iconst 0, 1, 0, 0, 0), (8, .ireturn, 1, 0, 0, 0), (9, .iconst (-1), 1, 0, 0, (-1)), (10, .istore_n 2, 1, 2, 0, 0), (11, .iconst 0, 1, 0, 0, 0), (12, .istore_n 3, 1, 3, 0, 0), (13, .iload_n 3, 1, 3, 0, 0), (14, .aload_n 0, 1, 0, 0, 0), (15, .getfield 47, 3, 12, 18, 0), (18, .iload_n 1, 1, 1, 0, 0), (19, .iaload, 1, 0, 0, 0), (20, .if_icmp .ge 25, 3, 45, 0, 0), (23, .iload_n 2, 1, 2, 0, 0), (24, .aload_n 0, 1, 0, 0, 0), (25, .getfield 50, 3, 12, 19, 0), (28, .bipush 40, 2, 0, 0, 40), (30, .iload_n 1, 1, 1, 0, 0), (31, .imul, 1, 0, 0, 0), (32, .iload_n 3, 1, 3, 0, 0), (33, .iadd, 1, 0, 0, 0), (34, .iaload, 1, 0, 0, 0), (35, .invokestatic 185, 3, 6, 131, 0), (38, .istore_n 2, 1, 2, 0, 0), (39, .iinc 3 1, 3, 3, 0, 1), (42, .goto (-29), 3, 13, 0, 0), (45, .iload_n 2, 1, 2, 0, 0), (46, .iconst (-1), 1, 0, 0, (-1)), (47, .ixor, 1, 0, 0, 0), (48, .ireturn, 1, 0, 0, 0)]
-- 133: BootNetModel.toServer(I)Z
def xt_c133 : List (Nat × Jvm.ClassFile.Instr × Nat × Nat × Nat × Int32) := [(0, .iload_n 0, 1, 0, 0, 0), (1, .ifCond .eq 25, 3, 26, 0, 0), (4, .iload_n 0, 1, 0, 0, 0), (5, .iconst 2, 1, 0, 0, 2), (6, .if_icmp .eq 20, 3, 26, 0, 0), (9, .iload_n 0, 1, 0, 0, 0), (10, .iconst 5, 1, 0, 0, 5), (11, .if_icmp .eq 15, 3, 26, 0, 0), (14, .iload_n 0, 1, 0, 0, 0), (15, .bipush 8, 2, 0, 0, 8), (17, .if_icmp .eq 9, 3, 26, 0, 0), (20, .iload_n 0, 1, 0, 0, 0), (21, .bipush 10, 2, 0, 0, 10), (23, .if_icmp .ne 7, 3, 30, 0, 0), (26, .iconst 1, 1, 0, 0, 1), (27, .goto 4, 3, 31, 0, 0), (30, .iconst 0, 1, 0, 0, 0), (31, .ireturn, 1, 0, 1, 0)]
-- 134: BootNetModel.fromServer(I)Z
def xt_c134 : List (Nat × Jvm.ClassFile.Instr × Nat × Nat × Nat × Int32) := [(0, .iload_n 0, 1, 0, 0, 0), (1, .iconst 1, 1, 0, 0, 1), (2, .if_icmp .eq 25, 3, 27, 0, 0), (5, .iload_n 0, 1, 0, 0, 0), (6, .iconst 3, 1, 0, 0, 3), (7, .if_icmp .eq 20, 3, 27, 0, 0), (10, .iload_n 0, 1, 0, 0, 0), (11, .iconst 4, 1, 0, 0, 4), (12, .if_icmp .eq 15, 3, 27, 0, 0), (15, .iload_n 0, 1, 0, 0, 0), (16, .bipush 9, 2, 0, 0, 9), (18, .if_icmp .eq 9, 3, 27, 0, 0), (21, .iload_n 0, 1, 0, 0, 0), (22, .bipush 11, 2, 0, 0, 11), (24, .if_icmp .ne 7, 3, 31, 0, 0), (27, .iconst 1, 1, 0, 0, 1), (28, .goto 4, 3, 32, 0, 0), (31, .iconst 0, 1, 0, 0, 0), (32, .ireturn, 1, 0, 1, 0)]
-- 135: BootNetModel.send(IIIII)V
def xt_c135 : List (Nat × Jvm.ClassFile.Instr × Nat × Nat × Nat × Int32) := [(0, .aload_n 0, 1, 0, 0, 0), (1, .getfield 189, 3, 12, 9, 0), (4, .bipush 32, 2, 0, 0, 32), (6, .if_icmp .ne 4, 3, 10, 0, 0), (9, .return_, 1, 0, 0, 0), (10, .aload_n 0, 1, 0, 0, 0), (11, .getfield 23, 3, 12, 10, 0), (14, .aload_n 0, 1, 0, 0, 0), (15, .getfield 189, 3, 12, 9, 0), (18, .iload_n 1, 1, 1, 0, 0), (19, .iastore, 1, 0, 0, 0), (20, .aload_n 0, 1, 0, 0, 0), (21, .getfield 26, 3, 12, 11, 0), (24, .aload_n 0, 1, 0, 0, 0), (25, .getfield 189, 3, 12, 9, 0), (28, .iload_n 2, 1, 2, 0, 0), (29, .iastore, 1, 0, 0, 0), (30, .aload_n 0, 1, 0, 0, 0), (31, .getfield 29, 3, 12, 12, 0), (34, .aload_n 0, 1, 0, 0, 0), (35, .getfield 189, 3, 12, 9, 0), (38, .iload_n 3, 1, 3, 0, 0), (39, .iastore, 1, 0, 0, 0), (40, .aload_n 0, 1, 0, 0, 0), (41, .getfield 32, 3, 12, 13, 0), (44, .aload_n 0, 1, 0, 0, 0), (45, .getfield 189, 3, 12, 9, 0), (48, .iload 4, 2, 4, 0, 0), (50, .iastore, 1, 0, 0, 0), (51, .aload_n 0, 1, 0, 0, 0), (52, .getfield 35, 3, 12, 14, 0), (55, .aload_n 0, 1, 0, 0, 0), (56, .getfield 189, 3, 12, 9, 0), (59, .iload 5, 2, 5, 0, 0), (61, .iastore, 1, 0, 0, 0), (62, .aload_n 0, 1, 0, 0, 0), (63, .getfield 38, 3, 12, 15, 0), (66, .aload_n 0, 1, 0, 0, 0), (67, .getfield 189, 3, 12, 9, 0), (70, .iconst 0, 1, 0, 0, 0), (71, .iastore, 1, 0, 0, 0), (72, .aload_n 0, 1, 0, 0, 0), (73, .getfield 41, 3, 12, 16, 0), (76, .aload_n 0, 1, 0, 0, 0), (77, .getfield 189, 3, 12, 9, 0), (80, .iload_n 1, 1, 1, 0, 0), (81, .invokestatic 192, 3, 6, 134, 0), (84, .ifCond .eq 16, 3, 100, 0, 0), (87, .aload_n 0, 1, 0, 0, 0), (88, .getfield 101, 3, 12, 39, 0), (91, .iload_n 2, 1, 2, 0, 0), (92, .iaload, 1, 0, 0, 0), (93, .ifCond .eq 7, 3, 100, 0, 0), (96, .iconst 1, 1, 0, 0, 1), (97, .goto 4, 3, 101, 0, 0), (100, .iconst 0, 1, 0, 0, 0), (101, .iastore, 1, 0, 0, 0), (102, .aload_n 0, 1, 0, 0, 0), (103, .dup, 1, 0, 0, 0), (104, .getfield 189, 3, 12, 9, 0), (107, .iconst 1, 1, 0, 0, 1), (108, .iadd, 1, 0, 0, 0), (109, .putfield 189, 3, 12, 9, 0), (112, .return_, 1, 0, 0, 0)]
-- 136: BootNetModel.copy(II)V
def xt_c136 : List (Nat × Jvm.ClassFile.Instr × Nat × Nat × Nat × Int32) := [(0, .aload_n 0, 1, 0, 0, 0), (1, .getfield 23, 3, 12, 10, 0), (4, .iload_n 2, 1, 2, 0, 0), (5, .aload_n 0, 1, 0, 0, 0), (6, .getfield 23, 3, 12, 10, 0), (9, .iload_n 1, 1, 1, 0, 0), (10, .iaload, 1, 0, 0, 0), (11, .iastore, 1, 0, 0, 0), (12, .aload_n 0, 1, 0, 0, 0), (13, .getfield 26, 3, 12, 11, 0), (16, .iload_n 2, 1, 2, 0, 0), (17, .aload_n 0, 1, 0, 0, 0), (18, .getfield 26, 3, 12, 11, 0), (21, .iload_n 1, 1, 1, 0, 0), (22, .iaload, 1, 0, 0, 0), (23, .iastore, 1, 0, 0, 0), (24, .aload_n 0, 1, 0, 0, 0), (25, .getfield 29, 3, 12, 12, 0), (28, .iload_n 2, 1, 2, 0, 0), (29, .aload_n 0, 1, 0, 0, 0), (30, .getfield 29, 3, 12, 12, 0), (33, .iload_n 1, 1, 1, 0, 0), (34, .iaload, 1, 0, 0, 0), (35, .iastore, 1, 0, 0, 0), (36, .aload_n 0, 1, 0, 0, 0), (37, .getfield 32, 3, 12, 13, 0), (40, .iload_n 2, 1, 2, 0, 0), (41, .aload_n 0, 1, 0, 0, 0), (42, .getfield 32, 3, 12, 13, 0), (45, .iload_n 1, 1, 1, 0, 0), (46, .iaload, 1, 0, 0, 0), (47, .iastore, 1, 0, 0, 0), (48, .aload_n 0, 1, 0, 0, 0), (49, .getfield 35, 3, 12, 14, 0), (52, .iload_n 2, 1, 2, 0, 0), (53, .aload_n 0, 1, 0, 0, 0), (54, .getfield 35, 3, 12, 14, 0), (57, .iload_n 1, 1, 1, 0, 0), (58, .iaload, 1, 0, 0, 0), (59, .iastore, 1, 0, 0, 0), (60, .aload_n 0, 1, 0, 0, 0), (61, .getfield 38, 3, 12, 15, 0), (64, .iload_n 2, 1, 2, 0, 0), (65, .aload_n 0, 1, 0, 0, 0), (66, .getfield 38, 3, 12, 15, 0), (69, .iload_n 1, 1, 1, 0, 0), (70, .iaload, 1, 0, 0, 0), (71, .iastore, 1, 0, 0, 0), (72, .aload_n 0, 1, 0, 0, 0), (73, .getfield 41, 3, 12, 16, 0), (76, .iload_n 2, 1, 2, 0, 0), (77, .aload_n 0, 1, 0, 0, 0), (78, .getfield 41, 3, 12, 16, 0), (81, .iload_n 1, 1, 1, 0, 0), (82, .iaload, 1, 0, 0, 0), (83, .iastore, 1, 0, 0, 0), (84, .iconst 0, 1, 0, 0, 0), (85, .istore_n 3, 1, 3, 0, 0), (86, .iload_n 3, 1, 3, 0, 0), (87, .bipush 12, 2, 0, 0, 12), (89, .if_icmp .ge 31, 3, 120, 0, 0), (92, .aload_n 0, 1, 0, 0, 0), (93, .getfield 44, 3, 12, 17, 0), (96, .bipush 12, 2, 0, 0, 12), (98, .iload_n 2, 1, 2, 0, 0), (99, .imul, 1, 0, 0, 0), (100, .iload_n 3, 1, 3, 0, 0), (101, .iadd, 1, 0, 0, 0), (102, .aload_n 0, 1, 0, 0, 0), (103, .getfield 44, 3, 12, 17, 0), (106, .bipush 12, 2, 0, 0, 12), (108, .iload_n 1, 1, 1, 0, 0), (109, .imul, 1, 0, 0, 0), (110, .iload_n 3, 1, 3, 0, 0), (111, .iadd, 1, 0, 0, 0), (112, .iaload, 1, 0, 0, 0), (113, .iastore, 1, 0, 0, 0), (114, .iinc 3 1, 3, 3, 0, 1), (117, .goto (-31), 3, 86, 0, 0), (120, .return_, 1, 0, 0, 0)]
-- 137: BootNetModel.take(I)V
def xt_c137 : List (Nat × Jvm.ClassFile.Instr × Nat × Nat × Nat × Int32) := [(0, .aload_n 0, 1, 0, 0, 0), (1, .dup, 1, 0, 0, 0), (2, .getfield 189, 3, 12, 9, 0), (5, .iconst 1, 1, 0, 0, 1), (6, .isub, 1, 0, 0, 0), (7, .putfield 189, 3, 12, 9, 0), (10, .iload_n 1, 1, 1, 0, 0), (11, .istore_n 2, 1, 2, 0, 0), (12, .iload_n 2, 1, 2, 0, 0), (13, .aload_n 0, 1, 0, 0, 0), (14, .getfield 189, 3, 12, 9, 0), (17, .if_icmp .ge 17, 3, 34, 0, 0), (20, .aload_n 0, 1, 0, 0, 0), (21, .iload_n 2, 1, 2, 0, 0), (22, .iconst 1, 1, 0, 0, 1), (23, .iadd, 1, 0, 0, 0), (24, .iload_n 2, 1, 2, 0, 0), (25, .invokevirtual 195, 3, 0, 136, 0), (28, .iinc 2 1, 3, 2, 0, 1), (31, .goto (-19), 3, 12, 0, 0), (34, .return_, 1, 0, 0, 0)]
-- 138: BootNetModel.alter(IZ)Z
def xt_c138 : List (Nat × Jvm.ClassFile.Instr × Nat × Nat × Nat × Int32) := [(0, .iload_n 1, 1, 1, 0, 0), (1, .ifCond .lt 24, 3, 25, 0, 0), (4, .iload_n 1, 1, 1, 0, 0), (5, .aload_n 0, 1, 0, 0, 0), (6, .getfield 189, 3, 12, 9, 0), (9, .if_icmp .ge 16, 3, 25, 0, 0), (12, .iload_n 2, 1, 2, 0, 0), (13, .ifCond .eq 14, 3, 27, 0, 0), (16, .aload_n 0, 1, 0, 0, 0), (17, .getfield 189, 3, 12, 9, 0), (20, .bipush 32, 2, 0, 0, 32), (22, .if_icmp .ne 5, 3, 27, 0, 0), (25, .iconst 0, 1, 0, 0, 0), (26, .ireturn, 1, 0, 1, 0), (27, .iload_n 2, 1, 2, 0, 0), (28, .ifCond .eq 25, 3, 53, 0, 0), (31, .aload_n 0, 1, 0, 0, 0), (32, .iload_n 1, 1, 1, 0, 0), (33, .aload_n 0, 1, 0, 0, 0), (34, .getfield 189, 3, 12, 9, 0), (37, .invokevirtual 195, 3, 0, 136, 0), (40, .aload_n 0, 1, 0, 0, 0), (41, .dup, 1, 0, 0, 0), (42, .getfield 189, 3, 12, 9, 0), (45, .iconst 1, 1, 0, 0, 1), (46, .iadd, 1, 0, 0, 0), (47, .putfield 189, 3, 12, 9, 0), (50, .goto 8, 3, 58, 0, 0), (53, .aload_n 0, 1, 0, 0, 0), (54, .iload_n 1, 1, 1, 0, 0), (55, .invokevirtual 199, 3, 0, 137, 0), (58, .iconst 1, 1, 0, 0, 1), (59, .ireturn, 1, 0, 1, 0)]
-- 139: BootNetModel.deliver(I)I
def xt_c139 : List (Nat × Jvm.ClassFile.Instr × Nat × Nat × Nat × Int32) := [(0, .iload_n 1, 1, 1, 0, 0), (1, .ifCond .lt 11, 3, 12, 0, 0), (4, .iload_n 1, 1, 1, 0, 0), (5, .aload_n 0, 1, 0, 0, 0), (6, .getfield 189, 3, 12, 9, 0), (9, .if_icmp .lt 5, 3, 14, 0, 0), (12, .iconst (-1), 1, 0, 0, (-1)), (13, .ireturn, 1, 0, 0, 0), (14, .aload_n 0, 1, 0, 0, 0), (15, .getfield 23, 3, 12, 10, 0), (18, .iload_n 1, 1, 1, 0, 0), (19, .iaload, 1, 0, 0, 0), (20, .istore_n 2, 1, 2, 0, 0), (21, .aload_n 0, 1, 0, 0, 0), (22, .getfield 26, 3, 12, 11, 0), (25, .iload_n 1, 1, 1, 0, 0), (26, .iaload, 1, 0, 0, 0), (27, .istore_n 3, 1, 3, 0, 0), (28, .aload_n 0, 1, 0, 0, 0), (29, .getfield 101, 3, 12, 39, 0), (32, .iload_n 3, 1, 3, 0, 0), (33, .iaload, 1, 0, 0, 0), (34, .ifCond .eq 40, 3, 74, 0, 0), (37, .iload_n 2, 1, 2, 0, 0), (38, .invokestatic 203, 3, 6, 133, 0), (41, .ifCond .eq 12, 3, 53, 0, 0), (44, .aload_n 0, 1, 0, 0, 0), (45, .getfield 41, 3, 12, 16, 0), (48, .iload_n 1, 1, 1, 0, 0), (49, .iaload, 1, 0, 0, 0), (50, .ifCond .eq 20, 3, 70, 0, 0), (53, .iload_n 2, 1, 2, 0, 0), (54, .invokestatic 192, 3, 6, 134, 0), (57, .ifCond .eq 17, 3, 74, 0, 0), (60, .aload_n 0, 1, 0, 0, 0), (61, .getfield 41, 3, 12, 16, 0), (64, .iload_n 1, 1, 1, 0, 0), (65, .iaload, 1, 0, 0, 0), (66, .iconst 1, 1, 0, 0, 1), (67, .if_icmp .ne 7, 3, 74, 0, 0), (70, .iconst 1, 1, 0, 0, 1), (71, .goto 4, 3, 75, 0, 0), (74, .iconst 0, 1, 0, 0, 0), (75, .istore 4, 2, 4, 0, 0), (77, .aload_n 0, 1, 0, 0, 0), (78, .getfield 29, 3, 12, 12, 0), (81, .iload_n 1, 1, 1, 0, 0), (82, .iaload, 1, 0, 0, 0), (83, .istore 5, 2, 5, 0, 0), (85, .aload_n 0, 1, 0, 0, 0), (86, .getfield 32, 3, 12, 13, 0), (89, .iload_n 1, 1, 1, 0, 0), (90, .iaload, 1, 0, 0, 0), (91, .istore 6, 2, 6, 0, 0), (93, .aload_n 0, 1, 0, 0, 0), (94, .getfield 35, 3, 12, 14, 0), (97, .iload_n 1, 1, 1, 0, 0), (98, .iaload, 1, 0, 0, 0), (99, .istore 7, 2, 7, 0, 0), (101, .aload_n 0, 1, 0, 0, 0), (102, .getfield 38, 3, 12, 15, 0), (105, .iload_n 1, 1, 1, 0, 0), (106, .iaload, 1, 0, 0, 0), (107, .istore 8, 2, 8, 0, 0), (109, .aload_n 0, 1, 0, 0, 0), (110, .getfield 189, 3, 12, 9, 0), (113, .iconst 1, 1, 0, 0, 1), (114, .isub, 1, 0, 0, 0), (115, .istore 9, 2, 9, 0, 0), (117, .iload_n 1, 1, 1, 0, 0), (118, .istore 10, 2, 10, 0, 0), (120, .iload 10, 2, 10, 0, 0), (122, .iload 9, 2, 9, 0, 0), (124, .if_icmp .ge 19, 3, 143, 0, 0), (127, .aload_n 0, 1, 0, 0, 0), (128, .iload 10, 2, 10, 0, 0), (130, .iload 10, 2, 10, 0, 0), (132, .iconst 1, 1, 0, 0, 1), (133, .iadd, 1, 0, 0, 0), (134, .invokevirtual 206, 3, 0, 140, 0), (137, .iinc 10 1, 3, 10, 0, 1), (140, .goto (-20), 3, 120, 0, 0), (143, .iload 4, 2, 4, 0, 0), (145, .ifCond .eq 21, 3, 166, 0, 0), (148, .aload_n 0, 1, 0, 0, 0), (149, .getfield 41, 3, 12, 16, 0), (152, .iload 9, 2, 9, 0, 0), (154, .iconst 1, 1, 0, 0, 1), (155, .aload_n 0, 1, 0, 0, 0), (156, .getfield 41, 3, 12, 16, 0), (159, .iload 9, 2, 9, 0, 0), (161, .iaload, 1, 0, 0, 0), (162, .isub, 1, 0, 0, 0), (163, .iastore, 1, 0, 0, 0), (164, .iload_n 2, 1, 2, 0, 0), (165, .ireturn, 1, 0, 0, 0), (166, .iconst 0, 1, 0, 0, 0), (167, .istore 10, 2, 10, 0, 0), (169, .iload 10, 2, 10, 0, 0), (171, .bipush 12, 2, 0, 0, 12), (173, .if_icmp .ge 29, 3, 202, 0, 0), (176, .aload_n 0, 1, 0, 0, 0), (177, .getfield 152, 3, 12, 56, 0), (180, .iload 10, 2, 10, 0, 0), (182, .aload_n 0, 1, 0, 0, 0), (183, .getfield 44, 3, 12, 17, 0), (186, .bipush 12, 2, 0, 0, 12), (188, .iload 9, 2, 9, 0, 0), (190, .imul, 1, 0, 0, 0), (191, .iload 10, 2, 10, 0, 0), (193, .iadd, 1, 0, 0, 0), (194, .iaload, 1, 0, 0, 0), (195, .iastore, 1, 0, 0, 0), (196, .iinc 10 1, 3, 10, 0, 1), (199, .goto (-30), 3, 169, 0, 0), (202, .aload_n 0, 1, 0, 0, 0), (203, .dup, 1, 0, 0, 0), (204, .getfield 189, 3, 12, 9, 0), (207, .iconst 1, 1, 0, 0, 1), (208, .isub, 1, 0, 0, 0), (209, .putfield 189, 3, 12, 9, 0), (212, .iload_n 2, 1, 2, 0, 0), (213, .invokestatic 203, 3, 6, 133, 0), (216, .ifCond .eq 18, 3, 234, 0, 0), (219, .aload_n 0, 1, 0, 0, 0), (220, .iload_n 2, 1, 2, 0, 0), (221, .iload_n 3, 1, 3, 0, 0), (222, .iload 5, 2, 5, 0, 0), (224, .iload 6, 2, 6, 0, 0), (226, .iload 7, 2, 7, 0, 0), (228, .invokevirtual 209, 3, 0, 146, 0), (231, .goto 33, 3, 264, 0, 0), (234, .iload_n 2, 1, 2, 0, 0), (235, .bipush 6, 2, 0, 0, 6), (237, .if_icmp .ne 13, 3, 250, 0, 0), (240, .aload_n 0, 1, 0, 0, 0), (241, .iload_n 3, 1, 3, 0, 0), (242, .iload 6, 2, 6, 0, 0), (244, .invokevirtual 213, 3, 0, 163, 0), (247, .goto 17, 3, 264, 0, 0), (250, .aload_n 0, 1, 0, 0, 0), (251, .iload_n 2, 1, 2, 0, 0), (252, .iload_n 3, 1, 3, 0, 0), (253, .iload 5, 2, 5, 0, 0), (255, .iload 6, 2, 6, 0, 0), (257, .iload 7, 2, 7, 0, 0), (259, .iload 8, 2, 8, 0, 0), (261, .invokevirtual 216, 3, 0, 164, 0), (264, .iload_n 2, 1, 2, 0, 0), (265, .ireturn, 1, 0, 0, 0)]
-- 140: BootNetModel.swap(II)V
def xt_c140 : List (Nat × Jvm.ClassFile.Instr × Nat × Nat × Nat × Int32) := [(0, .aload_n 0, 1, 0, 0, 0), (1, .getfield 155, 3, 12, 57, 0), (4, .iconst 0, 1, 0, 0, 0), (5, .aload_n 0, 1, 0, 0, 0), (6, .getfield 23, 3, 12, 10, 0), (9, .iload_n 1, 1, 1, 0, 0), (10, .iaload, 1, 0, 0, 0), (11, .iastore, 1, 0, 0, 0), (12, .aload_n 0, 1, 0, 0, 0), (13, .getfield 155, 3, 12, 57, 0), (16, .iconst 1, 1, 0, 0, 1), (17, .aload_n 0, 1, 0, 0, 0), (18, .getfield 26, 3, 12, 11, 0), (21, .iload_n 1, 1, 1, 0, 0), (22, .iaload, 1, 0, 0, 0), (23, .iastore, 1, 0, 0, 0), (24, .aload_n 0, 1, 0, 0, 0), (25, .getfield 155, 3, 12, 57, 0), (28, .iconst 2, 1, 0, 0, 2), (29, .aload_n 0, 1, 0, 0, 0), (30, .getfield 29, 3, 12, 12, 0), (33, .iload_n 1, 1, 1, 0, 0), (34, .iaload, 1, 0, 0, 0), (35, .iastore, 1, 0, 0, 0), (36, .aload_n 0, 1, 0, 0, 0), (37, .getfield 155, 3, 12, 57, 0), (40, .iconst 3, 1, 0, 0, 3), (41, .aload_n 0, 1, 0, 0, 0), (42, .getfield 32, 3, 12, 13, 0), (45, .iload_n 1, 1, 1, 0, 0), (46, .iaload, 1, 0, 0, 0), (47, .iastore, 1, 0, 0, 0), (48, .aload_n 0, 1, 0, 0, 0), (49, .getfield 155, 3, 12, 57, 0), (52, .iconst 4, 1, 0, 0, 4), (53, .aload_n 0, 1, 0, 0, 0), (54, .getfield 35, 3, 12, 14, 0), (57, .iload_n 1, 1, 1, 0, 0), (58, .iaload, 1, 0, 0, 0), (59, .iastore, 1, 0, 0, 0), (60, .aload_n 0, 1, 0, 0, 0), (61, .getfield 155, 3, 12, 57, 0), (64, .iconst 5, 1, 0, 0, 5), (65, .aload_n 0, 1, 0, 0, 0), (66, .getfield 38, 3, 12, 15, 0), (69, .iload_n 1, 1, 1, 0, 0), (70, .iaload, 1, 0, 0, 0), (71, .iastore, 1, 0, 0, 0), (72, .aload_n 0, 1, 0, 0, 0), (73, .getfield 155, 3, 12, 57, 0), (76, .bipush 6, 2, 0, 0, 6), (78, .aload_n 0, 1, 0, 0, 0), (79, .getfield 41, 3, 12, 16, 0), (82, .iload_n 1, 1, 1, 0, 0), (83, .iaload, 1, 0, 0, 0), (84, .iastore, 1, 0, 0, 0), (85, .iconst 0, 1, 0, 0, 0), (86, .istore_n 3, 1, 3, 0, 0), (87, .iload_n 3, 1, 3, 0, 0), (88, .bipush 12, 2, 0, 0, 12), (90, .if_icmp .ge 26, 3, 116, 0, 0), (93, .aload_n 0, 1, 0, 0, 0), (94, .getfield 152, 3, 12, 56, 0), (97, .iload_n 3, 1, 3, 0, 0), (98, .aload_n 0, 1, 0, 0, 0), (99, .getfield 44, 3, 12, 17, 0), (102, .bipush 12, 2, 0, 0, 12), (104, .iload_n 1, 1, 1, 0, 0), (105, .imul, 1, 0, 0, 0), (106, .iload_n 3, 1, 3, 0, 0), (107, .iadd, 1, 0, 0, 0), (108, .iaload, 1, 0, 0, 0), (109, .iastore, 1, 0, 0, 0), (110, .iinc 3 1, 3, 3, 0, 1), (113, .goto (-26), 3, 87, 0, 0), (116, .aload_n 0, 1, 0, 0, 0), (117, .iload_n 2, 1, 2, 0, 0), (118, .iload_n 1, 1, 1, 0, 0), (119, .invokevirtual 195, 3, 0, 136, 0), (122, .aload_n 0, 1, 0, 0, 0), (123, .getfield 23, 3, 12, 10, 0), (126, .iload_n 2, 1, 2, 0, 0), (127, .aload_n 0, 1, 0, 0, 0), (128, .getfield 155, 3, 12, 57, 0), (131, .iconst 0, 1, 0, 0, 0), (132, .iaload, 1, 0, 0, 0), (133, .iastore, 1, 0, 0, 0), (134, .aload_n 0, 1, 0, 0, 0), (135, .getfield 26, 3, 12, 11, 0), (138, .iload_n 2, 1, 2, 0, 0), (139, .aload_n 0, 1, 0, 0, 0), (140, .getfield 155, 3, 12, 57, 0), (143, .iconst 1, 1, 0, 0, 1), (144, .iaload, 1, 0, 0, 0), (145, .iastore, 1, 0, 0, 0), (146, .aload_n 0, 1, 0, 0, 0), (147, .getfield 29, 3, 12, 12, 0), (150, .iload_n 2, 1, 2, 0, 0), (151, .aload_n 0, 1, 0, 0, 0), (152, .getfield 155, 3, 12, 57, 0), (155, .iconst 2, 1, 0, 0, 2), (156, .iaload, 1, 0, 0, 0), (157, .iastore, 1, 0, 0, 0), (158, .aload_n 0, 1, 0, 0, 0), (159, .getfield 32, 3, 12, 13, 0), (162, .iload_n 2, 1, 2, 0, 0), (163, .aload_n 0, 1, 0, 0, 0), (164, .getfield 155, 3, 12, 57, 0), (167, .iconst 3, 1, 0, 0, 3), (168, .iaload, 1, 0, 0, 0), (169, .iastore, 1, 0, 0, 0), (170, .aload_n 0, 1, 0, 0, 0), (171, .getfield 35, 3, 12, 14, 0), (174, .iload_n 2, 1, 2, 0, 0), (175, .aload_n 0, 1, 0, 0, 0), (176, .getfield 155, 3, 12, 57, 0), (179, .iconst 4, 1, 0, 0, 4), (180, .iaload, 1, 0, 0, 0), (181, .iastore, 1, 0, 0, 0), (182, .aload_n 0, 1, 0, 0, 0), (183, .getfield 38, 3, 12, 15, 0), (186, .iload_n 2, 1, 2, 0, 0), (187, .aload_n 0, 1, 0, 0, 0), (188, .getfield 155, 3, 12, 57, 0), (191, .iconst 5, 1, 0, 0, 5), (192, .iaload, 1, 0, 0, 0), (193, .iastore, 1, 0, 0, 0), (194, .aload_n 0, 1, 0, 0, 0), (195, .getfield 41, 3, 12, 16, 0), (198, .iload_n 2, 1, 2, 0, 0), (199, .aload_n 0, 1, 0, 0, 0), (200, .getfield 155, 3, 12, 57, 0), (203, .bipush 6, 2, 0, 0, 6), (205, .iaload, 1, 0, 0, 0), (206, .iastore, 1, 0, 0, 0), (207, .iconst 0, 1, 0, 0, 0), (208, .istore_n 3, 1, 3, 0, 0), (209, .iload_n 3, 1, 3, 0, 0), (210, .bipush 12, 2, 0, 0, 12), (212, .if_icmp .ge 26, 3, 238, 0, 0), (215, .aload_n 0, 1, 0, 0, 0), (216, .getfield 44, 3, 12, 17, 0), (219, .bipush 12, 2, 0, 0, 12), (221, .iload_n 2, 1, 2, 0, 0), (222, .imul, 1, 0, 0, 0), (223, .iload_n 3, 1, 3, 0, 0), (224, .iadd, 1, 0, 0, 0), (225, .aload_n 0, 1, 0, 0, 0), (226, .getfield 152, 3, 12, 56, 0), (229, .iload_n 3, 1, 3, 0, 0), (230, .iaload, 1, 0, 0, 0), (231, .iastore, 1, 0, 0, 0), (232, .iinc 3 1, 3, 3, 0, 1), (235, .goto (-26), 3, 209, 0, 0), (238, .return_, 1, 0, 0, 0)]
-- 141: BootNetModel.message(II)I
def xt_c141 : List (Nat × Jvm.ClassFile.Instr × Nat × Nat × Nat × Int32) := [(0, .iload_n 1, 1, 1, 0, 0), (1, .ifCond .lt 21, 3, 22, 0, 0), (4, .iload_n 1, 1, 1, 0, 0), (5, .aload_n 0, 1, 0, 0, 0), (6, .getfield 189, 3, 12, 9, 0), (9, .if_icmp .ge 13, 3, 22, 0, 0), (12, .iload_n 2, 1, 2, 0, 0), (13, .ifCond .lt 9, 3, 22, 0, 0), (16, .iload_n 2, 1, 2, 0, 0), (17, .bipush 6, 2, 0, 0, 6), (19, .if_icmp .le 5, 3, 24, 0, 0), (22, .iconst (-1), 1, 0, 0, (-1)), (23, .ireturn, 1, 0, 0, 0), (24, .iload_n 2, 1, 2, 0, 0), (25, .ifCond .ne 12, 3, 37, 0, 0), (28, .aload_n 0, 1, 0, 0, 0), (29, .getfield 23, 3, 12, 10, 0), (32, .iload_n 1, 1, 1, 0, 0), (33, .iaload, 1, 0, 0, 0), (34, .goto 79, 3, 113, 0, 0), (37, .iload_n 2, 1, 2, 0, 0), (38, .iconst 1, 1, 0, 0, 1), (39, .if_icmp .ne 12, 3, 51, 0, 0), (42, .aload_n 0, 1, 0, 0, 0), (43, .getfield 26, 3, 12, 11, 0), (46, .iload_n 1, 1, 1, 0, 0), (47, .iaload, 1, 0, 0, 0), (48, .goto 65, 3, 113, 0, 0), (51, .iload_n 2, 1, 2, 0, 0), (52, .iconst 2, 1, 0, 0, 2), (53, .if_icmp .ne 12, 3, 65, 0, 0), (56, .aload_n 0, 1, 0, 0, 0), (57, .getfield 29, 3, 12, 12, 0), (60, .iload_n 1, 1, 1, 0, 0), (61, .iaload, 1, 0, 0, 0), (62, .goto 51, 3, 113, 0, 0), (65, .iload_n 2, 1, 2, 0, 0), (66, .iconst 3, 1, 0, 0, 3), (67, .if_icmp .ne 12, 3, 79, 0, 0), (70, .aload_n 0, 1, 0, 0, 0), (71, .getfield 32, 3, 12, 13, 0), (74, .iload_n 1, 1, 1, 0, 0), (75, .iaload, 1, 0, 0, 0), (76, .goto 37, 3, 113, 0, 0), (79, .iload_n 2, 1, 2, 0, 0), (80, .iconst 4, 1, 0, 0, 4), (81, .if_icmp .ne 12, 3, 93, 0, 0), (84, .aload_n 0, 1, 0, 0, 0), (85, .getfield 35, 3, 12, 14, 0), (88, .iload_n 1, 1, 1, 0, 0), (89, .iaload, 1, 0, 0, 0), (90, .goto 23, 3, 113, 0, 0), (93, .iload_n 2, 1, 2, 0, 0), (94, .iconst 5, 1, 0, 0, 5), (95, .if_icmp .ne 12, 3, 107, 0, 0), (98, .aload_n 0, 1, 0, 0, 0), (99, .getfield 38, 3, 12, 15, 0), (102, .iload_n 1, 1, 1, 0, 0), (103, .iaload, 1, 0, 0, 0), (104, .goto 9, 3, 113, 0, 0), (107, .aload_n 0, 1, 0, 0, 0), (108, .getfield 41, 3, 12, 16, 0), (111, .iload_n 1, 1, 1, 0, 0), (112, .iaload, 1, 0, 0, 0), (113, .ireturn, 1, 0, 0, 0)]
-- 142: BootNetModel.leased(II)Z
def xt_c142 : List (Nat × Jvm.ClassFile.Instr × Nat × Nat × Nat × Int32) := [(0, .aload_n 0, 1, 0, 0, 0), (1, .getfield 65, 3, 12, 25, 0), (4, .iload_n 1, 1, 1, 0, 0), (5, .iaload, 1, 0, 0, 0), (6, .aload_n 0, 1, 0, 0, 0), (7, .getfield 220, 3, 12, 3, 0), (10, .if_icmp .le 17, 3, 27, 0, 0), (13, .aload_n 0, 1, 0, 0, 0), (14, .getfield 62, 3, 12, 24, 0), (17, .iload_n 1, 1, 1, 0, 0), (18, .iaload, 1, 0, 0, 0), (19, .iload_n 2, 1, 2, 0, 0), (20, .if_icmp .ne 7, 3, 27, 0, 0), (23, .iconst 1, 1, 0, 0, 1), (24, .goto 4, 3, 28, 0, 0), (27, .iconst 0, 1, 0, 0, 0), (28, .ireturn, 1, 0, 1, 0)]
-- 143: BootNetModel.offered(II)Z
def xt_c143 : List (Nat × Jvm.ClassFile.Instr × Nat × Nat × Nat × Int32) := [(0, .aload_n 0, 1, 0, 0, 0), (1, .getfield 71, 3, 12, 27, 0), (4, .iload_n 1, 1, 1, 0, 0), (5, .iaload, 1, 0, 0, 0), (6, .aload_n 0, 1, 0, 0, 0), (7, .getfield 220, 3, 12, 3, 0), (10, .if_icmp .le 17, 3, 27, 0, 0), (13, .aload_n 0, 1, 0, 0, 0), (14, .getfield 68, 3, 12, 26, 0), (17, .iload_n 1, 1, 1, 0, 0), (18, .iaload, 1, 0, 0, 0), (19, .iload_n 2, 1, 2, 0, 0), (20, .if_icmp .ne 7, 3, 27, 0, 0), (23, .iconst 1, 1, 0, 0, 1), (24, .goto 4, 3, 28, 0, 0), (27, .iconst 0, 1, 0, 0, 0), (28, .ireturn, 1, 0, 1, 0)]
-- 144: BootNetModel.free(II)Z
def xt_c144 : List (Nat × Jvm.ClassFile.Instr × Nat × Nat × Nat × Int32) := [(0, .aload_n 0, 1, 0, 0, 0), (1, .getfield 65, 3, 12, 25, 0), (4, .iload_n 1, 1, 1, 0, 0), (5, .iaload, 1, 0, 0, 0), (6, .aload_n 0, 1, 0, 0, 0), (7, .getfield 220, 3, 12, 3, 0), (10, .if_icmp .le 13, 3, 23, 0, 0), (13, .aload_n 0, 1, 0, 0, 0), (14, .getfield 62, 3, 12, 24, 0), (17, .iload_n 1, 1, 1, 0, 0), (18, .iaload, 1, 0, 0, 0), (19, .iload_n 2, 1, 2, 0, 0), (20, .if_icmp .ne 26, 3, 46, 0, 0), (23, .aload_n 0, 1, 0, 0, 0), (24, .getfield 71, 3, 12, 27, 0), (27, .iload_n 1, 1, 1, 0, 0), (28, .iaload, 1, 0, 0, 0), (29, .aload_n 0, 1, 0, 0, 0), (30, .getfield 220, 3, 12, 3, 0), (33, .if_icmp .le 17, 3, 50, 0, 0), (36, .aload_n 0, 1, 0, 0, 0), (37, .getfield 68, 3, 12, 26, 0), (40, .iload_n 1, 1, 1, 0, 0), (41, .iaload, 1, 0, 0, 0), (42, .iload_n 2, 1, 2, 0, 0), (43, .if_icmp .eq 7, 3, 50, 0, 0), (46, .iconst 1, 1, 0, 0, 1), (47, .goto 4, 3, 51, 0, 0), (50, .iconst 0, 1, 0, 0, 0), (51, .istore_n 3, 1, 3, 0, 0), (52, .aload_n 0, 1, 0, 0, 0), (53, .getfield 74, 3, 12, 28, 0), (56, .iload_n 1, 1, 1, 0, 0), (57, .iaload, 1, 0, 0, 0), (58, .aload_n 0, 1, 0, 0, 0), (59, .getfield 220, 3, 12, 3, 0), (62, .if_icmp .gt 32, 3, 94, 0, 0), (65, .iload_n 3, 1, 3, 0, 0), (66, .ifCond .ne 28, 3, 94, 0, 0), (69, .aload_n 0, 1, 0, 0, 0), (70, .getfield 16, 3, 12, 7, 0), (73, .iload_n 1, 1, 1, 0, 0), (74, .iaload, 1, 0, 0, 0), (75, .ifCond .eq 15, 3, 90, 0, 0), (78, .aload_n 0, 1, 0, 0, 0), (79, .getfield 16, 3, 12, 7, 0), (82, .iload_n 1, 1, 1, 0, 0), (83, .iaload, 1, 0, 0, 0), (84, .iload_n 2, 1, 2, 0, 0), (85, .iconst 1, 1, 0, 0, 1), (86, .iadd, 1, 0, 0, 0), (87, .if_icmp .ne 7, 3, 94, 0, 0), (90, .iconst 1, 1, 0, 0, 1), (91, .goto 4, 3, 95, 0, 0), (94, .iconst 0, 1, 0, 0, 0), (95, .ireturn, 1, 0, 1, 0)]
-- 145: BootNetModel.choice(I)I
def xt_c145 : List (Nat × Jvm.ClassFile.Instr × Nat × Nat × Nat × Int32) := [(0, .iconst 1, 1, 0, 0, 1), (1, .istore_n 2, 1, 2, 0, 0), (2, .iload_n 2, 1, 2, 0, 0), (3, .bipush 30, 2, 0, 0, 30), (5, .if_icmp .ge 29, 3, 34, 0, 0), (8, .aload_n 0, 1, 0, 0, 0), (9, .iload_n 2, 1, 2, 0, 0), (10, .iload_n 1, 1, 1, 0, 0), (11, .invokevirtual 223, 3, 0, 142, 0), (14, .ifCond .eq 14, 3, 28, 0, 0), (17, .aload_n 0, 1, 0, 0, 0), (18, .iload_n 2, 1, 2, 0, 0), (19, .iload_n 1, 1, 1, 0, 0), (20, .invokevirtual 227, 3, 0, 144, 0), (23, .ifCond .eq 5, 3, 28, 0, 0), (26, .iload_n 2, 1, 2, 0, 0), (27, .ireturn, 1, 0, 0, 0), (28, .iinc 2 1, 3, 2, 0, 1), (31, .goto (-29), 3, 2, 0, 0), (34, .iconst 1, 1, 0, 0, 1), (35, .istore_n 2, 1, 2, 0, 0), (36, .iload_n 2, 1, 2, 0, 0), (37, .bipush 30, 2, 0, 0, 30), (39, .if_icmp .ge 32, 3, 71, 0, 0), (42, .aload_n 0, 1, 0, 0, 0), (43, .getfield 16, 3, 12, 7, 0), (46, .iload_n 2, 1, 2, 0, 0), (47, .iaload, 1, 0, 0, 0), (48, .iload_n 1, 1, 1, 0, 0), (49, .iconst 1, 1, 0, 0, 1), (50, .iadd, 1, 0, 0, 0), (51, .if_icmp .ne 14, 3, 65, 0, 0), (54, .aload_n 0, 1, 0, 0, 0), (55, .iload_n 2, 1, 2, 0, 0), (56, .iload_n 1, 1, 1, 0, 0), (57, .invokevirtual 227, 3, 0, 144, 0), (60, .ifCond .eq 5, 3, 65, 0, 0), (63, .iload_n 2, 1, 2, 0, 0), (64, .ireturn, 1, 0, 0, 0), (65, .iinc 2 1, 3, 2, 0, 1), (68, .goto (-32), 3, 36, 0, 0), (71, .aload_n 0, 1, 0, 0, 0), (72, .getfield 101, 3, 12, 39, 0), (75, .iload_n 1, 1, 1, 0, 0), (76, .iaload, 1, 0, 0, 0), (77, .istore_n 2, 1, 2, 0, 0), (78, .iconst 1, 1, 0, 0, 1), (79, .istore_n 3, 1, 3, 0, 0), (80, .iload_n 3, 1, 3, 0, 0), (81, .bipush 10, 2, 0, 0, 10), (83, .if_icmp .ge 59, 3, 142, 0, 0), (86, .aload_n 0, 1, 0, 0, 0), (87, .getfield 7, 3, 12, 5, 0), (90, .iload_n 2, 1, 2, 0, 0), (91, .iaload, 1, 0, 0, 0), (92, .ifCond .le 44, 3, 136, 0, 0), (95, .iload_n 3, 1, 3, 0, 0), (96, .aload_n 0, 1, 0, 0, 0), (97, .getfield 7, 3, 12, 5, 0), (100, .iload_n 2, 1, 2, 0, 0), (101, .iaload, 1, 0, 0, 0), (102, .if_icmp .lt 34, 3, 136, 0, 0), (105, .iload_n 3, 1, 3, 0, 0), (106, .aload_n 0, 1, 0, 0, 0), (107, .getfield 13, 3, 12, 6, 0), (110, .iload_n 2, 1, 2, 0, 0), (111, .iaload, 1, 0, 0, 0), (112, .if_icmp .gt 24, 3, 136, 0, 0), (115, .aload_n 0, 1, 0, 0, 0), (116, .bipush 10, 2, 0, 0, 10), (118, .iload_n 2, 1, 2, 0, 0), (119, .imul, 1, 0, 0, 0), (120, .iload_n 3, 1, 3, 0, 0), (121, .iadd, 1, 0, 0, 0), (122, .iload_n 1, 1, 1, 0, 0), (123, .invokevirtual 227, 3, 0, 144, 0), (126, .ifCond .eq 10, 3, 136, 0, 0), (129, .bipush 10, 2, 0, 0, 10), (131, .iload_n 2, 1, 2, 0, 0), (132, .imul, 1, 0, 0, 0), (133, .iload_n 3, 1, 3, 0, 0), (134, .iadd, 1, 0, 0, 0), (135, .ireturn, 1, 0, 0, 0), (136, .iinc 3 1, 3, 3, 0, 1), (139, .goto (-59), 3, 80, 0, 0), (142, .iconst 0, 1, 0, 0, 0), (143, .ireturn, 1, 0, 0, 0)]
-- 146: BootNetModel.serve(IIIII)V
def xt_c146 : List (Nat × Jvm.ClassFile.Instr × Nat × Nat × Nat × Int32) := [(0, .iload_n 1, 1, 1, 0, 0), (1, .ifCond .ne 12, 3, 13, 0, 0), (4, .aload_n 0, 1, 0, 0, 0), (5, .iload_n 2, 1, 2, 0, 0), (6, .iload_n 3, 1, 3, 0, 0), (7, .invokevirtual 230, 3, 0, 147, 0), (10, .goto 194, 3, 204, 0, 0), (13, .iload_n 1, 1, 1, 0, 0), (14, .iconst 2, 1, 0, 0, 2), (15, .if_icmp .ne 14, 3, 29, 0, 0), (18, .aload_n 0, 1, 0, 0, 0), (19, .iload_n 2, 1, 2, 0, 0), (20, .iload_n 3, 1, 3, 0, 0), (21, .iload 4, 2, 4, 0, 0), (23, .invokevirtual 233, 3, 0, 148, 0), (26, .goto 178, 3, 204, 0, 0), (29, .iload_n 1, 1, 1, 0, 0), (30, .iconst 5, 1, 0, 0, 5), (31, .if_icmp .ne 42, 3, 73, 0, 0), (34, .aload_n 0, 1, 0, 0, 0), (35, .getfield 74, 3, 12, 28, 0), (38, .iload 4, 2, 4, 0, 0), (40, .aload_n 0, 1, 0, 0, 0), (41, .iload 4, 2, 4, 0, 0), (43, .iload_n 2, 1, 2, 0, 0), (44, .invokevirtual 223, 3, 0, 142, 0), (47, .ifCond .eq 15, 3, 62, 0, 0), (50, .aload_n 0, 1, 0, 0, 0), (51, .getfield 220, 3, 12, 3, 0), (54, .aload_n 0, 1, 0, 0, 0), (55, .getfield 158, 3, 12, 0, 0), (58, .iadd, 1, 0, 0, 0), (59, .goto 10, 3, 69, 0, 0), (62, .aload_n 0, 1, 0, 0, 0), (63, .getfield 74, 3, 12, 28, 0), (66, .iload 4, 2, 4, 0, 0), (68, .iaload, 1, 0, 0, 0), (69, .iastore, 1, 0, 0, 0), (70, .goto 134, 3, 204, 0, 0), (73, .iload_n 1, 1, 1, 0, 0), (74, .bipush 8, 2, 0, 0, 8), (76, .if_icmp .ne 59, 3, 135, 0, 0), (79, .aload_n 0, 1, 0, 0, 0), (80, .getfield 47, 3, 12, 18, 0), (83, .iload 4, 2, 4, 0, 0), (85, .iaload, 1, 0, 0, 0), (86, .ifCond .ne 17, 3, 103, 0, 0), (89, .aload_n 0, 1, 0, 0, 0), (90, .bipush 11, 2, 0, 0, 11), (92, .iload_n 2, 1, 2, 0, 0), (93, .iconst 0, 1, 0, 0, 0), (94, .iload 4, 2, 4, 0, 0), (96, .iconst 0, 1, 0, 0, 0), (97, .invokevirtual 237, 3, 0, 135, 0), (100, .goto 104, 3, 204, 0, 0), (103, .aload_n 0, 1, 0, 0, 0), (104, .getfield 86, 3, 12, 33, 0), (107, .iload_n 2, 1, 2, 0, 0), (108, .iload 4, 2, 4, 0, 0), (110, .iconst 1, 1, 0, 0, 1), (111, .iadd, 1, 0, 0, 0), (112, .iastore, 1, 0, 0, 0), (113, .aload_n 0, 1, 0, 0, 0), (114, .getfield 89, 3, 12, 34, 0), (117, .iload_n 2, 1, 2, 0, 0), (118, .iconst 1, 1, 0, 0, 1), (119, .iastore, 1, 0, 0, 0), (120, .aload_n 0, 1, 0, 0, 0), (121, .getfield 95, 3, 12, 36, 0), (124, .iload_n 2, 1, 2, 0, 0), (125, .iconst 0, 1, 0, 0, 0), (126, .iastore, 1, 0, 0, 0), (127, .aload_n 0, 1, 0, 0, 0), (128, .iload_n 2, 1, 2, 0, 0), (129, .invokevirtual 240, 3, 0, 152, 0), (132, .goto 72, 3, 204, 0, 0), (135, .aload_n 0, 1, 0, 0, 0), (136, .getfield 86, 3, 12, 33, 0), (139, .iload_n 2, 1, 2, 0, 0), (140, .iaload, 1, 0, 0, 0), (141, .iload 4, 2, 4, 0, 0), (143, .iconst 1, 1, 0, 0, 1), (144, .iadd, 1, 0, 0, 0), (145, .if_icmp .ne 59, 3, 204, 0, 0), (148, .aload_n 0, 1, 0, 0, 0), (149, .getfield 89, 3, 12, 34, 0), (152, .iload_n 2, 1, 2, 0, 0), (153, .iaload, 1, 0, 0, 0), (154, .iload 5, 2, 5, 0, 0), (156, .if_icmp .ne 48, 3, 204, 0, 0), (159, .aload_n 0, 1, 0, 0, 0), (160, .getfield 92, 3, 12, 35, 0), (163, .iload_n 2, 1, 2, 0, 0), (164, .iaload, 1, 0, 0, 0), (165, .aload_n 0, 1, 0, 0, 0), (166, .getfield 165, 3, 12, 2, 0), (169, .if_icmp .ge 13, 3, 182, 0, 0), (172, .aload_n 0, 1, 0, 0, 0), (173, .getfield 86, 3, 12, 33, 0), (176, .iload_n 2, 1, 2, 0, 0), (177, .iconst 0, 1, 0, 0, 0), (178, .iastore, 1, 0, 0, 0), (179, .goto 25, 3, 204, 0, 0), (182, .aload_n 0, 1, 0, 0, 0), (183, .getfield 89, 3, 12, 34, 0), (186, .iload_n 2, 1, 2, 0, 0), (187, .dup2, 1, 0, 0, 0), (188, .iaload, 1, 0, 0, 0), (189, .iconst 1, 1, 0, 0, 1), (190, .iadd, 1, 0, 0, 0), (191, .iastore, 1, 0, 0, 0), (192, .aload_n 0, 1, 0, 0, 0), (193, .getfield 95, 3, 12, 36, 0), (196, .iload_n 2, 1, 2, 0, 0), (197, .iconst 0, 1, 0, 0, 0), (198, .iastore, 1, 0, 0, 0), (199, .aload_n 0, 1, 0, 0, 0), (200, .iload_n 2, 1, 2, 0, 0), (201, .invokevirtual 240, 3, 0, 152, 0), (204, .return_, 1, 0, 0, 0)]
-- 147: BootNetModel.offer(II)V
def xt_c147 : List (Nat × Jvm.ClassFile.Instr × Nat × Nat × Nat × Int32) := [(0, .aload_n 0, 1, 0, 0, 0), (1, .iload_n 1, 1, 1, 0, 0), (2, .invokevirtual 243, 3, 0, 145, 0), (5, .istore_n 3, 1, 3, 0, 0), (6, .iload_n 3, 1, 3, 0, 0), (7, .ifCond .ne 4, 3, 11, 0, 0), (10, .return_, 1, 0, 0, 0), (11, .iconst 0, 1, 0, 0, 0), (12, .istore 4, 2, 4, 0, 0), (14, .iload 4, 2, 4, 0, 0), (16, .bipush 30, 2, 0, 0, 30), (18, .if_icmp .ge 38, 3, 56, 0, 0), (21, .aload_n 0, 1, 0, 0, 0), (22, .getfield 71, 3, 12, 27, 0), (25, .iload 4, 2, 4, 0, 0), (27, .aload_n 0, 1, 0, 0, 0), (28, .getfield 68, 3, 12, 26, 0), (31, .iload 4, 2, 4, 0, 0), (33, .iaload, 1, 0, 0, 0), (34, .iload_n 1, 1, 1, 0, 0), (35, .if_icmp .ne 7, 3, 42, 0, 0), (38, .iconst 0, 1, 0, 0, 0), (39, .goto 10, 3, 49, 0, 0), (42, .aload_n 0, 1, 0, 0, 0), (43, .getfield 71, 3, 12, 27, 0), (46, .iload 4, 2, 4, 0, 0), (48, .iaload, 1, 0, 0, 0), (49, .iastore, 1, 0, 0, 0), (50, .iinc 4 1, 3, 4, 0, 1), (53, .goto (-39), 3, 14, 0, 0), (56, .aload_n 0, 1, 0, 0, 0), (57, .getfield 68, 3, 12, 26, 0), (60, .iload_n 3, 1, 3, 0, 0), (61, .iload_n 1, 1, 1, 0, 0), (62, .iastore, 1, 0, 0, 0), (63, .aload_n 0, 1, 0, 0, 0), (64, .getfield 71, 3, 12, 27, 0), (67, .iload_n 3, 1, 3, 0, 0), (68, .aload_n 0, 1, 0, 0, 0), (69, .getfield 220, 3, 12, 3, 0), (72, .bipush 6, 2, 0, 0, 6), (74, .iadd, 1, 0, 0, 0), (75, .iastore, 1, 0, 0, 0), (76, .aload_n 0, 1, 0, 0, 0), (77, .iconst 1, 1, 0, 0, 1), (78, .iload_n 1, 1, 1, 0, 0), (79, .iload_n 2, 1, 2, 0, 0), (80, .iload_n 3, 1, 3, 0, 0), (81, .iconst 0, 1, 0, 0, 0), (82, .invokevirtual 237, 3, 0, 135, 0), (85, .return_, 1, 0, 0, 0)]
-- 148: BootNetModel.grant(III)V
def xt_c148 : List (Nat × Jvm.ClassFile.Instr × Nat × Nat × Nat × Int32) := [(0, .aload_n 0, 1, 0, 0, 0), (1, .getfield 74, 3, 12, 28, 0), (4, .iload_n 3, 1, 3, 0, 0), (5, .iaload, 1, 0, 0, 0), (6, .aload_n 0, 1, 0, 0, 0), (7, .getfield 220, 3, 12, 3, 0), (10, .if_icmp .gt 25, 3, 35, 0, 0), (13, .aload_n 0, 1, 0, 0, 0), (14, .iload_n 3, 1, 3, 0, 0), (15, .iload_n 1, 1, 1, 0, 0), (16, .invokevirtual 223, 3, 0, 142, 0), (19, .ifCond .ne 12, 3, 31, 0, 0), (22, .aload_n 0, 1, 0, 0, 0), (23, .iload_n 3, 1, 3, 0, 0), (24, .iload_n 1, 1, 1, 0, 0), (25, .invokevirtual 247, 3, 0, 143, 0), (28, .ifCond .eq 7, 3, 35, 0, 0), (31, .iconst 1, 1, 0, 0, 1), (32, .goto 4, 3, 36, 0, 0), (35, .iconst 0, 1, 0, 0, 0), (36, .istore 4, 2, 4, 0, 0), (38, .iload 4, 2, 4, 0, 0), (40, .ifCond .eq 59, 3, 99, 0, 0), (43, .aload_n 0, 1, 0, 0, 0), (44, .iload_n 3, 1, 3, 0, 0), (45, .iload_n 1, 1, 1, 0, 0), (46, .aload_n 0, 1, 0, 0, 0), (47, .getfield 220, 3, 12, 3, 0), (50, .aload_n 0, 1, 0, 0, 0), (51, .getfield 158, 3, 12, 0, 0), (54, .iadd, 1, 0, 0, 0), (55, .invokevirtual 250, 3, 0, 151, 0), (58, .ifCond .eq 41, 3, 99, 0, 0), (61, .aload_n 0, 1, 0, 0, 0), (62, .getfield 71, 3, 12, 27, 0), (65, .iload_n 3, 1, 3, 0, 0), (66, .aload_n 0, 1, 0, 0, 0), (67, .getfield 68, 3, 12, 26, 0), (70, .iload_n 3, 1, 3, 0, 0), (71, .iaload, 1, 0, 0, 0), (72, .iload_n 1, 1, 1, 0, 0), (73, .if_icmp .ne 7, 3, 80, 0, 0), (76, .iconst 0, 1, 0, 0, 0), (77, .goto 9, 3, 86, 0, 0), (80, .aload_n 0, 1, 0, 0, 0), (81, .getfield 71, 3, 12, 27, 0), (84, .iload_n 3, 1, 3, 0, 0), (85, .iaload, 1, 0, 0, 0), (86, .iastore, 1, 0, 0, 0), (87, .aload_n 0, 1, 0, 0, 0), (88, .iconst 3, 1, 0, 0, 3), (89, .iload_n 1, 1, 1, 0, 0), (90, .iload_n 2, 1, 2, 0, 0), (91, .iload_n 3, 1, 3, 0, 0), (92, .iconst 0, 1, 0, 0, 0), (93, .invokevirtual 237, 3, 0, 135, 0), (96, .goto 12, 3, 108, 0, 0), (99, .aload_n 0, 1, 0, 0, 0), (100, .iconst 4, 1, 0, 0, 4), (101, .iload_n 1, 1, 1, 0, 0), (102, .iload_n 2, 1, 2, 0, 0), (103, .iload_n 3, 1, 3, 0, 0), (104, .iconst 0, 1, 0, 0, 0), (105, .invokevirtual 237, 3, 0, 135, 0), (108, .return_, 1, 0, 0, 0)]
-- 149: BootNetModel.latest(I)Z
def xt_c149 : List (Nat × Jvm.ClassFile.Instr × Nat × Nat × Nat × Int32) := [(0, .iload_n 1, 1, 1, 0, 0), (1, .iconst 1, 1, 0, 0, 1), (2, .iadd, 1, 0, 0, 0), (3, .istore_n 2, 1, 2, 0, 0), (4, .iload_n 2, 1, 2, 0, 0), (5, .aload_n 0, 1, 0, 0, 0), (6, .getfield 254, 3, 12, 29, 0), (9, .if_icmp .ge 26, 3, 35, 0, 0), (12, .aload_n 0, 1, 0, 0, 0), (13, .getfield 77, 3, 12, 30, 0), (16, .iload_n 2, 1, 2, 0, 0), (17, .iaload, 1, 0, 0, 0), (18, .aload_n 0, 1, 0, 0, 0), (19, .getfield 77, 3, 12, 30, 0), (22, .iload_n 1, 1, 1, 0, 0), (23, .iaload, 1, 0, 0, 0), (24, .if_icmp .ne 5, 3, 29, 0, 0), (27, .iconst 0, 1, 0, 0, 0), (28, .ireturn, 1, 0, 1, 0), (29, .iinc 2 1, 3, 2, 0, 1), (32, .goto (-28), 3, 4, 0, 0), (35, .iconst 1, 1, 0, 0, 1), (36, .ireturn, 1, 0, 1, 0)]
-- 150: BootNetModel.drop()V
def xt_c150 : List (Nat × Jvm.ClassFile.Instr × Nat × Nat × Nat × Int32) := [(0, .iconst 0, 1, 0, 0, 0), (1, .istore_n 1, 1, 1, 0, 0), (2, .iconst 0, 1, 0, 0, 0), (3, .istore_n 2, 1, 2, 0, 0), (4, .iload_n 2, 1, 2, 0, 0), (5, .aload_n 0, 1, 0, 0, 0), (6, .getfield 254, 3, 12, 29, 0), (9, .if_icmp .ge 79, 3, 88, 0, 0), (12, .aload_n 0, 1, 0, 0, 0), (13, .iload_n 2, 1, 2, 0, 0), (14, .invokevirtual 257, 3, 0, 149, 0), (17, .ifCond .eq 20, 3, 37, 0, 0), (20, .aload_n 0, 1, 0, 0, 0), (21, .getfield 83, 3, 12, 32, 0), (24, .iload_n 2, 1, 2, 0, 0), (25, .iaload, 1, 0, 0, 0), (26, .aload_n 0, 1, 0, 0, 0), (27, .getfield 220, 3, 12, 3, 0), (30, .if_icmp .le 7, 3, 37, 0, 0), (33, .iconst 1, 1, 0, 0, 1), (34, .goto 4, 3, 38, 0, 0), (37, .iconst 0, 1, 0, 0, 0), (38, .istore_n 3, 1, 3, 0, 0), (39, .iload_n 3, 1, 3, 0, 0), (40, .ifCond .eq 42, 3, 82, 0, 0), (43, .aload_n 0, 1, 0, 0, 0), (44, .getfield 77, 3, 12, 30, 0), (47, .iload_n 1, 1, 1, 0, 0), (48, .aload_n 0, 1, 0, 0, 0), (49, .getfield 77, 3, 12, 30, 0), (52, .iload_n 2, 1, 2, 0, 0), (53, .iaload, 1, 0, 0, 0), (54, .iastore, 1, 0, 0, 0), (55, .aload_n 0, 1, 0, 0, 0), (56, .getfield 80, 3, 12, 31, 0), (59, .iload_n 1, 1, 1, 0, 0), (60, .aload_n 0, 1, 0, 0, 0), (61, .getfield 80, 3, 12, 31, 0), (64, .iload_n 2, 1, 2, 0, 0), (65, .iaload, 1, 0, 0, 0), (66, .iastore, 1, 0, 0, 0), (67, .aload_n 0, 1, 0, 0, 0), (68, .getfield 83, 3, 12, 32, 0), (71, .iload_n 1, 1, 1, 0, 0), (72, .aload_n 0, 1, 0, 0, 0), (73, .getfield 83, 3, 12, 32, 0), (76, .iload_n 2, 1, 2, 0, 0), (77, .iaload, 1, 0, 0, 0), (78, .iastore, 1, 0, 0, 0), (79, .iinc 1 1, 3, 1, 0, 1), (82, .iinc 2 1, 3, 2, 0, 1), (85, .goto (-81), 3, 4, 0, 0), (88, .aload_n 0, 1, 0, 0, 0), (89, .iload_n 1, 1, 1, 0, 0), (90, .putfield 254, 3, 12, 29, 0), (93, .return_, 1, 0, 0, 0)]
-- 151: BootNetModel.recorded(III)Z
def xt_c151 : List (Nat × Jvm.ClassFile.Instr × Nat × Nat × Nat × Int32) := [(0, .aload_n 0, 1, 0, 0, 0), (1, .getfield 254, 3, 12, 29, 0), (4, .bipush 16, 2, 0, 0, 16), (6, .if_icmp .ne 7, 3, 13, 0, 0), (9, .aload_n 0, 1, 0, 0, 0), (10, .invokevirtual 260, 3, 0, 150, 0), (13, .aload_n 0, 1, 0, 0, 0), (14, .getfield 254, 3, 12, 29, 0), (17, .bipush 16, 2, 0, 0, 16), (19, .if_icmp .ne 5, 3, 24, 0, 0), (22, .iconst 0, 1, 0, 0, 0), (23, .ireturn, 1, 0, 1, 0), (24, .aload_n 0, 1, 0, 0, 0), (25, .getfield 77, 3, 12, 30, 0), (28, .aload_n 0, 1, 0, 0, 0), (29, .getfield 254, 3, 12, 29, 0), (32, .iload_n 1, 1, 1, 0, 0), (33, .iastore, 1, 0, 0, 0), (34, .aload_n 0, 1, 0, 0, 0), (35, .getfield 80, 3, 12, 31, 0), (38, .aload_n 0, 1, 0, 0, 0), (39, .getfield 254, 3, 12, 29, 0), (42, .iload_n 2, 1, 2, 0, 0), (43, .iastore, 1, 0, 0, 0), (44, .aload_n 0, 1, 0, 0, 0), (45, .getfield 83, 3, 12, 32, 0), (48, .aload_n 0, 1, 0, 0, 0), (49, .getfield 254, 3, 12, 29, 0), (52, .iload_n 3, 1, 3, 0, 0), (53, .iastore, 1, 0, 0, 0), (54, .aload_n 0, 1, 0, 0, 0), (55, .dup, 1, 0, 0, 0), (56, .getfield 254, 3, 12, 29, 0), (59, .iconst 1, 1, 0, 0, 1), (60, .iadd, 1, 0, 0, 0), (61, .putfield 254, 3, 12, 29, 0), (64, .aload_n 0, 1, 0, 0, 0), (65, .getfield 62, 3, 12, 24, 0), (68, .iload_n 1, 1, 1, 0, 0), (69, .iload_n 2, 1, 2, 0, 0), (70, .iastore, 1, 0, 0, 0), (71, .aload_n 0, 1, 0, 0, 0), (72, .getfield 65, 3, 12, 25, 0), (75, .iload_n 1, 1, 1, 0, 0), (76, .iload_n 3, 1, 3, 0, 0), (77, .iastore, 1, 0, 0, 0), (78, .iconst 1, 1, 0, 0, 1), (79, .ireturn, 1, 0, 1, 0)]
-- 152: BootNetModel.again(I)V
def xt_c152 : List (Nat × Jvm.ClassFile.Instr × Nat × Nat × Nat × Int32) := [(0, .aload_n 0, 1, 0, 0, 0), (1, .getfield 86, 3, 12, 33, 0), (4, .iload_n 1, 1, 1, 0, 0), (5, .iaload, 1, 0, 0, 0), (6, .iconst 1, 1, 0, 0, 1), (7, .isub, 1, 0, 0, 0), (8, .istore_n 2, 1, 2, 0, 0), (9, .aload_n 0, 1, 0, 0, 0), (10, .getfield 89, 3, 12, 34, 0), (13, .iload_n 1, 1, 1, 0, 0), (14, .iaload, 1, 0, 0, 0), (15, .iconst 1, 1, 0, 0, 1), (16, .isub, 1, 0, 0, 0), (17, .aload_n 0, 1, 0, 0, 0), (18, .getfield 165, 3, 12, 2, 0), (21, .imul, 1, 0, 0, 0), (22, .istore_n 3, 1, 3, 0, 0), (23, .aload_n 0, 1, 0, 0, 0), (24, .getfield 47, 3, 12, 18, 0), (27, .iload_n 2, 1, 2, 0, 0), (28, .iaload, 1, 0, 0, 0), (29, .iload_n 3, 1, 3, 0, 0), (30, .isub, 1, 0, 0, 0), (31, .istore 4, 2, 4, 0, 0), (33, .iload 4, 2, 4, 0, 0), (35, .ifCond .ge 7, 3, 42, 0, 0), (38, .iconst 0, 1, 0, 0, 0), (39, .goto 21, 3, 60, 0, 0), (42, .iload 4, 2, 4, 0, 0), (44, .aload_n 0, 1, 0, 0, 0), (45, .getfield 165, 3, 12, 2, 0), (48, .if_icmp .le 10, 3, 58, 0, 0), (51, .aload_n 0, 1, 0, 0, 0), (52, .getfield 165, 3, 12, 2, 0), (55, .goto 5, 3, 60, 0, 0), (58, .iload 4, 2, 4, 0, 0), (60, .istore 4, 2, 4, 0, 0), (62, .aload_n 0, 1, 0, 0, 0), (63, .getfield 189, 3, 12, 9, 0), (66, .bipush 32, 2, 0, 0, 32), (68, .if_icmp .ge 7, 3, 75, 0, 0), (71, .iconst 1, 1, 0, 0, 1), (72, .goto 4, 3, 76, 0, 0), (75, .iconst 0, 1, 0, 0, 0), (76, .istore 5, 2, 5, 0, 0), (78, .aload_n 0, 1, 0, 0, 0), (79, .bipush 9, 2, 0, 0, 9), (81, .iload_n 1, 1, 1, 0, 0), (82, .iconst 0, 1, 0, 0, 0), (83, .iload_n 2, 1, 2, 0, 0), (84, .aload_n 0, 1, 0, 0, 0), (85, .getfield 89, 3, 12, 34, 0), (88, .iload_n 1, 1, 1, 0, 0), (89, .iaload, 1, 0, 0, 0), (90, .invokevirtual 237, 3, 0, 135, 0), (93, .iconst 0, 1, 0, 0, 0), (94, .istore 6, 2, 6, 0, 0), (96, .iload 6, 2, 6, 0, 0), (98, .iload 4, 2, 4, 0, 0), (100, .if_icmp .ge 45, 3, 145, 0, 0), (103, .iload 5, 2, 5, 0, 0), (105, .ifCond .eq 40, 3, 145, 0, 0), (108, .aload_n 0, 1, 0, 0, 0), (109, .getfield 44, 3, 12, 17, 0), (112, .bipush 12, 2, 0, 0, 12), (114, .aload_n 0, 1, 0, 0, 0), (115, .getfield 189, 3, 12, 9, 0), (118, .iconst 1, 1, 0, 0, 1), (119, .isub, 1, 0, 0, 0), (120, .imul, 1, 0, 0, 0), (121, .iload 6, 2, 6, 0, 0), (123, .iadd, 1, 0, 0, 0), (124, .aload_n 0, 1, 0, 0, 0), (125, .getfield 50, 3, 12, 19, 0), (128, .bipush 40, 2, 0, 0, 40), (130, .iload_n 2, 1, 2, 0, 0), (131, .imul, 1, 0, 0, 0), (132, .iload_n 3, 1, 3, 0, 0), (133, .iadd, 1, 0, 0, 0), (134, .iload 6, 2, 6, 0, 0), (136, .iadd, 1, 0, 0, 0), (137, .iaload, 1, 0, 0, 0), (138, .iastore, 1, 0, 0, 0), (139, .iinc 6 1, 3, 6, 0, 1), (142, .goto (-46), 3, 96, 0, 0), (145, .iload 5, 2, 5, 0, 0), (147, .ifCond .eq 16, 3, 163, 0, 0), (150, .aload_n 0, 1, 0, 0, 0), (151, .getfield 38, 3, 12, 15, 0), (154, .aload_n 0, 1, 0, 0, 0), (155, .getfield 189, 3, 12, 9, 0), (158, .iconst 1, 1, 0, 0, 1), (159, .isub, 1, 0, 0, 0), (160, .iload 4, 2, 4, 0, 0), (162, .iastore, 1, 0, 0, 0), (163, .aload_n 0, 1, 0, 0, 0), (164, .getfield 92, 3, 12, 35, 0), (167, .iload_n 1, 1, 1, 0, 0), (168, .iload 4, 2, 4, 0, 0), (170, .iastore, 1, 0, 0, 0), (171, .aload_n 0, 1, 0, 0, 0), (172, .getfield 95, 3, 12, 36, 0), (175, .iload_n 1, 1, 1, 0, 0), (176, .dup2, 1, 0, 0, 0), (177, .iaload, 1, 0, 0, 0), (178, .iconst 1, 1, 0, 0, 1), (179, .iadd, 1, 0, 0, 0), (180, .iastore, 1, 0, 0, 0), (181, .aload_n 0, 1, 0, 0, 0), (182, .getfield 98, 3, 12, 37, 0), (185, .iload_n 1, 1, 1, 0, 0), (186, .aload_n 0, 1, 0, 0, 0), (187, .getfield 220, 3, 12, 3, 0), (190, .iconst 3, 1, 0, 0, 3), (191, .iadd, 1, 0, 0, 0), (192, .iastore, 1, 0, 0, 0), (193, .return_, 1, 0, 0, 0)]
-- 153: BootNetModel.crash()I
def xt_c153 : List (Nat × Jvm.ClassFile.Instr × Nat × Nat × Nat × Int32) := [(0, .iconst 0, 1, 0, 0, 0), (1, .istore_n 1, 1, 1, 0, 0), (2, .iload_n 1, 1, 1, 0, 0), (3, .bipush 30, 2, 0, 0, 30), (5, .if_icmp .ge 30, 3, 35, 0, 0), (8, .aload_n 0, 1, 0, 0, 0), (9, .getfield 71, 3, 12, 27, 0), (12, .iload_n 1, 1, 1, 0, 0), (13, .iconst 0, 1, 0, 0, 0), (14, .iastore, 1, 0, 0, 0), (15, .aload_n 0, 1, 0, 0, 0), (16, .getfield 74, 3, 12, 28, 0), (19, .iload_n 1, 1, 1, 0, 0), (20, .iconst 0, 1, 0, 0, 0), (21, .iastore, 1, 0, 0, 0), (22, .aload_n 0, 1, 0, 0, 0), (23, .getfield 65, 3, 12, 25, 0), (26, .iload_n 1, 1, 1, 0, 0), (27, .iconst 0, 1, 0, 0, 0), (28, .iastore, 1, 0, 0, 0), (29, .iinc 1 1, 3, 1, 0, 1), (32, .goto (-30), 3, 2, 0, 0), (35, .iconst 0, 1, 0, 0, 0), (36, .istore_n 1, 1, 1, 0, 0), (37, .iload_n 1, 1, 1, 0, 0), (38, .bipush 6, 2, 0, 0, 6), (40, .if_icmp .ge 16, 3, 56, 0, 0), (43, .aload_n 0, 1, 0, 0, 0), (44, .getfield 86, 3, 12, 33, 0), (47, .iload_n 1, 1, 1, 0, 0), (48, .iconst 0, 1, 0, 0, 0), (49, .iastore, 1, 0, 0, 0), (50, .iinc 1 1, 3, 1, 0, 1), (53, .goto (-16), 3, 37, 0, 0), (56, .iconst 0, 1, 0, 0, 0), (57, .istore_n 1, 1, 1, 0, 0), (58, .iload_n 1, 1, 1, 0, 0), (59, .aload_n 0, 1, 0, 0, 0), (60, .getfield 254, 3, 12, 29, 0), (63, .if_icmp .ge 43, 3, 106, 0, 0), (66, .aload_n 0, 1, 0, 0, 0), (67, .getfield 62, 3, 12, 24, 0), (70, .aload_n 0, 1, 0, 0, 0), (71, .getfield 77, 3, 12, 30, 0), (74, .iload_n 1, 1, 1, 0, 0), (75, .iaload, 1, 0, 0, 0), (76, .aload_n 0, 1, 0, 0, 0), (77, .getfield 80, 3, 12, 31, 0), (80, .iload_n 1, 1, 1, 0, 0), (81, .iaload, 1, 0, 0, 0), (82, .iastore, 1, 0, 0, 0), (83, .aload_n 0, 1, 0, 0, 0), (84, .getfield 65, 3, 12, 25, 0), (87, .aload_n 0, 1, 0, 0, 0), (88, .getfield 77, 3, 12, 30, 0), (91, .iload_n 1, 1, 1, 0, 0), (92, .iaload, 1, 0, 0, 0), (93, .aload_n 0, 1, 0, 0, 0), (94, .getfield 83, 3, 12, 32, 0), (97, .iload_n 1, 1, 1, 0, 0), (98, .iaload, 1, 0, 0, 0), (99, .iastore, 1, 0, 0, 0), (100, .iinc 1 1, 3, 1, 0, 1), (103, .goto (-45), 3, 58, 0, 0), (106, .aload_n 0, 1, 0, 0, 0), (107, .getfield 254, 3, 12, 29, 0), (110, .ireturn, 1, 0, 0, 0)]
-- 154: BootNetModel.lease(II)I
def xt_c154 : List (Nat × Jvm.ClassFile.Instr × Nat × Nat × Nat × Int32) := [(0, .iload_n 1, 1, 1, 0, 0), (1, .invokestatic 175, 3, 6, 123, 0), (4, .ifCond .eq 12, 3, 16, 0, 0), (7, .iload_n 2, 1, 2, 0, 0), (8, .ifCond .lt 8, 3, 16, 0, 0), (11, .iload_n 2, 1, 2, 0, 0), (12, .iconst 3, 1, 0, 0, 3), (13, .if_icmp .le 5, 3, 18, 0, 0), (16, .iconst (-1), 1, 0, 0, (-1)), (17, .ireturn, 1, 0, 0, 0), (18, .iload_n 2, 1, 2, 0, 0), (19, .iconst 3, 1, 0, 0, 3), (20, .if_icmp .ne 27, 3, 47, 0, 0), (23, .aload_n 0, 1, 0, 0, 0), (24, .getfield 74, 3, 12, 28, 0), (27, .iload_n 1, 1, 1, 0, 0), (28, .iaload, 1, 0, 0, 0), (29, .aload_n 0, 1, 0, 0, 0), (30, .getfield 220, 3, 12, 3, 0), (33, .if_icmp .le 12, 3, 45, 0, 0), (36, .aload_n 0, 1, 0, 0, 0), (37, .getfield 74, 3, 12, 28, 0), (40, .iload_n 1, 1, 1, 0, 0), (41, .iaload, 1, 0, 0, 0), (42, .goto 4, 3, 46, 0, 0), (45, .iconst (-1), 1, 0, 0, (-1)), (46, .ireturn, 1, 0, 0, 0), (47, .iload_n 2, 1, 2, 0, 0), (48, .iconst 2, 1, 0, 0, 2), (49, .if_icmp .ne 27, 3, 76, 0, 0), (52, .aload_n 0, 1, 0, 0, 0), (53, .getfield 71, 3, 12, 27, 0), (56, .iload_n 1, 1, 1, 0, 0), (57, .iaload, 1, 0, 0, 0), (58, .aload_n 0, 1, 0, 0, 0), (59, .getfield 220, 3, 12, 3, 0), (62, .if_icmp .le 12, 3, 74, 0, 0), (65, .aload_n 0, 1, 0, 0, 0), (66, .getfield 68, 3, 12, 26, 0), (69, .iload_n 1, 1, 1, 0, 0), (70, .iaload, 1, 0, 0, 0), (71, .goto 4, 3, 75, 0, 0), (74, .iconst (-1), 1, 0, 0, (-1)), (75, .ireturn, 1, 0, 0, 0), (76, .aload_n 0, 1, 0, 0, 0), (77, .getfield 65, 3, 12, 25, 0), (80, .iload_n 1, 1, 1, 0, 0), (81, .iaload, 1, 0, 0, 0), (82, .aload_n 0, 1, 0, 0, 0), (83, .getfield 220, 3, 12, 3, 0), (86, .if_icmp .gt 7, 3, 93, 0, 0), (89, .iconst (-1), 1, 0, 0, (-1)), (90, .goto 22, 3, 112, 0, 0), (93, .iload_n 2, 1, 2, 0, 0), (94, .ifCond .ne 12, 3, 106, 0, 0), (97, .aload_n 0, 1, 0, 0, 0), (98, .getfield 62, 3, 12, 24, 0), (101, .iload_n 1, 1, 1, 0, 0), (102, .iaload, 1, 0, 0, 0), (103, .goto 9, 3, 112, 0, 0), (106, .aload_n 0, 1, 0, 0, 0), (107, .getfield 65, 3, 12, 25, 0), (110, .iload_n 1, 1, 1, 0, 0), (111, .iaload, 1, 0, 0, 0), (112, .ireturn, 1, 0, 0, 0)]
-- 155: BootNetModel.journal()I
def xt_c155 : List (Nat × Jvm.ClassFile.Instr × Nat × Nat × Nat × Int32) := [(0, .aload_n 0, 1, 0, 0, 0), (1, .getfield 254, 3, 12, 29, 0), (4, .ireturn, 1, 0, 0, 0)]
-- 156: BootNetModel.holds(I)Z
def xt_c156 : List (Nat × Jvm.ClassFile.Instr × Nat × Nat × Nat × Int32) := [(0, .aload_n 0, 1, 0, 0, 0), (1, .getfield 104, 3, 12, 40, 0), (4, .iload_n 1, 1, 1, 0, 0), (5, .iaload, 1, 0, 0, 0), (6, .iconst 4, 1, 0, 0, 4), (7, .if_icmp .lt 18, 3, 25, 0, 0), (10, .aload_n 0, 1, 0, 0, 0), (11, .getfield 104, 3, 12, 40, 0), (14, .iload_n 1, 1, 1, 0, 0), (15, .iaload, 1, 0, 0, 0), (16, .bipush 6, 2, 0, 0, 6), (18, .if_icmp .gt 7, 3, 25, 0, 0), (21, .iconst 1, 1, 0, 0, 1), (22, .goto 4, 3, 26, 0, 0), (25, .iconst 0, 1, 0, 0, 0), (26, .ireturn, 1, 0, 1, 0)]
-- 157: BootNetModel.renumber(I)V
def xt_c157 : List (Nat × Jvm.ClassFile.Instr × Nat × Nat × Nat × Int32) := [(0, .aload_n 0, 1, 0, 0, 0), (1, .dup, 1, 0, 0, 0), (2, .getfield 263, 3, 12, 4, 0), (5, .iconst 1, 1, 0, 0, 1), (6, .iadd, 1, 0, 0, 0), (7, .putfield 263, 3, 12, 4, 0), (10, .aload_n 0, 1, 0, 0, 0), (11, .getfield 110, 3, 12, 42, 0), (14, .iload_n 1, 1, 1, 0, 0), (15, .aload_n 0, 1, 0, 0, 0), (16, .getfield 263, 3, 12, 4, 0), (19, .iastore, 1, 0, 0, 0), (20, .return_, 1, 0, 0, 0)]
-- 158: BootNetModel.select(I)V
def xt_c158 : List (Nat × Jvm.ClassFile.Instr × Nat × Nat × Nat × Int32) := [(0, .aload_n 0, 1, 0, 0, 0), (1, .getfield 104, 3, 12, 40, 0), (4, .iload_n 1, 1, 1, 0, 0), (5, .iconst 1, 1, 0, 0, 1), (6, .iastore, 1, 0, 0, 0), (7, .aload_n 0, 1, 0, 0, 0), (8, .getfield 107, 3, 12, 41, 0), (11, .iload_n 1, 1, 1, 0, 0), (12, .iconst 0, 1, 0, 0, 0), (13, .iastore, 1, 0, 0, 0), (14, .aload_n 0, 1, 0, 0, 0), (15, .iload_n 1, 1, 1, 0, 0), (16, .invokevirtual 266, 3, 0, 157, 0), (19, .aload_n 0, 1, 0, 0, 0), (20, .iconst 0, 1, 0, 0, 0), (21, .iload_n 1, 1, 1, 0, 0), (22, .aload_n 0, 1, 0, 0, 0), (23, .getfield 110, 3, 12, 42, 0), (26, .iload_n 1, 1, 1, 0, 0), (27, .iaload, 1, 0, 0, 0), (28, .iconst 0, 1, 0, 0, 0), (29, .iconst 0, 1, 0, 0, 0), (30, .invokevirtual 237, 3, 0, 135, 0), (33, .aload_n 0, 1, 0, 0, 0), (34, .getfield 122, 3, 12, 46, 0), (37, .iload_n 1, 1, 1, 0, 0), (38, .iconst 1, 1, 0, 0, 1), (39, .iastore, 1, 0, 0, 0), (40, .aload_n 0, 1, 0, 0, 0), (41, .getfield 119, 3, 12, 45, 0), (44, .iload_n 1, 1, 1, 0, 0), (45, .aload_n 0, 1, 0, 0, 0), (46, .getfield 220, 3, 12, 3, 0), (49, .iconst 3, 1, 0, 0, 3), (50, .iadd, 1, 0, 0, 0), (51, .iastore, 1, 0, 0, 0), (52, .aload_n 0, 1, 0, 0, 0), (53, .getfield 128, 3, 12, 48, 0), (56, .iload_n 1, 1, 1, 0, 0), (57, .aload_n 0, 1, 0, 0, 0), (58, .getfield 128, 3, 12, 48, 0), (61, .iload_n 1, 1, 1, 0, 0), (62, .iaload, 1, 0, 0, 0), (63, .iconst 1, 1, 0, 0, 1), (64, .if_icmp .ne 7, 3, 71, 0, 0), (67, .iconst 0, 1, 0, 0, 0), (68, .goto 9, 3, 77, 0, 0), (71, .aload_n 0, 1, 0, 0, 0), (72, .getfield 128, 3, 12, 48, 0), (75, .iload_n 1, 1, 1, 0, 0), (76, .iaload, 1, 0, 0, 0), (77, .iastore, 1, 0, 0, 0), (78, .return_, 1, 0, 0, 0)]
-- 159: BootNetModel.ask(I)V
def xt_c159 : List (Nat × Jvm.ClassFile.Instr × Nat × Nat × Nat × Int32) := [(0, .aload_n 0, 1, 0, 0, 0), (1, .iload_n 1, 1, 1, 0, 0), (2, .invokevirtual 266, 3, 0, 157, 0), (5, .aload_n 0, 1, 0, 0, 0), (6, .iconst 2, 1, 0, 0, 2), (7, .iload_n 1, 1, 1, 0, 0), (8, .aload_n 0, 1, 0, 0, 0), (9, .getfield 110, 3, 12, 42, 0), (12, .iload_n 1, 1, 1, 0, 0), (13, .iaload, 1, 0, 0, 0), (14, .aload_n 0, 1, 0, 0, 0), (15, .getfield 107, 3, 12, 41, 0), (18, .iload_n 1, 1, 1, 0, 0), (19, .iaload, 1, 0, 0, 0), (20, .iconst 0, 1, 0, 0, 0), (21, .invokevirtual 237, 3, 0, 135, 0), (24, .aload_n 0, 1, 0, 0, 0), (25, .getfield 113, 3, 12, 43, 0), (28, .iload_n 1, 1, 1, 0, 0), (29, .aload_n 0, 1, 0, 0, 0), (30, .getfield 220, 3, 12, 3, 0), (33, .iastore, 1, 0, 0, 0), (34, .aload_n 0, 1, 0, 0, 0), (35, .getfield 119, 3, 12, 45, 0), (38, .iload_n 1, 1, 1, 0, 0), (39, .aload_n 0, 1, 0, 0, 0), (40, .getfield 220, 3, 12, 3, 0), (43, .iconst 3, 1, 0, 0, 3), (44, .iadd, 1, 0, 0, 0), (45, .iastore, 1, 0, 0, 0), (46, .return_, 1, 0, 0, 0)]
-- 160: BootNetModel.fail(II)V
def xt_c160 : List (Nat × Jvm.ClassFile.Instr × Nat × Nat × Nat × Int32) := [(0, .aload_n 0, 1, 0, 0, 0), (1, .getfield 104, 3, 12, 40, 0), (4, .iload_n 1, 1, 1, 0, 0), (5, .bipush 7, 2, 0, 0, 7), (7, .iastore, 1, 0, 0, 0), (8, .aload_n 0, 1, 0, 0, 0), (9, .getfield 107, 3, 12, 41, 0), (12, .iload_n 1, 1, 1, 0, 0), (13, .iconst 0, 1, 0, 0, 0), (14, .iastore, 1, 0, 0, 0), (15, .aload_n 0, 1, 0, 0, 0), (16, .getfield 128, 3, 12, 48, 0), (19, .iload_n 1, 1, 1, 0, 0), (20, .iload_n 2, 1, 2, 0, 0), (21, .iastore, 1, 0, 0, 0), (22, .return_, 1, 0, 0, 0)]
-- 161: BootNetModel.load(II)V
def xt_c161 : List (Nat × Jvm.ClassFile.Instr × Nat × Nat × Nat × Int32) := [(0, .iload_n 2, 1, 2, 0, 0), (1, .aload_n 0, 1, 0, 0, 0), (2, .getfield 181, 3, 12, 20, 0), (5, .if_icmp .lt 11, 3, 16, 0, 0), (8, .aload_n 0, 1, 0, 0, 0), (9, .getfield 128, 3, 12, 48, 0), (12, .iload_n 1, 1, 1, 0, 0), (13, .iconst 2, 1, 0, 0, 2), (14, .iastore, 1, 0, 0, 0), (15, .return_, 1, 0, 0, 0), (16, .aload_n 0, 1, 0, 0, 0), (17, .getfield 128, 3, 12, 48, 0), (20, .iload_n 1, 1, 1, 0, 0), (21, .iconst 1, 1, 0, 0, 1), (22, .iastore, 1, 0, 0, 0), (23, .aload_n 0, 1, 0, 0, 0), (24, .getfield 131, 3, 12, 49, 0), (27, .iload_n 1, 1, 1, 0, 0), (28, .iload_n 2, 1, 2, 0, 0), (29, .iastore, 1, 0, 0, 0), (30, .aload_n 0, 1, 0, 0, 0), (31, .getfield 134, 3, 12, 50, 0), (34, .iload_n 1, 1, 1, 0, 0), (35, .iconst 1, 1, 0, 0, 1), (36, .iastore, 1, 0, 0, 0), (37, .aload_n 0, 1, 0, 0, 0), (38, .getfield 143, 3, 12, 53, 0), (41, .iload_n 1, 1, 1, 0, 0), (42, .iload_n 2, 1, 2, 0, 0), (43, .ifCond .ne 7, 3, 50, 0, 0), (46, .iconst 0, 1, 0, 0, 0), (47, .goto 9, 3, 56, 0, 0), (50, .aload_n 0, 1, 0, 0, 0), (51, .getfield 143, 3, 12, 53, 0), (54, .iload_n 1, 1, 1, 0, 0), (55, .iaload, 1, 0, 0, 0), (56, .iastore, 1, 0, 0, 0), (57, .aload_n 0, 1, 0, 0, 0), (58, .getfield 146, 3, 12, 54, 0), (61, .iload_n 1, 1, 1, 0, 0), (62, .aload_n 0, 1, 0, 0, 0), (63, .getfield 143, 3, 12, 53, 0), (66, .iload_n 1, 1, 1, 0, 0), (67, .iaload, 1, 0, 0, 0), (68, .iastore, 1, 0, 0, 0), (69, .aload_n 0, 1, 0, 0, 0), (70, .bipush 8, 2, 0, 0, 8), (72, .iload_n 1, 1, 1, 0, 0), (73, .iconst 0, 1, 0, 0, 0), (74, .aload_n 0, 1, 0, 0, 0), (75, .getfield 53, 3, 12, 21, 0), (78, .iload_n 2, 1, 2, 0, 0), (79, .iaload, 1, 0, 0, 0), (80, .iconst 0, 1, 0, 0, 0), (81, .invokevirtual 237, 3, 0, 135, 0), (84, .aload_n 0, 1, 0, 0, 0), (85, .getfield 137, 3, 12, 51, 0), (88, .iload_n 1, 1, 1, 0, 0), (89, .iconst 1, 1, 0, 0, 1), (90, .iastore, 1, 0, 0, 0), (91, .aload_n 0, 1, 0, 0, 0), (92, .getfield 140, 3, 12, 52, 0), (95, .iload_n 1, 1, 1, 0, 0), (96, .aload_n 0, 1, 0, 0, 0), (97, .getfield 220, 3, 12, 3, 0), (100, .iconst 3, 1, 0, 0, 3), (101, .iadd, 1, 0, 0, 0), (102, .iastore, 1, 0, 0, 0), (103, .return_, 1, 0, 0, 0)]
-- 162: BootNetModel.boot(I)Z
def xt_c162 : List (Nat × Jvm.ClassFile.Instr × Nat × Nat × Nat × Int32) := [(0, .aload_n 0, 1, 0, 0, 0), (1, .iload_n 1, 1, 1, 0, 0), (2, .invokevirtual 171, 3, 0, 122, 0), (5, .ifCond .ne 5, 3, 10, 0, 0), (8, .iconst 0, 1, 0, 0, 0), (9, .ireturn, 1, 0, 1, 0), (10, .aload_n 0, 1, 0, 0, 0), (11, .getfield 116, 3, 12, 44, 0), (14, .iload_n 1, 1, 1, 0, 0), (15, .iconst 0, 1, 0, 0, 0), (16, .iastore, 1, 0, 0, 0), (17, .aload_n 0, 1, 0, 0, 0), (18, .getfield 113, 3, 12, 43, 0), (21, .iload_n 1, 1, 1, 0, 0), (22, .iconst 0, 1, 0, 0, 0), (23, .iastore, 1, 0, 0, 0), (24, .aload_n 0, 1, 0, 0, 0), (25, .getfield 125, 3, 12, 47, 0), (28, .iload_n 1, 1, 1, 0, 0), (29, .iconst 0, 1, 0, 0, 0), (30, .iastore, 1, 0, 0, 0), (31, .aload_n 0, 1, 0, 0, 0), (32, .getfield 128, 3, 12, 48, 0), (35, .iload_n 1, 1, 1, 0, 0), (36, .iconst 0, 1, 0, 0, 0), (37, .iastore, 1, 0, 0, 0), (38, .aload_n 0, 1, 0, 0, 0), (39, .getfield 131, 3, 12, 49, 0), (42, .iload_n 1, 1, 1, 0, 0), (43, .iconst 0, 1, 0, 0, 0), (44, .iastore, 1, 0, 0, 0), (45, .aload_n 0, 1, 0, 0, 0), (46, .getfield 143, 3, 12, 53, 0), (49, .iload_n 1, 1, 1, 0, 0), (50, .iconst 0, 1, 0, 0, 0), (51, .iastore, 1, 0, 0, 0), (52, .aload_n 0, 1, 0, 0, 0), (53, .getfield 146, 3, 12, 54, 0), (56, .iload_n 1, 1, 1, 0, 0), (57, .iconst 0, 1, 0, 0, 0), (58, .iastore, 1, 0, 0, 0), (59, .aload_n 0, 1, 0, 0, 0), (60, .iload_n 1, 1, 1, 0, 0), (61, .invokevirtual 269, 3, 0, 158, 0), (64, .iconst 1, 1, 0, 0, 1), (65, .ireturn, 1, 0, 1, 0)]
-- 163: BootNetModel.probed(II)V
def xt_c163 : List (Nat × Jvm.ClassFile.Instr × Nat × Nat × Nat × Int32) := [(0, .aload_n 0, 1, 0, 0, 0), (1, .getfield 19, 3, 12, 8, 0), (4, .iload_n 2, 1, 2, 0, 0), (5, .baload, 1, 0, 0, 0), (6, .istore_n 3, 1, 3, 0, 0), (7, .iconst 0, 1, 0, 0, 0), (8, .istore 4, 2, 4, 0, 0), (10, .iload 4, 2, 4, 0, 0), (12, .aload_n 0, 1, 0, 0, 0), (13, .getfield 168, 3, 12, 38, 0), (16, .if_icmp .ge 45, 3, 61, 0, 0), (19, .iload_n 3, 1, 3, 0, 0), (20, .ifCond .ne 29, 3, 49, 0, 0), (23, .iload 4, 2, 4, 0, 0), (25, .iload_n 1, 1, 1, 0, 0), (26, .if_icmp .eq 27, 3, 53, 0, 0), (29, .aload_n 0, 1, 0, 0, 0), (30, .iload 4, 2, 4, 0, 0), (32, .invokevirtual 272, 3, 0, 156, 0), (35, .ifCond .eq 18, 3, 53, 0, 0), (38, .aload_n 0, 1, 0, 0, 0), (39, .getfield 107, 3, 12, 41, 0), (42, .iload 4, 2, 4, 0, 0), (44, .iaload, 1, 0, 0, 0), (45, .iload_n 2, 1, 2, 0, 0), (46, .if_icmp .ne 7, 3, 53, 0, 0), (49, .iconst 1, 1, 0, 0, 1), (50, .goto 4, 3, 54, 0, 0), (53, .iconst 0, 1, 0, 0, 0), (54, .istore_n 3, 1, 3, 0, 0), (55, .iinc 4 1, 3, 4, 0, 1), (58, .goto (-48), 3, 10, 0, 0), (61, .iload_n 3, 1, 3, 0, 0), (62, .ifCond .eq 13, 3, 75, 0, 0), (65, .aload_n 0, 1, 0, 0, 0), (66, .bipush 7, 2, 0, 0, 7), (68, .iload_n 1, 1, 1, 0, 0), (69, .iconst 0, 1, 0, 0, 0), (70, .iload_n 2, 1, 2, 0, 0), (71, .iconst 0, 1, 0, 0, 0), (72, .invokevirtual 237, 3, 0, 135, 0), (75, .return_, 1, 0, 0, 0)]
-- 164: BootNetModel.hear(IIIIII)V
def xt_c164 : List (Nat × Jvm.ClassFile.Instr × Nat × Nat × Nat × Int32) := [(0, .iload_n 3, 1, 3, 0, 0), (1, .aload_n 0, 1, 0, 0, 0), (2, .getfield 110, 3, 12, 42, 0), (5, .iload_n 2, 1, 2, 0, 0), (6, .iaload, 1, 0, 0, 0), (7, .if_icmp .ne 7, 3, 14, 0, 0), (10, .iconst 1, 1, 0, 0, 1), (11, .goto 4, 3, 15, 0, 0), (14, .iconst 0, 1, 0, 0, 0), (15, .istore 7, 2, 7, 0, 0), (17, .aload_n 0, 1, 0, 0, 0), (18, .getfield 104, 3, 12, 40, 0), (21, .iload_n 2, 1, 2, 0, 0), (22, .iaload, 1, 0, 0, 0), (23, .iconst 5, 1, 0, 0, 5), (24, .if_icmp .eq 14, 3, 38, 0, 0), (27, .aload_n 0, 1, 0, 0, 0), (28, .getfield 104, 3, 12, 40, 0), (31, .iload_n 2, 1, 2, 0, 0), (32, .iaload, 1, 0, 0, 0), (33, .bipush 6, 2, 0, 0, 6), (35, .if_icmp .ne 7, 3, 42, 0, 0), (38, .iconst 1, 1, 0, 0, 1), (39, .goto 4, 3, 43, 0, 0), (42, .iconst 0, 1, 0, 0, 0), (43, .istore 8, 2, 8, 0, 0), (45, .iload_n 1, 1, 1, 0, 0), (46, .iconst 1, 1, 0, 0, 1), (47, .if_icmp .ne 48, 3, 95, 0, 0), (50, .aload_n 0, 1, 0, 0, 0), (51, .getfield 104, 3, 12, 40, 0), (54, .iload_n 2, 1, 2, 0, 0), (55, .iaload, 1, 0, 0, 0), (56, .iconst 1, 1, 0, 0, 1), (57, .if_icmp .ne 38, 3, 95, 0, 0), (60, .iload 7, 2, 7, 0, 0), (62, .ifCond .eq 33, 3, 95, 0, 0), (65, .aload_n 0, 1, 0, 0, 0), (66, .getfield 107, 3, 12, 41, 0), (69, .iload_n 2, 1, 2, 0, 0), (70, .iload 4, 2, 4, 0, 0), (72, .iastore, 1, 0, 0, 0), (73, .aload_n 0, 1, 0, 0, 0), (74, .getfield 104, 3, 12, 40, 0), (77, .iload_n 2, 1, 2, 0, 0), (78, .iconst 2, 1, 0, 0, 2), (79, .iastore, 1, 0, 0, 0), (80, .aload_n 0, 1, 0, 0, 0), (81, .getfield 122, 3, 12, 46, 0), (84, .iload_n 2, 1, 2, 0, 0), (85, .iconst 1, 1, 0, 0, 1), (86, .iastore, 1, 0, 0, 0), (87, .aload_n 0, 1, 0, 0, 0), (88, .iload_n 2, 1, 2, 0, 0), (89, .invokevirtual 275, 3, 0, 159, 0), (92, .goto 256, 3, 348, 0, 0), (95, .iload_n 1, 1, 1, 0, 0), (96, .iconst 3, 1, 0, 0, 3), (97, .if_icmp .ne 99, 3, 196, 0, 0), (100, .iload 7, 2, 7, 0, 0), (102, .ifCond .eq 94, 3, 196, 0, 0), (105, .iload 4, 2, 4, 0, 0), (107, .aload_n 0, 1, 0, 0, 0), (108, .getfield 107, 3, 12, 41, 0), (111, .iload_n 2, 1, 2, 0, 0), (112, .iaload, 1, 0, 0, 0), (113, .if_icmp .ne 83, 3, 196, 0, 0), (116, .aload_n 0, 1, 0, 0, 0), (117, .getfield 104, 3, 12, 40, 0), (120, .iload_n 2, 1, 2, 0, 0), (121, .iaload, 1, 0, 0, 0), (122, .iconst 2, 1, 0, 0, 2), (123, .if_icmp .eq 8, 3, 131, 0, 0), (126, .iload 8, 2, 8, 0, 0), (128, .ifCond .eq 68, 3, 196, 0, 0), (131, .aload_n 0, 1, 0, 0, 0), (132, .getfield 116, 3, 12, 44, 0), (135, .iload_n 2, 1, 2, 0, 0), (136, .aload_n 0, 1, 0, 0, 0), (137, .getfield 113, 3, 12, 43, 0), (140, .iload_n 2, 1, 2, 0, 0), (141, .iaload, 1, 0, 0, 0), (142, .aload_n 0, 1, 0, 0, 0), (143, .getfield 158, 3, 12, 0, 0), (146, .iadd, 1, 0, 0, 0), (147, .iastore, 1, 0, 0, 0), (148, .iload 8, 2, 8, 0, 0), (150, .ifCond .eq 13, 3, 163, 0, 0), (153, .aload_n 0, 1, 0, 0, 0), (154, .getfield 104, 3, 12, 40, 0), (157, .iload_n 2, 1, 2, 0, 0), (158, .iconst 4, 1, 0, 0, 4), (159, .iastore, 1, 0, 0, 0), (160, .goto 188, 3, 348, 0, 0), (163, .aload_n 0, 1, 0, 0, 0), (164, .getfield 104, 3, 12, 40, 0), (167, .iload_n 2, 1, 2, 0, 0), (168, .iconst 3, 1, 0, 0, 3), (169, .iastore, 1, 0, 0, 0), (170, .aload_n 0, 1, 0, 0, 0), (171, .bipush 6, 2, 0, 0, 6), (173, .iload_n 2, 1, 2, 0, 0), (174, .iconst 0, 1, 0, 0, 0), (175, .iload 4, 2, 4, 0, 0), (177, .iconst 0, 1, 0, 0, 0), (178, .invokevirtual 237, 3, 0, 135, 0), (181, .aload_n 0, 1, 0, 0, 0), (182, .getfield 119, 3, 12, 45, 0), (185, .iload_n 2, 1, 2, 0, 0), (186, .aload_n 0, 1, 0, 0, 0), (187, .getfield 220, 3, 12, 3, 0), (190, .iconst 3, 1, 0, 0, 3), (191, .iadd, 1, 0, 0, 0), (192, .iastore, 1, 0, 0, 0), (193, .goto 155, 3, 348, 0, 0), (196, .iload_n 1, 1, 1, 0, 0), (197, .iconst 4, 1, 0, 0, 4), (198, .if_icmp .ne 31, 3, 229, 0, 0), (201, .iload 7, 2, 7, 0, 0), (203, .ifCond .eq 26, 3, 229, 0, 0), (206, .aload_n 0, 1, 0, 0, 0), (207, .getfield 104, 3, 12, 40, 0), (210, .iload_n 2, 1, 2, 0, 0), (211, .iaload, 1, 0, 0, 0), (212, .iconst 2, 1, 0, 0, 2), (213, .if_icmp .eq 8, 3, 221, 0, 0), (216, .iload 8, 2, 8, 0, 0), (218, .ifCond .eq 11, 3, 229, 0, 0), (221, .aload_n 0, 1, 0, 0, 0), (222, .iload_n 2, 1, 2, 0, 0), (223, .invokevirtual 269, 3, 0, 158, 0), (226, .goto 122, 3, 348, 0, 0), (229, .iload_n 1, 1, 1, 0, 0), (230, .bipush 7, 2, 0, 0, 7), (232, .if_icmp .ne 32, 3, 264, 0, 0), (235, .aload_n 0, 1, 0, 0, 0), (236, .getfield 104, 3, 12, 40, 0), (239, .iload_n 2, 1, 2, 0, 0), (240, .iaload, 1, 0, 0, 0), (241, .iconst 3, 1, 0, 0, 3), (242, .if_icmp .ne 22, 3, 264, 0, 0), (245, .iload 4, 2, 4, 0, 0), (247, .aload_n 0, 1, 0, 0, 0), (248, .getfield 107, 3, 12, 41, 0), (251, .iload_n 2, 1, 2, 0, 0), (252, .iaload, 1, 0, 0, 0), (253, .if_icmp .ne 11, 3, 264, 0, 0), (256, .aload_n 0, 1, 0, 0, 0), (257, .iload_n 2, 1, 2, 0, 0), (258, .invokevirtual 278, 3, 0, 165, 0), (261, .goto 87, 3, 348, 0, 0), (264, .iload_n 1, 1, 1, 0, 0), (265, .bipush 9, 2, 0, 0, 9), (267, .if_icmp .eq 9, 3, 276, 0, 0), (270, .iload_n 1, 1, 1, 0, 0), (271, .bipush 11, 2, 0, 0, 11), (273, .if_icmp .ne 75, 3, 348, 0, 0), (276, .aload_n 0, 1, 0, 0, 0), (277, .iload_n 2, 1, 2, 0, 0), (278, .invokevirtual 272, 3, 0, 156, 0), (281, .ifCond .eq 67, 3, 348, 0, 0), (284, .aload_n 0, 1, 0, 0, 0), (285, .getfield 128, 3, 12, 48, 0), (288, .iload_n 2, 1, 2, 0, 0), (289, .iaload, 1, 0, 0, 0), (290, .iconst 1, 1, 0, 0, 1), (291, .if_icmp .ne 57, 3, 348, 0, 0), (294, .iload 4, 2, 4, 0, 0), (296, .aload_n 0, 1, 0, 0, 0), (297, .getfield 53, 3, 12, 21, 0), (300, .aload_n 0, 1, 0, 0, 0), (301, .getfield 131, 3, 12, 49, 0), (304, .iload_n 2, 1, 2, 0, 0), (305, .iaload, 1, 0, 0, 0), (306, .iaload, 1, 0, 0, 0), (307, .if_icmp .ne 41, 3, 348, 0, 0), (310, .iload_n 1, 1, 1, 0, 0), (311, .bipush 11, 2, 0, 0, 11), (313, .if_icmp .ne 13, 3, 326, 0, 0), (316, .aload_n 0, 1, 0, 0, 0), (317, .getfield 128, 3, 12, 48, 0), (320, .iload_n 2, 1, 2, 0, 0), (321, .iconst 3, 1, 0, 0, 3), (322, .iastore, 1, 0, 0, 0), (323, .goto 25, 3, 348, 0, 0), (326, .iload 5, 2, 5, 0, 0), (328, .aload_n 0, 1, 0, 0, 0), (329, .getfield 134, 3, 12, 50, 0), (332, .iload_n 2, 1, 2, 0, 0), (333, .iaload, 1, 0, 0, 0), (334, .if_icmp .ne 14, 3, 348, 0, 0), (337, .aload_n 0, 1, 0, 0, 0), (338, .iload_n 2, 1, 2, 0, 0), (339, .iload 4, 2, 4, 0, 0), (341, .iload 5, 2, 5, 0, 0), (343, .iload 6, 2, 6, 0, 0), (345, .invokevirtual 281, 3, 0, 166, 0), (348, .return_, 1, 0, 0, 0)]
-- 165: BootNetModel.conflict(I)V
def xt_c165 : List (Nat × Jvm.ClassFile.Instr × Nat × Nat × Nat × Int32) := [(0, .aload_n 0, 1, 0, 0, 0), (1, .iconst 5, 1, 0, 0, 5), (2, .iload_n 1, 1, 1, 0, 0), (3, .iconst 0, 1, 0, 0, 0), (4, .aload_n 0, 1, 0, 0, 0), (5, .getfield 107, 3, 12, 41, 0), (8, .iload_n 1, 1, 1, 0, 0), (9, .iaload, 1, 0, 0, 0), (10, .iconst 0, 1, 0, 0, 0), (11, .invokevirtual 237, 3, 0, 135, 0), (14, .aload_n 0, 1, 0, 0, 0), (15, .getfield 125, 3, 12, 47, 0), (18, .iload_n 1, 1, 1, 0, 0), (19, .dup2, 1, 0, 0, 0), (20, .iaload, 1, 0, 0, 0), (21, .iconst 1, 1, 0, 0, 1), (22, .iadd, 1, 0, 0, 0), (23, .iastore, 1, 0, 0, 0), (24, .aload_n 0, 1, 0, 0, 0), (25, .getfield 125, 3, 12, 47, 0), (28, .iload_n 1, 1, 1, 0, 0), (29, .iaload, 1, 0, 0, 0), (30, .aload_n 0, 1, 0, 0, 0), (31, .getfield 162, 3, 12, 1, 0), (34, .if_icmp .ne 13, 3, 47, 0, 0), (37, .aload_n 0, 1, 0, 0, 0), (38, .iload_n 1, 1, 1, 0, 0), (39, .bipush 8, 2, 0, 0, 8), (41, .invokevirtual 285, 3, 0, 160, 0), (44, .goto 8, 3, 52, 0, 0), (47, .aload_n 0, 1, 0, 0, 0), (48, .iload_n 1, 1, 1, 0, 0), (49, .invokevirtual 269, 3, 0, 158, 0), (52, .return_, 1, 0, 0, 0)]
-- 166: BootNetModel.receive(IIII)V
def xt_c166 : List (Nat × Jvm.ClassFile.Instr × Nat × Nat × Nat × Int32) := [(0, .iconst 0, 1, 0, 0, 0), (1, .istore 5, 2, 5, 0, 0), (3, .iload 5, 2, 5, 0, 0), (5, .iload 4, 2, 4, 0, 0), (7, .if_icmp .ge 43, 3, 50, 0, 0), (10, .aload_n 0, 1, 0, 0, 0), (11, .getfield 149, 3, 12, 55, 0), (14, .sipush 240, 3, 0, 0, 240), (17, .iload_n 1, 1, 1, 0, 0), (18, .imul, 1, 0, 0, 0), (19, .aload_n 0, 1, 0, 0, 0), (20, .getfield 143, 3, 12, 53, 0), (23, .iload_n 1, 1, 1, 0, 0), (24, .iaload, 1, 0, 0, 0), (25, .iadd, 1, 0, 0, 0), (26, .aload_n 0, 1, 0, 0, 0), (27, .getfield 152, 3, 12, 56, 0), (30, .iload 5, 2, 5, 0, 0), (32, .iaload, 1, 0, 0, 0), (33, .iastore, 1, 0, 0, 0), (34, .aload_n 0, 1, 0, 0, 0), (35, .getfield 143, 3, 12, 53, 0), (38, .iload_n 1, 1, 1, 0, 0), (39, .dup2, 1, 0, 0, 0), (40, .iaload, 1, 0, 0, 0), (41, .iconst 1, 1, 0, 0, 1), (42, .iadd, 1, 0, 0, 0), (43, .iastore, 1, 0, 0, 0), (44, .iinc 5 1, 3, 5, 0, 1), (47, .goto (-44), 3, 3, 0, 0), (50, .aload_n 0, 1, 0, 0, 0), (51, .bipush 10, 2, 0, 0, 10), (53, .iload_n 1, 1, 1, 0, 0), (54, .iconst 0, 1, 0, 0, 0), (55, .iload_n 2, 1, 2, 0, 0), (56, .iload_n 3, 1, 3, 0, 0), (57, .invokevirtual 237, 3, 0, 135, 0), (60, .aload_n 0, 1, 0, 0, 0), (61, .getfield 137, 3, 12, 51, 0), (64, .iload_n 1, 1, 1, 0, 0), (65, .iconst 1, 1, 0, 0, 1), (66, .iastore, 1, 0, 0, 0), (67, .aload_n 0, 1, 0, 0, 0), (68, .getfield 140, 3, 12, 52, 0), (71, .iload_n 1, 1, 1, 0, 0), (72, .aload_n 0, 1, 0, 0, 0), (73, .getfield 220, 3, 12, 3, 0), (76, .iconst 3, 1, 0, 0, 3), (77, .iadd, 1, 0, 0, 0), (78, .iastore, 1, 0, 0, 0), (79, .aload_n 0, 1, 0, 0, 0), (80, .getfield 143, 3, 12, 53, 0), (83, .iload_n 1, 1, 1, 0, 0), (84, .iaload, 1, 0, 0, 0), (85, .aload_n 0, 1, 0, 0, 0), (86, .getfield 146, 3, 12, 54, 0), (89, .iload_n 1, 1, 1, 0, 0), (90, .iaload, 1, 0, 0, 0), (91, .isub, 1, 0, 0, 0), (92, .istore 5, 2, 5, 0, 0), (94, .iload 4, 2, 4, 0, 0), (96, .aload_n 0, 1, 0, 0, 0), (97, .getfield 165, 3, 12, 2, 0), (100, .if_icmp .ne 37, 3, 137, 0, 0), (103, .aload_n 0, 1, 0, 0, 0), (104, .getfield 134, 3, 12, 50, 0), (107, .iload_n 1, 1, 1, 0, 0), (108, .dup2, 1, 0, 0, 0), (109, .iaload, 1, 0, 0, 0), (110, .iconst 1, 1, 0, 0, 1), (111, .iadd, 1, 0, 0, 0), (112, .iastore, 1, 0, 0, 0), (113, .aload_n 0, 1, 0, 0, 0), (114, .getfield 128, 3, 12, 48, 0), (117, .iload_n 1, 1, 1, 0, 0), (118, .iload 5, 2, 5, 0, 0), (120, .bipush 40, 2, 0, 0, 40), (122, .if_icmp .le 7, 3, 129, 0, 0), (125, .iconst 4, 1, 0, 0, 4), (126, .goto 9, 3, 135, 0, 0), (129, .aload_n 0, 1, 0, 0, 0), (130, .getfield 128, 3, 12, 48, 0), (133, .iload_n 1, 1, 1, 0, 0), (134, .iaload, 1, 0, 0, 0), (135, .iastore, 1, 0, 0, 0), (136, .return_, 1, 0, 0, 0), (137, .iconst (-1), 1, 0, 0, (-1)), (138, .istore 6, 2, 6, 0, 0), (140, .aload_n 0, 1, 0, 0, 0), (141, .getfield 146, 3, 12, 54, 0), (144, .iload_n 1, 1, 1, 0, 0), (145, .iaload, 1, 0, 0, 0), (146, .istore 7, 2, 7, 0, 0), (148, .iload 7, 2, 7, 0, 0), (150, .aload_n 0, 1, 0, 0, 0), (151, .getfield 143, 3, 12, 53, 0), (154, .iload_n 1, 1, 1, 0, 0), (155, .iaload, 1, 0, 0, 0), (156, .if_icmp .ge 29, 3, 185, 0, 0), (159, .iload 6, 2, 6, 0, 0), (161, .aload_n 0, 1, 0, 0, 0), (162, .getfield 149, 3, 12, 55, 0), (165, .sipush 240, 3, 0, 0, 240), (168, .iload_n 1, 1, 1, 0, 0), (169, .imul, 1, 0, 0, 0), (170, .iload 7, 2, 7, 0, 0), (172, .iadd, 1, 0, 0, 0), (173, .iaload, 1, 0, 0, 0), (174, .invokestatic 185, 3, 6, 131, 0), (177, .istore 6, 2, 6, 0, 0), (179, .iinc 7 1, 3, 7, 0, 1), (182, .goto (-34), 3, 148, 0, 0), (185, .iload 5, 2, 5, 0, 0), (187, .aload_n 0, 1, 0, 0, 0), (188, .getfield 56, 3, 12, 22, 0), (191, .aload_n 0, 1, 0, 0, 0), (192, .getfield 131, 3, 12, 49, 0), (195, .iload_n 1, 1, 1, 0, 0), (196, .iaload, 1, 0, 0, 0), (197, .iaload, 1, 0, 0, 0), (198, .if_icmp .eq 13, 3, 211, 0, 0), (201, .aload_n 0, 1, 0, 0, 0), (202, .getfield 128, 3, 12, 48, 0), (205, .iload_n 1, 1, 1, 0, 0), (206, .iconst 4, 1, 0, 0, 4), (207, .iastore, 1, 0, 0, 0), (208, .goto 44, 3, 252, 0, 0), (211, .iload 6, 2, 6, 0, 0), (213, .iconst (-1), 1, 0, 0, (-1)), (214, .ixor, 1, 0, 0, 0), (215, .aload_n 0, 1, 0, 0, 0), (216, .getfield 59, 3, 12, 23, 0), (219, .aload_n 0, 1, 0, 0, 0), (220, .getfield 131, 3, 12, 49, 0), (223, .iload_n 1, 1, 1, 0, 0), (224, .iaload, 1, 0, 0, 0), (225, .iaload, 1, 0, 0, 0), (226, .if_icmp .eq 13, 3, 239, 0, 0), (229, .aload_n 0, 1, 0, 0, 0), (230, .getfield 128, 3, 12, 48, 0), (233, .iload_n 1, 1, 1, 0, 0), (234, .iconst 5, 1, 0, 0, 5), (235, .iastore, 1, 0, 0, 0), (236, .goto 16, 3, 252, 0, 0), (239, .aload_n 0, 1, 0, 0, 0), (240, .iload_n 1, 1, 1, 0, 0), (241, .aload_n 0, 1, 0, 0, 0), (242, .getfield 131, 3, 12, 49, 0), (245, .iload_n 1, 1, 1, 0, 0), (246, .iaload, 1, 0, 0, 0), (247, .iconst 1, 1, 0, 0, 1), (248, .iadd, 1, 0, 0, 0), (249, .invokevirtual 288, 3, 0, 161, 0), (252, .return_, 1, 0, 0, 0)]
-- 167: BootNetModel.selectAgain(I)V
def xt_c167 : List (Nat × Jvm.ClassFile.Instr × Nat × Nat × Nat × Int32) := [(0, .aload_n 0, 1, 0, 0, 0), (1, .getfield 122, 3, 12, 46, 0), (4, .iload_n 1, 1, 1, 0, 0), (5, .iaload, 1, 0, 0, 0), (6, .aload_n 0, 1, 0, 0, 0), (7, .getfield 162, 3, 12, 1, 0), (10, .if_icmp .ne 11, 3, 21, 0, 0), (13, .aload_n 0, 1, 0, 0, 0), (14, .iload_n 1, 1, 1, 0, 0), (15, .bipush 7, 2, 0, 0, 7), (17, .invokevirtual 285, 3, 0, 160, 0), (20, .return_, 1, 0, 0, 0), (21, .aload_n 0, 1, 0, 0, 0), (22, .getfield 122, 3, 12, 46, 0), (25, .iload_n 1, 1, 1, 0, 0), (26, .dup2, 1, 0, 0, 0), (27, .iaload, 1, 0, 0, 0), (28, .iconst 1, 1, 0, 0, 1), (29, .iadd, 1, 0, 0, 0), (30, .iastore, 1, 0, 0, 0), (31, .aload_n 0, 1, 0, 0, 0), (32, .getfield 104, 3, 12, 40, 0), (35, .iload_n 1, 1, 1, 0, 0), (36, .iaload, 1, 0, 0, 0), (37, .iconst 1, 1, 0, 0, 1), (38, .if_icmp .ne 32, 3, 70, 0, 0), (41, .aload_n 0, 1, 0, 0, 0), (42, .iconst 0, 1, 0, 0, 0), (43, .iload_n 1, 1, 1, 0, 0), (44, .aload_n 0, 1, 0, 0, 0), (45, .getfield 110, 3, 12, 42, 0), (48, .iload_n 1, 1, 1, 0, 0), (49, .iaload, 1, 0, 0, 0), (50, .iconst 0, 1, 0, 0, 0), (51, .iconst 0, 1, 0, 0, 0), (52, .invokevirtual 237, 3, 0, 135, 0), (55, .aload_n 0, 1, 0, 0, 0), (56, .getfield 119, 3, 12, 45, 0), (59, .iload_n 1, 1, 1, 0, 0), (60, .aload_n 0, 1, 0, 0, 0), (61, .getfield 220, 3, 12, 3, 0), (64, .iconst 3, 1, 0, 0, 3), (65, .iadd, 1, 0, 0, 0), (66, .iastore, 1, 0, 0, 0), (67, .goto 8, 3, 75, 0, 0), (70, .aload_n 0, 1, 0, 0, 0), (71, .iload_n 1, 1, 1, 0, 0), (72, .invokevirtual 275, 3, 0, 159, 0), (75, .return_, 1, 0, 0, 0)]
-- 168: BootNetModel.settle(I)V
def xt_c168 : List (Nat × Jvm.ClassFile.Instr × Nat × Nat × Nat × Int32) := [(0, .aload_n 0, 1, 0, 0, 0), (1, .getfield 220, 3, 12, 3, 0), (4, .aload_n 0, 1, 0, 0, 0), (5, .getfield 116, 3, 12, 44, 0), (8, .iload_n 1, 1, 1, 0, 0), (9, .iaload, 1, 0, 0, 0), (10, .if_icmp .lt 9, 3, 19, 0, 0), (13, .aload_n 0, 1, 0, 0, 0), (14, .iload_n 1, 1, 1, 0, 0), (15, .invokevirtual 269, 3, 0, 158, 0), (18, .return_, 1, 0, 0, 0), (19, .aload_n 0, 1, 0, 0, 0), (20, .getfield 104, 3, 12, 40, 0), (23, .iload_n 1, 1, 1, 0, 0), (24, .iconst 4, 1, 0, 0, 4), (25, .iastore, 1, 0, 0, 0), (26, .aload_n 0, 1, 0, 0, 0), (27, .getfield 128, 3, 12, 48, 0), (30, .iload_n 1, 1, 1, 0, 0), (31, .iaload, 1, 0, 0, 0), (32, .ifCond .ne 9, 3, 41, 0, 0), (35, .aload_n 0, 1, 0, 0, 0), (36, .iload_n 1, 1, 1, 0, 0), (37, .iconst 0, 1, 0, 0, 0), (38, .invokevirtual 288, 3, 0, 161, 0), (41, .return_, 1, 0, 0, 0)]
-- 169: BootNetModel.loadAgain(I)V
def xt_c169 : List (Nat × Jvm.ClassFile.Instr × Nat × Nat × Nat × Int32) := [(0, .aload_n 0, 1, 0, 0, 0), (1, .getfield 137, 3, 12, 51, 0), (4, .iload_n 1, 1, 1, 0, 0), (5, .iaload, 1, 0, 0, 0), (6, .aload_n 0, 1, 0, 0, 0), (7, .getfield 162, 3, 12, 1, 0), (10, .if_icmp .ne 12, 3, 22, 0, 0), (13, .aload_n 0, 1, 0, 0, 0), (14, .getfield 128, 3, 12, 48, 0), (17, .iload_n 1, 1, 1, 0, 0), (18, .bipush 6, 2, 0, 0, 6), (20, .iastore, 1, 0, 0, 0), (21, .return_, 1, 0, 0, 0), (22, .aload_n 0, 1, 0, 0, 0), (23, .getfield 137, 3, 12, 51, 0), (26, .iload_n 1, 1, 1, 0, 0), (27, .dup2, 1, 0, 0, 0), (28, .iaload, 1, 0, 0, 0), (29, .iconst 1, 1, 0, 0, 1), (30, .iadd, 1, 0, 0, 0), (31, .iastore, 1, 0, 0, 0), (32, .aload_n 0, 1, 0, 0, 0), (33, .getfield 140, 3, 12, 52, 0), (36, .iload_n 1, 1, 1, 0, 0), (37, .aload_n 0, 1, 0, 0, 0), (38, .getfield 220, 3, 12, 3, 0), (41, .iconst 3, 1, 0, 0, 3), (42, .iadd, 1, 0, 0, 0), (43, .iastore, 1, 0, 0, 0), (44, .aload_n 0, 1, 0, 0, 0), (45, .getfield 134, 3, 12, 50, 0), (48, .iload_n 1, 1, 1, 0, 0), (49, .iaload, 1, 0, 0, 0), (50, .iconst 1, 1, 0, 0, 1), (51, .if_icmp .ne 23, 3, 74, 0, 0), (54, .aload_n 0, 1, 0, 0, 0), (55, .bipush 8, 2, 0, 0, 8), (57, .iload_n 1, 1, 1, 0, 0), (58, .iconst 0, 1, 0, 0, 0), (59, .aload_n 0, 1, 0, 0, 0), (60, .getfield 53, 3, 12, 21, 0), (63, .aload_n 0, 1, 0, 0, 0), (64, .getfield 131, 3, 12, 49, 0), (67, .iload_n 1, 1, 1, 0, 0), (68, .iaload, 1, 0, 0, 0), (69, .iaload, 1, 0, 0, 0), (70, .iconst 0, 1, 0, 0, 0), (71, .invokevirtual 237, 3, 0, 135, 0), (74, .return_, 1, 0, 0, 0)]
-- 170: BootNetModel.live(I)V
def xt_c170 : List (Nat × Jvm.ClassFile.Instr × Nat × Nat × Nat × Int32) := [(0, .aload_n 0, 1, 0, 0, 0), (1, .getfield 104, 3, 12, 40, 0), (4, .iload_n 1, 1, 1, 0, 0), (5, .iaload, 1, 0, 0, 0), (6, .iconst 5, 1, 0, 0, 5), (7, .if_icmp .eq 14, 3, 21, 0, 0), (10, .aload_n 0, 1, 0, 0, 0), (11, .getfield 104, 3, 12, 40, 0), (14, .iload_n 1, 1, 1, 0, 0), (15, .iaload, 1, 0, 0, 0), (16, .bipush 6, 2, 0, 0, 6), (18, .if_icmp .ne 7, 3, 25, 0, 0), (21, .iconst 1, 1, 0, 0, 1), (22, .goto 4, 3, 26, 0, 0), (25, .iconst 0, 1, 0, 0, 0), (26, .istore_n 2, 1, 2, 0, 0), (27, .aload_n 0, 1, 0, 0, 0), (28, .iload_n 1, 1, 1, 0, 0), (29, .invokevirtual 272, 3, 0, 156, 0), (32, .ifCond .eq 24, 3, 56, 0, 0), (35, .aload_n 0, 1, 0, 0, 0), (36, .getfield 220, 3, 12, 3, 0), (39, .aload_n 0, 1, 0, 0, 0), (40, .getfield 116, 3, 12, 44, 0), (43, .iload_n 1, 1, 1, 0, 0), (44, .iaload, 1, 0, 0, 0), (45, .if_icmp .lt 11, 3, 56, 0, 0), (48, .aload_n 0, 1, 0, 0, 0), (49, .iload_n 1, 1, 1, 0, 0), (50, .invokevirtual 269, 3, 0, 158, 0), (53, .goto 236, 3, 289, 0, 0), (56, .aload_n 0, 1, 0, 0, 0), (57, .getfield 104, 3, 12, 40, 0), (60, .iload_n 1, 1, 1, 0, 0), (61, .iaload, 1, 0, 0, 0), (62, .iconst 1, 1, 0, 0, 1), (63, .if_icmp .eq 13, 3, 76, 0, 0), (66, .aload_n 0, 1, 0, 0, 0), (67, .getfield 104, 3, 12, 40, 0), (70, .iload_n 1, 1, 1, 0, 0), (71, .iaload, 1, 0, 0, 0), (72, .iconst 2, 1, 0, 0, 2), (73, .if_icmp .ne 24, 3, 97, 0, 0), (76, .aload_n 0, 1, 0, 0, 0), (77, .getfield 220, 3, 12, 3, 0), (80, .aload_n 0, 1, 0, 0, 0), (81, .getfield 119, 3, 12, 45, 0), (84, .iload_n 1, 1, 1, 0, 0), (85, .iaload, 1, 0, 0, 0), (86, .if_icmp .lt 11, 3, 97, 0, 0), (89, .aload_n 0, 1, 0, 0, 0), (90, .iload_n 1, 1, 1, 0, 0), (91, .invokevirtual 291, 3, 0, 167, 0), (94, .goto 195, 3, 289, 0, 0), (97, .aload_n 0, 1, 0, 0, 0), (98, .getfield 104, 3, 12, 40, 0), (101, .iload_n 1, 1, 1, 0, 0), (102, .iaload, 1, 0, 0, 0), (103, .iconst 3, 1, 0, 0, 3), (104, .if_icmp .ne 24, 3, 128, 0, 0), (107, .aload_n 0, 1, 0, 0, 0), (108, .getfield 220, 3, 12, 3, 0), (111, .aload_n 0, 1, 0, 0, 0), (112, .getfield 119, 3, 12, 45, 0), (115, .iload_n 1, 1, 1, 0, 0), (116, .iaload, 1, 0, 0, 0), (117, .if_icmp .lt 11, 3, 128, 0, 0), (120, .aload_n 0, 1, 0, 0, 0), (121, .iload_n 1, 1, 1, 0, 0), (122, .invokevirtual 294, 3, 0, 168, 0), (125, .goto 164, 3, 289, 0, 0), (128, .aload_n 0, 1, 0, 0, 0), (129, .getfield 104, 3, 12, 40, 0), (132, .iload_n 1, 1, 1, 0, 0), (133, .iaload, 1, 0, 0, 0), (134, .iconst 4, 1, 0, 0, 4), (135, .if_icmp .ne 38, 3, 173, 0, 0), (138, .iconst 2, 1, 0, 0, 2), (139, .aload_n 0, 1, 0, 0, 0), (140, .getfield 220, 3, 12, 3, 0), (143, .aload_n 0, 1, 0, 0, 0), (144, .getfield 113, 3, 12, 43, 0), (147, .iload_n 1, 1, 1, 0, 0), (148, .iaload, 1, 0, 0, 0), (149, .isub, 1, 0, 0, 0), (150, .imul, 1, 0, 0, 0), (151, .aload_n 0, 1, 0, 0, 0), (152, .getfield 158, 3, 12, 0, 0), (155, .if_icmp .lt 18, 3, 173, 0, 0), (158, .aload_n 0, 1, 0, 0, 0), (159, .getfield 104, 3, 12, 40, 0), (162, .iload_n 1, 1, 1, 0, 0), (163, .iconst 5, 1, 0, 0, 5), (164, .iastore, 1, 0, 0, 0), (165, .aload_n 0, 1, 0, 0, 0), (166, .iload_n 1, 1, 1, 0, 0), (167, .invokevirtual 275, 3, 0, 159, 0), (170, .goto 119, 3, 289, 0, 0), (173, .aload_n 0, 1, 0, 0, 0), (174, .getfield 104, 3, 12, 40, 0), (177, .iload_n 1, 1, 1, 0, 0), (178, .iaload, 1, 0, 0, 0), (179, .iconst 5, 1, 0, 0, 5), (180, .if_icmp .ne 48, 3, 228, 0, 0), (183, .bipush 8, 2, 0, 0, 8), (185, .aload_n 0, 1, 0, 0, 0), (186, .getfield 220, 3, 12, 3, 0), (189, .aload_n 0, 1, 0, 0, 0), (190, .getfield 116, 3, 12, 44, 0), (193, .iload_n 1, 1, 1, 0, 0), (194, .iaload, 1, 0, 0, 0), (195, .aload_n 0, 1, 0, 0, 0), (196, .getfield 158, 3, 12, 0, 0), (199, .isub, 1, 0, 0, 0), (200, .isub, 1, 0, 0, 0), (201, .imul, 1, 0, 0, 0), (202, .bipush 7, 2, 0, 0, 7), (204, .aload_n 0, 1, 0, 0, 0), (205, .getfield 158, 3, 12, 0, 0), (208, .imul, 1, 0, 0, 0), (209, .if_icmp .lt 19, 3, 228, 0, 0), (212, .aload_n 0, 1, 0, 0, 0), (213, .getfield 104, 3, 12, 40, 0), (216, .iload_n 1, 1, 1, 0, 0), (217, .bipush 6, 2, 0, 0, 6), (219, .iastore, 1, 0, 0, 0), (220, .aload_n 0, 1, 0, 0, 0), (221, .iload_n 1, 1, 1, 0, 0), (222, .invokevirtual 275, 3, 0, 159, 0), (225, .goto 64, 3, 289, 0, 0), (228, .iload_n 2, 1, 2, 0, 0), (229, .ifCond .eq 24, 3, 253, 0, 0), (232, .aload_n 0, 1, 0, 0, 0), (233, .getfield 220, 3, 12, 3, 0), (236, .aload_n 0, 1, 0, 0, 0), (237, .getfield 119, 3, 12, 45, 0), (240, .iload_n 1, 1, 1, 0, 0), (241, .iaload, 1, 0, 0, 0), (242, .if_icmp .lt 11, 3, 253, 0, 0), (245, .aload_n 0, 1, 0, 0, 0), (246, .iload_n 1, 1, 1, 0, 0), (247, .invokevirtual 275, 3, 0, 159, 0), (250, .goto 39, 3, 289, 0, 0), (253, .aload_n 0, 1, 0, 0, 0), (254, .iload_n 1, 1, 1, 0, 0), (255, .invokevirtual 272, 3, 0, 156, 0), (258, .ifCond .eq 31, 3, 289, 0, 0), (261, .aload_n 0, 1, 0, 0, 0), (262, .getfield 128, 3, 12, 48, 0), (265, .iload_n 1, 1, 1, 0, 0), (266, .iaload, 1, 0, 0, 0), (267, .iconst 1, 1, 0, 0, 1), (268, .if_icmp .ne 21, 3, 289, 0, 0), (271, .aload_n 0, 1, 0, 0, 0), (272, .getfield 220, 3, 12, 3, 0), (275, .aload_n 0, 1, 0, 0, 0), (276, .getfield 140, 3, 12, 52, 0), (279, .iload_n 1, 1, 1, 0, 0), (280, .iaload, 1, 0, 0, 0), (281, .if_icmp .lt 8, 3, 289, 0, 0), (284, .aload_n 0, 1, 0, 0, 0), (285, .iload_n 1, 1, 1, 0, 0), (286, .invokevirtual 297, 3, 0, 169, 0), (289, .return_, 1, 0, 0, 0)]
-- 171: BootNetModel.tick()I
def xt_c171 : List (Nat × Jvm.ClassFile.Instr × Nat × Nat × Nat × Int32) := [(0, .aload_n 0, 1, 0, 0, 0), (1, .dup, 1, 0, 0, 0), (2, .getfield 220, 3, 12, 3, 0), (5, .iconst 1, 1, 0, 0, 1), (6, .iadd, 1, 0, 0, 0), (7, .putfield 220, 3, 12, 3, 0), (10, .iconst 0, 1, 0, 0, 0), (11, .istore_n 1, 1, 1, 0, 0), (12, .iload_n 1, 1, 1, 0, 0), (13, .aload_n 0, 1, 0, 0, 0), (14, .getfield 168, 3, 12, 38, 0), (17, .if_icmp .ge 14, 3, 31, 0, 0), (20, .aload_n 0, 1, 0, 0, 0), (21, .iload_n 1, 1, 1, 0, 0), (22, .invokevirtual 300, 3, 0, 170, 0), (25, .iinc 1 1, 3, 1, 0, 1), (28, .goto (-16), 3, 12, 0, 0), (31, .iconst 0, 1, 0, 0, 0), (32, .istore_n 1, 1, 1, 0, 0), (33, .iload_n 1, 1, 1, 0, 0), (34, .aload_n 0, 1, 0, 0, 0), (35, .getfield 168, 3, 12, 38, 0), (38, .if_icmp .ge 59, 3, 97, 0, 0), (41, .aload_n 0, 1, 0, 0, 0), (42, .getfield 86, 3, 12, 33, 0), (45, .iload_n 1, 1, 1, 0, 0), (46, .iaload, 1, 0, 0, 0), (47, .ifCond .le 44, 3, 91, 0, 0), (50, .aload_n 0, 1, 0, 0, 0), (51, .getfield 98, 3, 12, 37, 0), (54, .iload_n 1, 1, 1, 0, 0), (55, .iaload, 1, 0, 0, 0), (56, .aload_n 0, 1, 0, 0, 0), (57, .getfield 220, 3, 12, 3, 0), (60, .if_icmp .gt 31, 3, 91, 0, 0), (63, .aload_n 0, 1, 0, 0, 0), (64, .getfield 95, 3, 12, 36, 0), (67, .iload_n 1, 1, 1, 0, 0), (68, .iaload, 1, 0, 0, 0), (69, .aload_n 0, 1, 0, 0, 0), (70, .getfield 162, 3, 12, 1, 0), (73, .if_icmp .ne 13, 3, 86, 0, 0), (76, .aload_n 0, 1, 0, 0, 0), (77, .getfield 86, 3, 12, 33, 0), (80, .iload_n 1, 1, 1, 0, 0), (81, .iconst 0, 1, 0, 0, 0), (82, .iastore, 1, 0, 0, 0), (83, .goto 8, 3, 91, 0, 0), (86, .aload_n 0, 1, 0, 0, 0), (87, .iload_n 1, 1, 1, 0, 0), (88, .invokevirtual 240, 3, 0, 152, 0), (91, .iinc 1 1, 3, 1, 0, 1), (94, .goto (-61), 3, 33, 0, 0), (97, .aload_n 0, 1, 0, 0, 0), (98, .getfield 189, 3, 12, 9, 0), (101, .ireturn, 1, 0, 0, 0)]
-- 172: BootNetModel.station(II)I
def xt_c172 : List (Nat × Jvm.ClassFile.Instr × Nat × Nat × Nat × Int32) := [(0, .aload_n 0, 1, 0, 0, 0), (1, .iload_n 1, 1, 1, 0, 0), (2, .invokevirtual 171, 3, 0, 122, 0), (5, .ifCond .eq 13, 3, 18, 0, 0), (8, .iload_n 2, 1, 2, 0, 0), (9, .ifCond .lt 9, 3, 18, 0, 0), (12, .iload_n 2, 1, 2, 0, 0), (13, .bipush 7, 2, 0, 0, 7), (15, .if_icmp .le 5, 3, 20, 0, 0), (18, .iconst (-1), 1, 0, 0, (-1)), (19, .ireturn, 1, 0, 0, 0), (20, .iload_n 2, 1, 2, 0, 0), (21, .iconst 4, 1, 0, 0, 4), (22, .if_icmp .ge 51, 3, 73, 0, 0), (25, .iload_n 2, 1, 2, 0, 0), (26, .ifCond .ne 12, 3, 38, 0, 0), (29, .aload_n 0, 1, 0, 0, 0), (30, .getfield 104, 3, 12, 40, 0), (33, .iload_n 1, 1, 1, 0, 0), (34, .iaload, 1, 0, 0, 0), (35, .goto 37, 3, 72, 0, 0), (38, .iload_n 2, 1, 2, 0, 0), (39, .iconst 1, 1, 0, 0, 1), (40, .if_icmp .ne 12, 3, 52, 0, 0), (43, .aload_n 0, 1, 0, 0, 0), (44, .getfield 107, 3, 12, 41, 0), (47, .iload_n 1, 1, 1, 0, 0), (48, .iaload, 1, 0, 0, 0), (49, .goto 23, 3, 72, 0, 0), (52, .iload_n 2, 1, 2, 0, 0), (53, .iconst 2, 1, 0, 0, 2), (54, .if_icmp .ne 12, 3, 66, 0, 0), (57, .aload_n 0, 1, 0, 0, 0), (58, .getfield 110, 3, 12, 42, 0), (61, .iload_n 1, 1, 1, 0, 0), (62, .iaload, 1, 0, 0, 0), (63, .goto 9, 3, 72, 0, 0), (66, .aload_n 0, 1, 0, 0, 0), (67, .getfield 116, 3, 12, 44, 0), (70, .iload_n 1, 1, 1, 0, 0), (71, .iaload, 1, 0, 0, 0), (72, .ireturn, 1, 0, 0, 0), (73, .iload_n 2, 1, 2, 0, 0), (74, .iconst 4, 1, 0, 0, 4), (75, .if_icmp .ne 12, 3, 87, 0, 0), (78, .aload_n 0, 1, 0, 0, 0), (79, .getfield 125, 3, 12, 47, 0), (82, .iload_n 1, 1, 1, 0, 0), (83, .iaload, 1, 0, 0, 0), (84, .goto 45, 3, 129, 0, 0), (87, .iload_n 2, 1, 2, 0, 0), (88, .iconst 5, 1, 0, 0, 5), (89, .if_icmp .ne 12, 3, 101, 0, 0), (92, .aload_n 0, 1, 0, 0, 0), (93, .getfield 128, 3, 12, 48, 0), (96, .iload_n 1, 1, 1, 0, 0), (97, .iaload, 1, 0, 0, 0), (98, .goto 31, 3, 129, 0, 0), (101, .iload_n 2, 1, 2, 0, 0), (102, .bipush 6, 2, 0, 0, 6), (104, .if_icmp .ne 12, 3, 116, 0, 0), (107, .aload_n 0, 1, 0, 0, 0), (108, .getfield 131, 3, 12, 49, 0), (111, .iload_n 1, 1, 1, 0, 0), (112, .iaload, 1, 0, 0, 0), (113, .goto 16, 3, 129, 0, 0), (116, .aload_n 0, 1, 0, 0, 0), (117, .getfield 143, 3, 12, 53, 0), (120, .iload_n 1, 1, 1, 0, 0), (121, .iaload, 1, 0, 0, 0), (122, .aload_n 0, 1, 0, 0, 0), (123, .getfield 146, 3, 12, 54, 0), (126, .iload_n 1, 1, 1, 0, 0), (127, .iaload, 1, 0, 0, 0), (128, .isub, 1, 0, 0, 0), (129, .ireturn, 1, 0, 0, 0)]
-- 173: BootNetModel.image(II)I
def xt_c173 : List (Nat × Jvm.ClassFile.Instr × Nat × Nat × Nat × Int32) := [(0, .aload_n 0, 1, 0, 0, 0), (1, .iload_n 1, 1, 1, 0, 0), (2, .invokevirtual 171, 3, 0, 122, 0), (5, .ifCond .eq 17, 3, 22, 0, 0), (8, .iload_n 2, 1, 2, 0, 0), (9, .ifCond .lt 13, 3, 22, 0, 0), (12, .iload_n 2, 1, 2, 0, 0), (13, .aload_n 0, 1, 0, 0, 0), (14, .getfield 143, 3, 12, 53, 0), (17, .iload_n 1, 1, 1, 0, 0), (18, .iaload, 1, 0, 0, 0), (19, .if_icmp .lt 7, 3, 26, 0, 0), (22, .iconst (-1), 1, 0, 0, (-1)), (23, .goto 15, 3, 38, 0, 0), (26, .aload_n 0, 1, 0, 0, 0), (27, .getfield 149, 3, 12, 55, 0), (30, .sipush 240, 3, 0, 0, 240), (33, .iload_n 1, 1, 1, 0, 0), (34, .imul, 1, 0, 0, 0), (35, .iload_n 2, 1, 2, 0, 0), (36, .iadd, 1, 0, 0, 0), (37, .iaload, 1, 0, 0, 0), (38, .ireturn, 1, 0, 0, 0)]
-- 174: java/util/Arrays.fill([II)V
def xt_c174 : List (Nat × Jvm.ClassFile.Instr × Nat × Nat × Nat × Int32) := [(0, .iconst 0, 1, 0, 0, 0), (1, .istore_n 2, 1, 2, 0, 0), (2, .aload_n 0, 1, 0, 0, 0), (3, .arraylength, 1, 0, 0, 0), (4, .istore_n 3, 1, 3, 0, 0), (5, .iload_n 2, 1, 2, 0, 0), (6, .iload_n 3, 1, 3, 0, 0), (7, .if_icmp .ge 13, 3, 20, 0, 0), (10, .aload_n 0, 1, 0, 0, 0), (11, .iload_n 2, 1, 2, 0, 0), (12, .iload_n 1, 1, 1, 0, 0), (13, .iastore, 1, 0, 0, 0), (14, .iinc 2 1, 3, 2, 0, 1), (17, .goto (-12), 3, 5, 0, 0), (20, .return_, 1, 0, 0, 0)]
-- 175: BootNetLaw.cell([II)I
def xt_c175 : List (Nat × Jvm.ClassFile.Instr × Nat × Nat × Nat × Int32) := [(0, .iload_n 1, 1, 1, 0, 0), (1, .aload_n 0, 1, 0, 0, 0), (2, .arraylength, 1, 0, 0, 0), (3, .if_icmp .ge 9, 3, 12, 0, 0), (6, .aload_n 0, 1, 0, 0, 0), (7, .iload_n 1, 1, 1, 0, 0), (8, .iaload, 1, 0, 0, 0), (9, .goto 4, 3, 13, 0, 0), (12, .iconst 0, 1, 0, 0, 0), (13, .ireturn, 1, 0, 0, 0)]
-- 176: BootNetLaw.law([I)Z
def xt_c176 : List (Nat × Jvm.ClassFile.Instr × Nat × Nat × Nat × Int32) := [(0, .new 7, 3, 0, 6, 0), (3, .dup, 1, 0, 0, 0), (4, .aload_n 0, 1, 0, 0, 0), (5, .iconst 0, 1, 0, 0, 0), (6, .invokestatic 9, 3, 6, 175, 0), (9, .aload_n 0, 1, 0, 0, 0), (10, .iconst 1, 1, 0, 0, 1), (11, .invokestatic 9, 3, 6, 175, 0), (14, .aload_n 0, 1, 0, 0, 0), (15, .iconst 2, 1, 0, 0, 2), (16, .invokestatic 9, 3, 6, 175, 0), (19, .invokespecial 15, 3, 7, 0, 0), (22, .astore_n 1, 1, 1, 0, 0), (23, .new 18, 3, 12, 58, 0), (26, .dup, 1, 0, 0, 0), (27, .aload_n 0, 1, 0, 0, 0), (28, .iconst 0, 1, 0, 0, 0), (29, .invokestatic 9, 3, 6, 175, 0), (32, .aload_n 0, 1, 0, 0, 0), (33, .iconst 1, 1, 0, 0, 1), (34, .invokestatic 9, 3, 6, 175, 0), (37, .aload_n 0, 1, 0, 0, 0), (38, .iconst 2, 1, 0, 0, 2), (39, .invokestatic 9, 3, 6, 175, 0), (42, .invokespecial 20, 3, 7, 121, 0), (45, .astore_n 2, 1, 2, 0, 0), (46, .iconst 3, 1, 0, 0, 3), (47, .istore_n 3, 1, 3, 0, 0), (48, .iload_n 3, 1, 3, 0, 0), (49, .aload_n 0, 1, 0, 0, 0), (50, .arraylength, 1, 0, 0, 0), (51, .iconst 4, 1, 0, 0, 4), (52, .isub, 1, 0, 0, 0), (53, .if_icmp .gt 610, 3, 663, 0, 0), (56, .aload_n 0, 1, 0, 0, 0), (57, .iload_n 3, 1, 3, 0, 0), (58, .iaload, 1, 0, 0, 0), (59, .bipush 31, 2, 0, 0, 31), (61, .iand, 1, 0, 0, 0), (62, .tableswitch 595 0 16 #[82, 125, 148, 181, 230, 263, 306, 329, 352, 375, 424, 437, 450, 483, 516, 549, 582], 82, 657, 0, 0), (144, .aload_n 1, 1, 1, 0, 0), (145, .aload_n 0, 1, 0, 0, 0), (146, .iload_n 3, 1, 3, 0, 0), (147, .iconst 1, 1, 0, 0, 1), (148, .iadd, 1, 0, 0, 0), (149, .iaload, 1, 0, 0, 0), (150, .aload_n 0, 1, 0, 0, 0), (151, .iload_n 3, 1, 3, 0, 0), (152, .iconst 2, 1, 0, 0, 2), (153, .iadd, 1, 0, 0, 0), (154, .iaload, 1, 0, 0, 0), (155, .aload_n 0, 1, 0, 0, 0), (156, .iload_n 3, 1, 3, 0, 0), (157, .iconst 3, 1, 0, 0, 3), (158, .iadd, 1, 0, 0, 0), (159, .iaload, 1, 0, 0, 0), (160, .invokevirtual 21, 3, 0, 1, 0), (163, .aload_n 2, 1, 2, 0, 0), (164, .aload_n 0, 1, 0, 0, 0), (165, .iload_n 3, 1, 3, 0, 0), (166, .iconst 1, 1, 0, 0, 1), (167, .iadd, 1, 0, 0, 0), (168, .iaload, 1, 0, 0, 0), (169, .aload_n 0, 1, 0, 0, 0), (170, .iload_n 3, 1, 3, 0, 0), (171, .iconst 2, 1, 0, 0, 2), (172, .iadd, 1, 0, 0, 0), (173, .iaload, 1, 0, 0, 0), (174, .aload_n 0, 1, 0, 0, 0), (175, .iload_n 3, 1, 3, 0, 0), (176, .iconst 3, 1, 0, 0, 3), (177, .iadd, 1, 0, 0, 0), (178, .iaload, 1, 0, 0, 0), (179, .invokevirtual 25, 3, 0, 125, 0), (182, .if_icmp .eq 475, 3, 657, 0, 0), (185, .iconst 0, 1, 0, 0, 0), (186, .ireturn, 1, 0, 1, 0), (187, .aload_n 1, 1, 1, 0, 0), (188, .aload_n 0, 1, 0, 0, 0), (189, .iload_n 3, 1, 3, 0, 0), (190, .iconst 1, 1, 0, 0, 1), (191, .iadd, 1, 0, 0, 0), (192, .iaload, 1, 0, 0, 0), (193, .invokevirtual 26, 3, 0, 2, 0), (196, .aload_n 2, 1, 2, 0, 0), (197, .aload_n 0, 1, 0, 0, 0), (198, .iload_n 3, 1, 3, 0, 0), (199, .iconst 1, 1, 0, 0, 1), (200, .iadd, 1, 0, 0, 0), (201, .iaload, 1, 0, 0, 0), (202, .invokevirtual 30, 3, 0, 126, 0), (205, .if_icmp .eq 452, 3, 657, 0, 0), (208, .iconst 0, 1, 0, 0, 0), (209, .ireturn, 1, 0, 1, 0), (210, .aload_n 1, 1, 1, 0, 0), (211, .aload_n 0, 1, 0, 0, 0), (212, .iload_n 3, 1, 3, 0, 0), (213, .iconst 1, 1, 0, 0, 1), (214, .iadd, 1, 0, 0, 0), (215, .iaload, 1, 0, 0, 0), (216, .aload_n 0, 1, 0, 0, 0), (217, .iload_n 3, 1, 3, 0, 0), (218, .iconst 2, 1, 0, 0, 2), (219, .iadd, 1, 0, 0, 0), (220, .iaload, 1, 0, 0, 0), (221, .invokevirtual 31, 3, 0, 3, 0), (224, .aload_n 2, 1, 2, 0, 0), (225, .aload_n 0, 1, 0, 0, 0), (226, .iload_n 3, 1, 3, 0, 0), (227, .iconst 1, 1, 0, 0, 1), (228, .iadd, 1, 0, 0, 0), (229, .iaload, 1, 0, 0, 0), (230, .aload_n 0, 1, 0, 0, 0), (231, .iload_n 3, 1, 3, 0, 0), (232, .iconst 2, 1, 0, 0, 2), (233, .iadd, 1, 0, 0, 0), (234, .iaload, 1, 0, 0, 0), (235, .invokevirtual 35, 3, 0, 127, 0), (238, .if_icmp .eq 419, 3, 657, 0, 0), (241, .iconst 0, 1, 0, 0, 0), (242, .ireturn, 1, 0, 1, 0), (243, .aload_n 1, 1, 1, 0, 0), (244, .aload_n 0, 1, 0, 0, 0), (245, .iload_n 3, 1, 3, 0, 0), (246, .iconst 1, 1, 0, 0, 1), (247, .iadd, 1, 0, 0, 0), (248, .iaload, 1, 0, 0, 0), (249, .aload_n 0, 1, 0, 0, 0), (250, .iload_n 3, 1, 3, 0, 0), (251, .iconst 2, 1, 0, 0, 2), (252, .iadd, 1, 0, 0, 0), (253, .iaload, 1, 0, 0, 0), (254, .ifCond .eq 7, 3, 261, 0, 0), (257, .iconst 1, 1, 0, 0, 1), (258, .goto 4, 3, 262, 0, 0), (261, .iconst 0, 1, 0, 0, 0), (262, .invokevirtual 36, 3, 0, 4, 0), (265, .aload_n 2, 1, 2, 0, 0), (266, .aload_n 0, 1, 0, 0, 0), (267, .iload_n 3, 1, 3, 0, 0), (268, .iconst 1, 1, 0, 0, 1), (269, .iadd, 1, 0, 0, 0), (270, .iaload, 1, 0, 0, 0), (271, .aload_n 0, 1, 0, 0, 0), (272, .iload_n 3, 1, 3, 0, 0), (273, .iconst 2, 1, 0, 0, 2), (274, .iadd, 1, 0, 0, 0), (275, .iaload, 1, 0, 0, 0), (276, .ifCond .eq 7, 3, 283, 0, 0), (279, .iconst 1, 1, 0, 0, 1), (280, .goto 4, 3, 284, 0, 0), (283, .iconst 0, 1, 0, 0, 0), (284, .invokevirtual 40, 3, 0, 128, 0), (287, .if_icmp .eq 370, 3, 657, 0, 0), (290, .iconst 0, 1, 0, 0, 0), (291, .ireturn, 1, 0, 1, 0), (292, .aload_n 1, 1, 1, 0, 0), (293, .aload_n 0, 1, 0, 0, 0), (294, .iload_n 3, 1, 3, 0, 0), (295, .iconst 1, 1, 0, 0, 1), (296, .iadd, 1, 0, 0, 0), (297, .iaload, 1, 0, 0, 0), (298, .aload_n 0, 1, 0, 0, 0), (299, .iload_n 3, 1, 3, 0, 0), (300, .iconst 2, 1, 0, 0, 2), (301, .iadd, 1, 0, 0, 0), (302, .iaload, 1, 0, 0, 0), (303, .invokevirtual 41, 3, 0, 5, 0), (306, .aload_n 2, 1, 2, 0, 0), (307, .aload_n 0, 1, 0, 0, 0), (308, .iload_n 3, 1, 3, 0, 0), (309, .iconst 1, 1, 0, 0, 1), (310, .iadd, 1, 0, 0, 0), (311, .iaload, 1, 0, 0, 0), (312, .aload_n 0, 1, 0, 0, 0), (313, .iload_n 3, 1, 3, 0, 0), (314, .iconst 2, 1, 0, 0, 2), (315, .iadd, 1, 0, 0, 0), (316, .iaload, 1, 0, 0, 0), (317, .invokevirtual 44, 3, 0, 129, 0), (320, .if_icmp .eq 337, 3, 657, 0, 0), (323, .iconst 0, 1, 0, 0, 0), (324, .ireturn, 1, 0, 1, 0), (325, .aload_n 1, 1, 1, 0, 0), (326, .aload_n 0, 1, 0, 0, 0), (327, .iload_n 3, 1, 3, 0, 0), (328, .iconst 1, 1, 0, 0, 1), (329, .iadd, 1, 0, 0, 0), (330, .iaload, 1, 0, 0, 0), (331, .aload_n 0, 1, 0, 0, 0), (332, .iload_n 3, 1, 3, 0, 0), (333, .iconst 2, 1, 0, 0, 2), (334, .iadd, 1, 0, 0, 0), (335, .iaload, 1, 0, 0, 0), (336, .aload_n 0, 1, 0, 0, 0), (337, .iload_n 3, 1, 3, 0, 0), (338, .iconst 3, 1, 0, 0, 3), (339, .iadd, 1, 0, 0, 0), (340, .iaload, 1, 0, 0, 0), (341, .invokevirtual 45, 3, 0, 6, 0), (344, .aload_n 2, 1, 2, 0, 0), (345, .aload_n 0, 1, 0, 0, 0), (346, .iload_n 3, 1, 3, 0, 0), (347, .iconst 1, 1, 0, 0, 1), (348, .iadd, 1, 0, 0, 0), (349, .iaload, 1, 0, 0, 0), (350, .aload_n 0, 1, 0, 0, 0), (351, .iload_n 3, 1, 3, 0, 0), (352, .iconst 2, 1, 0, 0, 2), (353, .iadd, 1, 0, 0, 0), (354, .iaload, 1, 0, 0, 0), (355, .aload_n 0, 1, 0, 0, 0), (356, .iload_n 3, 1, 3, 0, 0), (357, .iconst 3, 1, 0, 0, 3), (358, .iadd, 1, 0, 0, 0), (359, .iaload, 1, 0, 0, 0), (360, .invokevirtual 48, 3, 0, 130, 0), (363, .if_icmp .eq 294, 3, 657, 0, 0), (366, .iconst 0, 1, 0, 0, 0), (367, .ireturn, 1, 0, 1, 0), (368, .aload_n 1, 1, 1, 0, 0), (369, .aload_n 0, 1, 0, 0, 0), (370, .iload_n 3, 1, 3, 0, 0), (371, .iconst 1, 1, 0, 0, 1), (372, .iadd, 1, 0, 0, 0), (373, .iaload, 1, 0, 0, 0), (374, .invokevirtual 49, 3, 0, 7, 0), (377, .aload_n 2, 1, 2, 0, 0), (378, .aload_n 0, 1, 0, 0, 0), (379, .iload_n 3, 1, 3, 0, 0), (380, .iconst 1, 1, 0, 0, 1), (381, .iadd, 1, 0, 0, 0), (382, .iaload, 1, 0, 0, 0), (383, .invokevirtual 52, 3, 0, 132, 0), (386, .if_icmp .eq 271, 3, 657, 0, 0), (389, .iconst 0, 1, 0, 0, 0), (390, .ireturn, 1, 0, 1, 0), (391, .aload_n 1, 1, 1, 0, 0), (392, .aload_n 0, 1, 0, 0, 0), (393, .iload_n 3, 1, 3, 0, 0), (394, .iconst 1, 1, 0, 0, 1), (395, .iadd, 1, 0, 0, 0), (396, .iaload, 1, 0, 0, 0), (397, .invokevirtual 53, 3, 0, 8, 0), (400, .aload_n 2, 1, 2, 0, 0), (401, .aload_n 0, 1, 0, 0, 0), (402, .iload_n 3, 1, 3, 0, 0), (403, .iconst 1, 1, 0, 0, 1), (404, .iadd, 1, 0, 0, 0), (405, .iaload, 1, 0, 0, 0), (406, .invokevirtual 57, 3, 0, 162, 0), (409, .if_icmp .eq 248, 3, 657, 0, 0), (412, .iconst 0, 1, 0, 0, 0), (413, .ireturn, 1, 0, 1, 0), (414, .aload_n 1, 1, 1, 0, 0), (415, .aload_n 0, 1, 0, 0, 0), (416, .iload_n 3, 1, 3, 0, 0), (417, .iconst 1, 1, 0, 0, 1), (418, .iadd, 1, 0, 0, 0), (419, .iaload, 1, 0, 0, 0), (420, .invokevirtual 58, 3, 0, 9, 0), (423, .aload_n 2, 1, 2, 0, 0), (424, .aload_n 0, 1, 0, 0, 0), (425, .iload_n 3, 1, 3, 0, 0), (426, .iconst 1, 1, 0, 0, 1), (427, .iadd, 1, 0, 0, 0), (428, .iaload, 1, 0, 0, 0), (429, .invokevirtual 61, 3, 0, 139, 0), (432, .if_icmp .eq 225, 3, 657, 0, 0), (435, .iconst 0, 1, 0, 0, 0), (436, .ireturn, 1, 0, 1, 0), (437, .aload_n 1, 1, 1, 0, 0), (438, .aload_n 0, 1, 0, 0, 0), (439, .iload_n 3, 1, 3, 0, 0), (440, .iconst 1, 1, 0, 0, 1), (441, .iadd, 1, 0, 0, 0), (442, .iaload, 1, 0, 0, 0), (443, .aload_n 0, 1, 0, 0, 0), (444, .iload_n 3, 1, 3, 0, 0), (445, .iconst 2, 1, 0, 0, 2), (446, .iadd, 1, 0, 0, 0), (447, .iaload, 1, 0, 0, 0), (448, .ifCond .eq 7, 3, 455, 0, 0), (451, .iconst 1, 1, 0, 0, 1), (452, .goto 4, 3, 456, 0, 0), (455, .iconst 0, 1, 0, 0, 0), (456, .invokevirtual 62, 3, 0, 10, 0), (459, .aload_n 2, 1, 2, 0, 0), (460, .aload_n 0, 1, 0, 0, 0), (461, .iload_n 3, 1, 3, 0, 0), (462, .iconst 1, 1, 0, 0, 1), (463, .iadd, 1, 0, 0, 0), (464, .iaload, 1, 0, 0, 0), (465, .aload_n 0, 1, 0, 0, 0), (466, .iload_n 3, 1, 3, 0, 0), (467, .iconst 2, 1, 0, 0, 2), (468, .iadd, 1, 0, 0, 0), (469, .iaload, 1, 0, 0, 0), (470, .ifCond .eq 7, 3, 477, 0, 0), (473, .iconst 1, 1, 0, 0, 1), (474, .goto 4, 3, 478, 0, 0), (477, .iconst 0, 1, 0, 0, 0), (478, .invokevirtual 65, 3, 0, 138, 0), (481, .if_icmp .eq 176, 3, 657, 0, 0), (484, .iconst 0, 1, 0, 0, 0), (485, .ireturn, 1, 0, 1, 0), (486, .aload_n 1, 1, 1, 0, 0), (487, .invokevirtual 66, 3, 0, 11, 0), (490, .aload_n 2, 1, 2, 0, 0), (491, .invokevirtual 70, 3, 0, 171, 0), (494, .if_icmp .eq 163, 3, 657, 0, 0), (497, .iconst 0, 1, 0, 0, 0), (498, .ireturn, 1, 0, 1, 0), (499, .aload_n 1, 1, 1, 0, 0), (500, .invokevirtual 71, 3, 0, 12, 0), (503, .aload_n 2, 1, 2, 0, 0), (504, .invokevirtual 74, 3, 0, 153, 0), (507, .if_icmp .eq 150, 3, 657, 0, 0), (510, .iconst 0, 1, 0, 0, 0), (511, .ireturn, 1, 0, 1, 0), (512, .aload_n 1, 1, 1, 0, 0), (513, .aload_n 0, 1, 0, 0, 0), (514, .iload_n 3, 1, 3, 0, 0), (515, .iconst 1, 1, 0, 0, 1), (516, .iadd, 1, 0, 0, 0), (517, .iaload, 1, 0, 0, 0), (518, .aload_n 0, 1, 0, 0, 0), (519, .iload_n 3, 1, 3, 0, 0), (520, .iconst 2, 1, 0, 0, 2), (521, .iadd, 1, 0, 0, 0), (522, .iaload, 1, 0, 0, 0), (523, .invokevirtual 75, 3, 0, 13, 0), (526, .aload_n 2, 1, 2, 0, 0), (527, .aload_n 0, 1, 0, 0, 0), (528, .iload_n 3, 1, 3, 0, 0), (529, .iconst 1, 1, 0, 0, 1), (530, .iadd, 1, 0, 0, 0), (531, .iaload, 1, 0, 0, 0), (532, .aload_n 0, 1, 0, 0, 0), (533, .iload_n 3, 1, 3, 0, 0), (534, .iconst 2, 1, 0, 0, 2), (535, .iadd, 1, 0, 0, 0), (536, .iaload, 1, 0, 0, 0), (537, .invokevirtual 79, 3, 0, 141, 0), (540, .if_icmp .eq 117, 3, 657, 0, 0), (543, .iconst 0, 1, 0, 0, 0), (544, .ireturn, 1, 0, 1, 0), (545, .aload_n 1, 1, 1, 0, 0), (546, .aload_n 0, 1, 0, 0, 0), (547, .iload_n 3, 1, 3, 0, 0), (548, .iconst 1, 1, 0, 0, 1), (549, .iadd, 1, 0, 0, 0), (550, .iaload, 1, 0, 0, 0), (551, .aload_n 0, 1, 0, 0, 0), (552, .iload_n 3, 1, 3, 0, 0), (553, .iconst 2, 1, 0, 0, 2), (554, .iadd, 1, 0, 0, 0), (555, .iaload, 1, 0, 0, 0), (556, .invokevirtual 80, 3, 0, 14, 0), (559, .aload_n 2, 1, 2, 0, 0), (560, .aload_n 0, 1, 0, 0, 0), (561, .iload_n 3, 1, 3, 0, 0), (562, .iconst 1, 1, 0, 0, 1), (563, .iadd, 1, 0, 0, 0), (564, .iaload, 1, 0, 0, 0), (565, .aload_n 0, 1, 0, 0, 0), (566, .iload_n 3, 1, 3, 0, 0), (567, .iconst 2, 1, 0, 0, 2), (568, .iadd, 1, 0, 0, 0), (569, .iaload, 1, 0, 0, 0), (570, .invokevirtual 83, 3, 0, 172, 0), (573, .if_icmp .eq 84, 3, 657, 0, 0), (576, .iconst 0, 1, 0, 0, 0), (577, .ireturn, 1, 0, 1, 0), (578, .aload_n 1, 1, 1, 0, 0), (579, .aload_n 0, 1, 0, 0, 0), (580, .iload_n 3, 1, 3, 0, 0), (581, .iconst 1, 1, 0, 0, 1), (582, .iadd, 1, 0, 0, 0), (583, .iaload, 1, 0, 0, 0), (584, .aload_n 0, 1, 0, 0, 0), (585, .iload_n 3, 1, 3, 0, 0), (586, .iconst 2, 1, 0, 0, 2), (587, .iadd, 1, 0, 0, 0), (588, .iaload, 1, 0, 0, 0), (589, .invokevirtual 84, 3, 0, 15, 0), (592, .aload_n 2, 1, 2, 0, 0), (593, .aload_n 0, 1, 0, 0, 0), (594, .iload_n 3, 1, 3, 0, 0), (595, .iconst 1, 1, 0, 0, 1), (596, .iadd, 1, 0, 0, 0), (597, .iaload, 1, 0, 0, 0), (598, .aload_n 0, 1, 0, 0, 0), (599, .iload_n 3, 1, 3, 0, 0), (600, .iconst 2, 1, 0, 0, 2), (601, .iadd, 1, 0, 0, 0), (602, .iaload, 1, 0, 0, 0), (603, .invokevirtual 87, 3, 0, 173, 0), (606, .if_icmp .eq 51, 3, 657, 0, 0), (609, .iconst 0, 1, 0, 0, 0), (610, .ireturn, 1, 0, 1, 0), (611, .aload_n 1, 1, 1, 0, 0), (612, .aload_n 0, 1, 0, 0, 0), (613, .iload_n 3, 1, 3, 0, 0), (614, .iconst 1, 1, 0, 0, 1), (615, .iadd, 1, 0, 0, 0), (616, .iaload, 1, 0, 0, 0), (617, .aload_n 0, 1, 0, 0, 0), (618, .iload_n 3, 1, 3, 0, 0), (619, .iconst 2, 1, 0, 0, 2), (620, .iadd, 1, 0, 0, 0), (621, .iaload, 1, 0, 0, 0), (622, .invokevirtual 88, 3, 0, 16, 0), (625, .aload_n 2, 1, 2, 0, 0), (626, .aload_n 0, 1, 0, 0, 0), (627, .iload_n 3, 1, 3, 0, 0), (628, .iconst 1, 1, 0, 0, 1), (629, .iadd, 1, 0, 0, 0), (630, .iaload, 1, 0, 0, 0), (631, .aload_n 0, 1, 0, 0, 0), (632, .iload_n 3, 1, 3, 0, 0), (633, .iconst 2, 1, 0, 0, 2), (634, .iadd, 1, 0, 0, 0), (635, .iaload, 1, 0, 0, 0), (636, .invokevirtual 91, 3, 0, 154, 0), (639, .if_icmp .eq 18, 3, 657, 0, 0), (642, .iconst 0, 1, 0, 0, 0), (643, .ireturn, 1, 0, 1, 0), (644, .aload_n 1, 1, 1, 0, 0), (645, .invokevirtual 92, 3, 0, 17, 0), (648, .aload_n 2, 1, 2, 0, 0), (649, .invokevirtual 95, 3, 0, 155, 0), (652, .if_icmp .eq 5, 3, 657, 0, 0), (655, .iconst 0, 1, 0, 0, 0), (656, .ireturn, 1, 0, 1, 0), (657, .iinc 3 4, 3, 3, 0, 4), (660, .goto (-612), 3, 48, 0, 0), (663, .iconst 1, 1, 0, 0, 1), (664, .ireturn, 1, 0, 1, 0)]
def xt_C : List (List (Nat × Jvm.ClassFile.Instr × Nat × Nat × Nat × Int32)) := [xt_c0, xt_c1, xt_c2, xt_c3, xt_c4, xt_c5, xt_c6, xt_c7, xt_c8, xt_c9, xt_c10, xt_c11, xt_c12, xt_c13, xt_c14, xt_c15, xt_c16, xt_c17, xt_c18, xt_c19, xt_c20, xt_c21, xt_c22, xt_c23, xt_c24, xt_c25, xt_c26, xt_c27, xt_c28, xt_c29, xt_c30, xt_c31, xt_c32, xt_c33, xt_c34, xt_c35, xt_c36, xt_c37, xt_c38, xt_c39, xt_c40, xt_c41, xt_c42, xt_c43, xt_c44, xt_c45, xt_c46, xt_c47, xt_c48, xt_c49, xt_c50, xt_c51, xt_c52, xt_c53, xt_c54, xt_c55, xt_c56, xt_c57, xt_c58, xt_c59, xt_c60, xt_c61, xt_c62, xt_c63, xt_c64, xt_c65, xt_c66, xt_c67, xt_c68, xt_c69, xt_c70, xt_c71, xt_c72, xt_c73, xt_c74, xt_c75, xt_c76, xt_c77, xt_c78, xt_c79, xt_c80, xt_c81, xt_c82, xt_c83, xt_c84, xt_c85, xt_c86, xt_c87, xt_c88, xt_c89, xt_c90, xt_c91, xt_c92, xt_c93, xt_c94, xt_c95, xt_c96, xt_c97, xt_c98, xt_c99, xt_c100, xt_c101, xt_c102, xt_c103, xt_c104, xt_c105, xt_c106, xt_c107, xt_c108, xt_c109, xt_c110, xt_c111, xt_c112, xt_c113, xt_c114, xt_c115, xt_c116, xt_c117, xt_c118, xt_c119, xt_c120, xt_c121, xt_c122, xt_c123, xt_c124, xt_c125, xt_c126, xt_c127, xt_c128, xt_c129, xt_c130, xt_c131, xt_c132, xt_c133, xt_c134, xt_c135, xt_c136, xt_c137, xt_c138, xt_c139, xt_c140, xt_c141, xt_c142, xt_c143, xt_c144, xt_c145, xt_c146, xt_c147, xt_c148, xt_c149, xt_c150, xt_c151, xt_c152, xt_c153, xt_c154, xt_c155, xt_c156, xt_c157, xt_c158, xt_c159, xt_c160, xt_c161, xt_c162, xt_c163, xt_c164, xt_c165, xt_c166, xt_c167, xt_c168, xt_c169, xt_c170, xt_c171, xt_c172, xt_c173, xt_c174, xt_c175, xt_c176]
def xt_at (y pc : Nat) : Option (Jvm.ClassFile.Instr × Nat × Nat × Nat × Int32) := (xt_C.getD y []).lookup pc
def xt_fl : List ((Nat × Nat) × (Nat × Nat)) := [((0, 12), (0, 0)), ((0, 21), (0, 1)), ((0, 28), (0, 2)), ((0, 35), (0, 3)), ((0, 44), (0, 4)), ((0, 50), (0, 5)), ((0, 100), (6, 0)), ((0, 109), (2, 3)), ((0, 112), (3, 5)), ((0, 121), (11, 1)), ((0, 128), (11, 0)), ((0, 136), (9, 3)), ((0, 148), (8, 5)), ((0, 157), (8, 6)), ((0, 161), (7, 3)), ((0, 168), (6, 5)), ((0, 171), (6, 1)), ((0, 188), (6, 3)), ((0, 204), (9, 5)), ((1, 11), (1, 2)), ((1, 17), (1, 3)), ((1, 20), (1, 4)), ((1, 23), (1, 5)), ((1, 26), (1, 6)), ((1, 29), (1, 0)), ((1, 33), (1, 1)), ((1, 43), (2, 3)), ((2, 13), (2, 0)), ((2, 17), (2, 1)), ((2, 22), (2, 2)), ((2, 34), (2, 4)), ((3, 11), (3, 0)), ((3, 15), (3, 1)), ((3, 18), (3, 2)), ((3, 21), (3, 3)), ((3, 24), (3, 4)), ((3, 34), (3, 5)), ((4, 11), (4, 0)), ((4, 14), (4, 1)), ((4, 18), (4, 2)), ((4, 21), (4, 3)), ((4, 24), (4, 4)), ((4, 48), (4, 5)), ((5, 15), (5, 4)), ((5, 19), (5, 0)), ((5, 23), (5, 1)), ((5, 27), (5, 2)), ((5, 31), (5, 3)), ((5, 35), (5, 11)), ((5, 38), (5, 10)), ((5, 41), (5, 6)), ((5, 44), (5, 5)), ((5, 47), (4, 5)), ((5, 54), (5, 7)), ((5, 63), (6, 3)), ((5, 66), (4, 2)), ((5, 69), (6, 4)), ((5, 80), (6, 6)), ((5, 81), (2, 2)), ((5, 97), (2, 3)), ((5, 100), (5, 9)), ((5, 103), (5, 8)), ((5, 106), (2, 1)), ((5, 109), (4, 3)), ((5, 116), (4, 4)), ((5, 119), (6, 7)), ((6, 11), (6, 7)), ((6, 21), (6, 6)), ((6, 25), (6, 0)), ((6, 28), (6, 1)), ((6, 31), (6, 2)), ((6, 34), (6, 3)), ((6, 37), (6, 4)), ((6, 40), (6, 5)), ((7, 9), (7, 0)), ((7, 13), (7, 1)), ((7, 16), (7, 2)), ((7, 19), (7, 3)), ((8, 13), (8, 4)), ((8, 22), (8, 6)), ((8, 26), (8, 0)), ((8, 30), (8, 1)), ((8, 34), (8, 2)), ((8, 38), (8, 3)), ((8, 47), (8, 5)), ((8, 52), (6, 0)), ((8, 77), (10, 0)), ((8, 81), (7, 3)), ((8, 84), (7, 0)), ((8, 88), (7, 1)), ((8, 91), (7, 2)), ((8, 98), (3, 5)), ((8, 101), (2, 3)), ((8, 106), (10, 4)), ((8, 109), (10, 3)), ((8, 112), (2, 1)), ((8, 119), (6, 1)), ((8, 135), (6, 2)), ((8, 162), (6, 3)), ((8, 184), (2, 0)), ((8, 200), (10, 1)), ((8, 203), (10, 2)), ((8, 206), (6, 4)), ((8, 207), (10, 5)), ((8, 210), (2, 2)), ((8, 217), (6, 6)), ((9, 11), (9, 4)), ((9, 17), (9, 5)), ((9, 20), (9, 0)), ((9, 23), (9, 1)), ((9, 27), (9, 2)), ((9, 36), (9, 3)), ((9, 40), (9, 8)), ((9, 43), (9, 11)), ((9, 52), (6, 0)), ((9, 80), (2, 3)), ((9, 85), (9, 9)), ((9, 94), (9, 7)), ((9, 97), (2, 0)), ((9, 110), (9, 6)), ((9, 113), (5, 11)), ((9, 116), (5, 10)), ((9, 126), (9, 10)), ((9, 141), (2, 1)), ((9, 151), (6, 2)), ((9, 152), (6, 3)), ((11, 11), (11, 0)), ((11, 16), (11, 2)), ((11, 20), (11, 3)), ((11, 23), (11, 1)), ((11, 27), (6, 0)), ((11, 30), (6, 1)), ((11, 33), (6, 5)), ((11, 36), (6, 2)), ((11, 39), (6, 3)), ((11, 42), (6, 4)), ((11, 45), (6, 6)), ((11, 52), (6, 7)), ((12, 7), (12, 5)), ((12, 13), (12, 6)), ((12, 16), (12, 7)), ((12, 19), (12, 8)), ((12, 23), (12, 10)), ((12, 26), (12, 11)), ((12, 29), (12, 12)), ((12, 32), (12, 13)), ((12, 35), (12, 14)), ((12, 38), (12, 15)), ((12, 41), (12, 16)), ((12, 44), (12, 17)), ((12, 47), (12, 18)), ((12, 50), (12, 19)), ((12, 53), (12, 21)), ((12, 56), (12, 22)), ((12, 59), (12, 23)), ((12, 62), (12, 24)), ((12, 65), (12, 25)), ((12, 68), (12, 26)), ((12, 71), (12, 27)), ((12, 74), (12, 28)), ((12, 77), (12, 30)), ((12, 80), (12, 31)), ((12, 83), (12, 32)), ((12, 86), (12, 33)), ((12, 89), (12, 34)), ((12, 92), (12, 35)), ((12, 95), (12, 36)), ((12, 98), (12, 37)), ((12, 101), (12, 39)), ((12, 104), (12, 40)), ((12, 107), (12, 41)), ((12, 110), (12, 42)), ((12, 113), (12, 43)), ((12, 116), (12, 44)), ((12, 119), (12, 45)), ((12, 122), (12, 46)), ((12, 125), (12, 47)), ((12, 128), (12, 48)), ((12, 131), (12, 49)), ((12, 134), (12, 50)), ((12, 137), (12, 51)), ((12, 140), (12, 52)), ((12, 143), (12, 53)), ((12, 146), (12, 54)), ((12, 149), (12, 55)), ((12, 152), (12, 56)), ((12, 155), (12, 57)), ((12, 158), (12, 0)), ((12, 162), (12, 1)), ((12, 165), (12, 2)), ((12, 168), (12, 38)), ((12, 181), (12, 20)), ((12, 189), (12, 9)), ((12, 220), (12, 3)), ((12, 254), (12, 29)), ((12, 263), (12, 4))]
def xt_mt : List ((Nat × Nat) × (Nat × Nat)) := [((0, 1), (1, 0)), ((0, 9), (7, 32)), ((0, 20), (7, 115)), ((0, 27), (7, 35)), ((0, 34), (5, 50)), ((0, 41), (7, 81)), ((0, 54), (7, 97)), ((0, 57), (0, 39)), ((0, 61), (0, 40)), ((0, 65), (0, 41)), ((0, 69), (0, 44)), ((0, 73), (0, 53)), ((0, 76), (0, 57)), ((0, 79), (0, 54)), ((0, 82), (0, 38)), ((0, 86), (0, 99)), ((0, 89), (0, 116)), ((0, 92), (0, 118)), ((0, 96), (0, 18)), ((0, 106), (0, 120)), ((0, 115), (0, 101)), ((0, 118), (0, 84)), ((0, 124), (0, 83)), ((0, 132), (0, 76)), ((0, 135), (0, 102)), ((0, 140), (0, 68)), ((0, 145), (6, 36)), ((0, 152), (0, 31)), ((0, 164), (0, 75)), ((0, 174), (0, 46)), ((0, 177), (0, 119)), ((0, 181), (0, 82)), ((0, 184), (0, 19)), ((0, 187), (0, 100)), ((0, 191), (0, 45)), ((0, 194), (0, 20)), ((0, 197), (0, 117)), ((0, 201), (0, 98)), ((1, 3), (1, 0)), ((1, 37), (6, 174)), ((1, 49), (0, 23)), ((1, 53), (0, 24)), ((1, 56), (0, 25)), ((1, 60), (0, 43)), ((2, 1), (1, 0)), ((2, 7), (6, 33)), ((2, 25), (3, 0)), ((2, 31), (2, 0)), ((3, 5), (1, 0)), ((3, 28), (6, 174)), ((3, 38), (6, 37)), ((3, 42), (0, 38)), ((3, 45), (0, 43)), ((3, 49), (0, 42)), ((3, 53), (6, 36)), ((4, 1), (1, 0)), ((4, 28), (6, 51)), ((4, 32), (6, 52)), ((4, 36), (3, 0)), ((4, 42), (0, 74)), ((5, 7), (1, 0)), ((5, 50), (0, 58)), ((5, 57), (0, 71)), ((5, 60), (0, 72)), ((5, 70), (0, 70)), ((5, 74), (0, 117)), ((5, 86), (0, 67)), ((5, 90), (0, 69)), ((5, 93), (0, 61)), ((5, 112), (6, 52)), ((6, 3), (1, 0)), ((6, 15), (4, 0)), ((7, 1), (1, 0)), ((7, 23), (0, 79)), ((7, 27), (0, 80)), ((8, 3), (1, 0)), ((8, 21), (5, 77)), ((8, 44), (7, 21)), ((8, 51), (5, 114)), ((8, 58), (0, 85)), ((8, 62), (0, 89)), ((8, 65), (0, 92)), ((8, 68), (0, 93)), ((8, 71), (0, 94)), ((8, 74), (0, 22)), ((8, 94), (0, 27)), ((8, 115), (0, 95)), ((8, 122), (0, 86)), ((8, 126), (0, 87)), ((8, 129), (0, 88)), ((8, 132), (0, 28)), ((8, 138), (0, 96)), ((8, 142), (0, 23)), ((8, 145), (0, 26)), ((8, 149), (0, 42)), ((8, 152), (0, 47)), ((8, 156), (0, 49)), ((8, 159), (0, 48)), ((8, 165), (0, 90)), ((8, 168), (0, 91)), ((8, 171), (0, 29)), ((8, 175), (6, 36)), ((8, 178), (0, 25)), ((8, 181), (0, 24)), ((8, 187), (0, 78)), ((8, 191), (0, 30)), ((8, 195), (0, 55)), ((8, 213), (0, 56)), ((8, 220), (0, 46)), ((8, 223), (0, 117)), ((9, 3), (1, 0)), ((9, 33), (7, 59)), ((9, 46), (0, 60)), ((9, 49), (0, 103)), ((9, 57), (0, 110)), ((9, 61), (0, 111)), ((9, 64), (0, 112)), ((9, 67), (0, 113)), ((9, 70), (0, 98)), ((9, 74), (0, 63)), ((9, 77), (0, 64)), ((9, 88), (0, 107)), ((9, 91), (0, 108)), ((9, 100), (0, 105)), ((9, 103), (0, 109)), ((9, 106), (0, 65)), ((9, 109), (0, 66)), ((9, 119), (0, 67)), ((9, 123), (0, 34)), ((9, 129), (0, 104)), ((9, 132), (0, 62)), ((9, 135), (0, 117)), ((9, 144), (0, 106)), ((9, 148), (0, 61)), ((10, 1), (1, 0)), ((11, 1), (1, 0)), ((11, 15), (5, 73)), ((11, 48), (0, 117)), ((11, 56), (0, 74)), ((11, 60), (0, 119)), ((12, 1), (1, 0)), ((12, 171), (0, 122)), ((12, 175), (6, 123)), ((12, 178), (6, 124)), ((12, 185), (6, 131)), ((12, 192), (6, 134)), ((12, 195), (0, 136)), ((12, 199), (0, 137)), ((12, 203), (6, 133)), ((12, 206), (0, 140)), ((12, 209), (0, 146)), ((12, 213), (0, 163)), ((12, 216), (0, 164)), ((12, 223), (0, 142)), ((12, 227), (0, 144)), ((12, 230), (0, 147)), ((12, 233), (0, 148)), ((12, 237), (0, 135)), ((12, 240), (0, 152)), ((12, 243), (0, 145)), ((12, 247), (0, 143)), ((12, 250), (0, 151)), ((12, 257), (0, 149)), ((12, 260), (0, 150)), ((12, 266), (0, 157)), ((12, 269), (0, 158)), ((12, 272), (0, 156)), ((12, 275), (0, 159)), ((12, 278), (0, 165)), ((12, 281), (0, 166)), ((12, 285), (0, 160)), ((12, 288), (0, 161)), ((12, 291), (0, 167)), ((12, 294), (0, 168)), ((12, 297), (0, 169)), ((12, 300), (0, 170)), ((14, 9), (6, 175)), ((14, 15), (7, 0)), ((14, 20), (7, 121)), ((14, 21), (0, 1)), ((14, 25), (0, 125)), ((14, 26), (0, 2)), ((14, 30), (0, 126)), ((14, 31), (0, 3)), ((14, 35), (0, 127)), ((14, 36), (0, 4)), ((14, 40), (0, 128)), ((14, 41), (0, 5)), ((14, 44), (0, 129)), ((14, 45), (0, 6)), ((14, 48), (0, 130)), ((14, 49), (0, 7)), ((14, 52), (0, 132)), ((14, 53), (0, 8)), ((14, 57), (0, 162)), ((14, 58), (0, 9)), ((14, 61), (0, 139)), ((14, 62), (0, 10)), ((14, 65), (0, 138)), ((14, 66), (0, 11)), ((14, 70), (0, 171)), ((14, 71), (0, 12)), ((14, 74), (0, 153)), ((14, 75), (0, 13)), ((14, 79), (0, 141)), ((14, 80), (0, 14)), ((14, 83), (0, 172)), ((14, 84), (0, 15)), ((14, 87), (0, 173)), ((14, 88), (0, 16)), ((14, 91), (0, 154)), ((14, 92), (0, 17)), ((14, 95), (0, 155))]
def xt_cl : List ((Nat × Nat) × (Nat × Nat)) := [((0, 7), (2, 5)), ((0, 18), (11, 4)), ((0, 25), (3, 6)), ((0, 32), (4, 6)), ((0, 39), (8, 7)), ((0, 48), (9, 12)), ((8, 11), (10, 6)), ((8, 19), (7, 4)), ((8, 42), (1, 7)), ((9, 31), (5, 12)), ((11, 9), (6, 8)), ((14, 7), (0, 6)), ((14, 18), (12, 58))]
def xt_al : List ((Nat × Nat) × Nat) := [((0, 48), 4), ((8, 11), 5), ((11, 9), 3)]
def xt_kt : List ((Nat × Nat) × Int32) := [((4, 27), (-306674912)), ((12, 184), (-306674912))]
/-- a row of the code table says what stands there -/
def xt_ck (y : Nat) (q : Nat × Jvm.ClassFile.Instr × Nat × Nat × Nat × Int32) : Bool :=
  match q with
  | (pc, i, ln, a, b, v) => decide (decode (xt_bc y) pc = .ok (i, ln)) && (match i with
    | .iconst n => decide (ln = 1 ∧ Int32.ofInt n = v)
    | .bipush n => decide (ln = 2 ∧ (Int8.ofInt n).toInt32 = v)
    | .sipush n => decide (ln = 3 ∧ (Int16.ofInt n).toInt32 = v)
    | .ldc n => decide (ln = 2 ∧ xt_kt.lookup (xt_oc y, n) = some v)
    | .iload_n k => decide (ln = 1 ∧ (k : Nat) = a ∧ a < xt_ml y)
    | .aload_n k => decide (ln = 1 ∧ (k : Nat) = a ∧ a < xt_ml y)
    | .istore_n k => decide (ln = 1 ∧ (k : Nat) = a ∧ a < xt_ml y)
    | .astore_n k => decide (ln = 1 ∧ (k : Nat) = a ∧ a < xt_ml y)
    | .iload k => decide (ln = 2 ∧ k = a ∧ a < xt_ml y)
    | .aload k => decide (ln = 2 ∧ k = a ∧ a < xt_ml y)
    | .istore k => decide (ln = 2 ∧ k = a ∧ a < xt_ml y)
    | .astore k => decide (ln = 2 ∧ k = a ∧ a < xt_ml y)
    | .iinc k n => decide (ln = 3 ∧ k = a ∧ a < xt_ml y ∧ Int32.ofInt n = v)
    | .iadd => decide (ln = 1)
    | .isub => decide (ln = 1)
    | .imul => decide (ln = 1)
    | .iand => decide (ln = 1)
    | .ixor => decide (ln = 1)
    | .irem => decide (ln = 1)
    | .iushr => decide (ln = 1)
    | .dup => decide (ln = 1)
    | .dup2 => decide (ln = 1)
    | .pop => decide (ln = 1)
    | .goto o => decide (ln = 3 ∧ (pc : Int) + o = (a : Int))
    | .ifCond _ o => decide (ln = 3 ∧ (pc : Int) + o = (a : Int))
    | .if_icmp _ o => decide (ln = 3 ∧ (pc : Int) + o = (a : Int))
    | .tableswitch d lo hi offs => decide ((pc : Int) + d = (a : Int) ∧ (offs.toList.all fun o => decide (0 ≤ (pc : Int) + o)) = true ∧ (offs.size : Int) = hi - lo + 1)
    | .getfield n => decide (ln = 3 ∧ xt_fl.lookup (xt_oc y, n) = some (a, b))
    | .putfield n => decide (ln = 3 ∧ xt_fl.lookup (xt_oc y, n) = some (a, b) ∧ (xt_fin a b = false ∨ (xt_ini y = true ∧ a = xt_oc y)))
    | .iaload => decide (ln = 1)
    | .baload => decide (ln = 1)
    | .iastore => decide (ln = 1)
    | .bastore => decide (ln = 1)
    | .aaload => decide (ln = 1)
    | .aastore => decide (ln = 1)
    | .arraylength => decide (ln = 1)
    | .new n => decide (ln = 3 ∧ xt_cl.lookup (xt_oc y, n) = some (a, b))
    | .newarray t => decide (ln = 2 ∧ a < 2 ∧ newarray.typeOf t = xt_tt a)
    | .anewarray n => decide (ln = 3 ∧ xt_al.lookup (xt_oc y, n) = some a)
    | .multianewarray n d => decide (ln = 4 ∧ xt_oc y = 4 ∧ n = 9 ∧ d = 2)
    | .ireturn => decide (ln = 1 ∧ ((b = 1 ∧ xt_rt y = some .boolean) ∨ (b = 0 ∧ xt_rt y = some .int)))
    | .areturn => decide (ln = 1 ∧ xt_io y = true)
    | .return_ => decide (ln = 1 ∧ xt_rt y = none)
    | .invokevirtual n => decide (ln = 3 ∧ a = 0 ∧ xt_mt.lookup (xt_oc y, n) = some (a, b))
    | .invokespecial n => decide (ln = 3 ∧ (a = 1 ∨ a = 5 ∨ a = 7) ∧ xt_mt.lookup (xt_oc y, n) = some (a, b))
    | .invokestatic n => decide (ln = 3 ∧ (a = 2 ∨ a = 3 ∨ a = 4 ∨ a = 6) ∧ xt_mt.lookup (xt_oc y, n) = some (a, b))
    | _ => false)
end
section
/-! The code tables against the bytes. -/
set_option maxRecDepth 100000 in
theorem xt_k0 : xt_c0.all (xt_ck 0) = true := by decide +kernel
set_option maxRecDepth 100000 in
theorem xt_k1 : xt_c1.all (xt_ck 1) = true := by decide +kernel
set_option maxRecDepth 100000 in
theorem xt_k2 : xt_c2.all (xt_ck 2) = true := by decide +kernel
set_option maxRecDepth 100000 in
theorem xt_k3 : xt_c3.all (xt_ck 3) = true := by decide +kernel
set_option maxRecDepth 100000 in
theorem xt_k4 : xt_c4.all (xt_ck 4) = true := by decide +kernel
set_option maxRecDepth 100000 in
theorem xt_k5 : xt_c5.all (xt_ck 5) = true := by decide +kernel
set_option maxRecDepth 100000 in
theorem xt_k6 : xt_c6.all (xt_ck 6) = true := by decide +kernel
set_option maxRecDepth 100000 in
theorem xt_k7 : xt_c7.all (xt_ck 7) = true := by decide +kernel
set_option maxRecDepth 100000 in
theorem xt_k8 : xt_c8.all (xt_ck 8) = true := by decide +kernel
set_option maxRecDepth 100000 in
theorem xt_k9 : xt_c9.all (xt_ck 9) = true := by decide +kernel
set_option maxRecDepth 100000 in
theorem xt_k10 : xt_c10.all (xt_ck 10) = true := by decide +kernel
set_option maxRecDepth 100000 in
theorem xt_k11 : xt_c11.all (xt_ck 11) = true := by decide +kernel
set_option maxRecDepth 100000 in
theorem xt_k12 : xt_c12.all (xt_ck 12) = true := by decide +kernel
set_option maxRecDepth 100000 in
theorem xt_k13 : xt_c13.all (xt_ck 13) = true := by decide +kernel
set_option maxRecDepth 100000 in
theorem xt_k14 : xt_c14.all (xt_ck 14) = true := by decide +kernel
set_option maxRecDepth 100000 in
theorem xt_k15 : xt_c15.all (xt_ck 15) = true := by decide +kernel
set_option maxRecDepth 100000 in
theorem xt_k16 : xt_c16.all (xt_ck 16) = true := by decide +kernel
set_option maxRecDepth 100000 in
theorem xt_k17 : xt_c17.all (xt_ck 17) = true := by decide +kernel
set_option maxRecDepth 100000 in
theorem xt_k18 : xt_c18.all (xt_ck 18) = true := by decide +kernel
set_option maxRecDepth 100000 in
theorem xt_k19 : xt_c19.all (xt_ck 19) = true := by decide +kernel
set_option maxRecDepth 100000 in
theorem xt_k20 : xt_c20.all (xt_ck 20) = true := by decide +kernel
set_option maxRecDepth 100000 in
theorem xt_k21 : xt_c21.all (xt_ck 21) = true := by decide +kernel
set_option maxRecDepth 100000 in
theorem xt_k22 : xt_c22.all (xt_ck 22) = true := by decide +kernel
set_option maxRecDepth 100000 in
theorem xt_k23 : xt_c23.all (xt_ck 23) = true := by decide +kernel
set_option maxRecDepth 100000 in
theorem xt_k24 : xt_c24.all (xt_ck 24) = true := by decide +kernel
set_option maxRecDepth 100000 in
theorem xt_k25 : xt_c25.all (xt_ck 25) = true := by decide +kernel
set_option maxRecDepth 100000 in
theorem xt_k26 : xt_c26.all (xt_ck 26) = true := by decide +kernel
set_option maxRecDepth 100000 in
theorem xt_k27 : xt_c27.all (xt_ck 27) = true := by decide +kernel
set_option maxRecDepth 100000 in
theorem xt_k28 : xt_c28.all (xt_ck 28) = true := by decide +kernel
end
section
/-! The code tables against the bytes. -/
set_option maxRecDepth 100000 in
theorem xt_k29 : xt_c29.all (xt_ck 29) = true := by decide +kernel
set_option maxRecDepth 100000 in
theorem xt_k30 : xt_c30.all (xt_ck 30) = true := by decide +kernel
set_option maxRecDepth 100000 in
theorem xt_k31 : xt_c31.all (xt_ck 31) = true := by decide +kernel
set_option maxRecDepth 100000 in
theorem xt_k32 : xt_c32.all (xt_ck 32) = true := by decide +kernel
set_option maxRecDepth 100000 in
theorem xt_k33 : xt_c33.all (xt_ck 33) = true := by decide +kernel
set_option maxRecDepth 100000 in
theorem xt_k34 : xt_c34.all (xt_ck 34) = true := by decide +kernel
set_option maxRecDepth 100000 in
theorem xt_k35 : xt_c35.all (xt_ck 35) = true := by decide +kernel
set_option maxRecDepth 100000 in
theorem xt_k36 : xt_c36.all (xt_ck 36) = true := by decide +kernel
set_option maxRecDepth 100000 in
theorem xt_k37 : xt_c37.all (xt_ck 37) = true := by decide +kernel
set_option maxRecDepth 100000 in
theorem xt_k38 : xt_c38.all (xt_ck 38) = true := by decide +kernel
set_option maxRecDepth 100000 in
theorem xt_k39 : xt_c39.all (xt_ck 39) = true := by decide +kernel
set_option maxRecDepth 100000 in
theorem xt_k40 : xt_c40.all (xt_ck 40) = true := by decide +kernel
set_option maxRecDepth 100000 in
theorem xt_k41 : xt_c41.all (xt_ck 41) = true := by decide +kernel
set_option maxRecDepth 100000 in
theorem xt_k42 : xt_c42.all (xt_ck 42) = true := by decide +kernel
set_option maxRecDepth 100000 in
theorem xt_k43 : xt_c43.all (xt_ck 43) = true := by decide +kernel
set_option maxRecDepth 100000 in
theorem xt_k44 : xt_c44.all (xt_ck 44) = true := by decide +kernel
set_option maxRecDepth 100000 in
theorem xt_k45 : xt_c45.all (xt_ck 45) = true := by decide +kernel
set_option maxRecDepth 100000 in
theorem xt_k46 : xt_c46.all (xt_ck 46) = true := by decide +kernel
set_option maxRecDepth 100000 in
theorem xt_k47 : xt_c47.all (xt_ck 47) = true := by decide +kernel
set_option maxRecDepth 100000 in
theorem xt_k48 : xt_c48.all (xt_ck 48) = true := by decide +kernel
set_option maxRecDepth 100000 in
theorem xt_k49 : xt_c49.all (xt_ck 49) = true := by decide +kernel
set_option maxRecDepth 100000 in
theorem xt_k50 : xt_c50.all (xt_ck 50) = true := by decide +kernel
set_option maxRecDepth 100000 in
theorem xt_k51 : xt_c51.all (xt_ck 51) = true := by decide +kernel
set_option maxRecDepth 100000 in
theorem xt_k52 : xt_c52.all (xt_ck 52) = true := by decide +kernel
set_option maxRecDepth 100000 in
theorem xt_k53 : xt_c53.all (xt_ck 53) = true := by decide +kernel
set_option maxRecDepth 100000 in
theorem xt_k54 : xt_c54.all (xt_ck 54) = true := by decide +kernel
set_option maxRecDepth 100000 in
theorem xt_k55 : xt_c55.all (xt_ck 55) = true := by decide +kernel
set_option maxRecDepth 100000 in
theorem xt_k56 : xt_c56.all (xt_ck 56) = true := by decide +kernel
end
section
/-! The code tables against the bytes. -/
set_option maxRecDepth 100000 in
theorem xt_k57 : xt_c57.all (xt_ck 57) = true := by decide +kernel
set_option maxRecDepth 100000 in
theorem xt_k58 : xt_c58.all (xt_ck 58) = true := by decide +kernel
set_option maxRecDepth 100000 in
theorem xt_k59 : xt_c59.all (xt_ck 59) = true := by decide +kernel
set_option maxRecDepth 100000 in
theorem xt_k60 : xt_c60.all (xt_ck 60) = true := by decide +kernel
set_option maxRecDepth 100000 in
theorem xt_k61 : xt_c61.all (xt_ck 61) = true := by decide +kernel
set_option maxRecDepth 100000 in
theorem xt_k62 : xt_c62.all (xt_ck 62) = true := by decide +kernel
set_option maxRecDepth 100000 in
theorem xt_k63 : xt_c63.all (xt_ck 63) = true := by decide +kernel
set_option maxRecDepth 100000 in
theorem xt_k64 : xt_c64.all (xt_ck 64) = true := by decide +kernel
set_option maxRecDepth 100000 in
theorem xt_k65 : xt_c65.all (xt_ck 65) = true := by decide +kernel
set_option maxRecDepth 100000 in
theorem xt_k66 : xt_c66.all (xt_ck 66) = true := by decide +kernel
set_option maxRecDepth 100000 in
theorem xt_k67 : xt_c67.all (xt_ck 67) = true := by decide +kernel
set_option maxRecDepth 100000 in
theorem xt_k68 : xt_c68.all (xt_ck 68) = true := by decide +kernel
set_option maxRecDepth 100000 in
theorem xt_k69 : xt_c69.all (xt_ck 69) = true := by decide +kernel
set_option maxRecDepth 100000 in
theorem xt_k70 : xt_c70.all (xt_ck 70) = true := by decide +kernel
set_option maxRecDepth 100000 in
theorem xt_k71 : xt_c71.all (xt_ck 71) = true := by decide +kernel
set_option maxRecDepth 100000 in
theorem xt_k72 : xt_c72.all (xt_ck 72) = true := by decide +kernel
set_option maxRecDepth 100000 in
theorem xt_k73 : xt_c73.all (xt_ck 73) = true := by decide +kernel
set_option maxRecDepth 100000 in
theorem xt_k74 : xt_c74.all (xt_ck 74) = true := by decide +kernel
set_option maxRecDepth 100000 in
theorem xt_k75 : xt_c75.all (xt_ck 75) = true := by decide +kernel
set_option maxRecDepth 100000 in
theorem xt_k76 : xt_c76.all (xt_ck 76) = true := by decide +kernel
set_option maxRecDepth 100000 in
theorem xt_k77 : xt_c77.all (xt_ck 77) = true := by decide +kernel
set_option maxRecDepth 100000 in
theorem xt_k78 : xt_c78.all (xt_ck 78) = true := by decide +kernel
set_option maxRecDepth 100000 in
theorem xt_k79 : xt_c79.all (xt_ck 79) = true := by decide +kernel
end
section
/-! The code tables against the bytes. -/
set_option maxRecDepth 100000 in
theorem xt_k80 : xt_c80.all (xt_ck 80) = true := by decide +kernel
set_option maxRecDepth 100000 in
theorem xt_k81 : xt_c81.all (xt_ck 81) = true := by decide +kernel
set_option maxRecDepth 100000 in
theorem xt_k82 : xt_c82.all (xt_ck 82) = true := by decide +kernel
set_option maxRecDepth 100000 in
theorem xt_k83 : xt_c83.all (xt_ck 83) = true := by decide +kernel
set_option maxRecDepth 100000 in
theorem xt_k84 : xt_c84.all (xt_ck 84) = true := by decide +kernel
set_option maxRecDepth 100000 in
theorem xt_k85 : xt_c85.all (xt_ck 85) = true := by decide +kernel
set_option maxRecDepth 100000 in
theorem xt_k86 : xt_c86.all (xt_ck 86) = true := by decide +kernel
set_option maxRecDepth 100000 in
theorem xt_k87 : xt_c87.all (xt_ck 87) = true := by decide +kernel
set_option maxRecDepth 100000 in
theorem xt_k88 : xt_c88.all (xt_ck 88) = true := by decide +kernel
set_option maxRecDepth 100000 in
theorem xt_k89 : xt_c89.all (xt_ck 89) = true := by decide +kernel
set_option maxRecDepth 100000 in
theorem xt_k90 : xt_c90.all (xt_ck 90) = true := by decide +kernel
set_option maxRecDepth 100000 in
theorem xt_k91 : xt_c91.all (xt_ck 91) = true := by decide +kernel
set_option maxRecDepth 100000 in
theorem xt_k92 : xt_c92.all (xt_ck 92) = true := by decide +kernel
set_option maxRecDepth 100000 in
theorem xt_k93 : xt_c93.all (xt_ck 93) = true := by decide +kernel
set_option maxRecDepth 100000 in
theorem xt_k94 : xt_c94.all (xt_ck 94) = true := by decide +kernel
end
section
/-! The code tables against the bytes. -/
set_option maxRecDepth 100000 in
theorem xt_k95 : xt_c95.all (xt_ck 95) = true := by decide +kernel
set_option maxRecDepth 100000 in
theorem xt_k96 : xt_c96.all (xt_ck 96) = true := by decide +kernel
set_option maxRecDepth 100000 in
theorem xt_k97 : xt_c97.all (xt_ck 97) = true := by decide +kernel
set_option maxRecDepth 100000 in
theorem xt_k98 : xt_c98.all (xt_ck 98) = true := by decide +kernel
set_option maxRecDepth 100000 in
theorem xt_k99 : xt_c99.all (xt_ck 99) = true := by decide +kernel
set_option maxRecDepth 100000 in
theorem xt_k100 : xt_c100.all (xt_ck 100) = true := by decide +kernel
set_option maxRecDepth 100000 in
theorem xt_k101 : xt_c101.all (xt_ck 101) = true := by decide +kernel
set_option maxRecDepth 100000 in
theorem xt_k102 : xt_c102.all (xt_ck 102) = true := by decide +kernel
set_option maxRecDepth 100000 in
theorem xt_k103 : xt_c103.all (xt_ck 103) = true := by decide +kernel
set_option maxRecDepth 100000 in
theorem xt_k104 : xt_c104.all (xt_ck 104) = true := by decide +kernel
set_option maxRecDepth 100000 in
theorem xt_k105 : xt_c105.all (xt_ck 105) = true := by decide +kernel
set_option maxRecDepth 100000 in
theorem xt_k106 : xt_c106.all (xt_ck 106) = true := by decide +kernel
set_option maxRecDepth 100000 in
theorem xt_k107 : xt_c107.all (xt_ck 107) = true := by decide +kernel
set_option maxRecDepth 100000 in
theorem xt_k108 : xt_c108.all (xt_ck 108) = true := by decide +kernel
set_option maxRecDepth 100000 in
theorem xt_k109 : xt_c109.all (xt_ck 109) = true := by decide +kernel
set_option maxRecDepth 100000 in
theorem xt_k110 : xt_c110.all (xt_ck 110) = true := by decide +kernel
set_option maxRecDepth 100000 in
theorem xt_k111 : xt_c111.all (xt_ck 111) = true := by decide +kernel
end
section
/-! The code tables against the bytes. -/
set_option maxRecDepth 100000 in
theorem xt_k112 : xt_c112.all (xt_ck 112) = true := by decide +kernel
set_option maxRecDepth 100000 in
theorem xt_k113 : xt_c113.all (xt_ck 113) = true := by decide +kernel
set_option maxRecDepth 100000 in
theorem xt_k114 : xt_c114.all (xt_ck 114) = true := by decide +kernel
set_option maxRecDepth 100000 in
theorem xt_k115 : xt_c115.all (xt_ck 115) = true := by decide +kernel
set_option maxRecDepth 100000 in
theorem xt_k116 : xt_c116.all (xt_ck 116) = true := by decide +kernel
set_option maxRecDepth 100000 in
theorem xt_k117 : xt_c117.all (xt_ck 117) = true := by decide +kernel
set_option maxRecDepth 100000 in
theorem xt_k118 : xt_c118.all (xt_ck 118) = true := by decide +kernel
set_option maxRecDepth 100000 in
theorem xt_k119 : xt_c119.all (xt_ck 119) = true := by decide +kernel
set_option maxRecDepth 100000 in
theorem xt_k120 : xt_c120.all (xt_ck 120) = true := by decide +kernel
set_option maxRecDepth 100000 in
theorem xt_k121 : xt_c121.all (xt_ck 121) = true := by decide +kernel
set_option maxRecDepth 100000 in
theorem xt_k122 : xt_c122.all (xt_ck 122) = true := by decide +kernel
set_option maxRecDepth 100000 in
theorem xt_k123 : xt_c123.all (xt_ck 123) = true := by decide +kernel
set_option maxRecDepth 100000 in
theorem xt_k124 : xt_c124.all (xt_ck 124) = true := by decide +kernel
end
section
/-! The code tables against the bytes. -/
set_option maxRecDepth 100000 in
theorem xt_k125 : xt_c125.all (xt_ck 125) = true := by decide +kernel
set_option maxRecDepth 100000 in
theorem xt_k126 : xt_c126.all (xt_ck 126) = true := by decide +kernel
set_option maxRecDepth 100000 in
theorem xt_k127 : xt_c127.all (xt_ck 127) = true := by decide +kernel
set_option maxRecDepth 100000 in
theorem xt_k128 : xt_c128.all (xt_ck 128) = true := by decide +kernel
set_option maxRecDepth 100000 in
theorem xt_k129 : xt_c129.all (xt_ck 129) = true := by decide +kernel
set_option maxRecDepth 100000 in
theorem xt_k130 : xt_c130.all (xt_ck 130) = true := by decide +kernel
set_option maxRecDepth 100000 in
theorem xt_k131 : xt_c131.all (xt_ck 131) = true := by decide +kernel
set_option maxRecDepth 100000 in
theorem xt_k132 : xt_c132.all (xt_ck 132) = true := by decide +kernel
set_option maxRecDepth 100000 in
theorem xt_k133 : xt_c133.all (xt_ck 133) = true := by decide +kernel
set_option maxRecDepth 100000 in
theorem xt_k134 : xt_c134.all (xt_ck 134) = true := by decide +kernel
set_option maxRecDepth 100000 in
theorem xt_k135 : xt_c135.all (xt_ck 135) = true := by decide +kernel
set_option maxRecDepth 100000 in
theorem xt_k136 : xt_c136.all (xt_ck 136) = true := by decide +kernel
set_option maxRecDepth 100000 in
theorem xt_k137 : xt_c137.all (xt_ck 137) = true := by decide +kernel
set_option maxRecDepth 100000 in
theorem xt_k138 : xt_c138.all (xt_ck 138) = true := by decide +kernel
end
section
/-! The code tables against the bytes. -/
set_option maxRecDepth 100000 in
theorem xt_k139 : xt_c139.all (xt_ck 139) = true := by decide +kernel
set_option maxRecDepth 100000 in
theorem xt_k140 : xt_c140.all (xt_ck 140) = true := by decide +kernel
set_option maxRecDepth 100000 in
theorem xt_k141 : xt_c141.all (xt_ck 141) = true := by decide +kernel
set_option maxRecDepth 100000 in
theorem xt_k142 : xt_c142.all (xt_ck 142) = true := by decide +kernel
set_option maxRecDepth 100000 in
theorem xt_k143 : xt_c143.all (xt_ck 143) = true := by decide +kernel
set_option maxRecDepth 100000 in
theorem xt_k144 : xt_c144.all (xt_ck 144) = true := by decide +kernel
set_option maxRecDepth 100000 in
theorem xt_k145 : xt_c145.all (xt_ck 145) = true := by decide +kernel
end
section
/-! The code tables against the bytes. -/
set_option maxRecDepth 100000 in
theorem xt_k146 : xt_c146.all (xt_ck 146) = true := by decide +kernel
set_option maxRecDepth 100000 in
theorem xt_k147 : xt_c147.all (xt_ck 147) = true := by decide +kernel
set_option maxRecDepth 100000 in
theorem xt_k148 : xt_c148.all (xt_ck 148) = true := by decide +kernel
set_option maxRecDepth 100000 in
theorem xt_k149 : xt_c149.all (xt_ck 149) = true := by decide +kernel
set_option maxRecDepth 100000 in
theorem xt_k150 : xt_c150.all (xt_ck 150) = true := by decide +kernel
set_option maxRecDepth 100000 in
theorem xt_k151 : xt_c151.all (xt_ck 151) = true := by decide +kernel
set_option maxRecDepth 100000 in
theorem xt_k152 : xt_c152.all (xt_ck 152) = true := by decide +kernel
set_option maxRecDepth 100000 in
theorem xt_k153 : xt_c153.all (xt_ck 153) = true := by decide +kernel
end
section
/-! The code tables against the bytes. -/
set_option maxRecDepth 100000 in
theorem xt_k154 : xt_c154.all (xt_ck 154) = true := by decide +kernel
set_option maxRecDepth 100000 in
theorem xt_k155 : xt_c155.all (xt_ck 155) = true := by decide +kernel
set_option maxRecDepth 100000 in
theorem xt_k156 : xt_c156.all (xt_ck 156) = true := by decide +kernel
set_option maxRecDepth 100000 in
theorem xt_k157 : xt_c157.all (xt_ck 157) = true := by decide +kernel
set_option maxRecDepth 100000 in
theorem xt_k158 : xt_c158.all (xt_ck 158) = true := by decide +kernel
set_option maxRecDepth 100000 in
theorem xt_k159 : xt_c159.all (xt_ck 159) = true := by decide +kernel
set_option maxRecDepth 100000 in
theorem xt_k160 : xt_c160.all (xt_ck 160) = true := by decide +kernel
set_option maxRecDepth 100000 in
theorem xt_k161 : xt_c161.all (xt_ck 161) = true := by decide +kernel
set_option maxRecDepth 100000 in
theorem xt_k162 : xt_c162.all (xt_ck 162) = true := by decide +kernel
set_option maxRecDepth 100000 in
theorem xt_k163 : xt_c163.all (xt_ck 163) = true := by decide +kernel
set_option maxRecDepth 100000 in
theorem xt_k164 : xt_c164.all (xt_ck 164) = true := by decide +kernel
end
section
/-! The code tables against the bytes. -/
set_option maxRecDepth 100000 in
theorem xt_k165 : xt_c165.all (xt_ck 165) = true := by decide +kernel
set_option maxRecDepth 100000 in
theorem xt_k166 : xt_c166.all (xt_ck 166) = true := by decide +kernel
set_option maxRecDepth 100000 in
theorem xt_k167 : xt_c167.all (xt_ck 167) = true := by decide +kernel
set_option maxRecDepth 100000 in
theorem xt_k168 : xt_c168.all (xt_ck 168) = true := by decide +kernel
set_option maxRecDepth 100000 in
theorem xt_k169 : xt_c169.all (xt_ck 169) = true := by decide +kernel
set_option maxRecDepth 100000 in
theorem xt_k170 : xt_c170.all (xt_ck 170) = true := by decide +kernel
set_option maxRecDepth 100000 in
theorem xt_k171 : xt_c171.all (xt_ck 171) = true := by decide +kernel
end
section
/-! The code tables against the bytes. -/
set_option maxRecDepth 100000 in
theorem xt_k172 : xt_c172.all (xt_ck 172) = true := by decide +kernel
set_option maxRecDepth 100000 in
theorem xt_k173 : xt_c173.all (xt_ck 173) = true := by decide +kernel
set_option maxRecDepth 100000 in
theorem xt_k174 : xt_c174.all (xt_ck 174) = true := by decide +kernel
set_option maxRecDepth 100000 in
theorem xt_k175 : xt_c175.all (xt_ck 175) = true := by decide +kernel
set_option maxRecDepth 100000 in
theorem xt_k176 : xt_c176.all (xt_ck 176) = true := by decide +kernel
end
section
/-! The words that the tables rest on, and what they say. Written by prog/gen_tables.py. -/
def xt_cw (y : Nat) : Jvm.Cond := .code (xt_nm y) (xt_bc y) (xt_ml y) (xt_rt y)
def xt_Gw : List Jvm.Cond := [
  (Jvm.Cond.laysFinal "BootNet" "BootNet" "ground" "LBootNet$Ground;"),
  (Jvm.Cond.laysFinal "BootNet" "BootNet" "wire" "LBootNet$Wire;"),
  (Jvm.Cond.laysFinal "BootNet" "BootNet" "layout" "LBootNet$Layout;"),
  (Jvm.Cond.laysFinal "BootNet" "BootNet" "library" "LBootNet$Library;"),
  (Jvm.Cond.laysFinal "BootNet" "BootNet" "server" "LBootNet$Server;"),
  (Jvm.Cond.laysFinal "BootNet" "BootNet" "stations" "[LBootNet$Station;"),
  (Jvm.Cond.laysFinal "BootNet$AddressBook" "BootNet$AddressBook" "ground" "LBootNet$Ground;"),
  (Jvm.Cond.laysFinal "BootNet$AddressBook" "BootNet$AddressBook" "layout" "LBootNet$Layout;"),
  (Jvm.Cond.laysFinal "BootNet$AddressBook" "BootNet$AddressBook" "leasedTo" "[I"),
  (Jvm.Cond.laysFinal "BootNet$AddressBook" "BootNet$AddressBook" "leasedUntil" "[I"),
  (Jvm.Cond.laysFinal "BootNet$AddressBook" "BootNet$AddressBook" "offeredTo" "[I"),
  (Jvm.Cond.laysFinal "BootNet$AddressBook" "BootNet$AddressBook" "offeredUntil" "[I"),
  (Jvm.Cond.laysFinal "BootNet$AddressBook" "BootNet$AddressBook" "barredUntil" "[I"),
  (Jvm.Cond.laysFinal "BootNet$Ground" "BootNet$Ground" "leaseTicks" "I"),
  (Jvm.Cond.laysFinal "BootNet$Ground" "BootNet$Ground" "limit" "I"),
  (Jvm.Cond.laysFinal "BootNet$Ground" "BootNet$Ground" "blockSize" "I"),
  (Jvm.Cond.lays "BootNet$Ground" "BootNet$Ground" "now" "I"),
  (Jvm.Cond.lays "BootNet$Ground" "BootNet$Ground" "latestNumber" "I"),
  (Jvm.Cond.laysFinal "BootNet$Layout" "BootNet$Layout" "poolLow" "[I"),
  (Jvm.Cond.laysFinal "BootNet$Layout" "BootNet$Layout" "poolHigh" "[I"),
  (Jvm.Cond.laysFinal "BootNet$Layout" "BootNet$Layout" "subnetOf" "[I"),
  (Jvm.Cond.laysFinal "BootNet$Layout" "BootNet$Layout" "reservedFor" "[I"),
  (Jvm.Cond.laysFinal "BootNet$Layout" "BootNet$Layout" "taken" "[Z"),
  (Jvm.Cond.lays "BootNet$Layout" "BootNet$Layout" "stationCount" "I"),
  (Jvm.Cond.laysFinal "BootNet$Library" "BootNet$Library" "bytes" "[[I"),
  (Jvm.Cond.laysFinal "BootNet$Library" "BootNet$Library" "byteCounts" "[I"),
  (Jvm.Cond.laysFinal "BootNet$Library" "BootNet$Library" "entryFiles" "[I"),
  (Jvm.Cond.laysFinal "BootNet$Library" "BootNet$Library" "entryLengths" "[I"),
  (Jvm.Cond.laysFinal "BootNet$Library" "BootNet$Library" "entryChecks" "[I"),
  (Jvm.Cond.lays "BootNet$Library" "BootNet$Library" "entryCount" "I"),
  (Jvm.Cond.laysFinal "BootNet$Loading" "BootNet$Loading" "owner" "I"),
  (Jvm.Cond.laysFinal "BootNet$Loading" "BootNet$Loading" "ground" "LBootNet$Ground;"),
  (Jvm.Cond.laysFinal "BootNet$Loading" "BootNet$Loading" "wire" "LBootNet$Wire;"),
  (Jvm.Cond.laysFinal "BootNet$Loading" "BootNet$Loading" "library" "LBootNet$Library;"),
  (Jvm.Cond.laysFinal "BootNet$Loading" "BootNet$Loading" "bytes" "[I"),
  (Jvm.Cond.lays "BootNet$Loading" "BootNet$Loading" "byteCount" "I"),
  (Jvm.Cond.lays "BootNet$Loading" "BootNet$Loading" "entryStart" "I"),
  (Jvm.Cond.lays "BootNet$Loading" "BootNet$Loading" "block" "I"),
  (Jvm.Cond.lays "BootNet$Loading" "BootNet$Loading" "tries" "I"),
  (Jvm.Cond.lays "BootNet$Loading" "BootNet$Loading" "due" "I"),
  (Jvm.Cond.lays "BootNet$Loading" "BootNet$Loading" "entryAt" "I"),
  (Jvm.Cond.lays "BootNet$Loading" "BootNet$Loading" "result" "I"),
  (Jvm.Cond.lays "BootNet$Message" "BootNet$Message" "kind" "I"),
  (Jvm.Cond.lays "BootNet$Message" "BootNet$Message" "station" "I"),
  (Jvm.Cond.lays "BootNet$Message" "BootNet$Message" "number" "I"),
  (Jvm.Cond.lays "BootNet$Message" "BootNet$Message" "item" "I"),
  (Jvm.Cond.lays "BootNet$Message" "BootNet$Message" "block" "I"),
  (Jvm.Cond.lays "BootNet$Message" "BootNet$Message" "leg" "I"),
  (Jvm.Cond.lays "BootNet$Message" "BootNet$Message" "byteCount" "I"),
  (Jvm.Cond.laysFinal "BootNet$Message" "BootNet$Message" "bytes" "[I"),
  (Jvm.Cond.laysFinal "BootNet$Records" "BootNet$Records" "addresses" "[I"),
  (Jvm.Cond.laysFinal "BootNet$Records" "BootNet$Records" "holders" "[I"),
  (Jvm.Cond.laysFinal "BootNet$Records" "BootNet$Records" "ticks" "[I"),
  (Jvm.Cond.lays "BootNet$Records" "BootNet$Records" "count" "I"),
  (Jvm.Cond.laysFinal "BootNet$Server" "BootNet$Server" "ground" "LBootNet$Ground;"),
  (Jvm.Cond.laysFinal "BootNet$Server" "BootNet$Server" "wire" "LBootNet$Wire;"),
  (Jvm.Cond.laysFinal "BootNet$Server" "BootNet$Server" "layout" "LBootNet$Layout;"),
  (Jvm.Cond.laysFinal "BootNet$Server" "BootNet$Server" "library" "LBootNet$Library;"),
  (Jvm.Cond.laysFinal "BootNet$Server" "BootNet$Server" "transfers" "[LBootNet$Transfer;"),
  (Jvm.Cond.laysFinal "BootNet$Server" "BootNet$Server" "book" "LBootNet$AddressBook;"),
  (Jvm.Cond.laysFinal "BootNet$Server" "BootNet$Server" "records" "LBootNet$Records;"),
  (Jvm.Cond.laysFinal "BootNet$Station" "BootNet$Station" "self" "I"),
  (Jvm.Cond.laysFinal "BootNet$Station" "BootNet$Station" "ground" "LBootNet$Ground;"),
  (Jvm.Cond.laysFinal "BootNet$Station" "BootNet$Station" "wire" "LBootNet$Wire;"),
  (Jvm.Cond.laysFinal "BootNet$Station" "BootNet$Station" "loading" "LBootNet$Loading;"),
  (Jvm.Cond.lays "BootNet$Station" "BootNet$Station" "state" "I"),
  (Jvm.Cond.lays "BootNet$Station" "BootNet$Station" "address" "I"),
  (Jvm.Cond.lays "BootNet$Station" "BootNet$Station" "number" "I"),
  (Jvm.Cond.lays "BootNet$Station" "BootNet$Station" "sent" "I"),
  (Jvm.Cond.lays "BootNet$Station" "BootNet$Station" "end" "I"),
  (Jvm.Cond.lays "BootNet$Station" "BootNet$Station" "due" "I"),
  (Jvm.Cond.lays "BootNet$Station" "BootNet$Station" "tries" "I"),
  (Jvm.Cond.lays "BootNet$Station" "BootNet$Station" "conflicts" "I"),
  (Jvm.Cond.lays "BootNet$Transfer" "BootNet$Transfer" "open" "Z"),
  (Jvm.Cond.lays "BootNet$Transfer" "BootNet$Transfer" "file" "I"),
  (Jvm.Cond.lays "BootNet$Transfer" "BootNet$Transfer" "block" "I"),
  (Jvm.Cond.lays "BootNet$Transfer" "BootNet$Transfer" "tries" "I"),
  (Jvm.Cond.lays "BootNet$Transfer" "BootNet$Transfer" "due" "I"),
  (Jvm.Cond.lays "BootNet$Transfer" "BootNet$Transfer" "sentBytes" "I"),
  (Jvm.Cond.laysFinal "BootNet$Wire" "BootNet$Wire" "slots" "[LBootNet$Message;"),
  (Jvm.Cond.lays "BootNet$Wire" "BootNet$Wire" "count" "I"),
  (Jvm.Cond.lays "BootNet$Wire" "BootNet$Wire" "outside" "LBootNet$Message;"),
  (Jvm.Cond.laysFinal "BootNet$Wire" "BootNet$Wire" "lost" "LBootNet$Message;"),
  (Jvm.Cond.laysFinal "BootNetModel" "BootNetModel" "lease" "I"),
  (Jvm.Cond.laysFinal "BootNetModel" "BootNetModel" "limit" "I"),
  (Jvm.Cond.laysFinal "BootNetModel" "BootNetModel" "size" "I"),
  (Jvm.Cond.lays "BootNetModel" "BootNetModel" "now" "I"),
  (Jvm.Cond.lays "BootNetModel" "BootNetModel" "numbers" "I"),
  (Jvm.Cond.laysFinal "BootNetModel" "BootNetModel" "low" "[I"),
  (Jvm.Cond.laysFinal "BootNetModel" "BootNetModel" "high" "[I"),
  (Jvm.Cond.laysFinal "BootNetModel" "BootNetModel" "reserved" "[I"),
  (Jvm.Cond.laysFinal "BootNetModel" "BootNetModel" "strange" "[Z"),
  (Jvm.Cond.lays "BootNetModel" "BootNetModel" "rows" "I"),
  (Jvm.Cond.laysFinal "BootNetModel" "BootNetModel" "kind" "[I"),
  (Jvm.Cond.laysFinal "BootNetModel" "BootNetModel" "whose" "[I"),
  (Jvm.Cond.laysFinal "BootNetModel" "BootNetModel" "number" "[I"),
  (Jvm.Cond.laysFinal "BootNetModel" "BootNetModel" "subject" "[I"),
  (Jvm.Cond.laysFinal "BootNetModel" "BootNetModel" "block" "[I"),
  (Jvm.Cond.laysFinal "BootNetModel" "BootNetModel" "many" "[I"),
  (Jvm.Cond.laysFinal "BootNetModel" "BootNetModel" "leg" "[I"),
  (Jvm.Cond.laysFinal "BootNetModel" "BootNetModel" "bytes" "[I"),
  (Jvm.Cond.laysFinal "BootNetModel" "BootNetModel" "length" "[I"),
  (Jvm.Cond.laysFinal "BootNetModel" "BootNetModel" "content" "[I"),
  (Jvm.Cond.lays "BootNetModel" "BootNetModel" "entries" "I"),
  (Jvm.Cond.laysFinal "BootNetModel" "BootNetModel" "entryFile" "[I"),
  (Jvm.Cond.laysFinal "BootNetModel" "BootNetModel" "entryLength" "[I"),
  (Jvm.Cond.laysFinal "BootNetModel" "BootNetModel" "entryCheck" "[I"),
  (Jvm.Cond.laysFinal "BootNetModel" "BootNetModel" "leaseTo" "[I"),
  (Jvm.Cond.laysFinal "BootNetModel" "BootNetModel" "leaseTill" "[I"),
  (Jvm.Cond.laysFinal "BootNetModel" "BootNetModel" "offerTo" "[I"),
  (Jvm.Cond.laysFinal "BootNetModel" "BootNetModel" "offerTill" "[I"),
  (Jvm.Cond.laysFinal "BootNetModel" "BootNetModel" "barTill" "[I"),
  (Jvm.Cond.lays "BootNetModel" "BootNetModel" "records" "I"),
  (Jvm.Cond.laysFinal "BootNetModel" "BootNetModel" "recordAddress" "[I"),
  (Jvm.Cond.laysFinal "BootNetModel" "BootNetModel" "recordStation" "[I"),
  (Jvm.Cond.laysFinal "BootNetModel" "BootNetModel" "recordTill" "[I"),
  (Jvm.Cond.laysFinal "BootNetModel" "BootNetModel" "sendFile" "[I"),
  (Jvm.Cond.laysFinal "BootNetModel" "BootNetModel" "sendBlock" "[I"),
  (Jvm.Cond.laysFinal "BootNetModel" "BootNetModel" "sendMany" "[I"),
  (Jvm.Cond.laysFinal "BootNetModel" "BootNetModel" "sendTries" "[I"),
  (Jvm.Cond.laysFinal "BootNetModel" "BootNetModel" "sendDue" "[I"),
  (Jvm.Cond.lays "BootNetModel" "BootNetModel" "stations" "I"),
  (Jvm.Cond.laysFinal "BootNetModel" "BootNetModel" "subnet" "[I"),
  (Jvm.Cond.laysFinal "BootNetModel" "BootNetModel" "state" "[I"),
  (Jvm.Cond.laysFinal "BootNetModel" "BootNetModel" "address" "[I"),
  (Jvm.Cond.laysFinal "BootNetModel" "BootNetModel" "own" "[I"),
  (Jvm.Cond.laysFinal "BootNetModel" "BootNetModel" "sent" "[I"),
  (Jvm.Cond.laysFinal "BootNetModel" "BootNetModel" "end" "[I"),
  (Jvm.Cond.laysFinal "BootNetModel" "BootNetModel" "due" "[I"),
  (Jvm.Cond.laysFinal "BootNetModel" "BootNetModel" "tries" "[I"),
  (Jvm.Cond.laysFinal "BootNetModel" "BootNetModel" "conflicts" "[I"),
  (Jvm.Cond.laysFinal "BootNetModel" "BootNetModel" "result" "[I"),
  (Jvm.Cond.laysFinal "BootNetModel" "BootNetModel" "entry" "[I"),
  (Jvm.Cond.laysFinal "BootNetModel" "BootNetModel" "wanted" "[I"),
  (Jvm.Cond.laysFinal "BootNetModel" "BootNetModel" "loadTries" "[I"),
  (Jvm.Cond.laysFinal "BootNetModel" "BootNetModel" "loadDue" "[I"),
  (Jvm.Cond.laysFinal "BootNetModel" "BootNetModel" "got" "[I"),
  (Jvm.Cond.laysFinal "BootNetModel" "BootNetModel" "start" "[I"),
  (Jvm.Cond.laysFinal "BootNetModel" "BootNetModel" "image" "[I"),
  (Jvm.Cond.laysFinal "BootNetModel" "BootNetModel" "arrived" "[I"),
  (Jvm.Cond.laysFinal "BootNetModel" "BootNetModel" "aside" "[I"),
  (Jvm.Cond.fieldLink "BootNet" (12 : Nat) "BootNet" "ground" "LBootNet$Ground;"),
  (Jvm.Cond.fieldLink "BootNet" (21 : Nat) "BootNet" "wire" "LBootNet$Wire;"),
  (Jvm.Cond.fieldLink "BootNet" (28 : Nat) "BootNet" "layout" "LBootNet$Layout;"),
  (Jvm.Cond.fieldLink "BootNet" (35 : Nat) "BootNet" "library" "LBootNet$Library;"),
  (Jvm.Cond.fieldLink "BootNet" (44 : Nat) "BootNet" "server" "LBootNet$Server;"),
  (Jvm.Cond.fieldLink "BootNet" (50 : Nat) "BootNet" "stations" "[LBootNet$Station;"),
  (Jvm.Cond.fieldLink "BootNet" (100 : Nat) "BootNet$Message" "kind" "I"),
  (Jvm.Cond.fieldLink "BootNet" (109 : Nat) "BootNet$Ground" "now" "I"),
  (Jvm.Cond.fieldLink "BootNet" (112 : Nat) "BootNet$Layout" "stationCount" "I"),
  (Jvm.Cond.fieldLink "BootNet" (121 : Nat) "BootNet$Wire" "count" "I"),
  (Jvm.Cond.fieldLink "BootNet" (128 : Nat) "BootNet$Wire" "slots" "[LBootNet$Message;"),
  (Jvm.Cond.fieldLink "BootNet" (136 : Nat) "BootNet$Station" "loading" "LBootNet$Loading;"),
  (Jvm.Cond.fieldLink "BootNet" (148 : Nat) "BootNet$Server" "book" "LBootNet$AddressBook;"),
  (Jvm.Cond.fieldLink "BootNet" (157 : Nat) "BootNet$Server" "records" "LBootNet$Records;"),
  (Jvm.Cond.fieldLink "BootNet" (161 : Nat) "BootNet$Records" "count" "I"),
  (Jvm.Cond.fieldLink "BootNet" (168 : Nat) "BootNet$Message" "leg" "I"),
  (Jvm.Cond.fieldLink "BootNet" (171 : Nat) "BootNet$Message" "station" "I"),
  (Jvm.Cond.fieldLink "BootNet" (188 : Nat) "BootNet$Message" "item" "I"),
  (Jvm.Cond.fieldLink "BootNet" (204 : Nat) "BootNet$Station" "address" "I"),
  (Jvm.Cond.fieldLink "BootNet$AddressBook" (11 : Nat) "BootNet$AddressBook" "leasedTo" "[I"),
  (Jvm.Cond.fieldLink "BootNet$AddressBook" (17 : Nat) "BootNet$AddressBook" "leasedUntil" "[I"),
  (Jvm.Cond.fieldLink "BootNet$AddressBook" (20 : Nat) "BootNet$AddressBook" "offeredTo" "[I"),
  (Jvm.Cond.fieldLink "BootNet$AddressBook" (23 : Nat) "BootNet$AddressBook" "offeredUntil" "[I"),
  (Jvm.Cond.fieldLink "BootNet$AddressBook" (26 : Nat) "BootNet$AddressBook" "barredUntil" "[I"),
  (Jvm.Cond.fieldLink "BootNet$AddressBook" (29 : Nat) "BootNet$AddressBook" "ground" "LBootNet$Ground;"),
  (Jvm.Cond.fieldLink "BootNet$AddressBook" (33 : Nat) "BootNet$AddressBook" "layout" "LBootNet$Layout;"),
  (Jvm.Cond.fieldLink "BootNet$AddressBook" (43 : Nat) "BootNet$Ground" "now" "I"),
  (Jvm.Cond.fieldLink "BootNet$Ground" (13 : Nat) "BootNet$Ground" "leaseTicks" "I"),
  (Jvm.Cond.fieldLink "BootNet$Ground" (17 : Nat) "BootNet$Ground" "limit" "I"),
  (Jvm.Cond.fieldLink "BootNet$Ground" (22 : Nat) "BootNet$Ground" "blockSize" "I"),
  (Jvm.Cond.fieldLink "BootNet$Ground" (34 : Nat) "BootNet$Ground" "latestNumber" "I"),
  (Jvm.Cond.fieldLink "BootNet$Layout" (11 : Nat) "BootNet$Layout" "poolLow" "[I"),
  (Jvm.Cond.fieldLink "BootNet$Layout" (15 : Nat) "BootNet$Layout" "poolHigh" "[I"),
  (Jvm.Cond.fieldLink "BootNet$Layout" (18 : Nat) "BootNet$Layout" "subnetOf" "[I"),
  (Jvm.Cond.fieldLink "BootNet$Layout" (21 : Nat) "BootNet$Layout" "reservedFor" "[I"),
  (Jvm.Cond.fieldLink "BootNet$Layout" (24 : Nat) "BootNet$Layout" "taken" "[Z"),
  (Jvm.Cond.fieldLink "BootNet$Layout" (34 : Nat) "BootNet$Layout" "stationCount" "I"),
  (Jvm.Cond.fieldLink "BootNet$Library" (11 : Nat) "BootNet$Library" "bytes" "[[I"),
  (Jvm.Cond.fieldLink "BootNet$Library" (14 : Nat) "BootNet$Library" "byteCounts" "[I"),
  (Jvm.Cond.fieldLink "BootNet$Library" (18 : Nat) "BootNet$Library" "entryFiles" "[I"),
  (Jvm.Cond.fieldLink "BootNet$Library" (21 : Nat) "BootNet$Library" "entryLengths" "[I"),
  (Jvm.Cond.fieldLink "BootNet$Library" (24 : Nat) "BootNet$Library" "entryChecks" "[I"),
  (Jvm.Cond.fieldLink "BootNet$Library" (48 : Nat) "BootNet$Library" "entryCount" "I"),
  (Jvm.Cond.fieldLink "BootNet$Loading" (15 : Nat) "BootNet$Loading" "bytes" "[I"),
  (Jvm.Cond.fieldLink "BootNet$Loading" (19 : Nat) "BootNet$Loading" "owner" "I"),
  (Jvm.Cond.fieldLink "BootNet$Loading" (23 : Nat) "BootNet$Loading" "ground" "LBootNet$Ground;"),
  (Jvm.Cond.fieldLink "BootNet$Loading" (27 : Nat) "BootNet$Loading" "wire" "LBootNet$Wire;"),
  (Jvm.Cond.fieldLink "BootNet$Loading" (31 : Nat) "BootNet$Loading" "library" "LBootNet$Library;"),
  (Jvm.Cond.fieldLink "BootNet$Loading" (35 : Nat) "BootNet$Loading" "result" "I"),
  (Jvm.Cond.fieldLink "BootNet$Loading" (38 : Nat) "BootNet$Loading" "entryAt" "I"),
  (Jvm.Cond.fieldLink "BootNet$Loading" (41 : Nat) "BootNet$Loading" "entryStart" "I"),
  (Jvm.Cond.fieldLink "BootNet$Loading" (44 : Nat) "BootNet$Loading" "byteCount" "I"),
  (Jvm.Cond.fieldLink "BootNet$Loading" (47 : Nat) "BootNet$Library" "entryCount" "I"),
  (Jvm.Cond.fieldLink "BootNet$Loading" (54 : Nat) "BootNet$Loading" "block" "I"),
  (Jvm.Cond.fieldLink "BootNet$Loading" (63 : Nat) "BootNet$Message" "item" "I"),
  (Jvm.Cond.fieldLink "BootNet$Loading" (66 : Nat) "BootNet$Library" "entryFiles" "[I"),
  (Jvm.Cond.fieldLink "BootNet$Loading" (69 : Nat) "BootNet$Message" "block" "I"),
  (Jvm.Cond.fieldLink "BootNet$Loading" (80 : Nat) "BootNet$Message" "byteCount" "I"),
  (Jvm.Cond.fieldLink "BootNet$Loading" (81 : Nat) "BootNet$Ground" "blockSize" "I"),
  (Jvm.Cond.fieldLink "BootNet$Loading" (97 : Nat) "BootNet$Ground" "now" "I"),
  (Jvm.Cond.fieldLink "BootNet$Loading" (100 : Nat) "BootNet$Loading" "due" "I"),
  (Jvm.Cond.fieldLink "BootNet$Loading" (103 : Nat) "BootNet$Loading" "tries" "I"),
  (Jvm.Cond.fieldLink "BootNet$Loading" (106 : Nat) "BootNet$Ground" "limit" "I"),
  (Jvm.Cond.fieldLink "BootNet$Loading" (109 : Nat) "BootNet$Library" "entryLengths" "[I"),
  (Jvm.Cond.fieldLink "BootNet$Loading" (116 : Nat) "BootNet$Library" "entryChecks" "[I"),
  (Jvm.Cond.fieldLink "BootNet$Loading" (119 : Nat) "BootNet$Message" "bytes" "[I"),
  (Jvm.Cond.fieldLink "BootNet$Message" (11 : Nat) "BootNet$Message" "bytes" "[I"),
  (Jvm.Cond.fieldLink "BootNet$Message" (21 : Nat) "BootNet$Message" "byteCount" "I"),
  (Jvm.Cond.fieldLink "BootNet$Message" (25 : Nat) "BootNet$Message" "kind" "I"),
  (Jvm.Cond.fieldLink "BootNet$Message" (28 : Nat) "BootNet$Message" "station" "I"),
  (Jvm.Cond.fieldLink "BootNet$Message" (31 : Nat) "BootNet$Message" "number" "I"),
  (Jvm.Cond.fieldLink "BootNet$Message" (34 : Nat) "BootNet$Message" "item" "I"),
  (Jvm.Cond.fieldLink "BootNet$Message" (37 : Nat) "BootNet$Message" "block" "I"),
  (Jvm.Cond.fieldLink "BootNet$Message" (40 : Nat) "BootNet$Message" "leg" "I"),
  (Jvm.Cond.fieldLink "BootNet$Records" (9 : Nat) "BootNet$Records" "addresses" "[I"),
  (Jvm.Cond.fieldLink "BootNet$Records" (13 : Nat) "BootNet$Records" "holders" "[I"),
  (Jvm.Cond.fieldLink "BootNet$Records" (16 : Nat) "BootNet$Records" "ticks" "[I"),
  (Jvm.Cond.fieldLink "BootNet$Records" (19 : Nat) "BootNet$Records" "count" "I"),
  (Jvm.Cond.fieldLink "BootNet$Server" (13 : Nat) "BootNet$Server" "transfers" "[LBootNet$Transfer;"),
  (Jvm.Cond.fieldLink "BootNet$Server" (22 : Nat) "BootNet$Server" "records" "LBootNet$Records;"),
  (Jvm.Cond.fieldLink "BootNet$Server" (26 : Nat) "BootNet$Server" "ground" "LBootNet$Ground;"),
  (Jvm.Cond.fieldLink "BootNet$Server" (30 : Nat) "BootNet$Server" "wire" "LBootNet$Wire;"),
  (Jvm.Cond.fieldLink "BootNet$Server" (34 : Nat) "BootNet$Server" "layout" "LBootNet$Layout;"),
  (Jvm.Cond.fieldLink "BootNet$Server" (38 : Nat) "BootNet$Server" "library" "LBootNet$Library;"),
  (Jvm.Cond.fieldLink "BootNet$Server" (47 : Nat) "BootNet$Server" "book" "LBootNet$AddressBook;"),
  (Jvm.Cond.fieldLink "BootNet$Server" (52 : Nat) "BootNet$Message" "kind" "I"),
  (Jvm.Cond.fieldLink "BootNet$Server" (77 : Nat) "BootNet$Transfer" "open" "Z"),
  (Jvm.Cond.fieldLink "BootNet$Server" (81 : Nat) "BootNet$Records" "count" "I"),
  (Jvm.Cond.fieldLink "BootNet$Server" (84 : Nat) "BootNet$Records" "addresses" "[I"),
  (Jvm.Cond.fieldLink "BootNet$Server" (88 : Nat) "BootNet$Records" "holders" "[I"),
  (Jvm.Cond.fieldLink "BootNet$Server" (91 : Nat) "BootNet$Records" "ticks" "[I"),
  (Jvm.Cond.fieldLink "BootNet$Server" (98 : Nat) "BootNet$Layout" "stationCount" "I"),
  (Jvm.Cond.fieldLink "BootNet$Server" (101 : Nat) "BootNet$Ground" "now" "I"),
  (Jvm.Cond.fieldLink "BootNet$Server" (106 : Nat) "BootNet$Transfer" "due" "I"),
  (Jvm.Cond.fieldLink "BootNet$Server" (109 : Nat) "BootNet$Transfer" "tries" "I"),
  (Jvm.Cond.fieldLink "BootNet$Server" (112 : Nat) "BootNet$Ground" "limit" "I"),
  (Jvm.Cond.fieldLink "BootNet$Server" (119 : Nat) "BootNet$Message" "station" "I"),
  (Jvm.Cond.fieldLink "BootNet$Server" (135 : Nat) "BootNet$Message" "number" "I"),
  (Jvm.Cond.fieldLink "BootNet$Server" (162 : Nat) "BootNet$Message" "item" "I"),
  (Jvm.Cond.fieldLink "BootNet$Server" (184 : Nat) "BootNet$Ground" "leaseTicks" "I"),
  (Jvm.Cond.fieldLink "BootNet$Server" (200 : Nat) "BootNet$Transfer" "file" "I"),
  (Jvm.Cond.fieldLink "BootNet$Server" (203 : Nat) "BootNet$Transfer" "block" "I"),
  (Jvm.Cond.fieldLink "BootNet$Server" (206 : Nat) "BootNet$Message" "block" "I"),
  (Jvm.Cond.fieldLink "BootNet$Server" (207 : Nat) "BootNet$Transfer" "sentBytes" "I"),
  (Jvm.Cond.fieldLink "BootNet$Server" (210 : Nat) "BootNet$Ground" "blockSize" "I"),
  (Jvm.Cond.fieldLink "BootNet$Server" (217 : Nat) "BootNet$Message" "byteCount" "I"),
  (Jvm.Cond.fieldLink "BootNet$Station" (11 : Nat) "BootNet$Station" "state" "I"),
  (Jvm.Cond.fieldLink "BootNet$Station" (17 : Nat) "BootNet$Station" "address" "I"),
  (Jvm.Cond.fieldLink "BootNet$Station" (20 : Nat) "BootNet$Station" "self" "I"),
  (Jvm.Cond.fieldLink "BootNet$Station" (23 : Nat) "BootNet$Station" "ground" "LBootNet$Ground;"),
  (Jvm.Cond.fieldLink "BootNet$Station" (27 : Nat) "BootNet$Station" "wire" "LBootNet$Wire;"),
  (Jvm.Cond.fieldLink "BootNet$Station" (36 : Nat) "BootNet$Station" "loading" "LBootNet$Loading;"),
  (Jvm.Cond.fieldLink "BootNet$Station" (40 : Nat) "BootNet$Station" "end" "I"),
  (Jvm.Cond.fieldLink "BootNet$Station" (43 : Nat) "BootNet$Station" "conflicts" "I"),
  (Jvm.Cond.fieldLink "BootNet$Station" (52 : Nat) "BootNet$Message" "kind" "I"),
  (Jvm.Cond.fieldLink "BootNet$Station" (80 : Nat) "BootNet$Ground" "now" "I"),
  (Jvm.Cond.fieldLink "BootNet$Station" (85 : Nat) "BootNet$Station" "due" "I"),
  (Jvm.Cond.fieldLink "BootNet$Station" (94 : Nat) "BootNet$Station" "sent" "I"),
  (Jvm.Cond.fieldLink "BootNet$Station" (97 : Nat) "BootNet$Ground" "leaseTicks" "I"),
  (Jvm.Cond.fieldLink "BootNet$Station" (110 : Nat) "BootNet$Station" "number" "I"),
  (Jvm.Cond.fieldLink "BootNet$Station" (113 : Nat) "BootNet$Loading" "result" "I"),
  (Jvm.Cond.fieldLink "BootNet$Station" (116 : Nat) "BootNet$Loading" "entryAt" "I"),
  (Jvm.Cond.fieldLink "BootNet$Station" (126 : Nat) "BootNet$Station" "tries" "I"),
  (Jvm.Cond.fieldLink "BootNet$Station" (141 : Nat) "BootNet$Ground" "limit" "I"),
  (Jvm.Cond.fieldLink "BootNet$Station" (151 : Nat) "BootNet$Message" "number" "I"),
  (Jvm.Cond.fieldLink "BootNet$Station" (152 : Nat) "BootNet$Message" "item" "I"),
  (Jvm.Cond.fieldLink "BootNet$Wire" (11 : Nat) "BootNet$Wire" "slots" "[LBootNet$Message;"),
  (Jvm.Cond.fieldLink "BootNet$Wire" (16 : Nat) "BootNet$Wire" "outside" "LBootNet$Message;"),
  (Jvm.Cond.fieldLink "BootNet$Wire" (20 : Nat) "BootNet$Wire" "lost" "LBootNet$Message;"),
  (Jvm.Cond.fieldLink "BootNet$Wire" (23 : Nat) "BootNet$Wire" "count" "I"),
  (Jvm.Cond.fieldLink "BootNet$Wire" (27 : Nat) "BootNet$Message" "kind" "I"),
  (Jvm.Cond.fieldLink "BootNet$Wire" (30 : Nat) "BootNet$Message" "station" "I"),
  (Jvm.Cond.fieldLink "BootNet$Wire" (33 : Nat) "BootNet$Message" "leg" "I"),
  (Jvm.Cond.fieldLink "BootNet$Wire" (36 : Nat) "BootNet$Message" "number" "I"),
  (Jvm.Cond.fieldLink "BootNet$Wire" (39 : Nat) "BootNet$Message" "item" "I"),
  (Jvm.Cond.fieldLink "BootNet$Wire" (42 : Nat) "BootNet$Message" "block" "I"),
  (Jvm.Cond.fieldLink "BootNet$Wire" (45 : Nat) "BootNet$Message" "byteCount" "I"),
  (Jvm.Cond.fieldLink "BootNet$Wire" (52 : Nat) "BootNet$Message" "bytes" "[I"),
  (Jvm.Cond.fieldLink "BootNetModel" (7 : Nat) "BootNetModel" "low" "[I"),
  (Jvm.Cond.fieldLink "BootNetModel" (13 : Nat) "BootNetModel" "high" "[I"),
  (Jvm.Cond.fieldLink "BootNetModel" (16 : Nat) "BootNetModel" "reserved" "[I"),
  (Jvm.Cond.fieldLink "BootNetModel" (19 : Nat) "BootNetModel" "strange" "[Z"),
  (Jvm.Cond.fieldLink "BootNetModel" (23 : Nat) "BootNetModel" "kind" "[I"),
  (Jvm.Cond.fieldLink "BootNetModel" (26 : Nat) "BootNetModel" "whose" "[I"),
  (Jvm.Cond.fieldLink "BootNetModel" (29 : Nat) "BootNetModel" "number" "[I"),
  (Jvm.Cond.fieldLink "BootNetModel" (32 : Nat) "BootNetModel" "subject" "[I"),
  (Jvm.Cond.fieldLink "BootNetModel" (35 : Nat) "BootNetModel" "block" "[I"),
  (Jvm.Cond.fieldLink "BootNetModel" (38 : Nat) "BootNetModel" "many" "[I"),
  (Jvm.Cond.fieldLink "BootNetModel" (41 : Nat) "BootNetModel" "leg" "[I"),
  (Jvm.Cond.fieldLink "BootNetModel" (44 : Nat) "BootNetModel" "bytes" "[I"),
  (Jvm.Cond.fieldLink "BootNetModel" (47 : Nat) "BootNetModel" "length" "[I"),
  (Jvm.Cond.fieldLink "BootNetModel" (50 : Nat) "BootNetModel" "content" "[I"),
  (Jvm.Cond.fieldLink "BootNetModel" (53 : Nat) "BootNetModel" "entryFile" "[I"),
  (Jvm.Cond.fieldLink "BootNetModel" (56 : Nat) "BootNetModel" "entryLength" "[I"),
  (Jvm.Cond.fieldLink "BootNetModel" (59 : Nat) "BootNetModel" "entryCheck" "[I"),
  (Jvm.Cond.fieldLink "BootNetModel" (62 : Nat) "BootNetModel" "leaseTo" "[I"),
  (Jvm.Cond.fieldLink "BootNetModel" (65 : Nat) "BootNetModel" "leaseTill" "[I"),
  (Jvm.Cond.fieldLink "BootNetModel" (68 : Nat) "BootNetModel" "offerTo" "[I"),
  (Jvm.Cond.fieldLink "BootNetModel" (71 : Nat) "BootNetModel" "offerTill" "[I"),
  (Jvm.Cond.fieldLink "BootNetModel" (74 : Nat) "BootNetModel" "barTill" "[I"),
  (Jvm.Cond.fieldLink "BootNetModel" (77 : Nat) "BootNetModel" "recordAddress" "[I"),
  (Jvm.Cond.fieldLink "BootNetModel" (80 : Nat) "BootNetModel" "recordStation" "[I"),
  (Jvm.Cond.fieldLink "BootNetModel" (83 : Nat) "BootNetModel" "recordTill" "[I"),
  (Jvm.Cond.fieldLink "BootNetModel" (86 : Nat) "BootNetModel" "sendFile" "[I"),
  (Jvm.Cond.fieldLink "BootNetModel" (89 : Nat) "BootNetModel" "sendBlock" "[I"),
  (Jvm.Cond.fieldLink "BootNetModel" (92 : Nat) "BootNetModel" "sendMany" "[I"),
  (Jvm.Cond.fieldLink "BootNetModel" (95 : Nat) "BootNetModel" "sendTries" "[I"),
  (Jvm.Cond.fieldLink "BootNetModel" (98 : Nat) "BootNetModel" "sendDue" "[I"),
  (Jvm.Cond.fieldLink "BootNetModel" (101 : Nat) "BootNetModel" "subnet" "[I"),
  (Jvm.Cond.fieldLink "BootNetModel" (104 : Nat) "BootNetModel" "state" "[I"),
  (Jvm.Cond.fieldLink "BootNetModel" (107 : Nat) "BootNetModel" "address" "[I"),
  (Jvm.Cond.fieldLink "BootNetModel" (110 : Nat) "BootNetModel" "own" "[I"),
  (Jvm.Cond.fieldLink "BootNetModel" (113 : Nat) "BootNetModel" "sent" "[I"),
  (Jvm.Cond.fieldLink "BootNetModel" (116 : Nat) "BootNetModel" "end" "[I"),
  (Jvm.Cond.fieldLink "BootNetModel" (119 : Nat) "BootNetModel" "due" "[I"),
  (Jvm.Cond.fieldLink "BootNetModel" (122 : Nat) "BootNetModel" "tries" "[I"),
  (Jvm.Cond.fieldLink "BootNetModel" (125 : Nat) "BootNetModel" "conflicts" "[I"),
  (Jvm.Cond.fieldLink "BootNetModel" (128 : Nat) "BootNetModel" "result" "[I"),
  (Jvm.Cond.fieldLink "BootNetModel" (131 : Nat) "BootNetModel" "entry" "[I"),
  (Jvm.Cond.fieldLink "BootNetModel" (134 : Nat) "BootNetModel" "wanted" "[I"),
  (Jvm.Cond.fieldLink "BootNetModel" (137 : Nat) "BootNetModel" "loadTries" "[I"),
  (Jvm.Cond.fieldLink "BootNetModel" (140 : Nat) "BootNetModel" "loadDue" "[I"),
  (Jvm.Cond.fieldLink "BootNetModel" (143 : Nat) "BootNetModel" "got" "[I"),
  (Jvm.Cond.fieldLink "BootNetModel" (146 : Nat) "BootNetModel" "start" "[I"),
  (Jvm.Cond.fieldLink "BootNetModel" (149 : Nat) "BootNetModel" "image" "[I"),
  (Jvm.Cond.fieldLink "BootNetModel" (152 : Nat) "BootNetModel" "arrived" "[I"),
  (Jvm.Cond.fieldLink "BootNetModel" (155 : Nat) "BootNetModel" "aside" "[I"),
  (Jvm.Cond.fieldLink "BootNetModel" (158 : Nat) "BootNetModel" "lease" "I"),
  (Jvm.Cond.fieldLink "BootNetModel" (162 : Nat) "BootNetModel" "limit" "I"),
  (Jvm.Cond.fieldLink "BootNetModel" (165 : Nat) "BootNetModel" "size" "I"),
  (Jvm.Cond.fieldLink "BootNetModel" (168 : Nat) "BootNetModel" "stations" "I"),
  (Jvm.Cond.fieldLink "BootNetModel" (181 : Nat) "BootNetModel" "entries" "I"),
  (Jvm.Cond.fieldLink "BootNetModel" (189 : Nat) "BootNetModel" "rows" "I"),
  (Jvm.Cond.fieldLink "BootNetModel" (220 : Nat) "BootNetModel" "now" "I"),
  (Jvm.Cond.fieldLink "BootNetModel" (254 : Nat) "BootNetModel" "records" "I"),
  (Jvm.Cond.fieldLink "BootNetModel" (263 : Nat) "BootNetModel" "numbers" "I"),
  (Jvm.Cond.methodLink "BootNet" (1 : Nat) ({ cls := "java/lang/Object", name := "<init>", desc := "()V" } : Jvm.MethodName)),
  (Jvm.Cond.instanceMethod ({ cls := "java/lang/Object", name := "<init>", desc := "()V" } : Jvm.MethodName)),
  (Jvm.Cond.instanceMethod ({ cls := "BootNet$Ground", name := "<init>", desc := "(III)V" } : Jvm.MethodName)),
  (Jvm.Cond.initialized "BootNet$Ground"),
  (Jvm.Cond.methodLink "BootNet" (9 : Nat) ({ cls := "BootNet$Ground", name := "<init>", desc := "(III)V" } : Jvm.MethodName)),
  (Jvm.Cond.instanceMethod ({ cls := "BootNet$Wire", name := "<init>", desc := "()V" } : Jvm.MethodName)),
  (Jvm.Cond.initialized "BootNet$Wire"),
  (Jvm.Cond.methodLink "BootNet" (20 : Nat) ({ cls := "BootNet$Wire", name := "<init>", desc := "()V" } : Jvm.MethodName)),
  (Jvm.Cond.instanceMethod ({ cls := "BootNet$Layout", name := "<init>", desc := "()V" } : Jvm.MethodName)),
  (Jvm.Cond.initialized "BootNet$Layout"),
  (Jvm.Cond.methodLink "BootNet" (27 : Nat) ({ cls := "BootNet$Layout", name := "<init>", desc := "()V" } : Jvm.MethodName)),
  (Jvm.Cond.instanceMethod ({ cls := "BootNet$Library", name := "<init>", desc := "()V" } : Jvm.MethodName)),
  (Jvm.Cond.initialized "BootNet$Library"),
  (Jvm.Cond.instanceMethod ({ cls := "BootNet$Server", name := "<init>", desc := "(LBootNet$Ground;LBootNet$Wire;LBootNet$Layout;LBootNet$Library;)V" } : Jvm.MethodName)),
  (Jvm.Cond.initialized "BootNet$Server"),
  (Jvm.Cond.methodLink "BootNet" (41 : Nat) ({ cls := "BootNet$Server", name := "<init>", desc := "(LBootNet$Ground;LBootNet$Wire;LBootNet$Layout;LBootNet$Library;)V" } : Jvm.MethodName)),
  (Jvm.Cond.instanceMethod ({ cls := "BootNet$Station", name := "<init>", desc := "(ILBootNet$Ground;LBootNet$Wire;LBootNet$Library;)V" } : Jvm.MethodName)),
  (Jvm.Cond.initialized "BootNet$Station"),
  (Jvm.Cond.methodLink "BootNet" (54 : Nat) ({ cls := "BootNet$Station", name := "<init>", desc := "(ILBootNet$Ground;LBootNet$Wire;LBootNet$Library;)V" } : Jvm.MethodName)),
  (Jvm.Cond.methodLink "BootNet" (57 : Nat) ({ cls := "BootNet$Layout", name := "setPool", desc := "(III)Z" } : Jvm.MethodName)),
  (Jvm.Cond.instanceMethod ({ cls := "BootNet$Layout", name := "setPool", desc := "(III)Z" } : Jvm.MethodName)),
  (Jvm.Cond.selects "BootNet$Layout" ({ cls := "BootNet$Layout", name := "setPool", desc := "(III)Z" } : Jvm.MethodName) ({ cls := "BootNet$Layout", name := "setPool", desc := "(III)Z" } : Jvm.MethodName)),
  (Jvm.Cond.methodLink "BootNet" (61 : Nat) ({ cls := "BootNet$Layout", name := "addStation", desc := "(I)I" } : Jvm.MethodName)),
  (Jvm.Cond.instanceMethod ({ cls := "BootNet$Layout", name := "addStation", desc := "(I)I" } : Jvm.MethodName)),
  (Jvm.Cond.selects "BootNet$Layout" ({ cls := "BootNet$Layout", name := "addStation", desc := "(I)I" } : Jvm.MethodName) ({ cls := "BootNet$Layout", name := "addStation", desc := "(I)I" } : Jvm.MethodName)),
  (Jvm.Cond.methodLink "BootNet" (65 : Nat) ({ cls := "BootNet$Layout", name := "reserveFor", desc := "(II)Z" } : Jvm.MethodName)),
  (Jvm.Cond.instanceMethod ({ cls := "BootNet$Layout", name := "reserveFor", desc := "(II)Z" } : Jvm.MethodName)),
  (Jvm.Cond.selects "BootNet$Layout" ({ cls := "BootNet$Layout", name := "reserveFor", desc := "(II)Z" } : Jvm.MethodName) ({ cls := "BootNet$Layout", name := "reserveFor", desc := "(II)Z" } : Jvm.MethodName)),
  (Jvm.Cond.methodLink "BootNet" (69 : Nat) ({ cls := "BootNet$Layout", name := "setTaken", desc := "(IZ)Z" } : Jvm.MethodName)),
  (Jvm.Cond.instanceMethod ({ cls := "BootNet$Layout", name := "setTaken", desc := "(IZ)Z" } : Jvm.MethodName)),
  (Jvm.Cond.selects "BootNet$Layout" ({ cls := "BootNet$Layout", name := "setTaken", desc := "(IZ)Z" } : Jvm.MethodName) ({ cls := "BootNet$Layout", name := "setTaken", desc := "(IZ)Z" } : Jvm.MethodName)),
  (Jvm.Cond.methodLink "BootNet" (73 : Nat) ({ cls := "BootNet$Library", name := "addByte", desc := "(II)Z" } : Jvm.MethodName)),
  (Jvm.Cond.instanceMethod ({ cls := "BootNet$Library", name := "addByte", desc := "(II)Z" } : Jvm.MethodName)),
  (Jvm.Cond.selects "BootNet$Library" ({ cls := "BootNet$Library", name := "addByte", desc := "(II)Z" } : Jvm.MethodName) ({ cls := "BootNet$Library", name := "addByte", desc := "(II)Z" } : Jvm.MethodName)),
  (Jvm.Cond.methodLink "BootNet" (76 : Nat) ({ cls := "BootNet$Library", name := "addEntry", desc := "(III)Z" } : Jvm.MethodName)),
  (Jvm.Cond.instanceMethod ({ cls := "BootNet$Library", name := "addEntry", desc := "(III)Z" } : Jvm.MethodName)),
  (Jvm.Cond.selects "BootNet$Library" ({ cls := "BootNet$Library", name := "addEntry", desc := "(III)Z" } : Jvm.MethodName) ({ cls := "BootNet$Library", name := "addEntry", desc := "(III)Z" } : Jvm.MethodName)),
  (Jvm.Cond.methodLink "BootNet" (79 : Nat) ({ cls := "BootNet$Library", name := "checkOf", desc := "(I)I" } : Jvm.MethodName)),
  (Jvm.Cond.instanceMethod ({ cls := "BootNet$Library", name := "checkOf", desc := "(I)I" } : Jvm.MethodName)),
  (Jvm.Cond.selects "BootNet$Library" ({ cls := "BootNet$Library", name := "checkOf", desc := "(I)I" } : Jvm.MethodName) ({ cls := "BootNet$Library", name := "checkOf", desc := "(I)I" } : Jvm.MethodName)),
  (Jvm.Cond.methodLink "BootNet" (82 : Nat) ({ cls := "BootNet$Layout", name := "hasStation", desc := "(I)Z" } : Jvm.MethodName)),
  (Jvm.Cond.instanceMethod ({ cls := "BootNet$Layout", name := "hasStation", desc := "(I)Z" } : Jvm.MethodName)),
  (Jvm.Cond.selects "BootNet$Layout" ({ cls := "BootNet$Layout", name := "hasStation", desc := "(I)Z" } : Jvm.MethodName) ({ cls := "BootNet$Layout", name := "hasStation", desc := "(I)Z" } : Jvm.MethodName)),
  (Jvm.Cond.methodLink "BootNet" (86 : Nat) ({ cls := "BootNet$Station", name := "restart", desc := "()V" } : Jvm.MethodName)),
  (Jvm.Cond.instanceMethod ({ cls := "BootNet$Station", name := "restart", desc := "()V" } : Jvm.MethodName)),
  (Jvm.Cond.selects "BootNet$Station" ({ cls := "BootNet$Station", name := "restart", desc := "()V" } : Jvm.MethodName) ({ cls := "BootNet$Station", name := "restart", desc := "()V" } : Jvm.MethodName)),
  (Jvm.Cond.methodLink "BootNet" (89 : Nat) ({ cls := "BootNet$Wire", name := "has", desc := "(I)Z" } : Jvm.MethodName)),
  (Jvm.Cond.instanceMethod ({ cls := "BootNet$Wire", name := "has", desc := "(I)Z" } : Jvm.MethodName)),
  (Jvm.Cond.selects "BootNet$Wire" ({ cls := "BootNet$Wire", name := "has", desc := "(I)Z" } : Jvm.MethodName) ({ cls := "BootNet$Wire", name := "has", desc := "(I)Z" } : Jvm.MethodName)),
  (Jvm.Cond.methodLink "BootNet" (92 : Nat) ({ cls := "BootNet$Wire", name := "take", desc := "(I)LBootNet$Message;" } : Jvm.MethodName)),
  (Jvm.Cond.instanceMethod ({ cls := "BootNet$Wire", name := "take", desc := "(I)LBootNet$Message;" } : Jvm.MethodName)),
  (Jvm.Cond.selects "BootNet$Wire" ({ cls := "BootNet$Wire", name := "take", desc := "(I)LBootNet$Message;" } : Jvm.MethodName) ({ cls := "BootNet$Wire", name := "take", desc := "(I)LBootNet$Message;" } : Jvm.MethodName)),
  (Jvm.Cond.methodLink "BootNet" (96 : Nat) ({ cls := "BootNet", name := "arrive", desc := "(LBootNet$Message;)V" } : Jvm.MethodName)),
  (Jvm.Cond.instanceMethod ({ cls := "BootNet", name := "arrive", desc := "(LBootNet$Message;)V" } : Jvm.MethodName)),
  (Jvm.Cond.selects "BootNet" ⟨"BootNet", "arrive", "(LBootNet$Message;)V"⟩ ⟨"BootNet", "arrive", "(LBootNet$Message;)V"⟩),
  (Jvm.Cond.initialized "BootNet"),
  (Jvm.Cond.methodLink "BootNet" (106 : Nat) ({ cls := "BootNet$Wire", name := "repeat", desc := "(I)Z" } : Jvm.MethodName)),
  (Jvm.Cond.instanceMethod ({ cls := "BootNet$Wire", name := "repeat", desc := "(I)Z" } : Jvm.MethodName)),
  (Jvm.Cond.selects "BootNet$Wire" ({ cls := "BootNet$Wire", name := "repeat", desc := "(I)Z" } : Jvm.MethodName) ({ cls := "BootNet$Wire", name := "repeat", desc := "(I)Z" } : Jvm.MethodName)),
  (Jvm.Cond.methodLink "BootNet" (115 : Nat) ({ cls := "BootNet$Station", name := "passTime", desc := "()V" } : Jvm.MethodName)),
  (Jvm.Cond.instanceMethod ({ cls := "BootNet$Station", name := "passTime", desc := "()V" } : Jvm.MethodName)),
  (Jvm.Cond.selects "BootNet$Station" ({ cls := "BootNet$Station", name := "passTime", desc := "()V" } : Jvm.MethodName) ({ cls := "BootNet$Station", name := "passTime", desc := "()V" } : Jvm.MethodName)),
  (Jvm.Cond.methodLink "BootNet" (118 : Nat) ({ cls := "BootNet$Server", name := "repeatDueBlocks", desc := "()V" } : Jvm.MethodName)),
  (Jvm.Cond.instanceMethod ({ cls := "BootNet$Server", name := "repeatDueBlocks", desc := "()V" } : Jvm.MethodName)),
  (Jvm.Cond.selects "BootNet$Server" ({ cls := "BootNet$Server", name := "repeatDueBlocks", desc := "()V" } : Jvm.MethodName) ({ cls := "BootNet$Server", name := "repeatDueBlocks", desc := "()V" } : Jvm.MethodName)),
  (Jvm.Cond.methodLink "BootNet" (124 : Nat) ({ cls := "BootNet$Server", name := "startAnew", desc := "()I" } : Jvm.MethodName)),
  (Jvm.Cond.instanceMethod ({ cls := "BootNet$Server", name := "startAnew", desc := "()I" } : Jvm.MethodName)),
  (Jvm.Cond.selects "BootNet$Server" ({ cls := "BootNet$Server", name := "startAnew", desc := "()I" } : Jvm.MethodName) ({ cls := "BootNet$Server", name := "startAnew", desc := "()I" } : Jvm.MethodName)),
  (Jvm.Cond.methodLink "BootNet" (132 : Nat) ({ cls := "BootNet$Message", name := "tell", desc := "(I)I" } : Jvm.MethodName)),
  (Jvm.Cond.instanceMethod ({ cls := "BootNet$Message", name := "tell", desc := "(I)I" } : Jvm.MethodName)),
  (Jvm.Cond.selects "BootNet$Message" ({ cls := "BootNet$Message", name := "tell", desc := "(I)I" } : Jvm.MethodName) ({ cls := "BootNet$Message", name := "tell", desc := "(I)I" } : Jvm.MethodName)),
  (Jvm.Cond.initialized "BootNet$Message"),
  (Jvm.Cond.methodLink "BootNet" (135 : Nat) ({ cls := "BootNet$Station", name := "tell", desc := "(I)I" } : Jvm.MethodName)),
  (Jvm.Cond.instanceMethod ({ cls := "BootNet$Station", name := "tell", desc := "(I)I" } : Jvm.MethodName)),
  (Jvm.Cond.selects "BootNet$Station" ({ cls := "BootNet$Station", name := "tell", desc := "(I)I" } : Jvm.MethodName) ({ cls := "BootNet$Station", name := "tell", desc := "(I)I" } : Jvm.MethodName)),
  (Jvm.Cond.methodLink "BootNet" (140 : Nat) ({ cls := "BootNet$Loading", name := "byteAt", desc := "(I)I" } : Jvm.MethodName)),
  (Jvm.Cond.instanceMethod ({ cls := "BootNet$Loading", name := "byteAt", desc := "(I)I" } : Jvm.MethodName)),
  (Jvm.Cond.selects "BootNet$Loading" ({ cls := "BootNet$Loading", name := "byteAt", desc := "(I)I" } : Jvm.MethodName) ({ cls := "BootNet$Loading", name := "byteAt", desc := "(I)I" } : Jvm.MethodName)),
  (Jvm.Cond.initialized "BootNet$Loading"),
  (Jvm.Cond.methodLink "BootNet" (145 : Nat) ({ cls := "BootNet$Layout", name := "isAddress", desc := "(I)Z" } : Jvm.MethodName)),
  (Jvm.Cond.static ({ cls := "BootNet$Layout", name := "isAddress", desc := "(I)Z" } : Jvm.MethodName)),
  (Jvm.Cond.methodLink "BootNet" (152 : Nat) ({ cls := "BootNet$AddressBook", name := "tell", desc := "(II)I" } : Jvm.MethodName)),
  (Jvm.Cond.instanceMethod ({ cls := "BootNet$AddressBook", name := "tell", desc := "(II)I" } : Jvm.MethodName)),
  (Jvm.Cond.selects "BootNet$AddressBook" ({ cls := "BootNet$AddressBook", name := "tell", desc := "(II)I" } : Jvm.MethodName) ({ cls := "BootNet$AddressBook", name := "tell", desc := "(II)I" } : Jvm.MethodName)),
  (Jvm.Cond.initialized "BootNet$AddressBook"),
  (Jvm.Cond.methodLink "BootNet" (164 : Nat) ({ cls := "BootNet$Message", name := "goesToServer", desc := "()Z" } : Jvm.MethodName)),
  (Jvm.Cond.instanceMethod ({ cls := "BootNet$Message", name := "goesToServer", desc := "()Z" } : Jvm.MethodName)),
  (Jvm.Cond.selects "BootNet$Message" ({ cls := "BootNet$Message", name := "goesToServer", desc := "()Z" } : Jvm.MethodName) ({ cls := "BootNet$Message", name := "goesToServer", desc := "()Z" } : Jvm.MethodName)),
  (Jvm.Cond.methodLink "BootNet" (174 : Nat) ({ cls := "BootNet$Layout", name := "isBehindRelay", desc := "(I)Z" } : Jvm.MethodName)),
  (Jvm.Cond.instanceMethod ({ cls := "BootNet$Layout", name := "isBehindRelay", desc := "(I)Z" } : Jvm.MethodName)),
  (Jvm.Cond.selects "BootNet$Layout" ({ cls := "BootNet$Layout", name := "isBehindRelay", desc := "(I)Z" } : Jvm.MethodName) ({ cls := "BootNet$Layout", name := "isBehindRelay", desc := "(I)Z" } : Jvm.MethodName)),
  (Jvm.Cond.methodLink "BootNet" (177 : Nat) ({ cls := "BootNet$Wire", name := "postCopy", desc := "(LBootNet$Message;I)V" } : Jvm.MethodName)),
  (Jvm.Cond.instanceMethod ({ cls := "BootNet$Wire", name := "postCopy", desc := "(LBootNet$Message;I)V" } : Jvm.MethodName)),
  (Jvm.Cond.selects "BootNet$Wire" ({ cls := "BootNet$Wire", name := "postCopy", desc := "(LBootNet$Message;I)V" } : Jvm.MethodName) ({ cls := "BootNet$Wire", name := "postCopy", desc := "(LBootNet$Message;I)V" } : Jvm.MethodName)),
  (Jvm.Cond.methodLink "BootNet" (181 : Nat) ({ cls := "BootNet$Server", name := "receive", desc := "(LBootNet$Message;)V" } : Jvm.MethodName)),
  (Jvm.Cond.instanceMethod ({ cls := "BootNet$Server", name := "receive", desc := "(LBootNet$Message;)V" } : Jvm.MethodName)),
  (Jvm.Cond.selects "BootNet$Server" ({ cls := "BootNet$Server", name := "receive", desc := "(LBootNet$Message;)V" } : Jvm.MethodName) ({ cls := "BootNet$Server", name := "receive", desc := "(LBootNet$Message;)V" } : Jvm.MethodName)),
  (Jvm.Cond.methodLink "BootNet" (184 : Nat) ({ cls := "BootNet", name := "answerProbe", desc := "(LBootNet$Message;)V" } : Jvm.MethodName)),
  (Jvm.Cond.instanceMethod ({ cls := "BootNet", name := "answerProbe", desc := "(LBootNet$Message;)V" } : Jvm.MethodName)),
  (Jvm.Cond.selects "BootNet" ⟨"BootNet", "answerProbe", "(LBootNet$Message;)V"⟩ ⟨"BootNet", "answerProbe", "(LBootNet$Message;)V"⟩),
  (Jvm.Cond.methodLink "BootNet" (187 : Nat) ({ cls := "BootNet$Station", name := "receive", desc := "(LBootNet$Message;)V" } : Jvm.MethodName)),
  (Jvm.Cond.instanceMethod ({ cls := "BootNet$Station", name := "receive", desc := "(LBootNet$Message;)V" } : Jvm.MethodName)),
  (Jvm.Cond.selects "BootNet$Station" ({ cls := "BootNet$Station", name := "receive", desc := "(LBootNet$Message;)V" } : Jvm.MethodName) ({ cls := "BootNet$Station", name := "receive", desc := "(LBootNet$Message;)V" } : Jvm.MethodName)),
  (Jvm.Cond.methodLink "BootNet" (191 : Nat) ({ cls := "BootNet$Layout", name := "isTaken", desc := "(I)Z" } : Jvm.MethodName)),
  (Jvm.Cond.instanceMethod ({ cls := "BootNet$Layout", name := "isTaken", desc := "(I)Z" } : Jvm.MethodName)),
  (Jvm.Cond.selects "BootNet$Layout" ({ cls := "BootNet$Layout", name := "isTaken", desc := "(I)Z" } : Jvm.MethodName) ({ cls := "BootNet$Layout", name := "isTaken", desc := "(I)Z" } : Jvm.MethodName)),
  (Jvm.Cond.methodLink "BootNet" (194 : Nat) ({ cls := "BootNet", name := "isHeldByAnother", desc := "(II)Z" } : Jvm.MethodName)),
  (Jvm.Cond.instanceMethod ({ cls := "BootNet", name := "isHeldByAnother", desc := "(II)Z" } : Jvm.MethodName)),
  (Jvm.Cond.selects "BootNet" ⟨"BootNet", "isHeldByAnother", "(II)Z"⟩ ⟨"BootNet", "isHeldByAnother", "(II)Z"⟩),
  (Jvm.Cond.methodLink "BootNet" (197 : Nat) ({ cls := "BootNet$Wire", name := "post", desc := "(IIIIII)LBootNet$Message;" } : Jvm.MethodName)),
  (Jvm.Cond.instanceMethod ({ cls := "BootNet$Wire", name := "post", desc := "(IIIIII)LBootNet$Message;" } : Jvm.MethodName)),
  (Jvm.Cond.selects "BootNet$Wire" ({ cls := "BootNet$Wire", name := "post", desc := "(IIIIII)LBootNet$Message;" } : Jvm.MethodName) ({ cls := "BootNet$Wire", name := "post", desc := "(IIIIII)LBootNet$Message;" } : Jvm.MethodName)),
  (Jvm.Cond.methodLink "BootNet" (201 : Nat) ({ cls := "BootNet$Station", name := "holds", desc := "()Z" } : Jvm.MethodName)),
  (Jvm.Cond.instanceMethod ({ cls := "BootNet$Station", name := "holds", desc := "()Z" } : Jvm.MethodName)),
  (Jvm.Cond.selects "BootNet$Station" ({ cls := "BootNet$Station", name := "holds", desc := "()Z" } : Jvm.MethodName) ({ cls := "BootNet$Station", name := "holds", desc := "()Z" } : Jvm.MethodName)),
  (Jvm.Cond.methodLink "BootNet$AddressBook" (3 : Nat) ({ cls := "java/lang/Object", name := "<init>", desc := "()V" } : Jvm.MethodName)),
  (Jvm.Cond.methodLink "BootNet$AddressBook" (37 : Nat) ({ cls := "java/util/Arrays", name := "fill", desc := "([II)V" } : Jvm.MethodName)),
  (Jvm.Cond.static ({ cls := "java/util/Arrays", name := "fill", desc := "([II)V" } : Jvm.MethodName)),
  (Jvm.Cond.initialized "java/util/Arrays"),
  (Jvm.Cond.methodLink "BootNet$AddressBook" (49 : Nat) ({ cls := "BootNet$AddressBook", name := "lessee", desc := "(I)I" } : Jvm.MethodName)),
  (Jvm.Cond.instanceMethod ({ cls := "BootNet$AddressBook", name := "lessee", desc := "(I)I" } : Jvm.MethodName)),
  (Jvm.Cond.selects "BootNet$AddressBook" ({ cls := "BootNet$AddressBook", name := "lessee", desc := "(I)I" } : Jvm.MethodName) ({ cls := "BootNet$AddressBook", name := "lessee", desc := "(I)I" } : Jvm.MethodName)),
  (Jvm.Cond.methodLink "BootNet$AddressBook" (53 : Nat) ({ cls := "BootNet$AddressBook", name := "offeree", desc := "(I)I" } : Jvm.MethodName)),
  (Jvm.Cond.instanceMethod ({ cls := "BootNet$AddressBook", name := "offeree", desc := "(I)I" } : Jvm.MethodName)),
  (Jvm.Cond.selects "BootNet$AddressBook" ({ cls := "BootNet$AddressBook", name := "offeree", desc := "(I)I" } : Jvm.MethodName) ({ cls := "BootNet$AddressBook", name := "offeree", desc := "(I)I" } : Jvm.MethodName)),
  (Jvm.Cond.methodLink "BootNet$AddressBook" (56 : Nat) ({ cls := "BootNet$AddressBook", name := "isBarred", desc := "(I)Z" } : Jvm.MethodName)),
  (Jvm.Cond.instanceMethod ({ cls := "BootNet$AddressBook", name := "isBarred", desc := "(I)Z" } : Jvm.MethodName)),
  (Jvm.Cond.selects "BootNet$AddressBook" ({ cls := "BootNet$AddressBook", name := "isBarred", desc := "(I)Z" } : Jvm.MethodName) ({ cls := "BootNet$AddressBook", name := "isBarred", desc := "(I)Z" } : Jvm.MethodName)),
  (Jvm.Cond.methodLink "BootNet$AddressBook" (60 : Nat) ({ cls := "BootNet$Layout", name := "isReservedForAnother", desc := "(II)Z" } : Jvm.MethodName)),
  (Jvm.Cond.instanceMethod ({ cls := "BootNet$Layout", name := "isReservedForAnother", desc := "(II)Z" } : Jvm.MethodName)),
  (Jvm.Cond.selects "BootNet$Layout" ({ cls := "BootNet$Layout", name := "isReservedForAnother", desc := "(II)Z" } : Jvm.MethodName) ({ cls := "BootNet$Layout", name := "isReservedForAnother", desc := "(II)Z" } : Jvm.MethodName)),
  (Jvm.Cond.methodLink "BootNet$Ground" (1 : Nat) ({ cls := "java/lang/Object", name := "<init>", desc := "()V" } : Jvm.MethodName)),
  (Jvm.Cond.methodLink "BootNet$Ground" (7 : Nat) ({ cls := "BootNet$Ground", name := "within", desc := "(III)I" } : Jvm.MethodName)),
  (Jvm.Cond.static ({ cls := "BootNet$Ground", name := "within", desc := "(III)I" } : Jvm.MethodName)),
  (Jvm.Cond.methodLink "BootNet$Ground" (25 : Nat) ({ cls := "java/lang/Math", name := "min", desc := "(II)I" } : Jvm.MethodName)),
  (Jvm.Cond.static ({ cls := "java/lang/Math", name := "min", desc := "(II)I" } : Jvm.MethodName)),
  (Jvm.Cond.initialized "java/lang/Math"),
  (Jvm.Cond.methodLink "BootNet$Ground" (31 : Nat) ({ cls := "java/lang/Math", name := "max", desc := "(II)I" } : Jvm.MethodName)),
  (Jvm.Cond.static ({ cls := "java/lang/Math", name := "max", desc := "(II)I" } : Jvm.MethodName)),
  (Jvm.Cond.methodLink "BootNet$Layout" (5 : Nat) ({ cls := "java/lang/Object", name := "<init>", desc := "()V" } : Jvm.MethodName)),
  (Jvm.Cond.methodLink "BootNet$Layout" (28 : Nat) ({ cls := "java/util/Arrays", name := "fill", desc := "([II)V" } : Jvm.MethodName)),
  (Jvm.Cond.methodLink "BootNet$Layout" (38 : Nat) ({ cls := "BootNet$Layout", name := "isSubnet", desc := "(I)Z" } : Jvm.MethodName)),
  (Jvm.Cond.static ({ cls := "BootNet$Layout", name := "isSubnet", desc := "(I)Z" } : Jvm.MethodName)),
  (Jvm.Cond.methodLink "BootNet$Layout" (42 : Nat) ({ cls := "BootNet$Layout", name := "hasStation", desc := "(I)Z" } : Jvm.MethodName)),
  (Jvm.Cond.methodLink "BootNet$Layout" (45 : Nat) ({ cls := "BootNet$Layout", name := "isReservedForAnother", desc := "(II)Z" } : Jvm.MethodName)),
  (Jvm.Cond.methodLink "BootNet$Layout" (49 : Nat) ({ cls := "BootNet$Layout", name := "reservedAddress", desc := "(I)I" } : Jvm.MethodName)),
  (Jvm.Cond.instanceMethod ({ cls := "BootNet$Layout", name := "reservedAddress", desc := "(I)I" } : Jvm.MethodName)),
  (Jvm.Cond.selects "BootNet$Layout" ({ cls := "BootNet$Layout", name := "reservedAddress", desc := "(I)I" } : Jvm.MethodName) ({ cls := "BootNet$Layout", name := "reservedAddress", desc := "(I)I" } : Jvm.MethodName)),
  (Jvm.Cond.methodLink "BootNet$Layout" (53 : Nat) ({ cls := "BootNet$Layout", name := "isAddress", desc := "(I)Z" } : Jvm.MethodName)),
  (Jvm.Cond.methodLink "BootNet$Library" (1 : Nat) ({ cls := "java/lang/Object", name := "<init>", desc := "()V" } : Jvm.MethodName)),
  (Jvm.Cond.methodLink "BootNet$Library" (28 : Nat) ({ cls := "BootNet$Library", name := "isFile", desc := "(I)Z" } : Jvm.MethodName)),
  (Jvm.Cond.static ({ cls := "BootNet$Library", name := "isFile", desc := "(I)Z" } : Jvm.MethodName)),
  (Jvm.Cond.methodLink "BootNet$Library" (32 : Nat) ({ cls := "BootNet$Library", name := "checkOfRow", desc := "([III)I" } : Jvm.MethodName)),
  (Jvm.Cond.static ({ cls := "BootNet$Library", name := "checkOfRow", desc := "([III)I" } : Jvm.MethodName)),
  (Jvm.Cond.methodLink "BootNet$Library" (36 : Nat) ({ cls := "java/lang/Math", name := "min", desc := "(II)I" } : Jvm.MethodName)),
  (Jvm.Cond.methodLink "BootNet$Library" (42 : Nat) ({ cls := "BootNet$Message", name := "copyBytes", desc := "([III)V" } : Jvm.MethodName)),
  (Jvm.Cond.instanceMethod ({ cls := "BootNet$Message", name := "copyBytes", desc := "([III)V" } : Jvm.MethodName)),
  (Jvm.Cond.selects "BootNet$Message" ({ cls := "BootNet$Message", name := "copyBytes", desc := "([III)V" } : Jvm.MethodName) ({ cls := "BootNet$Message", name := "copyBytes", desc := "([III)V" } : Jvm.MethodName)),
  (Jvm.Cond.methodLink "BootNet$Loading" (7 : Nat) ({ cls := "java/lang/Object", name := "<init>", desc := "()V" } : Jvm.MethodName)),
  (Jvm.Cond.methodLink "BootNet$Loading" (50 : Nat) ({ cls := "BootNet$Library", name := "bytesBefore", desc := "(I)I" } : Jvm.MethodName)),
  (Jvm.Cond.instanceMethod ({ cls := "BootNet$Library", name := "bytesBefore", desc := "(I)I" } : Jvm.MethodName)),
  (Jvm.Cond.selects "BootNet$Library" ({ cls := "BootNet$Library", name := "bytesBefore", desc := "(I)I" } : Jvm.MethodName) ({ cls := "BootNet$Library", name := "bytesBefore", desc := "(I)I" } : Jvm.MethodName)),
  (Jvm.Cond.methodLink "BootNet$Loading" (57 : Nat) ({ cls := "BootNet$Loading", name := "sendRead", desc := "()V" } : Jvm.MethodName)),
  (Jvm.Cond.instanceMethod ({ cls := "BootNet$Loading", name := "sendRead", desc := "()V" } : Jvm.MethodName)),
  (Jvm.Cond.selects "BootNet$Loading" ⟨"BootNet$Loading", "sendRead", "()V"⟩ ⟨"BootNet$Loading", "sendRead", "()V"⟩),
  (Jvm.Cond.methodLink "BootNet$Loading" (60 : Nat) ({ cls := "BootNet$Loading", name := "waitAnew", desc := "()V" } : Jvm.MethodName)),
  (Jvm.Cond.instanceMethod ({ cls := "BootNet$Loading", name := "waitAnew", desc := "()V" } : Jvm.MethodName)),
  (Jvm.Cond.selects "BootNet$Loading" ⟨"BootNet$Loading", "waitAnew", "()V"⟩ ⟨"BootNet$Loading", "waitAnew", "()V"⟩),
  (Jvm.Cond.methodLink "BootNet$Loading" (70 : Nat) ({ cls := "BootNet$Loading", name := "addBytes", desc := "(LBootNet$Message;)V" } : Jvm.MethodName)),
  (Jvm.Cond.instanceMethod ({ cls := "BootNet$Loading", name := "addBytes", desc := "(LBootNet$Message;)V" } : Jvm.MethodName)),
  (Jvm.Cond.selects "BootNet$Loading" ⟨"BootNet$Loading", "addBytes", "(LBootNet$Message;)V"⟩ ⟨"BootNet$Loading", "addBytes", "(LBootNet$Message;)V"⟩),
  (Jvm.Cond.methodLink "BootNet$Loading" (74 : Nat) ({ cls := "BootNet$Wire", name := "post", desc := "(IIIIII)LBootNet$Message;" } : Jvm.MethodName)),
  (Jvm.Cond.methodLink "BootNet$Loading" (86 : Nat) ({ cls := "BootNet$Loading", name := "bytesOfEntry", desc := "()I" } : Jvm.MethodName)),
  (Jvm.Cond.instanceMethod ({ cls := "BootNet$Loading", name := "bytesOfEntry", desc := "()I" } : Jvm.MethodName)),
  (Jvm.Cond.selects "BootNet$Loading" ({ cls := "BootNet$Loading", name := "bytesOfEntry", desc := "()I" } : Jvm.MethodName) ({ cls := "BootNet$Loading", name := "bytesOfEntry", desc := "()I" } : Jvm.MethodName)),
  (Jvm.Cond.methodLink "BootNet$Loading" (90 : Nat) ({ cls := "BootNet$Loading", name := "resultOfEntry", desc := "()I" } : Jvm.MethodName)),
  (Jvm.Cond.instanceMethod ({ cls := "BootNet$Loading", name := "resultOfEntry", desc := "()I" } : Jvm.MethodName)),
  (Jvm.Cond.selects "BootNet$Loading" ⟨"BootNet$Loading", "resultOfEntry", "()I"⟩ ⟨"BootNet$Loading", "resultOfEntry", "()I"⟩),
  (Jvm.Cond.methodLink "BootNet$Loading" (93 : Nat) ({ cls := "BootNet$Loading", name := "begin", desc := "(I)V" } : Jvm.MethodName)),
  (Jvm.Cond.instanceMethod ({ cls := "BootNet$Loading", name := "begin", desc := "(I)V" } : Jvm.MethodName)),
  (Jvm.Cond.selects "BootNet$Loading" ({ cls := "BootNet$Loading", name := "begin", desc := "(I)V" } : Jvm.MethodName) ({ cls := "BootNet$Loading", name := "begin", desc := "(I)V" } : Jvm.MethodName)),
  (Jvm.Cond.methodLink "BootNet$Loading" (112 : Nat) ({ cls := "BootNet$Library", name := "checkOfRow", desc := "([III)I" } : Jvm.MethodName)),
  (Jvm.Cond.methodLink "BootNet$Message" (3 : Nat) ({ cls := "java/lang/Object", name := "<init>", desc := "()V" } : Jvm.MethodName)),
  (Jvm.Cond.methodLink "BootNet$Message" (15 : Nat) ({ cls := "java/lang/System", name := "arraycopy", desc := "(Ljava/lang/Object;ILjava/lang/Object;II)V" } : Jvm.MethodName)),
  (Jvm.Cond.native ({ cls := "java/lang/System", name := "arraycopy", desc := "(Ljava/lang/Object;ILjava/lang/Object;II)V" } : Jvm.MethodName)),
  (Jvm.Cond.static ({ cls := "java/lang/System", name := "arraycopy", desc := "(Ljava/lang/Object;ILjava/lang/Object;II)V" } : Jvm.MethodName)),
  (Jvm.Cond.initialized "java/lang/System"),
  (Jvm.Cond.methodLink "BootNet$Records" (1 : Nat) ({ cls := "java/lang/Object", name := "<init>", desc := "()V" } : Jvm.MethodName)),
  (Jvm.Cond.methodLink "BootNet$Records" (23 : Nat) ({ cls := "BootNet$Records", name := "dropStale", desc := "(I)V" } : Jvm.MethodName)),
  (Jvm.Cond.instanceMethod ({ cls := "BootNet$Records", name := "dropStale", desc := "(I)V" } : Jvm.MethodName)),
  (Jvm.Cond.selects "BootNet$Records" ⟨"BootNet$Records", "dropStale", "(I)V"⟩ ⟨"BootNet$Records", "dropStale", "(I)V"⟩),
  (Jvm.Cond.initialized "BootNet$Records"),
  (Jvm.Cond.methodLink "BootNet$Records" (27 : Nat) ({ cls := "BootNet$Records", name := "isLatestOfAddress", desc := "(I)Z" } : Jvm.MethodName)),
  (Jvm.Cond.instanceMethod ({ cls := "BootNet$Records", name := "isLatestOfAddress", desc := "(I)Z" } : Jvm.MethodName)),
  (Jvm.Cond.selects "BootNet$Records" ⟨"BootNet$Records", "isLatestOfAddress", "(I)Z"⟩ ⟨"BootNet$Records", "isLatestOfAddress", "(I)Z"⟩),
  (Jvm.Cond.methodLink "BootNet$Server" (3 : Nat) ({ cls := "java/lang/Object", name := "<init>", desc := "()V" } : Jvm.MethodName)),
  (Jvm.Cond.instanceMethod ({ cls := "BootNet$Records", name := "<init>", desc := "()V" } : Jvm.MethodName)),
  (Jvm.Cond.instanceMethod ({ cls := "BootNet$AddressBook", name := "<init>", desc := "(LBootNet$Ground;LBootNet$Layout;)V" } : Jvm.MethodName)),
  (Jvm.Cond.methodLink "BootNet$Server" (44 : Nat) ({ cls := "BootNet$AddressBook", name := "<init>", desc := "(LBootNet$Ground;LBootNet$Layout;)V" } : Jvm.MethodName)),
  (Jvm.Cond.instanceMethod ({ cls := "BootNet$Transfer", name := "<init>", desc := "()V" } : Jvm.MethodName)),
  (Jvm.Cond.initialized "BootNet$Transfer"),
  (Jvm.Cond.methodLink "BootNet$Server" (58 : Nat) ({ cls := "BootNet$Server", name := "onDiscover", desc := "(LBootNet$Message;)V" } : Jvm.MethodName)),
  (Jvm.Cond.instanceMethod ({ cls := "BootNet$Server", name := "onDiscover", desc := "(LBootNet$Message;)V" } : Jvm.MethodName)),
  (Jvm.Cond.selects "BootNet$Server" ⟨"BootNet$Server", "onDiscover", "(LBootNet$Message;)V"⟩ ⟨"BootNet$Server", "onDiscover", "(LBootNet$Message;)V"⟩),
  (Jvm.Cond.methodLink "BootNet$Server" (62 : Nat) ({ cls := "BootNet$Server", name := "onRequest", desc := "(LBootNet$Message;)V" } : Jvm.MethodName)),
  (Jvm.Cond.instanceMethod ({ cls := "BootNet$Server", name := "onRequest", desc := "(LBootNet$Message;)V" } : Jvm.MethodName)),
  (Jvm.Cond.selects "BootNet$Server" ⟨"BootNet$Server", "onRequest", "(LBootNet$Message;)V"⟩ ⟨"BootNet$Server", "onRequest", "(LBootNet$Message;)V"⟩),
  (Jvm.Cond.methodLink "BootNet$Server" (65 : Nat) ({ cls := "BootNet$Server", name := "onDecline", desc := "(LBootNet$Message;)V" } : Jvm.MethodName)),
  (Jvm.Cond.instanceMethod ({ cls := "BootNet$Server", name := "onDecline", desc := "(LBootNet$Message;)V" } : Jvm.MethodName)),
  (Jvm.Cond.selects "BootNet$Server" ⟨"BootNet$Server", "onDecline", "(LBootNet$Message;)V"⟩ ⟨"BootNet$Server", "onDecline", "(LBootNet$Message;)V"⟩),
  (Jvm.Cond.methodLink "BootNet$Server" (68 : Nat) ({ cls := "BootNet$Server", name := "onRead", desc := "(LBootNet$Message;)V" } : Jvm.MethodName)),
  (Jvm.Cond.instanceMethod ({ cls := "BootNet$Server", name := "onRead", desc := "(LBootNet$Message;)V" } : Jvm.MethodName)),
  (Jvm.Cond.selects "BootNet$Server" ⟨"BootNet$Server", "onRead", "(LBootNet$Message;)V"⟩ ⟨"BootNet$Server", "onRead", "(LBootNet$Message;)V"⟩),
  (Jvm.Cond.methodLink "BootNet$Server" (71 : Nat) ({ cls := "BootNet$Server", name := "onGot", desc := "(LBootNet$Message;)V" } : Jvm.MethodName)),
  (Jvm.Cond.instanceMethod ({ cls := "BootNet$Server", name := "onGot", desc := "(LBootNet$Message;)V" } : Jvm.MethodName)),
  (Jvm.Cond.selects "BootNet$Server" ⟨"BootNet$Server", "onGot", "(LBootNet$Message;)V"⟩ ⟨"BootNet$Server", "onGot", "(LBootNet$Message;)V"⟩),
  (Jvm.Cond.methodLink "BootNet$Server" (74 : Nat) ({ cls := "BootNet$AddressBook", name := "forgetAll", desc := "()V" } : Jvm.MethodName)),
  (Jvm.Cond.instanceMethod ({ cls := "BootNet$AddressBook", name := "forgetAll", desc := "()V" } : Jvm.MethodName)),
  (Jvm.Cond.selects "BootNet$AddressBook" ({ cls := "BootNet$AddressBook", name := "forgetAll", desc := "()V" } : Jvm.MethodName) ({ cls := "BootNet$AddressBook", name := "forgetAll", desc := "()V" } : Jvm.MethodName)),
  (Jvm.Cond.methodLink "BootNet$Server" (94 : Nat) ({ cls := "BootNet$AddressBook", name := "leaseTo", desc := "(III)V" } : Jvm.MethodName)),
  (Jvm.Cond.instanceMethod ({ cls := "BootNet$AddressBook", name := "leaseTo", desc := "(III)V" } : Jvm.MethodName)),
  (Jvm.Cond.selects "BootNet$AddressBook" ({ cls := "BootNet$AddressBook", name := "leaseTo", desc := "(III)V" } : Jvm.MethodName) ({ cls := "BootNet$AddressBook", name := "leaseTo", desc := "(III)V" } : Jvm.MethodName)),
  (Jvm.Cond.methodLink "BootNet$Server" (115 : Nat) ({ cls := "BootNet$Server", name := "sendBlock", desc := "(ILBootNet$Transfer;)V" } : Jvm.MethodName)),
  (Jvm.Cond.instanceMethod ({ cls := "BootNet$Server", name := "sendBlock", desc := "(ILBootNet$Transfer;)V" } : Jvm.MethodName)),
  (Jvm.Cond.selects "BootNet$Server" ⟨"BootNet$Server", "sendBlock", "(ILBootNet$Transfer;)V"⟩ ⟨"BootNet$Server", "sendBlock", "(ILBootNet$Transfer;)V"⟩),
  (Jvm.Cond.methodLink "BootNet$Server" (122 : Nat) ({ cls := "BootNet$Server", name := "leasedChoice", desc := "(I)I" } : Jvm.MethodName)),
  (Jvm.Cond.instanceMethod ({ cls := "BootNet$Server", name := "leasedChoice", desc := "(I)I" } : Jvm.MethodName)),
  (Jvm.Cond.selects "BootNet$Server" ⟨"BootNet$Server", "leasedChoice", "(I)I"⟩ ⟨"BootNet$Server", "leasedChoice", "(I)I"⟩),
  (Jvm.Cond.methodLink "BootNet$Server" (126 : Nat) ({ cls := "BootNet$Server", name := "reservedChoice", desc := "(I)I" } : Jvm.MethodName)),
  (Jvm.Cond.instanceMethod ({ cls := "BootNet$Server", name := "reservedChoice", desc := "(I)I" } : Jvm.MethodName)),
  (Jvm.Cond.selects "BootNet$Server" ⟨"BootNet$Server", "reservedChoice", "(I)I"⟩ ⟨"BootNet$Server", "reservedChoice", "(I)I"⟩),
  (Jvm.Cond.methodLink "BootNet$Server" (129 : Nat) ({ cls := "BootNet$Server", name := "poolChoice", desc := "(I)I" } : Jvm.MethodName)),
  (Jvm.Cond.instanceMethod ({ cls := "BootNet$Server", name := "poolChoice", desc := "(I)I" } : Jvm.MethodName)),
  (Jvm.Cond.selects "BootNet$Server" ⟨"BootNet$Server", "poolChoice", "(I)I"⟩ ⟨"BootNet$Server", "poolChoice", "(I)I"⟩),
  (Jvm.Cond.methodLink "BootNet$Server" (132 : Nat) ({ cls := "BootNet$AddressBook", name := "offerOnly", desc := "(III)V" } : Jvm.MethodName)),
  (Jvm.Cond.instanceMethod ({ cls := "BootNet$AddressBook", name := "offerOnly", desc := "(III)V" } : Jvm.MethodName)),
  (Jvm.Cond.selects "BootNet$AddressBook" ({ cls := "BootNet$AddressBook", name := "offerOnly", desc := "(III)V" } : Jvm.MethodName) ({ cls := "BootNet$AddressBook", name := "offerOnly", desc := "(III)V" } : Jvm.MethodName)),
  (Jvm.Cond.methodLink "BootNet$Server" (138 : Nat) ({ cls := "BootNet$Server", name := "send", desc := "(IIIII)LBootNet$Message;" } : Jvm.MethodName)),
  (Jvm.Cond.instanceMethod ({ cls := "BootNet$Server", name := "send", desc := "(IIIII)LBootNet$Message;" } : Jvm.MethodName)),
  (Jvm.Cond.selects "BootNet$Server" ⟨"BootNet$Server", "send", "(IIIII)LBootNet$Message;"⟩ ⟨"BootNet$Server", "send", "(IIIII)LBootNet$Message;"⟩),
  (Jvm.Cond.methodLink "BootNet$Server" (142 : Nat) ({ cls := "BootNet$AddressBook", name := "lessee", desc := "(I)I" } : Jvm.MethodName)),
  (Jvm.Cond.methodLink "BootNet$Server" (145 : Nat) ({ cls := "BootNet$AddressBook", name := "isFree", desc := "(II)Z" } : Jvm.MethodName)),
  (Jvm.Cond.instanceMethod ({ cls := "BootNet$AddressBook", name := "isFree", desc := "(II)Z" } : Jvm.MethodName)),
  (Jvm.Cond.selects "BootNet$AddressBook" ({ cls := "BootNet$AddressBook", name := "isFree", desc := "(II)Z" } : Jvm.MethodName) ({ cls := "BootNet$AddressBook", name := "isFree", desc := "(II)Z" } : Jvm.MethodName)),
  (Jvm.Cond.methodLink "BootNet$Server" (149 : Nat) ({ cls := "BootNet$Layout", name := "reservedAddress", desc := "(I)I" } : Jvm.MethodName)),
  (Jvm.Cond.methodLink "BootNet$Server" (152 : Nat) ({ cls := "BootNet$Layout", name := "hasPool", desc := "(I)Z" } : Jvm.MethodName)),
  (Jvm.Cond.instanceMethod ({ cls := "BootNet$Layout", name := "hasPool", desc := "(I)Z" } : Jvm.MethodName)),
  (Jvm.Cond.selects "BootNet$Layout" ({ cls := "BootNet$Layout", name := "hasPool", desc := "(I)Z" } : Jvm.MethodName) ({ cls := "BootNet$Layout", name := "hasPool", desc := "(I)Z" } : Jvm.MethodName)),
  (Jvm.Cond.methodLink "BootNet$Server" (156 : Nat) ({ cls := "BootNet$Layout", name := "lastOfPool", desc := "(I)I" } : Jvm.MethodName)),
  (Jvm.Cond.instanceMethod ({ cls := "BootNet$Layout", name := "lastOfPool", desc := "(I)I" } : Jvm.MethodName)),
  (Jvm.Cond.selects "BootNet$Layout" ({ cls := "BootNet$Layout", name := "lastOfPool", desc := "(I)I" } : Jvm.MethodName) ({ cls := "BootNet$Layout", name := "lastOfPool", desc := "(I)I" } : Jvm.MethodName)),
  (Jvm.Cond.methodLink "BootNet$Server" (159 : Nat) ({ cls := "BootNet$Layout", name := "firstOfPool", desc := "(I)I" } : Jvm.MethodName)),
  (Jvm.Cond.instanceMethod ({ cls := "BootNet$Layout", name := "firstOfPool", desc := "(I)I" } : Jvm.MethodName)),
  (Jvm.Cond.selects "BootNet$Layout" ({ cls := "BootNet$Layout", name := "firstOfPool", desc := "(I)I" } : Jvm.MethodName) ({ cls := "BootNet$Layout", name := "firstOfPool", desc := "(I)I" } : Jvm.MethodName)),
  (Jvm.Cond.methodLink "BootNet$Server" (165 : Nat) ({ cls := "BootNet$Server", name := "mayHave", desc := "(II)Z" } : Jvm.MethodName)),
  (Jvm.Cond.instanceMethod ({ cls := "BootNet$Server", name := "mayHave", desc := "(II)Z" } : Jvm.MethodName)),
  (Jvm.Cond.selects "BootNet$Server" ⟨"BootNet$Server", "mayHave", "(II)Z"⟩ ⟨"BootNet$Server", "mayHave", "(II)Z"⟩),
  (Jvm.Cond.methodLink "BootNet$Server" (168 : Nat) ({ cls := "BootNet$Server", name := "recordLease", desc := "(II)Z" } : Jvm.MethodName)),
  (Jvm.Cond.instanceMethod ({ cls := "BootNet$Server", name := "recordLease", desc := "(II)Z" } : Jvm.MethodName)),
  (Jvm.Cond.selects "BootNet$Server" ⟨"BootNet$Server", "recordLease", "(II)Z"⟩ ⟨"BootNet$Server", "recordLease", "(II)Z"⟩),
  (Jvm.Cond.methodLink "BootNet$Server" (171 : Nat) ({ cls := "BootNet$AddressBook", name := "endOffer", desc := "(I)V" } : Jvm.MethodName)),
  (Jvm.Cond.instanceMethod ({ cls := "BootNet$AddressBook", name := "endOffer", desc := "(I)V" } : Jvm.MethodName)),
  (Jvm.Cond.selects "BootNet$AddressBook" ({ cls := "BootNet$AddressBook", name := "endOffer", desc := "(I)V" } : Jvm.MethodName) ({ cls := "BootNet$AddressBook", name := "endOffer", desc := "(I)V" } : Jvm.MethodName)),
  (Jvm.Cond.methodLink "BootNet$Server" (175 : Nat) ({ cls := "BootNet$Layout", name := "isAddress", desc := "(I)Z" } : Jvm.MethodName)),
  (Jvm.Cond.methodLink "BootNet$Server" (178 : Nat) ({ cls := "BootNet$AddressBook", name := "isBarred", desc := "(I)Z" } : Jvm.MethodName)),
  (Jvm.Cond.methodLink "BootNet$Server" (181 : Nat) ({ cls := "BootNet$AddressBook", name := "offeree", desc := "(I)I" } : Jvm.MethodName)),
  (Jvm.Cond.methodLink "BootNet$Server" (187 : Nat) ({ cls := "BootNet$Records", name := "add", desc := "(IIII)Z" } : Jvm.MethodName)),
  (Jvm.Cond.instanceMethod ({ cls := "BootNet$Records", name := "add", desc := "(IIII)Z" } : Jvm.MethodName)),
  (Jvm.Cond.selects "BootNet$Records" ({ cls := "BootNet$Records", name := "add", desc := "(IIII)Z" } : Jvm.MethodName) ({ cls := "BootNet$Records", name := "add", desc := "(IIII)Z" } : Jvm.MethodName)),
  (Jvm.Cond.methodLink "BootNet$Server" (191 : Nat) ({ cls := "BootNet$AddressBook", name := "bar", desc := "(II)V" } : Jvm.MethodName)),
  (Jvm.Cond.instanceMethod ({ cls := "BootNet$AddressBook", name := "bar", desc := "(II)V" } : Jvm.MethodName)),
  (Jvm.Cond.selects "BootNet$AddressBook" ({ cls := "BootNet$AddressBook", name := "bar", desc := "(II)V" } : Jvm.MethodName) ({ cls := "BootNet$AddressBook", name := "bar", desc := "(II)V" } : Jvm.MethodName)),
  (Jvm.Cond.methodLink "BootNet$Server" (195 : Nat) ({ cls := "BootNet$Library", name := "has", desc := "(I)Z" } : Jvm.MethodName)),
  (Jvm.Cond.instanceMethod ({ cls := "BootNet$Library", name := "has", desc := "(I)Z" } : Jvm.MethodName)),
  (Jvm.Cond.selects "BootNet$Library" ({ cls := "BootNet$Library", name := "has", desc := "(I)Z" } : Jvm.MethodName) ({ cls := "BootNet$Library", name := "has", desc := "(I)Z" } : Jvm.MethodName)),
  (Jvm.Cond.methodLink "BootNet$Server" (213 : Nat) ({ cls := "BootNet$Library", name := "copyBlock", desc := "(IIILBootNet$Message;)V" } : Jvm.MethodName)),
  (Jvm.Cond.instanceMethod ({ cls := "BootNet$Library", name := "copyBlock", desc := "(IIILBootNet$Message;)V" } : Jvm.MethodName)),
  (Jvm.Cond.selects "BootNet$Library" ({ cls := "BootNet$Library", name := "copyBlock", desc := "(IIILBootNet$Message;)V" } : Jvm.MethodName) ({ cls := "BootNet$Library", name := "copyBlock", desc := "(IIILBootNet$Message;)V" } : Jvm.MethodName)),
  (Jvm.Cond.methodLink "BootNet$Server" (220 : Nat) ({ cls := "BootNet$Layout", name := "isBehindRelay", desc := "(I)Z" } : Jvm.MethodName)),
  (Jvm.Cond.methodLink "BootNet$Server" (223 : Nat) ({ cls := "BootNet$Wire", name := "post", desc := "(IIIIII)LBootNet$Message;" } : Jvm.MethodName)),
  (Jvm.Cond.methodLink "BootNet$Station" (3 : Nat) ({ cls := "java/lang/Object", name := "<init>", desc := "()V" } : Jvm.MethodName)),
  (Jvm.Cond.instanceMethod ({ cls := "BootNet$Loading", name := "<init>", desc := "(ILBootNet$Ground;LBootNet$Wire;LBootNet$Library;)V" } : Jvm.MethodName)),
  (Jvm.Cond.methodLink "BootNet$Station" (33 : Nat) ({ cls := "BootNet$Loading", name := "<init>", desc := "(ILBootNet$Ground;LBootNet$Wire;LBootNet$Library;)V" } : Jvm.MethodName)),
  (Jvm.Cond.methodLink "BootNet$Station" (46 : Nat) ({ cls := "BootNet$Loading", name := "forgetAll", desc := "()V" } : Jvm.MethodName)),
  (Jvm.Cond.instanceMethod ({ cls := "BootNet$Loading", name := "forgetAll", desc := "()V" } : Jvm.MethodName)),
  (Jvm.Cond.selects "BootNet$Loading" ({ cls := "BootNet$Loading", name := "forgetAll", desc := "()V" } : Jvm.MethodName) ({ cls := "BootNet$Loading", name := "forgetAll", desc := "()V" } : Jvm.MethodName)),
  (Jvm.Cond.methodLink "BootNet$Station" (49 : Nat) ({ cls := "BootNet$Station", name := "select", desc := "()V" } : Jvm.MethodName)),
  (Jvm.Cond.instanceMethod ({ cls := "BootNet$Station", name := "select", desc := "()V" } : Jvm.MethodName)),
  (Jvm.Cond.selects "BootNet$Station" ⟨"BootNet$Station", "select", "()V"⟩ ⟨"BootNet$Station", "select", "()V"⟩),
  (Jvm.Cond.methodLink "BootNet$Station" (57 : Nat) ({ cls := "BootNet$Station", name := "onOffer", desc := "(LBootNet$Message;)V" } : Jvm.MethodName)),
  (Jvm.Cond.instanceMethod ({ cls := "BootNet$Station", name := "onOffer", desc := "(LBootNet$Message;)V" } : Jvm.MethodName)),
  (Jvm.Cond.selects "BootNet$Station" ⟨"BootNet$Station", "onOffer", "(LBootNet$Message;)V"⟩ ⟨"BootNet$Station", "onOffer", "(LBootNet$Message;)V"⟩),
  (Jvm.Cond.methodLink "BootNet$Station" (61 : Nat) ({ cls := "BootNet$Station", name := "onAck", desc := "(LBootNet$Message;)V" } : Jvm.MethodName)),
  (Jvm.Cond.instanceMethod ({ cls := "BootNet$Station", name := "onAck", desc := "(LBootNet$Message;)V" } : Jvm.MethodName)),
  (Jvm.Cond.selects "BootNet$Station" ⟨"BootNet$Station", "onAck", "(LBootNet$Message;)V"⟩ ⟨"BootNet$Station", "onAck", "(LBootNet$Message;)V"⟩),
  (Jvm.Cond.methodLink "BootNet$Station" (64 : Nat) ({ cls := "BootNet$Station", name := "onNak", desc := "(LBootNet$Message;)V" } : Jvm.MethodName)),
  (Jvm.Cond.instanceMethod ({ cls := "BootNet$Station", name := "onNak", desc := "(LBootNet$Message;)V" } : Jvm.MethodName)),
  (Jvm.Cond.selects "BootNet$Station" ⟨"BootNet$Station", "onNak", "(LBootNet$Message;)V"⟩ ⟨"BootNet$Station", "onNak", "(LBootNet$Message;)V"⟩),
  (Jvm.Cond.methodLink "BootNet$Station" (67 : Nat) ({ cls := "BootNet$Station", name := "onHere", desc := "(LBootNet$Message;)V" } : Jvm.MethodName)),
  (Jvm.Cond.instanceMethod ({ cls := "BootNet$Station", name := "onHere", desc := "(LBootNet$Message;)V" } : Jvm.MethodName)),
  (Jvm.Cond.selects "BootNet$Station" ⟨"BootNet$Station", "onHere", "(LBootNet$Message;)V"⟩ ⟨"BootNet$Station", "onHere", "(LBootNet$Message;)V"⟩),
  (Jvm.Cond.methodLink "BootNet$Station" (70 : Nat) ({ cls := "BootNet$Station", name := "holds", desc := "()Z" } : Jvm.MethodName)),
  (Jvm.Cond.methodLink "BootNet$Station" (74 : Nat) ({ cls := "BootNet$Loading", name := "onData", desc := "(LBootNet$Message;)V" } : Jvm.MethodName)),
  (Jvm.Cond.instanceMethod ({ cls := "BootNet$Loading", name := "onData", desc := "(LBootNet$Message;)V" } : Jvm.MethodName)),
  (Jvm.Cond.selects "BootNet$Loading" ({ cls := "BootNet$Loading", name := "onData", desc := "(LBootNet$Message;)V" } : Jvm.MethodName) ({ cls := "BootNet$Loading", name := "onData", desc := "(LBootNet$Message;)V" } : Jvm.MethodName)),
  (Jvm.Cond.methodLink "BootNet$Station" (77 : Nat) ({ cls := "BootNet$Loading", name := "onError", desc := "(LBootNet$Message;)V" } : Jvm.MethodName)),
  (Jvm.Cond.instanceMethod ({ cls := "BootNet$Loading", name := "onError", desc := "(LBootNet$Message;)V" } : Jvm.MethodName)),
  (Jvm.Cond.selects "BootNet$Loading" ({ cls := "BootNet$Loading", name := "onError", desc := "(LBootNet$Message;)V" } : Jvm.MethodName) ({ cls := "BootNet$Loading", name := "onError", desc := "(LBootNet$Message;)V" } : Jvm.MethodName)),
  (Jvm.Cond.methodLink "BootNet$Station" (88 : Nat) ({ cls := "BootNet$Station", name := "tryAgain", desc := "()V" } : Jvm.MethodName)),
  (Jvm.Cond.instanceMethod ({ cls := "BootNet$Station", name := "tryAgain", desc := "()V" } : Jvm.MethodName)),
  (Jvm.Cond.selects "BootNet$Station" ⟨"BootNet$Station", "tryAgain", "()V"⟩ ⟨"BootNet$Station", "tryAgain", "()V"⟩),
  (Jvm.Cond.methodLink "BootNet$Station" (91 : Nat) ({ cls := "BootNet$Station", name := "endProbe", desc := "()V" } : Jvm.MethodName)),
  (Jvm.Cond.instanceMethod ({ cls := "BootNet$Station", name := "endProbe", desc := "()V" } : Jvm.MethodName)),
  (Jvm.Cond.selects "BootNet$Station" ⟨"BootNet$Station", "endProbe", "()V"⟩ ⟨"BootNet$Station", "endProbe", "()V"⟩),
  (Jvm.Cond.methodLink "BootNet$Station" (100 : Nat) ({ cls := "BootNet$Station", name := "ask", desc := "()V" } : Jvm.MethodName)),
  (Jvm.Cond.instanceMethod ({ cls := "BootNet$Station", name := "ask", desc := "()V" } : Jvm.MethodName)),
  (Jvm.Cond.selects "BootNet$Station" ⟨"BootNet$Station", "ask", "()V"⟩ ⟨"BootNet$Station", "ask", "()V"⟩),
  (Jvm.Cond.methodLink "BootNet$Station" (103 : Nat) ({ cls := "BootNet$Station", name := "isTimeToRebind", desc := "()Z" } : Jvm.MethodName)),
  (Jvm.Cond.instanceMethod ({ cls := "BootNet$Station", name := "isTimeToRebind", desc := "()Z" } : Jvm.MethodName)),
  (Jvm.Cond.selects "BootNet$Station" ⟨"BootNet$Station", "isTimeToRebind", "()Z"⟩ ⟨"BootNet$Station", "isTimeToRebind", "()Z"⟩),
  (Jvm.Cond.methodLink "BootNet$Station" (106 : Nat) ({ cls := "BootNet$Loading", name := "isLate", desc := "()Z" } : Jvm.MethodName)),
  (Jvm.Cond.instanceMethod ({ cls := "BootNet$Loading", name := "isLate", desc := "()Z" } : Jvm.MethodName)),
  (Jvm.Cond.selects "BootNet$Loading" ({ cls := "BootNet$Loading", name := "isLate", desc := "()Z" } : Jvm.MethodName) ({ cls := "BootNet$Loading", name := "isLate", desc := "()Z" } : Jvm.MethodName)),
  (Jvm.Cond.methodLink "BootNet$Station" (109 : Nat) ({ cls := "BootNet$Loading", name := "tryAgain", desc := "()V" } : Jvm.MethodName)),
  (Jvm.Cond.instanceMethod ({ cls := "BootNet$Loading", name := "tryAgain", desc := "()V" } : Jvm.MethodName)),
  (Jvm.Cond.selects "BootNet$Loading" ({ cls := "BootNet$Loading", name := "tryAgain", desc := "()V" } : Jvm.MethodName) ({ cls := "BootNet$Loading", name := "tryAgain", desc := "()V" } : Jvm.MethodName)),
  (Jvm.Cond.methodLink "BootNet$Station" (119 : Nat) ({ cls := "BootNet$Loading", name := "bytesOfEntry", desc := "()I" } : Jvm.MethodName)),
  (Jvm.Cond.methodLink "BootNet$Station" (123 : Nat) ({ cls := "BootNet$Ground", name := "newNumber", desc := "()I" } : Jvm.MethodName)),
  (Jvm.Cond.instanceMethod ({ cls := "BootNet$Ground", name := "newNumber", desc := "()I" } : Jvm.MethodName)),
  (Jvm.Cond.selects "BootNet$Ground" ({ cls := "BootNet$Ground", name := "newNumber", desc := "()I" } : Jvm.MethodName) ({ cls := "BootNet$Ground", name := "newNumber", desc := "()I" } : Jvm.MethodName)),
  (Jvm.Cond.methodLink "BootNet$Station" (129 : Nat) ({ cls := "BootNet$Station", name := "sendDiscover", desc := "()V" } : Jvm.MethodName)),
  (Jvm.Cond.instanceMethod ({ cls := "BootNet$Station", name := "sendDiscover", desc := "()V" } : Jvm.MethodName)),
  (Jvm.Cond.selects "BootNet$Station" ⟨"BootNet$Station", "sendDiscover", "()V"⟩ ⟨"BootNet$Station", "sendDiscover", "()V"⟩),
  (Jvm.Cond.methodLink "BootNet$Station" (132 : Nat) ({ cls := "BootNet$Loading", name := "interrupt", desc := "()V" } : Jvm.MethodName)),
  (Jvm.Cond.instanceMethod ({ cls := "BootNet$Loading", name := "interrupt", desc := "()V" } : Jvm.MethodName)),
  (Jvm.Cond.selects "BootNet$Loading" ({ cls := "BootNet$Loading", name := "interrupt", desc := "()V" } : Jvm.MethodName) ({ cls := "BootNet$Loading", name := "interrupt", desc := "()V" } : Jvm.MethodName)),
  (Jvm.Cond.methodLink "BootNet$Station" (135 : Nat) ({ cls := "BootNet$Wire", name := "post", desc := "(IIIIII)LBootNet$Message;" } : Jvm.MethodName)),
  (Jvm.Cond.methodLink "BootNet$Station" (144 : Nat) ({ cls := "BootNet$Station", name := "fail", desc := "(I)V" } : Jvm.MethodName)),
  (Jvm.Cond.instanceMethod ({ cls := "BootNet$Station", name := "fail", desc := "(I)V" } : Jvm.MethodName)),
  (Jvm.Cond.selects "BootNet$Station" ⟨"BootNet$Station", "fail", "(I)V"⟩ ⟨"BootNet$Station", "fail", "(I)V"⟩),
  (Jvm.Cond.methodLink "BootNet$Station" (148 : Nat) ({ cls := "BootNet$Loading", name := "begin", desc := "(I)V" } : Jvm.MethodName)),
  (Jvm.Cond.methodLink "BootNet$Transfer" (1 : Nat) ({ cls := "java/lang/Object", name := "<init>", desc := "()V" } : Jvm.MethodName)),
  (Jvm.Cond.methodLink "BootNet$Wire" (1 : Nat) ({ cls := "java/lang/Object", name := "<init>", desc := "()V" } : Jvm.MethodName)),
  (Jvm.Cond.instanceMethod ({ cls := "BootNet$Message", name := "<init>", desc := "()V" } : Jvm.MethodName)),
  (Jvm.Cond.methodLink "BootNet$Wire" (48 : Nat) ({ cls := "BootNet$Wire", name := "post", desc := "(IIIIII)LBootNet$Message;" } : Jvm.MethodName)),
  (Jvm.Cond.methodLink "BootNet$Wire" (56 : Nat) ({ cls := "BootNet$Message", name := "copyBytes", desc := "([III)V" } : Jvm.MethodName)),
  (Jvm.Cond.methodLink "BootNet$Wire" (60 : Nat) ({ cls := "BootNet$Wire", name := "postCopy", desc := "(LBootNet$Message;I)V" } : Jvm.MethodName)),
  (Jvm.Cond.methodLink "BootNetModel" (1 : Nat) ({ cls := "java/lang/Object", name := "<init>", desc := "()V" } : Jvm.MethodName)),
  (Jvm.Cond.methodLink "BootNetModel" (171 : Nat) ({ cls := "BootNetModel", name := "isStation", desc := "(I)Z" } : Jvm.MethodName)),
  (Jvm.Cond.instanceMethod ({ cls := "BootNetModel", name := "isStation", desc := "(I)Z" } : Jvm.MethodName)),
  (Jvm.Cond.selects "BootNetModel" ⟨"BootNetModel", "isStation", "(I)Z"⟩ ⟨"BootNetModel", "isStation", "(I)Z"⟩),
  (Jvm.Cond.initialized "BootNetModel"),
  (Jvm.Cond.methodLink "BootNetModel" (175 : Nat) ({ cls := "BootNetModel", name := "isAddress", desc := "(I)Z" } : Jvm.MethodName)),
  (Jvm.Cond.static ({ cls := "BootNetModel", name := "isAddress", desc := "(I)Z" } : Jvm.MethodName)),
  (Jvm.Cond.methodLink "BootNetModel" (178 : Nat) ({ cls := "BootNetModel", name := "isFile", desc := "(I)Z" } : Jvm.MethodName)),
  (Jvm.Cond.static ({ cls := "BootNetModel", name := "isFile", desc := "(I)Z" } : Jvm.MethodName)),
  (Jvm.Cond.methodLink "BootNetModel" (185 : Nat) ({ cls := "BootNetModel", name := "mixed", desc := "(II)I" } : Jvm.MethodName)),
  (Jvm.Cond.static ({ cls := "BootNetModel", name := "mixed", desc := "(II)I" } : Jvm.MethodName)),
  (Jvm.Cond.methodLink "BootNetModel" (192 : Nat) ({ cls := "BootNetModel", name := "fromServer", desc := "(I)Z" } : Jvm.MethodName)),
  (Jvm.Cond.static ({ cls := "BootNetModel", name := "fromServer", desc := "(I)Z" } : Jvm.MethodName)),
  (Jvm.Cond.methodLink "BootNetModel" (195 : Nat) ({ cls := "BootNetModel", name := "copy", desc := "(II)V" } : Jvm.MethodName)),
  (Jvm.Cond.instanceMethod ({ cls := "BootNetModel", name := "copy", desc := "(II)V" } : Jvm.MethodName)),
  (Jvm.Cond.selects "BootNetModel" ⟨"BootNetModel", "copy", "(II)V"⟩ ⟨"BootNetModel", "copy", "(II)V"⟩),
  (Jvm.Cond.methodLink "BootNetModel" (199 : Nat) ({ cls := "BootNetModel", name := "take", desc := "(I)V" } : Jvm.MethodName)),
  (Jvm.Cond.instanceMethod ({ cls := "BootNetModel", name := "take", desc := "(I)V" } : Jvm.MethodName)),
  (Jvm.Cond.selects "BootNetModel" ⟨"BootNetModel", "take", "(I)V"⟩ ⟨"BootNetModel", "take", "(I)V"⟩),
  (Jvm.Cond.methodLink "BootNetModel" (203 : Nat) ({ cls := "BootNetModel", name := "toServer", desc := "(I)Z" } : Jvm.MethodName)),
  (Jvm.Cond.static ({ cls := "BootNetModel", name := "toServer", desc := "(I)Z" } : Jvm.MethodName)),
  (Jvm.Cond.methodLink "BootNetModel" (206 : Nat) ({ cls := "BootNetModel", name := "swap", desc := "(II)V" } : Jvm.MethodName)),
  (Jvm.Cond.instanceMethod ({ cls := "BootNetModel", name := "swap", desc := "(II)V" } : Jvm.MethodName)),
  (Jvm.Cond.selects "BootNetModel" ⟨"BootNetModel", "swap", "(II)V"⟩ ⟨"BootNetModel", "swap", "(II)V"⟩),
  (Jvm.Cond.methodLink "BootNetModel" (209 : Nat) ({ cls := "BootNetModel", name := "serve", desc := "(IIIII)V" } : Jvm.MethodName)),
  (Jvm.Cond.instanceMethod ({ cls := "BootNetModel", name := "serve", desc := "(IIIII)V" } : Jvm.MethodName)),
  (Jvm.Cond.selects "BootNetModel" ⟨"BootNetModel", "serve", "(IIIII)V"⟩ ⟨"BootNetModel", "serve", "(IIIII)V"⟩),
  (Jvm.Cond.methodLink "BootNetModel" (213 : Nat) ({ cls := "BootNetModel", name := "probed", desc := "(II)V" } : Jvm.MethodName)),
  (Jvm.Cond.instanceMethod ({ cls := "BootNetModel", name := "probed", desc := "(II)V" } : Jvm.MethodName)),
  (Jvm.Cond.selects "BootNetModel" ⟨"BootNetModel", "probed", "(II)V"⟩ ⟨"BootNetModel", "probed", "(II)V"⟩),
  (Jvm.Cond.methodLink "BootNetModel" (216 : Nat) ({ cls := "BootNetModel", name := "hear", desc := "(IIIIII)V" } : Jvm.MethodName)),
  (Jvm.Cond.instanceMethod ({ cls := "BootNetModel", name := "hear", desc := "(IIIIII)V" } : Jvm.MethodName)),
  (Jvm.Cond.selects "BootNetModel" ⟨"BootNetModel", "hear", "(IIIIII)V"⟩ ⟨"BootNetModel", "hear", "(IIIIII)V"⟩),
  (Jvm.Cond.methodLink "BootNetModel" (223 : Nat) ({ cls := "BootNetModel", name := "leased", desc := "(II)Z" } : Jvm.MethodName)),
  (Jvm.Cond.instanceMethod ({ cls := "BootNetModel", name := "leased", desc := "(II)Z" } : Jvm.MethodName)),
  (Jvm.Cond.selects "BootNetModel" ⟨"BootNetModel", "leased", "(II)Z"⟩ ⟨"BootNetModel", "leased", "(II)Z"⟩),
  (Jvm.Cond.methodLink "BootNetModel" (227 : Nat) ({ cls := "BootNetModel", name := "free", desc := "(II)Z" } : Jvm.MethodName)),
  (Jvm.Cond.instanceMethod ({ cls := "BootNetModel", name := "free", desc := "(II)Z" } : Jvm.MethodName)),
  (Jvm.Cond.selects "BootNetModel" ⟨"BootNetModel", "free", "(II)Z"⟩ ⟨"BootNetModel", "free", "(II)Z"⟩),
  (Jvm.Cond.methodLink "BootNetModel" (230 : Nat) ({ cls := "BootNetModel", name := "offer", desc := "(II)V" } : Jvm.MethodName)),
  (Jvm.Cond.instanceMethod ({ cls := "BootNetModel", name := "offer", desc := "(II)V" } : Jvm.MethodName)),
  (Jvm.Cond.selects "BootNetModel" ⟨"BootNetModel", "offer", "(II)V"⟩ ⟨"BootNetModel", "offer", "(II)V"⟩),
  (Jvm.Cond.methodLink "BootNetModel" (233 : Nat) ({ cls := "BootNetModel", name := "grant", desc := "(III)V" } : Jvm.MethodName)),
  (Jvm.Cond.instanceMethod ({ cls := "BootNetModel", name := "grant", desc := "(III)V" } : Jvm.MethodName)),
  (Jvm.Cond.selects "BootNetModel" ⟨"BootNetModel", "grant", "(III)V"⟩ ⟨"BootNetModel", "grant", "(III)V"⟩),
  (Jvm.Cond.methodLink "BootNetModel" (237 : Nat) ({ cls := "BootNetModel", name := "send", desc := "(IIIII)V" } : Jvm.MethodName)),
  (Jvm.Cond.instanceMethod ({ cls := "BootNetModel", name := "send", desc := "(IIIII)V" } : Jvm.MethodName)),
  (Jvm.Cond.selects "BootNetModel" ⟨"BootNetModel", "send", "(IIIII)V"⟩ ⟨"BootNetModel", "send", "(IIIII)V"⟩),
  (Jvm.Cond.methodLink "BootNetModel" (240 : Nat) ({ cls := "BootNetModel", name := "again", desc := "(I)V" } : Jvm.MethodName)),
  (Jvm.Cond.instanceMethod ({ cls := "BootNetModel", name := "again", desc := "(I)V" } : Jvm.MethodName)),
  (Jvm.Cond.selects "BootNetModel" ⟨"BootNetModel", "again", "(I)V"⟩ ⟨"BootNetModel", "again", "(I)V"⟩),
  (Jvm.Cond.methodLink "BootNetModel" (243 : Nat) ({ cls := "BootNetModel", name := "choice", desc := "(I)I" } : Jvm.MethodName)),
  (Jvm.Cond.instanceMethod ({ cls := "BootNetModel", name := "choice", desc := "(I)I" } : Jvm.MethodName)),
  (Jvm.Cond.selects "BootNetModel" ⟨"BootNetModel", "choice", "(I)I"⟩ ⟨"BootNetModel", "choice", "(I)I"⟩),
  (Jvm.Cond.methodLink "BootNetModel" (247 : Nat) ({ cls := "BootNetModel", name := "offered", desc := "(II)Z" } : Jvm.MethodName)),
  (Jvm.Cond.instanceMethod ({ cls := "BootNetModel", name := "offered", desc := "(II)Z" } : Jvm.MethodName)),
  (Jvm.Cond.selects "BootNetModel" ⟨"BootNetModel", "offered", "(II)Z"⟩ ⟨"BootNetModel", "offered", "(II)Z"⟩),
  (Jvm.Cond.methodLink "BootNetModel" (250 : Nat) ({ cls := "BootNetModel", name := "recorded", desc := "(III)Z" } : Jvm.MethodName)),
  (Jvm.Cond.instanceMethod ({ cls := "BootNetModel", name := "recorded", desc := "(III)Z" } : Jvm.MethodName)),
  (Jvm.Cond.selects "BootNetModel" ⟨"BootNetModel", "recorded", "(III)Z"⟩ ⟨"BootNetModel", "recorded", "(III)Z"⟩),
  (Jvm.Cond.methodLink "BootNetModel" (257 : Nat) ({ cls := "BootNetModel", name := "latest", desc := "(I)Z" } : Jvm.MethodName)),
  (Jvm.Cond.instanceMethod ({ cls := "BootNetModel", name := "latest", desc := "(I)Z" } : Jvm.MethodName)),
  (Jvm.Cond.selects "BootNetModel" ⟨"BootNetModel", "latest", "(I)Z"⟩ ⟨"BootNetModel", "latest", "(I)Z"⟩),
  (Jvm.Cond.methodLink "BootNetModel" (260 : Nat) ({ cls := "BootNetModel", name := "drop", desc := "()V" } : Jvm.MethodName)),
  (Jvm.Cond.instanceMethod ({ cls := "BootNetModel", name := "drop", desc := "()V" } : Jvm.MethodName)),
  (Jvm.Cond.selects "BootNetModel" ⟨"BootNetModel", "drop", "()V"⟩ ⟨"BootNetModel", "drop", "()V"⟩),
  (Jvm.Cond.methodLink "BootNetModel" (266 : Nat) ({ cls := "BootNetModel", name := "renumber", desc := "(I)V" } : Jvm.MethodName)),
  (Jvm.Cond.instanceMethod ({ cls := "BootNetModel", name := "renumber", desc := "(I)V" } : Jvm.MethodName)),
  (Jvm.Cond.selects "BootNetModel" ⟨"BootNetModel", "renumber", "(I)V"⟩ ⟨"BootNetModel", "renumber", "(I)V"⟩),
  (Jvm.Cond.methodLink "BootNetModel" (269 : Nat) ({ cls := "BootNetModel", name := "select", desc := "(I)V" } : Jvm.MethodName)),
  (Jvm.Cond.instanceMethod ({ cls := "BootNetModel", name := "select", desc := "(I)V" } : Jvm.MethodName)),
  (Jvm.Cond.selects "BootNetModel" ⟨"BootNetModel", "select", "(I)V"⟩ ⟨"BootNetModel", "select", "(I)V"⟩),
  (Jvm.Cond.methodLink "BootNetModel" (272 : Nat) ({ cls := "BootNetModel", name := "holds", desc := "(I)Z" } : Jvm.MethodName)),
  (Jvm.Cond.instanceMethod ({ cls := "BootNetModel", name := "holds", desc := "(I)Z" } : Jvm.MethodName)),
  (Jvm.Cond.selects "BootNetModel" ⟨"BootNetModel", "holds", "(I)Z"⟩ ⟨"BootNetModel", "holds", "(I)Z"⟩),
  (Jvm.Cond.methodLink "BootNetModel" (275 : Nat) ({ cls := "BootNetModel", name := "ask", desc := "(I)V" } : Jvm.MethodName)),
  (Jvm.Cond.instanceMethod ({ cls := "BootNetModel", name := "ask", desc := "(I)V" } : Jvm.MethodName)),
  (Jvm.Cond.selects "BootNetModel" ⟨"BootNetModel", "ask", "(I)V"⟩ ⟨"BootNetModel", "ask", "(I)V"⟩),
  (Jvm.Cond.methodLink "BootNetModel" (278 : Nat) ({ cls := "BootNetModel", name := "conflict", desc := "(I)V" } : Jvm.MethodName)),
  (Jvm.Cond.instanceMethod ({ cls := "BootNetModel", name := "conflict", desc := "(I)V" } : Jvm.MethodName)),
  (Jvm.Cond.selects "BootNetModel" ⟨"BootNetModel", "conflict", "(I)V"⟩ ⟨"BootNetModel", "conflict", "(I)V"⟩),
  (Jvm.Cond.methodLink "BootNetModel" (281 : Nat) ({ cls := "BootNetModel", name := "receive", desc := "(IIII)V" } : Jvm.MethodName)),
  (Jvm.Cond.instanceMethod ({ cls := "BootNetModel", name := "receive", desc := "(IIII)V" } : Jvm.MethodName)),
  (Jvm.Cond.selects "BootNetModel" ⟨"BootNetModel", "receive", "(IIII)V"⟩ ⟨"BootNetModel", "receive", "(IIII)V"⟩),
  (Jvm.Cond.methodLink "BootNetModel" (285 : Nat) ({ cls := "BootNetModel", name := "fail", desc := "(II)V" } : Jvm.MethodName)),
  (Jvm.Cond.instanceMethod ({ cls := "BootNetModel", name := "fail", desc := "(II)V" } : Jvm.MethodName)),
  (Jvm.Cond.selects "BootNetModel" ⟨"BootNetModel", "fail", "(II)V"⟩ ⟨"BootNetModel", "fail", "(II)V"⟩),
  (Jvm.Cond.methodLink "BootNetModel" (288 : Nat) ({ cls := "BootNetModel", name := "load", desc := "(II)V" } : Jvm.MethodName)),
  (Jvm.Cond.instanceMethod ({ cls := "BootNetModel", name := "load", desc := "(II)V" } : Jvm.MethodName)),
  (Jvm.Cond.selects "BootNetModel" ⟨"BootNetModel", "load", "(II)V"⟩ ⟨"BootNetModel", "load", "(II)V"⟩),
  (Jvm.Cond.methodLink "BootNetModel" (291 : Nat) ({ cls := "BootNetModel", name := "selectAgain", desc := "(I)V" } : Jvm.MethodName)),
  (Jvm.Cond.instanceMethod ({ cls := "BootNetModel", name := "selectAgain", desc := "(I)V" } : Jvm.MethodName)),
  (Jvm.Cond.selects "BootNetModel" ⟨"BootNetModel", "selectAgain", "(I)V"⟩ ⟨"BootNetModel", "selectAgain", "(I)V"⟩),
  (Jvm.Cond.methodLink "BootNetModel" (294 : Nat) ({ cls := "BootNetModel", name := "settle", desc := "(I)V" } : Jvm.MethodName)),
  (Jvm.Cond.instanceMethod ({ cls := "BootNetModel", name := "settle", desc := "(I)V" } : Jvm.MethodName)),
  (Jvm.Cond.selects "BootNetModel" ⟨"BootNetModel", "settle", "(I)V"⟩ ⟨"BootNetModel", "settle", "(I)V"⟩),
  (Jvm.Cond.methodLink "BootNetModel" (297 : Nat) ({ cls := "BootNetModel", name := "loadAgain", desc := "(I)V" } : Jvm.MethodName)),
  (Jvm.Cond.instanceMethod ({ cls := "BootNetModel", name := "loadAgain", desc := "(I)V" } : Jvm.MethodName)),
  (Jvm.Cond.selects "BootNetModel" ⟨"BootNetModel", "loadAgain", "(I)V"⟩ ⟨"BootNetModel", "loadAgain", "(I)V"⟩),
  (Jvm.Cond.methodLink "BootNetModel" (300 : Nat) ({ cls := "BootNetModel", name := "live", desc := "(I)V" } : Jvm.MethodName)),
  (Jvm.Cond.instanceMethod ({ cls := "BootNetModel", name := "live", desc := "(I)V" } : Jvm.MethodName)),
  (Jvm.Cond.selects "BootNetModel" ⟨"BootNetModel", "live", "(I)V"⟩ ⟨"BootNetModel", "live", "(I)V"⟩),
  (Jvm.Cond.methodLink "BootNetLaw" (9 : Nat) ({ cls := "BootNetLaw", name := "cell", desc := "([II)I" } : Jvm.MethodName)),
  (Jvm.Cond.static ({ cls := "BootNetLaw", name := "cell", desc := "([II)I" } : Jvm.MethodName)),
  (Jvm.Cond.initialized "BootNetLaw"),
  (Jvm.Cond.instanceMethod ({ cls := "BootNet", name := "<init>", desc := "(III)V" } : Jvm.MethodName)),
  (Jvm.Cond.methodLink "BootNetLaw" (15 : Nat) ({ cls := "BootNet", name := "<init>", desc := "(III)V" } : Jvm.MethodName)),
  (Jvm.Cond.instanceMethod ({ cls := "BootNetModel", name := "<init>", desc := "(III)V" } : Jvm.MethodName)),
  (Jvm.Cond.methodLink "BootNetLaw" (20 : Nat) ({ cls := "BootNetModel", name := "<init>", desc := "(III)V" } : Jvm.MethodName)),
  (Jvm.Cond.methodLink "BootNetLaw" (21 : Nat) ({ cls := "BootNet", name := "pool", desc := "(III)Z" } : Jvm.MethodName)),
  (Jvm.Cond.instanceMethod ({ cls := "BootNet", name := "pool", desc := "(III)Z" } : Jvm.MethodName)),
  (Jvm.Cond.selects "BootNet" ({ cls := "BootNet", name := "pool", desc := "(III)Z" } : Jvm.MethodName) ({ cls := "BootNet", name := "pool", desc := "(III)Z" } : Jvm.MethodName)),
  (Jvm.Cond.methodLink "BootNetLaw" (25 : Nat) ({ cls := "BootNetModel", name := "pool", desc := "(III)Z" } : Jvm.MethodName)),
  (Jvm.Cond.instanceMethod ({ cls := "BootNetModel", name := "pool", desc := "(III)Z" } : Jvm.MethodName)),
  (Jvm.Cond.selects "BootNetModel" ({ cls := "BootNetModel", name := "pool", desc := "(III)Z" } : Jvm.MethodName) ({ cls := "BootNetModel", name := "pool", desc := "(III)Z" } : Jvm.MethodName)),
  (Jvm.Cond.methodLink "BootNetLaw" (26 : Nat) ({ cls := "BootNet", name := "attach", desc := "(I)I" } : Jvm.MethodName)),
  (Jvm.Cond.instanceMethod ({ cls := "BootNet", name := "attach", desc := "(I)I" } : Jvm.MethodName)),
  (Jvm.Cond.selects "BootNet" ({ cls := "BootNet", name := "attach", desc := "(I)I" } : Jvm.MethodName) ({ cls := "BootNet", name := "attach", desc := "(I)I" } : Jvm.MethodName)),
  (Jvm.Cond.methodLink "BootNetLaw" (30 : Nat) ({ cls := "BootNetModel", name := "attach", desc := "(I)I" } : Jvm.MethodName)),
  (Jvm.Cond.instanceMethod ({ cls := "BootNetModel", name := "attach", desc := "(I)I" } : Jvm.MethodName)),
  (Jvm.Cond.selects "BootNetModel" ({ cls := "BootNetModel", name := "attach", desc := "(I)I" } : Jvm.MethodName) ({ cls := "BootNetModel", name := "attach", desc := "(I)I" } : Jvm.MethodName)),
  (Jvm.Cond.methodLink "BootNetLaw" (31 : Nat) ({ cls := "BootNet", name := "reserve", desc := "(II)Z" } : Jvm.MethodName)),
  (Jvm.Cond.instanceMethod ({ cls := "BootNet", name := "reserve", desc := "(II)Z" } : Jvm.MethodName)),
  (Jvm.Cond.selects "BootNet" ({ cls := "BootNet", name := "reserve", desc := "(II)Z" } : Jvm.MethodName) ({ cls := "BootNet", name := "reserve", desc := "(II)Z" } : Jvm.MethodName)),
  (Jvm.Cond.methodLink "BootNetLaw" (35 : Nat) ({ cls := "BootNetModel", name := "reserve", desc := "(II)Z" } : Jvm.MethodName)),
  (Jvm.Cond.instanceMethod ({ cls := "BootNetModel", name := "reserve", desc := "(II)Z" } : Jvm.MethodName)),
  (Jvm.Cond.selects "BootNetModel" ({ cls := "BootNetModel", name := "reserve", desc := "(II)Z" } : Jvm.MethodName) ({ cls := "BootNetModel", name := "reserve", desc := "(II)Z" } : Jvm.MethodName)),
  (Jvm.Cond.methodLink "BootNetLaw" (36 : Nat) ({ cls := "BootNet", name := "stranger", desc := "(IZ)Z" } : Jvm.MethodName)),
  (Jvm.Cond.instanceMethod ({ cls := "BootNet", name := "stranger", desc := "(IZ)Z" } : Jvm.MethodName)),
  (Jvm.Cond.selects "BootNet" ({ cls := "BootNet", name := "stranger", desc := "(IZ)Z" } : Jvm.MethodName) ({ cls := "BootNet", name := "stranger", desc := "(IZ)Z" } : Jvm.MethodName)),
  (Jvm.Cond.methodLink "BootNetLaw" (40 : Nat) ({ cls := "BootNetModel", name := "stranger", desc := "(IZ)Z" } : Jvm.MethodName)),
  (Jvm.Cond.instanceMethod ({ cls := "BootNetModel", name := "stranger", desc := "(IZ)Z" } : Jvm.MethodName)),
  (Jvm.Cond.selects "BootNetModel" ({ cls := "BootNetModel", name := "stranger", desc := "(IZ)Z" } : Jvm.MethodName) ({ cls := "BootNetModel", name := "stranger", desc := "(IZ)Z" } : Jvm.MethodName)),
  (Jvm.Cond.methodLink "BootNetLaw" (41 : Nat) ({ cls := "BootNet", name := "put", desc := "(II)Z" } : Jvm.MethodName)),
  (Jvm.Cond.instanceMethod ({ cls := "BootNet", name := "put", desc := "(II)Z" } : Jvm.MethodName)),
  (Jvm.Cond.selects "BootNet" ({ cls := "BootNet", name := "put", desc := "(II)Z" } : Jvm.MethodName) ({ cls := "BootNet", name := "put", desc := "(II)Z" } : Jvm.MethodName)),
  (Jvm.Cond.methodLink "BootNetLaw" (44 : Nat) ({ cls := "BootNetModel", name := "put", desc := "(II)Z" } : Jvm.MethodName)),
  (Jvm.Cond.instanceMethod ({ cls := "BootNetModel", name := "put", desc := "(II)Z" } : Jvm.MethodName)),
  (Jvm.Cond.selects "BootNetModel" ({ cls := "BootNetModel", name := "put", desc := "(II)Z" } : Jvm.MethodName) ({ cls := "BootNetModel", name := "put", desc := "(II)Z" } : Jvm.MethodName)),
  (Jvm.Cond.methodLink "BootNetLaw" (45 : Nat) ({ cls := "BootNet", name := "entry", desc := "(III)Z" } : Jvm.MethodName)),
  (Jvm.Cond.instanceMethod ({ cls := "BootNet", name := "entry", desc := "(III)Z" } : Jvm.MethodName)),
  (Jvm.Cond.selects "BootNet" ({ cls := "BootNet", name := "entry", desc := "(III)Z" } : Jvm.MethodName) ({ cls := "BootNet", name := "entry", desc := "(III)Z" } : Jvm.MethodName)),
  (Jvm.Cond.methodLink "BootNetLaw" (48 : Nat) ({ cls := "BootNetModel", name := "entry", desc := "(III)Z" } : Jvm.MethodName)),
  (Jvm.Cond.instanceMethod ({ cls := "BootNetModel", name := "entry", desc := "(III)Z" } : Jvm.MethodName)),
  (Jvm.Cond.selects "BootNetModel" ({ cls := "BootNetModel", name := "entry", desc := "(III)Z" } : Jvm.MethodName) ({ cls := "BootNetModel", name := "entry", desc := "(III)Z" } : Jvm.MethodName)),
  (Jvm.Cond.methodLink "BootNetLaw" (49 : Nat) ({ cls := "BootNet", name := "check", desc := "(I)I" } : Jvm.MethodName)),
  (Jvm.Cond.instanceMethod ({ cls := "BootNet", name := "check", desc := "(I)I" } : Jvm.MethodName)),
  (Jvm.Cond.selects "BootNet" ({ cls := "BootNet", name := "check", desc := "(I)I" } : Jvm.MethodName) ({ cls := "BootNet", name := "check", desc := "(I)I" } : Jvm.MethodName)),
  (Jvm.Cond.methodLink "BootNetLaw" (52 : Nat) ({ cls := "BootNetModel", name := "check", desc := "(I)I" } : Jvm.MethodName)),
  (Jvm.Cond.instanceMethod ({ cls := "BootNetModel", name := "check", desc := "(I)I" } : Jvm.MethodName)),
  (Jvm.Cond.selects "BootNetModel" ({ cls := "BootNetModel", name := "check", desc := "(I)I" } : Jvm.MethodName) ({ cls := "BootNetModel", name := "check", desc := "(I)I" } : Jvm.MethodName)),
  (Jvm.Cond.methodLink "BootNetLaw" (53 : Nat) ({ cls := "BootNet", name := "boot", desc := "(I)Z" } : Jvm.MethodName)),
  (Jvm.Cond.instanceMethod ({ cls := "BootNet", name := "boot", desc := "(I)Z" } : Jvm.MethodName)),
  (Jvm.Cond.selects "BootNet" ({ cls := "BootNet", name := "boot", desc := "(I)Z" } : Jvm.MethodName) ({ cls := "BootNet", name := "boot", desc := "(I)Z" } : Jvm.MethodName)),
  (Jvm.Cond.methodLink "BootNetLaw" (57 : Nat) ({ cls := "BootNetModel", name := "boot", desc := "(I)Z" } : Jvm.MethodName)),
  (Jvm.Cond.instanceMethod ({ cls := "BootNetModel", name := "boot", desc := "(I)Z" } : Jvm.MethodName)),
  (Jvm.Cond.selects "BootNetModel" ({ cls := "BootNetModel", name := "boot", desc := "(I)Z" } : Jvm.MethodName) ({ cls := "BootNetModel", name := "boot", desc := "(I)Z" } : Jvm.MethodName)),
  (Jvm.Cond.methodLink "BootNetLaw" (58 : Nat) ({ cls := "BootNet", name := "deliver", desc := "(I)I" } : Jvm.MethodName)),
  (Jvm.Cond.instanceMethod ({ cls := "BootNet", name := "deliver", desc := "(I)I" } : Jvm.MethodName)),
  (Jvm.Cond.selects "BootNet" ({ cls := "BootNet", name := "deliver", desc := "(I)I" } : Jvm.MethodName) ({ cls := "BootNet", name := "deliver", desc := "(I)I" } : Jvm.MethodName)),
  (Jvm.Cond.methodLink "BootNetLaw" (61 : Nat) ({ cls := "BootNetModel", name := "deliver", desc := "(I)I" } : Jvm.MethodName)),
  (Jvm.Cond.instanceMethod ({ cls := "BootNetModel", name := "deliver", desc := "(I)I" } : Jvm.MethodName)),
  (Jvm.Cond.selects "BootNetModel" ({ cls := "BootNetModel", name := "deliver", desc := "(I)I" } : Jvm.MethodName) ({ cls := "BootNetModel", name := "deliver", desc := "(I)I" } : Jvm.MethodName)),
  (Jvm.Cond.methodLink "BootNetLaw" (62 : Nat) ({ cls := "BootNet", name := "alter", desc := "(IZ)Z" } : Jvm.MethodName)),
  (Jvm.Cond.instanceMethod ({ cls := "BootNet", name := "alter", desc := "(IZ)Z" } : Jvm.MethodName)),
  (Jvm.Cond.selects "BootNet" ({ cls := "BootNet", name := "alter", desc := "(IZ)Z" } : Jvm.MethodName) ({ cls := "BootNet", name := "alter", desc := "(IZ)Z" } : Jvm.MethodName)),
  (Jvm.Cond.methodLink "BootNetLaw" (65 : Nat) ({ cls := "BootNetModel", name := "alter", desc := "(IZ)Z" } : Jvm.MethodName)),
  (Jvm.Cond.instanceMethod ({ cls := "BootNetModel", name := "alter", desc := "(IZ)Z" } : Jvm.MethodName)),
  (Jvm.Cond.selects "BootNetModel" ({ cls := "BootNetModel", name := "alter", desc := "(IZ)Z" } : Jvm.MethodName) ({ cls := "BootNetModel", name := "alter", desc := "(IZ)Z" } : Jvm.MethodName)),
  (Jvm.Cond.methodLink "BootNetLaw" (66 : Nat) ({ cls := "BootNet", name := "tick", desc := "()I" } : Jvm.MethodName)),
  (Jvm.Cond.instanceMethod ({ cls := "BootNet", name := "tick", desc := "()I" } : Jvm.MethodName)),
  (Jvm.Cond.selects "BootNet" ({ cls := "BootNet", name := "tick", desc := "()I" } : Jvm.MethodName) ({ cls := "BootNet", name := "tick", desc := "()I" } : Jvm.MethodName)),
  (Jvm.Cond.methodLink "BootNetLaw" (70 : Nat) ({ cls := "BootNetModel", name := "tick", desc := "()I" } : Jvm.MethodName)),
  (Jvm.Cond.instanceMethod ({ cls := "BootNetModel", name := "tick", desc := "()I" } : Jvm.MethodName)),
  (Jvm.Cond.selects "BootNetModel" ({ cls := "BootNetModel", name := "tick", desc := "()I" } : Jvm.MethodName) ({ cls := "BootNetModel", name := "tick", desc := "()I" } : Jvm.MethodName)),
  (Jvm.Cond.methodLink "BootNetLaw" (71 : Nat) ({ cls := "BootNet", name := "crash", desc := "()I" } : Jvm.MethodName)),
  (Jvm.Cond.instanceMethod ({ cls := "BootNet", name := "crash", desc := "()I" } : Jvm.MethodName)),
  (Jvm.Cond.selects "BootNet" ({ cls := "BootNet", name := "crash", desc := "()I" } : Jvm.MethodName) ({ cls := "BootNet", name := "crash", desc := "()I" } : Jvm.MethodName)),
  (Jvm.Cond.methodLink "BootNetLaw" (74 : Nat) ({ cls := "BootNetModel", name := "crash", desc := "()I" } : Jvm.MethodName)),
  (Jvm.Cond.instanceMethod ({ cls := "BootNetModel", name := "crash", desc := "()I" } : Jvm.MethodName)),
  (Jvm.Cond.selects "BootNetModel" ({ cls := "BootNetModel", name := "crash", desc := "()I" } : Jvm.MethodName) ({ cls := "BootNetModel", name := "crash", desc := "()I" } : Jvm.MethodName)),
  (Jvm.Cond.methodLink "BootNetLaw" (75 : Nat) ({ cls := "BootNet", name := "message", desc := "(II)I" } : Jvm.MethodName)),
  (Jvm.Cond.instanceMethod ({ cls := "BootNet", name := "message", desc := "(II)I" } : Jvm.MethodName)),
  (Jvm.Cond.selects "BootNet" ({ cls := "BootNet", name := "message", desc := "(II)I" } : Jvm.MethodName) ({ cls := "BootNet", name := "message", desc := "(II)I" } : Jvm.MethodName)),
  (Jvm.Cond.methodLink "BootNetLaw" (79 : Nat) ({ cls := "BootNetModel", name := "message", desc := "(II)I" } : Jvm.MethodName)),
  (Jvm.Cond.instanceMethod ({ cls := "BootNetModel", name := "message", desc := "(II)I" } : Jvm.MethodName)),
  (Jvm.Cond.selects "BootNetModel" ({ cls := "BootNetModel", name := "message", desc := "(II)I" } : Jvm.MethodName) ({ cls := "BootNetModel", name := "message", desc := "(II)I" } : Jvm.MethodName)),
  (Jvm.Cond.methodLink "BootNetLaw" (80 : Nat) ({ cls := "BootNet", name := "station", desc := "(II)I" } : Jvm.MethodName)),
  (Jvm.Cond.instanceMethod ({ cls := "BootNet", name := "station", desc := "(II)I" } : Jvm.MethodName)),
  (Jvm.Cond.selects "BootNet" ({ cls := "BootNet", name := "station", desc := "(II)I" } : Jvm.MethodName) ({ cls := "BootNet", name := "station", desc := "(II)I" } : Jvm.MethodName)),
  (Jvm.Cond.methodLink "BootNetLaw" (83 : Nat) ({ cls := "BootNetModel", name := "station", desc := "(II)I" } : Jvm.MethodName)),
  (Jvm.Cond.instanceMethod ({ cls := "BootNetModel", name := "station", desc := "(II)I" } : Jvm.MethodName)),
  (Jvm.Cond.selects "BootNetModel" ({ cls := "BootNetModel", name := "station", desc := "(II)I" } : Jvm.MethodName) ({ cls := "BootNetModel", name := "station", desc := "(II)I" } : Jvm.MethodName)),
  (Jvm.Cond.methodLink "BootNetLaw" (84 : Nat) ({ cls := "BootNet", name := "image", desc := "(II)I" } : Jvm.MethodName)),
  (Jvm.Cond.instanceMethod ({ cls := "BootNet", name := "image", desc := "(II)I" } : Jvm.MethodName)),
  (Jvm.Cond.selects "BootNet" ({ cls := "BootNet", name := "image", desc := "(II)I" } : Jvm.MethodName) ({ cls := "BootNet", name := "image", desc := "(II)I" } : Jvm.MethodName)),
  (Jvm.Cond.methodLink "BootNetLaw" (87 : Nat) ({ cls := "BootNetModel", name := "image", desc := "(II)I" } : Jvm.MethodName)),
  (Jvm.Cond.instanceMethod ({ cls := "BootNetModel", name := "image", desc := "(II)I" } : Jvm.MethodName)),
  (Jvm.Cond.selects "BootNetModel" ({ cls := "BootNetModel", name := "image", desc := "(II)I" } : Jvm.MethodName) ({ cls := "BootNetModel", name := "image", desc := "(II)I" } : Jvm.MethodName)),
  (Jvm.Cond.methodLink "BootNetLaw" (88 : Nat) ({ cls := "BootNet", name := "lease", desc := "(II)I" } : Jvm.MethodName)),
  (Jvm.Cond.instanceMethod ({ cls := "BootNet", name := "lease", desc := "(II)I" } : Jvm.MethodName)),
  (Jvm.Cond.selects "BootNet" ({ cls := "BootNet", name := "lease", desc := "(II)I" } : Jvm.MethodName) ({ cls := "BootNet", name := "lease", desc := "(II)I" } : Jvm.MethodName)),
  (Jvm.Cond.methodLink "BootNetLaw" (91 : Nat) ({ cls := "BootNetModel", name := "lease", desc := "(II)I" } : Jvm.MethodName)),
  (Jvm.Cond.instanceMethod ({ cls := "BootNetModel", name := "lease", desc := "(II)I" } : Jvm.MethodName)),
  (Jvm.Cond.selects "BootNetModel" ({ cls := "BootNetModel", name := "lease", desc := "(II)I" } : Jvm.MethodName) ({ cls := "BootNetModel", name := "lease", desc := "(II)I" } : Jvm.MethodName)),
  (Jvm.Cond.methodLink "BootNetLaw" (92 : Nat) ({ cls := "BootNet", name := "journal", desc := "()I" } : Jvm.MethodName)),
  (Jvm.Cond.instanceMethod ({ cls := "BootNet", name := "journal", desc := "()I" } : Jvm.MethodName)),
  (Jvm.Cond.selects "BootNet" ({ cls := "BootNet", name := "journal", desc := "()I" } : Jvm.MethodName) ({ cls := "BootNet", name := "journal", desc := "()I" } : Jvm.MethodName)),
  (Jvm.Cond.methodLink "BootNetLaw" (95 : Nat) ({ cls := "BootNetModel", name := "journal", desc := "()I" } : Jvm.MethodName)),
  (Jvm.Cond.instanceMethod ({ cls := "BootNetModel", name := "journal", desc := "()I" } : Jvm.MethodName)),
  (Jvm.Cond.selects "BootNetModel" ({ cls := "BootNetModel", name := "journal", desc := "()I" } : Jvm.MethodName) ({ cls := "BootNetModel", name := "journal", desc := "()I" } : Jvm.MethodName)),
  (Jvm.Cond.classLink "BootNet" (7 : Nat) "BootNet$Ground"),
  (Jvm.Cond.instantiable "BootNet$Ground" (5 : Nat)),
  (Jvm.Cond.classLink "BootNet" (18 : Nat) "BootNet$Wire"),
  (Jvm.Cond.instantiable "BootNet$Wire" (4 : Nat)),
  (Jvm.Cond.classLink "BootNet" (25 : Nat) "BootNet$Layout"),
  (Jvm.Cond.instantiable "BootNet$Layout" (6 : Nat)),
  (Jvm.Cond.classLink "BootNet" (32 : Nat) "BootNet$Library"),
  (Jvm.Cond.instantiable "BootNet$Library" (6 : Nat)),
  (Jvm.Cond.classLink "BootNet" (39 : Nat) "BootNet$Server"),
  (Jvm.Cond.instantiable "BootNet$Server" (7 : Nat)),
  (Jvm.Cond.classLink "BootNet" (48 : Nat) "BootNet$Station"),
  (Jvm.Cond.instantiable "BootNet$Station" (12 : Nat)),
  (Jvm.Cond.classLink "BootNet$Server" (11 : Nat) "BootNet$Transfer"),
  (Jvm.Cond.instantiable "BootNet$Transfer" (6 : Nat)),
  (Jvm.Cond.classLink "BootNet$Server" (19 : Nat) "BootNet$Records"),
  (Jvm.Cond.instantiable "BootNet$Records" (4 : Nat)),
  (Jvm.Cond.classLink "BootNet$Server" (42 : Nat) "BootNet$AddressBook"),
  (Jvm.Cond.instantiable "BootNet$AddressBook" (7 : Nat)),
  (Jvm.Cond.classLink "BootNet$Station" (31 : Nat) "BootNet$Loading"),
  (Jvm.Cond.instantiable "BootNet$Loading" (12 : Nat)),
  (Jvm.Cond.classLink "BootNet$Wire" (9 : Nat) "BootNet$Message"),
  (Jvm.Cond.instantiable "BootNet$Message" (8 : Nat)),
  (Jvm.Cond.classLink "BootNetLaw" (7 : Nat) "BootNet"),
  (Jvm.Cond.instantiable "BootNet" (6 : Nat)),
  (Jvm.Cond.classLink "BootNetLaw" (18 : Nat) "BootNetModel"),
  (Jvm.Cond.instantiable "BootNetModel" (58 : Nat)),
  (Jvm.Cond.constant "BootNet$Library" (27 : Nat) (-306674912 : Int32)),
  (Jvm.Cond.constant "BootNetModel" (184 : Nat) (-306674912 : Int32)),
  (Jvm.Cond.arrayClass Jvm.ClassFile.FieldType.int),
  (Jvm.Cond.arrayClass Jvm.ClassFile.FieldType.boolean),
  (Jvm.Cond.classLink "BootNet$Library" (9 : Nat) "[[I")]
def xt_Gx : List Jvm.Cond := [(Jvm.Cond.code ({ cls := "java/lang/Object", name := "<init>", desc := "()V" } : Jvm.MethodName) object_method_1_code (1 : Nat) (Option.none : Option Jvm.ClassFile.FieldType)), (Jvm.Cond.code ({ cls := "java/lang/Math", name := "max", desc := "(II)I" } : Jvm.MethodName) prog_15_method_65_code (2 : Nat) (Option.some Jvm.ClassFile.FieldType.int)), (Jvm.Cond.code ({ cls := "java/lang/Math", name := "min", desc := "(II)I" } : Jvm.MethodName) prog_15_method_69_code (2 : Nat) (Option.some Jvm.ClassFile.FieldType.int))]
def xt_Gc : List Jvm.Cond := (List.range xt_N).map xt_cw
def xt_G : List Jvm.Cond := xt_Gw ++ (xt_Gx ++ xt_Gc)
def xt_ws (y : Nat) : List Jvm.Cond := xt_cw y :: xt_G
def xt_nw : List Jvm.Cond := [(Jvm.Cond.methodLinkNest "BootNet" 34 ⟨"BootNet$Library", "<init>", "()V"⟩ "BootNet"), (Jvm.Cond.methodLinkNest "BootNet$Server" 21 ⟨"BootNet$Records", "<init>", "()V"⟩ "BootNet"), (Jvm.Cond.methodLinkNest "BootNet$Server" 51 ⟨"BootNet$Transfer", "<init>", "()V"⟩ "BootNet"), (Jvm.Cond.methodLinkNest "BootNet$Wire" 15 ⟨"BootNet$Message", "<init>", "()V"⟩ "BootNet"), (Jvm.Cond.arrayOver (.object "BootNet$Message")), (Jvm.Cond.arrayOver (.object "BootNet$Station")), (Jvm.Cond.arrayOver (.object "BootNet$Transfer")), (Jvm.Cond.arrayOver (.array .int))]
end
section
/-! What the tables say, row by row. Written by prog/gen_tables.py. -/
theorem xt_lk {α β : Type} [BEq α] [LawfulBEq α] {l : List (α × β)} {k : α} {v : β} (h : l.lookup k = some v) : (k, v) ∈ l := by
  induction l with
  | nil => cases h
  | cons a l ih =>
    obtain ⟨a1, a2⟩ := a
    rw [List.lookup_cons] at h
    split at h
    · rename_i he
      cases h
      rw [eq_of_beq he]
      exact List.mem_cons_self
    · exact List.mem_cons_of_mem _ (ih h)
theorem xt_gm (i : Nat) {w : Jvm.Cond} (h : xt_Gw[i]? = some w) : w ∈ xt_G := List.mem_append_left _ (List.mem_of_getElem? h)
theorem xt_gx (i : Nat) {w : Jvm.Cond} (h : xt_Gx[i]? = some w) : w ∈ xt_G := List.mem_append_right _ (List.mem_append_left _ (List.mem_of_getElem? h))
theorem xt_gc' {y : Nat} (h : y < xt_N) : xt_cw y ∈ xt_G := List.mem_append_right _ (List.mem_append_right _ (List.mem_map.mpr ⟨y, List.mem_range.mpr h, rfl⟩))
def xt_flq (e : (Nat × Nat) × (Nat × Nat)) : Prop := ∃ (C : String) (T : u_T) (N : Nat), xt_cs[e.2.1]? = some (C, T, N) ∧ e.2.2 < N ∧ (T e.2.2).1 = C ∧ Jvm.Cond.fieldLink (xt_cn e.1.1) e.1.2 C (T e.2.2).2.1 (T e.2.2).2.2.1 ∈ xt_G ∧ True
set_option maxRecDepth 100000 in
theorem xt_fl0 : xt_flq ((0, 12), (0, 0)) := ⟨_, _, _, rfl, by decide, rfl, xt_gm 141 (by rfl), trivial⟩
set_option maxRecDepth 100000 in
theorem xt_fl1 : xt_flq ((0, 21), (0, 1)) := ⟨_, _, _, rfl, by decide, rfl, xt_gm 142 (by rfl), trivial⟩
set_option maxRecDepth 100000 in
theorem xt_fl2 : xt_flq ((0, 28), (0, 2)) := ⟨_, _, _, rfl, by decide, rfl, xt_gm 143 (by rfl), trivial⟩
set_option maxRecDepth 100000 in
theorem xt_fl3 : xt_flq ((0, 35), (0, 3)) := ⟨_, _, _, rfl, by decide, rfl, xt_gm 144 (by rfl), trivial⟩
set_option maxRecDepth 100000 in
theorem xt_fl4 : xt_flq ((0, 44), (0, 4)) := ⟨_, _, _, rfl, by decide, rfl, xt_gm 145 (by rfl), trivial⟩
set_option maxRecDepth 100000 in
theorem xt_fl5 : xt_flq ((0, 50), (0, 5)) := ⟨_, _, _, rfl, by decide, rfl, xt_gm 146 (by rfl), trivial⟩
set_option maxRecDepth 100000 in
theorem xt_fl6 : xt_flq ((0, 100), (6, 0)) := ⟨_, _, _, rfl, by decide, rfl, xt_gm 147 (by rfl), trivial⟩
set_option maxRecDepth 100000 in
theorem xt_fl7 : xt_flq ((0, 109), (2, 3)) := ⟨_, _, _, rfl, by decide, rfl, xt_gm 148 (by rfl), trivial⟩
set_option maxRecDepth 100000 in
theorem xt_fl8 : xt_flq ((0, 112), (3, 5)) := ⟨_, _, _, rfl, by decide, rfl, xt_gm 149 (by rfl), trivial⟩
set_option maxRecDepth 100000 in
theorem xt_fl9 : xt_flq ((0, 121), (11, 1)) := ⟨_, _, _, rfl, by decide, rfl, xt_gm 150 (by rfl), trivial⟩
set_option maxRecDepth 100000 in
theorem xt_fl10 : xt_flq ((0, 128), (11, 0)) := ⟨_, _, _, rfl, by decide, rfl, xt_gm 151 (by rfl), trivial⟩
set_option maxRecDepth 100000 in
theorem xt_fl11 : xt_flq ((0, 136), (9, 3)) := ⟨_, _, _, rfl, by decide, rfl, xt_gm 152 (by rfl), trivial⟩
set_option maxRecDepth 100000 in
theorem xt_fl12 : xt_flq ((0, 148), (8, 5)) := ⟨_, _, _, rfl, by decide, rfl, xt_gm 153 (by rfl), trivial⟩
set_option maxRecDepth 100000 in
theorem xt_fl13 : xt_flq ((0, 157), (8, 6)) := ⟨_, _, _, rfl, by decide, rfl, xt_gm 154 (by rfl), trivial⟩
set_option maxRecDepth 100000 in
theorem xt_fl14 : xt_flq ((0, 161), (7, 3)) := ⟨_, _, _, rfl, by decide, rfl, xt_gm 155 (by rfl), trivial⟩
set_option maxRecDepth 100000 in
theorem xt_fl15 : xt_flq ((0, 168), (6, 5)) := ⟨_, _, _, rfl, by decide, rfl, xt_gm 156 (by rfl), trivial⟩
set_option maxRecDepth 100000 in
theorem xt_fl16 : xt_flq ((0, 171), (6, 1)) := ⟨_, _, _, rfl, by decide, rfl, xt_gm 157 (by rfl), trivial⟩
set_option maxRecDepth 100000 in
theorem xt_fl17 : xt_flq ((0, 188), (6, 3)) := ⟨_, _, _, rfl, by decide, rfl, xt_gm 158 (by rfl), trivial⟩
set_option maxRecDepth 100000 in
theorem xt_fl18 : xt_flq ((0, 204), (9, 5)) := ⟨_, _, _, rfl, by decide, rfl, xt_gm 159 (by rfl), trivial⟩
set_option maxRecDepth 100000 in
theorem xt_fl19 : xt_flq ((1, 11), (1, 2)) := ⟨_, _, _, rfl, by decide, rfl, xt_gm 160 (by rfl), trivial⟩
set_option maxRecDepth 100000 in
theorem xt_fl20 : xt_flq ((1, 17), (1, 3)) := ⟨_, _, _, rfl, by decide, rfl, xt_gm 161 (by rfl), trivial⟩
set_option maxRecDepth 100000 in
theorem xt_fl21 : xt_flq ((1, 20), (1, 4)) := ⟨_, _, _, rfl, by decide, rfl, xt_gm 162 (by rfl), trivial⟩
set_option maxRecDepth 100000 in
theorem xt_fl22 : xt_flq ((1, 23), (1, 5)) := ⟨_, _, _, rfl, by decide, rfl, xt_gm 163 (by rfl), trivial⟩
set_option maxRecDepth 100000 in
theorem xt_fl23 : xt_flq ((1, 26), (1, 6)) := ⟨_, _, _, rfl, by decide, rfl, xt_gm 164 (by rfl), trivial⟩
set_option maxRecDepth 100000 in
theorem xt_fl24 : xt_flq ((1, 29), (1, 0)) := ⟨_, _, _, rfl, by decide, rfl, xt_gm 165 (by rfl), trivial⟩
set_option maxRecDepth 100000 in
theorem xt_fl25 : xt_flq ((1, 33), (1, 1)) := ⟨_, _, _, rfl, by decide, rfl, xt_gm 166 (by rfl), trivial⟩
set_option maxRecDepth 100000 in
theorem xt_fl26 : xt_flq ((1, 43), (2, 3)) := ⟨_, _, _, rfl, by decide, rfl, xt_gm 167 (by rfl), trivial⟩
set_option maxRecDepth 100000 in
theorem xt_fl27 : xt_flq ((2, 13), (2, 0)) := ⟨_, _, _, rfl, by decide, rfl, xt_gm 168 (by rfl), trivial⟩
set_option maxRecDepth 100000 in
theorem xt_fl28 : xt_flq ((2, 17), (2, 1)) := ⟨_, _, _, rfl, by decide, rfl, xt_gm 169 (by rfl), trivial⟩
set_option maxRecDepth 100000 in
theorem xt_fl29 : xt_flq ((2, 22), (2, 2)) := ⟨_, _, _, rfl, by decide, rfl, xt_gm 170 (by rfl), trivial⟩
set_option maxRecDepth 100000 in
theorem xt_fl30 : xt_flq ((2, 34), (2, 4)) := ⟨_, _, _, rfl, by decide, rfl, xt_gm 171 (by rfl), trivial⟩
set_option maxRecDepth 100000 in
theorem xt_fl31 : xt_flq ((3, 11), (3, 0)) := ⟨_, _, _, rfl, by decide, rfl, xt_gm 172 (by rfl), trivial⟩
set_option maxRecDepth 100000 in
theorem xt_fl32 : xt_flq ((3, 15), (3, 1)) := ⟨_, _, _, rfl, by decide, rfl, xt_gm 173 (by rfl), trivial⟩
set_option maxRecDepth 100000 in
theorem xt_fl33 : xt_flq ((3, 18), (3, 2)) := ⟨_, _, _, rfl, by decide, rfl, xt_gm 174 (by rfl), trivial⟩
set_option maxRecDepth 100000 in
theorem xt_fl34 : xt_flq ((3, 21), (3, 3)) := ⟨_, _, _, rfl, by decide, rfl, xt_gm 175 (by rfl), trivial⟩
set_option maxRecDepth 100000 in
theorem xt_fl35 : xt_flq ((3, 24), (3, 4)) := ⟨_, _, _, rfl, by decide, rfl, xt_gm 176 (by rfl), trivial⟩
set_option maxRecDepth 100000 in
theorem xt_fl36 : xt_flq ((3, 34), (3, 5)) := ⟨_, _, _, rfl, by decide, rfl, xt_gm 177 (by rfl), trivial⟩
set_option maxRecDepth 100000 in
theorem xt_fl37 : xt_flq ((4, 11), (4, 0)) := ⟨_, _, _, rfl, by decide, rfl, xt_gm 178 (by rfl), trivial⟩
set_option maxRecDepth 100000 in
theorem xt_fl38 : xt_flq ((4, 14), (4, 1)) := ⟨_, _, _, rfl, by decide, rfl, xt_gm 179 (by rfl), trivial⟩
set_option maxRecDepth 100000 in
theorem xt_fl39 : xt_flq ((4, 18), (4, 2)) := ⟨_, _, _, rfl, by decide, rfl, xt_gm 180 (by rfl), trivial⟩
set_option maxRecDepth 100000 in
theorem xt_fl40 : xt_flq ((4, 21), (4, 3)) := ⟨_, _, _, rfl, by decide, rfl, xt_gm 181 (by rfl), trivial⟩
set_option maxRecDepth 100000 in
theorem xt_fl41 : xt_flq ((4, 24), (4, 4)) := ⟨_, _, _, rfl, by decide, rfl, xt_gm 182 (by rfl), trivial⟩
set_option maxRecDepth 100000 in
theorem xt_fl42 : xt_flq ((4, 48), (4, 5)) := ⟨_, _, _, rfl, by decide, rfl, xt_gm 183 (by rfl), trivial⟩
set_option maxRecDepth 100000 in
theorem xt_fl43 : xt_flq ((5, 15), (5, 4)) := ⟨_, _, _, rfl, by decide, rfl, xt_gm 184 (by rfl), trivial⟩
set_option maxRecDepth 100000 in
theorem xt_fl44 : xt_flq ((5, 19), (5, 0)) := ⟨_, _, _, rfl, by decide, rfl, xt_gm 185 (by rfl), trivial⟩
set_option maxRecDepth 100000 in
theorem xt_fl45 : xt_flq ((5, 23), (5, 1)) := ⟨_, _, _, rfl, by decide, rfl, xt_gm 186 (by rfl), trivial⟩
set_option maxRecDepth 100000 in
theorem xt_fl46 : xt_flq ((5, 27), (5, 2)) := ⟨_, _, _, rfl, by decide, rfl, xt_gm 187 (by rfl), trivial⟩
set_option maxRecDepth 100000 in
theorem xt_fl47 : xt_flq ((5, 31), (5, 3)) := ⟨_, _, _, rfl, by decide, rfl, xt_gm 188 (by rfl), trivial⟩
set_option maxRecDepth 100000 in
theorem xt_fl48 : xt_flq ((5, 35), (5, 11)) := ⟨_, _, _, rfl, by decide, rfl, xt_gm 189 (by rfl), trivial⟩
set_option maxRecDepth 100000 in
theorem xt_fl49 : xt_flq ((5, 38), (5, 10)) := ⟨_, _, _, rfl, by decide, rfl, xt_gm 190 (by rfl), trivial⟩
set_option maxRecDepth 100000 in
theorem xt_fl50 : xt_flq ((5, 41), (5, 6)) := ⟨_, _, _, rfl, by decide, rfl, xt_gm 191 (by rfl), trivial⟩
set_option maxRecDepth 100000 in
theorem xt_fl51 : xt_flq ((5, 44), (5, 5)) := ⟨_, _, _, rfl, by decide, rfl, xt_gm 192 (by rfl), trivial⟩
set_option maxRecDepth 100000 in
theorem xt_fl52 : xt_flq ((5, 47), (4, 5)) := ⟨_, _, _, rfl, by decide, rfl, xt_gm 193 (by rfl), trivial⟩
set_option maxRecDepth 100000 in
theorem xt_fl53 : xt_flq ((5, 54), (5, 7)) := ⟨_, _, _, rfl, by decide, rfl, xt_gm 194 (by rfl), trivial⟩
set_option maxRecDepth 100000 in
theorem xt_fl54 : xt_flq ((5, 63), (6, 3)) := ⟨_, _, _, rfl, by decide, rfl, xt_gm 195 (by rfl), trivial⟩
set_option maxRecDepth 100000 in
theorem xt_fl55 : xt_flq ((5, 66), (4, 2)) := ⟨_, _, _, rfl, by decide, rfl, xt_gm 196 (by rfl), trivial⟩
set_option maxRecDepth 100000 in
theorem xt_fl56 : xt_flq ((5, 69), (6, 4)) := ⟨_, _, _, rfl, by decide, rfl, xt_gm 197 (by rfl), trivial⟩
set_option maxRecDepth 100000 in
theorem xt_fl57 : xt_flq ((5, 80), (6, 6)) := ⟨_, _, _, rfl, by decide, rfl, xt_gm 198 (by rfl), trivial⟩
set_option maxRecDepth 100000 in
theorem xt_fl58 : xt_flq ((5, 81), (2, 2)) := ⟨_, _, _, rfl, by decide, rfl, xt_gm 199 (by rfl), trivial⟩
set_option maxRecDepth 100000 in
theorem xt_fl59 : xt_flq ((5, 97), (2, 3)) := ⟨_, _, _, rfl, by decide, rfl, xt_gm 200 (by rfl), trivial⟩
set_option maxRecDepth 100000 in
theorem xt_fl60 : xt_flq ((5, 100), (5, 9)) := ⟨_, _, _, rfl, by decide, rfl, xt_gm 201 (by rfl), trivial⟩
set_option maxRecDepth 100000 in
theorem xt_fl61 : xt_flq ((5, 103), (5, 8)) := ⟨_, _, _, rfl, by decide, rfl, xt_gm 202 (by rfl), trivial⟩
set_option maxRecDepth 100000 in
theorem xt_fl62 : xt_flq ((5, 106), (2, 1)) := ⟨_, _, _, rfl, by decide, rfl, xt_gm 203 (by rfl), trivial⟩
set_option maxRecDepth 100000 in
theorem xt_fl63 : xt_flq ((5, 109), (4, 3)) := ⟨_, _, _, rfl, by decide, rfl, xt_gm 204 (by rfl), trivial⟩
set_option maxRecDepth 100000 in
theorem xt_fl64 : xt_flq ((5, 116), (4, 4)) := ⟨_, _, _, rfl, by decide, rfl, xt_gm 205 (by rfl), trivial⟩
set_option maxRecDepth 100000 in
theorem xt_fl65 : xt_flq ((5, 119), (6, 7)) := ⟨_, _, _, rfl, by decide, rfl, xt_gm 206 (by rfl), trivial⟩
set_option maxRecDepth 100000 in
theorem xt_fl66 : xt_flq ((6, 11), (6, 7)) := ⟨_, _, _, rfl, by decide, rfl, xt_gm 207 (by rfl), trivial⟩
set_option maxRecDepth 100000 in
theorem xt_fl67 : xt_flq ((6, 21), (6, 6)) := ⟨_, _, _, rfl, by decide, rfl, xt_gm 208 (by rfl), trivial⟩
set_option maxRecDepth 100000 in
theorem xt_fl68 : xt_flq ((6, 25), (6, 0)) := ⟨_, _, _, rfl, by decide, rfl, xt_gm 209 (by rfl), trivial⟩
set_option maxRecDepth 100000 in
theorem xt_fl69 : xt_flq ((6, 28), (6, 1)) := ⟨_, _, _, rfl, by decide, rfl, xt_gm 210 (by rfl), trivial⟩
set_option maxRecDepth 100000 in
theorem xt_fl70 : xt_flq ((6, 31), (6, 2)) := ⟨_, _, _, rfl, by decide, rfl, xt_gm 211 (by rfl), trivial⟩
set_option maxRecDepth 100000 in
theorem xt_fl71 : xt_flq ((6, 34), (6, 3)) := ⟨_, _, _, rfl, by decide, rfl, xt_gm 212 (by rfl), trivial⟩
set_option maxRecDepth 100000 in
theorem xt_fl72 : xt_flq ((6, 37), (6, 4)) := ⟨_, _, _, rfl, by decide, rfl, xt_gm 213 (by rfl), trivial⟩
set_option maxRecDepth 100000 in
theorem xt_fl73 : xt_flq ((6, 40), (6, 5)) := ⟨_, _, _, rfl, by decide, rfl, xt_gm 214 (by rfl), trivial⟩
set_option maxRecDepth 100000 in
theorem xt_fl74 : xt_flq ((7, 9), (7, 0)) := ⟨_, _, _, rfl, by decide, rfl, xt_gm 215 (by rfl), trivial⟩
set_option maxRecDepth 100000 in
theorem xt_fl75 : xt_flq ((7, 13), (7, 1)) := ⟨_, _, _, rfl, by decide, rfl, xt_gm 216 (by rfl), trivial⟩
set_option maxRecDepth 100000 in
theorem xt_fl76 : xt_flq ((7, 16), (7, 2)) := ⟨_, _, _, rfl, by decide, rfl, xt_gm 217 (by rfl), trivial⟩
set_option maxRecDepth 100000 in
theorem xt_fl77 : xt_flq ((7, 19), (7, 3)) := ⟨_, _, _, rfl, by decide, rfl, xt_gm 218 (by rfl), trivial⟩
set_option maxRecDepth 100000 in
theorem xt_fl78 : xt_flq ((8, 13), (8, 4)) := ⟨_, _, _, rfl, by decide, rfl, xt_gm 219 (by rfl), trivial⟩
set_option maxRecDepth 100000 in
theorem xt_fl79 : xt_flq ((8, 22), (8, 6)) := ⟨_, _, _, rfl, by decide, rfl, xt_gm 220 (by rfl), trivial⟩
set_option maxRecDepth 100000 in
theorem xt_fl80 : xt_flq ((8, 26), (8, 0)) := ⟨_, _, _, rfl, by decide, rfl, xt_gm 221 (by rfl), trivial⟩
set_option maxRecDepth 100000 in
theorem xt_fl81 : xt_flq ((8, 30), (8, 1)) := ⟨_, _, _, rfl, by decide, rfl, xt_gm 222 (by rfl), trivial⟩
set_option maxRecDepth 100000 in
theorem xt_fl82 : xt_flq ((8, 34), (8, 2)) := ⟨_, _, _, rfl, by decide, rfl, xt_gm 223 (by rfl), trivial⟩
set_option maxRecDepth 100000 in
theorem xt_fl83 : xt_flq ((8, 38), (8, 3)) := ⟨_, _, _, rfl, by decide, rfl, xt_gm 224 (by rfl), trivial⟩
set_option maxRecDepth 100000 in
theorem xt_fl84 : xt_flq ((8, 47), (8, 5)) := ⟨_, _, _, rfl, by decide, rfl, xt_gm 225 (by rfl), trivial⟩
set_option maxRecDepth 100000 in
theorem xt_fl85 : xt_flq ((8, 52), (6, 0)) := ⟨_, _, _, rfl, by decide, rfl, xt_gm 226 (by rfl), trivial⟩
set_option maxRecDepth 100000 in
theorem xt_fl86 : xt_flq ((8, 77), (10, 0)) := ⟨_, _, _, rfl, by decide, rfl, xt_gm 227 (by rfl), trivial⟩
set_option maxRecDepth 100000 in
theorem xt_fl87 : xt_flq ((8, 81), (7, 3)) := ⟨_, _, _, rfl, by decide, rfl, xt_gm 228 (by rfl), trivial⟩
set_option maxRecDepth 100000 in
theorem xt_fl88 : xt_flq ((8, 84), (7, 0)) := ⟨_, _, _, rfl, by decide, rfl, xt_gm 229 (by rfl), trivial⟩
set_option maxRecDepth 100000 in
theorem xt_fl89 : xt_flq ((8, 88), (7, 1)) := ⟨_, _, _, rfl, by decide, rfl, xt_gm 230 (by rfl), trivial⟩
set_option maxRecDepth 100000 in
theorem xt_fl90 : xt_flq ((8, 91), (7, 2)) := ⟨_, _, _, rfl, by decide, rfl, xt_gm 231 (by rfl), trivial⟩
set_option maxRecDepth 100000 in
theorem xt_fl91 : xt_flq ((8, 98), (3, 5)) := ⟨_, _, _, rfl, by decide, rfl, xt_gm 232 (by rfl), trivial⟩
set_option maxRecDepth 100000 in
theorem xt_fl92 : xt_flq ((8, 101), (2, 3)) := ⟨_, _, _, rfl, by decide, rfl, xt_gm 233 (by rfl), trivial⟩
set_option maxRecDepth 100000 in
theorem xt_fl93 : xt_flq ((8, 106), (10, 4)) := ⟨_, _, _, rfl, by decide, rfl, xt_gm 234 (by rfl), trivial⟩
set_option maxRecDepth 100000 in
theorem xt_fl94 : xt_flq ((8, 109), (10, 3)) := ⟨_, _, _, rfl, by decide, rfl, xt_gm 235 (by rfl), trivial⟩
set_option maxRecDepth 100000 in
theorem xt_fl95 : xt_flq ((8, 112), (2, 1)) := ⟨_, _, _, rfl, by decide, rfl, xt_gm 236 (by rfl), trivial⟩
set_option maxRecDepth 100000 in
theorem xt_fl96 : xt_flq ((8, 119), (6, 1)) := ⟨_, _, _, rfl, by decide, rfl, xt_gm 237 (by rfl), trivial⟩
set_option maxRecDepth 100000 in
theorem xt_fl97 : xt_flq ((8, 135), (6, 2)) := ⟨_, _, _, rfl, by decide, rfl, xt_gm 238 (by rfl), trivial⟩
set_option maxRecDepth 100000 in
theorem xt_fl98 : xt_flq ((8, 162), (6, 3)) := ⟨_, _, _, rfl, by decide, rfl, xt_gm 239 (by rfl), trivial⟩
set_option maxRecDepth 100000 in
theorem xt_fl99 : xt_flq ((8, 184), (2, 0)) := ⟨_, _, _, rfl, by decide, rfl, xt_gm 240 (by rfl), trivial⟩
set_option maxRecDepth 100000 in
theorem xt_fl100 : xt_flq ((8, 200), (10, 1)) := ⟨_, _, _, rfl, by decide, rfl, xt_gm 241 (by rfl), trivial⟩
set_option maxRecDepth 100000 in
theorem xt_fl101 : xt_flq ((8, 203), (10, 2)) := ⟨_, _, _, rfl, by decide, rfl, xt_gm 242 (by rfl), trivial⟩
set_option maxRecDepth 100000 in
theorem xt_fl102 : xt_flq ((8, 206), (6, 4)) := ⟨_, _, _, rfl, by decide, rfl, xt_gm 243 (by rfl), trivial⟩
set_option maxRecDepth 100000 in
theorem xt_fl103 : xt_flq ((8, 207), (10, 5)) := ⟨_, _, _, rfl, by decide, rfl, xt_gm 244 (by rfl), trivial⟩
set_option maxRecDepth 100000 in
theorem xt_fl104 : xt_flq ((8, 210), (2, 2)) := ⟨_, _, _, rfl, by decide, rfl, xt_gm 245 (by rfl), trivial⟩
set_option maxRecDepth 100000 in
theorem xt_fl105 : xt_flq ((8, 217), (6, 6)) := ⟨_, _, _, rfl, by decide, rfl, xt_gm 246 (by rfl), trivial⟩
set_option maxRecDepth 100000 in
theorem xt_fl106 : xt_flq ((9, 11), (9, 4)) := ⟨_, _, _, rfl, by decide, rfl, xt_gm 247 (by rfl), trivial⟩
set_option maxRecDepth 100000 in
theorem xt_fl107 : xt_flq ((9, 17), (9, 5)) := ⟨_, _, _, rfl, by decide, rfl, xt_gm 248 (by rfl), trivial⟩
set_option maxRecDepth 100000 in
theorem xt_fl108 : xt_flq ((9, 20), (9, 0)) := ⟨_, _, _, rfl, by decide, rfl, xt_gm 249 (by rfl), trivial⟩
set_option maxRecDepth 100000 in
theorem xt_fl109 : xt_flq ((9, 23), (9, 1)) := ⟨_, _, _, rfl, by decide, rfl, xt_gm 250 (by rfl), trivial⟩
set_option maxRecDepth 100000 in
theorem xt_fl110 : xt_flq ((9, 27), (9, 2)) := ⟨_, _, _, rfl, by decide, rfl, xt_gm 251 (by rfl), trivial⟩
set_option maxRecDepth 100000 in
theorem xt_fl111 : xt_flq ((9, 36), (9, 3)) := ⟨_, _, _, rfl, by decide, rfl, xt_gm 252 (by rfl), trivial⟩
set_option maxRecDepth 100000 in
theorem xt_fl112 : xt_flq ((9, 40), (9, 8)) := ⟨_, _, _, rfl, by decide, rfl, xt_gm 253 (by rfl), trivial⟩
set_option maxRecDepth 100000 in
theorem xt_fl113 : xt_flq ((9, 43), (9, 11)) := ⟨_, _, _, rfl, by decide, rfl, xt_gm 254 (by rfl), trivial⟩
set_option maxRecDepth 100000 in
theorem xt_fl114 : xt_flq ((9, 52), (6, 0)) := ⟨_, _, _, rfl, by decide, rfl, xt_gm 255 (by rfl), trivial⟩
set_option maxRecDepth 100000 in
theorem xt_fl115 : xt_flq ((9, 80), (2, 3)) := ⟨_, _, _, rfl, by decide, rfl, xt_gm 256 (by rfl), trivial⟩
set_option maxRecDepth 100000 in
theorem xt_fl116 : xt_flq ((9, 85), (9, 9)) := ⟨_, _, _, rfl, by decide, rfl, xt_gm 257 (by rfl), trivial⟩
set_option maxRecDepth 100000 in
theorem xt_fl117 : xt_flq ((9, 94), (9, 7)) := ⟨_, _, _, rfl, by decide, rfl, xt_gm 258 (by rfl), trivial⟩
set_option maxRecDepth 100000 in
theorem xt_fl118 : xt_flq ((9, 97), (2, 0)) := ⟨_, _, _, rfl, by decide, rfl, xt_gm 259 (by rfl), trivial⟩
set_option maxRecDepth 100000 in
theorem xt_fl119 : xt_flq ((9, 110), (9, 6)) := ⟨_, _, _, rfl, by decide, rfl, xt_gm 260 (by rfl), trivial⟩
set_option maxRecDepth 100000 in
theorem xt_fl120 : xt_flq ((9, 113), (5, 11)) := ⟨_, _, _, rfl, by decide, rfl, xt_gm 261 (by rfl), trivial⟩
set_option maxRecDepth 100000 in
theorem xt_fl121 : xt_flq ((9, 116), (5, 10)) := ⟨_, _, _, rfl, by decide, rfl, xt_gm 262 (by rfl), trivial⟩
set_option maxRecDepth 100000 in
theorem xt_fl122 : xt_flq ((9, 126), (9, 10)) := ⟨_, _, _, rfl, by decide, rfl, xt_gm 263 (by rfl), trivial⟩
set_option maxRecDepth 100000 in
theorem xt_fl123 : xt_flq ((9, 141), (2, 1)) := ⟨_, _, _, rfl, by decide, rfl, xt_gm 264 (by rfl), trivial⟩
set_option maxRecDepth 100000 in
theorem xt_fl124 : xt_flq ((9, 151), (6, 2)) := ⟨_, _, _, rfl, by decide, rfl, xt_gm 265 (by rfl), trivial⟩
set_option maxRecDepth 100000 in
theorem xt_fl125 : xt_flq ((9, 152), (6, 3)) := ⟨_, _, _, rfl, by decide, rfl, xt_gm 266 (by rfl), trivial⟩
set_option maxRecDepth 100000 in
theorem xt_fl126 : xt_flq ((11, 11), (11, 0)) := ⟨_, _, _, rfl, by decide, rfl, xt_gm 267 (by rfl), trivial⟩
set_option maxRecDepth 100000 in
theorem xt_fl127 : xt_flq ((11, 16), (11, 2)) := ⟨_, _, _, rfl, by decide, rfl, xt_gm 268 (by rfl), trivial⟩
set_option maxRecDepth 100000 in
theorem xt_fl128 : xt_flq ((11, 20), (11, 3)) := ⟨_, _, _, rfl, by decide, rfl, xt_gm 269 (by rfl), trivial⟩
set_option maxRecDepth 100000 in
theorem xt_fl129 : xt_flq ((11, 23), (11, 1)) := ⟨_, _, _, rfl, by decide, rfl, xt_gm 270 (by rfl), trivial⟩
set_option maxRecDepth 100000 in
theorem xt_fl130 : xt_flq ((11, 27), (6, 0)) := ⟨_, _, _, rfl, by decide, rfl, xt_gm 271 (by rfl), trivial⟩
set_option maxRecDepth 100000 in
theorem xt_fl131 : xt_flq ((11, 30), (6, 1)) := ⟨_, _, _, rfl, by decide, rfl, xt_gm 272 (by rfl), trivial⟩
set_option maxRecDepth 100000 in
theorem xt_fl132 : xt_flq ((11, 33), (6, 5)) := ⟨_, _, _, rfl, by decide, rfl, xt_gm 273 (by rfl), trivial⟩
set_option maxRecDepth 100000 in
theorem xt_fl133 : xt_flq ((11, 36), (6, 2)) := ⟨_, _, _, rfl, by decide, rfl, xt_gm 274 (by rfl), trivial⟩
set_option maxRecDepth 100000 in
theorem xt_fl134 : xt_flq ((11, 39), (6, 3)) := ⟨_, _, _, rfl, by decide, rfl, xt_gm 275 (by rfl), trivial⟩
set_option maxRecDepth 100000 in
theorem xt_fl135 : xt_flq ((11, 42), (6, 4)) := ⟨_, _, _, rfl, by decide, rfl, xt_gm 276 (by rfl), trivial⟩
set_option maxRecDepth 100000 in
theorem xt_fl136 : xt_flq ((11, 45), (6, 6)) := ⟨_, _, _, rfl, by decide, rfl, xt_gm 277 (by rfl), trivial⟩
set_option maxRecDepth 100000 in
theorem xt_fl137 : xt_flq ((11, 52), (6, 7)) := ⟨_, _, _, rfl, by decide, rfl, xt_gm 278 (by rfl), trivial⟩
set_option maxRecDepth 100000 in
theorem xt_fl138 : xt_flq ((12, 7), (12, 5)) := ⟨_, _, _, rfl, by decide, rfl, xt_gm 279 (by rfl), trivial⟩
set_option maxRecDepth 100000 in
theorem xt_fl139 : xt_flq ((12, 13), (12, 6)) := ⟨_, _, _, rfl, by decide, rfl, xt_gm 280 (by rfl), trivial⟩
set_option maxRecDepth 100000 in
theorem xt_fl140 : xt_flq ((12, 16), (12, 7)) := ⟨_, _, _, rfl, by decide, rfl, xt_gm 281 (by rfl), trivial⟩
set_option maxRecDepth 100000 in
theorem xt_fl141 : xt_flq ((12, 19), (12, 8)) := ⟨_, _, _, rfl, by decide, rfl, xt_gm 282 (by rfl), trivial⟩
set_option maxRecDepth 100000 in
theorem xt_fl142 : xt_flq ((12, 23), (12, 10)) := ⟨_, _, _, rfl, by decide, rfl, xt_gm 283 (by rfl), trivial⟩
set_option maxRecDepth 100000 in
theorem xt_fl143 : xt_flq ((12, 26), (12, 11)) := ⟨_, _, _, rfl, by decide, rfl, xt_gm 284 (by rfl), trivial⟩
set_option maxRecDepth 100000 in
theorem xt_fl144 : xt_flq ((12, 29), (12, 12)) := ⟨_, _, _, rfl, by decide, rfl, xt_gm 285 (by rfl), trivial⟩
set_option maxRecDepth 100000 in
theorem xt_fl145 : xt_flq ((12, 32), (12, 13)) := ⟨_, _, _, rfl, by decide, rfl, xt_gm 286 (by rfl), trivial⟩
set_option maxRecDepth 100000 in
theorem xt_fl146 : xt_flq ((12, 35), (12, 14)) := ⟨_, _, _, rfl, by decide, rfl, xt_gm 287 (by rfl), trivial⟩
set_option maxRecDepth 100000 in
theorem xt_fl147 : xt_flq ((12, 38), (12, 15)) := ⟨_, _, _, rfl, by decide, rfl, xt_gm 288 (by rfl), trivial⟩
set_option maxRecDepth 100000 in
theorem xt_fl148 : xt_flq ((12, 41), (12, 16)) := ⟨_, _, _, rfl, by decide, rfl, xt_gm 289 (by rfl), trivial⟩
set_option maxRecDepth 100000 in
theorem xt_fl149 : xt_flq ((12, 44), (12, 17)) := ⟨_, _, _, rfl, by decide, rfl, xt_gm 290 (by rfl), trivial⟩
set_option maxRecDepth 100000 in
theorem xt_fl150 : xt_flq ((12, 47), (12, 18)) := ⟨_, _, _, rfl, by decide, rfl, xt_gm 291 (by rfl), trivial⟩
set_option maxRecDepth 100000 in
theorem xt_fl151 : xt_flq ((12, 50), (12, 19)) := ⟨_, _, _, rfl, by decide, rfl, xt_gm 292 (by rfl), trivial⟩
set_option maxRecDepth 100000 in
theorem xt_fl152 : xt_flq ((12, 53), (12, 21)) := ⟨_, _, _, rfl, by decide, rfl, xt_gm 293 (by rfl), trivial⟩
set_option maxRecDepth 100000 in
theorem xt_fl153 : xt_flq ((12, 56), (12, 22)) := ⟨_, _, _, rfl, by decide, rfl, xt_gm 294 (by rfl), trivial⟩
set_option maxRecDepth 100000 in
theorem xt_fl154 : xt_flq ((12, 59), (12, 23)) := ⟨_, _, _, rfl, by decide, rfl, xt_gm 295 (by rfl), trivial⟩
set_option maxRecDepth 100000 in
theorem xt_fl155 : xt_flq ((12, 62), (12, 24)) := ⟨_, _, _, rfl, by decide, rfl, xt_gm 296 (by rfl), trivial⟩
set_option maxRecDepth 100000 in
theorem xt_fl156 : xt_flq ((12, 65), (12, 25)) := ⟨_, _, _, rfl, by decide, rfl, xt_gm 297 (by rfl), trivial⟩
set_option maxRecDepth 100000 in
theorem xt_fl157 : xt_flq ((12, 68), (12, 26)) := ⟨_, _, _, rfl, by decide, rfl, xt_gm 298 (by rfl), trivial⟩
set_option maxRecDepth 100000 in
theorem xt_fl158 : xt_flq ((12, 71), (12, 27)) := ⟨_, _, _, rfl, by decide, rfl, xt_gm 299 (by rfl), trivial⟩
set_option maxRecDepth 100000 in
theorem xt_fl159 : xt_flq ((12, 74), (12, 28)) := ⟨_, _, _, rfl, by decide, rfl, xt_gm 300 (by rfl), trivial⟩
set_option maxRecDepth 100000 in
theorem xt_fl160 : xt_flq ((12, 77), (12, 30)) := ⟨_, _, _, rfl, by decide, rfl, xt_gm 301 (by rfl), trivial⟩
set_option maxRecDepth 100000 in
theorem xt_fl161 : xt_flq ((12, 80), (12, 31)) := ⟨_, _, _, rfl, by decide, rfl, xt_gm 302 (by rfl), trivial⟩
set_option maxRecDepth 100000 in
theorem xt_fl162 : xt_flq ((12, 83), (12, 32)) := ⟨_, _, _, rfl, by decide, rfl, xt_gm 303 (by rfl), trivial⟩
set_option maxRecDepth 100000 in
theorem xt_fl163 : xt_flq ((12, 86), (12, 33)) := ⟨_, _, _, rfl, by decide, rfl, xt_gm 304 (by rfl), trivial⟩
set_option maxRecDepth 100000 in
theorem xt_fl164 : xt_flq ((12, 89), (12, 34)) := ⟨_, _, _, rfl, by decide, rfl, xt_gm 305 (by rfl), trivial⟩
set_option maxRecDepth 100000 in
theorem xt_fl165 : xt_flq ((12, 92), (12, 35)) := ⟨_, _, _, rfl, by decide, rfl, xt_gm 306 (by rfl), trivial⟩
set_option maxRecDepth 100000 in
theorem xt_fl166 : xt_flq ((12, 95), (12, 36)) := ⟨_, _, _, rfl, by decide, rfl, xt_gm 307 (by rfl), trivial⟩
set_option maxRecDepth 100000 in
theorem xt_fl167 : xt_flq ((12, 98), (12, 37)) := ⟨_, _, _, rfl, by decide, rfl, xt_gm 308 (by rfl), trivial⟩
set_option maxRecDepth 100000 in
theorem xt_fl168 : xt_flq ((12, 101), (12, 39)) := ⟨_, _, _, rfl, by decide, rfl, xt_gm 309 (by rfl), trivial⟩
set_option maxRecDepth 100000 in
theorem xt_fl169 : xt_flq ((12, 104), (12, 40)) := ⟨_, _, _, rfl, by decide, rfl, xt_gm 310 (by rfl), trivial⟩
set_option maxRecDepth 100000 in
theorem xt_fl170 : xt_flq ((12, 107), (12, 41)) := ⟨_, _, _, rfl, by decide, rfl, xt_gm 311 (by rfl), trivial⟩
set_option maxRecDepth 100000 in
theorem xt_fl171 : xt_flq ((12, 110), (12, 42)) := ⟨_, _, _, rfl, by decide, rfl, xt_gm 312 (by rfl), trivial⟩
set_option maxRecDepth 100000 in
theorem xt_fl172 : xt_flq ((12, 113), (12, 43)) := ⟨_, _, _, rfl, by decide, rfl, xt_gm 313 (by rfl), trivial⟩
set_option maxRecDepth 100000 in
theorem xt_fl173 : xt_flq ((12, 116), (12, 44)) := ⟨_, _, _, rfl, by decide, rfl, xt_gm 314 (by rfl), trivial⟩
set_option maxRecDepth 100000 in
theorem xt_fl174 : xt_flq ((12, 119), (12, 45)) := ⟨_, _, _, rfl, by decide, rfl, xt_gm 315 (by rfl), trivial⟩
set_option maxRecDepth 100000 in
theorem xt_fl175 : xt_flq ((12, 122), (12, 46)) := ⟨_, _, _, rfl, by decide, rfl, xt_gm 316 (by rfl), trivial⟩
set_option maxRecDepth 100000 in
theorem xt_fl176 : xt_flq ((12, 125), (12, 47)) := ⟨_, _, _, rfl, by decide, rfl, xt_gm 317 (by rfl), trivial⟩
set_option maxRecDepth 100000 in
theorem xt_fl177 : xt_flq ((12, 128), (12, 48)) := ⟨_, _, _, rfl, by decide, rfl, xt_gm 318 (by rfl), trivial⟩
set_option maxRecDepth 100000 in
theorem xt_fl178 : xt_flq ((12, 131), (12, 49)) := ⟨_, _, _, rfl, by decide, rfl, xt_gm 319 (by rfl), trivial⟩
set_option maxRecDepth 100000 in
theorem xt_fl179 : xt_flq ((12, 134), (12, 50)) := ⟨_, _, _, rfl, by decide, rfl, xt_gm 320 (by rfl), trivial⟩
set_option maxRecDepth 100000 in
theorem xt_fl180 : xt_flq ((12, 137), (12, 51)) := ⟨_, _, _, rfl, by decide, rfl, xt_gm 321 (by rfl), trivial⟩
set_option maxRecDepth 100000 in
theorem xt_fl181 : xt_flq ((12, 140), (12, 52)) := ⟨_, _, _, rfl, by decide, rfl, xt_gm 322 (by rfl), trivial⟩
set_option maxRecDepth 100000 in
theorem xt_fl182 : xt_flq ((12, 143), (12, 53)) := ⟨_, _, _, rfl, by decide, rfl, xt_gm 323 (by rfl), trivial⟩
set_option maxRecDepth 100000 in
theorem xt_fl183 : xt_flq ((12, 146), (12, 54)) := ⟨_, _, _, rfl, by decide, rfl, xt_gm 324 (by rfl), trivial⟩
set_option maxRecDepth 100000 in
theorem xt_fl184 : xt_flq ((12, 149), (12, 55)) := ⟨_, _, _, rfl, by decide, rfl, xt_gm 325 (by rfl), trivial⟩
set_option maxRecDepth 100000 in
theorem xt_fl185 : xt_flq ((12, 152), (12, 56)) := ⟨_, _, _, rfl, by decide, rfl, xt_gm 326 (by rfl), trivial⟩
set_option maxRecDepth 100000 in
theorem xt_fl186 : xt_flq ((12, 155), (12, 57)) := ⟨_, _, _, rfl, by decide, rfl, xt_gm 327 (by rfl), trivial⟩
set_option maxRecDepth 100000 in
theorem xt_fl187 : xt_flq ((12, 158), (12, 0)) := ⟨_, _, _, rfl, by decide, rfl, xt_gm 328 (by rfl), trivial⟩
set_option maxRecDepth 100000 in
theorem xt_fl188 : xt_flq ((12, 162), (12, 1)) := ⟨_, _, _, rfl, by decide, rfl, xt_gm 329 (by rfl), trivial⟩
set_option maxRecDepth 100000 in
theorem xt_fl189 : xt_flq ((12, 165), (12, 2)) := ⟨_, _, _, rfl, by decide, rfl, xt_gm 330 (by rfl), trivial⟩
set_option maxRecDepth 100000 in
theorem xt_fl190 : xt_flq ((12, 168), (12, 38)) := ⟨_, _, _, rfl, by decide, rfl, xt_gm 331 (by rfl), trivial⟩
set_option maxRecDepth 100000 in
theorem xt_fl191 : xt_flq ((12, 181), (12, 20)) := ⟨_, _, _, rfl, by decide, rfl, xt_gm 332 (by rfl), trivial⟩
set_option maxRecDepth 100000 in
theorem xt_fl192 : xt_flq ((12, 189), (12, 9)) := ⟨_, _, _, rfl, by decide, rfl, xt_gm 333 (by rfl), trivial⟩
set_option maxRecDepth 100000 in
theorem xt_fl193 : xt_flq ((12, 220), (12, 3)) := ⟨_, _, _, rfl, by decide, rfl, xt_gm 334 (by rfl), trivial⟩
set_option maxRecDepth 100000 in
theorem xt_fl194 : xt_flq ((12, 254), (12, 29)) := ⟨_, _, _, rfl, by decide, rfl, xt_gm 335 (by rfl), trivial⟩
set_option maxRecDepth 100000 in
theorem xt_fl195 : xt_flq ((12, 263), (12, 4)) := ⟨_, _, _, rfl, by decide, rfl, xt_gm 336 (by rfl), trivial⟩
set_option maxRecDepth 100000 in
theorem xt_fla : ∀ e ∈ xt_fl, xt_flq e := List.forall_mem_cons.mpr ⟨xt_fl0, List.forall_mem_cons.mpr ⟨xt_fl1, List.forall_mem_cons.mpr ⟨xt_fl2, List.forall_mem_cons.mpr ⟨xt_fl3, List.forall_mem_cons.mpr ⟨xt_fl4, List.forall_mem_cons.mpr ⟨xt_fl5, List.forall_mem_cons.mpr ⟨xt_fl6, List.forall_mem_cons.mpr ⟨xt_fl7, List.forall_mem_cons.mpr ⟨xt_fl8, List.forall_mem_cons.mpr ⟨xt_fl9, List.forall_mem_cons.mpr ⟨xt_fl10, List.forall_mem_cons.mpr ⟨xt_fl11, List.forall_mem_cons.mpr ⟨xt_fl12, List.forall_mem_cons.mpr ⟨xt_fl13, List.forall_mem_cons.mpr ⟨xt_fl14, List.forall_mem_cons.mpr ⟨xt_fl15, List.forall_mem_cons.mpr ⟨xt_fl16, List.forall_mem_cons.mpr ⟨xt_fl17, List.forall_mem_cons.mpr ⟨xt_fl18, List.forall_mem_cons.mpr ⟨xt_fl19, List.forall_mem_cons.mpr ⟨xt_fl20, List.forall_mem_cons.mpr ⟨xt_fl21, List.forall_mem_cons.mpr ⟨xt_fl22, List.forall_mem_cons.mpr ⟨xt_fl23, List.forall_mem_cons.mpr ⟨xt_fl24, List.forall_mem_cons.mpr ⟨xt_fl25, List.forall_mem_cons.mpr ⟨xt_fl26, List.forall_mem_cons.mpr ⟨xt_fl27, List.forall_mem_cons.mpr ⟨xt_fl28, List.forall_mem_cons.mpr ⟨xt_fl29, List.forall_mem_cons.mpr ⟨xt_fl30, List.forall_mem_cons.mpr ⟨xt_fl31, List.forall_mem_cons.mpr ⟨xt_fl32, List.forall_mem_cons.mpr ⟨xt_fl33, List.forall_mem_cons.mpr ⟨xt_fl34, List.forall_mem_cons.mpr ⟨xt_fl35, List.forall_mem_cons.mpr ⟨xt_fl36, List.forall_mem_cons.mpr ⟨xt_fl37, List.forall_mem_cons.mpr ⟨xt_fl38, List.forall_mem_cons.mpr ⟨xt_fl39, List.forall_mem_cons.mpr ⟨xt_fl40, List.forall_mem_cons.mpr ⟨xt_fl41, List.forall_mem_cons.mpr ⟨xt_fl42, List.forall_mem_cons.mpr ⟨xt_fl43, List.forall_mem_cons.mpr ⟨xt_fl44, List.forall_mem_cons.mpr ⟨xt_fl45, List.forall_mem_cons.mpr ⟨xt_fl46, List.forall_mem_cons.mpr ⟨xt_fl47, List.forall_mem_cons.mpr ⟨xt_fl48, List.forall_mem_cons.mpr ⟨xt_fl49, List.forall_mem_cons.mpr ⟨xt_fl50, List.forall_mem_cons.mpr ⟨xt_fl51, List.forall_mem_cons.mpr ⟨xt_fl52, List.forall_mem_cons.mpr ⟨xt_fl53, List.forall_mem_cons.mpr ⟨xt_fl54, List.forall_mem_cons.mpr ⟨xt_fl55, List.forall_mem_cons.mpr ⟨xt_fl56, List.forall_mem_cons.mpr ⟨xt_fl57, List.forall_mem_cons.mpr ⟨xt_fl58, List.forall_mem_cons.mpr ⟨xt_fl59, List.forall_mem_cons.mpr ⟨xt_fl60, List.forall_mem_cons.mpr ⟨xt_fl61, List.forall_mem_cons.mpr ⟨xt_fl62, List.forall_mem_cons.mpr ⟨xt_fl63, List.forall_mem_cons.mpr ⟨xt_fl64, List.forall_mem_cons.mpr ⟨xt_fl65, List.forall_mem_cons.mpr ⟨xt_fl66, List.forall_mem_cons.mpr ⟨xt_fl67, List.forall_mem_cons.mpr ⟨xt_fl68, List.forall_mem_cons.mpr ⟨xt_fl69, List.forall_mem_cons.mpr ⟨xt_fl70, List.forall_mem_cons.mpr ⟨xt_fl71, List.forall_mem_cons.mpr ⟨xt_fl72, List.forall_mem_cons.mpr ⟨xt_fl73, List.forall_mem_cons.mpr ⟨xt_fl74, List.forall_mem_cons.mpr ⟨xt_fl75, List.forall_mem_cons.mpr ⟨xt_fl76, List.forall_mem_cons.mpr ⟨xt_fl77, List.forall_mem_cons.mpr ⟨xt_fl78, List.forall_mem_cons.mpr ⟨xt_fl79, List.forall_mem_cons.mpr ⟨xt_fl80, List.forall_mem_cons.mpr ⟨xt_fl81, List.forall_mem_cons.mpr ⟨xt_fl82, List.forall_mem_cons.mpr ⟨xt_fl83, List.forall_mem_cons.mpr ⟨xt_fl84, List.forall_mem_cons.mpr ⟨xt_fl85, List.forall_mem_cons.mpr ⟨xt_fl86, List.forall_mem_cons.mpr ⟨xt_fl87, List.forall_mem_cons.mpr ⟨xt_fl88, List.forall_mem_cons.mpr ⟨xt_fl89, List.forall_mem_cons.mpr ⟨xt_fl90, List.forall_mem_cons.mpr ⟨xt_fl91, List.forall_mem_cons.mpr ⟨xt_fl92, List.forall_mem_cons.mpr ⟨xt_fl93, List.forall_mem_cons.mpr ⟨xt_fl94, List.forall_mem_cons.mpr ⟨xt_fl95, List.forall_mem_cons.mpr ⟨xt_fl96, List.forall_mem_cons.mpr ⟨xt_fl97, List.forall_mem_cons.mpr ⟨xt_fl98, List.forall_mem_cons.mpr ⟨xt_fl99, List.forall_mem_cons.mpr ⟨xt_fl100, List.forall_mem_cons.mpr ⟨xt_fl101, List.forall_mem_cons.mpr ⟨xt_fl102, List.forall_mem_cons.mpr ⟨xt_fl103, List.forall_mem_cons.mpr ⟨xt_fl104, List.forall_mem_cons.mpr ⟨xt_fl105, List.forall_mem_cons.mpr ⟨xt_fl106, List.forall_mem_cons.mpr ⟨xt_fl107, List.forall_mem_cons.mpr ⟨xt_fl108, List.forall_mem_cons.mpr ⟨xt_fl109, List.forall_mem_cons.mpr ⟨xt_fl110, List.forall_mem_cons.mpr ⟨xt_fl111, List.forall_mem_cons.mpr ⟨xt_fl112, List.forall_mem_cons.mpr ⟨xt_fl113, List.forall_mem_cons.mpr ⟨xt_fl114, List.forall_mem_cons.mpr ⟨xt_fl115, List.forall_mem_cons.mpr ⟨xt_fl116, List.forall_mem_cons.mpr ⟨xt_fl117, List.forall_mem_cons.mpr ⟨xt_fl118, List.forall_mem_cons.mpr ⟨xt_fl119, List.forall_mem_cons.mpr ⟨xt_fl120, List.forall_mem_cons.mpr ⟨xt_fl121, List.forall_mem_cons.mpr ⟨xt_fl122, List.forall_mem_cons.mpr ⟨xt_fl123, List.forall_mem_cons.mpr ⟨xt_fl124, List.forall_mem_cons.mpr ⟨xt_fl125, List.forall_mem_cons.mpr ⟨xt_fl126, List.forall_mem_cons.mpr ⟨xt_fl127, List.forall_mem_cons.mpr ⟨xt_fl128, List.forall_mem_cons.mpr ⟨xt_fl129, List.forall_mem_cons.mpr ⟨xt_fl130, List.forall_mem_cons.mpr ⟨xt_fl131, List.forall_mem_cons.mpr ⟨xt_fl132, List.forall_mem_cons.mpr ⟨xt_fl133, List.forall_mem_cons.mpr ⟨xt_fl134, List.forall_mem_cons.mpr ⟨xt_fl135, List.forall_mem_cons.mpr ⟨xt_fl136, List.forall_mem_cons.mpr ⟨xt_fl137, List.forall_mem_cons.mpr ⟨xt_fl138, List.forall_mem_cons.mpr ⟨xt_fl139, List.forall_mem_cons.mpr ⟨xt_fl140, List.forall_mem_cons.mpr ⟨xt_fl141, List.forall_mem_cons.mpr ⟨xt_fl142, List.forall_mem_cons.mpr ⟨xt_fl143, List.forall_mem_cons.mpr ⟨xt_fl144, List.forall_mem_cons.mpr ⟨xt_fl145, List.forall_mem_cons.mpr ⟨xt_fl146, List.forall_mem_cons.mpr ⟨xt_fl147, List.forall_mem_cons.mpr ⟨xt_fl148, List.forall_mem_cons.mpr ⟨xt_fl149, List.forall_mem_cons.mpr ⟨xt_fl150, List.forall_mem_cons.mpr ⟨xt_fl151, List.forall_mem_cons.mpr ⟨xt_fl152, List.forall_mem_cons.mpr ⟨xt_fl153, List.forall_mem_cons.mpr ⟨xt_fl154, List.forall_mem_cons.mpr ⟨xt_fl155, List.forall_mem_cons.mpr ⟨xt_fl156, List.forall_mem_cons.mpr ⟨xt_fl157, List.forall_mem_cons.mpr ⟨xt_fl158, List.forall_mem_cons.mpr ⟨xt_fl159, List.forall_mem_cons.mpr ⟨xt_fl160, List.forall_mem_cons.mpr ⟨xt_fl161, List.forall_mem_cons.mpr ⟨xt_fl162, List.forall_mem_cons.mpr ⟨xt_fl163, List.forall_mem_cons.mpr ⟨xt_fl164, List.forall_mem_cons.mpr ⟨xt_fl165, List.forall_mem_cons.mpr ⟨xt_fl166, List.forall_mem_cons.mpr ⟨xt_fl167, List.forall_mem_cons.mpr ⟨xt_fl168, List.forall_mem_cons.mpr ⟨xt_fl169, List.forall_mem_cons.mpr ⟨xt_fl170, List.forall_mem_cons.mpr ⟨xt_fl171, List.forall_mem_cons.mpr ⟨xt_fl172, List.forall_mem_cons.mpr ⟨xt_fl173, List.forall_mem_cons.mpr ⟨xt_fl174, List.forall_mem_cons.mpr ⟨xt_fl175, List.forall_mem_cons.mpr ⟨xt_fl176, List.forall_mem_cons.mpr ⟨xt_fl177, List.forall_mem_cons.mpr ⟨xt_fl178, List.forall_mem_cons.mpr ⟨xt_fl179, List.forall_mem_cons.mpr ⟨xt_fl180, List.forall_mem_cons.mpr ⟨xt_fl181, List.forall_mem_cons.mpr ⟨xt_fl182, List.forall_mem_cons.mpr ⟨xt_fl183, List.forall_mem_cons.mpr ⟨xt_fl184, List.forall_mem_cons.mpr ⟨xt_fl185, List.forall_mem_cons.mpr ⟨xt_fl186, List.forall_mem_cons.mpr ⟨xt_fl187, List.forall_mem_cons.mpr ⟨xt_fl188, List.forall_mem_cons.mpr ⟨xt_fl189, List.forall_mem_cons.mpr ⟨xt_fl190, List.forall_mem_cons.mpr ⟨xt_fl191, List.forall_mem_cons.mpr ⟨xt_fl192, List.forall_mem_cons.mpr ⟨xt_fl193, List.forall_mem_cons.mpr ⟨xt_fl194, List.forall_mem_cons.mpr ⟨xt_fl195, fun _ h => absurd h List.not_mem_nil⟩⟩⟩⟩⟩⟩⟩⟩⟩⟩⟩⟩⟩⟩⟩⟩⟩⟩⟩⟩⟩⟩⟩⟩⟩⟩⟩⟩⟩⟩⟩⟩⟩⟩⟩⟩⟩⟩⟩⟩⟩⟩⟩⟩⟩⟩⟩⟩⟩⟩⟩⟩⟩⟩⟩⟩⟩⟩⟩⟩⟩⟩⟩⟩⟩⟩⟩⟩⟩⟩⟩⟩⟩⟩⟩⟩⟩⟩⟩⟩⟩⟩⟩⟩⟩⟩⟩⟩⟩⟩⟩⟩⟩⟩⟩⟩⟩⟩⟩⟩⟩⟩⟩⟩⟩⟩⟩⟩⟩⟩⟩⟩⟩⟩⟩⟩⟩⟩⟩⟩⟩⟩⟩⟩⟩⟩⟩⟩⟩⟩⟩⟩⟩⟩⟩⟩⟩⟩⟩⟩⟩⟩⟩⟩⟩⟩⟩⟩⟩⟩⟩⟩⟩⟩⟩⟩⟩⟩⟩⟩⟩⟩⟩⟩⟩⟩⟩⟩⟩⟩⟩⟩⟩⟩⟩⟩⟩⟩⟩⟩⟩⟩⟩⟩⟩⟩⟩⟩⟩⟩⟩⟩⟩⟩⟩⟩
theorem xt_fl_ok {y n a b : Nat} (h : xt_fl.lookup (xt_oc y, n) = some (a, b)) : ∃ (C : String) (T : u_T) (N : Nat), xt_cs[a]? = some (C, T, N) ∧ b < N ∧ (T b).1 = C ∧ Jvm.Cond.fieldLink (xt_ow y) n C (T b).2.1 (T b).2.2.1 ∈ xt_G ∧ True := xt_fla _ (xt_lk h)
end
section
/-! What the tables say of calls, classes and constants. Written by prog/gen_tables.py. -/
def xt_mtq (e : (Nat × Nat) × (Nat × Nat)) : Prop :=
  (e.2.1 = 0 → e.2.2 < xt_N ∧ Jvm.Cond.methodLink (xt_cn e.1.1) e.1.2 (xt_nm e.2.2) ∈ xt_G ∧ Jvm.Cond.instanceMethod (xt_nm e.2.2) ∈ xt_G ∧ Jvm.Cond.selects (xt_nm e.2.2).cls (xt_nm e.2.2) (xt_nm e.2.2) ∈ xt_G ∧ Jvm.Cond.initialized (xt_nm e.2.2).cls ∈ xt_G ∧ ∃ row : vw_C, xt_cs[xt_oc e.2.2]? = some row ∧ row.1 = (xt_nm e.2.2).cls) ∧
  (e.2.1 = 1 → Jvm.Cond.methodLink (xt_cn e.1.1) e.1.2 objectInit ∈ xt_G ∧ Jvm.Cond.instanceMethod objectInit ∈ xt_G ∧ Jvm.Cond.code objectInit ⟨#[0xb1]⟩ 1 none ∈ xt_G) ∧
  (e.2.1 = 2 → Jvm.Cond.methodLink (xt_cn e.1.1) e.1.2 Lib.Math.max.name ∈ xt_G ∧ Jvm.Cond.static Lib.Math.max.name ∈ xt_G ∧ Jvm.Cond.initialized "java/lang/Math" ∈ xt_G ∧ Jvm.Cond.code Lib.Math.max.name Lib.Math.max.code 2 (some .int) ∈ xt_G) ∧
  (e.2.1 = 3 → Jvm.Cond.methodLink (xt_cn e.1.1) e.1.2 Lib.Math.min.name ∈ xt_G ∧ Jvm.Cond.static Lib.Math.min.name ∈ xt_G ∧ Jvm.Cond.initialized "java/lang/Math" ∈ xt_G ∧ Jvm.Cond.code Lib.Math.min.name Lib.Math.min.code 2 (some .int) ∈ xt_G) ∧
  (e.2.1 = 4 → Jvm.Cond.methodLink (xt_cn e.1.1) e.1.2 arraycopyName ∈ xt_G ∧ Jvm.Cond.native arraycopyName ∈ xt_G ∧ Jvm.Cond.static arraycopyName ∈ xt_G ∧ Jvm.Cond.initialized "java/lang/System" ∈ xt_G) ∧
  (e.2.1 = 6 → e.2.2 < xt_N ∧ Jvm.Cond.methodLink (xt_cn e.1.1) e.1.2 (xt_nm e.2.2) ∈ xt_G ∧ Jvm.Cond.static (xt_nm e.2.2) ∈ xt_G ∧ Jvm.Cond.initialized (xt_nm e.2.2).cls ∈ xt_G) ∧
  (e.2.1 = 5 ∨ e.2.1 = 7 → e.2.2 < xt_N ∧ xt_rt e.2.2 = none ∧ (xt_nm e.2.2).name = "<init>" ∧ Jvm.Cond.instanceMethod (xt_nm e.2.2) ∈ xt_G ∧ Jvm.Cond.initialized (xt_nm e.2.2).cls ∈ xt_G ∧ (Jvm.Cond.methodLink (xt_cn e.1.1) e.1.2 (xt_nm e.2.2) ∈ xt_G ∨ ∃ host : String, Jvm.Cond.methodLinkNest (xt_cn e.1.1) e.1.2 (xt_nm e.2.2) host ∈ xt_nw))
theorem xt_mt0 {o i b : Nat} (h1 : b < xt_N) (w1 : Jvm.Cond.methodLink (xt_cn o) i (xt_nm b) ∈ xt_G) (w2 : Jvm.Cond.instanceMethod (xt_nm b) ∈ xt_G) (w3 : Jvm.Cond.selects (xt_nm b).cls (xt_nm b) (xt_nm b) ∈ xt_G) (w4 : Jvm.Cond.initialized (xt_nm b).cls ∈ xt_G) (w5 : ∃ row : vw_C, xt_cs[xt_oc b]? = some row ∧ row.1 = (xt_nm b).cls) : xt_mtq ((o, i), (0, b)) :=
  ⟨fun _ => ⟨h1, w1, w2, w3, w4, w5⟩, fun h => (by cases h), fun h => (by cases h), fun h => (by cases h), fun h => (by cases h), fun h => (by cases h), fun h => (by rcases h with h | h <;> cases h)⟩
theorem xt_mt1 {o i b : Nat} (w1 : Jvm.Cond.methodLink (xt_cn o) i objectInit ∈ xt_G) (w2 : Jvm.Cond.instanceMethod objectInit ∈ xt_G) (w3 : Jvm.Cond.code objectInit ⟨#[0xb1]⟩ 1 none ∈ xt_G) : xt_mtq ((o, i), (1, b)) :=
  ⟨fun h => (by cases h), fun _ => ⟨w1, w2, w3⟩, fun h => (by cases h), fun h => (by cases h), fun h => (by cases h), fun h => (by cases h), fun h => (by rcases h with h | h <;> cases h)⟩
theorem xt_mt2 {o i b : Nat} (w1 : Jvm.Cond.methodLink (xt_cn o) i Lib.Math.max.name ∈ xt_G) (w2 : Jvm.Cond.static Lib.Math.max.name ∈ xt_G) (w3 : Jvm.Cond.initialized "java/lang/Math" ∈ xt_G) (w4 : Jvm.Cond.code Lib.Math.max.name Lib.Math.max.code 2 (some .int) ∈ xt_G) : xt_mtq ((o, i), (2, b)) :=
  ⟨fun h => (by cases h), fun h => (by cases h), fun _ => ⟨w1, w2, w3, w4⟩, fun h => (by cases h), fun h => (by cases h), fun h => (by cases h), fun h => (by rcases h with h | h <;> cases h)⟩
theorem xt_mt3 {o i b : Nat} (w1 : Jvm.Cond.methodLink (xt_cn o) i Lib.Math.min.name ∈ xt_G) (w2 : Jvm.Cond.static Lib.Math.min.name ∈ xt_G) (w3 : Jvm.Cond.initialized "java/lang/Math" ∈ xt_G) (w4 : Jvm.Cond.code Lib.Math.min.name Lib.Math.min.code 2 (some .int) ∈ xt_G) : xt_mtq ((o, i), (3, b)) :=
  ⟨fun h => (by cases h), fun h => (by cases h), fun h => (by cases h), fun _ => ⟨w1, w2, w3, w4⟩, fun h => (by cases h), fun h => (by cases h), fun h => (by rcases h with h | h <;> cases h)⟩
theorem xt_mt4 {o i b : Nat} (w1 : Jvm.Cond.methodLink (xt_cn o) i arraycopyName ∈ xt_G) (w2 : Jvm.Cond.native arraycopyName ∈ xt_G) (w3 : Jvm.Cond.static arraycopyName ∈ xt_G) (w4 : Jvm.Cond.initialized "java/lang/System" ∈ xt_G) : xt_mtq ((o, i), (4, b)) :=
  ⟨fun h => (by cases h), fun h => (by cases h), fun h => (by cases h), fun h => (by cases h), fun _ => ⟨w1, w2, w3, w4⟩, fun h => (by cases h), fun h => (by rcases h with h | h <;> cases h)⟩
theorem xt_mt6 {o i b : Nat} (h1 : b < xt_N) (w1 : Jvm.Cond.methodLink (xt_cn o) i (xt_nm b) ∈ xt_G) (w2 : Jvm.Cond.static (xt_nm b) ∈ xt_G) (w4 : Jvm.Cond.initialized (xt_nm b).cls ∈ xt_G) : xt_mtq ((o, i), (6, b)) :=
  ⟨fun h => (by cases h), fun h => (by cases h), fun h => (by cases h), fun h => (by cases h), fun h => (by cases h), fun _ => ⟨h1, w1, w2, w4⟩, fun h => (by rcases h with h | h <;> cases h)⟩
theorem xt_mt7 {o i a b : Nat} (ha : a = 5 ∨ a = 7) (h1 : b < xt_N) (h2 : xt_rt b = none) (h3 : (xt_nm b).name = "<init>") (w2 : Jvm.Cond.instanceMethod (xt_nm b) ∈ xt_G) (w4 : Jvm.Cond.initialized (xt_nm b).cls ∈ xt_G) (w1 : Jvm.Cond.methodLink (xt_cn o) i (xt_nm b) ∈ xt_G ∨ ∃ host : String, Jvm.Cond.methodLinkNest (xt_cn o) i (xt_nm b) host ∈ xt_nw) : xt_mtq ((o, i), (a, b)) := by
  refine ⟨fun h => ?_, fun h => ?_, fun h => ?_, fun h => ?_, fun h => ?_, fun h => ?_, fun _ => ⟨h1, h2, h3, w2, w4, w1⟩⟩ <;> (exfalso; have h : a = _ := h; omega)
set_option maxRecDepth 100000 in
theorem xt_me0 : xt_mtq ((0, 1), (1, 0)) := xt_mt1 (xt_gm 337 (by rfl)) (xt_gm 338 (by rfl)) (xt_gx 0 (by rfl))
set_option maxRecDepth 100000 in
theorem xt_me1 : xt_mtq ((0, 9), (7, 32)) := xt_mt7 (Or.inr rfl) (by decide) rfl rfl (xt_gm 339 (by rfl)) (xt_gm 340 (by rfl)) (Or.inl (xt_gm 341 (by rfl)))
set_option maxRecDepth 100000 in
theorem xt_me2 : xt_mtq ((0, 20), (7, 115)) := xt_mt7 (Or.inr rfl) (by decide) rfl rfl (xt_gm 342 (by rfl)) (xt_gm 343 (by rfl)) (Or.inl (xt_gm 344 (by rfl)))
set_option maxRecDepth 100000 in
theorem xt_me3 : xt_mtq ((0, 27), (7, 35)) := xt_mt7 (Or.inr rfl) (by decide) rfl rfl (xt_gm 345 (by rfl)) (xt_gm 346 (by rfl)) (Or.inl (xt_gm 347 (by rfl)))
set_option maxRecDepth 100000 in
theorem xt_me4 : xt_mtq ((0, 34), (5, 50)) := xt_mt7 (Or.inl rfl) (by decide) rfl rfl (xt_gm 348 (by rfl)) (xt_gm 349 (by rfl)) (Or.inr ⟨_, List.mem_of_getElem? (i := 0) (by rfl)⟩)
set_option maxRecDepth 100000 in
theorem xt_me5 : xt_mtq ((0, 41), (7, 81)) := xt_mt7 (Or.inr rfl) (by decide) rfl rfl (xt_gm 350 (by rfl)) (xt_gm 351 (by rfl)) (Or.inl (xt_gm 352 (by rfl)))
set_option maxRecDepth 100000 in
theorem xt_me6 : xt_mtq ((0, 54), (7, 97)) := xt_mt7 (Or.inr rfl) (by decide) rfl rfl (xt_gm 353 (by rfl)) (xt_gm 354 (by rfl)) (Or.inl (xt_gm 355 (by rfl)))
set_option maxRecDepth 100000 in
theorem xt_me7 : xt_mtq ((0, 57), (0, 39)) := xt_mt0 (by decide) (xt_gm 356 (by rfl)) (xt_gm 357 (by rfl)) (xt_gm 358 (by rfl)) (xt_gm 346 (by rfl)) ⟨_, rfl, rfl⟩
set_option maxRecDepth 100000 in
theorem xt_me8 : xt_mtq ((0, 61), (0, 40)) := xt_mt0 (by decide) (xt_gm 359 (by rfl)) (xt_gm 360 (by rfl)) (xt_gm 361 (by rfl)) (xt_gm 346 (by rfl)) ⟨_, rfl, rfl⟩
set_option maxRecDepth 100000 in
theorem xt_me9 : xt_mtq ((0, 65), (0, 41)) := xt_mt0 (by decide) (xt_gm 362 (by rfl)) (xt_gm 363 (by rfl)) (xt_gm 364 (by rfl)) (xt_gm 346 (by rfl)) ⟨_, rfl, rfl⟩
set_option maxRecDepth 100000 in
theorem xt_me10 : xt_mtq ((0, 69), (0, 44)) := xt_mt0 (by decide) (xt_gm 365 (by rfl)) (xt_gm 366 (by rfl)) (xt_gm 367 (by rfl)) (xt_gm 346 (by rfl)) ⟨_, rfl, rfl⟩
set_option maxRecDepth 100000 in
theorem xt_me11 : xt_mtq ((0, 73), (0, 53)) := xt_mt0 (by decide) (xt_gm 368 (by rfl)) (xt_gm 369 (by rfl)) (xt_gm 370 (by rfl)) (xt_gm 349 (by rfl)) ⟨_, rfl, rfl⟩
set_option maxRecDepth 100000 in
theorem xt_me12 : xt_mtq ((0, 76), (0, 57)) := xt_mt0 (by decide) (xt_gm 371 (by rfl)) (xt_gm 372 (by rfl)) (xt_gm 373 (by rfl)) (xt_gm 349 (by rfl)) ⟨_, rfl, rfl⟩
set_option maxRecDepth 100000 in
theorem xt_me13 : xt_mtq ((0, 79), (0, 54)) := xt_mt0 (by decide) (xt_gm 374 (by rfl)) (xt_gm 375 (by rfl)) (xt_gm 376 (by rfl)) (xt_gm 349 (by rfl)) ⟨_, rfl, rfl⟩
set_option maxRecDepth 100000 in
theorem xt_me14 : xt_mtq ((0, 82), (0, 38)) := xt_mt0 (by decide) (xt_gm 377 (by rfl)) (xt_gm 378 (by rfl)) (xt_gm 379 (by rfl)) (xt_gm 346 (by rfl)) ⟨_, rfl, rfl⟩
set_option maxRecDepth 100000 in
theorem xt_me15 : xt_mtq ((0, 86), (0, 99)) := xt_mt0 (by decide) (xt_gm 380 (by rfl)) (xt_gm 381 (by rfl)) (xt_gm 382 (by rfl)) (xt_gm 354 (by rfl)) ⟨_, rfl, rfl⟩
set_option maxRecDepth 100000 in
theorem xt_me16 : xt_mtq ((0, 89), (0, 116)) := xt_mt0 (by decide) (xt_gm 383 (by rfl)) (xt_gm 384 (by rfl)) (xt_gm 385 (by rfl)) (xt_gm 343 (by rfl)) ⟨_, rfl, rfl⟩
set_option maxRecDepth 100000 in
theorem xt_me17 : xt_mtq ((0, 92), (0, 118)) := xt_mt0 (by decide) (xt_gm 386 (by rfl)) (xt_gm 387 (by rfl)) (xt_gm 388 (by rfl)) (xt_gm 343 (by rfl)) ⟨_, rfl, rfl⟩
set_option maxRecDepth 100000 in
theorem xt_me18 : xt_mtq ((0, 96), (0, 18)) := xt_mt0 (by decide) (xt_gm 389 (by rfl)) (xt_gm 390 (by rfl)) (xt_gm 391 (by rfl)) (xt_gm 392 (by rfl)) ⟨_, rfl, rfl⟩
set_option maxRecDepth 100000 in
theorem xt_me19 : xt_mtq ((0, 106), (0, 120)) := xt_mt0 (by decide) (xt_gm 393 (by rfl)) (xt_gm 394 (by rfl)) (xt_gm 395 (by rfl)) (xt_gm 343 (by rfl)) ⟨_, rfl, rfl⟩
set_option maxRecDepth 100000 in
theorem xt_me20 : xt_mtq ((0, 115), (0, 101)) := xt_mt0 (by decide) (xt_gm 396 (by rfl)) (xt_gm 397 (by rfl)) (xt_gm 398 (by rfl)) (xt_gm 354 (by rfl)) ⟨_, rfl, rfl⟩
set_option maxRecDepth 100000 in
theorem xt_me21 : xt_mtq ((0, 118), (0, 84)) := xt_mt0 (by decide) (xt_gm 399 (by rfl)) (xt_gm 400 (by rfl)) (xt_gm 401 (by rfl)) (xt_gm 351 (by rfl)) ⟨_, rfl, rfl⟩
set_option maxRecDepth 100000 in
theorem xt_me22 : xt_mtq ((0, 124), (0, 83)) := xt_mt0 (by decide) (xt_gm 402 (by rfl)) (xt_gm 403 (by rfl)) (xt_gm 404 (by rfl)) (xt_gm 351 (by rfl)) ⟨_, rfl, rfl⟩
set_option maxRecDepth 100000 in
theorem xt_me23 : xt_mtq ((0, 132), (0, 76)) := xt_mt0 (by decide) (xt_gm 405 (by rfl)) (xt_gm 406 (by rfl)) (xt_gm 407 (by rfl)) (xt_gm 408 (by rfl)) ⟨_, rfl, rfl⟩
set_option maxRecDepth 100000 in
theorem xt_me24 : xt_mtq ((0, 135), (0, 102)) := xt_mt0 (by decide) (xt_gm 409 (by rfl)) (xt_gm 410 (by rfl)) (xt_gm 411 (by rfl)) (xt_gm 354 (by rfl)) ⟨_, rfl, rfl⟩
set_option maxRecDepth 100000 in
theorem xt_me25 : xt_mtq ((0, 140), (0, 68)) := xt_mt0 (by decide) (xt_gm 412 (by rfl)) (xt_gm 413 (by rfl)) (xt_gm 414 (by rfl)) (xt_gm 415 (by rfl)) ⟨_, rfl, rfl⟩
set_option maxRecDepth 100000 in
theorem xt_me26 : xt_mtq ((0, 145), (6, 36)) := xt_mt6 (by decide) (xt_gm 416 (by rfl)) (xt_gm 417 (by rfl)) (xt_gm 346 (by rfl))
set_option maxRecDepth 100000 in
theorem xt_me27 : xt_mtq ((0, 152), (0, 31)) := xt_mt0 (by decide) (xt_gm 418 (by rfl)) (xt_gm 419 (by rfl)) (xt_gm 420 (by rfl)) (xt_gm 421 (by rfl)) ⟨_, rfl, rfl⟩
set_option maxRecDepth 100000 in
theorem xt_me28 : xt_mtq ((0, 164), (0, 75)) := xt_mt0 (by decide) (xt_gm 422 (by rfl)) (xt_gm 423 (by rfl)) (xt_gm 424 (by rfl)) (xt_gm 408 (by rfl)) ⟨_, rfl, rfl⟩
set_option maxRecDepth 100000 in
theorem xt_me29 : xt_mtq ((0, 174), (0, 46)) := xt_mt0 (by decide) (xt_gm 425 (by rfl)) (xt_gm 426 (by rfl)) (xt_gm 427 (by rfl)) (xt_gm 346 (by rfl)) ⟨_, rfl, rfl⟩
set_option maxRecDepth 100000 in
theorem xt_me30 : xt_mtq ((0, 177), (0, 119)) := xt_mt0 (by decide) (xt_gm 428 (by rfl)) (xt_gm 429 (by rfl)) (xt_gm 430 (by rfl)) (xt_gm 343 (by rfl)) ⟨_, rfl, rfl⟩
set_option maxRecDepth 100000 in
theorem xt_me31 : xt_mtq ((0, 181), (0, 82)) := xt_mt0 (by decide) (xt_gm 431 (by rfl)) (xt_gm 432 (by rfl)) (xt_gm 433 (by rfl)) (xt_gm 351 (by rfl)) ⟨_, rfl, rfl⟩
set_option maxRecDepth 100000 in
theorem xt_me32 : xt_mtq ((0, 184), (0, 19)) := xt_mt0 (by decide) (xt_gm 434 (by rfl)) (xt_gm 435 (by rfl)) (xt_gm 436 (by rfl)) (xt_gm 392 (by rfl)) ⟨_, rfl, rfl⟩
set_option maxRecDepth 100000 in
theorem xt_me33 : xt_mtq ((0, 187), (0, 100)) := xt_mt0 (by decide) (xt_gm 437 (by rfl)) (xt_gm 438 (by rfl)) (xt_gm 439 (by rfl)) (xt_gm 354 (by rfl)) ⟨_, rfl, rfl⟩
set_option maxRecDepth 100000 in
theorem xt_me34 : xt_mtq ((0, 191), (0, 45)) := xt_mt0 (by decide) (xt_gm 440 (by rfl)) (xt_gm 441 (by rfl)) (xt_gm 442 (by rfl)) (xt_gm 346 (by rfl)) ⟨_, rfl, rfl⟩
set_option maxRecDepth 100000 in
theorem xt_me35 : xt_mtq ((0, 194), (0, 20)) := xt_mt0 (by decide) (xt_gm 443 (by rfl)) (xt_gm 444 (by rfl)) (xt_gm 445 (by rfl)) (xt_gm 392 (by rfl)) ⟨_, rfl, rfl⟩
set_option maxRecDepth 100000 in
theorem xt_me36 : xt_mtq ((0, 197), (0, 117)) := xt_mt0 (by decide) (xt_gm 446 (by rfl)) (xt_gm 447 (by rfl)) (xt_gm 448 (by rfl)) (xt_gm 343 (by rfl)) ⟨_, rfl, rfl⟩
set_option maxRecDepth 100000 in
theorem xt_me37 : xt_mtq ((0, 201), (0, 98)) := xt_mt0 (by decide) (xt_gm 449 (by rfl)) (xt_gm 450 (by rfl)) (xt_gm 451 (by rfl)) (xt_gm 354 (by rfl)) ⟨_, rfl, rfl⟩
set_option maxRecDepth 100000 in
theorem xt_me38 : xt_mtq ((1, 3), (1, 0)) := xt_mt1 (xt_gm 452 (by rfl)) (xt_gm 338 (by rfl)) (xt_gx 0 (by rfl))
set_option maxRecDepth 100000 in
theorem xt_me39 : xt_mtq ((1, 37), (6, 174)) := xt_mt6 (by decide) (xt_gm 453 (by rfl)) (xt_gm 454 (by rfl)) (xt_gm 455 (by rfl))
set_option maxRecDepth 100000 in
theorem xt_me40 : xt_mtq ((1, 49), (0, 23)) := xt_mt0 (by decide) (xt_gm 456 (by rfl)) (xt_gm 457 (by rfl)) (xt_gm 458 (by rfl)) (xt_gm 421 (by rfl)) ⟨_, rfl, rfl⟩
set_option maxRecDepth 100000 in
theorem xt_me41 : xt_mtq ((1, 53), (0, 24)) := xt_mt0 (by decide) (xt_gm 459 (by rfl)) (xt_gm 460 (by rfl)) (xt_gm 461 (by rfl)) (xt_gm 421 (by rfl)) ⟨_, rfl, rfl⟩
set_option maxRecDepth 100000 in
theorem xt_me42 : xt_mtq ((1, 56), (0, 25)) := xt_mt0 (by decide) (xt_gm 462 (by rfl)) (xt_gm 463 (by rfl)) (xt_gm 464 (by rfl)) (xt_gm 421 (by rfl)) ⟨_, rfl, rfl⟩
set_option maxRecDepth 100000 in
theorem xt_me43 : xt_mtq ((1, 60), (0, 43)) := xt_mt0 (by decide) (xt_gm 465 (by rfl)) (xt_gm 466 (by rfl)) (xt_gm 467 (by rfl)) (xt_gm 346 (by rfl)) ⟨_, rfl, rfl⟩
set_option maxRecDepth 100000 in
theorem xt_me44 : xt_mtq ((2, 1), (1, 0)) := xt_mt1 (xt_gm 468 (by rfl)) (xt_gm 338 (by rfl)) (xt_gx 0 (by rfl))
set_option maxRecDepth 100000 in
theorem xt_me45 : xt_mtq ((2, 7), (6, 33)) := xt_mt6 (by decide) (xt_gm 469 (by rfl)) (xt_gm 470 (by rfl)) (xt_gm 340 (by rfl))
set_option maxRecDepth 100000 in
theorem xt_me46 : xt_mtq ((2, 25), (3, 0)) := xt_mt3 (xt_gm 471 (by rfl)) (xt_gm 472 (by rfl)) (xt_gm 473 (by rfl)) (xt_gx 2 (by rfl))
set_option maxRecDepth 100000 in
theorem xt_me47 : xt_mtq ((2, 31), (2, 0)) := xt_mt2 (xt_gm 474 (by rfl)) (xt_gm 475 (by rfl)) (xt_gm 473 (by rfl)) (xt_gx 1 (by rfl))
set_option maxRecDepth 100000 in
theorem xt_me48 : xt_mtq ((3, 5), (1, 0)) := xt_mt1 (xt_gm 476 (by rfl)) (xt_gm 338 (by rfl)) (xt_gx 0 (by rfl))
set_option maxRecDepth 100000 in
theorem xt_me49 : xt_mtq ((3, 28), (6, 174)) := xt_mt6 (by decide) (xt_gm 477 (by rfl)) (xt_gm 454 (by rfl)) (xt_gm 455 (by rfl))
set_option maxRecDepth 100000 in
theorem xt_me50 : xt_mtq ((3, 38), (6, 37)) := xt_mt6 (by decide) (xt_gm 478 (by rfl)) (xt_gm 479 (by rfl)) (xt_gm 346 (by rfl))
set_option maxRecDepth 100000 in
theorem xt_me51 : xt_mtq ((3, 42), (0, 38)) := xt_mt0 (by decide) (xt_gm 480 (by rfl)) (xt_gm 378 (by rfl)) (xt_gm 379 (by rfl)) (xt_gm 346 (by rfl)) ⟨_, rfl, rfl⟩
set_option maxRecDepth 100000 in
theorem xt_me52 : xt_mtq ((3, 45), (0, 43)) := xt_mt0 (by decide) (xt_gm 481 (by rfl)) (xt_gm 466 (by rfl)) (xt_gm 467 (by rfl)) (xt_gm 346 (by rfl)) ⟨_, rfl, rfl⟩
set_option maxRecDepth 100000 in
theorem xt_me53 : xt_mtq ((3, 49), (0, 42)) := xt_mt0 (by decide) (xt_gm 482 (by rfl)) (xt_gm 483 (by rfl)) (xt_gm 484 (by rfl)) (xt_gm 346 (by rfl)) ⟨_, rfl, rfl⟩
set_option maxRecDepth 100000 in
theorem xt_me54 : xt_mtq ((3, 53), (6, 36)) := xt_mt6 (by decide) (xt_gm 485 (by rfl)) (xt_gm 417 (by rfl)) (xt_gm 346 (by rfl))
set_option maxRecDepth 100000 in
theorem xt_me55 : xt_mtq ((4, 1), (1, 0)) := xt_mt1 (xt_gm 486 (by rfl)) (xt_gm 338 (by rfl)) (xt_gx 0 (by rfl))
set_option maxRecDepth 100000 in
theorem xt_me56 : xt_mtq ((4, 28), (6, 51)) := xt_mt6 (by decide) (xt_gm 487 (by rfl)) (xt_gm 488 (by rfl)) (xt_gm 349 (by rfl))
set_option maxRecDepth 100000 in
theorem xt_me57 : xt_mtq ((4, 32), (6, 52)) := xt_mt6 (by decide) (xt_gm 489 (by rfl)) (xt_gm 490 (by rfl)) (xt_gm 349 (by rfl))
set_option maxRecDepth 100000 in
theorem xt_me58 : xt_mtq ((4, 36), (3, 0)) := xt_mt3 (xt_gm 491 (by rfl)) (xt_gm 472 (by rfl)) (xt_gm 473 (by rfl)) (xt_gx 2 (by rfl))
set_option maxRecDepth 100000 in
theorem xt_me59 : xt_mtq ((4, 42), (0, 74)) := xt_mt0 (by decide) (xt_gm 492 (by rfl)) (xt_gm 493 (by rfl)) (xt_gm 494 (by rfl)) (xt_gm 408 (by rfl)) ⟨_, rfl, rfl⟩
set_option maxRecDepth 100000 in
theorem xt_me60 : xt_mtq ((5, 7), (1, 0)) := xt_mt1 (xt_gm 495 (by rfl)) (xt_gm 338 (by rfl)) (xt_gx 0 (by rfl))
set_option maxRecDepth 100000 in
theorem xt_me61 : xt_mtq ((5, 50), (0, 58)) := xt_mt0 (by decide) (xt_gm 496 (by rfl)) (xt_gm 497 (by rfl)) (xt_gm 498 (by rfl)) (xt_gm 349 (by rfl)) ⟨_, rfl, rfl⟩
set_option maxRecDepth 100000 in
theorem xt_me62 : xt_mtq ((5, 57), (0, 71)) := xt_mt0 (by decide) (xt_gm 499 (by rfl)) (xt_gm 500 (by rfl)) (xt_gm 501 (by rfl)) (xt_gm 415 (by rfl)) ⟨_, rfl, rfl⟩
set_option maxRecDepth 100000 in
theorem xt_me63 : xt_mtq ((5, 60), (0, 72)) := xt_mt0 (by decide) (xt_gm 502 (by rfl)) (xt_gm 503 (by rfl)) (xt_gm 504 (by rfl)) (xt_gm 415 (by rfl)) ⟨_, rfl, rfl⟩
set_option maxRecDepth 100000 in
theorem xt_me64 : xt_mtq ((5, 70), (0, 70)) := xt_mt0 (by decide) (xt_gm 505 (by rfl)) (xt_gm 506 (by rfl)) (xt_gm 507 (by rfl)) (xt_gm 415 (by rfl)) ⟨_, rfl, rfl⟩
set_option maxRecDepth 100000 in
theorem xt_me65 : xt_mtq ((5, 74), (0, 117)) := xt_mt0 (by decide) (xt_gm 508 (by rfl)) (xt_gm 447 (by rfl)) (xt_gm 448 (by rfl)) (xt_gm 343 (by rfl)) ⟨_, rfl, rfl⟩
set_option maxRecDepth 100000 in
theorem xt_me66 : xt_mtq ((5, 86), (0, 67)) := xt_mt0 (by decide) (xt_gm 509 (by rfl)) (xt_gm 510 (by rfl)) (xt_gm 511 (by rfl)) (xt_gm 415 (by rfl)) ⟨_, rfl, rfl⟩
set_option maxRecDepth 100000 in
theorem xt_me67 : xt_mtq ((5, 90), (0, 69)) := xt_mt0 (by decide) (xt_gm 512 (by rfl)) (xt_gm 513 (by rfl)) (xt_gm 514 (by rfl)) (xt_gm 415 (by rfl)) ⟨_, rfl, rfl⟩
set_option maxRecDepth 100000 in
theorem xt_me68 : xt_mtq ((5, 93), (0, 61)) := xt_mt0 (by decide) (xt_gm 515 (by rfl)) (xt_gm 516 (by rfl)) (xt_gm 517 (by rfl)) (xt_gm 415 (by rfl)) ⟨_, rfl, rfl⟩
set_option maxRecDepth 100000 in
theorem xt_me69 : xt_mtq ((5, 112), (6, 52)) := xt_mt6 (by decide) (xt_gm 518 (by rfl)) (xt_gm 490 (by rfl)) (xt_gm 349 (by rfl))
set_option maxRecDepth 100000 in
theorem xt_me70 : xt_mtq ((6, 3), (1, 0)) := xt_mt1 (xt_gm 519 (by rfl)) (xt_gm 338 (by rfl)) (xt_gx 0 (by rfl))
set_option maxRecDepth 100000 in
theorem xt_me71 : xt_mtq ((6, 15), (4, 0)) := xt_mt4 (xt_gm 520 (by rfl)) (xt_gm 521 (by rfl)) (xt_gm 522 (by rfl)) (xt_gm 523 (by rfl))
set_option maxRecDepth 100000 in
theorem xt_me72 : xt_mtq ((7, 1), (1, 0)) := xt_mt1 (xt_gm 524 (by rfl)) (xt_gm 338 (by rfl)) (xt_gx 0 (by rfl))
set_option maxRecDepth 100000 in
theorem xt_me73 : xt_mtq ((7, 23), (0, 79)) := xt_mt0 (by decide) (xt_gm 525 (by rfl)) (xt_gm 526 (by rfl)) (xt_gm 527 (by rfl)) (xt_gm 528 (by rfl)) ⟨_, rfl, rfl⟩
set_option maxRecDepth 100000 in
theorem xt_me74 : xt_mtq ((7, 27), (0, 80)) := xt_mt0 (by decide) (xt_gm 529 (by rfl)) (xt_gm 530 (by rfl)) (xt_gm 531 (by rfl)) (xt_gm 528 (by rfl)) ⟨_, rfl, rfl⟩
set_option maxRecDepth 100000 in
theorem xt_me75 : xt_mtq ((8, 3), (1, 0)) := xt_mt1 (xt_gm 532 (by rfl)) (xt_gm 338 (by rfl)) (xt_gx 0 (by rfl))
set_option maxRecDepth 100000 in
theorem xt_me76 : xt_mtq ((8, 21), (5, 77)) := xt_mt7 (Or.inl rfl) (by decide) rfl rfl (xt_gm 533 (by rfl)) (xt_gm 528 (by rfl)) (Or.inr ⟨_, List.mem_of_getElem? (i := 1) (by rfl)⟩)
set_option maxRecDepth 100000 in
theorem xt_me77 : xt_mtq ((8, 44), (7, 21)) := xt_mt7 (Or.inr rfl) (by decide) rfl rfl (xt_gm 534 (by rfl)) (xt_gm 421 (by rfl)) (Or.inl (xt_gm 535 (by rfl)))
set_option maxRecDepth 100000 in
theorem xt_me78 : xt_mtq ((8, 51), (5, 114)) := xt_mt7 (Or.inl rfl) (by decide) rfl rfl (xt_gm 536 (by rfl)) (xt_gm 537 (by rfl)) (Or.inr ⟨_, List.mem_of_getElem? (i := 2) (by rfl)⟩)
set_option maxRecDepth 100000 in
theorem xt_me79 : xt_mtq ((8, 58), (0, 85)) := xt_mt0 (by decide) (xt_gm 538 (by rfl)) (xt_gm 539 (by rfl)) (xt_gm 540 (by rfl)) (xt_gm 351 (by rfl)) ⟨_, rfl, rfl⟩
set_option maxRecDepth 100000 in
theorem xt_me80 : xt_mtq ((8, 62), (0, 89)) := xt_mt0 (by decide) (xt_gm 541 (by rfl)) (xt_gm 542 (by rfl)) (xt_gm 543 (by rfl)) (xt_gm 351 (by rfl)) ⟨_, rfl, rfl⟩
set_option maxRecDepth 100000 in
theorem xt_me81 : xt_mtq ((8, 65), (0, 92)) := xt_mt0 (by decide) (xt_gm 544 (by rfl)) (xt_gm 545 (by rfl)) (xt_gm 546 (by rfl)) (xt_gm 351 (by rfl)) ⟨_, rfl, rfl⟩
set_option maxRecDepth 100000 in
theorem xt_me82 : xt_mtq ((8, 68), (0, 93)) := xt_mt0 (by decide) (xt_gm 547 (by rfl)) (xt_gm 548 (by rfl)) (xt_gm 549 (by rfl)) (xt_gm 351 (by rfl)) ⟨_, rfl, rfl⟩
set_option maxRecDepth 100000 in
theorem xt_me83 : xt_mtq ((8, 71), (0, 94)) := xt_mt0 (by decide) (xt_gm 550 (by rfl)) (xt_gm 551 (by rfl)) (xt_gm 552 (by rfl)) (xt_gm 351 (by rfl)) ⟨_, rfl, rfl⟩
set_option maxRecDepth 100000 in
theorem xt_me84 : xt_mtq ((8, 74), (0, 22)) := xt_mt0 (by decide) (xt_gm 553 (by rfl)) (xt_gm 554 (by rfl)) (xt_gm 555 (by rfl)) (xt_gm 421 (by rfl)) ⟨_, rfl, rfl⟩
set_option maxRecDepth 100000 in
theorem xt_me85 : xt_mtq ((8, 94), (0, 27)) := xt_mt0 (by decide) (xt_gm 556 (by rfl)) (xt_gm 557 (by rfl)) (xt_gm 558 (by rfl)) (xt_gm 421 (by rfl)) ⟨_, rfl, rfl⟩
set_option maxRecDepth 100000 in
theorem xt_me86 : xt_mtq ((8, 115), (0, 95)) := xt_mt0 (by decide) (xt_gm 559 (by rfl)) (xt_gm 560 (by rfl)) (xt_gm 561 (by rfl)) (xt_gm 351 (by rfl)) ⟨_, rfl, rfl⟩
set_option maxRecDepth 100000 in
theorem xt_me87 : xt_mtq ((8, 122), (0, 86)) := xt_mt0 (by decide) (xt_gm 562 (by rfl)) (xt_gm 563 (by rfl)) (xt_gm 564 (by rfl)) (xt_gm 351 (by rfl)) ⟨_, rfl, rfl⟩
set_option maxRecDepth 100000 in
theorem xt_me88 : xt_mtq ((8, 126), (0, 87)) := xt_mt0 (by decide) (xt_gm 565 (by rfl)) (xt_gm 566 (by rfl)) (xt_gm 567 (by rfl)) (xt_gm 351 (by rfl)) ⟨_, rfl, rfl⟩
set_option maxRecDepth 100000 in
theorem xt_me89 : xt_mtq ((8, 129), (0, 88)) := xt_mt0 (by decide) (xt_gm 568 (by rfl)) (xt_gm 569 (by rfl)) (xt_gm 570 (by rfl)) (xt_gm 351 (by rfl)) ⟨_, rfl, rfl⟩
set_option maxRecDepth 100000 in
theorem xt_me90 : xt_mtq ((8, 132), (0, 28)) := xt_mt0 (by decide) (xt_gm 571 (by rfl)) (xt_gm 572 (by rfl)) (xt_gm 573 (by rfl)) (xt_gm 421 (by rfl)) ⟨_, rfl, rfl⟩
set_option maxRecDepth 100000 in
theorem xt_me91 : xt_mtq ((8, 138), (0, 96)) := xt_mt0 (by decide) (xt_gm 574 (by rfl)) (xt_gm 575 (by rfl)) (xt_gm 576 (by rfl)) (xt_gm 351 (by rfl)) ⟨_, rfl, rfl⟩
set_option maxRecDepth 100000 in
theorem xt_me92 : xt_mtq ((8, 142), (0, 23)) := xt_mt0 (by decide) (xt_gm 577 (by rfl)) (xt_gm 457 (by rfl)) (xt_gm 458 (by rfl)) (xt_gm 421 (by rfl)) ⟨_, rfl, rfl⟩
set_option maxRecDepth 100000 in
theorem xt_me93 : xt_mtq ((8, 145), (0, 26)) := xt_mt0 (by decide) (xt_gm 578 (by rfl)) (xt_gm 579 (by rfl)) (xt_gm 580 (by rfl)) (xt_gm 421 (by rfl)) ⟨_, rfl, rfl⟩
set_option maxRecDepth 100000 in
theorem xt_me94 : xt_mtq ((8, 149), (0, 42)) := xt_mt0 (by decide) (xt_gm 581 (by rfl)) (xt_gm 483 (by rfl)) (xt_gm 484 (by rfl)) (xt_gm 346 (by rfl)) ⟨_, rfl, rfl⟩
set_option maxRecDepth 100000 in
theorem xt_me95 : xt_mtq ((8, 152), (0, 47)) := xt_mt0 (by decide) (xt_gm 582 (by rfl)) (xt_gm 583 (by rfl)) (xt_gm 584 (by rfl)) (xt_gm 346 (by rfl)) ⟨_, rfl, rfl⟩
set_option maxRecDepth 100000 in
theorem xt_me96 : xt_mtq ((8, 156), (0, 49)) := xt_mt0 (by decide) (xt_gm 585 (by rfl)) (xt_gm 586 (by rfl)) (xt_gm 587 (by rfl)) (xt_gm 346 (by rfl)) ⟨_, rfl, rfl⟩
set_option maxRecDepth 100000 in
theorem xt_me97 : xt_mtq ((8, 159), (0, 48)) := xt_mt0 (by decide) (xt_gm 588 (by rfl)) (xt_gm 589 (by rfl)) (xt_gm 590 (by rfl)) (xt_gm 346 (by rfl)) ⟨_, rfl, rfl⟩
set_option maxRecDepth 100000 in
theorem xt_me98 : xt_mtq ((8, 165), (0, 90)) := xt_mt0 (by decide) (xt_gm 591 (by rfl)) (xt_gm 592 (by rfl)) (xt_gm 593 (by rfl)) (xt_gm 351 (by rfl)) ⟨_, rfl, rfl⟩
set_option maxRecDepth 100000 in
theorem xt_me99 : xt_mtq ((8, 168), (0, 91)) := xt_mt0 (by decide) (xt_gm 594 (by rfl)) (xt_gm 595 (by rfl)) (xt_gm 596 (by rfl)) (xt_gm 351 (by rfl)) ⟨_, rfl, rfl⟩
set_option maxRecDepth 100000 in
theorem xt_me100 : xt_mtq ((8, 171), (0, 29)) := xt_mt0 (by decide) (xt_gm 597 (by rfl)) (xt_gm 598 (by rfl)) (xt_gm 599 (by rfl)) (xt_gm 421 (by rfl)) ⟨_, rfl, rfl⟩
set_option maxRecDepth 100000 in
theorem xt_me101 : xt_mtq ((8, 175), (6, 36)) := xt_mt6 (by decide) (xt_gm 600 (by rfl)) (xt_gm 417 (by rfl)) (xt_gm 346 (by rfl))
set_option maxRecDepth 100000 in
theorem xt_me102 : xt_mtq ((8, 178), (0, 25)) := xt_mt0 (by decide) (xt_gm 601 (by rfl)) (xt_gm 463 (by rfl)) (xt_gm 464 (by rfl)) (xt_gm 421 (by rfl)) ⟨_, rfl, rfl⟩
set_option maxRecDepth 100000 in
theorem xt_me103 : xt_mtq ((8, 181), (0, 24)) := xt_mt0 (by decide) (xt_gm 602 (by rfl)) (xt_gm 460 (by rfl)) (xt_gm 461 (by rfl)) (xt_gm 421 (by rfl)) ⟨_, rfl, rfl⟩
set_option maxRecDepth 100000 in
theorem xt_me104 : xt_mtq ((8, 187), (0, 78)) := xt_mt0 (by decide) (xt_gm 603 (by rfl)) (xt_gm 604 (by rfl)) (xt_gm 605 (by rfl)) (xt_gm 528 (by rfl)) ⟨_, rfl, rfl⟩
set_option maxRecDepth 100000 in
theorem xt_me105 : xt_mtq ((8, 191), (0, 30)) := xt_mt0 (by decide) (xt_gm 606 (by rfl)) (xt_gm 607 (by rfl)) (xt_gm 608 (by rfl)) (xt_gm 421 (by rfl)) ⟨_, rfl, rfl⟩
set_option maxRecDepth 100000 in
theorem xt_me106 : xt_mtq ((8, 195), (0, 55)) := xt_mt0 (by decide) (xt_gm 609 (by rfl)) (xt_gm 610 (by rfl)) (xt_gm 611 (by rfl)) (xt_gm 349 (by rfl)) ⟨_, rfl, rfl⟩
set_option maxRecDepth 100000 in
theorem xt_me107 : xt_mtq ((8, 213), (0, 56)) := xt_mt0 (by decide) (xt_gm 612 (by rfl)) (xt_gm 613 (by rfl)) (xt_gm 614 (by rfl)) (xt_gm 349 (by rfl)) ⟨_, rfl, rfl⟩
set_option maxRecDepth 100000 in
theorem xt_me108 : xt_mtq ((8, 220), (0, 46)) := xt_mt0 (by decide) (xt_gm 615 (by rfl)) (xt_gm 426 (by rfl)) (xt_gm 427 (by rfl)) (xt_gm 346 (by rfl)) ⟨_, rfl, rfl⟩
set_option maxRecDepth 100000 in
theorem xt_me109 : xt_mtq ((8, 223), (0, 117)) := xt_mt0 (by decide) (xt_gm 616 (by rfl)) (xt_gm 447 (by rfl)) (xt_gm 448 (by rfl)) (xt_gm 343 (by rfl)) ⟨_, rfl, rfl⟩
set_option maxRecDepth 100000 in
theorem xt_me110 : xt_mtq ((9, 3), (1, 0)) := xt_mt1 (xt_gm 617 (by rfl)) (xt_gm 338 (by rfl)) (xt_gx 0 (by rfl))
set_option maxRecDepth 100000 in
theorem xt_me111 : xt_mtq ((9, 33), (7, 59)) := xt_mt7 (Or.inr rfl) (by decide) rfl rfl (xt_gm 618 (by rfl)) (xt_gm 415 (by rfl)) (Or.inl (xt_gm 619 (by rfl)))
set_option maxRecDepth 100000 in
theorem xt_me112 : xt_mtq ((9, 46), (0, 60)) := xt_mt0 (by decide) (xt_gm 620 (by rfl)) (xt_gm 621 (by rfl)) (xt_gm 622 (by rfl)) (xt_gm 415 (by rfl)) ⟨_, rfl, rfl⟩
set_option maxRecDepth 100000 in
theorem xt_me113 : xt_mtq ((9, 49), (0, 103)) := xt_mt0 (by decide) (xt_gm 623 (by rfl)) (xt_gm 624 (by rfl)) (xt_gm 625 (by rfl)) (xt_gm 354 (by rfl)) ⟨_, rfl, rfl⟩
set_option maxRecDepth 100000 in
theorem xt_me114 : xt_mtq ((9, 57), (0, 110)) := xt_mt0 (by decide) (xt_gm 626 (by rfl)) (xt_gm 627 (by rfl)) (xt_gm 628 (by rfl)) (xt_gm 354 (by rfl)) ⟨_, rfl, rfl⟩
set_option maxRecDepth 100000 in
theorem xt_me115 : xt_mtq ((9, 61), (0, 111)) := xt_mt0 (by decide) (xt_gm 629 (by rfl)) (xt_gm 630 (by rfl)) (xt_gm 631 (by rfl)) (xt_gm 354 (by rfl)) ⟨_, rfl, rfl⟩
set_option maxRecDepth 100000 in
theorem xt_me116 : xt_mtq ((9, 64), (0, 112)) := xt_mt0 (by decide) (xt_gm 632 (by rfl)) (xt_gm 633 (by rfl)) (xt_gm 634 (by rfl)) (xt_gm 354 (by rfl)) ⟨_, rfl, rfl⟩
set_option maxRecDepth 100000 in
theorem xt_me117 : xt_mtq ((9, 67), (0, 113)) := xt_mt0 (by decide) (xt_gm 635 (by rfl)) (xt_gm 636 (by rfl)) (xt_gm 637 (by rfl)) (xt_gm 354 (by rfl)) ⟨_, rfl, rfl⟩
set_option maxRecDepth 100000 in
theorem xt_me118 : xt_mtq ((9, 70), (0, 98)) := xt_mt0 (by decide) (xt_gm 638 (by rfl)) (xt_gm 450 (by rfl)) (xt_gm 451 (by rfl)) (xt_gm 354 (by rfl)) ⟨_, rfl, rfl⟩
set_option maxRecDepth 100000 in
theorem xt_me119 : xt_mtq ((9, 74), (0, 63)) := xt_mt0 (by decide) (xt_gm 639 (by rfl)) (xt_gm 640 (by rfl)) (xt_gm 641 (by rfl)) (xt_gm 415 (by rfl)) ⟨_, rfl, rfl⟩
set_option maxRecDepth 100000 in
theorem xt_me120 : xt_mtq ((9, 77), (0, 64)) := xt_mt0 (by decide) (xt_gm 642 (by rfl)) (xt_gm 643 (by rfl)) (xt_gm 644 (by rfl)) (xt_gm 415 (by rfl)) ⟨_, rfl, rfl⟩
set_option maxRecDepth 100000 in
theorem xt_me121 : xt_mtq ((9, 88), (0, 107)) := xt_mt0 (by decide) (xt_gm 645 (by rfl)) (xt_gm 646 (by rfl)) (xt_gm 647 (by rfl)) (xt_gm 354 (by rfl)) ⟨_, rfl, rfl⟩
set_option maxRecDepth 100000 in
theorem xt_me122 : xt_mtq ((9, 91), (0, 108)) := xt_mt0 (by decide) (xt_gm 648 (by rfl)) (xt_gm 649 (by rfl)) (xt_gm 650 (by rfl)) (xt_gm 354 (by rfl)) ⟨_, rfl, rfl⟩
set_option maxRecDepth 100000 in
theorem xt_me123 : xt_mtq ((9, 100), (0, 105)) := xt_mt0 (by decide) (xt_gm 651 (by rfl)) (xt_gm 652 (by rfl)) (xt_gm 653 (by rfl)) (xt_gm 354 (by rfl)) ⟨_, rfl, rfl⟩
set_option maxRecDepth 100000 in
theorem xt_me124 : xt_mtq ((9, 103), (0, 109)) := xt_mt0 (by decide) (xt_gm 654 (by rfl)) (xt_gm 655 (by rfl)) (xt_gm 656 (by rfl)) (xt_gm 354 (by rfl)) ⟨_, rfl, rfl⟩
set_option maxRecDepth 100000 in
theorem xt_me125 : xt_mtq ((9, 106), (0, 65)) := xt_mt0 (by decide) (xt_gm 657 (by rfl)) (xt_gm 658 (by rfl)) (xt_gm 659 (by rfl)) (xt_gm 415 (by rfl)) ⟨_, rfl, rfl⟩
set_option maxRecDepth 100000 in
theorem xt_me126 : xt_mtq ((9, 109), (0, 66)) := xt_mt0 (by decide) (xt_gm 660 (by rfl)) (xt_gm 661 (by rfl)) (xt_gm 662 (by rfl)) (xt_gm 415 (by rfl)) ⟨_, rfl, rfl⟩
set_option maxRecDepth 100000 in
theorem xt_me127 : xt_mtq ((9, 119), (0, 67)) := xt_mt0 (by decide) (xt_gm 663 (by rfl)) (xt_gm 510 (by rfl)) (xt_gm 511 (by rfl)) (xt_gm 415 (by rfl)) ⟨_, rfl, rfl⟩
set_option maxRecDepth 100000 in
theorem xt_me128 : xt_mtq ((9, 123), (0, 34)) := xt_mt0 (by decide) (xt_gm 664 (by rfl)) (xt_gm 665 (by rfl)) (xt_gm 666 (by rfl)) (xt_gm 340 (by rfl)) ⟨_, rfl, rfl⟩
set_option maxRecDepth 100000 in
theorem xt_me129 : xt_mtq ((9, 129), (0, 104)) := xt_mt0 (by decide) (xt_gm 667 (by rfl)) (xt_gm 668 (by rfl)) (xt_gm 669 (by rfl)) (xt_gm 354 (by rfl)) ⟨_, rfl, rfl⟩
set_option maxRecDepth 100000 in
theorem xt_me130 : xt_mtq ((9, 132), (0, 62)) := xt_mt0 (by decide) (xt_gm 670 (by rfl)) (xt_gm 671 (by rfl)) (xt_gm 672 (by rfl)) (xt_gm 415 (by rfl)) ⟨_, rfl, rfl⟩
set_option maxRecDepth 100000 in
theorem xt_me131 : xt_mtq ((9, 135), (0, 117)) := xt_mt0 (by decide) (xt_gm 673 (by rfl)) (xt_gm 447 (by rfl)) (xt_gm 448 (by rfl)) (xt_gm 343 (by rfl)) ⟨_, rfl, rfl⟩
set_option maxRecDepth 100000 in
theorem xt_me132 : xt_mtq ((9, 144), (0, 106)) := xt_mt0 (by decide) (xt_gm 674 (by rfl)) (xt_gm 675 (by rfl)) (xt_gm 676 (by rfl)) (xt_gm 354 (by rfl)) ⟨_, rfl, rfl⟩
set_option maxRecDepth 100000 in
theorem xt_me133 : xt_mtq ((9, 148), (0, 61)) := xt_mt0 (by decide) (xt_gm 677 (by rfl)) (xt_gm 516 (by rfl)) (xt_gm 517 (by rfl)) (xt_gm 415 (by rfl)) ⟨_, rfl, rfl⟩
set_option maxRecDepth 100000 in
theorem xt_me134 : xt_mtq ((10, 1), (1, 0)) := xt_mt1 (xt_gm 678 (by rfl)) (xt_gm 338 (by rfl)) (xt_gx 0 (by rfl))
set_option maxRecDepth 100000 in
theorem xt_me135 : xt_mtq ((11, 1), (1, 0)) := xt_mt1 (xt_gm 679 (by rfl)) (xt_gm 338 (by rfl)) (xt_gx 0 (by rfl))
set_option maxRecDepth 100000 in
theorem xt_me136 : xt_mtq ((11, 15), (5, 73)) := xt_mt7 (Or.inl rfl) (by decide) rfl rfl (xt_gm 680 (by rfl)) (xt_gm 408 (by rfl)) (Or.inr ⟨_, List.mem_of_getElem? (i := 3) (by rfl)⟩)
set_option maxRecDepth 100000 in
theorem xt_me137 : xt_mtq ((11, 48), (0, 117)) := xt_mt0 (by decide) (xt_gm 681 (by rfl)) (xt_gm 447 (by rfl)) (xt_gm 448 (by rfl)) (xt_gm 343 (by rfl)) ⟨_, rfl, rfl⟩
set_option maxRecDepth 100000 in
theorem xt_me138 : xt_mtq ((11, 56), (0, 74)) := xt_mt0 (by decide) (xt_gm 682 (by rfl)) (xt_gm 493 (by rfl)) (xt_gm 494 (by rfl)) (xt_gm 408 (by rfl)) ⟨_, rfl, rfl⟩
set_option maxRecDepth 100000 in
theorem xt_me139 : xt_mtq ((11, 60), (0, 119)) := xt_mt0 (by decide) (xt_gm 683 (by rfl)) (xt_gm 429 (by rfl)) (xt_gm 430 (by rfl)) (xt_gm 343 (by rfl)) ⟨_, rfl, rfl⟩
set_option maxRecDepth 100000 in
theorem xt_me140 : xt_mtq ((12, 1), (1, 0)) := xt_mt1 (xt_gm 684 (by rfl)) (xt_gm 338 (by rfl)) (xt_gx 0 (by rfl))
set_option maxRecDepth 100000 in
theorem xt_me141 : xt_mtq ((12, 171), (0, 122)) := xt_mt0 (by decide) (xt_gm 685 (by rfl)) (xt_gm 686 (by rfl)) (xt_gm 687 (by rfl)) (xt_gm 688 (by rfl)) ⟨_, rfl, rfl⟩
set_option maxRecDepth 100000 in
theorem xt_me142 : xt_mtq ((12, 175), (6, 123)) := xt_mt6 (by decide) (xt_gm 689 (by rfl)) (xt_gm 690 (by rfl)) (xt_gm 688 (by rfl))
set_option maxRecDepth 100000 in
theorem xt_me143 : xt_mtq ((12, 178), (6, 124)) := xt_mt6 (by decide) (xt_gm 691 (by rfl)) (xt_gm 692 (by rfl)) (xt_gm 688 (by rfl))
set_option maxRecDepth 100000 in
theorem xt_me144 : xt_mtq ((12, 185), (6, 131)) := xt_mt6 (by decide) (xt_gm 693 (by rfl)) (xt_gm 694 (by rfl)) (xt_gm 688 (by rfl))
set_option maxRecDepth 100000 in
theorem xt_me145 : xt_mtq ((12, 192), (6, 134)) := xt_mt6 (by decide) (xt_gm 695 (by rfl)) (xt_gm 696 (by rfl)) (xt_gm 688 (by rfl))
set_option maxRecDepth 100000 in
theorem xt_me146 : xt_mtq ((12, 195), (0, 136)) := xt_mt0 (by decide) (xt_gm 697 (by rfl)) (xt_gm 698 (by rfl)) (xt_gm 699 (by rfl)) (xt_gm 688 (by rfl)) ⟨_, rfl, rfl⟩
set_option maxRecDepth 100000 in
theorem xt_me147 : xt_mtq ((12, 199), (0, 137)) := xt_mt0 (by decide) (xt_gm 700 (by rfl)) (xt_gm 701 (by rfl)) (xt_gm 702 (by rfl)) (xt_gm 688 (by rfl)) ⟨_, rfl, rfl⟩
set_option maxRecDepth 100000 in
theorem xt_me148 : xt_mtq ((12, 203), (6, 133)) := xt_mt6 (by decide) (xt_gm 703 (by rfl)) (xt_gm 704 (by rfl)) (xt_gm 688 (by rfl))
set_option maxRecDepth 100000 in
theorem xt_me149 : xt_mtq ((12, 206), (0, 140)) := xt_mt0 (by decide) (xt_gm 705 (by rfl)) (xt_gm 706 (by rfl)) (xt_gm 707 (by rfl)) (xt_gm 688 (by rfl)) ⟨_, rfl, rfl⟩
set_option maxRecDepth 100000 in
theorem xt_me150 : xt_mtq ((12, 209), (0, 146)) := xt_mt0 (by decide) (xt_gm 708 (by rfl)) (xt_gm 709 (by rfl)) (xt_gm 710 (by rfl)) (xt_gm 688 (by rfl)) ⟨_, rfl, rfl⟩
set_option maxRecDepth 100000 in
theorem xt_me151 : xt_mtq ((12, 213), (0, 163)) := xt_mt0 (by decide) (xt_gm 711 (by rfl)) (xt_gm 712 (by rfl)) (xt_gm 713 (by rfl)) (xt_gm 688 (by rfl)) ⟨_, rfl, rfl⟩
set_option maxRecDepth 100000 in
theorem xt_me152 : xt_mtq ((12, 216), (0, 164)) := xt_mt0 (by decide) (xt_gm 714 (by rfl)) (xt_gm 715 (by rfl)) (xt_gm 716 (by rfl)) (xt_gm 688 (by rfl)) ⟨_, rfl, rfl⟩
set_option maxRecDepth 100000 in
theorem xt_me153 : xt_mtq ((12, 223), (0, 142)) := xt_mt0 (by decide) (xt_gm 717 (by rfl)) (xt_gm 718 (by rfl)) (xt_gm 719 (by rfl)) (xt_gm 688 (by rfl)) ⟨_, rfl, rfl⟩
set_option maxRecDepth 100000 in
theorem xt_me154 : xt_mtq ((12, 227), (0, 144)) := xt_mt0 (by decide) (xt_gm 720 (by rfl)) (xt_gm 721 (by rfl)) (xt_gm 722 (by rfl)) (xt_gm 688 (by rfl)) ⟨_, rfl, rfl⟩
set_option maxRecDepth 100000 in
theorem xt_me155 : xt_mtq ((12, 230), (0, 147)) := xt_mt0 (by decide) (xt_gm 723 (by rfl)) (xt_gm 724 (by rfl)) (xt_gm 725 (by rfl)) (xt_gm 688 (by rfl)) ⟨_, rfl, rfl⟩
set_option maxRecDepth 100000 in
theorem xt_me156 : xt_mtq ((12, 233), (0, 148)) := xt_mt0 (by decide) (xt_gm 726 (by rfl)) (xt_gm 727 (by rfl)) (xt_gm 728 (by rfl)) (xt_gm 688 (by rfl)) ⟨_, rfl, rfl⟩
set_option maxRecDepth 100000 in
theorem xt_me157 : xt_mtq ((12, 237), (0, 135)) := xt_mt0 (by decide) (xt_gm 729 (by rfl)) (xt_gm 730 (by rfl)) (xt_gm 731 (by rfl)) (xt_gm 688 (by rfl)) ⟨_, rfl, rfl⟩
set_option maxRecDepth 100000 in
theorem xt_me158 : xt_mtq ((12, 240), (0, 152)) := xt_mt0 (by decide) (xt_gm 732 (by rfl)) (xt_gm 733 (by rfl)) (xt_gm 734 (by rfl)) (xt_gm 688 (by rfl)) ⟨_, rfl, rfl⟩
set_option maxRecDepth 100000 in
theorem xt_me159 : xt_mtq ((12, 243), (0, 145)) := xt_mt0 (by decide) (xt_gm 735 (by rfl)) (xt_gm 736 (by rfl)) (xt_gm 737 (by rfl)) (xt_gm 688 (by rfl)) ⟨_, rfl, rfl⟩
set_option maxRecDepth 100000 in
theorem xt_me160 : xt_mtq ((12, 247), (0, 143)) := xt_mt0 (by decide) (xt_gm 738 (by rfl)) (xt_gm 739 (by rfl)) (xt_gm 740 (by rfl)) (xt_gm 688 (by rfl)) ⟨_, rfl, rfl⟩
set_option maxRecDepth 100000 in
theorem xt_me161 : xt_mtq ((12, 250), (0, 151)) := xt_mt0 (by decide) (xt_gm 741 (by rfl)) (xt_gm 742 (by rfl)) (xt_gm 743 (by rfl)) (xt_gm 688 (by rfl)) ⟨_, rfl, rfl⟩
set_option maxRecDepth 100000 in
theorem xt_me162 : xt_mtq ((12, 257), (0, 149)) := xt_mt0 (by decide) (xt_gm 744 (by rfl)) (xt_gm 745 (by rfl)) (xt_gm 746 (by rfl)) (xt_gm 688 (by rfl)) ⟨_, rfl, rfl⟩
set_option maxRecDepth 100000 in
theorem xt_me163 : xt_mtq ((12, 260), (0, 150)) := xt_mt0 (by decide) (xt_gm 747 (by rfl)) (xt_gm 748 (by rfl)) (xt_gm 749 (by rfl)) (xt_gm 688 (by rfl)) ⟨_, rfl, rfl⟩
set_option maxRecDepth 100000 in
theorem xt_me164 : xt_mtq ((12, 266), (0, 157)) := xt_mt0 (by decide) (xt_gm 750 (by rfl)) (xt_gm 751 (by rfl)) (xt_gm 752 (by rfl)) (xt_gm 688 (by rfl)) ⟨_, rfl, rfl⟩
set_option maxRecDepth 100000 in
theorem xt_me165 : xt_mtq ((12, 269), (0, 158)) := xt_mt0 (by decide) (xt_gm 753 (by rfl)) (xt_gm 754 (by rfl)) (xt_gm 755 (by rfl)) (xt_gm 688 (by rfl)) ⟨_, rfl, rfl⟩
set_option maxRecDepth 100000 in
theorem xt_me166 : xt_mtq ((12, 272), (0, 156)) := xt_mt0 (by decide) (xt_gm 756 (by rfl)) (xt_gm 757 (by rfl)) (xt_gm 758 (by rfl)) (xt_gm 688 (by rfl)) ⟨_, rfl, rfl⟩
set_option maxRecDepth 100000 in
theorem xt_me167 : xt_mtq ((12, 275), (0, 159)) := xt_mt0 (by decide) (xt_gm 759 (by rfl)) (xt_gm 760 (by rfl)) (xt_gm 761 (by rfl)) (xt_gm 688 (by rfl)) ⟨_, rfl, rfl⟩
set_option maxRecDepth 100000 in
theorem xt_me168 : xt_mtq ((12, 278), (0, 165)) := xt_mt0 (by decide) (xt_gm 762 (by rfl)) (xt_gm 763 (by rfl)) (xt_gm 764 (by rfl)) (xt_gm 688 (by rfl)) ⟨_, rfl, rfl⟩
set_option maxRecDepth 100000 in
theorem xt_me169 : xt_mtq ((12, 281), (0, 166)) := xt_mt0 (by decide) (xt_gm 765 (by rfl)) (xt_gm 766 (by rfl)) (xt_gm 767 (by rfl)) (xt_gm 688 (by rfl)) ⟨_, rfl, rfl⟩
set_option maxRecDepth 100000 in
theorem xt_me170 : xt_mtq ((12, 285), (0, 160)) := xt_mt0 (by decide) (xt_gm 768 (by rfl)) (xt_gm 769 (by rfl)) (xt_gm 770 (by rfl)) (xt_gm 688 (by rfl)) ⟨_, rfl, rfl⟩
set_option maxRecDepth 100000 in
theorem xt_me171 : xt_mtq ((12, 288), (0, 161)) := xt_mt0 (by decide) (xt_gm 771 (by rfl)) (xt_gm 772 (by rfl)) (xt_gm 773 (by rfl)) (xt_gm 688 (by rfl)) ⟨_, rfl, rfl⟩
set_option maxRecDepth 100000 in
theorem xt_me172 : xt_mtq ((12, 291), (0, 167)) := xt_mt0 (by decide) (xt_gm 774 (by rfl)) (xt_gm 775 (by rfl)) (xt_gm 776 (by rfl)) (xt_gm 688 (by rfl)) ⟨_, rfl, rfl⟩
set_option maxRecDepth 100000 in
theorem xt_me173 : xt_mtq ((12, 294), (0, 168)) := xt_mt0 (by decide) (xt_gm 777 (by rfl)) (xt_gm 778 (by rfl)) (xt_gm 779 (by rfl)) (xt_gm 688 (by rfl)) ⟨_, rfl, rfl⟩
set_option maxRecDepth 100000 in
theorem xt_me174 : xt_mtq ((12, 297), (0, 169)) := xt_mt0 (by decide) (xt_gm 780 (by rfl)) (xt_gm 781 (by rfl)) (xt_gm 782 (by rfl)) (xt_gm 688 (by rfl)) ⟨_, rfl, rfl⟩
set_option maxRecDepth 100000 in
theorem xt_me175 : xt_mtq ((12, 300), (0, 170)) := xt_mt0 (by decide) (xt_gm 783 (by rfl)) (xt_gm 784 (by rfl)) (xt_gm 785 (by rfl)) (xt_gm 688 (by rfl)) ⟨_, rfl, rfl⟩
set_option maxRecDepth 100000 in
theorem xt_me176 : xt_mtq ((14, 9), (6, 175)) := xt_mt6 (by decide) (xt_gm 786 (by rfl)) (xt_gm 787 (by rfl)) (xt_gm 788 (by rfl))
set_option maxRecDepth 100000 in
theorem xt_me177 : xt_mtq ((14, 15), (7, 0)) := xt_mt7 (Or.inr rfl) (by decide) rfl rfl (xt_gm 789 (by rfl)) (xt_gm 392 (by rfl)) (Or.inl (xt_gm 790 (by rfl)))
set_option maxRecDepth 100000 in
theorem xt_me178 : xt_mtq ((14, 20), (7, 121)) := xt_mt7 (Or.inr rfl) (by decide) rfl rfl (xt_gm 791 (by rfl)) (xt_gm 688 (by rfl)) (Or.inl (xt_gm 792 (by rfl)))
set_option maxRecDepth 100000 in
theorem xt_me179 : xt_mtq ((14, 21), (0, 1)) := xt_mt0 (by decide) (xt_gm 793 (by rfl)) (xt_gm 794 (by rfl)) (xt_gm 795 (by rfl)) (xt_gm 392 (by rfl)) ⟨_, rfl, rfl⟩
set_option maxRecDepth 100000 in
theorem xt_me180 : xt_mtq ((14, 25), (0, 125)) := xt_mt0 (by decide) (xt_gm 796 (by rfl)) (xt_gm 797 (by rfl)) (xt_gm 798 (by rfl)) (xt_gm 688 (by rfl)) ⟨_, rfl, rfl⟩
set_option maxRecDepth 100000 in
theorem xt_me181 : xt_mtq ((14, 26), (0, 2)) := xt_mt0 (by decide) (xt_gm 799 (by rfl)) (xt_gm 800 (by rfl)) (xt_gm 801 (by rfl)) (xt_gm 392 (by rfl)) ⟨_, rfl, rfl⟩
set_option maxRecDepth 100000 in
theorem xt_me182 : xt_mtq ((14, 30), (0, 126)) := xt_mt0 (by decide) (xt_gm 802 (by rfl)) (xt_gm 803 (by rfl)) (xt_gm 804 (by rfl)) (xt_gm 688 (by rfl)) ⟨_, rfl, rfl⟩
set_option maxRecDepth 100000 in
theorem xt_me183 : xt_mtq ((14, 31), (0, 3)) := xt_mt0 (by decide) (xt_gm 805 (by rfl)) (xt_gm 806 (by rfl)) (xt_gm 807 (by rfl)) (xt_gm 392 (by rfl)) ⟨_, rfl, rfl⟩
set_option maxRecDepth 100000 in
theorem xt_me184 : xt_mtq ((14, 35), (0, 127)) := xt_mt0 (by decide) (xt_gm 808 (by rfl)) (xt_gm 809 (by rfl)) (xt_gm 810 (by rfl)) (xt_gm 688 (by rfl)) ⟨_, rfl, rfl⟩
set_option maxRecDepth 100000 in
theorem xt_me185 : xt_mtq ((14, 36), (0, 4)) := xt_mt0 (by decide) (xt_gm 811 (by rfl)) (xt_gm 812 (by rfl)) (xt_gm 813 (by rfl)) (xt_gm 392 (by rfl)) ⟨_, rfl, rfl⟩
set_option maxRecDepth 100000 in
theorem xt_me186 : xt_mtq ((14, 40), (0, 128)) := xt_mt0 (by decide) (xt_gm 814 (by rfl)) (xt_gm 815 (by rfl)) (xt_gm 816 (by rfl)) (xt_gm 688 (by rfl)) ⟨_, rfl, rfl⟩
set_option maxRecDepth 100000 in
theorem xt_me187 : xt_mtq ((14, 41), (0, 5)) := xt_mt0 (by decide) (xt_gm 817 (by rfl)) (xt_gm 818 (by rfl)) (xt_gm 819 (by rfl)) (xt_gm 392 (by rfl)) ⟨_, rfl, rfl⟩
set_option maxRecDepth 100000 in
theorem xt_me188 : xt_mtq ((14, 44), (0, 129)) := xt_mt0 (by decide) (xt_gm 820 (by rfl)) (xt_gm 821 (by rfl)) (xt_gm 822 (by rfl)) (xt_gm 688 (by rfl)) ⟨_, rfl, rfl⟩
set_option maxRecDepth 100000 in
theorem xt_me189 : xt_mtq ((14, 45), (0, 6)) := xt_mt0 (by decide) (xt_gm 823 (by rfl)) (xt_gm 824 (by rfl)) (xt_gm 825 (by rfl)) (xt_gm 392 (by rfl)) ⟨_, rfl, rfl⟩
set_option maxRecDepth 100000 in
theorem xt_me190 : xt_mtq ((14, 48), (0, 130)) := xt_mt0 (by decide) (xt_gm 826 (by rfl)) (xt_gm 827 (by rfl)) (xt_gm 828 (by rfl)) (xt_gm 688 (by rfl)) ⟨_, rfl, rfl⟩
set_option maxRecDepth 100000 in
theorem xt_me191 : xt_mtq ((14, 49), (0, 7)) := xt_mt0 (by decide) (xt_gm 829 (by rfl)) (xt_gm 830 (by rfl)) (xt_gm 831 (by rfl)) (xt_gm 392 (by rfl)) ⟨_, rfl, rfl⟩
set_option maxRecDepth 100000 in
theorem xt_me192 : xt_mtq ((14, 52), (0, 132)) := xt_mt0 (by decide) (xt_gm 832 (by rfl)) (xt_gm 833 (by rfl)) (xt_gm 834 (by rfl)) (xt_gm 688 (by rfl)) ⟨_, rfl, rfl⟩
set_option maxRecDepth 100000 in
theorem xt_me193 : xt_mtq ((14, 53), (0, 8)) := xt_mt0 (by decide) (xt_gm 835 (by rfl)) (xt_gm 836 (by rfl)) (xt_gm 837 (by rfl)) (xt_gm 392 (by rfl)) ⟨_, rfl, rfl⟩
set_option maxRecDepth 100000 in
theorem xt_me194 : xt_mtq ((14, 57), (0, 162)) := xt_mt0 (by decide) (xt_gm 838 (by rfl)) (xt_gm 839 (by rfl)) (xt_gm 840 (by rfl)) (xt_gm 688 (by rfl)) ⟨_, rfl, rfl⟩
set_option maxRecDepth 100000 in
theorem xt_me195 : xt_mtq ((14, 58), (0, 9)) := xt_mt0 (by decide) (xt_gm 841 (by rfl)) (xt_gm 842 (by rfl)) (xt_gm 843 (by rfl)) (xt_gm 392 (by rfl)) ⟨_, rfl, rfl⟩
set_option maxRecDepth 100000 in
theorem xt_me196 : xt_mtq ((14, 61), (0, 139)) := xt_mt0 (by decide) (xt_gm 844 (by rfl)) (xt_gm 845 (by rfl)) (xt_gm 846 (by rfl)) (xt_gm 688 (by rfl)) ⟨_, rfl, rfl⟩
set_option maxRecDepth 100000 in
theorem xt_me197 : xt_mtq ((14, 62), (0, 10)) := xt_mt0 (by decide) (xt_gm 847 (by rfl)) (xt_gm 848 (by rfl)) (xt_gm 849 (by rfl)) (xt_gm 392 (by rfl)) ⟨_, rfl, rfl⟩
set_option maxRecDepth 100000 in
theorem xt_me198 : xt_mtq ((14, 65), (0, 138)) := xt_mt0 (by decide) (xt_gm 850 (by rfl)) (xt_gm 851 (by rfl)) (xt_gm 852 (by rfl)) (xt_gm 688 (by rfl)) ⟨_, rfl, rfl⟩
set_option maxRecDepth 100000 in
theorem xt_me199 : xt_mtq ((14, 66), (0, 11)) := xt_mt0 (by decide) (xt_gm 853 (by rfl)) (xt_gm 854 (by rfl)) (xt_gm 855 (by rfl)) (xt_gm 392 (by rfl)) ⟨_, rfl, rfl⟩
set_option maxRecDepth 100000 in
theorem xt_me200 : xt_mtq ((14, 70), (0, 171)) := xt_mt0 (by decide) (xt_gm 856 (by rfl)) (xt_gm 857 (by rfl)) (xt_gm 858 (by rfl)) (xt_gm 688 (by rfl)) ⟨_, rfl, rfl⟩
set_option maxRecDepth 100000 in
theorem xt_me201 : xt_mtq ((14, 71), (0, 12)) := xt_mt0 (by decide) (xt_gm 859 (by rfl)) (xt_gm 860 (by rfl)) (xt_gm 861 (by rfl)) (xt_gm 392 (by rfl)) ⟨_, rfl, rfl⟩
set_option maxRecDepth 100000 in
theorem xt_me202 : xt_mtq ((14, 74), (0, 153)) := xt_mt0 (by decide) (xt_gm 862 (by rfl)) (xt_gm 863 (by rfl)) (xt_gm 864 (by rfl)) (xt_gm 688 (by rfl)) ⟨_, rfl, rfl⟩
set_option maxRecDepth 100000 in
theorem xt_me203 : xt_mtq ((14, 75), (0, 13)) := xt_mt0 (by decide) (xt_gm 865 (by rfl)) (xt_gm 866 (by rfl)) (xt_gm 867 (by rfl)) (xt_gm 392 (by rfl)) ⟨_, rfl, rfl⟩
set_option maxRecDepth 100000 in
theorem xt_me204 : xt_mtq ((14, 79), (0, 141)) := xt_mt0 (by decide) (xt_gm 868 (by rfl)) (xt_gm 869 (by rfl)) (xt_gm 870 (by rfl)) (xt_gm 688 (by rfl)) ⟨_, rfl, rfl⟩
set_option maxRecDepth 100000 in
theorem xt_me205 : xt_mtq ((14, 80), (0, 14)) := xt_mt0 (by decide) (xt_gm 871 (by rfl)) (xt_gm 872 (by rfl)) (xt_gm 873 (by rfl)) (xt_gm 392 (by rfl)) ⟨_, rfl, rfl⟩
set_option maxRecDepth 100000 in
theorem xt_me206 : xt_mtq ((14, 83), (0, 172)) := xt_mt0 (by decide) (xt_gm 874 (by rfl)) (xt_gm 875 (by rfl)) (xt_gm 876 (by rfl)) (xt_gm 688 (by rfl)) ⟨_, rfl, rfl⟩
set_option maxRecDepth 100000 in
theorem xt_me207 : xt_mtq ((14, 84), (0, 15)) := xt_mt0 (by decide) (xt_gm 877 (by rfl)) (xt_gm 878 (by rfl)) (xt_gm 879 (by rfl)) (xt_gm 392 (by rfl)) ⟨_, rfl, rfl⟩
set_option maxRecDepth 100000 in
theorem xt_me208 : xt_mtq ((14, 87), (0, 173)) := xt_mt0 (by decide) (xt_gm 880 (by rfl)) (xt_gm 881 (by rfl)) (xt_gm 882 (by rfl)) (xt_gm 688 (by rfl)) ⟨_, rfl, rfl⟩
set_option maxRecDepth 100000 in
theorem xt_me209 : xt_mtq ((14, 88), (0, 16)) := xt_mt0 (by decide) (xt_gm 883 (by rfl)) (xt_gm 884 (by rfl)) (xt_gm 885 (by rfl)) (xt_gm 392 (by rfl)) ⟨_, rfl, rfl⟩
set_option maxRecDepth 100000 in
theorem xt_me210 : xt_mtq ((14, 91), (0, 154)) := xt_mt0 (by decide) (xt_gm 886 (by rfl)) (xt_gm 887 (by rfl)) (xt_gm 888 (by rfl)) (xt_gm 688 (by rfl)) ⟨_, rfl, rfl⟩
set_option maxRecDepth 100000 in
theorem xt_me211 : xt_mtq ((14, 92), (0, 17)) := xt_mt0 (by decide) (xt_gm 889 (by rfl)) (xt_gm 890 (by rfl)) (xt_gm 891 (by rfl)) (xt_gm 392 (by rfl)) ⟨_, rfl, rfl⟩
set_option maxRecDepth 100000 in
theorem xt_me212 : xt_mtq ((14, 95), (0, 155)) := xt_mt0 (by decide) (xt_gm 892 (by rfl)) (xt_gm 893 (by rfl)) (xt_gm 894 (by rfl)) (xt_gm 688 (by rfl)) ⟨_, rfl, rfl⟩
set_option maxRecDepth 100000 in
theorem xt_mta : ∀ e ∈ xt_mt, xt_mtq e := List.forall_mem_cons.mpr ⟨xt_me0, List.forall_mem_cons.mpr ⟨xt_me1, List.forall_mem_cons.mpr ⟨xt_me2, List.forall_mem_cons.mpr ⟨xt_me3, List.forall_mem_cons.mpr ⟨xt_me4, List.forall_mem_cons.mpr ⟨xt_me5, List.forall_mem_cons.mpr ⟨xt_me6, List.forall_mem_cons.mpr ⟨xt_me7, List.forall_mem_cons.mpr ⟨xt_me8, List.forall_mem_cons.mpr ⟨xt_me9, List.forall_mem_cons.mpr ⟨xt_me10, List.forall_mem_cons.mpr ⟨xt_me11, List.forall_mem_cons.mpr ⟨xt_me12, List.forall_mem_cons.mpr ⟨xt_me13, List.forall_mem_cons.mpr ⟨xt_me14, List.forall_mem_cons.mpr ⟨xt_me15, List.forall_mem_cons.mpr ⟨xt_me16, List.forall_mem_cons.mpr ⟨xt_me17, List.forall_mem_cons.mpr ⟨xt_me18, List.forall_mem_cons.mpr ⟨xt_me19, List.forall_mem_cons.mpr ⟨xt_me20, List.forall_mem_cons.mpr ⟨xt_me21, List.forall_mem_cons.mpr ⟨xt_me22, List.forall_mem_cons.mpr ⟨xt_me23, List.forall_mem_cons.mpr ⟨xt_me24, List.forall_mem_cons.mpr ⟨xt_me25, List.forall_mem_cons.mpr ⟨xt_me26, List.forall_mem_cons.mpr ⟨xt_me27, List.forall_mem_cons.mpr ⟨xt_me28, List.forall_mem_cons.mpr ⟨xt_me29, List.forall_mem_cons.mpr ⟨xt_me30, List.forall_mem_cons.mpr ⟨xt_me31, List.forall_mem_cons.mpr ⟨xt_me32, List.forall_mem_cons.mpr ⟨xt_me33, List.forall_mem_cons.mpr ⟨xt_me34, List.forall_mem_cons.mpr ⟨xt_me35, List.forall_mem_cons.mpr ⟨xt_me36, List.forall_mem_cons.mpr ⟨xt_me37, List.forall_mem_cons.mpr ⟨xt_me38, List.forall_mem_cons.mpr ⟨xt_me39, List.forall_mem_cons.mpr ⟨xt_me40, List.forall_mem_cons.mpr ⟨xt_me41, List.forall_mem_cons.mpr ⟨xt_me42, List.forall_mem_cons.mpr ⟨xt_me43, List.forall_mem_cons.mpr ⟨xt_me44, List.forall_mem_cons.mpr ⟨xt_me45, List.forall_mem_cons.mpr ⟨xt_me46, List.forall_mem_cons.mpr ⟨xt_me47, List.forall_mem_cons.mpr ⟨xt_me48, List.forall_mem_cons.mpr ⟨xt_me49, List.forall_mem_cons.mpr ⟨xt_me50, List.forall_mem_cons.mpr ⟨xt_me51, List.forall_mem_cons.mpr ⟨xt_me52, List.forall_mem_cons.mpr ⟨xt_me53, List.forall_mem_cons.mpr ⟨xt_me54, List.forall_mem_cons.mpr ⟨xt_me55, List.forall_mem_cons.mpr ⟨xt_me56, List.forall_mem_cons.mpr ⟨xt_me57, List.forall_mem_cons.mpr ⟨xt_me58, List.forall_mem_cons.mpr ⟨xt_me59, List.forall_mem_cons.mpr ⟨xt_me60, List.forall_mem_cons.mpr ⟨xt_me61, List.forall_mem_cons.mpr ⟨xt_me62, List.forall_mem_cons.mpr ⟨xt_me63, List.forall_mem_cons.mpr ⟨xt_me64, List.forall_mem_cons.mpr ⟨xt_me65, List.forall_mem_cons.mpr ⟨xt_me66, List.forall_mem_cons.mpr ⟨xt_me67, List.forall_mem_cons.mpr ⟨xt_me68, List.forall_mem_cons.mpr ⟨xt_me69, List.forall_mem_cons.mpr ⟨xt_me70, List.forall_mem_cons.mpr ⟨xt_me71, List.forall_mem_cons.mpr ⟨xt_me72, List.forall_mem_cons.mpr ⟨xt_me73, List.forall_mem_cons.mpr ⟨xt_me74, List.forall_mem_cons.mpr ⟨xt_me75, List.forall_mem_cons.mpr ⟨xt_me76, List.forall_mem_cons.mpr ⟨xt_me77, List.forall_mem_cons.mpr ⟨xt_me78, List.forall_mem_cons.mpr ⟨xt_me79, List.forall_mem_cons.mpr ⟨xt_me80, List.forall_mem_cons.mpr ⟨xt_me81, List.forall_mem_cons.mpr ⟨xt_me82, List.forall_mem_cons.mpr ⟨xt_me83, List.forall_mem_cons.mpr ⟨xt_me84, List.forall_mem_cons.mpr ⟨xt_me85, List.forall_mem_cons.mpr ⟨xt_me86, List.forall_mem_cons.mpr ⟨xt_me87, List.forall_mem_cons.mpr ⟨xt_me88, List.forall_mem_cons.mpr ⟨xt_me89, List.forall_mem_cons.mpr ⟨xt_me90, List.forall_mem_cons.mpr ⟨xt_me91, List.forall_mem_cons.mpr ⟨xt_me92, List.forall_mem_cons.mpr ⟨xt_me93, List.forall_mem_cons.mpr ⟨xt_me94, List.forall_mem_cons.mpr ⟨xt_me95, List.forall_mem_cons.mpr ⟨xt_me96, List.forall_mem_cons.mpr ⟨xt_me97, List.forall_mem_cons.mpr ⟨xt_me98, List.forall_mem_cons.mpr ⟨xt_me99, List.forall_mem_cons.mpr ⟨xt_me100, List.forall_mem_cons.mpr ⟨xt_me101, List.forall_mem_cons.mpr ⟨xt_me102, List.forall_mem_cons.mpr ⟨xt_me103, List.forall_mem_cons.mpr ⟨xt_me104, List.forall_mem_cons.mpr ⟨xt_me105, List.forall_mem_cons.mpr ⟨xt_me106, List.forall_mem_cons.mpr ⟨xt_me107, List.forall_mem_cons.mpr ⟨xt_me108, List.forall_mem_cons.mpr ⟨xt_me109, List.forall_mem_cons.mpr ⟨xt_me110, List.forall_mem_cons.mpr ⟨xt_me111, List.forall_mem_cons.mpr ⟨xt_me112, List.forall_mem_cons.mpr ⟨xt_me113, List.forall_mem_cons.mpr ⟨xt_me114, List.forall_mem_cons.mpr ⟨xt_me115, List.forall_mem_cons.mpr ⟨xt_me116, List.forall_mem_cons.mpr ⟨xt_me117, List.forall_mem_cons.mpr ⟨xt_me118, List.forall_mem_cons.mpr ⟨xt_me119, List.forall_mem_cons.mpr ⟨xt_me120, List.forall_mem_cons.mpr ⟨xt_me121, List.forall_mem_cons.mpr ⟨xt_me122, List.forall_mem_cons.mpr ⟨xt_me123, List.forall_mem_cons.mpr ⟨xt_me124, List.forall_mem_cons.mpr ⟨xt_me125, List.forall_mem_cons.mpr ⟨xt_me126, List.forall_mem_cons.mpr ⟨xt_me127, List.forall_mem_cons.mpr ⟨xt_me128, List.forall_mem_cons.mpr ⟨xt_me129, List.forall_mem_cons.mpr ⟨xt_me130, List.forall_mem_cons.mpr ⟨xt_me131, List.forall_mem_cons.mpr ⟨xt_me132, List.forall_mem_cons.mpr ⟨xt_me133, List.forall_mem_cons.mpr ⟨xt_me134, List.forall_mem_cons.mpr ⟨xt_me135, List.forall_mem_cons.mpr ⟨xt_me136, List.forall_mem_cons.mpr ⟨xt_me137, List.forall_mem_cons.mpr ⟨xt_me138, List.forall_mem_cons.mpr ⟨xt_me139, List.forall_mem_cons.mpr ⟨xt_me140, List.forall_mem_cons.mpr ⟨xt_me141, List.forall_mem_cons.mpr ⟨xt_me142, List.forall_mem_cons.mpr ⟨xt_me143, List.forall_mem_cons.mpr ⟨xt_me144, List.forall_mem_cons.mpr ⟨xt_me145, List.forall_mem_cons.mpr ⟨xt_me146, List.forall_mem_cons.mpr ⟨xt_me147, List.forall_mem_cons.mpr ⟨xt_me148, List.forall_mem_cons.mpr ⟨xt_me149, List.forall_mem_cons.mpr ⟨xt_me150, List.forall_mem_cons.mpr ⟨xt_me151, List.forall_mem_cons.mpr ⟨xt_me152, List.forall_mem_cons.mpr ⟨xt_me153, List.forall_mem_cons.mpr ⟨xt_me154, List.forall_mem_cons.mpr ⟨xt_me155, List.forall_mem_cons.mpr ⟨xt_me156, List.forall_mem_cons.mpr ⟨xt_me157, List.forall_mem_cons.mpr ⟨xt_me158, List.forall_mem_cons.mpr ⟨xt_me159, List.forall_mem_cons.mpr ⟨xt_me160, List.forall_mem_cons.mpr ⟨xt_me161, List.forall_mem_cons.mpr ⟨xt_me162, List.forall_mem_cons.mpr ⟨xt_me163, List.forall_mem_cons.mpr ⟨xt_me164, List.forall_mem_cons.mpr ⟨xt_me165, List.forall_mem_cons.mpr ⟨xt_me166, List.forall_mem_cons.mpr ⟨xt_me167, List.forall_mem_cons.mpr ⟨xt_me168, List.forall_mem_cons.mpr ⟨xt_me169, List.forall_mem_cons.mpr ⟨xt_me170, List.forall_mem_cons.mpr ⟨xt_me171, List.forall_mem_cons.mpr ⟨xt_me172, List.forall_mem_cons.mpr ⟨xt_me173, List.forall_mem_cons.mpr ⟨xt_me174, List.forall_mem_cons.mpr ⟨xt_me175, List.forall_mem_cons.mpr ⟨xt_me176, List.forall_mem_cons.mpr ⟨xt_me177, List.forall_mem_cons.mpr ⟨xt_me178, List.forall_mem_cons.mpr ⟨xt_me179, List.forall_mem_cons.mpr ⟨xt_me180, List.forall_mem_cons.mpr ⟨xt_me181, List.forall_mem_cons.mpr ⟨xt_me182, List.forall_mem_cons.mpr ⟨xt_me183, List.forall_mem_cons.mpr ⟨xt_me184, List.forall_mem_cons.mpr ⟨xt_me185, List.forall_mem_cons.mpr ⟨xt_me186, List.forall_mem_cons.mpr ⟨xt_me187, List.forall_mem_cons.mpr ⟨xt_me188, List.forall_mem_cons.mpr ⟨xt_me189, List.forall_mem_cons.mpr ⟨xt_me190, List.forall_mem_cons.mpr ⟨xt_me191, List.forall_mem_cons.mpr ⟨xt_me192, List.forall_mem_cons.mpr ⟨xt_me193, List.forall_mem_cons.mpr ⟨xt_me194, List.forall_mem_cons.mpr ⟨xt_me195, List.forall_mem_cons.mpr ⟨xt_me196, List.forall_mem_cons.mpr ⟨xt_me197, List.forall_mem_cons.mpr ⟨xt_me198, List.forall_mem_cons.mpr ⟨xt_me199, List.forall_mem_cons.mpr ⟨xt_me200, List.forall_mem_cons.mpr ⟨xt_me201, List.forall_mem_cons.mpr ⟨xt_me202, List.forall_mem_cons.mpr ⟨xt_me203, List.forall_mem_cons.mpr ⟨xt_me204, List.forall_mem_cons.mpr ⟨xt_me205, List.forall_mem_cons.mpr ⟨xt_me206, List.forall_mem_cons.mpr ⟨xt_me207, List.forall_mem_cons.mpr ⟨xt_me208, List.forall_mem_cons.mpr ⟨xt_me209, List.forall_mem_cons.mpr ⟨xt_me210, List.forall_mem_cons.mpr ⟨xt_me211, List.forall_mem_cons.mpr ⟨xt_me212, fun _ h => absurd h List.not_mem_nil⟩⟩⟩⟩⟩⟩⟩⟩⟩⟩⟩⟩⟩⟩⟩⟩⟩⟩⟩⟩⟩⟩⟩⟩⟩⟩⟩⟩⟩⟩⟩⟩⟩⟩⟩⟩⟩⟩⟩⟩⟩⟩⟩⟩⟩⟩⟩⟩⟩⟩⟩⟩⟩⟩⟩⟩⟩⟩⟩⟩⟩⟩⟩⟩⟩⟩⟩⟩⟩⟩⟩⟩⟩⟩⟩⟩⟩⟩⟩⟩⟩⟩⟩⟩⟩⟩⟩⟩⟩⟩⟩⟩⟩⟩⟩⟩⟩⟩⟩⟩⟩⟩⟩⟩⟩⟩⟩⟩⟩⟩⟩⟩⟩⟩⟩⟩⟩⟩⟩⟩⟩⟩⟩⟩⟩⟩⟩⟩⟩⟩⟩⟩⟩⟩⟩⟩⟩⟩⟩⟩⟩⟩⟩⟩⟩⟩⟩⟩⟩⟩⟩⟩⟩⟩⟩⟩⟩⟩⟩⟩⟩⟩⟩⟩⟩⟩⟩⟩⟩⟩⟩⟩⟩⟩⟩⟩⟩⟩⟩⟩⟩⟩⟩⟩⟩⟩⟩⟩⟩⟩⟩⟩⟩⟩⟩⟩⟩⟩⟩⟩⟩⟩⟩⟩⟩⟩⟩⟩⟩⟩⟩⟩⟩
theorem xt_mt_ok {y n a b : Nat} (h : xt_mt.lookup (xt_oc y, n) = some (a, b)) : xt_mtq ((xt_oc y, n), (a, b)) := xt_mta _ (xt_lk h)
end
section
/-! The rest of what the tables say. Written by prog/gen_tables.py. -/
def xt_clq (e : (Nat × Nat) × (Nat × Nat)) : Prop := ∃ (C : String) (T : u_T), xt_cs[e.2.1]? = some (C, T, e.2.2) ∧ Jvm.Cond.classLink (xt_cn e.1.1) e.1.2 C ∈ xt_G ∧ Jvm.Cond.instantiable C e.2.2 ∈ xt_G ∧ Jvm.Cond.initialized C ∈ xt_G
set_option maxRecDepth 100000 in
theorem xt_cl0 : xt_clq ((0, 7), (2, 5)) := ⟨_, _, rfl, xt_gm 895 (by rfl), xt_gm 896 (by rfl), xt_gm 340 (by rfl)⟩
set_option maxRecDepth 100000 in
theorem xt_cl1 : xt_clq ((0, 18), (11, 4)) := ⟨_, _, rfl, xt_gm 897 (by rfl), xt_gm 898 (by rfl), xt_gm 343 (by rfl)⟩
set_option maxRecDepth 100000 in
theorem xt_cl2 : xt_clq ((0, 25), (3, 6)) := ⟨_, _, rfl, xt_gm 899 (by rfl), xt_gm 900 (by rfl), xt_gm 346 (by rfl)⟩
set_option maxRecDepth 100000 in
theorem xt_cl3 : xt_clq ((0, 32), (4, 6)) := ⟨_, _, rfl, xt_gm 901 (by rfl), xt_gm 902 (by rfl), xt_gm 349 (by rfl)⟩
set_option maxRecDepth 100000 in
theorem xt_cl4 : xt_clq ((0, 39), (8, 7)) := ⟨_, _, rfl, xt_gm 903 (by rfl), xt_gm 904 (by rfl), xt_gm 351 (by rfl)⟩
set_option maxRecDepth 100000 in
theorem xt_cl5 : xt_clq ((0, 48), (9, 12)) := ⟨_, _, rfl, xt_gm 905 (by rfl), xt_gm 906 (by rfl), xt_gm 354 (by rfl)⟩
set_option maxRecDepth 100000 in
theorem xt_cl6 : xt_clq ((8, 11), (10, 6)) := ⟨_, _, rfl, xt_gm 907 (by rfl), xt_gm 908 (by rfl), xt_gm 537 (by rfl)⟩
set_option maxRecDepth 100000 in
theorem xt_cl7 : xt_clq ((8, 19), (7, 4)) := ⟨_, _, rfl, xt_gm 909 (by rfl), xt_gm 910 (by rfl), xt_gm 528 (by rfl)⟩
set_option maxRecDepth 100000 in
theorem xt_cl8 : xt_clq ((8, 42), (1, 7)) := ⟨_, _, rfl, xt_gm 911 (by rfl), xt_gm 912 (by rfl), xt_gm 421 (by rfl)⟩
set_option maxRecDepth 100000 in
theorem xt_cl9 : xt_clq ((9, 31), (5, 12)) := ⟨_, _, rfl, xt_gm 913 (by rfl), xt_gm 914 (by rfl), xt_gm 415 (by rfl)⟩
set_option maxRecDepth 100000 in
theorem xt_cl10 : xt_clq ((11, 9), (6, 8)) := ⟨_, _, rfl, xt_gm 915 (by rfl), xt_gm 916 (by rfl), xt_gm 408 (by rfl)⟩
set_option maxRecDepth 100000 in
theorem xt_cl11 : xt_clq ((14, 7), (0, 6)) := ⟨_, _, rfl, xt_gm 917 (by rfl), xt_gm 918 (by rfl), xt_gm 392 (by rfl)⟩
set_option maxRecDepth 100000 in
theorem xt_cl12 : xt_clq ((14, 18), (12, 58)) := ⟨_, _, rfl, xt_gm 919 (by rfl), xt_gm 920 (by rfl), xt_gm 688 (by rfl)⟩
theorem xt_cla : ∀ e ∈ xt_cl, xt_clq e := List.forall_mem_cons.mpr ⟨xt_cl0, List.forall_mem_cons.mpr ⟨xt_cl1, List.forall_mem_cons.mpr ⟨xt_cl2, List.forall_mem_cons.mpr ⟨xt_cl3, List.forall_mem_cons.mpr ⟨xt_cl4, List.forall_mem_cons.mpr ⟨xt_cl5, List.forall_mem_cons.mpr ⟨xt_cl6, List.forall_mem_cons.mpr ⟨xt_cl7, List.forall_mem_cons.mpr ⟨xt_cl8, List.forall_mem_cons.mpr ⟨xt_cl9, List.forall_mem_cons.mpr ⟨xt_cl10, List.forall_mem_cons.mpr ⟨xt_cl11, List.forall_mem_cons.mpr ⟨xt_cl12, fun _ h => absurd h List.not_mem_nil⟩⟩⟩⟩⟩⟩⟩⟩⟩⟩⟩⟩⟩
theorem xt_cl_ok {y n a b : Nat} (h : xt_cl.lookup (xt_oc y, n) = some (a, b)) : ∃ (C : String) (T : u_T), xt_cs[a]? = some (C, T, b) ∧ Jvm.Cond.classLink (xt_ow y) n C ∈ xt_G ∧ Jvm.Cond.instantiable C b ∈ xt_G ∧ Jvm.Cond.initialized C ∈ xt_G := xt_cla _ (xt_lk h)
def xt_alq (e : (Nat × Nat) × Nat) : Prop := Jvm.Cond.classLink (xt_cn e.1.1) e.1.2 (xt_an e.2) ∈ xt_G ∧ Jvm.Cond.arrayOver (.object (xt_an e.2)) ∈ xt_nw
set_option maxRecDepth 100000 in
theorem xt_al0 : xt_alq ((0, 48), 4) := ⟨xt_gm 905 (by rfl), List.mem_of_getElem? (i := 5) (by rfl)⟩
set_option maxRecDepth 100000 in
theorem xt_al1 : xt_alq ((8, 11), 5) := ⟨xt_gm 907 (by rfl), List.mem_of_getElem? (i := 6) (by rfl)⟩
set_option maxRecDepth 100000 in
theorem xt_al2 : xt_alq ((11, 9), 3) := ⟨xt_gm 915 (by rfl), List.mem_of_getElem? (i := 4) (by rfl)⟩
theorem xt_ala : ∀ e ∈ xt_al, xt_alq e := List.forall_mem_cons.mpr ⟨xt_al0, List.forall_mem_cons.mpr ⟨xt_al1, List.forall_mem_cons.mpr ⟨xt_al2, fun _ h => absurd h List.not_mem_nil⟩⟩⟩
theorem xt_al_ok {y n a : Nat} (h : xt_al.lookup (xt_oc y, n) = some a) : Jvm.Cond.classLink (xt_ow y) n (xt_an a) ∈ xt_G ∧ Jvm.Cond.arrayOver (.object (xt_an a)) ∈ xt_nw := xt_ala _ (xt_lk h)
def xt_ktq (e : (Nat × Nat) × Int32) : Prop := Jvm.Cond.constant (xt_cn e.1.1) e.1.2 e.2 ∈ xt_G
set_option maxRecDepth 100000 in
theorem xt_kt0 : xt_ktq ((4, 27), (-306674912)) := xt_gm 921 (by rfl)
set_option maxRecDepth 100000 in
theorem xt_kt1 : xt_ktq ((12, 184), (-306674912)) := xt_gm 922 (by rfl)
theorem xt_kta : ∀ e ∈ xt_kt, xt_ktq e := List.forall_mem_cons.mpr ⟨xt_kt0, List.forall_mem_cons.mpr ⟨xt_kt1, fun _ h => absurd h List.not_mem_nil⟩⟩
theorem xt_kt_ok {y n : Nat} {v : Int32} (h : xt_kt.lookup (xt_oc y, n) = some v) : Jvm.Cond.constant (xt_ow y) n v ∈ xt_G := xt_kta _ (xt_lk h)
set_option maxRecDepth 100000 in
theorem xt_ar_ok {t : Nat} {n : Jvm.ClassFile.ArrayType} (h : t < 2) (hn : newarray.typeOf n = xt_tt t) : Jvm.Cond.arrayClass (newarray.typeOf n) ∈ xt_G := by
  rw [hn]
  rcases (show t = 0 ∨ t = 1 by omega) with rfl | rfl
  · exact xt_gm 923 (by rfl)
  · exact xt_gm 924 (by rfl)
set_option maxRecDepth 100000 in
theorem xt_ly0 : (u_ws "BootNet" xt_F0 6).all (fun w => decide (w ∈ xt_Gw.take 141)) = true := by decide +kernel
set_option maxRecDepth 100000 in
theorem xt_tp0 : ∀ k, k < 6 → parseFieldDescriptor (xt_F0 k).2.2.1 = some (xt_ft 0 k) := by decide +kernel
set_option maxRecDepth 100000 in
theorem xt_nn0 : ∀ a, a < 6 → ∀ b, b < 6 → a ≠ b → (xt_F0 a).2.1 ≠ (xt_F0 b).2.1 := by decide +kernel
set_option maxRecDepth 100000 in
theorem xt_ly1 : (u_ws "BootNet$AddressBook" xt_F1 7).all (fun w => decide (w ∈ xt_Gw.take 141)) = true := by decide +kernel
set_option maxRecDepth 100000 in
theorem xt_tp1 : ∀ k, k < 7 → parseFieldDescriptor (xt_F1 k).2.2.1 = some (xt_ft 1 k) := by decide +kernel
set_option maxRecDepth 100000 in
theorem xt_nn1 : ∀ a, a < 7 → ∀ b, b < 7 → a ≠ b → (xt_F1 a).2.1 ≠ (xt_F1 b).2.1 := by decide +kernel
set_option maxRecDepth 100000 in
theorem xt_ly2 : (u_ws "BootNet$Ground" xt_F2 5).all (fun w => decide (w ∈ xt_Gw.take 141)) = true := by decide +kernel
set_option maxRecDepth 100000 in
theorem xt_tp2 : ∀ k, k < 5 → parseFieldDescriptor (xt_F2 k).2.2.1 = some (xt_ft 2 k) := by decide +kernel
set_option maxRecDepth 100000 in
theorem xt_nn2 : ∀ a, a < 5 → ∀ b, b < 5 → a ≠ b → (xt_F2 a).2.1 ≠ (xt_F2 b).2.1 := by decide +kernel
set_option maxRecDepth 100000 in
theorem xt_ly3 : (u_ws "BootNet$Layout" xt_F3 6).all (fun w => decide (w ∈ xt_Gw.take 141)) = true := by decide +kernel
set_option maxRecDepth 100000 in
theorem xt_tp3 : ∀ k, k < 6 → parseFieldDescriptor (xt_F3 k).2.2.1 = some (xt_ft 3 k) := by decide +kernel
set_option maxRecDepth 100000 in
theorem xt_nn3 : ∀ a, a < 6 → ∀ b, b < 6 → a ≠ b → (xt_F3 a).2.1 ≠ (xt_F3 b).2.1 := by decide +kernel
set_option maxRecDepth 100000 in
theorem xt_ly4 : (u_ws "BootNet$Library" xt_F4 6).all (fun w => decide (w ∈ xt_Gw.take 141)) = true := by decide +kernel
set_option maxRecDepth 100000 in
theorem xt_tp4 : ∀ k, k < 6 → parseFieldDescriptor (xt_F4 k).2.2.1 = some (xt_ft 4 k) := by decide +kernel
set_option maxRecDepth 100000 in
theorem xt_nn4 : ∀ a, a < 6 → ∀ b, b < 6 → a ≠ b → (xt_F4 a).2.1 ≠ (xt_F4 b).2.1 := by decide +kernel
set_option maxRecDepth 100000 in
theorem xt_ly5 : (u_ws "BootNet$Loading" xt_F5 12).all (fun w => decide (w ∈ xt_Gw.take 141)) = true := by decide +kernel
set_option maxRecDepth 100000 in
theorem xt_tp5 : ∀ k, k < 12 → parseFieldDescriptor (xt_F5 k).2.2.1 = some (xt_ft 5 k) := by decide +kernel
set_option maxRecDepth 100000 in
theorem xt_nn5 : ∀ a, a < 12 → ∀ b, b < 12 → a ≠ b → (xt_F5 a).2.1 ≠ (xt_F5 b).2.1 := by decide +kernel
set_option maxRecDepth 100000 in
theorem xt_ly6 : (u_ws "BootNet$Message" xt_F6 8).all (fun w => decide (w ∈ xt_Gw.take 141)) = true := by decide +kernel
set_option maxRecDepth 100000 in
theorem xt_tp6 : ∀ k, k < 8 → parseFieldDescriptor (xt_F6 k).2.2.1 = some (xt_ft 6 k) := by decide +kernel
set_option maxRecDepth 100000 in
theorem xt_nn6 : ∀ a, a < 8 → ∀ b, b < 8 → a ≠ b → (xt_F6 a).2.1 ≠ (xt_F6 b).2.1 := by decide +kernel
set_option maxRecDepth 100000 in
theorem xt_ly7 : (u_ws "BootNet$Records" xt_F7 4).all (fun w => decide (w ∈ xt_Gw.take 141)) = true := by decide +kernel
set_option maxRecDepth 100000 in
theorem xt_tp7 : ∀ k, k < 4 → parseFieldDescriptor (xt_F7 k).2.2.1 = some (xt_ft 7 k) := by decide +kernel
set_option maxRecDepth 100000 in
theorem xt_nn7 : ∀ a, a < 4 → ∀ b, b < 4 → a ≠ b → (xt_F7 a).2.1 ≠ (xt_F7 b).2.1 := by decide +kernel
set_option maxRecDepth 100000 in
theorem xt_ly8 : (u_ws "BootNet$Server" xt_F8 7).all (fun w => decide (w ∈ xt_Gw.take 141)) = true := by decide +kernel
set_option maxRecDepth 100000 in
theorem xt_tp8 : ∀ k, k < 7 → parseFieldDescriptor (xt_F8 k).2.2.1 = some (xt_ft 8 k) := by decide +kernel
set_option maxRecDepth 100000 in
theorem xt_nn8 : ∀ a, a < 7 → ∀ b, b < 7 → a ≠ b → (xt_F8 a).2.1 ≠ (xt_F8 b).2.1 := by decide +kernel
set_option maxRecDepth 100000 in
theorem xt_ly9 : (u_ws "BootNet$Station" xt_F9 12).all (fun w => decide (w ∈ xt_Gw.take 141)) = true := by decide +kernel
set_option maxRecDepth 100000 in
theorem xt_tp9 : ∀ k, k < 12 → parseFieldDescriptor (xt_F9 k).2.2.1 = some (xt_ft 9 k) := by decide +kernel
set_option maxRecDepth 100000 in
theorem xt_nn9 : ∀ a, a < 12 → ∀ b, b < 12 → a ≠ b → (xt_F9 a).2.1 ≠ (xt_F9 b).2.1 := by decide +kernel
set_option maxRecDepth 100000 in
theorem xt_ly10 : (u_ws "BootNet$Transfer" xt_F10 6).all (fun w => decide (w ∈ xt_Gw.take 141)) = true := by decide +kernel
set_option maxRecDepth 100000 in
theorem xt_tp10 : ∀ k, k < 6 → parseFieldDescriptor (xt_F10 k).2.2.1 = some (xt_ft 10 k) := by decide +kernel
set_option maxRecDepth 100000 in
theorem xt_nn10 : ∀ a, a < 6 → ∀ b, b < 6 → a ≠ b → (xt_F10 a).2.1 ≠ (xt_F10 b).2.1 := by decide +kernel
set_option maxRecDepth 100000 in
theorem xt_ly11 : (u_ws "BootNet$Wire" xt_F11 4).all (fun w => decide (w ∈ xt_Gw.take 141)) = true := by decide +kernel
set_option maxRecDepth 100000 in
theorem xt_tp11 : ∀ k, k < 4 → parseFieldDescriptor (xt_F11 k).2.2.1 = some (xt_ft 11 k) := by decide +kernel
set_option maxRecDepth 100000 in
theorem xt_nn11 : ∀ a, a < 4 → ∀ b, b < 4 → a ≠ b → (xt_F11 a).2.1 ≠ (xt_F11 b).2.1 := by decide +kernel
set_option maxRecDepth 100000 in
theorem xt_ly12 : (u_ws "BootNetModel" xt_F12 58).all (fun w => decide (w ∈ xt_Gw.take 141)) = true := by decide +kernel
set_option maxRecDepth 100000 in
theorem xt_tp12 : ∀ k, k < 58 → parseFieldDescriptor (xt_F12 k).2.2.1 = some (xt_ft 12 k) := by decide +kernel
set_option maxRecDepth 100000 in
theorem xt_nn12 : ∀ a, a < 58 → ∀ b, b < 58 → a ≠ b → (xt_F12 a).2.1 ≠ (xt_F12 b).2.1 := by decide +kernel
def xt_cfq (ci : Nat) (r : vw_C) : Prop := (∀ w ∈ u_ws r.1 r.2.1 r.2.2, w ∈ xt_G) ∧ (∀ k, k < r.2.2 → parseFieldDescriptor (r.2.1 k).2.2.1 = some (xt_ft ci k)) ∧ (∀ a, a < r.2.2 → ∀ b, b < r.2.2 → a ≠ b → (r.2.1 a).2.1 ≠ (r.2.1 b).2.1)
theorem xt_lyG {n : Nat} {l : List Jvm.Cond} (h : (l.all (fun w => decide (w ∈ xt_Gw.take n))) = true) : ∀ w ∈ l, w ∈ xt_G := fun w hw => by
  have := List.all_eq_true.mp h w hw
  simp only [decide_eq_true_eq] at this
  exact List.mem_append_left _ (List.mem_of_mem_take this)
theorem xt_cf {ci : Nat} {C : String} {T : u_T} {N : Nat} (h : xt_cs[ci]? = some (C, T, N)) : xt_cfq ci (C, T, N) := by
  match ci, h with
  | 0, h => cases h; exact ⟨xt_lyG xt_ly0, xt_tp0, xt_nn0⟩
  | 1, h => cases h; exact ⟨xt_lyG xt_ly1, xt_tp1, xt_nn1⟩
  | 2, h => cases h; exact ⟨xt_lyG xt_ly2, xt_tp2, xt_nn2⟩
  | 3, h => cases h; exact ⟨xt_lyG xt_ly3, xt_tp3, xt_nn3⟩
  | 4, h => cases h; exact ⟨xt_lyG xt_ly4, xt_tp4, xt_nn4⟩
  | 5, h => cases h; exact ⟨xt_lyG xt_ly5, xt_tp5, xt_nn5⟩
  | 6, h => cases h; exact ⟨xt_lyG xt_ly6, xt_tp6, xt_nn6⟩
  | 7, h => cases h; exact ⟨xt_lyG xt_ly7, xt_tp7, xt_nn7⟩
  | 8, h => cases h; exact ⟨xt_lyG xt_ly8, xt_tp8, xt_nn8⟩
  | 9, h => cases h; exact ⟨xt_lyG xt_ly9, xt_tp9, xt_nn9⟩
  | 10, h => cases h; exact ⟨xt_lyG xt_ly10, xt_tp10, xt_nn10⟩
  | 11, h => cases h; exact ⟨xt_lyG xt_ly11, xt_tp11, xt_nn11⟩
  | 12, h => cases h; exact ⟨xt_lyG xt_ly12, xt_tp12, xt_nn12⟩
  | n + 13, h => cases h
set_option maxRecDepth 100000 in
theorem xt_mul : Jvm.Cond.classLink "BootNet$Library" 9 "[[I" ∈ xt_G := xt_gm 925 (by rfl)
end
section
/-! The tables put together. Written by prog/gen_glue.py. -/
def xt_ka : Nat → List (List (Nat × Jvm.ClassFile.Instr × Nat × Nat × Nat × Int32)) → Prop
  | _, [] => True
  | i, c :: r => c.all (xt_ck i) = true ∧ xt_ka (i + 1) r
theorem xt_ka_at : ∀ (l : List (List (Nat × Jvm.ClassFile.Instr × Nat × Nat × Nat × Int32))) (i j : Nat) (c : List (Nat × Jvm.ClassFile.Instr × Nat × Nat × Nat × Int32)), xt_ka i l → l[j]? = some c → c.all (xt_ck (i + j)) = true
  | [], _, _, _, _, h => by cases h
  | a :: l, i, 0, c, hk, h => by
    cases h
    exact hk.1
  | a :: l, i, j + 1, c, hk, h => by
    have := xt_ka_at l (i + 1) j c hk.2 h
    rw [show i + (j + 1) = i + 1 + j by omega]
    exact this
set_option maxRecDepth 100000 in
theorem xt_kk : xt_ka 0 xt_C := ⟨xt_k0, xt_k1, xt_k2, xt_k3, xt_k4, xt_k5, xt_k6, xt_k7, xt_k8, xt_k9, xt_k10, xt_k11, xt_k12, xt_k13, xt_k14, xt_k15, xt_k16, xt_k17, xt_k18, xt_k19, xt_k20, xt_k21, xt_k22, xt_k23, xt_k24, xt_k25, xt_k26, xt_k27, xt_k28, xt_k29, xt_k30, xt_k31, xt_k32, xt_k33, xt_k34, xt_k35, xt_k36, xt_k37, xt_k38, xt_k39, xt_k40, xt_k41, xt_k42, xt_k43, xt_k44, xt_k45, xt_k46, xt_k47, xt_k48, xt_k49, xt_k50, xt_k51, xt_k52, xt_k53, xt_k54, xt_k55, xt_k56, xt_k57, xt_k58, xt_k59, xt_k60, xt_k61, xt_k62, xt_k63, xt_k64, xt_k65, xt_k66, xt_k67, xt_k68, xt_k69, xt_k70, xt_k71, xt_k72, xt_k73, xt_k74, xt_k75, xt_k76, xt_k77, xt_k78, xt_k79, xt_k80, xt_k81, xt_k82, xt_k83, xt_k84, xt_k85, xt_k86, xt_k87, xt_k88, xt_k89, xt_k90, xt_k91, xt_k92, xt_k93, xt_k94, xt_k95, xt_k96, xt_k97, xt_k98, xt_k99, xt_k100, xt_k101, xt_k102, xt_k103, xt_k104, xt_k105, xt_k106, xt_k107, xt_k108, xt_k109, xt_k110, xt_k111, xt_k112, xt_k113, xt_k114, xt_k115, xt_k116, xt_k117, xt_k118, xt_k119, xt_k120, xt_k121, xt_k122, xt_k123, xt_k124, xt_k125, xt_k126, xt_k127, xt_k128, xt_k129, xt_k130, xt_k131, xt_k132, xt_k133, xt_k134, xt_k135, xt_k136, xt_k137, xt_k138, xt_k139, xt_k140, xt_k141, xt_k142, xt_k143, xt_k144, xt_k145, xt_k146, xt_k147, xt_k148, xt_k149, xt_k150, xt_k151, xt_k152, xt_k153, xt_k154, xt_k155, xt_k156, xt_k157, xt_k158, xt_k159, xt_k160, xt_k161, xt_k162, xt_k163, xt_k164, xt_k165, xt_k166, xt_k167, xt_k168, xt_k169, xt_k170, xt_k171, xt_k172, xt_k173, xt_k174, xt_k175, xt_k176, trivial⟩
theorem xt_ok {y pc : Nat} {i : Jvm.ClassFile.Instr} {ln a b : Nat} {v : Int32} (h : xt_at y pc = some (i, ln, a, b, v)) : xt_ck y (pc, i, ln, a, b, v) = true := by
  unfold xt_at at h
  have hm := xt_lk h
  rw [List.getD_eq_getElem?_getD] at hm
  cases hc : xt_C[y]? with
  | none => rw [hc] at hm; cases hm
  | some c =>
    rw [hc] at hm
    have := xt_ka_at xt_C 0 y c xt_kk hc
    rw [Nat.zero_add] at this
    exact List.all_eq_true.mp this _ hm
theorem xt_nmq : ∀ y, y < xt_N → plainName (xt_nm y).cls = true ∧ (xt_nm y).cls ≠ "java/lang/invoke/MethodHandle" ∧ (xt_nm y).cls ≠ "java/lang/invoke/VarHandle" ∧ (parseMethodDescriptor (xt_nm y).desc).map (fun d => d.parameters.length) = some (xt_na y) ∧ xt_ml y ≤ 11 := by decide +kernel
theorem xt_owq : ∀ y, y < xt_N → xt_ow y = (xt_nm y).cls := by decide +kernel
theorem xt_inq (y : Nat) (h : xt_ini y = true) : (xt_nm y).name = "<init>" := by simpa [xt_ini] using h
theorem xt_csq (c : Nat) (h : c < 13) : ∃ row : vw_C, xt_cs[c]? = some row ∧ row.1 = xt_cn c := by
  have key : ∀ c, c < 13 → (xt_cs[c]?).map (fun r => r.1) = some (xt_cn c) := by decide +kernel
  have := key c h
  cases hr : xt_cs[c]? with
  | none => rw [hr] at this; cases this
  | some r => rw [hr] at this; exact ⟨r, rfl, Option.some.inj this⟩
theorem xt_csn {c : Nat} {r : vw_C} (h : xt_cs[c]? = some r) : r.1 = xt_cn c := by
  have hl : c < 13 := (List.getElem?_eq_some_iff.mp h).1
  obtain ⟨row, h1, h2⟩ := xt_csq c hl
  cases h1.symm.trans h
  exact h2
def xt_fk (t : FieldType) : Bool := match t with
  | .int => true
  | .boolean => true
  | .object _ => true
  | .array _ => true
  | _ => false
theorem xt_fkq {t : FieldType} (h : xt_fk t = true) : t = .int ∨ t = .boolean ∨ (∃ C, t = .object C) ∨ ∃ u, t = .array u := by
  cases t <;> simp [xt_fk] at h ⊢
theorem xt_ftq {ci j : Nat} {r : vw_C} (h : xt_cs[ci]? = some r) (hj : j < r.2.2) : xt_ft ci j = .int ∨ xt_ft ci j = .boolean ∨ (∃ C, xt_ft ci j = .object C) ∨ ∃ u, xt_ft ci j = .array u := by
  have key : ∀ ci, ci < 13 → ∀ j, j < ((xt_cs[ci]?).map (fun r => r.2.2)).getD 0 → xt_fk (xt_ft ci j) = true := by decide +kernel
  have hl : ci < 13 := (List.getElem?_eq_some_iff.mp h).1
  exact xt_fkq (key ci hl j (by rw [h]; exact hj))
theorem xt_isoq {t : FieldType} (h : xt_iso t = true) : ∃ C, t = .object C := by
  cases t <;> simp [xt_iso] at h ⊢
theorem xt_isob {y : Nat} (h : xt_io y = true) : ∃ nm, xt_rt y = some (.object nm) := by
  unfold xt_io at h
  split at h
  · rename_i nm hh
    exact ⟨nm, hh⟩
  · cases h
theorem xt_fo {y a b : Nat} {C : String} {T : u_T} {N : Nat} {meth : Method} (hfo : xt_fin a b = false ∨ (xt_ini y = true ∧ a = xt_oc y)) (hini : xt_ini y = true → meth.name = "<init>") (hcs : xt_cs[a]? = some (C, T, N)) : (T b).2.2.2 = false ∨ (meth.name = "<init>" ∧ C = xt_ow y) := by
  rcases hfo with h | ⟨h1, h2⟩
  · left
    unfold xt_fin at h
    rw [hcs] at h
    exact h
  · right
    subst h2
    exact ⟨hini h1, xt_csn hcs⟩
theorem xt_gwq : xt_Gw.all goodWord = true := by decide +kernel
theorem xt_good (y : Nat) (hy : y < xt_N) : GoodIn xt_G (xt_ws y) := by
  intro w hw
  rcases List.mem_cons.mp hw with h | h
  · rw [h]
    exact ⟨xt_gc' hy, Or.inl rfl⟩
  · refine ⟨h, ?_⟩
    rcases List.mem_append.mp h with h | h
    · exact good_of_word (List.all_eq_true.mp xt_gwq w h)
    · rcases List.mem_append.mp h with h | h
      · simp only [xt_Gx, List.mem_cons, List.not_mem_nil, or_false] at h
        rcases h with rfl | rfl | rfl <;> exact Or.inl rfl
      · obtain ⟨z, -, rfl⟩ := List.mem_map.mp h
        exact Or.inl rfl
theorem xm_ao_mv {t : FieldType} {u U : State} (hvm : u.vm.Alike U.vm) (h : va_Nw (.arrayOver (.array t)) u) : va_Nw (.arrayOver (.array t)) U := by
  obtain ⟨comp, c, k, h1, h2, h3, h4, h5⟩ := arrayOverA_spec h
  obtain ⟨k', hk', he⟩ := hvm.2.2 _ _ h3
  have hi : (U.vm.classes.findIdx? fun (x : Class) => match x.kind with | .array component _ => component == comp | _ => false) = some c := by
    rw [hvm.findIdx?_eq _ (fun _ => rfl)]
    exact h2
  have hkind : k'.kind = .array comp (.array t) := by rw [he]; exact h4
  have f1 : U.vm.findClass (FieldType.array t).toString = some comp := by rw [hvm.findClass]; exact h1
  have f2 : U.vm.findClass ("[" ++ (FieldType.array t).toString) = some c := by rw [hvm.findClass]; exact h5
  unfold va_Nw Cond.before Cond.holds
  simp only [Cond.value]
  rw [f1, Option.bind_some]
  refine (congrArg (fun o : Option Nat => (o.bind (fun c => (U.vm.classes[c]?).map fun (k : Class) => match k.kind with | .array _ ty => decide (ty = FieldType.array t) && decide (U.vm.findClass ("[" ++ (FieldType.array t).toString) = some c) | _ => false) == some true)) hi).trans ?_
  simp [hk', hkind, f2]
theorem xt_nw_sm (w : Jvm.Cond) (hw : w ∈ xt_nw) {u U : State} (h : u.vm = U.vm) (hz : va_Nw w u) : va_Nw w U := by
  have ha : u.vm.Alike U.vm := by rw [h]; exact Vm.Alike.refl _
  simp only [xt_nw, List.mem_cons, List.not_mem_nil, or_false] at hw
  rcases hw with rfl | rfl | rfl | rfl | rfl | rfl | rfl | rfl
  · exact va_Nw.same rfl h hz
  · exact va_Nw.same rfl h hz
  · exact va_Nw.same rfl h hz
  · exact va_Nw.same rfl h hz
  · exact va_AO.moved ha hz
  · exact va_AO.moved ha hz
  · exact va_AO.moved ha hz
  · exact xm_ao_mv ha hz
theorem xt_nw_mv (w : Jvm.Cond) (hw : w ∈ xt_nw) {u U : State} (h : u.WarmedH U.vm) (hz : va_Nw w u) : va_Nw w U := by
  simp only [xt_nw, List.mem_cons, List.not_mem_nil, or_false] at hw
  rcases hw with rfl | rfl | rfl | rfl | rfl | rfl | rfl | rfl
  · exact va_Nw.warmM h hz
  · exact va_Nw.warmM h hz
  · exact va_Nw.warmM h hz
  · exact va_Nw.warmM h hz
  · exact va_AO.moved h.alike hz
  · exact va_AO.moved h.alike hz
  · exact va_AO.moved h.alike hz
  · exact xm_ao_mv h.alike hz
end
section
/-! The X machine: a small machine over an interface of memories; values are ints or references. -/
section XM
variable {σ R : Type}
/-- values: an int, or a reference (none: null); locals; operand stacks -/
abbrev xm_V (R : Type) : Type := Int32 ⊕ Option R
abbrev xm_L (R : Type) : Type := List (Option (Int32 ⊕ Option R))
abbrev xm_S (R : Type) : Type := List (Int32 ⊕ Option R)
/-- what a step comes to: the next state with the cells and slots made; an answer; a call (method, arguments, rest of the stack); nothing -/
abbrev xm_R (σ R : Type) : Type := (Nat × xm_L R × xm_S R × σ × Nat × Nat) ⊕ (Option (xm_V R)) ⊕ (Nat × xm_S R × xm_S R) ⊕ Unit
/-- an interface of a memory: fields, int arrays (by the number of the type), reference arrays, lengths, classes, making, copying -/
abbrev xm_I (σ R : Type) : Type :=
  (σ → R → Nat → Nat → Option (xm_V R)) × (σ → R → Nat → Nat → xm_V R → Option σ) ×
  (σ → Nat → R → Int32 → Option Int32) × (σ → Nat → R → Int32 → Int32 → Option σ) ×
  (σ → R → Int32 → Option (xm_V R)) × (σ → R → Int32 → R → Option σ) ×
  (σ → R → Option Nat) × (σ → Nat → R → Bool) ×
  (σ → Nat → Option (R × σ)) × (σ → Nat → Nat → Option (R × σ)) × (σ → Nat → Nat → Option (R × σ)) × (σ → Nat → Nat → Option (R × σ)) ×
  (σ → R → Int32 → R → Int32 → Int32 → Option σ)
def xm_gf (I : xm_I σ R) := I.1
def xm_pf (I : xm_I σ R) := I.2.1
def xm_al (I : xm_I σ R) := I.2.2.1
def xm_as (I : xm_I σ R) := I.2.2.2.1
def xm_rl (I : xm_I σ R) := I.2.2.2.2.1
def xm_rs (I : xm_I σ R) := I.2.2.2.2.2.1
def xm_ln (I : xm_I σ R) := I.2.2.2.2.2.2.1
def xm_oc (I : xm_I σ R) := I.2.2.2.2.2.2.2.1
def xm_nw (I : xm_I σ R) := I.2.2.2.2.2.2.2.2.1
def xm_na (I : xm_I σ R) := I.2.2.2.2.2.2.2.2.2.1
def xm_nr (I : xm_I σ R) := I.2.2.2.2.2.2.2.2.2.2.1
def xm_nm (I : xm_I σ R) := I.2.2.2.2.2.2.2.2.2.2.2.1
def xm_cp (I : xm_I σ R) := I.2.2.2.2.2.2.2.2.2.2.2.2
def xm_no : xm_R σ R := .inr (.inr (.inr ()))
def xm_nx (pc : Nat) (ls : xm_L R) (st : xm_S R) (s : σ) : xm_R σ R := .inl (pc, ls, st, s, 0, 0)
def xm_rt (v : Option (xm_V R)) : xm_R σ R := .inr (.inl v)
def xm_cl (y : Nat) (a r : xm_S R) : xm_R σ R := .inr (.inr (.inl (y, a, r)))
def xm_o {α : Type} (o : Option α) (f : α → xm_R σ R) : xm_R σ R := match o with
  | some x => f x
  | none => xm_no
def xm_v1 (st : xm_S R) (f : xm_V R → xm_S R → xm_R σ R) : xm_R σ R := match st with
  | v :: r => f v r
  | _ => xm_no
def xm_v2 (st : xm_S R) (f : xm_V R → xm_V R → xm_S R → xm_R σ R) : xm_R σ R := match st with
  | v :: w :: r => f v w r
  | _ => xm_no
def xm_i1 (st : xm_S R) (f : Int32 → xm_S R → xm_R σ R) : xm_R σ R := match st with
  | .inl x :: r => f x r
  | _ => xm_no
def xm_i2 (st : xm_S R) (f : Int32 → Int32 → xm_S R → xm_R σ R) : xm_R σ R := match st with
  | .inl y :: .inl x :: r => f x y r
  | _ => xm_no
def xm_r1 (st : xm_S R) (f : R → xm_S R → xm_R σ R) : xm_R σ R := match st with
  | .inr (some q) :: r => f q r
  | _ => xm_no
def xm_ri (st : xm_S R) (f : R → Int32 → xm_S R → xm_R σ R) : xm_R σ R := match st with
  | .inl i :: .inr (some q) :: r => f q i r
  | _ => xm_no
def xm_rii (st : xm_S R) (f : R → Int32 → Int32 → xm_S R → xm_R σ R) : xm_R σ R := match st with
  | .inl x :: .inl i :: .inr (some q) :: r => f q i x r
  | _ => xm_no
def xm_rir (st : xm_S R) (f : R → Int32 → R → xm_S R → xm_R σ R) : xm_R σ R := match st with
  | .inr (some w) :: .inl i :: .inr (some q) :: r => f q i w r
  | _ => xm_no
def xm_rv (st : xm_S R) (f : R → xm_V R → xm_S R → xm_R σ R) : xm_R σ R := match st with
  | v :: .inr (some q) :: r => f q v r
  | _ => xm_no
def xm_c5 (st : xm_S R) (f : R → Int32 → R → Int32 → Int32 → xm_S R → xm_R σ R) : xm_R σ R := match st with
  | .inl n :: .inl dp :: .inr (some d) :: .inl sp :: .inr (some q) :: r => f q sp d dp n r
  | _ => xm_no
def xm_li (ls : xm_L R) (i : Nat) (f : Int32 → xm_R σ R) : xm_R σ R := match ls[i]? with
  | some (some (.inl x)) => f x
  | _ => xm_no
def xm_lr (ls : xm_L R) (i : Nat) (f : R → xm_R σ R) : xm_R σ R := match ls[i]? with
  | some (some (.inr (some q))) => f q
  | _ => xm_no
def xm_c0 (c : Jvm.ClassFile.Cond) (x : Int32) (a b : Nat) : Nat := match c with
  | .eq => if x = 0 then a else b
  | .ne => if x = 0 then b else a
  | .lt => if x < 0 then a else b
  | .ge => if 0 ≤ x then a else b
  | .gt => if 0 < x then a else b
  | .le => if x ≤ 0 then a else b
def xm_c2 (c : Jvm.ClassFile.Cond) (x y : Int32) (a b : Nat) : Nat := match c with
  | .eq => if x = y then a else b
  | .ne => if x = y then b else a
  | .lt => if x < y then a else b
  | .ge => if y ≤ x then a else b
  | .gt => if y < x then a else b
  | .le => if x ≤ y then a else b
/-- one step of method y at pc; a row of the code table: instruction, its length, two numbers and an int that the tables resolved -/
def xm_st (I : xm_I σ R) (y pc : Nat) (ls : xm_L R) (st : xm_S R) (s : σ) : xm_R σ R :=
  match xt_at y pc with
  | none => xm_no
  | some (i, _, a, b, v) =>
    match i with
    | .iconst _ => xm_nx (pc + 1) ls (.inl v :: st) s
    | .bipush _ => xm_nx (pc + 2) ls (.inl v :: st) s
    | .sipush _ => xm_nx (pc + 3) ls (.inl v :: st) s
    | .ldc _ => xm_nx (pc + 2) ls (.inl v :: st) s
    | .iload_n _ => xm_li ls a fun x => xm_nx (pc + 1) ls (.inl x :: st) s
    | .iload _ => xm_li ls a fun x => xm_nx (pc + 2) ls (.inl x :: st) s
    | .aload_n _ => xm_lr ls a fun q => xm_nx (pc + 1) ls (.inr (some q) :: st) s
    | .aload _ => xm_lr ls a fun q => xm_nx (pc + 2) ls (.inr (some q) :: st) s
    | .istore_n _ => xm_i1 st fun x r => xm_nx (pc + 1) (ls.set a (some (.inl x))) r s
    | .istore _ => xm_i1 st fun x r => xm_nx (pc + 2) (ls.set a (some (.inl x))) r s
    | .astore_n _ => xm_r1 st fun q r => xm_nx (pc + 1) (ls.set a (some (.inr (some q)))) r s
    | .astore _ => xm_r1 st fun q r => xm_nx (pc + 2) (ls.set a (some (.inr (some q)))) r s
    | .iinc _ _ => xm_li ls a fun x => xm_nx (pc + 3) (ls.set a (some (.inl (x + v)))) st s
    | .iadd => xm_i2 st fun x y r => xm_nx (pc + 1) ls (.inl (x + y) :: r) s
    | .isub => xm_i2 st fun x y r => xm_nx (pc + 1) ls (.inl (x - y) :: r) s
    | .imul => xm_i2 st fun x y r => xm_nx (pc + 1) ls (.inl (x * y) :: r) s
    | .iand => xm_i2 st fun x y r => xm_nx (pc + 1) ls (.inl (x &&& y) :: r) s
    | .ixor => xm_i2 st fun x y r => xm_nx (pc + 1) ls (.inl (x ^^^ y) :: r) s
    | .irem => xm_i2 st fun x y r => if y = 0 then xm_no else xm_nx (pc + 1) ls (.inl (x - x / y * y) :: r) s
    | .iushr => xm_i2 st fun x y r => xm_nx (pc + 1) ls (.inl (x.toUInt32 >>> (y.toUInt32 &&& Int32.toUInt32 31)).toInt32 :: r) s
    | .dup => xm_v1 st fun w r => xm_nx (pc + 1) ls (w :: w :: r) s
    | .dup2 => xm_v2 st fun w z r => xm_nx (pc + 1) ls (w :: z :: w :: z :: r) s
    | .pop => xm_v1 st fun _ r => xm_nx (pc + 1) ls r s
    | .goto _ => xm_nx a ls st s
    | .ifCond c _ => xm_i1 st fun x r => xm_nx (xm_c0 c x a (pc + 3)) ls r s
    | .if_icmp c _ => xm_i2 st fun x y r => xm_nx (xm_c2 c x y a (pc + 3)) ls r s
    | .tableswitch _ lo hi offs => xm_i1 st fun x r => xm_nx (if x.toInt < lo ∨ hi < x.toInt then a else ((pc : Int) + (offs.toList[(x.toInt - lo).toNat]?).getD 0).toNat) ls r s
    | .getfield _ => xm_r1 st fun q r => xm_o (xm_gf I s q a b) fun w => xm_nx (pc + 3) ls (w :: r) s
    | .putfield _ => xm_rv st fun q w r => xm_o (xm_pf I s q a b w) fun t => xm_nx (pc + 3) ls r t
    | .iaload => xm_ri st fun q i r => xm_o (xm_al I s 0 q i) fun x => xm_nx (pc + 1) ls (.inl x :: r) s
    | .baload => xm_ri st fun q i r => xm_o (xm_al I s 1 q i) fun x => xm_nx (pc + 1) ls (.inl x :: r) s
    | .iastore => xm_rii st fun q i x r => xm_o (xm_as I s 0 q i x) fun t => xm_nx (pc + 1) ls r t
    | .bastore => xm_rii st fun q i x r => xm_o (xm_as I s 1 q i x) fun t => xm_nx (pc + 1) ls r t
    | .aaload => xm_ri st fun q i r => xm_o (xm_rl I s q i) fun w => xm_nx (pc + 1) ls (w :: r) s
    | .aastore => xm_rir st fun q i w r => xm_o (xm_rs I s q i w) fun t => xm_nx (pc + 1) ls r t
    | .arraylength => xm_r1 st fun q r => xm_o (xm_ln I s q) fun n => xm_nx (pc + 1) ls (.inl (Int32.ofNat n) :: r) s
    | .new _ => xm_o (xm_nw I s a) fun w => .inl (pc + 3, ls, .inr (some w.1) :: st, w.2, 1, b)
    | .newarray _ => xm_i1 st fun n r => if n < 0 then xm_no else xm_o (xm_na I s a n.toNatClampNeg) fun w => .inl (pc + 2, ls, .inr (some w.1) :: r, w.2, 1, n.toNatClampNeg)
    | .anewarray _ => xm_i1 st fun n r => if n < 0 then xm_no else xm_o (xm_nr I s a n.toNatClampNeg) fun w => .inl (pc + 3, ls, .inr (some w.1) :: r, w.2, 1, n.toNatClampNeg)
    | .multianewarray _ _ => xm_i2 st fun n k r => if n < 0 ∨ k < 0 then xm_no else xm_o (xm_nm I s n.toNatClampNeg k.toNatClampNeg) fun w => .inl (pc + 4, ls, .inr (some w.1) :: r, w.2, 1 + n.toNatClampNeg, n.toNatClampNeg + n.toNatClampNeg * k.toNatClampNeg)
    | .ireturn => match st with
      | [.inl x] => if b = 1 ∧ ¬ (x = 0 ∨ x = 1) then xm_no else xm_rt (some (.inl x))
      | _ => xm_no
    | .areturn => match st with
      | [.inr (some q)] => xm_rt (some (.inr (some q)))
      | _ => xm_no
    | .return_ => match st with
      | [] => xm_rt none
      | _ => xm_no
    | .invokevirtual _ => match st.drop (xt_na b) with
      | .inr (some q) :: r => if xm_oc I s (xt_oc b) q = true then xm_cl b (.inr (some q) :: (st.take (xt_na b)).reverse) r else xm_no
      | _ => xm_no
    | .invokespecial _ =>
      if a = 1 then xm_r1 st fun _ r => if r.length ≤ 8 then xm_nx (pc + 3) ls r s else xm_no
      else match st.drop (xt_na b) with
      | .inr (some q) :: r => xm_cl b (.inr (some q) :: (st.take (xt_na b)).reverse) r
      | _ => xm_no
    | .invokestatic _ =>
      if a = 2 then xm_i2 st fun x y r => if r.length ≤ 8 then xm_nx (pc + 3) ls (.inl (if x < y then y else x) :: r) s else xm_no
      else if a = 3 then xm_i2 st fun x y r => if r.length ≤ 8 then xm_nx (pc + 3) ls (.inl (if y < x then y else x) :: r) s else xm_no
      else if a = 4 then xm_c5 st fun q sp d dp n r => if r.length ≤ 8 then xm_o (xm_cp I s q sp d dp n) fun t => xm_nx (pc + 3) ls r t else xm_no
      else if xt_na b ≤ st.length then xm_cl b (st.take (xt_na b)).reverse (st.drop (xt_na b)) else xm_no
    | _ => xm_no
/-- from this state, with the calls as C has them, mc cells and ms slots left: it comes to its end with Q, or behind n steps to Z -/
def xm_lp (I : xm_I σ R) (C : Nat → xm_S R → σ → (Option (xm_V R) → σ → Prop) → Prop) (y : Nat) (Z : Nat → Nat → Nat → xm_L R → xm_S R → σ → Prop) : Nat → Nat → Nat → Nat → xm_L R → xm_S R → σ → (Option (xm_V R) → σ → Prop) → Prop
  | 0, mc, ms, pc, ls, st, s, _ => Z mc ms pc ls st s
  | n + 1, mc, ms, pc, ls, st, s, Q => match xm_st I y pc ls st s with
    | .inl q => q.2.2.2.2.1 ≤ mc ∧ q.2.2.2.2.2 ≤ ms ∧ xm_lp I C y Z n (mc - q.2.2.2.2.1) (ms - q.2.2.2.2.2) q.1 q.2.1 q.2.2.1 q.2.2.2.1 Q
    | .inr (.inl v) => Q v s
    | .inr (.inr (.inl q)) => q.1 < xt_N ∧ xt_gc q.1 ≤ mc ∧ xt_gs q.1 ≤ ms ∧ q.2.2.length ≤ 8 ∧ q.2.1.length ≤ xt_ml q.1 ∧ C q.1 q.2.1 s (fun v t => xm_lp I C y Z n (mc - xt_gc q.1) (ms - xt_gs q.1) (pc + 3) ls (v.toList ++ q.2.2) t Q)
    | .inr (.inr (.inr _)) => False
def xm_F : Nat → Nat → Nat → xm_L R → xm_S R → σ → Prop := fun _ _ _ _ _ _ => False
/-- the locals with which method y begins -/
def xm_in (y : Nat) (as : xm_S R) : xm_L R := as.map some ++ List.replicate (xt_ml y - as.length) none
/-- method y, at depth d, on these arguments and this memory, comes to its end with Q -/
def xm_MW (I : xm_I σ R) : Nat → Nat → xm_S R → σ → (Option (xm_V R) → σ → Prop) → Prop
  | 0, _, _, _, _ => False
  | d + 1, y, as, s, Q => ∃ n, xm_lp I (xm_MW I d) y xm_F n (xt_gc y) (xt_gs y) 0 (xm_in y as) [] s Q
end XM
end
section
/-! Soundness of the X machine over the kit's rows. Ghosts: adr (a reference's address), wl (a memory's world), Lv (live references), Gd (good memories), cz (how many cells). -/
section XE
variable {σ R : Type}
/-- what a value is in the machine -/
def xm_e (adr : R → Nat) (v : xm_V R) : Value := match v with
  | .inl x => .int x
  | .inr none => .null
  | .inr (some r) => .ref (adr r)
theorem xm_e_cat (adr : R → Nat) (v : xm_V R) : (xm_e adr v).category = 1 := by
  rcases v with x | _ | r <;> rfl
theorem xm_e_sum (adr : R → Nat) (st : xm_S R) : ((st.map (xm_e adr)).map fun v => v.category).sum = st.length := by
  induction st with
  | nil => rfl
  | cons v st ih => simp only [List.map_cons, List.sum_cons, xm_e_cat, ih, List.length_cons]; omega
def xm_lo (adr : R → Nat) (ls : xm_L R) : List (Nat × Value) := (List.range ls.length).filterMap (fun i => match ls[i]? with
  | some (some v) => some (i, xm_e adr v)
  | _ => none)
theorem xm_lo_mem {adr : R → Nat} {ls : xm_L R} {i : Nat} {w : Value} : (i, w) ∈ xm_lo adr ls ↔ ∃ v, ls[i]? = some (some v) ∧ w = xm_e adr v := by
  unfold xm_lo
  rw [List.mem_filterMap]
  constructor
  · rintro ⟨j, -, h⟩
    split at h
    · rename_i v hv
      simp only [Option.some.injEq, Prod.mk.injEq] at h
      obtain ⟨rfl, rfl⟩ := h
      exact ⟨v, hv, rfl⟩
    · cases h
  · rintro ⟨v, hv, rfl⟩
    exact ⟨i, List.mem_range.mpr (List.getElem?_eq_some_iff.mp hv).1, by rw [hv]⟩
/-- the locals in the machine hold what the list says -/
def xm_lh (adr : R → Nat) (n : Nat) (arr : Array Slot) (ls : xm_L R) : Prop := lv_has arr n (xm_lo adr ls) ∧ ls.length = n
theorem xm_lh_at {adr : R → Nat} {n : Nat} {arr : Array Slot} {ls : xm_L R} (h : xm_lh adr n arr ls) {i : Nat} {v : xm_V R} (hi : ls[i]? = some (some v)) : arr[i]? = some (.val (xm_e adr v)) :=
  h.1.2.2 (i, xm_e adr v) (xm_lo_mem.mpr ⟨v, hi, rfl⟩)
theorem xm_lh_set {adr : R → Nat} {n : Nat} {arr arr' : Array Slot} {ls : xm_L R} (h : xm_lh adr n arr ls) {i : Nat} (hi : i < n) {v : xm_V R} (h' : lv_has arr' n ((i, xm_e adr v) :: (xm_lo adr ls).filter (fun q => !(q.1 == i) && !(q.1 + 1 == i && q.2.category == 2)))) : xm_lh adr n arr' (ls.set i (some v)) := by
  refine ⟨⟨h'.1, h'.2.1, fun q hq => ?_⟩, by rw [List.length_set]; exact h.2⟩
  obtain ⟨j, w⟩ := q
  obtain ⟨u, hu, rfl⟩ := xm_lo_mem.mp hq
  by_cases hj : j = i
  · subst hj
    rw [List.getElem?_set_self (by rw [h.2]; exact hi)] at hu
    cases hu
    exact h'.2.2 _ List.mem_cons_self
  · rw [List.getElem?_set_ne (Ne.symm hj)] at hu
    refine h'.2.2 (j, xm_e adr u) (List.mem_cons_of_mem _ (List.mem_filter.mpr ⟨xm_lo_mem.mpr ⟨u, hu, rfl⟩, ?_⟩))
    simp [hj, xm_e_cat]
/-- live values, stacks, locals -/
def xm_vv (Lv : σ → R → Prop) (s : σ) (v : xm_V R) : Prop := ∀ r, v = .inr (some r) → Lv s r
def xm_vs (Lv : σ → R → Prop) (s : σ) (st : xm_S R) : Prop := ∀ v ∈ st, xm_vv Lv s v
def xm_vl (Lv : σ → R → Prop) (s : σ) (ls : xm_L R) : Prop := ∀ (i : Nat) (v : xm_V R), ls[i]? = some (some v) → xm_vv Lv s v
theorem xm_vv_i {Lv : σ → R → Prop} {s : σ} (x : Int32) : xm_vv Lv s (.inl x) := fun _ h => by cases h
theorem xm_vv_r {Lv : σ → R → Prop} {s : σ} {r : R} (h : Lv s r) : xm_vv Lv s (.inr (some r)) := fun q e => by cases e; exact h
theorem xm_vv_u {Lv : σ → R → Prop} {s : σ} {r : R} (h : xm_vv Lv s (.inr (some r))) : Lv s r := h r rfl
theorem xm_vs_c {Lv : σ → R → Prop} {s : σ} {v : xm_V R} {st : xm_S R} (h : xm_vv Lv s v) (hs : xm_vs Lv s st) : xm_vs Lv s (v :: st) := List.forall_mem_cons.mpr ⟨h, hs⟩
theorem xm_vs_h {Lv : σ → R → Prop} {s : σ} {v : xm_V R} {st : xm_S R} (h : xm_vs Lv s (v :: st)) : xm_vv Lv s v := h v List.mem_cons_self
theorem xm_vs_t {Lv : σ → R → Prop} {s : σ} {v : xm_V R} {st : xm_S R} (h : xm_vs Lv s (v :: st)) : xm_vs Lv s st := fun w hw => h w (List.mem_cons_of_mem _ hw)
theorem xm_vs_m {Lv : σ → R → Prop} {s t : σ} (hm : ∀ q, Lv s q → Lv t q) {st : xm_S R} (h : xm_vs Lv s st) : xm_vs Lv t st := fun v hv r e => hm r (h v hv r e)
theorem xm_vl_m {Lv : σ → R → Prop} {s t : σ} (hm : ∀ q, Lv s q → Lv t q) {ls : xm_L R} (h : xm_vl Lv s ls) : xm_vl Lv t ls := fun i v hv r e => hm r (h i v hv r e)
theorem xm_vl_s {Lv : σ → R → Prop} {s : σ} {ls : xm_L R} (h : xm_vl Lv s ls) {v : xm_V R} (hv : xm_vv Lv s v) (i : Nat) : xm_vl Lv s (ls.set i (some v)) := by
  intro j w hw
  by_cases hj : i = j
  · subst hj
    have hl : i < ls.length := by
      have := (List.getElem?_eq_some_iff.mp hw).1
      rwa [List.length_set] at this
    rw [List.getElem?_set_self hl] at hw
    cases hw
    exact hv
  · rw [List.getElem?_set_ne hj] at hw
    exact h j w hw
/-- the helpers, read backwards -/
theorem xm_i1_i {st : xm_S R} {f : Int32 → xm_S R → xm_R σ R} {z : xm_R σ R} (h : xm_i1 st f = z) (hz : z ≠ xm_no) : ∃ x r, st = .inl x :: r ∧ f x r = z := by
  unfold xm_i1 at h
  split at h
  · exact ⟨_, _, rfl, h⟩
  · exact absurd h.symm hz
theorem xm_i2_i {st : xm_S R} {f : Int32 → Int32 → xm_S R → xm_R σ R} {z : xm_R σ R} (h : xm_i2 st f = z) (hz : z ≠ xm_no) : ∃ x y r, st = .inl y :: .inl x :: r ∧ f x y r = z := by
  unfold xm_i2 at h
  split at h
  · exact ⟨_, _, _, rfl, h⟩
  · exact absurd h.symm hz
theorem xm_v1_i {st : xm_S R} {f : xm_V R → xm_S R → xm_R σ R} {z : xm_R σ R} (h : xm_v1 st f = z) (hz : z ≠ xm_no) : ∃ v r, st = v :: r ∧ f v r = z := by
  unfold xm_v1 at h
  split at h
  · exact ⟨_, _, rfl, h⟩
  · exact absurd h.symm hz
theorem xm_v2_i {st : xm_S R} {f : xm_V R → xm_V R → xm_S R → xm_R σ R} {z : xm_R σ R} (h : xm_v2 st f = z) (hz : z ≠ xm_no) : ∃ v w r, st = v :: w :: r ∧ f v w r = z := by
  unfold xm_v2 at h
  split at h
  · exact ⟨_, _, _, rfl, h⟩
  · exact absurd h.symm hz
theorem xm_r1_i {st : xm_S R} {f : R → xm_S R → xm_R σ R} {z : xm_R σ R} (h : xm_r1 st f = z) (hz : z ≠ xm_no) : ∃ q r, st = .inr (some q) :: r ∧ f q r = z := by
  unfold xm_r1 at h
  split at h
  · exact ⟨_, _, rfl, h⟩
  · exact absurd h.symm hz
theorem xm_ri_i {st : xm_S R} {f : R → Int32 → xm_S R → xm_R σ R} {z : xm_R σ R} (h : xm_ri st f = z) (hz : z ≠ xm_no) : ∃ q i r, st = .inl i :: .inr (some q) :: r ∧ f q i r = z := by
  unfold xm_ri at h
  split at h
  · exact ⟨_, _, _, rfl, h⟩
  · exact absurd h.symm hz
theorem xm_rii_i {st : xm_S R} {f : R → Int32 → Int32 → xm_S R → xm_R σ R} {z : xm_R σ R} (h : xm_rii st f = z) (hz : z ≠ xm_no) : ∃ q i x r, st = .inl x :: .inl i :: .inr (some q) :: r ∧ f q i x r = z := by
  unfold xm_rii at h
  split at h
  · exact ⟨_, _, _, _, rfl, h⟩
  · exact absurd h.symm hz
theorem xm_rir_i {st : xm_S R} {f : R → Int32 → R → xm_S R → xm_R σ R} {z : xm_R σ R} (h : xm_rir st f = z) (hz : z ≠ xm_no) : ∃ q i w r, st = .inr (some w) :: .inl i :: .inr (some q) :: r ∧ f q i w r = z := by
  unfold xm_rir at h
  split at h
  · exact ⟨_, _, _, _, rfl, h⟩
  · exact absurd h.symm hz
theorem xm_rv_i {st : xm_S R} {f : R → xm_V R → xm_S R → xm_R σ R} {z : xm_R σ R} (h : xm_rv st f = z) (hz : z ≠ xm_no) : ∃ q v r, st = v :: .inr (some q) :: r ∧ f q v r = z := by
  unfold xm_rv at h
  split at h
  · exact ⟨_, _, _, rfl, h⟩
  · exact absurd h.symm hz
theorem xm_c5_i {st : xm_S R} {f : R → Int32 → R → Int32 → Int32 → xm_S R → xm_R σ R} {z : xm_R σ R} (h : xm_c5 st f = z) (hz : z ≠ xm_no) : ∃ q sp d dp n r, st = .inl n :: .inl dp :: .inr (some d) :: .inl sp :: .inr (some q) :: r ∧ f q sp d dp n r = z := by
  unfold xm_c5 at h
  split at h
  · exact ⟨_, _, _, _, _, _, rfl, h⟩
  · exact absurd h.symm hz
theorem xm_o_i {α : Type} {o : Option α} {f : α → xm_R σ R} {z : xm_R σ R} (h : xm_o o f = z) (hz : z ≠ xm_no) : ∃ x, o = some x ∧ f x = z := by
  unfold xm_o at h
  split at h
  · exact ⟨_, rfl, h⟩
  · exact absurd h.symm hz
theorem xm_li_i {ls : xm_L R} {i : Nat} {f : Int32 → xm_R σ R} {z : xm_R σ R} (h : xm_li ls i f = z) (hz : z ≠ xm_no) : ∃ x, ls[i]? = some (some (.inl x)) ∧ f x = z := by
  unfold xm_li at h
  split at h
  · exact ⟨_, by assumption, h⟩
  · exact absurd h.symm hz
theorem xm_lr_i {ls : xm_L R} {i : Nat} {f : R → xm_R σ R} {z : xm_R σ R} (h : xm_lr ls i f = z) (hz : z ≠ xm_no) : ∃ q, ls[i]? = some (some (.inr (some q))) ∧ f q = z := by
  unfold xm_lr at h
  split at h
  · exact ⟨_, by assumption, h⟩
  · exact absurd h.symm hz
theorem xm_lz (q : Nat × xm_L R × xm_S R × σ × Nat × Nat) : (Sum.inl q : xm_R σ R) ≠ xm_no := fun h => by cases h
theorem xm_in_at {y : Nat} {as : xm_S R} {i : Nat} {v : xm_V R} (h : (xm_in y as)[i]? = some (some v)) : ∃ w, w ∈ as ∧ w = v := by
  unfold xm_in at h
  by_cases hi : i < as.length
  · rw [List.getElem?_append_left (by rw [List.length_map]; exact hi), List.getElem?_map] at h
    cases ha : as[i]? with
    | none => rw [ha] at h; cases h
    | some w =>
      rw [ha] at h
      obtain rfl : w = v := by simpa using h
      exact ⟨w, List.mem_of_getElem? ha, rfl⟩
  · rw [List.getElem?_append_right (by rw [List.length_map]; omega)] at h
    have := List.mem_of_getElem? h
    rw [List.mem_replicate] at this
    cases this.2
theorem xm_in_args (adr : R → Nat) : ∀ (as : xm_S R) (k i : Nat) (v : xm_V R), as[i]? = some v → (k + i, xm_e adr v) ∈ lv_args k (as.map (xm_e adr))
  | [], _, _, _, h => by cases h
  | a :: as, k, 0, v, h => by
    cases h
    exact List.mem_cons_self
  | a :: as, k, i + 1, v, h => by
    have := xm_in_args adr as (k + 1) i v h
    show _ ∈ (k, xm_e adr a) :: lv_args (if (xm_e adr a).category = 2 then k + 2 else k + 1) (as.map (xm_e adr))
    rw [if_neg (by rw [xm_e_cat]; decide)]
    rw [show k + (i + 1) = k + 1 + i by omega]
    exact List.mem_cons_of_mem _ this
theorem xm_in_mem {adr : R → Nat} {y : Nat} {as : xm_S R} {i : Nat} {v : xm_V R} (h : (xm_in y as)[i]? = some (some v)) : (i, xm_e adr v) ∈ lv_args 0 (as.map (xm_e adr)) := by
  unfold xm_in at h
  by_cases hi : i < as.length
  · rw [List.getElem?_append_left (by rw [List.length_map]; exact hi), List.getElem?_map] at h
    cases ha : as[i]? with
    | none => rw [ha] at h; cases h
    | some w =>
      rw [ha] at h
      cases h
      have := xm_in_args adr as 0 i v ha
      rwa [Nat.zero_add] at this
  · rw [List.getElem?_append_right (by rw [List.length_map]; omega)] at h
    have := List.mem_of_getElem? h
    rw [List.mem_replicate] at this
    cases this.2
end XE
end
section
/-! Rows of writes that keep the heap's size in sight. -/
section XRW
variable {p : Program} {l : Launch} {e : Env} {R : Room} {s : State} {m : MethodId} {args : Array Value} {below : List Frame} {meth : Method} {c : Code} {H : Heap} {locs : List Loc} {cells slots : Nat} {Q : State → Prop}
variable {cc : ByteArray} {pc : Nat} {ls : Array Slot} {rest : List Value} {D : va_G} {cl : List vw_C} {A : Nat → Prop} {a : Nat} {tys : List (ClassId × FieldType)} {ws : va_W} {H0 : Heap}
theorem xm_put (hexec : p.tables.exec = Jvm.exec) (hb : c.code = cc) {own C : String} {T : u_T} {N ci index : Nat} {Ts : List Cond} (hts : ∀ w ∈ Ts, w.before args s = true) (hin : ∀ w ∈ u_ws C T N, w ∈ Ts) (ty0 : Nat → FieldType) (hty : ∀ k, k < N → parseFieldDescriptor (T k).2.2.1 = some (ty0 k)) (hnm : ∀ a, a < N → ∀ b, b < N → a ≠ b → (T a).2.1 ≠ (T b).2.1) (hown : s.vm.findClass own = some m.cls) (hK : va_K D cl tys s) (hP : va_P D cl ws H) (hD : va_D A ws) (hS0 : va_S A H0 H locs) (q0 : Nat) {fs : List Value} (he : ws[q0]? = some (a, .inr (ci, fs))) (hc : cl[ci]? = some (C, T, N)) (k : Nat) (hk : k < N) (hlink : (Cond.fieldLink own index C (T k).2.1 (T k).2.2.1).before args s = true) (hdc : (T k).1 = C)
    (hfin : (T k).2.2.2 = false ∨ (meth.name = "<init>" ∧ C = own)) {v : Value} (hn : narrow (ty0 k) v = v) (hfit : fits (ty0 k) v = true) (hl : k < fs.length)
    (hdg : decode cc pc = .ok (.putfield index, 3)) (kk : ∀ (H1 : Heap) (locs1 : List Loc), va_P D cl (ws.set q0 (a, .inr (ci, fs.set k v))) H1 → va_S A H0 H1 locs1 → H1.size = H.size → W p l e R s m args below meth c H1 locs1 cells slots Q (F0 m (pc + 3) ls rest)) : W p l e R s m args below meth c H locs cells slots Q (F0 m pc ls (v :: .ref a :: rest)) := by
  have hap := va_apart (own := own) hts hin ty0 hty hnm hK hc
  obtain ⟨r, h1, cell, q1, q2, q3, q4⟩ := hP q0 _ he
  obtain rfl : r = (C, T, N) := Option.some.inj (h1.symm.trans hc)
  obtain ⟨hS, hfc, kC, hkC, hkind⟩ := hK.1 ci _ hc
  obtain ⟨cf, kf, fi, f, hi, hsl⟩ := hS k hk
  have hlay := hts _ (hin _ (u_in_lay hk))
  have hst := (u_facts hfc hkC (u_lays hts hin hk) hi).1
  have hi2 : s.fieldFound? C (T k).2.1 (T k).2.2.1 = some (cf, kf, fi, f) := by rw [← hdc]; exact hi
  have fin : ∀ H' : Heap, H'[a]? = some (cell.setSlot f.slot v) → H'.size = H.size → (∀ q, q ≠ a → H'[q]? = H[q]?) → W p l e R s m args below meth c H' (locs ++ [⟨a, f.slot⟩]) cells slots Q (F0 m (pc + 3) ls rest) := by
    intro H' e1 e2 e3
    rw [hsl] at e1 ⊢
    exact kk H' _ (hP.set hD he ⟨_, hc, t_OB.to (V := updV (vp_V fs) k v) ⟨_, e1, q2, q3, t_set q4 hap hk v⟩ (fun j _ => vp_updV_set hl v j)⟩ e3) (hS0.put e2 e3 (hD.2 q0 _ he)) e2
  unfold u_lay at hlay
  by_cases hf : (T k).2.2.2 = true
  · rcases hfin with h0 | ⟨hin2, hCo⟩
    · rw [h0] at hf; cases hf
    rw [if_pos hf] at hlay
    have hcf : m.cls = cf := by
      obtain ⟨_, _, c', _, _, _, -, -, hf', -, -, -, hown2, -⟩ := Cond.laysFinal_spec hlay
      have e1 : c' = cf := by have := hi.symm.trans hf'; simp at this; exact this.1.symm
      rw [hdc, hCo] at hown2
      rw [← e1]; exact Option.some.inj (hown.symm.trans hown2)
    have h6 := u_fits hfc hkC hkind (Or.inr hlay) hi (hty k hk) hn hfit
    exact W.putFinK hexec hb hown hlink hi2 hst hcf hin2 (by rw [q2]; exact h6) q1 q3 (by rw [hsl]; exact k2_hasslot (q4 k hk)) rfl rfl hdg fin
  · rw [if_neg hf] at hlay
    have h6 := u_store hfc hkC hkind hlay hi (hty k hk) hn hfit
    exact W.putK hexec hb (f := f) ⟨hown, hlink, ⟨_, _, _, hi2⟩, hst⟩ (by rw [q2]; exact h6) q1 q3 (by rw [hsl]; exact k2_hasslot (q4 k hk)) rfl rfl hdg fin
theorem xm_iast (hexec : p.tables.exec = Jvm.exec) (hb : c.code = cc) (hK : va_K D cl tys s) (hP : va_P D cl ws H) (hD : va_D A ws) (hS : va_S A H0 H locs) (q0 t0 : Nat) {cA : ClassId} {n : Nat} {f : Nat → Int32} (ha : ws[q0]? = some (a, .inl (cA, n, .inl f))) (ht : tys[t0]? = some (cA, .int)) {i : Int32} {x : Int32} (hin : vp_in i n) (hdg : decode cc pc = .ok (.iastore, 1))
    (kk : ∀ (H1 : Heap) (locs1 : List Loc), va_P D cl (ws.set q0 (a, .inl (cA, n, .inl (upd f i.toNatClampNeg x)))) H1 → va_S A H0 H1 locs1 → H1.size = H.size → W p l e R s m args below meth c H1 locs1 cells slots Q (F0 m (pc + 1) ls rest)) : W p l e R s m args below meth c H locs cells slots Q (F0 m pc ls (.int x :: .int i :: .ref a :: rest)) := by
  refine W.iast hexec hb (hP q0 _ ha) ((hK.2 t0 _ ht).1 n (fun j => .int (f j))) (fun q => by cases q) (by show ¬ (i < 0 ∨ (arrV _ _ _).slots.size ≤ _); rw [arrV_size]; exact hin) rfl rfl hdg fun H1 e z oq => ?_
  refine kk H1 _ (hP.set hD ha ?_ oq) (hS.put z oq (hD.2 q0 _ ha)) z
  show H1[a]? = some (vp_cell _ _)
  rw [e, vp_cell_i, vp_cell_i, arrV_store]
  congr 2
  funext q
  by_cases hq : q = i.toNatClampNeg
  · subst hq
    simp [updV, upd]
  · simp [updV, upd, hq]
theorem xm_zast (hexec : p.tables.exec = Jvm.exec) (hb : c.code = cc) (hK : va_K D cl tys s) (hP : va_P D cl ws H) (hD : va_D A ws) (hS : va_S A H0 H locs) (q0 t0 : Nat) {cA : ClassId} {n : Nat} {f : Nat → Int32} (ha : ws[q0]? = some (a, .inl (cA, n, .inl f))) (ht : tys[t0]? = some (cA, .boolean)) {i : Int32} {x : Int32} (hin : vp_in i n) (hdg : decode cc pc = .ok (.bastore, 1))
    (kk : ∀ (H1 : Heap) (locs1 : List Loc), va_P D cl (ws.set q0 (a, .inl (cA, n, .inl (upd f i.toNatClampNeg (vp_nar .boolean x))))) H1 → va_S A H0 H1 locs1 → H1.size = H.size → W p l e R s m args below meth c H1 locs1 cells slots Q (F0 m (pc + 1) ls rest)) : W p l e R s m args below meth c H locs cells slots Q (F0 m pc ls (.int x :: .int i :: .ref a :: rest)) := by
  refine W.zast hexec hb (hP q0 _ ha) ((hK.2 t0 _ ht).1 n (fun j => .int (f j))) (fun q => by cases q) (by show ¬ (i < 0 ∨ (arrV _ _ _).slots.size ≤ _); rw [arrV_size]; exact hin) rfl rfl hdg fun H1 e z oq => ?_
  refine kk H1 _ (hP.set hD ha ?_ oq) (hS.put z oq (hD.2 q0 _ ha)) z
  show H1[a]? = some (vp_cell _ _)
  rw [e, vp_cell_i, vp_cell_i, arrV_store]
  congr 2
  funext q
  by_cases hq : q = i.toNatClampNeg
  · subst hq
    simp [updV, upd, vp_nar]
    try rfl
  · simp [updV, upd, hq]
theorem xm_aast (hexec : p.tables.exec = Jvm.exec) (hb : c.code = cc) (hK : va_K D cl tys s) (hP : va_P D cl ws H) (hD : va_D A ws) (hS : va_S A H0 H locs) (q0 t0 qk ci : Nat) {cA : ClassId} {r : vw_C} {n v : Nat} {vs : List Value} {f : Nat → Option Nat} (ha : ws[q0]? = some (a, .inl (cA, n, .inr (.inr (.inr (.inr f)))))) (ht : tys[t0]? = some (cA, .object r.1)) (hv : ws[qk]? = some (v, .inr (ci, vs))) (hc : cl[ci]? = some r) {i : Int32} (hin : vp_in i n) (hdg : decode cc pc = .ok (.aastore, 1))
    (kk : ∀ (H1 : Heap) (locs1 : List Loc), va_P D cl (ws.set q0 (a, .inl (cA, n, .inr (.inr (.inr (.inr (va_up f i.toNatClampNeg (some v)))))))) H1 → va_S A H0 H1 locs1 → H1.size = H.size → W p l e R s m args below meth c H1 locs1 cells slots Q (F0 m (pc + 1) ls rest)) : W p l e R s m args below meth c H locs cells slots Q (F0 m pc ls (.ref v :: .int i :: .ref a :: rest)) := by
  have hlt : i.toNatClampNeg < n := Nat.not_le.mp fun q => hin (Or.inr q)
  have h0 : ¬ i < 0 := fun q => hin (Or.inl q)
  obtain ⟨r', hr', cellV, g1, g2, g3, -⟩ := hP qk _ hv
  have hcls := (hK.1 ci r hc).2
  obtain ⟨kA, comp, k1, k2, k3, -⟩ := (hK.2 t0 _ ht).2
  obtain rfl : comp = D.1 ci := Option.some.inj (k3.symm.trans hcls.1)
  obtain ⟨kC, hkC, -⟩ := hcls.2
  refine W.aast hexec hb (hP q0 _ ha) (fun q h => by cases h) (fun h => by cases h) k1 k2 rfl hkC ⟨h0, by show _ < (arrV _ _ _).slots.size; rw [arrV_size]; exact hlt⟩ g1 (fun q h => by rw [g3] at h; cases h) (by rw [g2]; exact hkC) (by rw [g2]; exact va_assign hcls) rfl rfl hdg fun H1 e z oq => ?_
  refine kk H1 _ (hP.set hD ha ?_ oq) (hS.put z oq (hD.2 q0 _ ha)) z
  show H1[a]? = some (vp_cell _ _)
  rw [e, vp_cell_q, vp_cell_q, arrV_store]
  congr 2
  funext q
  by_cases hq : q = i.toNatClampNeg
  · subst hq
    simp [updV, va_up, va_rf]
  · simp [updV, va_up, hq]
/-- a new cell at the heap's end -/
theorem xm_push {h : Nat} {H1 : Heap} {en : va_E} (hP : va_P D cl ws H) (hS : va_S A H0 H locs) (hh : H.size = h) (hz : H1.size = h + 1) (o1 : ∀ q, q < h → H1[q]? = H[q]?) (hat : va_at D cl (h, en) H1) : va_P D cl (ws ++ [(h, en)]) H1 ∧ va_S A H0 H1 locs := by
  subst hh
  have hk : ∀ (k : Nat) (x : Nat × va_E), ws[k]? = some x → H1[x.1]? = H[x.1]? := fun k x hx => o1 x.1 ((hP k x hx).lt)
  refine ⟨(hP.kept hk).app (fun k x hx => ?_), Nat.le_trans hS.1 (by omega), fun x h1 h2 => (o1 x (Nat.lt_of_lt_of_le h1 hS.1)).trans (hS.2.1 x h1 h2), hS.2.2⟩
  have hz : k < 1 := (List.getElem?_eq_some_iff.mp hx).1
  obtain rfl : k = 0 := by omega
  cases hx
  exact hat
theorem xm_arr_c {cA : ClassId} {N : Nat} {f g : Nat → Value} (h : ∀ j, j < N → f j = g j) : arrV cA N f = arrV cA N g := by
  unfold arrV
  congr 1
  congr 1
  funext j
  exact h j.val j.isLt
theorem xm_outer (cA : ClassId) (N h0 : Nat) : ∀ i : Nat, Jvm.Free.Multi.outerC cA N h0 i = arrV cA N (fun j => va_rf (if j < i then some (h0 + 1 + j) else none))
  | 0 => by
    show ({ cls := cA, slots := Array.replicate N .null, vm := .none } : Cell) = _
    rw [arrV_new]
    refine congrArg (arrV cA N) (funext fun j => ?_)
    simp [va_rf]
  | i + 1 => by
    show (Jvm.Free.Multi.outerC cA N h0 i).setSlot i (.ref (h0 + 1 + i)) = _
    rw [xm_outer cA N h0 i, arrV_store]
    refine congrArg (arrV cA N) (funext fun j => ?_)
    by_cases e : j = i
    · subst e
      simp [updV, va_rf]
    · by_cases h : j < i
      · simp [updV, e, h, Nat.lt_succ_of_lt h]
      · simp [updV, e, h, show ¬ j < i + 1 by omega]
/-- new int[4][40]: the outer array at the heap's end, its rows behind it -/
theorem xm_mna (hexec : p.tables.exec = Jvm.exec) (hb : c.code = cc) {own : String} {index : Nat} (hown : s.vm.findClass own = some m.cls) (hclink : (Cond.classLink own index ("[" ++ (FieldType.array .int).toString)).before args s = true) (hover : (Cond.arrayOver (.array .int)).before args s = true) (harr : (Cond.arrayClass .int).before args s = true)
    (hP : va_P D cl ws H) (hS : va_S A H0 H locs) {cI cA : ClassId} (hcI : s.vm.findClass (FieldType.array .int).toString = some cI) (hcA : s.vm.findClass ("[" ++ (FieldType.array .int).toString) = some cA) {h : Nat} (hh : H.size = h) {G : Nat → Option Nat} (hG : ∀ j, j < 4 → G j = some (h + 1 + j)) {n k : Int32} (hn : n = 4) (hk : k = 40) (hcells : cells + (1 + 4) ≤ R.cells) (hslots : slots + (4 + 4 * 40) ≤ R.slots) (hdg : decode cc pc = .ok (.multianewarray index 2, 4))
    (kk : ∀ H1 : Heap, va_P D cl (ws ++ ([(h, .inl (cA, 4, .inr (.inr (.inr (.inr G)))))] ++ (List.range 4).map (fun j => ((h + 1 + j, .inl (cI, 40, .inl (fun _ => 0))) : Nat × va_E)))) H1 → va_S A H0 H1 locs → H1.size = h + 5 → W p l e R s m args below meth c H1 locs (cells + (1 + 4)) (slots + (4 + 4 * 40)) Q (F0 m (pc + 4) ls (.ref h :: rest))) : W p l e R s m args below meth c H locs cells slots Q (F0 m pc ls (.int k :: .int n :: rest)) := by
  subst hn
  subst hk
  subst hh
  intro T hT Xs
  obtain ⟨vm₁, cA', comp, -, fA, fC, hO, -, X', step⟩ := Xs.multianewarray2F hexec hown hclink hover harr (g := F0 m pc ls (.int 40 :: .int 4 :: rest)) rfl (by rw [hb]; exact hdg) rfl (by decide) (by decide) (by decide) (by decide) (by decide) rfl rfl hcells hslots
  obtain rfl : cA' = cA := Option.some.inj (fA.symm.trans hcA)
  obtain rfl : comp = cI := Option.some.inj (fC.symm.trans hcI)
  have e4 : (4 : Int32).toNatClampNeg = 4 := by decide
  have e40 : (40 : Int32).toNatClampNeg = 40 := by decide
  rw [e4, e40] at X' step
  generalize hF : Jvm.Free.Multi.fill (T.setVm vm₁) cA' comp 4 40 (defaultValue .int) 4 = F at X' step
  have hTh : (T.setVm vm₁).heap = H := hT
  obtain ⟨f1, f2, -, -⟩ := Jvm.Free.Multi.fill_facts (T.setVm vm₁) cA' comp 4 40 (defaultValue .int) 4
  rw [hF, hTh] at f1 f2
  have hold : ∀ x : Nat, x < H.size → F.heap[x]? = H[x]? := fun x hx => by
    have := Jvm.Free.Multi.fill_old (T.setVm vm₁) cA' comp 4 40 (defaultValue .int) (a := x) (by rw [hTh]; exact hx) 4
    rw [hF, hTh] at this
    exact this
  have hrow : ∀ j : Nat, j < 4 → F.heap[H.size + 1 + j]? = some (vp_cell comp (40, .inl (fun _ => 0))) := fun j hj => by
    have := Jvm.Free.Multi.fill_inner (T.setVm vm₁) cA' comp 4 40 (defaultValue .int) 4 j hj
    rw [hF, hTh] at this
    rw [this, vp_cell_i, ← arrV_new]
    rfl
  rw [xm_outer] at f2
  have hout : arrV cA' 4 (fun j => va_rf (if j < 4 then some (H.size + 1 + j) else none)) = vp_cell cA' (4, .inr (.inr (.inr (.inr G)))) := by
    rw [vp_cell_q]
    refine xm_arr_c (fun j hj => ?_)
    rw [if_pos hj, hG j hj]
  rw [hout] at f2
  have hP0 : va_P D cl ws F.heap := hP.kept (fun k9 x hx => hold x.1 ((hP k9 x hx).lt))
  have hP1 : va_P D cl (ws ++ ([(H.size, .inl (cA', 4, .inr (.inr (.inr (.inr G)))))] ++ (List.range 4).map (fun j => ((H.size + 1 + j, .inl (comp, 40, .inl (fun _ => 0))) : Nat × va_E)))) F.heap := by
    refine hP0.app (va_P.app (fun k9 x hx => ?_) (fun k9 x hx => ?_))
    · have h0 : k9 < 1 := (List.getElem?_eq_some_iff.mp hx).1
      obtain rfl : k9 = 0 := by omega
      cases hx
      exact f2
    · obtain ⟨j, hj, rfl⟩ := List.mem_map.mp (List.mem_of_getElem? hx)
      exact hrow j (List.mem_range.mp hj)
  obtain ⟨t, a1, b1⟩ := kk F.heap hP1 ⟨by rw [f1]; have := hS.1; omega, fun x h1 h2 => (hold x (Nat.lt_of_lt_of_le h1 hS.1)).trans (hS.2.1 x h1 h2), hS.2.2⟩ (by rw [f1]) F rfl (by simpa [Nat.add_assoc] using X')
  refine ⟨t, step t ?_, b1⟩
  have e : T.heap.size = H.size := by rw [hT]
  rw [e]
  exact a1
end XRW
end
section
/-! The laws of an interface, and the soundness of a step. -/
section XW
variable {σ R : Type}
def xm_nr2 (t : Nat) (x : Int32) : Int32 := if t = 0 then x else vp_nar .boolean x
/-- what stays behind a write: the memory is good, no cell came or went, what was live is live -/
def xm_kp (Lv : σ → R → Prop) (Gd : σ → Prop) (cz : σ → Nat) (s t : σ) (n : Nat) : Prop := Gd t ∧ cz t = cz s + n ∧ ∀ q, Lv s q → Lv t q
def xm_lgf (I : xm_I σ R) (adr : R → Nat) (wl : σ → va_W) (Lv : σ → R → Prop) (Gd : σ → Prop) : Prop := ∀ s r ci k v, Gd s → Lv s r → xm_gf I s r ci k = some v → xm_vv Lv s v ∧ ∃ (q0 : Nat) (fs : List Value), (wl s)[q0]? = some (adr r, .inr (ci, fs)) ∧ fs[k]? = some (xm_e adr v)
def xm_lpf (I : xm_I σ R) (adr : R → Nat) (wl : σ → va_W) (Lv : σ → R → Prop) (Gd : σ → Prop) (cz : σ → Nat) : Prop := ∀ s r ci k v t, Gd s → Lv s r → xm_vv Lv s v → xm_pf I s r ci k v = some t → xm_kp Lv Gd cz s t 0 ∧ (narrow (xt_ft ci k) (xm_e adr v) = xm_e adr v ∧ fits (xt_ft ci k) (xm_e adr v) = true) ∧ ∃ (q0 : Nat) (fs : List Value), (wl s)[q0]? = some (adr r, .inr (ci, fs)) ∧ k < fs.length ∧ wl t = (wl s).set q0 (adr r, .inr (ci, fs.set k (xm_e adr v)))
def xm_lal (I : xm_I σ R) (adr : R → Nat) (wl : σ → va_W) (Lv : σ → R → Prop) (Gd : σ → Prop) (tys : List (ClassId × FieldType)) (b0 L0 : Nat) (xs0 : Nat → Int32) : Prop := ∀ s t r i x, t < 2 → Gd s → Lv s r → xm_al I s t r i = some x → (∃ (q0 : Nat) (cA : ClassId) (n : Nat) (f : Nat → Int32), (wl s)[q0]? = some (adr r, .inl (cA, n, .inl f)) ∧ tys[t]? = some (cA, xt_tt t) ∧ vp_in i n ∧ x = f i.toNatClampNeg) ∨ (t = 0 ∧ adr r = b0 ∧ vp_in i L0 ∧ x = xs0 i.toNatClampNeg)
def xm_las (I : xm_I σ R) (adr : R → Nat) (wl : σ → va_W) (Lv : σ → R → Prop) (Gd : σ → Prop) (cz : σ → Nat) (tys : List (ClassId × FieldType)) : Prop := ∀ s t r i x u, t < 2 → Gd s → Lv s r → xm_as I s t r i x = some u → xm_kp Lv Gd cz s u 0 ∧ ∃ (q0 : Nat) (cA : ClassId) (n : Nat) (f : Nat → Int32), (wl s)[q0]? = some (adr r, .inl (cA, n, .inl f)) ∧ tys[t]? = some (cA, xt_tt t) ∧ vp_in i n ∧ wl u = (wl s).set q0 (adr r, .inl (cA, n, .inl (upd f i.toNatClampNeg (xm_nr2 t x))))
def xm_lrl (I : xm_I σ R) (adr : R → Nat) (wl : σ → va_W) (Lv : σ → R → Prop) (Gd : σ → Prop) (tys : List (ClassId × FieldType)) : Prop := ∀ s r i v, Gd s → Lv s r → xm_rl I s r i = some v → xm_vv Lv s v ∧ ∃ (q0 t0 : Nat) (cA : ClassId) (ty : FieldType) (n : Nat) (f : Nat → Option Nat), (wl s)[q0]? = some (adr r, .inl (cA, n, .inr (.inr (.inr (.inr f))))) ∧ tys[t0]? = some (cA, ty) ∧ ty.isReference = true ∧ vp_in i n ∧ va_rf (f i.toNatClampNeg) = xm_e adr v
def xm_lrs (I : xm_I σ R) (adr : R → Nat) (wl : σ → va_W) (Lv : σ → R → Prop) (Gd : σ → Prop) (cz : σ → Nat) (tys : List (ClassId × FieldType)) : Prop := ∀ s r i w u, Gd s → Lv s r → Lv s w → xm_rs I s r i w = some u → xm_kp Lv Gd cz s u 0 ∧ ∃ (q0 t0 qk ci : Nat) (cA : ClassId) (rw : vw_C) (n : Nat) (vs : List Value) (f : Nat → Option Nat), (wl s)[q0]? = some (adr r, .inl (cA, n, .inr (.inr (.inr (.inr f))))) ∧ tys[t0]? = some (cA, .object rw.1) ∧ (wl s)[qk]? = some (adr w, .inr (ci, vs)) ∧ xt_cs[ci]? = some rw ∧ vp_in i n ∧ wl u = (wl s).set q0 (adr r, .inl (cA, n, .inr (.inr (.inr (.inr (va_up f i.toNatClampNeg (some (adr w))))))))
def xm_lln (I : xm_I σ R) (adr : R → Nat) (wl : σ → va_W) (Lv : σ → R → Prop) (Gd : σ → Prop) (tys : List (ClassId × FieldType)) (b0 L0 : Nat) : Prop := ∀ s r n, Gd s → Lv s r → xm_ln I s r = some n → (∃ (q0 t0 : Nat) (cA : ClassId) (x : vp_A) (ty : FieldType), (wl s)[q0]? = some (adr r, .inl (cA, x)) ∧ tys[t0]? = some (cA, ty) ∧ x.1 = n) ∨ (adr r = b0 ∧ n = L0)
def xm_loc (I : xm_I σ R) (adr : R → Nat) (wl : σ → va_W) (Lv : σ → R → Prop) (Gd : σ → Prop) : Prop := ∀ s ci r, Gd s → Lv s r → xm_oc I s ci r = true → ∃ (q0 : Nat) (fs : List Value), (wl s)[q0]? = some (adr r, .inr (ci, fs))
def xm_lnw (Zk : Prop) (I : xm_I σ R) (adr : R → Nat) (wl : σ → va_W) (Lv : σ → R → Prop) (Gd : σ → Prop) (cz : σ → Nat) (base : Nat) : Prop := ∀ s ci r u, Gd s → xm_nw I s ci = some (r, u) → Zk ∧ xm_kp Lv Gd cz s u 1 ∧ Lv u r ∧ adr r = base + cz s ∧ ∃ fs : List Value, wl u = wl s ++ [(adr r, .inr (ci, fs))] ∧ ∀ rw : vw_C, xt_cs[ci]? = some rw → ∀ j, j < rw.2.2 → defaultValue (xt_ft ci j) = vp_V fs j
def xm_lna (Zk : Prop) (I : xm_I σ R) (adr : R → Nat) (wl : σ → va_W) (Lv : σ → R → Prop) (Gd : σ → Prop) (cz : σ → Nat) (tys : List (ClassId × FieldType)) (base : Nat) : Prop := ∀ s t n r u, t < 2 → Gd s → xm_na I s t n = some (r, u) → Zk ∧ xm_kp Lv Gd cz s u 1 ∧ Lv u r ∧ adr r = base + cz s ∧ n ≤ 10000 ∧ ∃ cA : ClassId, tys[t]? = some (cA, xt_tt t) ∧ wl u = wl s ++ [(adr r, .inl (cA, n, .inl (fun _ => 0)))]
def xm_lnr (Zk : Prop) (I : xm_I σ R) (adr : R → Nat) (wl : σ → va_W) (Lv : σ → R → Prop) (Gd : σ → Prop) (cz : σ → Nat) (tys : List (ClassId × FieldType)) (base : Nat) : Prop := ∀ s t n r u, Gd s → xm_nr I s t n = some (r, u) → Zk ∧ xm_kp Lv Gd cz s u 1 ∧ Lv u r ∧ adr r = base + cz s ∧ n ≤ 10000 ∧ ∃ cA : ClassId, tys[t]? = some (cA, .object (xt_an t)) ∧ wl u = wl s ++ [(adr r, .inl (cA, n, .inr (.inr (.inr (.inr (fun _ => none))))))]
def xm_lcp (Zk : Prop) (I : xm_I σ R) (adr : R → Nat) (wl : σ → va_W) (Lv : σ → R → Prop) (Gd : σ → Prop) (cz : σ → Nat) (tys : List (ClassId × FieldType)) : Prop := ∀ s r sp d dp n u, Gd s → Lv s r → Lv s d → xm_cp I s r sp d dp n = some u → ¬ Zk ∧ xm_kp Lv Gd cz s u 0 ∧ ∃ (q0 q1 : Nat) (cA : ClassId) (n0 n1 : Nat) (f g : Nat → Int32), (wl s)[q0]? = some (adr r, .inl (cA, n0, .inl f)) ∧ (wl s)[q1]? = some (adr d, .inl (cA, n1, .inl g)) ∧ tys[0]? = some (cA, .int) ∧ ¬ sp < 0 ∧ ¬ dp < 0 ∧ ¬ n < 0 ∧ sp.toNatClampNeg + n.toNatClampNeg ≤ n0 ∧ dp.toNatClampNeg + n.toNatClampNeg ≤ n1 ∧ wl u = (wl s).set q1 (adr d, .inl (cA, n1, .inl (va_cpy f g sp.toNatClampNeg dp.toNatClampNeg n.toNatClampNeg)))
def xm_lnm (Zk : Prop) (I : xm_I σ R) (adr : R → Nat) (wl : σ → va_W) (Lv : σ → R → Prop) (Gd : σ → Prop) (cz : σ → Nat) (tys : List (ClassId × FieldType)) (base : Nat) : Prop := ∀ s n k r u, Gd s → xm_nm I s n k = some (r, u) → Zk ∧ n = 4 ∧ k = 40 ∧ xm_kp Lv Gd cz s u 5 ∧ Lv u r ∧ adr r = base + cz s ∧ ∃ (cI cA : ClassId) (G : Nat → Option Nat), tys[0]? = some (cI, .int) ∧ tys[2]? = some (cA, .array .int) ∧ (∀ j, j < 4 → G j = some (base + cz s + 1 + j)) ∧ wl u = wl s ++ ([(base + cz s, .inl (cA, 4, .inr (.inr (.inr (.inr G)))))] ++ (List.range 4).map (fun j => ((base + cz s + 1 + j, .inl (cI, 40, .inl (fun _ => 0))) : Nat × va_E)))
def xm_Lw (Zk : Prop) (I : xm_I σ R) (adr : R → Nat) (wl : σ → va_W) (Lv : σ → R → Prop) (Gd : σ → Prop) (cz : σ → Nat) (tys : List (ClassId × FieldType)) (base b0 L0 : Nat) (xs0 : Nat → Int32) : Prop :=
  (∀ s, Gd s → va_D (fun q => base ≤ q) (wl s)) ∧ xm_lgf I adr wl Lv Gd ∧ xm_lpf I adr wl Lv Gd cz ∧ xm_lal I adr wl Lv Gd tys b0 L0 xs0 ∧ xm_las I adr wl Lv Gd cz tys ∧ xm_lrl I adr wl Lv Gd tys ∧ xm_lrs I adr wl Lv Gd cz tys ∧ xm_lln I adr wl Lv Gd tys b0 L0 ∧ xm_loc I adr wl Lv Gd ∧ xm_lnw Zk I adr wl Lv Gd cz base ∧ xm_lna Zk I adr wl Lv Gd cz tys base ∧ xm_lnr Zk I adr wl Lv Gd cz tys base ∧ xm_lnm Zk I adr wl Lv Gd cz tys base ∧ xm_lcp Zk I adr wl Lv Gd cz tys
/-- the tables and the script, as a method finds them -/
def xm_Wo (D : va_G) (tys : List (ClassId × FieldType)) (base b0 L0 : Nat) (xs0 : Nat → Int32) (U : State) : Prop := va_K D xt_cs tys U ∧ va_X b0 L0 xs0 U U.heap ∧ b0 < base ∧ base ≤ U.heap.size ∧ ∀ w ∈ xt_nw, va_Nw w U
/-- the heap holds the memory -/
def xm_Rp (Zk : Prop) (wl : σ → va_W) (Gd : σ → Prop) (cz : σ → Nat) (D : va_G) (base : Nat) (s : σ) (H : Heap) : Prop := Gd s ∧ (Zk → H.size = base + cz s) ∧ va_P D xt_cs (wl s) H
/-- the frame of method y -/
def xm_Fx (y : Nat) (p : Program) (s : State) (m : MethodId) (args : Array Value) (meth : Method) (c : Code) : Prop := p.tables.exec = Jvm.exec ∧ c.code = xt_bc y ∧ c.maxLocals = xt_ml y ∧ s.vm.findClass (xt_ow y) = some m.cls ∧ (∀ w ∈ xt_G, w.before args s = true) ∧ (xt_ini y = true → meth.name = "<init>")
end XW
section XS
variable {σ R : Type} {Zk : Prop} {I : xm_I σ R} {adr : R → Nat} {wl : σ → va_W} {Lv : σ → R → Prop} {Gd : σ → Prop} {cz : σ → Nat} {D : va_G} {tys : List (ClassId × FieldType)} {base b0 L0 : Nat} {xs0 : Nat → Int32}
variable {p : Program} {l : Launch} {e : Env} {Rm : Room} {s0 : State} {m : MethodId} {args : Array Value} {below : List Frame} {meth : Method} {c : Code} {H : Heap} {locs : List Loc} {cells slots : Nat} {Q : State → Prop}
variable {y pc : Nat} {ls : xm_L R} {st : xm_S R} {s : σ} {arr : Array Slot}
set_option maxHeartbeats 4000000 in
set_option maxRecDepth 100000 in
/-- a step that goes on -/
theorem xm_s1 (Lw : xm_Lw Zk I adr wl Lv Gd cz tys base b0 L0 xs0) (hF : xm_Fx y p s0 m args meth c) (hW : xm_Wo D tys base b0 L0 xs0 s0) (hRp : xm_Rp Zk wl Gd cz D base s H) (hS : va_S (fun q => base ≤ q) s0.heap H locs) (hl : xm_lh adr (xt_ml y) arr ls) (hvl : xm_vl Lv s ls) (hvs : xm_vs Lv s st)
    (hfr : 1 ≤ Rm.frames) (hlo : 40 ≤ Rm.locals)
    {q : Nat × xm_L R × xm_S R × σ × Nat × Nat} (hst : xm_st I y pc ls st s = .inl q) (hc : cells + q.2.2.2.2.1 ≤ Rm.cells) (hs : slots + q.2.2.2.2.2 ≤ Rm.slots)
    (kk : (∀ r, Lv s r → Lv q.2.2.2.1 r) → ∀ (H' : Heap) (locs' : List Loc) (arr' : Array Slot), xm_Rp Zk wl Gd cz D base q.2.2.2.1 H' → va_S (fun q => base ≤ q) s0.heap H' locs' → xm_lh adr (xt_ml y) arr' q.2.1 → xm_vl Lv q.2.2.2.1 q.2.1 → xm_vs Lv q.2.2.2.1 q.2.2.1 → W p l e Rm s0 m args below meth c H' locs' (cells + q.2.2.2.2.1) (slots + q.2.2.2.2.2) Q (F0 m q.1 arr' (q.2.2.1.map (xm_e adr)))) :
    W p l e Rm s0 m args below meth c H locs cells slots Q (F0 m pc arr (st.map (xm_e adr))) := by
  obtain ⟨hx, hb, hml, hown, hts, hini⟩ := hF
  obtain ⟨hK, hX, hbb, hbs, hN⟩ := hW
  obtain ⟨hG, hz, hP⟩ := hRp
  obtain ⟨lD, lgf, lpf, lal, las, lrl, lrs, lln, loc, lnw, lna, lnr, lnm, lcp⟩ := Lw
  have hD := lD s hG
  have hA : ∀ q, s0.heap.size ≤ q → base ≤ q := fun q h => Nat.le_trans hbs h
  have hz0 := xm_lz q
  unfold xm_st at hst
  cases hat : xt_at y pc with
  | none => rw [hat] at hst; exact absurd hst.symm hz0
  | some w =>
    obtain ⟨i, ln, ra, rb, rv⟩ := w
    have hck := xt_ok hat
    rw [hat] at hst
    dsimp only at hst
    cases i
    all_goals try dsimp only at hst
    case iconst n =>
      simp only [xt_ck, Bool.and_eq_true, decide_eq_true_eq] at hck
      obtain ⟨hd, rfl, hv⟩ := hck
      cases hst
      exact lv_iconst hx hb hd hv (kk (fun _ h => h) H locs arr ⟨hG, hz, hP⟩ hS hl hvl (xm_vs_c (xm_vv_i _) hvs))
    case bipush n =>
      simp only [xt_ck, Bool.and_eq_true, decide_eq_true_eq] at hck
      obtain ⟨hd, rfl, hv⟩ := hck
      cases hst
      exact lv_bipush hx hb hd hv (kk (fun _ h => h) H locs arr ⟨hG, hz, hP⟩ hS hl hvl (xm_vs_c (xm_vv_i _) hvs))
    case sipush n =>
      simp only [xt_ck, Bool.and_eq_true, decide_eq_true_eq] at hck
      obtain ⟨hd, rfl, hv⟩ := hck
      cases hst
      exact lv_sipush hx hb hd hv (kk (fun _ h => h) H locs arr ⟨hG, hz, hP⟩ hS hl hvl (xm_vs_c (xm_vv_i _) hvs))
    case ldc n =>
      simp only [xt_ck, Bool.and_eq_true, decide_eq_true_eq] at hck
      obtain ⟨hd, rfl, hv⟩ := hck
      cases hst
      exact lv_ldc hx hb hown (hts _ (xt_kt_ok hv)) hd (kk (fun _ h => h) H locs arr ⟨hG, hz, hP⟩ hS hl hvl (xm_vs_c (xm_vv_i _) hvs))
    case iload_n n =>
      simp only [xt_ck, Bool.and_eq_true, decide_eq_true_eq] at hck
      obtain ⟨hd, rfl, hv, hv2⟩ := hck
      obtain ⟨x, hi, hst⟩ := xm_li_i hst hz0
      cases hst
      exact lv_iload_n hx hb hd hv (xm_lh_at hl hi) (kk (fun _ h => h) H locs arr ⟨hG, hz, hP⟩ hS hl hvl (xm_vs_c (xm_vv_i _) hvs))
    case iload n =>
      simp only [xt_ck, Bool.and_eq_true, decide_eq_true_eq] at hck
      obtain ⟨hd, rfl, rfl, hv2⟩ := hck
      obtain ⟨x, hi, hst⟩ := xm_li_i hst hz0
      cases hst
      exact lv_iload hx hb hd (xm_lh_at hl hi) (kk (fun _ h => h) H locs arr ⟨hG, hz, hP⟩ hS hl hvl (xm_vs_c (xm_vv_i _) hvs))
    case aload_n n =>
      simp only [xt_ck, Bool.and_eq_true, decide_eq_true_eq] at hck
      obtain ⟨hd, rfl, hv, hv2⟩ := hck
      obtain ⟨x, hi, hst⟩ := xm_lr_i hst hz0
      cases hst
      exact lv_aload_n hx hb hd hv (xm_lh_at hl hi) (kk (fun _ h => h) H locs arr ⟨hG, hz, hP⟩ hS hl hvl (xm_vs_c (hvl _ _ hi) hvs))
    case aload n =>
      simp only [xt_ck, Bool.and_eq_true, decide_eq_true_eq] at hck
      obtain ⟨hd, rfl, rfl, hv2⟩ := hck
      obtain ⟨x, hi, hst⟩ := xm_lr_i hst hz0
      cases hst
      exact lv_aload hx hb hd (xm_lh_at hl hi) (kk (fun _ h => h) H locs arr ⟨hG, hz, hP⟩ hS hl hvl (xm_vs_c (hvl _ _ hi) hvs))
    case istore_n n =>
      simp only [xt_ck, Bool.and_eq_true, decide_eq_true_eq] at hck
      obtain ⟨hd, rfl, hv, hv2⟩ := hck
      obtain ⟨x, r, rfl, hst⟩ := xm_i1_i hst hz0
      cases hst
      exact lv_istore_n hx hb hd hv hl.1 hv2 rfl (fun arr' h' => kk (fun _ h => h) H locs arr' ⟨hG, hz, hP⟩ hS (xm_lh_set (v := .inl x) hl hv2 h') (xm_vl_s hvl (xm_vv_i _) _) (xm_vs_t hvs))
    case istore n =>
      simp only [xt_ck, Bool.and_eq_true, decide_eq_true_eq] at hck
      obtain ⟨hd, rfl, rfl, hv2⟩ := hck
      obtain ⟨x, r, rfl, hst⟩ := xm_i1_i hst hz0
      cases hst
      exact lv_istore hx hb hd hl.1 hv2 rfl (fun arr' h' => kk (fun _ h => h) H locs arr' ⟨hG, hz, hP⟩ hS (xm_lh_set (v := .inl x) hl hv2 h') (xm_vl_s hvl (xm_vv_i _) _) (xm_vs_t hvs))
    case astore_n n =>
      simp only [xt_ck, Bool.and_eq_true, decide_eq_true_eq] at hck
      obtain ⟨hd, rfl, hv, hv2⟩ := hck
      obtain ⟨x, r, rfl, hst⟩ := xm_r1_i hst hz0
      cases hst
      exact lv_astore_n hx hb hd hv hl.1 hv2 rfl (fun arr' h' => kk (fun _ h => h) H locs arr' ⟨hG, hz, hP⟩ hS (xm_lh_set (v := .inr (some x)) hl hv2 h') (xm_vl_s hvl (xm_vs_h hvs) _) (xm_vs_t hvs))
    case astore n =>
      simp only [xt_ck, Bool.and_eq_true, decide_eq_true_eq] at hck
      obtain ⟨hd, rfl, rfl, hv2⟩ := hck
      obtain ⟨x, r, rfl, hst⟩ := xm_r1_i hst hz0
      cases hst
      exact lv_astore hx hb hd hl.1 hv2 rfl (fun arr' h' => kk (fun _ h => h) H locs arr' ⟨hG, hz, hP⟩ hS (xm_lh_set (v := .inr (some x)) hl hv2 h') (xm_vl_s hvl (xm_vs_h hvs) _) (xm_vs_t hvs))
    case iinc n z =>
      simp only [xt_ck, Bool.and_eq_true, decide_eq_true_eq] at hck
      obtain ⟨hd, rfl, rfl, hv2, hv3⟩ := hck
      obtain ⟨x, hi, hst⟩ := xm_li_i hst hz0
      cases hst
      obtain ⟨k, hk⟩ := List.getElem?_of_mem (xm_lo_mem (adr := adr).mpr ⟨_, hi, rfl⟩)
      exact lv_iinc hx hb hd hl.1 hk (by rw [hv3]) hv2 rfl (fun arr' h' => kk (fun _ h => h) H locs arr' ⟨hG, hz, hP⟩ hS (xm_lh_set (v := .inl (x + rv)) hl hv2 h') (xm_vl_s hvl (xm_vv_i _) _) hvs)
    case iadd =>
      simp only [xt_ck, Bool.and_eq_true, decide_eq_true_eq] at hck
      obtain ⟨hd, rfl⟩ := hck
      obtain ⟨x, z, r, rfl, hst⟩ := xm_i2_i hst hz0
      cases hst
      exact lv_iadd hx hb hd (kk (fun _ h => h) H locs arr ⟨hG, hz, hP⟩ hS hl hvl (xm_vs_c (xm_vv_i _) (xm_vs_t (xm_vs_t hvs))))
    case isub =>
      simp only [xt_ck, Bool.and_eq_true, decide_eq_true_eq] at hck
      obtain ⟨hd, rfl⟩ := hck
      obtain ⟨x, z, r, rfl, hst⟩ := xm_i2_i hst hz0
      cases hst
      exact lv_isub hx hb hd (kk (fun _ h => h) H locs arr ⟨hG, hz, hP⟩ hS hl hvl (xm_vs_c (xm_vv_i _) (xm_vs_t (xm_vs_t hvs))))
    case imul =>
      simp only [xt_ck, Bool.and_eq_true, decide_eq_true_eq] at hck
      obtain ⟨hd, rfl⟩ := hck
      obtain ⟨x, z, r, rfl, hst⟩ := xm_i2_i hst hz0
      cases hst
      exact lv_imul hx hb hd (kk (fun _ h => h) H locs arr ⟨hG, hz, hP⟩ hS hl hvl (xm_vs_c (xm_vv_i _) (xm_vs_t (xm_vs_t hvs))))
    case iand =>
      simp only [xt_ck, Bool.and_eq_true, decide_eq_true_eq] at hck
      obtain ⟨hd, rfl⟩ := hck
      obtain ⟨x, z, r, rfl, hst⟩ := xm_i2_i hst hz0
      cases hst
      exact lv_iand hx hb hd (kk (fun _ h => h) H locs arr ⟨hG, hz, hP⟩ hS hl hvl (xm_vs_c (xm_vv_i _) (xm_vs_t (xm_vs_t hvs))))
    case ixor =>
      simp only [xt_ck, Bool.and_eq_true, decide_eq_true_eq] at hck
      obtain ⟨hd, rfl⟩ := hck
      obtain ⟨x, z, r, rfl, hst⟩ := xm_i2_i hst hz0
      cases hst
      exact lv_ixor hx hb hd (kk (fun _ h => h) H locs arr ⟨hG, hz, hP⟩ hS hl hvl (xm_vs_c (xm_vv_i _) (xm_vs_t (xm_vs_t hvs))))
    case iushr =>
      simp only [xt_ck, Bool.and_eq_true, decide_eq_true_eq] at hck
      obtain ⟨hd, rfl⟩ := hck
      obtain ⟨x, z, r, rfl, hst⟩ := xm_i2_i hst hz0
      cases hst
      exact lv_iushr hx hb hd rfl (kk (fun _ h => h) H locs arr ⟨hG, hz, hP⟩ hS hl hvl (xm_vs_c (xm_vv_i _) (xm_vs_t (xm_vs_t hvs))))
    case irem =>
      simp only [xt_ck, Bool.and_eq_true, decide_eq_true_eq] at hck
      obtain ⟨hd, rfl⟩ := hck
      obtain ⟨x, z, r, rfl, hs2⟩ := xm_i2_i hst hz0
      clear hst
      have hst := hs2
      clear hs2
      try dsimp only at hst
      split at hst
      · exact absurd hst.symm hz0
      · rename_i hne
        cases hst
        exact lv_irem hx hb hd hne (kk (fun _ h => h) H locs arr ⟨hG, hz, hP⟩ hS hl hvl (xm_vs_c (xm_vv_i _) (xm_vs_t (xm_vs_t hvs))))
    case dup =>
      simp only [xt_ck, Bool.and_eq_true, decide_eq_true_eq] at hck
      obtain ⟨hd, rfl⟩ := hck
      obtain ⟨v, r, rfl, hst⟩ := xm_v1_i hst hz0
      cases hst
      exact lv_dup hx hb hd (xm_e_cat _ _) (kk (fun _ h => h) H locs arr ⟨hG, hz, hP⟩ hS hl hvl (xm_vs_c (xm_vs_h hvs) hvs))
    case dup2 =>
      simp only [xt_ck, Bool.and_eq_true, decide_eq_true_eq] at hck
      obtain ⟨hd, rfl⟩ := hck
      obtain ⟨v, w, r, rfl, hst⟩ := xm_v2_i hst hz0
      cases hst
      exact lv_dup2_11 hx hb hd (xm_e_cat _ _) (xm_e_cat _ _) (kk (fun _ h => h) H locs arr ⟨hG, hz, hP⟩ hS hl hvl (xm_vs_c (xm_vs_h hvs) (xm_vs_c (xm_vs_h (xm_vs_t hvs)) hvs)))
    case pop =>
      simp only [xt_ck, Bool.and_eq_true, decide_eq_true_eq] at hck
      obtain ⟨hd, rfl⟩ := hck
      obtain ⟨v, r, rfl, hst⟩ := xm_v1_i hst hz0
      cases hst
      exact lv_pop hx hb hd (xm_e_cat _ _) (kk (fun _ h => h) H locs arr ⟨hG, hz, hP⟩ hS hl hvl (xm_vs_t hvs))
    case goto o =>
      simp only [xt_ck, Bool.and_eq_true, decide_eq_true_eq] at hck
      obtain ⟨hd, rfl, ht⟩ := hck
      cases hst
      exact lv_goto hx hb hd ht (kk (fun _ h => h) H locs arr ⟨hG, hz, hP⟩ hS hl hvl hvs)
    case ifCond k o =>
      simp only [xt_ck, Bool.and_eq_true, decide_eq_true_eq] at hck
      obtain ⟨hd, rfl, ht⟩ := hck
      obtain ⟨x, r, rfl, hst⟩ := xm_i1_i hst hz0
      cases hst
      have kk := kk (fun _ h => h) H locs arr ⟨hG, hz, hP⟩ hS hl hvl (xm_vs_t hvs)
      dsimp only at kk
      cases k
      · exact lv_if_eq hx hb hd ht (fun h => by rw [show xm_c0 .eq x ra (pc + 3) = ra from if_pos h] at kk; exact kk) (fun h => by rw [show xm_c0 .eq x ra (pc + 3) = pc + 3 from if_neg h] at kk; exact kk)
      · exact lv_if_ne hx hb hd ht (fun h => by rw [show xm_c0 .ne x ra (pc + 3) = ra from if_neg h] at kk; exact kk) (fun h => by rw [show xm_c0 .ne x ra (pc + 3) = pc + 3 from if_pos h] at kk; exact kk)
      · exact lv_if_lt hx hb hd ht (fun h => by rw [show xm_c0 .lt x ra (pc + 3) = ra from if_pos h] at kk; exact kk) (fun h => by rw [show xm_c0 .lt x ra (pc + 3) = pc + 3 from if_neg h] at kk; exact kk)
      · exact lv_if_ge hx hb hd ht (fun h => by rw [show xm_c0 .ge x ra (pc + 3) = ra from if_pos h] at kk; exact kk) (fun h => by rw [show xm_c0 .ge x ra (pc + 3) = pc + 3 from if_neg h] at kk; exact kk)
      · exact lv_if_gt hx hb hd ht (fun h => by rw [show xm_c0 .gt x ra (pc + 3) = ra from if_pos h] at kk; exact kk) (fun h => by rw [show xm_c0 .gt x ra (pc + 3) = pc + 3 from if_neg h] at kk; exact kk)
      · exact lv_if_le hx hb hd ht (fun h => by rw [show xm_c0 .le x ra (pc + 3) = ra from if_pos h] at kk; exact kk) (fun h => by rw [show xm_c0 .le x ra (pc + 3) = pc + 3 from if_neg h] at kk; exact kk)
    case if_icmp k o =>
      simp only [xt_ck, Bool.and_eq_true, decide_eq_true_eq] at hck
      obtain ⟨hd, rfl, ht⟩ := hck
      obtain ⟨x, z, r, rfl, hst⟩ := xm_i2_i hst hz0
      cases hst
      have kk := kk (fun _ h => h) H locs arr ⟨hG, hz, hP⟩ hS hl hvl (xm_vs_t (xm_vs_t hvs))
      dsimp only at kk
      cases k
      · exact lv_icmp_eq hx hb hd ht (fun h => by rw [show xm_c2 .eq x z ra (pc + 3) = ra from if_pos h] at kk; exact kk) (fun h => by rw [show xm_c2 .eq x z ra (pc + 3) = pc + 3 from if_neg h] at kk; exact kk)
      · exact lv_icmp_ne hx hb hd ht (fun h => by rw [show xm_c2 .ne x z ra (pc + 3) = ra from if_neg h] at kk; exact kk) (fun h => by rw [show xm_c2 .ne x z ra (pc + 3) = pc + 3 from if_pos h] at kk; exact kk)
      · exact lv_icmp_lt hx hb hd ht (fun h => by rw [show xm_c2 .lt x z ra (pc + 3) = ra from if_pos h] at kk; exact kk) (fun h => by rw [show xm_c2 .lt x z ra (pc + 3) = pc + 3 from if_neg h] at kk; exact kk)
      · exact lv_icmp_ge hx hb hd ht (fun h => by rw [show xm_c2 .ge x z ra (pc + 3) = ra from if_pos h] at kk; exact kk) (fun h => by rw [show xm_c2 .ge x z ra (pc + 3) = pc + 3 from if_neg h] at kk; exact kk)
      · exact lv_icmp_gt hx hb hd ht (fun h => by rw [show xm_c2 .gt x z ra (pc + 3) = ra from if_pos h] at kk; exact kk) (fun h => by rw [show xm_c2 .gt x z ra (pc + 3) = pc + 3 from if_neg h] at kk; exact kk)
      · exact lv_icmp_le hx hb hd ht (fun h => by rw [show xm_c2 .le x z ra (pc + 3) = ra from if_pos h] at kk; exact kk) (fun h => by rw [show xm_c2 .le x z ra (pc + 3) = pc + 3 from if_neg h] at kk; exact kk)
    case tableswitch df lo hi offs =>
      simp only [xt_ck, Bool.and_eq_true, decide_eq_true_eq] at hck
      obtain ⟨hd, hdf, hof, hsz⟩ := hck
      obtain ⟨x, r, rfl, hst⟩ := xm_i1_i hst hz0
      cases hst
      have kk := kk (fun _ h => h) H locs arr ⟨hG, hz, hP⟩ hS hl hvl (xm_vs_t hvs)
      by_cases hin : x.toInt < lo ∨ hi < x.toInt
      · simp only [if_pos hin] at kk
        exact lv_tableOut hx hb hd hin hdf kk
      · simp only [if_neg hin] at kk
        have h1 : ¬ x.toInt < lo := fun h => hin (Or.inl h)
        have h2 : ¬ hi < x.toInt := fun h => hin (Or.inr h)
        have hlt : (x.toInt - lo).toNat < offs.size := by omega
        have ho : offs[(x.toInt - lo).toNat]? = some offs[(x.toInt - lo).toNat] := Array.getElem?_eq_getElem hlt
        have ho2 : offs.toList[(x.toInt - lo).toNat]? = some offs[(x.toInt - lo).toNat] := by rw [Array.getElem?_toList]; exact ho
        rw [ho2, Option.getD_some] at kk
        have hp0 := List.all_eq_true.mp hof _ (List.mem_of_getElem? ho2)
        simp only [decide_eq_true_eq] at hp0
        exact lv_tableIn hx hb hd h1 h2 ho (Int.toNat_of_nonneg hp0).symm kk
    case getfield n =>
      simp only [xt_ck, Bool.and_eq_true, decide_eq_true_eq] at hck
      obtain ⟨hd, rfl, hfl⟩ := hck
      obtain ⟨o, r, rfl, hst⟩ := xm_r1_i hst hz0
      obtain ⟨v, hv, hst⟩ := xm_o_i hst hz0
      cases hst
      obtain ⟨C, T, N, hcs, hk, hdc, hlk, hfn⟩ := xt_fl_ok hfl
      obtain ⟨hlay, hty, hnm⟩ := xt_cf hcs
      obtain ⟨hvv, q0, fs, he, hfk⟩ := lgf s o ra rb v hG (xm_vv_u (xm_vs_h hvs)) hv
      exact va_get (ref := C) hx hb hts (fun w h => hlay w h) hown hK hP q0 he hcs rb hk (hts _ hlk) (fun x h => by rw [hdc] at h; exact h) hfk hd (kk (fun _ h => h) H locs arr ⟨hG, hz, hP⟩ hS hl hvl (xm_vs_c hvv (xm_vs_t hvs)))
    case putfield n =>
      simp only [xt_ck, Bool.and_eq_true, decide_eq_true_eq] at hck
      obtain ⟨hd, rfl, hfl, hfo⟩ := hck
      obtain ⟨o, v, r, rfl, hst⟩ := xm_rv_i hst hz0
      obtain ⟨u, hu, hst⟩ := xm_o_i hst hz0
      cases hst
      obtain ⟨C, T, N, hcs, hk, hdc, hlk, hfn⟩ := xt_fl_ok hfl
      obtain ⟨hlay, hty, hnm⟩ := xt_cf hcs
      obtain ⟨⟨hG', hz', hmo⟩, ⟨hna, hfi⟩, q0, fs, he, hlt, hwl⟩ := lpf s o ra rb v u hG (xm_vv_u (xm_vs_h (xm_vs_t hvs))) (xm_vs_h hvs) hu
      exact xm_put hx hb hts (fun w h => hlay w h) (xt_ft ra) hty hnm hown hK hP hD hS q0 he hcs rb hk (hts _ hlk) hdc (xt_fo hfo hini hcs) hna hfi hlt hd (fun H1 locs1 hP1 hS1 hsz => kk hmo H1 locs1 arr ⟨hG', fun hk => by rw [hsz, hz hk, hz']; rfl, by rw [hwl]; exact hP1⟩ hS1 hl (xm_vl_m hmo hvl) (xm_vs_m hmo (xm_vs_t (xm_vs_t hvs))))
    case iaload =>
      simp only [xt_ck, Bool.and_eq_true, decide_eq_true_eq] at hck
      obtain ⟨hd, rfl⟩ := hck
      obtain ⟨o, i, r, rfl, hst⟩ := xm_ri_i hst hz0
      obtain ⟨x, hx', hst⟩ := xm_o_i hst hz0
      cases hst
      have kk := kk (fun _ h => h) H locs arr ⟨hG, hz, hP⟩ hS hl hvl (xm_vs_c (xm_vv_i x) (xm_vs_t (xm_vs_t hvs)))
      rcases lal s 0 o i x (by decide) hG (xm_vv_u (xm_vs_h (xm_vs_t hvs))) hx' with ⟨q0, cA, n, f, ha, ht, hin, rfl⟩ | ⟨-, hb0, hin, rfl⟩
      · exact va_iald hx hb hK hP q0 0 ha ht hin hd kk
      · have hbl : b0 < s0.heap.size := Nat.lt_of_lt_of_le hbb hbs
        have g := va_sld (A := fun q => base ≤ q) (rest := r.map (xm_e adr)) (ls := arr) hx hb hX hbl (Nat.not_le.mpr hbb) hS hin hd kk
        rw [← hb0] at g
        exact g
    case baload =>
      simp only [xt_ck, Bool.and_eq_true, decide_eq_true_eq] at hck
      obtain ⟨hd, rfl⟩ := hck
      obtain ⟨o, i, r, rfl, hst⟩ := xm_ri_i hst hz0
      obtain ⟨x, hx', hst⟩ := xm_o_i hst hz0
      cases hst
      have kk := kk (fun _ h => h) H locs arr ⟨hG, hz, hP⟩ hS hl hvl (xm_vs_c (xm_vv_i x) (xm_vs_t (xm_vs_t hvs)))
      rcases lal s 1 o i x (by decide) hG (xm_vv_u (xm_vs_h (xm_vs_t hvs))) hx' with ⟨q0, cA, n, f, ha, ht, hin, rfl⟩ | ⟨h0, -⟩
      · exact va_zald hx hb hK hP q0 1 ha ht hin hd kk
      · cases h0
    case iastore =>
      simp only [xt_ck, Bool.and_eq_true, decide_eq_true_eq] at hck
      obtain ⟨hd, rfl⟩ := hck
      obtain ⟨o, i, x, r, rfl, hst⟩ := xm_rii_i hst hz0
      obtain ⟨u, hu, hst⟩ := xm_o_i hst hz0
      cases hst
      obtain ⟨⟨hG', hz', hmo⟩, q0, cA, n, f, ha, ht, hin, hwl⟩ := las s 0 o i x u (by decide) hG (xm_vv_u (xm_vs_h (xm_vs_t (xm_vs_t hvs)))) hu
      exact xm_iast hx hb hK hP hD hS q0 0 ha ht hin hd (fun H1 locs1 hP1 hS1 hsz => kk hmo H1 locs1 arr ⟨hG', fun hk => by rw [hsz, hz hk, hz']; rfl, by rw [hwl]; exact hP1⟩ hS1 hl (xm_vl_m hmo hvl) (xm_vs_m hmo (xm_vs_t (xm_vs_t (xm_vs_t hvs)))))
    case bastore =>
      simp only [xt_ck, Bool.and_eq_true, decide_eq_true_eq] at hck
      obtain ⟨hd, rfl⟩ := hck
      obtain ⟨o, i, x, r, rfl, hst⟩ := xm_rii_i hst hz0
      obtain ⟨u, hu, hst⟩ := xm_o_i hst hz0
      cases hst
      obtain ⟨⟨hG', hz', hmo⟩, q0, cA, n, f, ha, ht, hin, hwl⟩ := las s 1 o i x u (by decide) hG (xm_vv_u (xm_vs_h (xm_vs_t (xm_vs_t hvs)))) hu
      exact xm_zast hx hb hK hP hD hS q0 1 ha ht hin hd (fun H1 locs1 hP1 hS1 hsz => kk hmo H1 locs1 arr ⟨hG', fun hk => by rw [hsz, hz hk, hz']; rfl, by rw [hwl]; exact hP1⟩ hS1 hl (xm_vl_m hmo hvl) (xm_vs_m hmo (xm_vs_t (xm_vs_t (xm_vs_t hvs)))))
    case aaload =>
      simp only [xt_ck, Bool.and_eq_true, decide_eq_true_eq] at hck
      obtain ⟨hd, rfl⟩ := hck
      obtain ⟨o, i, r, rfl, hst⟩ := xm_ri_i hst hz0
      obtain ⟨v, hv, hst⟩ := xm_o_i hst hz0
      cases hst
      obtain ⟨hvv, q0, t0, cA, ty, n, f, ha, ht, hrf, hin, hfv⟩ := lrl s o i v hG (xm_vv_u (xm_vs_h (xm_vs_t hvs))) hv
      have hlt : i.toNatClampNeg < n := Nat.not_le.mp fun q => hin (Or.inr q)
      exact W.aald (v := xm_e adr v) (ty := ty) hx hb (hP q0 _ ha) ((hK.2 t0 _ ht).1 n (fun j => va_rf (f j))) hrf (fun q => by cases q) (by show ¬ (i < 0 ∨ (arrV _ _ _).slots.size ≤ _); rw [arrV_size]; exact hin) (by show (arrV _ _ _).slots[_]? = _; rw [arrV_read _ _ hlt, hfv]) rfl rfl hd (kk (fun _ h => h) H locs arr ⟨hG, hz, hP⟩ hS hl hvl (xm_vs_c hvv (xm_vs_t (xm_vs_t hvs))))
    case aastore =>
      simp only [xt_ck, Bool.and_eq_true, decide_eq_true_eq] at hck
      obtain ⟨hd, rfl⟩ := hck
      obtain ⟨o, i, w, r, rfl, hst⟩ := xm_rir_i hst hz0
      obtain ⟨u, hu, hst⟩ := xm_o_i hst hz0
      cases hst
      obtain ⟨⟨hG', hz', hmo⟩, q0, t0, qk, ci, cA, rw', n, vs, f, ha, ht, hv, hcs, hin, hwl⟩ := lrs s o i w u hG (xm_vv_u (xm_vs_h (xm_vs_t (xm_vs_t hvs)))) (xm_vv_u (xm_vs_h hvs)) hu
      exact xm_aast hx hb hK hP hD hS q0 t0 qk ci ha ht hv hcs hin hd (fun H1 locs1 hP1 hS1 hsz => kk hmo H1 locs1 arr ⟨hG', fun hk => by rw [hsz, hz hk, hz']; rfl, by rw [hwl]; exact hP1⟩ hS1 hl (xm_vl_m hmo hvl) (xm_vs_m hmo (xm_vs_t (xm_vs_t (xm_vs_t hvs)))))
    case arraylength =>
      simp only [xt_ck, Bool.and_eq_true, decide_eq_true_eq] at hck
      obtain ⟨hd, rfl⟩ := hck
      obtain ⟨o, r, rfl, hst⟩ := xm_r1_i hst hz0
      obtain ⟨n, hn, hst⟩ := xm_o_i hst hz0
      cases hst
      have kk := kk (fun _ h => h) H locs arr ⟨hG, hz, hP⟩ hS hl hvl (xm_vs_c (xm_vv_i (Int32.ofNat n)) (xm_vs_t hvs))
      rcases lln s o n hG (xm_vv_u (xm_vs_h hvs)) hn with ⟨q0, t0, cA, x, ty, ha, ht, rfl⟩ | ⟨hb0, rfl⟩
      · exact va_alen hx hb hK hP q0 t0 ha ht rfl hd kk
      · have hbl : b0 < s0.heap.size := Nat.lt_of_lt_of_le hbb hbs
        have g := va_slen (A := fun q => base ≤ q) (rest := r.map (xm_e adr)) (ls := arr) hx hb hX hbl (Nat.not_le.mpr hbb) hS hd kk
        rw [← hb0] at g
        exact g
    case new n =>
      simp only [xt_ck, Bool.and_eq_true, decide_eq_true_eq] at hck
      obtain ⟨hd, rfl, hcl⟩ := hck
      obtain ⟨⟨o, u⟩, hu, hst⟩ := xm_o_i hst hz0
      cases hst
      obtain ⟨hZ, ⟨hG', hz', hmo⟩, hlv, hadr, fs, hwl, hdf⟩ := lnw s ra o u hG hu
      obtain ⟨C, T, hcs, hlk, hin1, hin2⟩ := xt_cl_ok hcl
      obtain ⟨hlay, hty, hnm⟩ := xt_cf hcs
      have hKn := hK.1 ra _ hcs
      refine W.newcK hx hb hown (hts _ hlk) (hts _ hin1) (hts _ hin2) rfl hd hc hs hKn.2.1 (hz hZ) fun H1 kC hkC e1 z1 o1 => ?_
      obtain ⟨hP1, hS1⟩ := xm_push (en := .inr (ra, fs)) hP hS (hz hZ) z1 o1 ⟨_, hcs, (u_born (xt_ft ra) hts (fun w h => hlay w h) hKn hkC e1 hty).to (hdf _ hcs)⟩
      have g := kk hmo H1 locs arr ⟨hG', fun _ => by rw [z1, hz']; rfl, by rw [hwl, hadr]; exact hP1⟩ hS1 hl (xm_vl_m hmo hvl) (xm_vs_c (xm_vv_r hlv) (xm_vs_m hmo hvs))
      have hh : xm_e adr (.inr (some o)) = .ref (base + cz s) := by show Value.ref (adr o) = _; rw [hadr]
      rw [List.map_cons, hh] at g
      exact g
    case newarray n =>
      simp only [xt_ck, Bool.and_eq_true, decide_eq_true_eq] at hck
      obtain ⟨hd, rfl, hra, haty⟩ := hck
      obtain ⟨n', r, rfl, hs2⟩ := xm_i1_i hst hz0
      clear hst
      have hst := hs2
      clear hs2
      try dsimp only at hst
      split at hst
      · exact absurd hst.symm hz0
      · rename_i hneg
        obtain ⟨⟨o, u⟩, hu, hst⟩ := xm_o_i hst hz0
        cases hst
        obtain ⟨hZ, ⟨hG', hz', hmo⟩, hlv, hadr, hbig, cA, ht, hwl⟩ := lna s ra _ o u hra hG hu
        have hbytes : n'.toNatClampNeg * componentBytes (newarray.typeOf n) ≤ 536870912 := by
          rw [haty]
          unfold xt_tt
          split
          · show _ * 4 ≤ _; omega
          · show _ * 1 ≤ _; omega
        refine va_newaK hx hb (hts _ (xt_ar_ok hra haty)) rfl hd rfl hneg rfl hbytes hc hs (hz hZ) fun H1 cA' e1 z1 o1 hAr hNm => ?_
        have hcA : cA' = cA := by
          have h2 := (hK.2 ra _ ht).2
          rw [haty] at hNm
          have h3 : s0.vm.findClass ("[" ++ (xt_tt ra).toString) = some cA := by
            rcases (show ra = 0 ∨ ra = 1 by omega) with rfl | rfl
            · exact h2
            · exact h2
          exact Option.some.inj (hNm.symm.trans h3)
        subst hcA
        have hdv : (fun _ : Nat => defaultValue (newarray.typeOf n)) = (fun _ => Value.int 0) := by
          rw [haty]
          rcases (show ra = 0 ∨ ra = 1 by omega) with rfl | rfl <;> rfl
        rw [hdv] at e1
        obtain ⟨hP1, hS1⟩ := xm_push (en := .inl (cA', n'.toNatClampNeg, .inl (fun _ => 0))) hP hS (hz hZ) z1 o1 e1
        have g := kk hmo H1 locs arr ⟨hG', fun _ => by rw [z1, hz']; rfl, by rw [hwl, hadr]; exact hP1⟩ hS1 hl (xm_vl_m hmo hvl) (xm_vs_c (xm_vv_r hlv) (xm_vs_m hmo (xm_vs_t hvs)))
        have hh : xm_e adr (.inr (some o)) = .ref (base + cz s) := by show Value.ref (adr o) = _; rw [hadr]
        rw [List.map_cons, hh] at g
        exact g
    case anewarray n =>
      simp only [xt_ck, Bool.and_eq_true, decide_eq_true_eq] at hck
      obtain ⟨hd, rfl, hal⟩ := hck
      obtain ⟨n', r, rfl, hs2⟩ := xm_i1_i hst hz0
      clear hst
      have hst := hs2
      clear hs2
      try dsimp only at hst
      split at hst
      · exact absurd hst.symm hz0
      · rename_i hneg
        obtain ⟨⟨o, u⟩, hu, hst⟩ := xm_o_i hst hz0
        cases hst
        obtain ⟨hZ, ⟨hG', hz', hmo⟩, hlv, hadr, hbig, cA, ht, hwl⟩ := lnr s ra _ o u hG hu
        obtain ⟨hlk, hov⟩ := xt_al_ok hal
        refine W.anew hx hb hown (hts _ hlk) (va_AO.use (hN _ hov)) rfl hd rfl hneg (by omega) hc hs fun cA' kA comp f1 f2 f3 f4 => ?_
        have hcA : cA' = cA := by
          obtain ⟨kA2, comp2, g1, g2, g3, g4⟩ := (hK.2 ra _ ht).2
          exact Option.some.inj (f1.symm.trans g4)
        subst hcA
        generalize hH1 : H.push ({ cls := cA', slots := Array.replicate n'.toNatClampNeg .null, vm := .none } : Cell) = H1
        have z1 : H1.size = (base + cz s) + 1 := by rw [← hH1, Array.size_push, hz hZ]
        have e1 : H1[base + cz s]? = some (arrV cA' n'.toNatClampNeg (fun _ => .null)) := by rw [← hH1, ← hz hZ, Array.getElem?_push_size, ← arrV_new]
        have o1 : ∀ q : Nat, q < base + cz s → H1[q]? = H[q]? := fun q hq => by rw [← hH1, Array.getElem?_push, if_neg (Nat.ne_of_lt (by rw [hz hZ]; exact hq))]
        obtain ⟨hP1, hS1⟩ := xm_push (en := .inl (cA', n'.toNatClampNeg, .inr (.inr (.inr (.inr (fun _ => none)))))) hP hS (hz hZ) z1 o1 (by show H1[_]? = some (vp_cell _ _); rw [vp_cell_q]; exact e1)
        have g := kk hmo H1 locs arr ⟨hG', fun _ => by rw [z1, hz']; rfl, by rw [hwl, hadr]; exact hP1⟩ hS1 hl (xm_vl_m hmo hvl) (xm_vs_c (xm_vv_r hlv) (xm_vs_m hmo (xm_vs_t hvs)))
        have hh : xm_e adr (.inr (some o)) = .ref H.size := by show Value.ref (adr o) = _; rw [hadr, hz hZ]
        rw [List.map_cons, hh] at g
        exact g
    case invokespecial n =>
      simp only [xt_ck, Bool.and_eq_true, decide_eq_true_eq] at hck
      obtain ⟨hd, rfl, hkd, hmt⟩ := hck
      try dsimp only at hst
      split at hst
      · rename_i h1
        subst h1
        obtain ⟨o, r, rfl, hs2⟩ := xm_r1_i hst hz0
        clear hst
        have hst := hs2
        clear hs2
        try dsimp only at hst
        split at hst
        · rename_i h8
          cases hst
          obtain ⟨w1, w2, w3⟩ := (xt_mt_ok hmt).2.1 rfl
          refine W.objInit hx hb hown (hts _ w1) (hts _ w2) (hts _ w3) rfl (by rw [hml]; exact hl.1.1) rfl hd hfr ?_ (kk (fun _ h => h) H locs arr ⟨hG, hz, hP⟩ hS hl hvl (xm_vs_t hvs))
          show 2 * 0 + ((r.map (xm_e adr)).map fun v => v.category).sum + 12 ≤ _
          rw [xm_e_sum]; omega
        · exact absurd hst.symm hz0
      · try dsimp only at hst
        split at hst
        · cases hst
        · exact absurd hst.symm hz0
    case invokestatic n =>
      simp only [xt_ck, Bool.and_eq_true, decide_eq_true_eq] at hck
      obtain ⟨hd, rfl, hkd, hmt⟩ := hck
      try dsimp only at hst
      split at hst
      · rename_i h1
        subst h1
        obtain ⟨x, z, r, rfl, hs2⟩ := xm_i2_i hst hz0
        clear hst
        have hst := hs2
        clear hs2
        try dsimp only at hst
        split at hst
        · rename_i h8
          cases hst
          obtain ⟨w1, w2, w3, w4⟩ := (xt_mt_ok hmt).2.2.1 rfl
          exact va_mmax hx hb (by rw [hml, hl.1.1]) hown (hts _ w1) (hts _ w2) (hts _ w3) (hts _ w4) hfr (by rw [xm_e_sum]; omega) hc hs hd (kk (fun _ h => h) H locs arr ⟨hG, hz, hP⟩ hS hl hvl (xm_vs_c (xm_vv_i _) (xm_vs_t (xm_vs_t hvs))))
        · exact absurd hst.symm hz0
      · try dsimp only at hst
        split at hst
        · rename_i h0 h1
          subst h1
          obtain ⟨x, z, r, rfl, hs2⟩ := xm_i2_i hst hz0
          clear hst
          have hst := hs2
          clear hs2
          try dsimp only at hst
          split at hst
          · rename_i h8
            cases hst
            obtain ⟨w1, w2, w3, w4⟩ := (xt_mt_ok hmt).2.2.2.1 rfl
            exact va_mmin hx hb (by rw [hml, hl.1.1]) hown (hts _ w1) (hts _ w2) (hts _ w3) (hts _ w4) hfr (by rw [xm_e_sum]; omega) hc hs hd (kk (fun _ h => h) H locs arr ⟨hG, hz, hP⟩ hS hl hvl (xm_vs_c (xm_vv_i _) (xm_vs_t (xm_vs_t hvs))))
          · exact absurd hst.symm hz0
        · try dsimp only at hst
          split at hst
          · rename_i h0 h00 h1
            subst h1
            obtain ⟨o, sp, d, dp, k, r, rfl, hs2⟩ := xm_c5_i hst hz0
            clear hst
            have hst := hs2
            clear hs2
            try dsimp only at hst
            split at hst
            · rename_i h8
              obtain ⟨u, hu, hst⟩ := xm_o_i hst hz0
              cases hst
              obtain ⟨w1, w2, w3, w4⟩ := (xt_mt_ok hmt).2.2.2.2.1 rfl
              obtain ⟨hZ, ⟨hG', hz', hmo⟩, q0, q1, cA, n0, n1, f, g, ha0, ha1, ht, c1, c2, c3, c4, c5, hwl⟩ := lcp s o sp d dp k u hG (xm_vv_u (xm_vs_h (xm_vs_t (xm_vs_t (xm_vs_t (xm_vs_t hvs)))))) (xm_vv_u (xm_vs_h (xm_vs_t (xm_vs_t hvs)))) hu
              have hnf : nativeFrameWords "java/lang/System" "arraycopy" 5 ≤ 20 := by decide
              exact va_copyi hx hb (by rw [hml, hl.1.1]) hown (hts _ w1) (hts _ w2) (hts _ w3) (hts _ w4) hK hP hD hS q0 q1 0 0 ha0 ha1 ht ht rfl c1 c2 c3 c4 c5 (fun _ _ => rfl) hfr (by rw [xm_e_sum]; omega) hd (fun H1 locs1 hP1 _ hS1 => kk hmo H1 locs1 arr ⟨hG', fun hk => absurd hk hZ, by rw [hwl]; exact hP1⟩ hS1 hl (xm_vl_m hmo hvl) (xm_vs_m hmo (xm_vs_t (xm_vs_t (xm_vs_t (xm_vs_t (xm_vs_t hvs)))))))
            · exact absurd hst.symm hz0
          · try dsimp only at hst
            split at hst
            · cases hst
            · exact absurd hst.symm hz0
    case ireturn =>
      try dsimp only at hst
      split at hst
      · try dsimp only at hst
        split at hst
        · exact absurd hst.symm hz0
        · cases hst
      · exact absurd hst.symm hz0
    case areturn =>
      try dsimp only at hst
      split at hst
      · cases hst
      · exact absurd hst.symm hz0
    case return_ =>
      try dsimp only at hst
      split at hst
      · cases hst
      · exact absurd hst.symm hz0
    case invokevirtual n =>
      try dsimp only at hst
      split at hst
      · try dsimp only at hst
        split at hst
        · cases hst
        · exact absurd hst.symm hz0
      · exact absurd hst.symm hz0
    case multianewarray n d =>
      simp only [xt_ck, Bool.and_eq_true, decide_eq_true_eq] at hck
      obtain ⟨hd, rfl, hoc, rfl, rfl⟩ := hck
      obtain ⟨x, z, r, rfl, hs2⟩ := xm_i2_i hst hz0
      clear hst
      have hst := hs2
      clear hs2
      try dsimp only at hst
      split at hst
      · exact absurd hst.symm hz0
      · rename_i hneg
        obtain ⟨⟨o, u⟩, hu, hst⟩ := xm_o_i hst hz0
        cases hst
        obtain ⟨hZ, hn4, hk40, ⟨hG', hz', hmo⟩, hlv, hadr, cI, cA, G, ht0, ht2, hGj, hwl⟩ := lnm s _ _ o u hG hu
        have hx4 : x = 4 := by
          have h0 : ¬ x < 0 := fun h => hneg (Or.inl h)
          obtain ⟨j, hj, rfl⟩ := nI_of h0
          rw [nI_clamp hj] at hn4
          subst hn4
          rfl
        have hz40 : z = 40 := by
          have h0 : ¬ z < 0 := fun h => hneg (Or.inr h)
          obtain ⟨j, hj, rfl⟩ := nI_of h0
          rw [nI_clamp hj] at hk40
          subst hk40
          rfl
        have hc5 : cells + (1 + 4) ≤ Rm.cells := by
          have h := hc
          dsimp only at h
          rw [hn4] at h
          exact h
        have hs5 : slots + (4 + 4 * 40) ≤ Rm.slots := by
          have h := hs
          dsimp only at h
          rw [hn4, hk40] at h
          exact h
        have hlk : (Jvm.Cond.classLink (xt_ow y) 9 ("[" ++ (FieldType.array .int).toString)).before args s0 = true := by
          have hw : xt_ow y = "BootNet$Library" := by
            show xt_cn (xt_oc y) = _
            rw [hoc]
            rfl
          rw [hw]
          exact hts _ xt_mul
        refine xm_mna hx hb hown hlk (hN _ (List.mem_of_getElem? (i := 7) rfl)) (hts _ (xt_ar_ok (t := 0) (n := .int) (by decide) rfl)) hP hS (cI := cI) (cA := cA) (hK.2 0 _ ht0).2 (hK.2 2 _ ht2).2 (hz hZ) hGj hx4 hz40 hc5 hs5 hd (fun H1 hP1 hS1 hz1 => ?_)
        have g := kk hmo H1 locs arr ⟨hG', fun _ => by rw [hz1, hz']; omega, by rw [hwl]; exact hP1⟩ hS1 hl (xm_vl_m hmo hvl) (xm_vs_c (xm_vv_r hlv) (xm_vs_m hmo (xm_vs_t (xm_vs_t hvs))))
        have hh : xm_e adr (.inr (some o)) = .ref (base + cz s) := by show Value.ref (adr o) = _; rw [hadr]
        dsimp only at g
        rw [hn4, hk40, List.map_cons, hh] at g
        exact g
    all_goals exact absurd hst.symm hz0
end XS
end
section
/-! Soundness of calls, returns and whole methods. -/
section XC
variable {σ R : Type}
def xm_Pc (Zk : Prop) (adr : R → Nat) (wl : σ → va_W) (Gd : σ → Prop) (cz : σ → Nat) (D : va_G) (tys : List (ClassId × FieldType)) (base b0 L0 : Nat) (xs0 : Nat → Int32) (as : xm_S R) (s : σ) : Array Value → State → Prop :=
  va_Pc (as.map (xm_e adr)) (fun U => xm_Wo D tys base b0 L0 xs0 U ∧ xm_Rp Zk wl Gd cz D base s U.heap)
def xm_Qc (Zk : Prop) (adr : R → Nat) (wl : σ → va_W) (Lv : σ → R → Prop) (Gd : σ → Prop) (cz : σ → Nat) (D : va_G) (base : Nat) (s : σ) (Q : Option (xm_V R) → σ → Prop) : Array Value → State → Outcome → State → Prop := fun _ st o t =>
  (∃ (v : Option (xm_V R)) (u : σ), o = .returned (v.map (xm_e adr)) ∧ Q v u ∧ (∀ w, v = some w → xm_vv Lv u w) ∧ (∀ q, Lv s q → Lv u q) ∧ xm_Rp Zk wl Gd cz D base u t.heap) ∧ va_F (fun q => base ≤ q) st t
def xm_rm (d mc ms : Nat) : Room := { frames := d + 1, cells := mc, slots := ms, locals := 40 + 30 * d }
end XC
section XD0
theorem xm_sl {R : Type} (adr : R → Nat) (as : xm_S R) : (lg_sl (as.map (xm_e adr))).length = as.length := by
  induction as with
  | nil => rfl
  | cons v as ih =>
    unfold lg_sl at ih ⊢
    rw [List.map_cons, List.flatMap_cons, List.length_append, ih, if_neg (by rw [xm_e_cat]; decide), List.length_cons, List.length_cons, List.length_nil]
    omega
end XD0
section XD
variable {σ R : Type} {Zk : Prop} {I : xm_I σ R} {adr : R → Nat} {wl : σ → va_W} {Lv : σ → R → Prop} {Gd : σ → Prop} {cz : σ → Nat} {D : va_G} {tys : List (ClassId × FieldType)} {base b0 L0 : Nat} {xs0 : Nat → Int32}
theorem xm_Wo_sm {u U : State} (hh : U.heap = u.heap) (hvm : u.vm = U.vm) (h : xm_Wo D tys base b0 L0 xs0 u) : xm_Wo D tys base b0 L0 xs0 U := by
  obtain ⟨hK, hX, h1, h2, hN⟩ := h
  have ha : u.vm.Alike U.vm := by rw [hvm]; exact Vm.Alike.refl _
  exact ⟨va_K.moved ha hK, by rw [hh]; exact hX.moved ha, h1, by rw [hh]; exact h2, fun w hw => xt_nw_sm w hw hvm (hN w hw)⟩
theorem xm_Wo_mv {u U : State} {locs : List Loc} (hS : va_S (fun q => base ≤ q) u.heap U.heap locs) (hW : u.WarmedH U.vm) (h : xm_Wo D tys base b0 L0 xs0 u) : xm_Wo D tys base b0 L0 xs0 U := by
  obtain ⟨hK, hX, h1, h2, hN⟩ := h
  refine ⟨va_K.moved hW.alike hK, (hX.moved hW.alike).kept ?_, h1, Nat.le_trans h2 hS.1, fun w hw => xt_nw_mv w hw hW (hN w hw)⟩
  exact hS.2.1 b0 (Nat.lt_of_lt_of_le h1 h2) (Nat.not_le.mpr h1)
theorem xm_Pc_bl {as : xm_S R} {s : σ} : FrameBlind (xm_Pc Zk adr wl Gd cz D tys base b0 L0 xs0 as s) := fun a U g mk h => ⟨h.1, xm_Wo_sm (u := U) (U := U.calling g mk a) rfl rfl h.2.1, h.2.2⟩
variable {p : Program} {l : Launch} {e : Env} {Rm : Room} {s0 : State} {m : MethodId} {args : Array Value} {below : List Frame} {meth : Method} {c : Code} {H : Heap} {locs : List Loc} {cells slots : Nat} {Q : State → Prop}
variable {y pc : Nat} {ls : xm_L R} {st : xm_S R} {s : σ} {arr : Array Slot}
theorem xm_go {rest : xm_S R} {Q' : Option (xm_V R) → σ → Prop} {mc ms : Nat} {a : Array Value} (hS : va_S (fun q => base ≤ q) s0.heap H locs)
    (hr : va_Run p l e Rm s0 m args below meth c H locs cells slots mc ms (F0 m pc arr (st.map (xm_e adr))) (rest.map (xm_e adr)) (xm_Qc Zk adr wl Lv Gd cz D base s Q' a) (fun q => base ≤ q))
    (kk : ∀ (v : Option (xm_V R)) (u : σ) (H' : Heap) (locs' : List Loc), Q' v u → (∀ w, v = some w → xm_vv Lv u w) → (∀ q, Lv s q → Lv u q) → xm_Rp Zk wl Gd cz D base u H' → va_S (fun q => base ≤ q) s0.heap H' locs' → W p l e Rm s0 m args below meth c H' locs' (cells + mc) (slots + ms) Q (F0 m (pc + 3) arr ((v.toList ++ rest).map (xm_e adr)))) :
    W p l e Rm s0 m args below meth c H locs cells slots Q (F0 m pc arr (st.map (xm_e adr))) := by
  intro T hT X
  obtain ⟨v, st₀, t, T', L, h0, X', hL, e1, e2, ⟨⟨v', u, hv, hq, hl, hmo, hR⟩, hz, hk⟩, go⟩ := hr T hT X
  cases hv
  rw [h0] at hz hk
  have hS' : va_S (fun q => base ≤ q) s0.heap T'.heap (locs ++ L) := ⟨Nat.le_trans hS.1 (by rw [e1]; exact hz), fun q h1 h2 => by rw [e1, hk q (Nat.lt_of_lt_of_le h1 hS.1) h2]; exact hS.2.1 q h1 h2, fun q hq => by
    rcases List.mem_append.mp hq with h | h
    · exact hS.2.2 q h
    · exact hL q h⟩
  obtain ⟨t2, a1, b1⟩ := kk v' u T'.heap (locs ++ L) hq hl hmo (by rw [e1]; exact hR) hS' T' rfl X'
  refine ⟨t2, go t2 ?_, b1⟩
  have hst : (v'.map (xm_e adr)).toList ++ rest.map (xm_e adr) = (v'.toList ++ rest).map (xm_e adr) := by cases v' <;> simp
  rw [hst]
  exact a1
set_option maxHeartbeats 4000000 in
/-- a step that calls -/
theorem xm_s2 (Lw : xm_Lw Zk I adr wl Lv Gd cz tys base b0 L0 xs0) (hF : xm_Fx y p s0 m args meth c) (hW : xm_Wo D tys base b0 L0 xs0 s0) (hRp : xm_Rp Zk wl Gd cz D base s H) (hS : va_S (fun q => base ≤ q) s0.heap H locs) (hl : xm_lh adr (xt_ml y) arr ls) (hvs : xm_vs Lv s st)
    {q : Nat × xm_S R × xm_S R} (hst : xm_st I y pc ls st s = .inr (.inr (.inl q))) (hy : q.1 < xt_N) (h8 : q.2.2.length ≤ 8) {Q' : Option (xm_V R) → σ → Prop} {rm : Room}
    (hM : xm_vs Lv s q.2.1 → Met l (xt_nm q.1) (xt_ws q.1) rm (xm_Pc Zk adr wl Gd cz D tys base b0 L0 xs0 q.2.1 s) (xm_Qc Zk adr wl Lv Gd cz D base s Q') (xt_gc q.1) (xt_gs q.1) (fun q => base ≤ q))
    (hrc : rm.cells = xt_gc q.1) (hrs : rm.slots = xt_gs q.1) (hfr : rm.frames + 1 ≤ Rm.frames) (hlo : 8 + (xt_ml q.1 + 11) + rm.locals ≤ Rm.locals) (hc : cells + xt_gc q.1 ≤ Rm.cells) (hs : slots + xt_gs q.1 ≤ Rm.slots)
    (kk : xm_vs Lv s q.2.2 → ∀ (v : Option (xm_V R)) (u : σ) (H' : Heap) (locs' : List Loc), Q' v u → (∀ w, v = some w → xm_vv Lv u w) → (∀ q, Lv s q → Lv u q) → xm_Rp Zk wl Gd cz D base u H' → va_S (fun q => base ≤ q) s0.heap H' locs' → W p l e Rm s0 m args below meth c H' locs' (cells + xt_gc q.1) (slots + xt_gs q.1) Q (F0 m (pc + 3) arr ((v.toList ++ q.2.2).map (xm_e adr)))) :
    W p l e Rm s0 m args below meth c H locs cells slots Q (F0 m pc arr (st.map (xm_e adr))) := by
  obtain ⟨hx, hb, hml, hown, hts, hini⟩ := hF
  have hfix : CallFix p m c (xt_bc y) (xt_ml y) s0 args xt_G (xt_ow y) := ⟨hx, hb, hml, hown, hts⟩
  have hz0 : (Sum.inr (Sum.inr (Sum.inl q)) : xm_R σ R) ≠ xm_no := fun h => by cases h
  have hPcU : ∀ as : xm_S R, ∀ U : State, U.heap = H → s0.WarmedH U.vm → xm_Pc Zk adr wl Gd cz D tys base b0 L0 xs0 as s (as.map (xm_e adr)).toArray U := fun as U hU hWm => ⟨rfl, xm_Wo_mv (locs := locs) (by rw [hU]; exact hS) hWm hW, by rw [hU]; exact hRp⟩
  have hrest : (((q.2.2).map (xm_e adr)).map fun v => v.category).sum ≤ 8 := by rw [xm_e_sum]; exact h8
  have hGd := xt_good q.1 hy
  have hwq : xt_ws q.1 = Cond.code (xt_nm q.1) (xt_bc q.1) (xt_ml q.1) (xt_rt q.1) :: xt_G := rfl
  obtain ⟨hpl, hd1, hd2, hd3, -⟩ := xt_nmq q.1 hy
  unfold xm_st at hst
  cases hat : xt_at y pc with
  | none => rw [hat] at hst; exact absurd hst.symm hz0
  | some w =>
    obtain ⟨i, ln, ra, rb, rv⟩ := w
    have hck := xt_ok hat
    rw [hat] at hst
    dsimp only at hst
    cases i
    all_goals try dsimp only at hst
    case invokevirtual n =>
      simp only [xt_ck, Bool.and_eq_true, decide_eq_true_eq] at hck
      obtain ⟨hd, rfl, rfl, hmt⟩ := hck
      split at hst
      · rename_i o r hdr
        split at hst
        · rename_i hoc
          cases hst
          obtain ⟨hbN, w1, w2, w3, w4, row, hcs, hrow⟩ := (xt_mt_ok hmt).1 rfl
          have hsplit : st = (st.take (xt_na rb)).reverse.reverse ++ (.inr (some o) :: r) := by rw [List.reverse_reverse, ← hdr, List.take_append_drop]
          have hnl : (st.take (xt_na rb)).reverse.length = xt_na rb := by
            have : st.length - xt_na rb = (Sum.inr (some o) :: r : xm_S R).length := by rw [← hdr, List.length_drop]
            simp only [List.length_reverse, List.length_take, List.length_cons] at this ⊢
            omega
          generalize (st.take (xt_na rb)).reverse = as at hsplit hnl hM hc hs kk hPcU ⊢
          subst hsplit
          have hva : xm_vs Lv s (.inr (some o) :: as) := fun v hv => hvs v (by
            rcases List.mem_cons.mp hv with h | h
            · exact List.mem_append_right _ (by rw [h]; exact List.mem_cons_self)
            · exact List.mem_append_left _ (List.mem_reverse.mpr h))
          have hvr : xm_vs Lv s r := fun v hv => hvs v (List.mem_append_right _ (List.mem_cons_of_mem _ hv))
          obtain ⟨q0, fs, he⟩ := Lw.2.2.2.2.2.2.2.2.1 s (xt_oc rb) o hRp.1 (xm_vv_u (xm_vs_h hva)) hoc
          have hrc2 := va_recv hW.1 hRp.2.2 hcs he
          rw [hrow] at hrc2
          refine xm_go hS (va_runV (C := (xt_nm rb).cls) (As := as.map (xm_e adr)) (b := adr o) (rest := r.map (xm_e adr)) hfix (hM hva) ⟨callB_of (xt_na rb) hts hGd hwq hrc hrs (hts _ w4) (hts _ w1) ⟨hd1, hd2, hd3⟩ ⟨hfr, hlo⟩, hts _ w2, hts _ w3⟩ ⟨xm_Pc_bl, hrc2, fun U hU hWm => hPcU (.inr (some o) :: as) U hU hWm⟩ rfl (by rw [List.length_map]; exact hnl) hl.1.1 ?_ (lv_room hrest) hd ⟨hc, hs⟩) (kk hvr)
          show List.map _ (as.reverse ++ _) = _
          rw [List.map_append, List.map_reverse]
          rfl
        · exact absurd hst.symm hz0
      · exact absurd hst.symm hz0
    case invokespecial n =>
      simp only [xt_ck, Bool.and_eq_true, decide_eq_true_eq] at hck
      obtain ⟨hd, rfl, hkd, hmt⟩ := hck
      split at hst
      · obtain ⟨o, r, rfl, hs2⟩ := xm_r1_i hst hz0
        clear hst
        have hst := hs2
        clear hs2
        try dsimp only at hst
        split at hst
        · cases hst
        · exact absurd hst.symm hz0
      · rename_i hna
        split at hst
        · rename_i o r hdr
          cases hst
          have hsplit : st = (st.take (xt_na rb)).reverse.reverse ++ (.inr (some o) :: r) := by rw [List.reverse_reverse, ← hdr, List.take_append_drop]
          have hnl : (st.take (xt_na rb)).reverse.length = xt_na rb := by
            have : st.length - xt_na rb = (Sum.inr (some o) :: r : xm_S R).length := by rw [← hdr, List.length_drop]
            simp only [List.length_reverse, List.length_take, List.length_cons] at this ⊢
            omega
          generalize (st.take (xt_na rb)).reverse = as at hsplit hnl hM hc hs kk hPcU ⊢
          subst hsplit
          have hva : xm_vs Lv s (.inr (some o) :: as) := fun v hv => hvs v (by
            rcases List.mem_cons.mp hv with h | h
            · exact List.mem_append_right _ (by rw [h]; exact List.mem_cons_self)
            · exact List.mem_append_left _ (List.mem_reverse.mpr h))
          have hvr : xm_vs Lv s r := fun v hv => hvs v (List.mem_append_right _ (List.mem_cons_of_mem _ hv))
          have hstk : ((as.reverse ++ (.inr (some o) :: r)).map (xm_e adr)) = (as.map (xm_e adr)).reverse ++ .ref (adr o) :: r.map (xm_e adr) := by
            rw [List.map_append, List.map_reverse]
            rfl
          obtain ⟨hbN, hrn, hin1, w2, w4, hlk⟩ := (xt_mt_ok hmt).2.2.2.2.2.2 (by show ra = 5 ∨ ra = 7; omega)
          have hrn' : xt_rt rb = none := hrn
          have hwq' : xt_ws rb = Cond.code (xt_nm rb) (xt_bc rb) (xt_ml rb) none :: xt_G := by rw [hwq, hrn']
          rcases hlk with w1 | ⟨host, w1⟩
          · exact xm_go hS (va_runI (bytes := xt_bc rb) (maxL := xt_ml rb) (As := as.map (xm_e adr)) (b := adr o) (rest := r.map (xm_e adr)) hfix (hM hva) ⟨callB_of (xt_na rb) hts hGd hwq' hrc hrs (hts _ w4) (hts _ w1) ⟨hd1, hd2, hd3⟩ ⟨hfr, hlo⟩, hin1, hts _ w2⟩ ⟨xm_Pc_bl, fun U hU hWm => hPcU (.inr (some o) :: as) U hU hWm⟩ rfl (by rw [List.length_map]; exact hnl) hl.1.1 hstk (lv_room hrest) hd ⟨hc, hs⟩) (kk hvr)
          · exact xm_go hS (va_runIN (host := host) (bytes := xt_bc rb) (maxL := xt_ml rb) (As := as.map (xm_e adr)) (b := adr o) (rest := r.map (xm_e adr)) hfix (hM hva) ⟨va_cnB (xt_na rb) hts hGd hwq' hrc hrs (hW.2.2.2.2 _ w1) (hts _ w4) ⟨hd1, hd2, hd3⟩ ⟨hfr, hlo⟩, hin1, hts _ w2⟩ ⟨xm_Pc_bl, fun U hU hWm => hPcU (.inr (some o) :: as) U hU hWm⟩ rfl (by rw [List.length_map]; exact hnl) hl.1.1 hstk (lv_room hrest) hd ⟨hc, hs⟩) (kk hvr)
        · exact absurd hst.symm hz0
    case invokestatic n =>
      simp only [xt_ck, Bool.and_eq_true, decide_eq_true_eq] at hck
      obtain ⟨hd, rfl, hkd, hmt⟩ := hck
      split at hst
      · obtain ⟨x, z, r, rfl, hs2⟩ := xm_i2_i hst hz0
        clear hst
        have hst := hs2
        clear hs2
        try dsimp only at hst
        split at hst
        · cases hst
        · exact absurd hst.symm hz0
      · rename_i n2
        split at hst
        · obtain ⟨x, z, r, rfl, hs2⟩ := xm_i2_i hst hz0
          clear hst
          have hst := hs2
          clear hs2
          try dsimp only at hst
          split at hst
          · cases hst
          · exact absurd hst.symm hz0
        · rename_i n3
          split at hst
          · obtain ⟨o, sp, d, dp, k, r, rfl, hs2⟩ := xm_c5_i hst hz0
            clear hst
            have hst := hs2
            clear hs2
            try dsimp only at hst
            split at hst
            · obtain ⟨u, hu, hst⟩ := xm_o_i hst hz0
              cases hst
            · exact absurd hst.symm hz0
          · rename_i n4
            split at hst
            · rename_i hle
              cases hst
              obtain ⟨hbN, w1, w2, w4⟩ := (xt_mt_ok hmt).2.2.2.2.2.1 (by show ra = 6; omega)
              have hsplit : st = (st.take (xt_na rb)).reverse.reverse ++ st.drop (xt_na rb) := by rw [List.reverse_reverse, List.take_append_drop]
              have hnl : (st.take (xt_na rb)).reverse.length = xt_na rb := by
                simp only [List.length_reverse, List.length_take]
                omega
              generalize (st.take (xt_na rb)).reverse = as at hsplit hnl hM hc hs kk hPcU ⊢
              generalize st.drop (xt_na rb) = r at hsplit hrest kk h8
              subst hsplit
              have hva : xm_vs Lv s as := fun v hv => hvs v (List.mem_append_left _ (List.mem_reverse.mpr hv))
              have hvr : xm_vs Lv s r := fun v hv => hvs v (List.mem_append_right _ hv)
              exact xm_go hS (va_runS (As := as.map (xm_e adr)) (rest := r.map (xm_e adr)) hfix (hM hva) ⟨callB_of (xt_na rb) hts hGd hwq hrc hrs (hts _ w4) (hts _ w1) ⟨hd1, hd2, hd3⟩ ⟨hfr, hlo⟩, hts _ w2⟩ ⟨xm_Pc_bl, fun U hU hWm => hPcU as U hU hWm⟩ rfl (by rw [List.length_map]; exact hnl) hl.1.1 (by show List.map _ (as.reverse ++ _) = _; rw [List.map_append, List.map_reverse]) (lv_room hrest) hd ⟨hc, hs⟩) (kk hvr)
            · exact absurd hst.symm hz0
    all_goals exfalso
    all_goals first
      | exact absurd hst.symm hz0
      | (simp only [xm_nx, xm_no, xm_rt, xm_i1, xm_i2, xm_v1, xm_v2, xm_r1, xm_ri, xm_rii, xm_rir, xm_rv, xm_li, xm_lr, xm_o] at hst
         repeat' split at hst
         all_goals cases hst)
set_option maxHeartbeats 4000000 in
/-- a step that answers -/
theorem xm_s3 (hF : xm_Fx y p s0 m args meth c) (hr : meth.sig.returnType = xt_rt y) (hlk : meth.locks = false) (hRp : xm_Rp Zk wl Gd cz D base s H) (hS : va_S (fun q => base ≤ q) s0.heap H locs) (hvs : xm_vs Lv s st) {s1 : σ} (hmo : ∀ q, Lv s1 q → Lv s q)
    {v : Option (xm_V R)} (hst : xm_st I y pc ls st s = .inr (.inl v)) {Qm : Option (xm_V R) → σ → Prop} (hQ : Qm v s) :
    W p l e Rm s0 m args below meth c H locs cells slots (MQ below (xm_Qc Zk adr wl Lv Gd cz D base s1 Qm) args s0 cells slots (fun q => base ≤ q)) (F0 m pc arr (st.map (xm_e adr))) := by
  obtain ⟨hx, hb, hml, hown, hts, hini⟩ := hF
  have hz0 : (Sum.inr (Sum.inl v) : xm_R σ R) ≠ xm_no := fun h => by cases h
  have hq : (∀ w, v = some w → xm_vv Lv s w) → ∀ t : State, t.heap = H → s0.WarmedH t.vm → xm_Qc Zk adr wl Lv Gd cz D base s1 Qm args s0 (.returned (v.map (xm_e adr))) t := fun hv t ht _ => ⟨⟨v, s, rfl, hQ, hv, hmo, by rw [ht]; exact hRp⟩, hS.F ht⟩
  unfold xm_st at hst
  cases hat : xt_at y pc with
  | none => rw [hat] at hst; exact absurd hst.symm hz0
  | some w =>
    obtain ⟨i, ln, ra, rb, rv⟩ := w
    have hck := xt_ok hat
    rw [hat] at hst
    dsimp only at hst
    cases i
    all_goals try dsimp only at hst
    case ireturn =>
      simp only [xt_ck, Bool.and_eq_true, decide_eq_true_eq] at hck
      obtain ⟨hd, rfl, hrt⟩ := hck
      split at hst
      · rename_i x
        split at hst
        · exact absurd hst.symm hz0
        · rename_i hbo
          cases hst
          have hq := hq (fun w h => by cases h; exact xm_vv_i _)
          rcases hrt with ⟨rfl, h⟩ | ⟨rfl, h⟩
          · have hx01 : x = 0 ∨ x = 1 := Classical.byContradiction fun h => hbo ⟨rfl, h⟩
            exact W.zret hx hb (hr.trans h) (by rcases hx01 with rfl | rfl <;> rfl) hq hS.2.2 hd hlk
          · exact W.iret hx hb (hr.trans h) hq hS.2.2 hd hlk
      · exact absurd hst.symm hz0
    case areturn =>
      simp only [xt_ck, Bool.and_eq_true, decide_eq_true_eq] at hck
      obtain ⟨hd, rfl, hrt⟩ := hck
      split at hst
      · rename_i o
        cases hst
        have hq := hq (fun w h => by cases h; exact xm_vs_h hvs)
        obtain ⟨nm, hrt⟩ := xt_isob hrt
        exact W.aret hx hb (hr.trans hrt) (Or.inl ⟨nm, rfl⟩) (Or.inr ⟨adr o, rfl⟩) hq hS.2.2 hd hlk
      · exact absurd hst.symm hz0
    case return_ =>
      simp only [xt_ck, Bool.and_eq_true, decide_eq_true_eq] at hck
      obtain ⟨hd, rfl, hrt⟩ := hck
      split at hst
      · cases hst
        exact W.vret hx hb (hr.trans hrt) (hq (fun w h => by cases h)) hS.2.2 hd hlk
      · exact absurd hst.symm hz0
    all_goals exfalso
    all_goals first
      | exact absurd hst.symm hz0
      | (simp only [xm_nx, xm_no, xm_cl, xm_i1, xm_i2, xm_v1, xm_v2, xm_r1, xm_ri, xm_rii, xm_rir, xm_rv, xm_li, xm_lr, xm_o, xm_c5] at hst
         repeat' split at hst
         all_goals cases hst)
/-- a run of a method's body -/
theorem xm_run (Lw : xm_Lw Zk I adr wl Lv Gd cz tys base b0 L0 xs0) {k : Nat} (hcall : ∀ (y : Nat) (as : xm_S R) (s : σ) (Q : Option (xm_V R) → σ → Prop), y < xt_N → as.length ≤ xt_ml y → xm_MW I k y as s Q → xm_vs Lv s as → Met l (xt_nm y) (xt_ws y) (xm_rm (k - 1) (xt_gc y) (xt_gs y)) (xm_Pc Zk adr wl Gd cz D tys base b0 L0 xs0 as s) (xm_Qc Zk adr wl Lv Gd cz D base s Q) (xt_gc y) (xt_gs y) (fun q => base ≤ q))
    (hF : xm_Fx y p s0 m args meth c) (hW : xm_Wo D tys base b0 L0 xs0 s0) (hfr : k + 1 ≤ Rm.frames) (hlo : 40 + 30 * k ≤ Rm.locals) {s1 : σ} {Qm : Option (xm_V R) → σ → Prop} {Z : Nat → Nat → Nat → xm_L R → xm_S R → σ → Prop}
    (hz : ∀ (mc ms pc : Nat) (ls : xm_L R) (st : xm_S R) (s : σ) (H : Heap) (locs : List Loc) (arr : Array Slot) (cells slots : Nat), Z mc ms pc ls st s → xm_Rp Zk wl Gd cz D base s H → va_S (fun q => base ≤ q) s0.heap H locs → xm_lh adr (xt_ml y) arr ls → xm_vl Lv s ls → xm_vs Lv s st → (∀ q, Lv s1 q → Lv s q) → cells + mc ≤ Rm.cells → slots + ms ≤ Rm.slots → W p l e Rm s0 m args below meth c H locs cells slots Q (F0 m pc arr (st.map (xm_e adr))))
    (hret : ∀ (pc : Nat) (ls : xm_L R) (st : xm_S R) (s : σ) (v : Option (xm_V R)) (H : Heap) (locs : List Loc) (arr : Array Slot) (cells slots : Nat), xm_st I y pc ls st s = .inr (.inl v) → Qm v s → xm_Rp Zk wl Gd cz D base s H → va_S (fun q => base ≤ q) s0.heap H locs → xm_vs Lv s st → (∀ q, Lv s1 q → Lv s q) → cells ≤ Rm.cells → slots ≤ Rm.slots → W p l e Rm s0 m args below meth c H locs cells slots Q (F0 m pc arr (st.map (xm_e adr)))) :
    ∀ (n mc ms pc : Nat) (ls : xm_L R) (st : xm_S R) (s : σ) (H : Heap) (locs : List Loc) (arr : Array Slot) (cells slots : Nat), xm_lp I (xm_MW I k) y Z n mc ms pc ls st s Qm → xm_Rp Zk wl Gd cz D base s H → va_S (fun q => base ≤ q) s0.heap H locs → xm_lh adr (xt_ml y) arr ls → xm_vl Lv s ls → xm_vs Lv s st → (∀ q, Lv s1 q → Lv s q) → cells + mc ≤ Rm.cells → slots + ms ≤ Rm.slots → W p l e Rm s0 m args below meth c H locs cells slots Q (F0 m pc arr (st.map (xm_e adr))) := by
  intro n
  induction n with
  | zero => intro mc ms pc ls st s H locs arr cells slots h hRp hS hl hvl hvs hmo hc hs; exact hz mc ms pc ls st s H locs arr cells slots h hRp hS hl hvl hvs hmo hc hs
  | succ n ih =>
    intro mc ms pc ls st s H locs arr cells slots h hRp hS hl hvl hvs hmo hc hs
    unfold xm_lp at h
    split at h
    · rename_i q hst
      obtain ⟨h1, h2, h3⟩ := h
      refine xm_s1 Lw hF hW hRp hS hl hvl hvs (by omega) (by omega) hst (by omega) (by omega) (fun hmo' H' locs' arr' hRp' hS' hl' hvl' hvs' => ?_)
      exact ih _ _ _ _ _ _ _ _ _ _ _ h3 hRp' hS' hl' hvl' hvs' (fun q h => hmo' q (hmo q h)) (by omega) (by omega)
    · rename_i v hst
      exact hret pc ls st s v H locs arr cells slots hst h hRp hS hvs hmo (by omega) (by omega)
    · rename_i q hst
      obtain ⟨h1, h2, h3, h4, h5, h6⟩ := h
      obtain ⟨-, -, -, -, hm45⟩ := xt_nmq q.1 h1
      cases k with
      | zero => exact h6.elim
      | succ k =>
        refine xm_s2 Lw hF hW hRp hS hl hvs hst h1 h4 (rm := xm_rm k (xt_gc q.1) (xt_gs q.1)) (hcall q.1 q.2.1 s _ h1 h5 h6) rfl rfl ?_ ?_ (by omega) (by omega) (fun hvr v u H' locs' hQ' hv hmo' hRp' hS' => ?_)
        · show k + 1 + 1 ≤ _; omega
        · show 8 + (_ + 11) + (40 + 30 * k) ≤ _; omega
        · refine ih _ _ _ _ _ _ _ _ _ _ _ hQ' hRp' hS' hl (xm_vl_m hmo' hvl) ?_ (fun q h => hmo' q (hmo q h)) (by omega) (by omega)
          cases v with
          | none => exact xm_vs_m hmo' hvr
          | some w => exact xm_vs_c (hv w rfl) (xm_vs_m hmo' hvr)
    · exact h.elim
set_option maxHeartbeats 4000000 in
/-- what the X machine does, the machine does -/
theorem xm_snd (Lw : xm_Lw Zk I adr wl Lv Gd cz tys base b0 L0 xs0) : ∀ (k y : Nat) (as : xm_S R) (s : σ) (Qm : Option (xm_V R) → σ → Prop), y < xt_N → as.length ≤ xt_ml y → xm_MW I k y as s Qm → xm_vs Lv s as → Met l (xt_nm y) (xt_ws y) (xm_rm (k - 1) (xt_gc y) (xt_gs y)) (xm_Pc Zk adr wl Gd cz D tys base b0 L0 xs0 as s) (xm_Qc Zk adr wl Lv Gd cz D base s Qm) (xt_gc y) (xt_gs y) (fun q => base ≤ q) := by
  intro k
  induction k with
  | zero => intro y as s Qm _ _ h; exact h.elim
  | succ k ihk =>
    intro y as s Qm hy hal hMW hva
    obtain ⟨n, hn⟩ := hMW
    refine Met.ofW (cc := xt_bc y) (maxL := xt_ml y) (ret := xt_rt y) (xt_nmq y hy).1 rfl ?_
    intro p e s0 m args below meth c s₁ B hml hv
    obtain ⟨rfl, hWo, hRp⟩ := hv
    have hts : ∀ w ∈ xt_G, w.before (as.map (xm_e adr)).toArray s0 = true := fun w hw => atoms_spec (ws := xt_ws y) B.pre w (List.mem_cons_of_mem _ hw)
    have hown : s0.vm.findClass (xt_ow y) = some m.cls := by rw [xt_owq y hy]; exact findClass_of_methodNamed B.named
    have hF : xm_Fx y p s0 m (as.map (xm_e adr)).toArray meth c := ⟨B.exec, B.bytes, hml, hown, hts, fun hi => ((name_of_methodNamed B.named B.method).1).trans (xt_inq y hi)⟩
    rw [lg_entry_eq]
    have hsl := xm_sl adr as
    have hle := lv_entry (as.map (xm_e adr)) (n := xt_ml y) (by rw [hsl]; exact hal)
    generalize (lg_sl (as.map (xm_e adr)) ++ List.replicate (xt_ml y - (lg_sl (as.map (xm_e adr))).length) Slot.unset).toArray = arr at hle ⊢
    have hl : xm_lh adr (xt_ml y) arr (xm_in y as) := by
      refine ⟨⟨hle.1, hle.2.1, fun q hq => hle.2.2 q ?_⟩, ?_⟩
      · obtain ⟨i, w⟩ := q
        obtain ⟨v, hv, rfl⟩ := xm_lo_mem.mp hq
        exact xm_in_mem hv
      · unfold xm_in
        rw [List.length_append, List.length_map, List.length_replicate]
        omega
    refine xm_run Lw ihk hF hWo (Nat.le_refl _) (Nat.le_refl _) (s1 := s) (Qm := Qm) (Z := xm_F) (fun _ _ _ _ _ _ _ _ _ _ _ h => h.elim) ?_ n (xt_gc y) (xt_gs y) 0 (xm_in y as) [] s s0.heap [] arr 0 0 hn hRp va_S.rf hl ?_ (fun _ h => by cases h) (fun _ h => h) (by show 0 + _ ≤ xt_gc y; omega) (by show 0 + _ ≤ xt_gs y; omega)
    · intro pc ls st s2 v H locs arr cells slots hst hQ hRp2 hS hvs hmo hc hs
      exact W.widen hc hs (xm_s3 hF B.returns B.notSynchronized hRp2 hS hvs hmo hst hQ)
    · intro i v hv
      obtain ⟨w, hw⟩ : ∃ w, w ∈ as ∧ w = v := xm_in_at hv
      rw [← hw.2]
      exact hva w hw.1
end XD
end
section
/-! The memory of the constructors: a list of cells in the order of their making. -/
section ML
/-- a cell: ints (type, length, contents), references (type, length, contents), or an object (class, fields) -/
abbrev ml_C : Type := (Nat × Nat × (Nat → Int32)) ⊕ (Nat × Nat × (Nat → Option Nat)) ⊕ (Nat × List (xm_V Nat))
def ml_ok (ty : FieldType) (v : xm_V Nat) : Bool := match ty, v with
  | .int, .inl _ => true
  | .boolean, .inl x => decide (x = 0 ∨ x = 1)
  | .object _, .inr _ => true
  | .array _, .inr _ => true
  | _, _ => false
def ml_df (ty : FieldType) : xm_V Nat := match ty with
  | .object _ => .inr none
  | .array _ => .inr none
  | _ => .inl 0
def ml_vk (n : Nat) (v : xm_V Nat) : Bool := match v with
  | .inr (some q) => decide (q < n)
  | _ => true
def ml_gf (h : List ml_C) (r ci k : Nat) : Option (xm_V Nat) := match h[r]? with
  | some (.inr (.inr (c, fs))) => if c = ci then fs[k]? else none
  | _ => none
def ml_pf (h : List ml_C) (r ci k : Nat) (v : xm_V Nat) : Option (List ml_C) := match h[r]? with
  | some (.inr (.inr (c, fs))) => if c = ci ∧ k < fs.length ∧ ml_ok (xt_ft ci k) v = true ∧ ml_vk h.length v = true then some (h.set r (.inr (.inr (c, fs.set k v)))) else none
  | _ => none
def ml_al (L : Nat) (xs : Nat → Int32) (h : List ml_C) (t r : Nat) (i : Int32) : Option Int32 := if r = 999999 then (if t = 0 ∧ ¬ (i < 0 ∨ L ≤ i.toNatClampNeg) then some (xs i.toNatClampNeg) else none) else match h[r]? with
  | some (.inl (u, n, f)) => if u = t ∧ ¬ (i < 0 ∨ n ≤ i.toNatClampNeg) then some (f i.toNatClampNeg) else none
  | _ => none
def ml_as (h : List ml_C) (t r : Nat) (i x : Int32) : Option (List ml_C) := match h[r]? with
  | some (.inl (u, n, f)) => if u = t ∧ ¬ (i < 0 ∨ n ≤ i.toNatClampNeg) then some (h.set r (.inl (u, n, upd f i.toNatClampNeg (xm_nr2 t x)))) else none
  | _ => none
def ml_rl (h : List ml_C) (r : Nat) (i : Int32) : Option (xm_V Nat) := match h[r]? with
  | some (.inr (.inl (t, n, f))) => if 2 ≤ t ∧ t < 6 ∧ ¬ (i < 0 ∨ n ≤ i.toNatClampNeg) then some (.inr (f i.toNatClampNeg)) else none
  | _ => none
def ml_rs (h : List ml_C) (r : Nat) (i : Int32) (w : Nat) : Option (List ml_C) := match h[r]?, h[w]? with
  | some (.inr (.inl (t, n, f))), some (.inr (.inr (c, _))) => if 3 ≤ t ∧ t < 6 ∧ c < 13 ∧ xt_an t = xt_cn c ∧ ¬ (i < 0 ∨ n ≤ i.toNatClampNeg) then some (h.set r (.inr (.inl (t, n, va_up f i.toNatClampNeg (some w))))) else none
  | _, _ => none
def ml_ln (L : Nat) (h : List ml_C) (r : Nat) : Option Nat := if r = 999999 then some L else match h[r]? with
  | some (.inl (t, n, _)) => if t < 2 then some n else none
  | some (.inr (.inl (t, n, _))) => if 2 ≤ t ∧ t < 6 then some n else none
  | _ => none
def ml_oc (h : List ml_C) (ci r : Nat) : Bool := match h[r]? with
  | some (.inr (.inr (c, _))) => decide (c = ci)
  | _ => false
def ml_nw (h : List ml_C) (ci : Nat) : Option (Nat × List ml_C) := match xt_cs[ci]? with
  | some q => if 1000 ≤ h.length then none else some (h.length, h ++ [.inr (.inr (ci, (List.range q.2.2).map fun k => ml_df (xt_ft ci k)))])
  | none => none
def ml_na (h : List ml_C) (t n : Nat) : Option (Nat × List ml_C) := if t < 2 ∧ n ≤ 10000 ∧ h.length < 1000 then some (h.length, h ++ [.inl (t, n, fun _ => 0)]) else none
def ml_nr (h : List ml_C) (t n : Nat) : Option (Nat × List ml_C) := if 3 ≤ t ∧ t < 6 ∧ n ≤ 10000 ∧ h.length < 1000 then some (h.length, h ++ [.inr (.inl (t, n, fun _ => none))]) else none
def ml_nm (h : List ml_C) (n k : Nat) : Option (Nat × List ml_C) := if n = 4 ∧ k = 40 ∧ h.length < 900 then some (h.length, h ++ [.inr (.inl (2, 4, fun j => if j < 4 then some (h.length + 1 + j) else none)), .inl (0, 40, fun _ => 0), .inl (0, 40, fun _ => 0), .inl (0, 40, fun _ => 0), .inl (0, 40, fun _ => 0)]) else none
def ml_I (L : Nat) (xs : Nat → Int32) : xm_I (List ml_C) Nat := (ml_gf, ml_pf, ml_al L xs, ml_as, ml_rl, ml_rs, ml_ln L, ml_oc, ml_nw, ml_na, ml_nr, ml_nm, fun _ _ _ _ _ _ => none)
def ml_ad (base b0 r : Nat) : Nat := if r = 999999 then b0 else base + r
/-- a cell of the list in the world -/
def ml_E (base b0 : Nat) (tys : List (ClassId × FieldType)) (q : ml_C) : va_E := match q with
  | .inl (t, n, f) => .inl ((tys.getD t (0, .int)).1, n, .inl f)
  | .inr (.inl (t, n, f)) => .inl ((tys.getD t (0, .int)).1, n, .inr (.inr (.inr (.inr (fun j => (f j).map (ml_ad base b0))))))
  | .inr (.inr (c, fs)) => .inr (c, fs.map (xm_e (ml_ad base b0)))
def ml_wl (base b0 : Nat) (tys : List (ClassId × FieldType)) (h : List ml_C) : va_W := h.mapIdx (fun j q => (base + j, ml_E base b0 tys q))
def ml_Lv (h : List ml_C) (r : Nat) : Prop := r < h.length ∨ r = 999999
/-- all references in the list are within -/
def ml_in (n : Nat) (q : ml_C) : Prop := match q with
  | .inl _ => True
  | .inr (.inl (_, m, f)) => ∀ j r, j < m → f j = some r → r < n
  | .inr (.inr (_, fs)) => ∀ r, Sum.inr (some r) ∈ fs → r < n
def ml_Gd (h : List ml_C) : Prop := h.length ≤ 1000 ∧ ∀ q ∈ h, ml_in h.length q
end ML
end
section
/-! The laws of the list memory. -/
section MLL
theorem ml_wl_get {base b0 : Nat} {tys : List (ClassId × FieldType)} {h : List ml_C} (j : Nat) : (ml_wl base b0 tys h)[j]? = (h[j]?).map (fun q => (base + j, ml_E base b0 tys q)) := by
  unfold ml_wl
  rw [List.getElem?_mapIdx]
theorem ml_wl_at {base b0 : Nat} {tys : List (ClassId × FieldType)} {h : List ml_C} {j : Nat} {q : ml_C} (hj : h[j]? = some q) : (ml_wl base b0 tys h)[j]? = some (base + j, ml_E base b0 tys q) := by
  rw [ml_wl_get, hj]; rfl
theorem ml_ad_l {base b0 : Nat} {h : List ml_C} (hG : ml_Gd h) {r : Nat} (hr : r < h.length) : ml_ad base b0 r = base + r := by
  have := hG.1
  unfold ml_ad
  rw [if_neg (by omega)]
theorem ml_wl_ad {base b0 : Nat} {tys : List (ClassId × FieldType)} {h : List ml_C} (hG : ml_Gd h) {j : Nat} {q : ml_C} (hj : h[j]? = some q) : (ml_wl base b0 tys h)[j]? = some (ml_ad base b0 j, ml_E base b0 tys q) := by
  rw [ml_ad_l hG (List.getElem?_eq_some_iff.mp hj).1, ml_wl_at hj]
theorem ml_wl_set {base b0 : Nat} {tys : List (ClassId × FieldType)} {h : List ml_C} {r : Nat} {q : ml_C} (hr : r < h.length) : ml_wl base b0 tys (h.set r q) = (ml_wl base b0 tys h).set r (base + r, ml_E base b0 tys q) := by
  have hl : (ml_wl base b0 tys h).length = h.length := by unfold ml_wl; rw [List.length_mapIdx]
  apply List.ext_getElem?
  intro j
  rw [ml_wl_get]
  by_cases hj : r = j
  · subst hj
    rw [List.getElem?_set_self hr, List.getElem?_set_self (by rw [hl]; exact hr)]
    rfl
  · rw [List.getElem?_set_ne hj, List.getElem?_set_ne hj, ml_wl_get]
theorem ml_wl_app {base b0 : Nat} {tys : List (ClassId × FieldType)} {h : List ml_C} {q : ml_C} : ml_wl base b0 tys (h ++ [q]) = ml_wl base b0 tys h ++ [(base + h.length, ml_E base b0 tys q)] := by
  unfold ml_wl
  rw [List.mapIdx_append]
  simp
theorem ml_D {base b0 : Nat} {tys : List (ClassId × FieldType)} (h : List ml_C) : va_D (fun q => base ≤ q) (ml_wl base b0 tys h) := by
  have key : ∀ (k : Nat) (q : Nat × va_E), (ml_wl base b0 tys h)[k]? = some q → q.1 = base + k := by
    intro k q hk
    rw [ml_wl_get] at hk
    cases hh : h[k]? with
    | none => rw [hh] at hk; cases hk
    | some c => rw [hh] at hk; cases hk; rfl
  refine ⟨fun i j p q hp hq e => ?_, fun k q hk => by rw [key k q hk]; exact Nat.le_add_right _ _⟩
  have h1 := key i p hp
  have h2 := key j q hq
  omega
theorem ml_in_mono {n m : Nat} (hnm : n ≤ m) {q : ml_C} (h : ml_in n q) : ml_in m q := by
  rcases q with _ | ⟨t, k, f⟩ | ⟨c, fs⟩
  · trivial
  · exact fun j r hj hr => Nat.lt_of_lt_of_le (h j r hj hr) hnm
  · exact fun r hr => Nat.lt_of_lt_of_le (h r hr) hnm
theorem ml_Gd_set {h : List ml_C} {r : Nat} {q : ml_C} (hG : ml_Gd h) (hq : ml_in h.length q) : ml_Gd (h.set r q) := by
  refine ⟨by rw [List.length_set]; exact hG.1, fun c hc => ?_⟩
  rw [List.length_set]
  rcases List.mem_or_eq_of_mem_set hc with h1 | h1
  · exact hG.2 c h1
  · rw [h1]; exact hq
theorem ml_Gd_app {h : List ml_C} {q : ml_C} (hG : ml_Gd h) (hl : h.length < 1000) (hq : ml_in (h.length + 1) q) : ml_Gd (h ++ [q]) := by
  refine ⟨by rw [List.length_append]; exact hl, fun c hc => ?_⟩
  rw [List.length_append]
  rcases List.mem_append.mp hc with h1 | h1
  · exact ml_in_mono (Nat.le_add_right _ _) (hG.2 c h1)
  · rw [List.mem_singleton.mp h1]; exact hq
theorem ml_kp_set {h : List ml_C} {r : Nat} {q : ml_C} (hG : ml_Gd h) (hq : ml_in h.length q) : xm_kp ml_Lv ml_Gd List.length h (h.set r q) 0 := ⟨ml_Gd_set hG hq, List.length_set, fun q hq => by unfold ml_Lv at *; rw [List.length_set]; exact hq⟩
theorem ml_kp_app {h : List ml_C} {q : ml_C} (hG : ml_Gd h) (hl : h.length < 1000) (hq : ml_in (h.length + 1) q) : xm_kp ml_Lv ml_Gd List.length h (h ++ [q]) 1 ∧ ml_Lv (h ++ [q]) h.length := by
  refine ⟨⟨ml_Gd_app hG hl hq, by rw [List.length_append]; rfl, fun q hq => ?_⟩, Or.inl (by rw [List.length_append]; exact Nat.lt_succ_self _)⟩
  rcases hq with h1 | h1
  · exact Or.inl (by rw [List.length_append]; omega)
  · exact Or.inr h1
theorem ml_adr {base b0 : Nat} {h : List ml_C} (hl : h.length < 1000) : ml_ad base b0 h.length = base + h.length := by
  unfold ml_ad
  rw [if_neg (by omega)]
section
variable (base b0 L0 : Nat) (xs0 : Nat → Int32) (tys : List (ClassId × FieldType))
theorem ml_lgf : xm_lgf (ml_I L0 xs0) (ml_ad base b0) (ml_wl base b0 tys) ml_Lv ml_Gd := by
  intro s r ci k v hG hL h
  replace h : ml_gf s r ci k = some v := h
  unfold ml_gf at h
  split at h
  · rename_i c fs hr
    split at h
    · rename_i hc
      subst hc
      refine ⟨fun q e => ?_, r, fs.map (xm_e (ml_ad base b0)), ml_wl_ad hG hr, by rw [List.getElem?_map, h]; rfl⟩
      subst e
      exact Or.inl (hG.2 _ (List.mem_of_getElem? hr) q (List.mem_of_getElem? h))
    · cases h
  · cases h
theorem ml_fit {ty : FieldType} {v : xm_V Nat} (h : ml_ok ty v = true) : narrow ty (xm_e (ml_ad base b0) v) = xm_e (ml_ad base b0) v ∧ fits ty (xm_e (ml_ad base b0) v) = true := by
  unfold ml_ok at h
  split at h
  · exact ⟨rfl, rfl⟩
  · simp only [decide_eq_true_eq] at h
    rcases h with rfl | rfl <;> exact ⟨rfl, rfl⟩
  · rename_i v
    cases v <;> exact ⟨rfl, rfl⟩
  · rename_i v
    cases v <;> exact ⟨rfl, rfl⟩
  · cases h
theorem ml_lpf : xm_lpf (ml_I L0 xs0) (ml_ad base b0) (ml_wl base b0 tys) ml_Lv ml_Gd List.length := by
  intro s r ci k v t hG hL hv h
  replace h : ml_pf s r ci k v = some t := h
  unfold ml_pf at h
  split at h
  · rename_i c fs hr
    split at h
    · rename_i hc
      obtain ⟨rfl, hk, hok, hvk⟩ := hc
      cases h
      have hrl := (List.getElem?_eq_some_iff.mp hr).1
      have hv : ∀ q, v = .inr (some q) → q < s.length := fun q e => by
        subst e
        simpa [ml_vk] using hvk
      refine ⟨ml_kp_set hG ?_, ml_fit base b0 hok, r, fs.map (xm_e (ml_ad base b0)), ml_wl_ad hG hr, by rw [List.length_map]; exact hk, ?_⟩
      · intro q hq
        rcases List.mem_or_eq_of_mem_set hq with h1 | h1
        · exact hG.2 _ (List.mem_of_getElem? hr) q h1
        · exact hv q h1.symm
      · rw [ml_wl_set hrl, ml_ad_l hG hrl]
        show List.set _ r (base + r, Sum.inr (c, (fs.set k v).map _)) = _
        rw [List.map_set]
    · cases h
  · cases h
theorem ml_E0 {t n : Nat} {f : Nat → Int32} {c : ClassId} {ty : FieldType} (hc : tys[t]? = some (c, ty)) : ml_E base b0 tys (.inl (t, n, f)) = .inl (c, n, .inl f) := by
  show Sum.inl ((tys.getD t (0, .int)).1, n, _) = _
  rw [List.getD_eq_getElem?_getD, hc]
  rfl
theorem ml_Eq {t n : Nat} {f : Nat → Option Nat} {c : ClassId} {ty : FieldType} (hc : tys[t]? = some (c, ty)) : ml_E base b0 tys (.inr (.inl (t, n, f))) = .inl (c, n, .inr (.inr (.inr (.inr (fun j => (f j).map (ml_ad base b0)))))) := by
  show Sum.inl ((tys.getD t (0, .int)).1, n, _) = _
  rw [List.getD_eq_getElem?_getD, hc]
  rfl
/-- the types of the arrays -/
def ml_ty (tys : List (ClassId × FieldType)) : Prop := (∀ t, t < 2 → ∃ c, tys[t]? = some (c, xt_tt t)) ∧ (∃ c, tys[2]? = some (c, .array .int)) ∧ ∀ t, 3 ≤ t → t < 6 → ∃ c, tys[t]? = some (c, .object (xt_an t))
variable {tys}
theorem ml_tyr (ht : ml_ty tys) {t : Nat} (h2 : 2 ≤ t) (h6 : t < 6) : ∃ c ty, tys[t]? = some (c, ty) ∧ ty.isReference = true := by
  by_cases h : t = 2
  · subst h
    obtain ⟨c, hc⟩ := ht.2.1
    exact ⟨c, _, hc, rfl⟩
  · obtain ⟨c, hc⟩ := ht.2.2 t (by omega) h6
    exact ⟨c, _, hc, rfl⟩
theorem ml_lal (ht : ml_ty tys) : xm_lal (ml_I L0 xs0) (ml_ad base b0) (ml_wl base b0 tys) ml_Lv ml_Gd tys b0 L0 xs0 := by
  intro s t r i x ht2 hG hL h
  replace h : ml_al L0 xs0 s t r i = some x := h
  unfold ml_al at h
  split at h
  · rename_i h9
    split at h
    · rename_i hc
      cases h
      exact Or.inr ⟨hc.1, by unfold ml_ad; rw [if_pos h9], hc.2, rfl⟩
    · cases h
  · split at h
    · rename_i u n f hr
      split at h
      · rename_i hc
        obtain ⟨rfl, hin⟩ := hc
        cases h
        obtain ⟨c, hc⟩ := ht.1 u ht2
        exact Or.inl ⟨r, c, n, f, by rw [ml_wl_ad hG hr, ml_E0 base b0 tys hc], hc, hin, rfl⟩
      · cases h
    · cases h
theorem ml_las (ht : ml_ty tys) : xm_las (ml_I L0 xs0) (ml_ad base b0) (ml_wl base b0 tys) ml_Lv ml_Gd List.length tys := by
  intro s t r i x u ht2 hG hL h
  replace h : ml_as s t r i x = some u := h
  unfold ml_as at h
  split at h
  · rename_i w n f hr
    split at h
    · rename_i hc
      obtain ⟨rfl, hin⟩ := hc
      cases h
      obtain ⟨c, hc⟩ := ht.1 w ht2
      have hrl := (List.getElem?_eq_some_iff.mp hr).1
      exact ⟨ml_kp_set hG trivial, r, c, n, f, by rw [ml_wl_ad hG hr, ml_E0 base b0 tys hc], hc, hin, by rw [ml_wl_set hrl, ml_ad_l hG hrl, ml_E0 base b0 tys hc]⟩
    · cases h
  · cases h
theorem ml_lrl (ht : ml_ty tys) : xm_lrl (ml_I L0 xs0) (ml_ad base b0) (ml_wl base b0 tys) ml_Lv ml_Gd tys := by
  intro s r i v hG hL h
  replace h : ml_rl s r i = some v := h
  unfold ml_rl at h
  split at h
  · rename_i t n f hr
    split at h
    · rename_i hc
      obtain ⟨h2, h6, hin⟩ := hc
      cases h
      obtain ⟨c, ty, hc, hrf⟩ := ml_tyr ht h2 h6
      refine ⟨fun q e => ?_, r, t, c, ty, n, _, by rw [ml_wl_ad hG hr, ml_Eq base b0 tys hc], hc, hrf, hin, ?_⟩
      · have e : f i.toNatClampNeg = some q := by injection e
        exact Or.inl (hG.2 _ (List.mem_of_getElem? hr) _ q (Nat.not_le.mp fun q => hin (Or.inr q)) e)
      · show va_rf ((f i.toNatClampNeg).map (ml_ad base b0)) = _
        cases f i.toNatClampNeg <;> rfl
    · cases h
  · cases h
theorem ml_lrs (ht : ml_ty tys) : xm_lrs (ml_I L0 xs0) (ml_ad base b0) (ml_wl base b0 tys) ml_Lv ml_Gd List.length tys := by
  intro s r i w u hG hL hw h
  replace h : ml_rs s r i w = some u := h
  unfold ml_rs at h
  split at h
  · rename_i t n f c fs hr hww
    split at h
    · rename_i hc
      obtain ⟨h3, h6, h13, han, hin⟩ := hc
      cases h
      obtain ⟨cA, hcA⟩ := ht.2.2 t h3 h6
      obtain ⟨row, hrow, hrn⟩ := xt_csq c h13
      have hrl := (List.getElem?_eq_some_iff.mp hr).1
      refine ⟨ml_kp_set hG ?_, r, t, w, c, cA, row, n, fs.map (xm_e (ml_ad base b0)), _, by rw [ml_wl_ad hG hr, ml_Eq base b0 tys hcA], by rw [hrn, ← han]; exact hcA, ml_wl_ad hG hww, hrow, hin, ?_⟩
      · intro j q hj hq
        unfold va_up at hq
        split at hq
        · cases hq
          exact (List.getElem?_eq_some_iff.mp hww).1
        · exact hG.2 _ (List.mem_of_getElem? hr) j q hj hq
      · rw [ml_wl_set hrl, ml_ad_l hG hrl, ml_Eq base b0 tys hcA]
        congr 9
        funext j
        unfold va_up
        split <;> rfl
    · cases h
  · cases h
theorem ml_lln (ht : ml_ty tys) : xm_lln (ml_I L0 xs0) (ml_ad base b0) (ml_wl base b0 tys) ml_Lv ml_Gd tys b0 L0 := by
  intro s r n hG hL h
  replace h : ml_ln L0 s r = some n := h
  unfold ml_ln at h
  split at h
  · rename_i h9
    cases h
    exact Or.inr ⟨by unfold ml_ad; rw [if_pos h9], rfl⟩
  · split at h
    · rename_i t k f hr
      split at h
      · rename_i h2
        cases h
        obtain ⟨c, hc⟩ := ht.1 t h2
        exact Or.inl ⟨r, t, c, (n, .inl f), _, by rw [ml_wl_ad hG hr, ml_E0 base b0 tys hc], hc, rfl⟩
      · cases h
    · rename_i t k f hr
      split at h
      · rename_i h2
        cases h
        obtain ⟨c, ty, hc, -⟩ := ml_tyr ht h2.1 h2.2
        exact Or.inl ⟨r, t, c, (n, _), ty, by rw [ml_wl_ad hG hr, ml_Eq base b0 tys hc], hc, rfl⟩
      · cases h
    · cases h
theorem ml_loc : xm_loc (ml_I L0 xs0) (ml_ad base b0) (ml_wl base b0 tys) ml_Lv ml_Gd := by
  intro s ci r hG hL h
  replace h : ml_oc s ci r = true := h
  unfold ml_oc at h
  split at h
  · rename_i c fs hr
    simp only [decide_eq_true_eq] at h
    subst h
    exact ⟨r, _, ml_wl_ad hG hr⟩
  · cases h
theorem ml_dfv (ty : FieldType) (h : ty = .int ∨ ty = .boolean ∨ (∃ C, ty = .object C) ∨ ∃ t, ty = .array t) : defaultValue ty = xm_e (ml_ad base b0) (ml_df ty) := by
  rcases h with rfl | rfl | ⟨C, rfl⟩ | ⟨t, rfl⟩ <;> rfl
theorem ml_lnw : xm_lnw True (ml_I L0 xs0) (ml_ad base b0) (ml_wl base b0 tys) ml_Lv ml_Gd List.length base := by
  intro s ci r u hG h
  replace h : ml_nw s ci = some (r, u) := h
  unfold ml_nw at h
  split at h
  · rename_i q hq
    split at h
    · cases h
    · rename_i hl
      cases h
      have hl : s.length < 1000 := by omega
      obtain ⟨k1, k2⟩ := ml_kp_app (q := .inr (.inr (ci, (List.range q.2.2).map fun k => ml_df (xt_ft ci k)))) hG hl (fun r hr => by
        obtain ⟨k, -, hk⟩ := List.mem_map.mp hr
        unfold ml_df at hk
        split at hk <;> cases hk)
      refine ⟨trivial, k1, k2, ml_adr hl, _, by rw [ml_adr hl]; exact ml_wl_app, fun row hrow j hj => ?_⟩
      cases hq.symm.trans hrow
      show _ = vp_V (List.map _ (List.map _ _)) j
      unfold vp_V
      rw [List.getD_eq_getElem?_getD, List.getElem?_map, List.getElem?_map, List.getElem?_range hj]
      exact ml_dfv base b0 _ (xt_ftq hrow hj)
  · cases h
theorem ml_lna (ht : ml_ty tys) : xm_lna True (ml_I L0 xs0) (ml_ad base b0) (ml_wl base b0 tys) ml_Lv ml_Gd List.length tys base := by
  intro s t n r u ht2 hG h
  replace h : ml_na s t n = some (r, u) := h
  unfold ml_na at h
  split at h
  · rename_i hc
    cases h
    obtain ⟨c, hc'⟩ := ht.1 t ht2
    obtain ⟨k1, k2⟩ := ml_kp_app (q := .inl (t, n, fun _ => 0)) hG hc.2.2 trivial
    exact ⟨trivial, k1, k2, ml_adr hc.2.2, hc.2.1, c, hc', by rw [ml_adr hc.2.2, ml_wl_app, ml_E0 base b0 tys hc']⟩
  · cases h
theorem ml_lnr (ht : ml_ty tys) : xm_lnr True (ml_I L0 xs0) (ml_ad base b0) (ml_wl base b0 tys) ml_Lv ml_Gd List.length tys base := by
  intro s t n r u hG h
  replace h : ml_nr s t n = some (r, u) := h
  unfold ml_nr at h
  split at h
  · rename_i hc
    cases h
    obtain ⟨c, hc'⟩ := ht.2.2 t hc.1 hc.2.1
    obtain ⟨k1, k2⟩ := ml_kp_app (q := .inr (.inl (t, n, fun _ => none))) hG hc.2.2.2 (fun _ _ _ h => by cases h)
    exact ⟨trivial, k1, k2, ml_adr hc.2.2.2, hc.2.2.1, c, hc', by rw [ml_adr hc.2.2.2, ml_wl_app, ml_Eq base b0 tys hc']; rfl⟩
  · cases h
theorem ml_lnm (ht : ml_ty tys) : xm_lnm True (ml_I L0 xs0) (ml_ad base b0) (ml_wl base b0 tys) ml_Lv ml_Gd List.length tys base := by
  intro s n k r u hG h
  replace h : ml_nm s n k = some (r, u) := h
  unfold ml_nm at h
  split at h
  · rename_i hc
    obtain ⟨rfl, rfl, hl⟩ := hc
    cases h
    obtain ⟨cI, hI⟩ := ht.1 0 (by decide)
    obtain ⟨cA, hA⟩ := ht.2.1
    have hin : ∀ q ∈ ([.inr (.inl (2, 4, fun j => if j < 4 then some (s.length + 1 + j) else none)), .inl (0, 40, fun _ => 0), .inl (0, 40, fun _ => 0), .inl (0, 40, fun _ => 0), .inl (0, 40, fun _ => 0)] : List ml_C), ml_in (s.length + 5) q := by
      intro q hq
      simp only [List.mem_cons, List.not_mem_nil, or_false] at hq
      rcases hq with rfl | rfl | rfl | rfl | rfl
      · intro j r hj hr
        have hr : (if j < 4 then some (s.length + 1 + j) else none) = some r := hr
        rw [if_pos hj] at hr
        cases hr
        omega
      · trivial
      · trivial
      · trivial
      · trivial
    refine ⟨trivial, rfl, rfl, ⟨⟨by rw [List.length_append]; show s.length + 5 ≤ 1000; omega, fun q hq => ?_⟩, by rw [List.length_append]; rfl, fun q hq => ?_⟩, Or.inl (by rw [List.length_append]; show s.length < s.length + 5; omega), ml_adr (by omega), cI, cA, fun j => (if j < 4 then some (s.length + 1 + j) else none).map (ml_ad base b0), hI, hA, fun j hj => ?_, ?_⟩
    · rw [List.length_append]
      rcases List.mem_append.mp hq with h1 | h1
      · exact ml_in_mono (Nat.le_add_right _ _) (hG.2 q h1)
      · exact hin q h1
    · rcases hq with h1 | h1
      · exact Or.inl (by rw [List.length_append]; omega)
      · exact Or.inr h1
    · show (if j < 4 then some (s.length + 1 + j) else none).map (ml_ad base b0) = _
      rw [if_pos hj]
      show some (ml_ad base b0 (s.length + 1 + j)) = _
      unfold ml_ad
      rw [if_neg (by omega)]
      congr 1
      omega
    · unfold ml_wl
      rw [List.mapIdx_append]
      congr 1
      have e0 := ml_E0 base b0 tys (n := 40) (f := fun _ => 0) hI
      have e2 := ml_Eq base b0 tys (n := 4) (f := fun j => if j < 4 then some (s.length + 1 + j) else none) hA
      simp only [List.mapIdx_cons, List.mapIdx_nil, e0, e2, List.range_succ, List.range_zero, List.map_append, List.map_cons, List.map_nil, List.nil_append, List.cons_append, List.append_nil]
      simp [Nat.add_comm, Nat.add_left_comm, Nat.add_assoc]
      omega
  · cases h
theorem ml_Lw (ht : ml_ty tys) : xm_Lw True (ml_I L0 xs0) (ml_ad base b0) (ml_wl base b0 tys) ml_Lv ml_Gd List.length tys base b0 L0 xs0 :=
  ⟨fun s _ => ml_D s, ml_lgf base b0 L0 xs0 tys, ml_lpf base b0 L0 xs0 tys, ml_lal base b0 L0 xs0 ht, ml_las base b0 L0 xs0 ht, ml_lrl base b0 L0 xs0 ht, ml_lrs base b0 L0 xs0 ht, ml_lln base b0 L0 xs0 ht, ml_loc base b0 L0 xs0, ml_lnw base b0 L0 xs0, ml_lna base b0 L0 xs0 ht, ml_lnr base b0 L0 xs0 ht, ml_lnm base b0 L0 xs0 ht, fun _ _ _ _ _ _ _ _ _ _ h => by cases h⟩
end
end MLL
end
