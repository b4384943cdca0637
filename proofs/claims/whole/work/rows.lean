section
-- ===== PART A: goes FIRST, ahead of the names: the tables' words, and 'selects' of the private methods out of them =====
/-- a private method of a class that the tables say can be made, by its rows of tables_1 -/
def lw_okq (q : MethodName × Nat) : Prop := (q.1.cls ≠ "java/lang/invoke/MethodHandle" ∧ q.1.cls ≠ "java/lang/invoke/VarHandle") ∧ Cond.instantiable q.1.cls q.2 ∈ tables_1 ∧ Cond.privateMethod q.1 ∈ tables_1 ∧ Cond.instanceMethod q.1 ∈ tables_1
theorem lw_p0 : lw_okq (⟨"PeerStorage$History", "dropOldest", "()V"⟩, 2) := ⟨⟨by decide +kernel, by decide +kernel⟩, List.mem_of_getElem? (i := 100) (by decide +kernel), List.mem_of_getElem? (i := 179) (by decide +kernel), List.mem_of_getElem? (i := 180) (by decide +kernel)⟩
theorem lw_p1 : lw_okq (⟨"PeerStorage$State", "move", "(II)Z"⟩, 4) := ⟨⟨by decide +kernel, by decide +kernel⟩, List.mem_of_getElem? (i := 22) (by decide +kernel), List.mem_of_getElem? (i := 243) (by decide +kernel), List.mem_of_getElem? (i := 244) (by decide +kernel)⟩
theorem lw_p2 : lw_okq (⟨"PeerStorage$State", "findPlace", "(I)I"⟩, 4) := ⟨⟨by decide +kernel, by decide +kernel⟩, List.mem_of_getElem? (i := 22) (by decide +kernel), List.mem_of_getElem? (i := 247) (by decide +kernel), List.mem_of_getElem? (i := 248) (by decide +kernel)⟩
theorem lw_p3 : lw_okq (⟨"PeerStorage$State", "takeOff", "(II)V"⟩, 4) := ⟨⟨by decide +kernel, by decide +kernel⟩, List.mem_of_getElem? (i := 22) (by decide +kernel), List.mem_of_getElem? (i := 267) (by decide +kernel), List.mem_of_getElem? (i := 268) (by decide +kernel)⟩
theorem lw_p4 : lw_okq (⟨"PeerStorage$State", "putOn", "(IIII)V"⟩, 4) := ⟨⟨by decide +kernel, by decide +kernel⟩, List.mem_of_getElem? (i := 22) (by decide +kernel), List.mem_of_getElem? (i := 283) (by decide +kernel), List.mem_of_getElem? (i := 284) (by decide +kernel)⟩
theorem lw_p5 : lw_okq (⟨"PeerStorage$Decoder", "setUp", "(LPeerStorage$Files;II)V"⟩, 2) := ⟨⟨by decide +kernel, by decide +kernel⟩, List.mem_of_getElem? (i := 131) (by decide +kernel), List.mem_of_getElem? (i := 479) (by decide +kernel), List.mem_of_getElem? (i := 480) (by decide +kernel)⟩
theorem lw_p6 : lw_okq (⟨"PeerStorage$Decoder", "eliminate", "(I)V"⟩, 2) := ⟨⟨by decide +kernel, by decide +kernel⟩, List.mem_of_getElem? (i := 131) (by decide +kernel), List.mem_of_getElem? (i := 490) (by decide +kernel), List.mem_of_getElem? (i := 491) (by decide +kernel)⟩
theorem lw_p7 : lw_okq (⟨"PeerStorage$Decoder", "swapRows", "(II)V"⟩, 2) := ⟨⟨by decide +kernel, by decide +kernel⟩, List.mem_of_getElem? (i := 131) (by decide +kernel), List.mem_of_getElem? (i := 494) (by decide +kernel), List.mem_of_getElem? (i := 495) (by decide +kernel)⟩
theorem lw_p8 : lw_okq (⟨"PeerStorage$Decoder", "scaleRow", "(II)V"⟩, 2) := ⟨⟨by decide +kernel, by decide +kernel⟩, List.mem_of_getElem? (i := 131) (by decide +kernel), List.mem_of_getElem? (i := 498) (by decide +kernel), List.mem_of_getElem? (i := 499) (by decide +kernel)⟩
theorem lw_p9 : lw_okq (⟨"PeerStorage$Decoder", "subtractRow", "(III)V"⟩, 2) := ⟨⟨by decide +kernel, by decide +kernel⟩, List.mem_of_getElem? (i := 131) (by decide +kernel), List.mem_of_getElem? (i := 502) (by decide +kernel), List.mem_of_getElem? (i := 503) (by decide +kernel)⟩
theorem lw_p10 : lw_okq (⟨"PeerStorage$Challenge", "append", "(I)V"⟩, 2) := ⟨⟨by decide +kernel, by decide +kernel⟩, List.mem_of_getElem? (i := 117) (by decide +kernel), List.mem_of_getElem? (i := 526) (by decide +kernel), List.mem_of_getElem? (i := 527) (by decide +kernel)⟩
theorem lw_p11 : lw_okq (⟨"PeerStorage$State", "renew", "(II)Z"⟩, 4) := ⟨⟨by decide +kernel, by decide +kernel⟩, List.mem_of_getElem? (i := 22) (by decide +kernel), List.mem_of_getElem? (i := 556) (by decide +kernel), List.mem_of_getElem? (i := 557) (by decide +kernel)⟩
theorem lw_p12 : lw_okq (⟨"PeerStorage$State", "oweReaders", "(I)V"⟩, 4) := ⟨⟨by decide +kernel, by decide +kernel⟩, List.mem_of_getElem? (i := 22) (by decide +kernel), List.mem_of_getElem? (i := 560) (by decide +kernel), List.mem_of_getElem? (i := 561) (by decide +kernel)⟩
theorem lw_p13 : lw_okq (⟨"PeerStorage$State", "canBreak", "(II)Z"⟩, 4) := ⟨⟨by decide +kernel, by decide +kernel⟩, List.mem_of_getElem? (i := 22) (by decide +kernel), List.mem_of_getElem? (i := 589) (by decide +kernel), List.mem_of_getElem? (i := 590) (by decide +kernel)⟩
theorem lw_p14 : lw_okq (⟨"PeerStorage", "planNextLeaver", "()Z"⟩, 6) := ⟨⟨by decide +kernel, by decide +kernel⟩, List.mem_of_getElem? (i := 14) (by decide +kernel), List.mem_of_getElem? (i := 609) (by decide +kernel), List.mem_of_getElem? (i := 610) (by decide +kernel)⟩
theorem lw_p15 : lw_okq (⟨"PeerStorageModel", "isPeer", "(I)Z"⟩, 6) := ⟨⟨by decide +kernel, by decide +kernel⟩, List.mem_of_getElem? (i := 650) (by decide +kernel), List.mem_of_getElem? (i := 682) (by decide +kernel), List.mem_of_getElem? (i := 683) (by decide +kernel)⟩
def lw_privs_1 : List (MethodName × Nat) := [(⟨"PeerStorage$History", "dropOldest", "()V"⟩, 2), (⟨"PeerStorage$State", "move", "(II)Z"⟩, 4), (⟨"PeerStorage$State", "findPlace", "(I)I"⟩, 4), (⟨"PeerStorage$State", "takeOff", "(II)V"⟩, 4), (⟨"PeerStorage$State", "putOn", "(IIII)V"⟩, 4), (⟨"PeerStorage$Decoder", "setUp", "(LPeerStorage$Files;II)V"⟩, 2), (⟨"PeerStorage$Decoder", "eliminate", "(I)V"⟩, 2), (⟨"PeerStorage$Decoder", "swapRows", "(II)V"⟩, 2), (⟨"PeerStorage$Decoder", "scaleRow", "(II)V"⟩, 2), (⟨"PeerStorage$Decoder", "subtractRow", "(III)V"⟩, 2), (⟨"PeerStorage$Challenge", "append", "(I)V"⟩, 2), (⟨"PeerStorage$State", "renew", "(II)Z"⟩, 4), (⟨"PeerStorage$State", "oweReaders", "(I)V"⟩, 4), (⟨"PeerStorage$State", "canBreak", "(II)Z"⟩, 4), (⟨"PeerStorage", "planNextLeaver", "()Z"⟩, 6), (⟨"PeerStorageModel", "isPeer", "(I)Z"⟩, 6)]
theorem lw_r1 : ∀ q ∈ lw_privs_1, lw_okq q := List.forall_mem_cons.mpr ⟨lw_p0, List.forall_mem_cons.mpr ⟨lw_p1, List.forall_mem_cons.mpr ⟨lw_p2, List.forall_mem_cons.mpr ⟨lw_p3, List.forall_mem_cons.mpr ⟨lw_p4, List.forall_mem_cons.mpr ⟨lw_p5, List.forall_mem_cons.mpr ⟨lw_p6, List.forall_mem_cons.mpr ⟨lw_p7, List.forall_mem_cons.mpr ⟨lw_p8, List.forall_mem_cons.mpr ⟨lw_p9, List.forall_mem_cons.mpr ⟨lw_p10, List.forall_mem_cons.mpr ⟨lw_p11, List.forall_mem_cons.mpr ⟨lw_p12, List.forall_mem_cons.mpr ⟨lw_p13, List.forall_mem_cons.mpr ⟨lw_p14, List.forall_mem_cons.mpr ⟨lw_p15, fun _ h => absurd h List.not_mem_nil⟩⟩⟩⟩⟩⟩⟩⟩⟩⟩⟩⟩⟩⟩⟩⟩
theorem lw_p16 : lw_okq (⟨"PeerStorageModel", "keeps", "()V"⟩, 6) := ⟨⟨by decide +kernel, by decide +kernel⟩, List.mem_of_getElem? (i := 650) (by decide +kernel), List.mem_of_getElem? (i := 686) (by decide +kernel), List.mem_of_getElem? (i := 687) (by decide +kernel)⟩
theorem lw_p17 : lw_okq (⟨"PeerStorageModel", "owned", "(I)I"⟩, 6) := ⟨⟨by decide +kernel, by decide +kernel⟩, List.mem_of_getElem? (i := 650) (by decide +kernel), List.mem_of_getElem? (i := 694) (by decide +kernel), List.mem_of_getElem? (i := 695) (by decide +kernel)⟩
theorem lw_p18 : lw_okq (⟨"PeerStorageModel", "isFile", "(I)Z"⟩, 6) := ⟨⟨by decide +kernel, by decide +kernel⟩, List.mem_of_getElem? (i := 650) (by decide +kernel), List.mem_of_getElem? (i := 698) (by decide +kernel), List.mem_of_getElem? (i := 699) (by decide +kernel)⟩
theorem lw_p19 : lw_okq (⟨"PeerStorageModel", "of", "(II)I"⟩, 6) := ⟨⟨by decide +kernel, by decide +kernel⟩, List.mem_of_getElem? (i := 650) (by decide +kernel), List.mem_of_getElem? (i := 702) (by decide +kernel), List.mem_of_getElem? (i := 703) (by decide +kernel)⟩
theorem lw_p20 : lw_okq (⟨"PeerStorageModel", "isOnline", "(I)Z"⟩, 6) := ⟨⟨by decide +kernel, by decide +kernel⟩, List.mem_of_getElem? (i := 650) (by decide +kernel), List.mem_of_getElem? (i := 709) (by decide +kernel), List.mem_of_getElem? (i := 710) (by decide +kernel)⟩
theorem lw_p21 : lw_okq (⟨"PeerStorageModel", "leaves", "(I)I"⟩, 6) := ⟨⟨by decide +kernel, by decide +kernel⟩, List.mem_of_getElem? (i := 650) (by decide +kernel), List.mem_of_getElem? (i := 713) (by decide +kernel), List.mem_of_getElem? (i := 714) (by decide +kernel)⟩
theorem lw_p22 : lw_okq (⟨"PeerStorageModel", "fragments", "(I)I"⟩, 6) := ⟨⟨by decide +kernel, by decide +kernel⟩, List.mem_of_getElem? (i := 650) (by decide +kernel), List.mem_of_getElem? (i := 717) (by decide +kernel), List.mem_of_getElem? (i := 718) (by decide +kernel)⟩
theorem lw_p23 : lw_okq (⟨"PeerStorageModel", "places", "(III)Z"⟩, 6) := ⟨⟨by decide +kernel, by decide +kernel⟩, List.mem_of_getElem? (i := 650) (by decide +kernel), List.mem_of_getElem? (i := 721) (by decide +kernel), List.mem_of_getElem? (i := 722) (by decide +kernel)⟩
theorem lw_p24 : lw_okq (⟨"PeerStorageModel", "free", "(I)I"⟩, 6) := ⟨⟨by decide +kernel, by decide +kernel⟩, List.mem_of_getElem? (i := 650) (by decide +kernel), List.mem_of_getElem? (i := 725) (by decide +kernel), List.mem_of_getElem? (i := 726) (by decide +kernel)⟩
theorem lw_p25 : lw_okq (⟨"PeerStorageModel", "stores", "(II)Z"⟩, 6) := ⟨⟨by decide +kernel, by decide +kernel⟩, List.mem_of_getElem? (i := 650) (by decide +kernel), List.mem_of_getElem? (i := 729) (by decide +kernel), List.mem_of_getElem? (i := 730) (by decide +kernel)⟩
theorem lw_p26 : lw_okq (⟨"PeerStorageModel", "owes", "(III)V"⟩, 6) := ⟨⟨by decide +kernel, by decide +kernel⟩, List.mem_of_getElem? (i := 650) (by decide +kernel), List.mem_of_getElem? (i := 733) (by decide +kernel), List.mem_of_getElem? (i := 734) (by decide +kernel)⟩
theorem lw_p27 : lw_okq (⟨"PeerStorageModel", "goes", "(I)V"⟩, 6) := ⟨⟨by decide +kernel, by decide +kernel⟩, List.mem_of_getElem? (i := 650) (by decide +kernel), List.mem_of_getElem? (i := 740) (by decide +kernel), List.mem_of_getElem? (i := 741) (by decide +kernel)⟩
theorem lw_p28 : lw_okq (⟨"PeerStorageModel", "deletes", "(I)V"⟩, 6) := ⟨⟨by decide +kernel, by decide +kernel⟩, List.mem_of_getElem? (i := 650) (by decide +kernel), List.mem_of_getElem? (i := 748) (by decide +kernel), List.mem_of_getElem? (i := 749) (by decide +kernel)⟩
theorem lw_p29 : lw_okq (⟨"PeerStorageModel", "files", "()I"⟩, 6) := ⟨⟨by decide +kernel, by decide +kernel⟩, List.mem_of_getElem? (i := 650) (by decide +kernel), List.mem_of_getElem? (i := 776) (by decide +kernel), List.mem_of_getElem? (i := 777) (by decide +kernel)⟩
theorem lw_p30 : lw_okq (⟨"PeerStorageModel", "storedOf", "(I)I"⟩, 6) := ⟨⟨by decide +kernel, by decide +kernel⟩, List.mem_of_getElem? (i := 650) (by decide +kernel), List.mem_of_getElem? (i := 788) (by decide +kernel), List.mem_of_getElem? (i := 789) (by decide +kernel)⟩
theorem lw_p31 : lw_okq (⟨"PeerStorageModel", "good", "(I)I"⟩, 6) := ⟨⟨by decide +kernel, by decide +kernel⟩, List.mem_of_getElem? (i := 650) (by decide +kernel), List.mem_of_getElem? (i := 792) (by decide +kernel), List.mem_of_getElem? (i := 793) (by decide +kernel)⟩
def lw_privs_2 : List (MethodName × Nat) := [(⟨"PeerStorageModel", "keeps", "()V"⟩, 6), (⟨"PeerStorageModel", "owned", "(I)I"⟩, 6), (⟨"PeerStorageModel", "isFile", "(I)Z"⟩, 6), (⟨"PeerStorageModel", "of", "(II)I"⟩, 6), (⟨"PeerStorageModel", "isOnline", "(I)Z"⟩, 6), (⟨"PeerStorageModel", "leaves", "(I)I"⟩, 6), (⟨"PeerStorageModel", "fragments", "(I)I"⟩, 6), (⟨"PeerStorageModel", "places", "(III)Z"⟩, 6), (⟨"PeerStorageModel", "free", "(I)I"⟩, 6), (⟨"PeerStorageModel", "stores", "(II)Z"⟩, 6), (⟨"PeerStorageModel", "owes", "(III)V"⟩, 6), (⟨"PeerStorageModel", "goes", "(I)V"⟩, 6), (⟨"PeerStorageModel", "deletes", "(I)V"⟩, 6), (⟨"PeerStorageModel", "files", "()I"⟩, 6), (⟨"PeerStorageModel", "storedOf", "(I)I"⟩, 6), (⟨"PeerStorageModel", "good", "(I)I"⟩, 6)]
theorem lw_r2 : ∀ q ∈ lw_privs_2, lw_okq q := List.forall_mem_cons.mpr ⟨lw_p16, List.forall_mem_cons.mpr ⟨lw_p17, List.forall_mem_cons.mpr ⟨lw_p18, List.forall_mem_cons.mpr ⟨lw_p19, List.forall_mem_cons.mpr ⟨lw_p20, List.forall_mem_cons.mpr ⟨lw_p21, List.forall_mem_cons.mpr ⟨lw_p22, List.forall_mem_cons.mpr ⟨lw_p23, List.forall_mem_cons.mpr ⟨lw_p24, List.forall_mem_cons.mpr ⟨lw_p25, List.forall_mem_cons.mpr ⟨lw_p26, List.forall_mem_cons.mpr ⟨lw_p27, List.forall_mem_cons.mpr ⟨lw_p28, List.forall_mem_cons.mpr ⟨lw_p29, List.forall_mem_cons.mpr ⟨lw_p30, List.forall_mem_cons.mpr ⟨lw_p31, fun _ h => absurd h List.not_mem_nil⟩⟩⟩⟩⟩⟩⟩⟩⟩⟩⟩⟩⟩⟩⟩⟩
theorem lw_p32 : lw_okq (⟨"PeerStorageModel", "isGood", "(II)Z"⟩, 6) := ⟨⟨by decide +kernel, by decide +kernel⟩, List.mem_of_getElem? (i := 650) (by decide +kernel), List.mem_of_getElem? (i := 796) (by decide +kernel), List.mem_of_getElem? (i := 797) (by decide +kernel)⟩
theorem lw_p33 : lw_okq (⟨"PeerStorageModel", "isSafe", "(I)Z"⟩, 6) := ⟨⟨by decide +kernel, by decide +kernel⟩, List.mem_of_getElem? (i := 650) (by decide +kernel), List.mem_of_getElem? (i := 800) (by decide +kernel), List.mem_of_getElem? (i := 801) (by decide +kernel)⟩
theorem lw_p34 : lw_okq (⟨"PeerStorageModel", "isFragment", "(II)Z"⟩, 6) := ⟨⟨by decide +kernel, by decide +kernel⟩, List.mem_of_getElem? (i := 650) (by decide +kernel), List.mem_of_getElem? (i := 808) (by decide +kernel), List.mem_of_getElem? (i := 809) (by decide +kernel)⟩
theorem lw_p35 : lw_okq (⟨"PeerStorageModel", "valueOf", "(II)I"⟩, 6) := ⟨⟨by decide +kernel, by decide +kernel⟩, List.mem_of_getElem? (i := 650) (by decide +kernel), List.mem_of_getElem? (i := 812) (by decide +kernel), List.mem_of_getElem? (i := 813) (by decide +kernel)⟩
theorem lw_p36 : lw_okq (⟨"PeerStorageModel", "correct", "(II)I"⟩, 6) := ⟨⟨by decide +kernel, by decide +kernel⟩, List.mem_of_getElem? (i := 650) (by decide +kernel), List.mem_of_getElem? (i := 816) (by decide +kernel), List.mem_of_getElem? (i := 817) (by decide +kernel)⟩
theorem lw_p37 : lw_okq (⟨"PeerStorageModel", "solves", "(I)V"⟩, 6) := ⟨⟨by decide +kernel, by decide +kernel⟩, List.mem_of_getElem? (i := 650) (by decide +kernel), List.mem_of_getElem? (i := 831) (by decide +kernel), List.mem_of_getElem? (i := 832) (by decide +kernel)⟩
theorem lw_p38 : lw_okq (⟨"PeerStorageModel", "arePeers", "(II)Z"⟩, 6) := ⟨⟨by decide +kernel, by decide +kernel⟩, List.mem_of_getElem? (i := 650) (by decide +kernel), List.mem_of_getElem? (i := 843) (by decide +kernel), List.mem_of_getElem? (i := 844) (by decide +kernel)⟩
theorem lw_p39 : lw_okq (⟨"PeerStorageModel", "off", "(III)I"⟩, 6) := ⟨⟨by decide +kernel, by decide +kernel⟩, List.mem_of_getElem? (i := 650) (by decide +kernel), List.mem_of_getElem? (i := 847) (by decide +kernel), List.mem_of_getElem? (i := 848) (by decide +kernel)⟩
theorem lw_p40 : lw_okq (⟨"PeerStorageModel", "repairs", "(I)I"⟩, 6) := ⟨⟨by decide +kernel, by decide +kernel⟩, List.mem_of_getElem? (i := 650) (by decide +kernel), List.mem_of_getElem? (i := 859) (by decide +kernel), List.mem_of_getElem? (i := 860) (by decide +kernel)⟩
theorem lw_p41 : lw_okq (⟨"PeerStorageModel", "sources", "(I)I"⟩, 6) := ⟨⟨by decide +kernel, by decide +kernel⟩, List.mem_of_getElem? (i := 650) (by decide +kernel), List.mem_of_getElem? (i := 863) (by decide +kernel), List.mem_of_getElem? (i := 864) (by decide +kernel)⟩
theorem lw_p42 : lw_okq (⟨"PeerStorageModel", "peerSet", "()I"⟩, 6) := ⟨⟨by decide +kernel, by decide +kernel⟩, List.mem_of_getElem? (i := 650) (by decide +kernel), List.mem_of_getElem? (i := 879) (by decide +kernel), List.mem_of_getElem? (i := 880) (by decide +kernel)⟩
theorem lw_p43 : lw_okq (⟨"PeerStorageModel", "isBorne", "(I)Z"⟩, 6) := ⟨⟨by decide +kernel, by decide +kernel⟩, List.mem_of_getElem? (i := 650) (by decide +kernel), List.mem_of_getElem? (i := 886) (by decide +kernel), List.mem_of_getElem? (i := 887) (by decide +kernel)⟩
theorem lw_p44 : lw_okq (⟨"PeerStorageModel", "isHurt", "(II)Z"⟩, 6) := ⟨⟨by decide +kernel, by decide +kernel⟩, List.mem_of_getElem? (i := 650) (by decide +kernel), List.mem_of_getElem? (i := 890) (by decide +kernel), List.mem_of_getElem? (i := 891) (by decide +kernel)⟩
theorem lw_p45 : lw_okq (⟨"PeerStorageModel", "canGo", "(I)Z"⟩, 6) := ⟨⟨by decide +kernel, by decide +kernel⟩, List.mem_of_getElem? (i := 650) (by decide +kernel), List.mem_of_getElem? (i := 905) (by decide +kernel), List.mem_of_getElem? (i := 906) (by decide +kernel)⟩
def lw_privs_3 : List (MethodName × Nat) := [(⟨"PeerStorageModel", "isGood", "(II)Z"⟩, 6), (⟨"PeerStorageModel", "isSafe", "(I)Z"⟩, 6), (⟨"PeerStorageModel", "isFragment", "(II)Z"⟩, 6), (⟨"PeerStorageModel", "valueOf", "(II)I"⟩, 6), (⟨"PeerStorageModel", "correct", "(II)I"⟩, 6), (⟨"PeerStorageModel", "solves", "(I)V"⟩, 6), (⟨"PeerStorageModel", "arePeers", "(II)Z"⟩, 6), (⟨"PeerStorageModel", "off", "(III)I"⟩, 6), (⟨"PeerStorageModel", "repairs", "(I)I"⟩, 6), (⟨"PeerStorageModel", "sources", "(I)I"⟩, 6), (⟨"PeerStorageModel", "peerSet", "()I"⟩, 6), (⟨"PeerStorageModel", "isBorne", "(I)Z"⟩, 6), (⟨"PeerStorageModel", "isHurt", "(II)Z"⟩, 6), (⟨"PeerStorageModel", "canGo", "(I)Z"⟩, 6)]
theorem lw_r3 : ∀ q ∈ lw_privs_3, lw_okq q := List.forall_mem_cons.mpr ⟨lw_p32, List.forall_mem_cons.mpr ⟨lw_p33, List.forall_mem_cons.mpr ⟨lw_p34, List.forall_mem_cons.mpr ⟨lw_p35, List.forall_mem_cons.mpr ⟨lw_p36, List.forall_mem_cons.mpr ⟨lw_p37, List.forall_mem_cons.mpr ⟨lw_p38, List.forall_mem_cons.mpr ⟨lw_p39, List.forall_mem_cons.mpr ⟨lw_p40, List.forall_mem_cons.mpr ⟨lw_p41, List.forall_mem_cons.mpr ⟨lw_p42, List.forall_mem_cons.mpr ⟨lw_p43, List.forall_mem_cons.mpr ⟨lw_p44, List.forall_mem_cons.mpr ⟨lw_p45, fun _ h => absurd h List.not_mem_nil⟩⟩⟩⟩⟩⟩⟩⟩⟩⟩⟩⟩⟩⟩
def lw_privs : List (MethodName × Nat) := lw_privs_1 ++ (lw_privs_2 ++ (lw_privs_3))
def lw_tbl : List Cond := k2_sels lw_privs ++ tables_1
theorem lw_privs_ok : ∀ q ∈ lw_privs, lw_okq q := by
  show ∀ q ∈ lw_privs_1 ++ (lw_privs_2 ++ (lw_privs_3)), lw_okq q
  exact List.forall_mem_append.mpr ⟨lw_r1, List.forall_mem_append.mpr ⟨lw_r2, lw_r3⟩⟩
-- ===== end of PART A; then your names; then what follows =====
end
section
def RX0 : String := "PeerStorage$Challenge"
def TX0 : u_T := fun k => match k with
  | 0 => ("PeerStorage$Challenge", "errors", "[I", true)
  | _ => ("PeerStorage$Challenge", "number", "I", false)
def tyX0 : Nat → FieldType := fun k => match k with
  | 0 => .array .int
  | _ => .int
abbrev wsX00 : List Cond := u_ws RX0 TX0 2
theorem nmX0 : ∀ a, a < 2 → ∀ b, b < 2 → a ≠ b → (TX0 a).2.1 ≠ (TX0 b).2.1 := by decide +kernel
theorem tyX0_ok : ∀ k, k < 2 → parseFieldDescriptor (TX0 k).2.2.1 = some (tyX0 k) := by decide +kernel
abbrev cX0_init : ByteArray := prog_2_method_1_code
def yX0_init : MethodName := ⟨RX0, "<init>", "()V"⟩
abbrev cX0_lookAt : ByteArray := prog_2_method_2_code
def yX0_lookAt : MethodName := ⟨RX0, "lookAt", "(LPeerStorage$Files;II)V"⟩
abbrev cX0_append : ByteArray := prog_2_method_3_code
def yX0_append : MethodName := ⟨RX0, "append", "(I)V"⟩
abbrev cX0_isPassedWith : ByteArray := prog_2_method_4_code
def yX0_isPassedWith : MethodName := ⟨RX0, "isPassedWith", "(I)Z"⟩
def RX1 : String := "PeerStorage$Decoder"
def TX1 : u_T := fun k => match k with
  | 0 => ("PeerStorage$Decoder", "cells", "[I", true)
  | _ => ("PeerStorage$Decoder", "size", "I", false)
def tyX1 : Nat → FieldType := fun k => match k with
  | 0 => .array .int
  | _ => .int
abbrev wsX10 : List Cond := u_ws RX1 TX1 2
theorem nmX1 : ∀ a, a < 2 → ∀ b, b < 2 → a ≠ b → (TX1 a).2.1 ≠ (TX1 b).2.1 := by decide +kernel
theorem tyX1_ok : ∀ k, k < 2 → parseFieldDescriptor (TX1 k).2.2.1 = some (tyX1 k) := by decide +kernel
abbrev cX1_init : ByteArray := prog_3_method_1_code
def yX1_init : MethodName := ⟨RX1, "<init>", "()V"⟩
abbrev cX1_dataWord : ByteArray := prog_3_method_2_code
def yX1_dataWord : MethodName := ⟨RX1, "dataWord", "(LPeerStorage$Files;III)I"⟩
abbrev cX1_setUp : ByteArray := prog_3_method_3_code
def yX1_setUp : MethodName := ⟨RX1, "setUp", "(LPeerStorage$Files;II)V"⟩
abbrev cX1_factor : ByteArray := prog_3_method_4_code
def yX1_factor : MethodName := ⟨RX1, "factor", "(III)I"⟩
abbrev cX1_eliminate : ByteArray := prog_3_method_5_code
def yX1_eliminate : MethodName := ⟨RX1, "eliminate", "(I)V"⟩
abbrev cX1_swapRows : ByteArray := prog_3_method_6_code
def yX1_swapRows : MethodName := ⟨RX1, "swapRows", "(II)V"⟩
abbrev cX1_scaleRow : ByteArray := prog_3_method_7_code
def yX1_scaleRow : MethodName := ⟨RX1, "scaleRow", "(II)V"⟩
abbrev cX1_subtractRow : ByteArray := prog_3_method_8_code
def yX1_subtractRow : MethodName := ⟨RX1, "subtractRow", "(III)V"⟩
def RX2 : String := "PeerStorage$Files"
def TX2 : u_T := fun k => match k with
  | 0 => ("PeerStorage$Files", "dataNumber", "[I", true)
  | 1 => ("PeerStorage$Files", "parityNumber", "[I", true)
  | 2 => ("PeerStorage$Files", "owner", "[I", true)
  | 3 => ("PeerStorage$Files", "correct", "[I", true)
  | 4 => ("PeerStorage$Files", "place", "[I", true)
  | _ => ("PeerStorage$Files", "error", "[I", true)
def tyX2 : Nat → FieldType := fun k => match k with
  | 0 => .array .int
  | 1 => .array .int
  | 2 => .array .int
  | 3 => .array .int
  | 4 => .array .int
  | _ => .array .int
abbrev wsX20 : List Cond := u_ws RX2 TX2 6
theorem nmX2 : ∀ a, a < 6 → ∀ b, b < 6 → a ≠ b → (TX2 a).2.1 ≠ (TX2 b).2.1 := by decide +kernel
theorem tyX2_ok : ∀ k, k < 6 → parseFieldDescriptor (TX2 k).2.2.1 = some (tyX2 k) := by decide +kernel
abbrev cX2_init : ByteArray := prog_4_method_1_code
def yX2_init : MethodName := ⟨RX2, "<init>", "()V"⟩
abbrev cX2_copyFrom : ByteArray := prog_4_method_2_code
def yX2_copyFrom : MethodName := ⟨RX2, "copyFrom", "(LPeerStorage$Files;)V"⟩
abbrev cX2_exists : ByteArray := prog_4_method_3_code
def yX2_exists : MethodName := ⟨RX2, "exists", "(I)Z"⟩
abbrev cX2_dataOf : ByteArray := prog_4_method_4_code
def yX2_dataOf : MethodName := ⟨RX2, "dataOf", "(I)I"⟩
abbrev cX2_fragmentNumber : ByteArray := prog_4_method_5_code
def yX2_fragmentNumber : MethodName := ⟨RX2, "fragmentNumber", "(I)I"⟩
abbrev cX2_hasFragment : ByteArray := prog_4_method_6_code
def yX2_hasFragment : MethodName := ⟨RX2, "hasFragment", "(II)Z"⟩
abbrev cX2_hasData : ByteArray := prog_4_method_7_code
def yX2_hasData : MethodName := ⟨RX2, "hasData", "(II)Z"⟩
abbrev cX2_ownerOf : ByteArray := prog_4_method_8_code
def yX2_ownerOf : MethodName := ⟨RX2, "ownerOf", "(I)I"⟩
abbrev cX2_isInRows : ByteArray := prog_4_method_9_code
def yX2_isInRows : MethodName := ⟨RX2, "isInRows", "(II)Z"⟩
abbrev cX2_placeOf : ByteArray := prog_4_method_10_code
def yX2_placeOf : MethodName := ⟨RX2, "placeOf", "(II)I"⟩
abbrev cX2_correctValue : ByteArray := prog_4_method_11_code
def yX2_correctValue : MethodName := ⟨RX2, "correctValue", "(II)I"⟩
abbrev cX2_errorOf : ByteArray := prog_4_method_12_code
def yX2_errorOf : MethodName := ⟨RX2, "errorOf", "(II)I"⟩
abbrev cX2_storedValue : ByteArray := prog_4_method_13_code
def yX2_storedValue : MethodName := ⟨RX2, "storedValue", "(II)I"⟩
abbrev cX2_isStored : ByteArray := prog_4_method_14_code
def yX2_isStored : MethodName := ⟨RX2, "isStored", "(II)Z"⟩
abbrev cX2_isSpoiled : ByteArray := prog_4_method_15_code
def yX2_isSpoiled : MethodName := ⟨RX2, "isSpoiled", "(II)Z"⟩
abbrev cX2_fragmentOn : ByteArray := prog_4_method_16_code
def yX2_fragmentOn : MethodName := ⟨RX2, "fragmentOn", "(II)I"⟩
abbrev cX2_number : ByteArray := prog_4_method_17_code
def yX2_number : MethodName := ⟨RX2, "number", "()I"⟩
abbrev cX2_lowestUnused : ByteArray := prog_4_method_18_code
def yX2_lowestUnused : MethodName := ⟨RX2, "lowestUnused", "()I"⟩
abbrev cX2_ownedBy : ByteArray := prog_4_method_19_code
def yX2_ownedBy : MethodName := ⟨RX2, "ownedBy", "(I)I"⟩
abbrev cX2_storedNumber : ByteArray := prog_4_method_20_code
def yX2_storedNumber : MethodName := ⟨RX2, "storedNumber", "(I)I"⟩
abbrev cX2_spoiledNumber : ByteArray := prog_4_method_21_code
def yX2_spoiledNumber : MethodName := ⟨RX2, "spoiledNumber", "(I)I"⟩
abbrev cX2_allStored : ByteArray := prog_4_method_22_code
def yX2_allStored : MethodName := ⟨RX2, "allStored", "()I"⟩
abbrev cX2_allSpoiled : ByteArray := prog_4_method_23_code
def yX2_allSpoiled : MethodName := ⟨RX2, "allSpoiled", "()I"⟩
abbrev cX2_isDecodingSet : ByteArray := prog_4_method_24_code
def yX2_isDecodingSet : MethodName := ⟨RX2, "isDecodingSet", "(II)Z"⟩
abbrev cX2_isStoredSet : ByteArray := prog_4_method_25_code
def yX2_isStoredSet : MethodName := ⟨RX2, "isStoredSet", "(II)Z"⟩
abbrev cX2_add : ByteArray := prog_4_method_26_code
def yX2_add : MethodName := ⟨RX2, "add", "(II[III)V"⟩
abbrev cX2_parityWord : ByteArray := prog_4_method_27_code
def yX2_parityWord : MethodName := ⟨RX2, "parityWord", "([III)I"⟩
abbrev cX2_remove : ByteArray := prog_4_method_28_code
def yX2_remove : MethodName := ⟨RX2, "remove", "(I)V"⟩
abbrev cX2_setFragment : ByteArray := prog_4_method_29_code
def yX2_setFragment : MethodName := ⟨RX2, "setFragment", "(IIII)V"⟩
abbrev cX2_addError : ByteArray := prog_4_method_30_code
def yX2_addError : MethodName := ⟨RX2, "addError", "(III)V"⟩
def RX3 : String := "PeerStorage$History"
def TX3 : u_T := fun k => match k with
  | 0 => ("PeerStorage$History", "states", "[LPeerStorage$State;", true)
  | _ => ("PeerStorage$History", "number", "I", false)
def tyX3 : Nat → FieldType := fun k => match k with
  | 0 => .array (.object "PeerStorage$State")
  | _ => .int
abbrev wsX30 : List Cond := u_ws RX3 TX3 2
theorem nmX3 : ∀ a, a < 2 → ∀ b, b < 2 → a ≠ b → (TX3 a).2.1 ≠ (TX3 b).2.1 := by decide +kernel
theorem tyX3_ok : ∀ k, k < 2 → parseFieldDescriptor (TX3 k).2.2.1 = some (tyX3 k) := by decide +kernel
abbrev cX3_init : ByteArray := prog_5_method_1_code
def yX3_init : MethodName := ⟨RX3, "<init>", "()V"⟩
abbrev cX3_record : ByteArray := prog_5_method_2_code
def yX3_record : MethodName := ⟨RX3, "record", "(LPeerStorage$State;)V"⟩
abbrev cX3_dropOldest : ByteArray := prog_5_method_3_code
def yX3_dropOldest : MethodName := ⟨RX3, "dropOldest", "()V"⟩
abbrev cX3_restoreLatest : ByteArray := prog_5_method_4_code
def yX3_restoreLatest : MethodName := ⟨RX3, "restoreLatest", "(LPeerStorage$State;)V"⟩
def RX4 : String := "PeerStorage$Peers"
def TX4 : u_T := fun k => match k with
  | 0 => ("PeerStorage$Peers", "space", "[I", true)
  | 1 => ("PeerStorage$Peers", "online", "[I", true)
  | 2 => ("PeerStorage$Peers", "trust", "[I", true)
  | 3 => ("PeerStorage$Peers", "load", "[I", true)
  | _ => ("PeerStorage$Peers", "owed", "[I", true)
def tyX4 : Nat → FieldType := fun k => match k with
  | 0 => .array .int
  | 1 => .array .int
  | 2 => .array .int
  | 3 => .array .int
  | _ => .array .int
abbrev wsX40 : List Cond := u_ws RX4 TX4 5
theorem nmX4 : ∀ a, a < 5 → ∀ b, b < 5 → a ≠ b → (TX4 a).2.1 ≠ (TX4 b).2.1 := by decide +kernel
theorem tyX4_ok : ∀ k, k < 5 → parseFieldDescriptor (TX4 k).2.2.1 = some (tyX4 k) := by decide +kernel
abbrev cX4_init : ByteArray := prog_6_method_1_code
def yX4_init : MethodName := ⟨RX4, "<init>", "()V"⟩
abbrev cX4_copyFrom : ByteArray := prog_6_method_2_code
def yX4_copyFrom : MethodName := ⟨RX4, "copyFrom", "(LPeerStorage$Peers;)V"⟩
abbrev cX4_exists : ByteArray := prog_6_method_3_code
def yX4_exists : MethodName := ⟨RX4, "exists", "(I)Z"⟩
abbrev cX4_areTwo : ByteArray := prog_6_method_4_code
def yX4_areTwo : MethodName := ⟨RX4, "areTwo", "(II)Z"⟩
abbrev cX4_isOnline : ByteArray := prog_6_method_5_code
def yX4_isOnline : MethodName := ⟨RX4, "isOnline", "(I)Z"⟩
abbrev cX4_freeSpace : ByteArray := prog_6_method_6_code
def yX4_freeSpace : MethodName := ⟨RX4, "freeSpace", "(I)I"⟩
abbrev cX4_number : ByteArray := prog_6_method_7_code
def yX4_number : MethodName := ⟨RX4, "number", "()I"⟩
abbrev cX4_lowestUnused : ByteArray := prog_6_method_8_code
def yX4_lowestUnused : MethodName := ⟨RX4, "lowestUnused", "()I"⟩
abbrev cX4_onlineFreeSpace : ByteArray := prog_6_method_9_code
def yX4_onlineFreeSpace : MethodName := ⟨RX4, "onlineFreeSpace", "()I"⟩
abbrev cX4_add : ByteArray := prog_6_method_10_code
def yX4_add : MethodName := ⟨RX4, "add", "(II)V"⟩
abbrev cX4_remove : ByteArray := prog_6_method_11_code
def yX4_remove : MethodName := ⟨RX4, "remove", "(I)V"⟩
abbrev cX4_addLoad : ByteArray := prog_6_method_12_code
def yX4_addLoad : MethodName := ⟨RX4, "addLoad", "(II)V"⟩
abbrev cX4_raiseTrust : ByteArray := prog_6_method_13_code
def yX4_raiseTrust : MethodName := ⟨RX4, "raiseTrust", "(I)V"⟩
abbrev cX4_halveTrust : ByteArray := prog_6_method_14_code
def yX4_halveTrust : MethodName := ⟨RX4, "halveTrust", "(I)V"⟩
abbrev cX4_isBetterPlace : ByteArray := prog_6_method_15_code
def yX4_isBetterPlace : MethodName := ⟨RX4, "isBetterPlace", "(II)Z"⟩
abbrev cX4_owe : ByteArray := prog_6_method_16_code
def yX4_owe : MethodName := ⟨RX4, "owe", "(III)V"⟩
abbrev cX4_owedBy : ByteArray := prog_6_method_17_code
def yX4_owedBy : MethodName := ⟨RX4, "owedBy", "(II)I"⟩
abbrev cX4_sumOwedBy : ByteArray := prog_6_method_18_code
def yX4_sumOwedBy : MethodName := ⟨RX4, "sumOwedBy", "(I)I"⟩
abbrev cX4_sumOfDebts : ByteArray := prog_6_method_19_code
def yX4_sumOfDebts : MethodName := ⟨RX4, "sumOfDebts", "()I"⟩
def RX5 : String := "PeerStorage$State"
def TX5 : u_T := fun k => match k with
  | 0 => ("PeerStorage$State", "peers", "LPeerStorage$Peers;", true)
  | 1 => ("PeerStorage$State", "files", "LPeerStorage$Files;", true)
  | 2 => ("PeerStorage$State", "waiting", "[I", true)
  | _ => ("PeerStorage$State", "waitingNumber", "I", false)
def tyX5 : Nat → FieldType := fun k => match k with
  | 0 => .object "PeerStorage$Peers"
  | 1 => .object "PeerStorage$Files"
  | 2 => .array .int
  | _ => .int
abbrev wsX50 : List Cond := u_ws RX5 TX5 4
theorem nmX5 : ∀ a, a < 4 → ∀ b, b < 4 → a ≠ b → (TX5 a).2.1 ≠ (TX5 b).2.1 := by decide +kernel
theorem tyX5_ok : ∀ k, k < 4 → parseFieldDescriptor (TX5 k).2.2.1 = some (tyX5 k) := by decide +kernel
abbrev cX5_init : ByteArray := prog_7_method_1_code
def yX5_init : MethodName := ⟨RX5, "<init>", "()V"⟩
abbrev cX5_copyFrom : ByteArray := prog_7_method_2_code
def yX5_copyFrom : MethodName := ⟨RX5, "copyFrom", "(LPeerStorage$State;)V"⟩
abbrev cX5_addWaiting : ByteArray := prog_7_method_3_code
def yX5_addWaiting : MethodName := ⟨RX5, "addWaiting", "(I)I"⟩
abbrev cX5_isGood : ByteArray := prog_7_method_4_code
def yX5_isGood : MethodName := ⟨RX5, "isGood", "(II)Z"⟩
abbrev cX5_goodNumber : ByteArray := prog_7_method_5_code
def yX5_goodNumber : MethodName := ⟨RX5, "goodNumber", "(I)I"⟩
abbrev cX5_reserveOf : ByteArray := prog_7_method_6_code
def yX5_reserveOf : MethodName := ⟨RX5, "reserveOf", "(I)I"⟩
abbrev cX5_isSafe : ByteArray := prog_7_method_7_code
def yX5_isSafe : MethodName := ⟨RX5, "isSafe", "(I)Z"⟩
abbrev cX5_safeNumber : ByteArray := prog_7_method_8_code
def yX5_safeNumber : MethodName := ⟨RX5, "safeNumber", "()I"⟩
abbrev cX5_findPlace : ByteArray := prog_7_method_9_code
def yX5_findPlace : MethodName := ⟨RX5, "findPlace", "(I)I"⟩
abbrev cX5_putOn : ByteArray := prog_7_method_10_code
def yX5_putOn : MethodName := ⟨RX5, "putOn", "(IIII)V"⟩
abbrev cX5_takeOff : ByteArray := prog_7_method_11_code
def yX5_takeOff : MethodName := ⟨RX5, "takeOff", "(II)V"⟩
abbrev cX5_makeFile : ByteArray := prog_7_method_12_code
def yX5_makeFile : MethodName := ⟨RX5, "makeFile", "(III)V"⟩
abbrev cX5_removeFile : ByteArray := prog_7_method_13_code
def yX5_removeFile : MethodName := ⟨RX5, "removeFile", "(I)V"⟩
abbrev cX5_mayLeave : ByteArray := prog_7_method_14_code
def yX5_mayLeave : MethodName := ⟨RX5, "mayLeave", "(I)Z"⟩
abbrev cX5_leaveInOrder : ByteArray := prog_7_method_15_code
def yX5_leaveInOrder : MethodName := ⟨RX5, "leaveInOrder", "(I)I"⟩
abbrev cX5_move : ByteArray := prog_7_method_16_code
def yX5_move : MethodName := ⟨RX5, "move", "(II)Z"⟩
abbrev cX5_removeCrashed : ByteArray := prog_7_method_17_code
def yX5_removeCrashed : MethodName := ⟨RX5, "removeCrashed", "(I)I"⟩
abbrev cX5_renewFile : ByteArray := prog_7_method_18_code
def yX5_renewFile : MethodName := ⟨RX5, "renewFile", "(I)I"⟩
abbrev cX5_renew : ByteArray := prog_7_method_19_code
def yX5_renew : MethodName := ⟨RX5, "renew", "(II)Z"⟩
abbrev cX5_oweReaders : ByteArray := prog_7_method_20_code
def yX5_oweReaders : MethodName := ⟨RX5, "oweReaders", "(I)V"⟩
abbrev cX5_needsPeer : ByteArray := prog_7_method_21_code
def yX5_needsPeer : MethodName := ⟨RX5, "needsPeer", "(II)Z"⟩
abbrev cX5_bearsCrashes : ByteArray := prog_7_method_22_code
def yX5_bearsCrashes : MethodName := ⟨RX5, "bearsCrashes", "(I)Z"⟩
abbrev cX5_canBreak : ByteArray := prog_7_method_23_code
def yX5_canBreak : MethodName := ⟨RX5, "canBreak", "(II)Z"⟩
def RX6 : String := "PeerStorage"
def TX6 : u_T := fun k => match k with
  | 0 => ("PeerStorage", "now", "LPeerStorage$State;", true)
  | 1 => ("PeerStorage", "history", "LPeerStorage$History;", true)
  | 2 => ("PeerStorage", "challenge", "LPeerStorage$Challenge;", true)
  | 3 => ("PeerStorage", "decoder", "LPeerStorage$Decoder;", true)
  | 4 => ("PeerStorage", "plan", "LPeerStorage$State;", true)
  | _ => ("PeerStorage", "trial", "LPeerStorage$State;", true)
def tyX6 : Nat → FieldType := fun k => match k with
  | 0 => .object "PeerStorage$State"
  | 1 => .object "PeerStorage$History"
  | 2 => .object "PeerStorage$Challenge"
  | 3 => .object "PeerStorage$Decoder"
  | 4 => .object "PeerStorage$State"
  | _ => .object "PeerStorage$State"
abbrev wsX60 : List Cond := u_ws RX6 TX6 6
theorem nmX6 : ∀ a, a < 6 → ∀ b, b < 6 → a ≠ b → (TX6 a).2.1 ≠ (TX6 b).2.1 := by decide +kernel
theorem tyX6_ok : ∀ k, k < 6 → parseFieldDescriptor (TX6 k).2.2.1 = some (tyX6 k) := by decide +kernel
abbrev cX6_init : ByteArray := prog_1_method_1_code
def yX6_init : MethodName := ⟨RX6, "<init>", "()V"⟩
abbrev cX6_join : ByteArray := prog_1_method_2_code
def yX6_join : MethodName := ⟨RX6, "join", "(I)I"⟩
abbrev cX6_leave : ByteArray := prog_1_method_3_code
def yX6_leave : MethodName := ⟨RX6, "leave", "(I)I"⟩
abbrev cX6_crash : ByteArray := prog_1_method_4_code
def yX6_crash : MethodName := ⟨RX6, "crash", "(I)I"⟩
abbrev cX6_setOnline : ByteArray := prog_1_method_5_code
def yX6_setOnline : MethodName := ⟨RX6, "setOnline", "(II)I"⟩
abbrev cX6_pay : ByteArray := prog_1_method_6_code
def yX6_pay : MethodName := ⟨RX6, "pay", "(III)I"⟩
abbrev cX6_peerInfo : ByteArray := prog_1_method_7_code
def yX6_peerInfo : MethodName := ⟨RX6, "peerInfo", "(II)I"⟩
abbrev cX6_balance : ByteArray := prog_1_method_8_code
def yX6_balance : MethodName := ⟨RX6, "balance", "(II)I"⟩
abbrev cX6_word : ByteArray := prog_1_method_9_code
def yX6_word : MethodName := ⟨RX6, "word", "(I)I"⟩
abbrev cX6_store : ByteArray := prog_1_method_10_code
def yX6_store : MethodName := ⟨RX6, "store", "(II)I"⟩
abbrev cX6_delete : ByteArray := prog_1_method_11_code
def yX6_delete : MethodName := ⟨RX6, "delete", "(I)I"⟩
abbrev cX6_fileInfo : ByteArray := prog_1_method_12_code
def yX6_fileInfo : MethodName := ⟨RX6, "fileInfo", "(II)I"⟩
abbrev cX6_fragment : ByteArray := prog_1_method_13_code
def yX6_fragment : MethodName := ⟨RX6, "fragment", "(III)I"⟩
abbrev cX6_read : ByteArray := prog_1_method_14_code
def yX6_read : MethodName := ⟨RX6, "read", "(II)I"⟩
abbrev cX6_decode : ByteArray := prog_1_method_15_code
def yX6_decode : MethodName := ⟨RX6, "decode", "(III)I"⟩
abbrev cX6_spoil : ByteArray := prog_1_method_16_code
def yX6_spoil : MethodName := ⟨RX6, "spoil", "(III)I"⟩
abbrev cX6_audit : ByteArray := prog_1_method_17_code
def yX6_audit : MethodName := ⟨RX6, "audit", "(III)I"⟩
abbrev cX6_passingSeeds : ByteArray := prog_1_method_18_code
def yX6_passingSeeds : MethodName := ⟨RX6, "passingSeeds", "(II)I"⟩
abbrev cX6_repair : ByteArray := prog_1_method_19_code
def yX6_repair : MethodName := ⟨RX6, "repair", "(I)I"⟩
abbrev cX6_repairAll : ByteArray := prog_1_method_20_code
def yX6_repairAll : MethodName := ⟨RX6, "repairAll", "(I)I"⟩
abbrev cX6_undo : ByteArray := prog_1_method_21_code
def yX6_undo : MethodName := ⟨RX6, "undo", "()I"⟩
abbrev cX6_tolerance : ByteArray := prog_1_method_22_code
def yX6_tolerance : MethodName := ⟨RX6, "tolerance", "()I"⟩
abbrev cX6_endangered : ByteArray := prog_1_method_23_code
def yX6_endangered : MethodName := ⟨RX6, "endangered", "(I)I"⟩
abbrev cX6_leavers : ByteArray := prog_1_method_24_code
def yX6_leavers : MethodName := ⟨RX6, "leavers", "()I"⟩
abbrev cX6_count : ByteArray := prog_1_method_25_code
def yX6_count : MethodName := ⟨RX6, "count", "(I)I"⟩
abbrev cX6_planNextLeaver : ByteArray := prog_1_method_26_code
def yX6_planNextLeaver : MethodName := ⟨RX6, "planNextLeaver", "()Z"⟩
abbrev cX6_power : ByteArray := prog_1_method_27_code
def yX6_power : MethodName := ⟨RX6, "power", "(II)I"⟩
abbrev cX6_copyRow : ByteArray := prog_1_method_28_code
def yX6_copyRow : MethodName := ⟨RX6, "copyRow", "([I[I)V"⟩
def RX7 : String := "PeerStorageModel"
def TX7 : u_T := fun k => match k with
  | 0 => ("PeerStorageModel", "now", "[I", true)
  | 1 => ("PeerStorageModel", "aside", "[I", true)
  | 2 => ("PeerStorageModel", "spare", "[I", true)
  | 3 => ("PeerStorageModel", "before", "[I", true)
  | 4 => ("PeerStorageModel", "undoMany", "I", false)
  | _ => ("PeerStorageModel", "lines", "[I", true)
def tyX7 : Nat → FieldType := fun k => match k with
  | 0 => .array .int
  | 1 => .array .int
  | 2 => .array .int
  | 3 => .array .int
  | 4 => .int
  | _ => .array .int
abbrev wsX70 : List Cond := u_ws RX7 TX7 6
theorem nmX7 : ∀ a, a < 6 → ∀ b, b < 6 → a ≠ b → (TX7 a).2.1 ≠ (TX7 b).2.1 := by decide +kernel
theorem tyX7_ok : ∀ k, k < 6 → parseFieldDescriptor (TX7 k).2.2.1 = some (tyX7 k) := by decide +kernel
abbrev cX7_init : ByteArray := prog_9_method_1_code
def yX7_init : MethodName := ⟨RX7, "<init>", "()V"⟩
abbrev cX7_in : ByteArray := prog_9_method_2_code
def yX7_in : MethodName := ⟨RX7, "in", "(III)Z"⟩
abbrev cX7_isPeer : ByteArray := prog_9_method_3_code
def yX7_isPeer : MethodName := ⟨RX7, "isPeer", "(I)Z"⟩
abbrev cX7_isFile : ByteArray := prog_9_method_4_code
def yX7_isFile : MethodName := ⟨RX7, "isFile", "(I)Z"⟩
abbrev cX7_at : ByteArray := prog_9_method_5_code
def yX7_at : MethodName := ⟨RX7, "at", "(II)I"⟩
abbrev cX7_of : ByteArray := prog_9_method_6_code
def yX7_of : MethodName := ⟨RX7, "of", "(II)I"⟩
abbrev cX7_fragments : ByteArray := prog_9_method_7_code
def yX7_fragments : MethodName := ⟨RX7, "fragments", "(I)I"⟩
abbrev cX7_isOnline : ByteArray := prog_9_method_8_code
def yX7_isOnline : MethodName := ⟨RX7, "isOnline", "(I)Z"⟩
abbrev cX7_keeps : ByteArray := prog_9_method_9_code
def yX7_keeps : MethodName := ⟨RX7, "keeps", "()V"⟩
abbrev cX7_balanceAt : ByteArray := prog_9_method_10_code
def yX7_balanceAt : MethodName := ⟨RX7, "balanceAt", "(II)I"⟩
abbrev cX7_owes : ByteArray := prog_9_method_11_code
def yX7_owes : MethodName := ⟨RX7, "owes", "(III)V"⟩
abbrev cX7_free : ByteArray := prog_9_method_12_code
def yX7_free : MethodName := ⟨RX7, "free", "(I)I"⟩
abbrev cX7_stores : ByteArray := prog_9_method_13_code
def yX7_stores : MethodName := ⟨RX7, "stores", "(II)Z"⟩
abbrev cX7_isGood : ByteArray := prog_9_method_14_code
def yX7_isGood : MethodName := ⟨RX7, "isGood", "(II)Z"⟩
abbrev cX7_good : ByteArray := prog_9_method_15_code
def yX7_good : MethodName := ⟨RX7, "good", "(I)I"⟩
abbrev cX7_isSafe : ByteArray := prog_9_method_16_code
def yX7_isSafe : MethodName := ⟨RX7, "isSafe", "(I)Z"⟩
abbrev cX7_power : ByteArray := prog_9_method_17_code
def yX7_power : MethodName := ⟨RX7, "power", "(II)I"⟩
abbrev cX7_correct : ByteArray := prog_9_method_18_code
def yX7_correct : MethodName := ⟨RX7, "correct", "(II)I"⟩
abbrev cX7_valueOf : ByteArray := prog_9_method_19_code
def yX7_valueOf : MethodName := ⟨RX7, "valueOf", "(II)I"⟩
abbrev cX7_places : ByteArray := prog_9_method_20_code
def yX7_places : MethodName := ⟨RX7, "places", "(III)Z"⟩
abbrev cX7_join : ByteArray := prog_9_method_21_code
def yX7_join : MethodName := ⟨RX7, "join", "(I)I"⟩
abbrev cX7_owned : ByteArray := prog_9_method_22_code
def yX7_owned : MethodName := ⟨RX7, "owned", "(I)I"⟩
abbrev cX7_goes : ByteArray := prog_9_method_23_code
def yX7_goes : MethodName := ⟨RX7, "goes", "(I)V"⟩
abbrev cX7_leaves : ByteArray := prog_9_method_24_code
def yX7_leaves : MethodName := ⟨RX7, "leaves", "(I)I"⟩
abbrev cX7_leave : ByteArray := prog_9_method_25_code
def yX7_leave : MethodName := ⟨RX7, "leave", "(I)I"⟩
abbrev cX7_deletes : ByteArray := prog_9_method_26_code
def yX7_deletes : MethodName := ⟨RX7, "deletes", "(I)V"⟩
abbrev cX7_crash : ByteArray := prog_9_method_27_code
def yX7_crash : MethodName := ⟨RX7, "crash", "(I)I"⟩
abbrev cX7_setOnline : ByteArray := prog_9_method_28_code
def yX7_setOnline : MethodName := ⟨RX7, "setOnline", "(II)I"⟩
abbrev cX7_pay : ByteArray := prog_9_method_29_code
def yX7_pay : MethodName := ⟨RX7, "pay", "(III)I"⟩
abbrev cX7_peerInfo : ByteArray := prog_9_method_30_code
def yX7_peerInfo : MethodName := ⟨RX7, "peerInfo", "(II)I"⟩
abbrev cX7_balance : ByteArray := prog_9_method_31_code
def yX7_balance : MethodName := ⟨RX7, "balance", "(II)I"⟩
abbrev cX7_word : ByteArray := prog_9_method_32_code
def yX7_word : MethodName := ⟨RX7, "word", "(I)I"⟩
abbrev cX7_files : ByteArray := prog_9_method_33_code
def yX7_files : MethodName := ⟨RX7, "files", "()I"⟩
abbrev cX7_store : ByteArray := prog_9_method_34_code
def yX7_store : MethodName := ⟨RX7, "store", "(II)I"⟩
abbrev cX7_delete : ByteArray := prog_9_method_35_code
def yX7_delete : MethodName := ⟨RX7, "delete", "(I)I"⟩
abbrev cX7_storedOf : ByteArray := prog_9_method_36_code
def yX7_storedOf : MethodName := ⟨RX7, "storedOf", "(I)I"⟩
abbrev cX7_fileInfo : ByteArray := prog_9_method_37_code
def yX7_fileInfo : MethodName := ⟨RX7, "fileInfo", "(II)I"⟩
abbrev cX7_isFragment : ByteArray := prog_9_method_38_code
def yX7_isFragment : MethodName := ⟨RX7, "isFragment", "(II)Z"⟩
abbrev cX7_fragment : ByteArray := prog_9_method_39_code
def yX7_fragment : MethodName := ⟨RX7, "fragment", "(III)I"⟩
abbrev cX7_read : ByteArray := prog_9_method_40_code
def yX7_read : MethodName := ⟨RX7, "read", "(II)I"⟩
abbrev cX7_solves : ByteArray := prog_9_method_41_code
def yX7_solves : MethodName := ⟨RX7, "solves", "(I)V"⟩
abbrev cX7_decode : ByteArray := prog_9_method_42_code
def yX7_decode : MethodName := ⟨RX7, "decode", "(III)I"⟩
abbrev cX7_spoil : ByteArray := prog_9_method_43_code
def yX7_spoil : MethodName := ⟨RX7, "spoil", "(III)I"⟩
abbrev cX7_off : ByteArray := prog_9_method_44_code
def yX7_off : MethodName := ⟨RX7, "off", "(III)I"⟩
abbrev cX7_arePeers : ByteArray := prog_9_method_45_code
def yX7_arePeers : MethodName := ⟨RX7, "arePeers", "(II)Z"⟩
abbrev cX7_audit : ByteArray := prog_9_method_46_code
def yX7_audit : MethodName := ⟨RX7, "audit", "(III)I"⟩
abbrev cX7_passingSeeds : ByteArray := prog_9_method_47_code
def yX7_passingSeeds : MethodName := ⟨RX7, "passingSeeds", "(II)I"⟩
abbrev cX7_sources : ByteArray := prog_9_method_48_code
def yX7_sources : MethodName := ⟨RX7, "sources", "(I)I"⟩
abbrev cX7_repairs : ByteArray := prog_9_method_49_code
def yX7_repairs : MethodName := ⟨RX7, "repairs", "(I)I"⟩
abbrev cX7_repair : ByteArray := prog_9_method_50_code
def yX7_repair : MethodName := ⟨RX7, "repair", "(I)I"⟩
abbrev cX7_repairAll : ByteArray := prog_9_method_51_code
def yX7_repairAll : MethodName := ⟨RX7, "repairAll", "(I)I"⟩
abbrev cX7_undo : ByteArray := prog_9_method_52_code
def yX7_undo : MethodName := ⟨RX7, "undo", "()I"⟩
abbrev cX7_count1 : ByteArray := prog_9_method_53_code
def yX7_count1 : MethodName := ⟨RX7, "count1", "(I)I"⟩
abbrev cX7_isHurt : ByteArray := prog_9_method_54_code
def yX7_isHurt : MethodName := ⟨RX7, "isHurt", "(II)Z"⟩
abbrev cX7_peerSet : ByteArray := prog_9_method_55_code
def yX7_peerSet : MethodName := ⟨RX7, "peerSet", "()I"⟩
abbrev cX7_isBorne : ByteArray := prog_9_method_56_code
def yX7_isBorne : MethodName := ⟨RX7, "isBorne", "(I)Z"⟩
abbrev cX7_tolerance : ByteArray := prog_9_method_57_code
def yX7_tolerance : MethodName := ⟨RX7, "tolerance", "()I"⟩
abbrev cX7_endangered : ByteArray := prog_9_method_58_code
def yX7_endangered : MethodName := ⟨RX7, "endangered", "(I)I"⟩
abbrev cX7_puts : ByteArray := prog_9_method_59_code
def yX7_puts : MethodName := ⟨RX7, "puts", "([I[I)V"⟩
abbrev cX7_canGo : ByteArray := prog_9_method_60_code
def yX7_canGo : MethodName := ⟨RX7, "canGo", "(I)Z"⟩
abbrev cX7_leavers : ByteArray := prog_9_method_61_code
def yX7_leavers : MethodName := ⟨RX7, "leavers", "()I"⟩
abbrev cX7_count : ByteArray := prog_9_method_62_code
def yX7_count : MethodName := ⟨RX7, "count", "(I)I"⟩
def RJ6 : String := "java/lang/Integer"
def TJ6 : u_T := fun k => match k with
  | _ => ("", "", "", false)
def tyJ6 : Nat → FieldType := fun k => match k with
  | _ => .int
abbrev wsJ60 : List Cond := u_ws RJ6 TJ6 0
theorem nmJ6 : ∀ a, a < 0 → ∀ b, b < 0 → a ≠ b → (TJ6 a).2.1 ≠ (TJ6 b).2.1 := by decide +kernel
theorem tyJ6_ok : ∀ k, k < 0 → parseFieldDescriptor (TJ6 k).2.2.1 = some (tyJ6 k) := by decide +kernel
abbrev cJ6_bitCount_0f7a4 : ByteArray := prog_10_method_49_code
def yJ6_bitCount_0f7a4 : MethodName := ⟨RJ6, "bitCount", "(I)I"⟩
def RJ9 : String := "java/lang/Math"
def TJ9 : u_T := fun k => match k with
  | _ => ("", "", "", false)
def tyJ9 : Nat → FieldType := fun k => match k with
  | _ => .int
abbrev wsJ90 : List Cond := u_ws RJ9 TJ9 0
theorem nmJ9 : ∀ a, a < 0 → ∀ b, b < 0 → a ≠ b → (TJ9 a).2.1 ≠ (TJ9 b).2.1 := by decide +kernel
theorem tyJ9_ok : ∀ k, k < 0 → parseFieldDescriptor (TJ9 k).2.2.1 = some (tyJ9 k) := by decide +kernel
abbrev cJ9_max_7cf53 : ByteArray := prog_11_method_65_code
def yJ9_max_7cf53 : MethodName := ⟨RJ9, "max", "(II)I"⟩
abbrev cJ9_min_7cf53 : ByteArray := prog_11_method_69_code
def yJ9_min_7cf53 : MethodName := ⟨RJ9, "min", "(II)I"⟩
def RJ10 : String := "java/lang/System"
def TJ10 : u_T := fun k => match k with
  | _ => ("", "", "", false)
def tyJ10 : Nat → FieldType := fun k => match k with
  | _ => .int
abbrev wsJ100 : List Cond := u_ws RJ10 TJ10 0
theorem nmJ10 : ∀ a, a < 0 → ∀ b, b < 0 → a ≠ b → (TJ10 a).2.1 ≠ (TJ10 b).2.1 := by decide +kernel
theorem tyJ10_ok : ∀ k, k < 0 → parseFieldDescriptor (TJ10 k).2.2.1 = some (tyJ10 k) := by decide +kernel
def RJ7 : String := "java/util/Arrays"
def TJ7 : u_T := fun k => match k with
  | _ => ("", "", "", false)
def tyJ7 : Nat → FieldType := fun k => match k with
  | _ => .int
abbrev wsJ70 : List Cond := u_ws RJ7 TJ7 0
theorem nmJ7 : ∀ a, a < 0 → ∀ b, b < 0 → a ≠ b → (TJ7 a).2.1 ≠ (TJ7 b).2.1 := by decide +kernel
theorem tyJ7_ok : ∀ k, k < 0 → parseFieldDescriptor (TJ7 k).2.2.1 = some (tyJ7 k) := by decide +kernel
abbrev cJ7_fill_53178 : ByteArray := prog_13_method_103_code
def yJ7_fill_53178 : MethodName := ⟨RJ7, "fill", "([II)V"⟩
def RL : String := "PeerStorageLaw"
abbrev cL_law : ByteArray := code
def yL_law : MethodName := ⟨RL, "law", "([I)Z"⟩
abbrev vwCl : List vw_C := [(RX0, TX0, 2), (RX1, TX1, 2), (RX2, TX2, 6), (RX3, TX3, 2), (RX4, TX4, 5), (RX5, TX5, 4), (RX6, TX6, 6), (RX7, TX7, 6)]
end
section
theorem dX0_init_0 : decode cX0_init 0 = .ok (.aload_n 0, 1) := by decide +kernel
theorem dX0_init_1 : decode cX0_init 1 = .ok (.invokespecial 3, 3) := by decide +kernel
theorem dX0_init_4 : decode cX0_init 4 = .ok (.aload_n 0, 1) := by decide +kernel
theorem dX0_init_5 : decode cX0_init 5 = .ok (.bipush 8, 2) := by decide +kernel
theorem dX0_init_7 : decode cX0_init 7 = .ok (.newarray .int, 2) := by decide +kernel
theorem dX0_init_9 : decode cX0_init 9 = .ok (.putfield 9, 3) := by decide +kernel
theorem dX0_init_12 : decode cX0_init 12 = .ok (.return_, 1) := by decide +kernel
theorem dX0_lookAt_0 : decode cX0_lookAt 0 = .ok (.aload_n 0, 1) := by decide +kernel
theorem dX0_lookAt_1 : decode cX0_lookAt 1 = .ok (.iconst 0, 1) := by decide +kernel
theorem dX0_lookAt_2 : decode cX0_lookAt 2 = .ok (.putfield 15, 3) := by decide +kernel
theorem dX0_lookAt_5 : decode cX0_lookAt 5 = .ok (.iconst 0, 1) := by decide +kernel
theorem dX0_lookAt_6 : decode cX0_lookAt 6 = .ok (.istore 4, 2) := by decide +kernel
theorem dX0_lookAt_8 : decode cX0_lookAt 8 = .ok (.iload 4, 2) := by decide +kernel
theorem dX0_lookAt_10 : decode cX0_lookAt 10 = .ok (.bipush 8, 2) := by decide +kernel
theorem dX0_lookAt_12 : decode cX0_lookAt 12 = .ok (.if_icmp .ge 46, 3) := by decide +kernel
theorem dX0_lookAt_15 : decode cX0_lookAt 15 = .ok (.aload_n 1, 1) := by decide +kernel
theorem dX0_lookAt_16 : decode cX0_lookAt 16 = .ok (.iload 4, 2) := by decide +kernel
theorem dX0_lookAt_18 : decode cX0_lookAt 18 = .ok (.iload_n 3, 1) := by decide +kernel
theorem dX0_lookAt_19 : decode cX0_lookAt 19 = .ok (.invokevirtual 19, 3) := by decide +kernel
theorem dX0_lookAt_22 : decode cX0_lookAt 22 = .ok (.istore 5, 2) := by decide +kernel
theorem dX0_lookAt_24 : decode cX0_lookAt 24 = .ok (.iload 5, 2) := by decide +kernel
theorem dX0_lookAt_26 : decode cX0_lookAt 26 = .ok (.iconst (-1), 1) := by decide +kernel
theorem dX0_lookAt_27 : decode cX0_lookAt 27 = .ok (.if_icmp .eq 25, 3) := by decide +kernel
theorem dX0_lookAt_30 : decode cX0_lookAt 30 = .ok (.aload_n 1, 1) := by decide +kernel
theorem dX0_lookAt_31 : decode cX0_lookAt 31 = .ok (.iload 4, 2) := by decide +kernel
theorem dX0_lookAt_33 : decode cX0_lookAt 33 = .ok (.invokevirtual 25, 3) := by decide +kernel
theorem dX0_lookAt_36 : decode cX0_lookAt 36 = .ok (.iload_n 2, 1) := by decide +kernel
theorem dX0_lookAt_37 : decode cX0_lookAt 37 = .ok (.if_icmp .ne 15, 3) := by decide +kernel
theorem dX0_lookAt_40 : decode cX0_lookAt 40 = .ok (.aload_n 0, 1) := by decide +kernel
theorem dX0_lookAt_41 : decode cX0_lookAt 41 = .ok (.aload_n 1, 1) := by decide +kernel
theorem dX0_lookAt_42 : decode cX0_lookAt 42 = .ok (.iload 4, 2) := by decide +kernel
theorem dX0_lookAt_44 : decode cX0_lookAt 44 = .ok (.iload 5, 2) := by decide +kernel
theorem dX0_lookAt_46 : decode cX0_lookAt 46 = .ok (.invokevirtual 29, 3) := by decide +kernel
theorem dX0_lookAt_49 : decode cX0_lookAt 49 = .ok (.invokevirtual 32, 3) := by decide +kernel
theorem dX0_lookAt_52 : decode cX0_lookAt 52 = .ok (.iinc 4 1, 3) := by decide +kernel
theorem dX0_lookAt_55 : decode cX0_lookAt 55 = .ok (.goto (-47), 3) := by decide +kernel
theorem dX0_lookAt_58 : decode cX0_lookAt 58 = .ok (.return_, 1) := by decide +kernel
theorem dX0_append_0 : decode cX0_append 0 = .ok (.aload_n 0, 1) := by decide +kernel
theorem dX0_append_1 : decode cX0_append 1 = .ok (.getfield 15, 3) := by decide +kernel
theorem dX0_append_4 : decode cX0_append 4 = .ok (.ifCond .lt 32, 3) := by decide +kernel
theorem dX0_append_7 : decode cX0_append 7 = .ok (.aload_n 0, 1) := by decide +kernel
theorem dX0_append_8 : decode cX0_append 8 = .ok (.getfield 15, 3) := by decide +kernel
theorem dX0_append_11 : decode cX0_append 11 = .ok (.bipush 8, 2) := by decide +kernel
theorem dX0_append_13 : decode cX0_append 13 = .ok (.if_icmp .ge 23, 3) := by decide +kernel
theorem dX0_append_16 : decode cX0_append 16 = .ok (.aload_n 0, 1) := by decide +kernel
theorem dX0_append_17 : decode cX0_append 17 = .ok (.getfield 9, 3) := by decide +kernel
theorem dX0_append_20 : decode cX0_append 20 = .ok (.aload_n 0, 1) := by decide +kernel
theorem dX0_append_21 : decode cX0_append 21 = .ok (.getfield 15, 3) := by decide +kernel
theorem dX0_append_24 : decode cX0_append 24 = .ok (.iload_n 1, 1) := by decide +kernel
theorem dX0_append_25 : decode cX0_append 25 = .ok (.iastore, 1) := by decide +kernel
theorem dX0_append_26 : decode cX0_append 26 = .ok (.aload_n 0, 1) := by decide +kernel
theorem dX0_append_27 : decode cX0_append 27 = .ok (.dup, 1) := by decide +kernel
theorem dX0_append_28 : decode cX0_append 28 = .ok (.getfield 15, 3) := by decide +kernel
theorem dX0_append_31 : decode cX0_append 31 = .ok (.iconst 1, 1) := by decide +kernel
theorem dX0_append_32 : decode cX0_append 32 = .ok (.iadd, 1) := by decide +kernel
theorem dX0_append_33 : decode cX0_append 33 = .ok (.putfield 15, 3) := by decide +kernel
theorem dX0_append_36 : decode cX0_append 36 = .ok (.return_, 1) := by decide +kernel
theorem dX0_isPassedWith_0 : decode cX0_isPassedWith 0 = .ok (.iconst 0, 1) := by decide +kernel
theorem dX0_isPassedWith_1 : decode cX0_isPassedWith 1 = .ok (.istore_n 2, 1) := by decide +kernel
theorem dX0_isPassedWith_2 : decode cX0_isPassedWith 2 = .ok (.aload_n 0, 1) := by decide +kernel
theorem dX0_isPassedWith_3 : decode cX0_isPassedWith 3 = .ok (.getfield 15, 3) := by decide +kernel
theorem dX0_isPassedWith_6 : decode cX0_isPassedWith 6 = .ok (.bipush 8, 2) := by decide +kernel
theorem dX0_isPassedWith_8 : decode cX0_isPassedWith 8 = .ok (.invokestatic 36, 3) := by decide +kernel
theorem dX0_isPassedWith_11 : decode cX0_isPassedWith 11 = .ok (.iconst 1, 1) := by decide +kernel
theorem dX0_isPassedWith_12 : decode cX0_isPassedWith 12 = .ok (.isub, 1) := by decide +kernel
theorem dX0_isPassedWith_13 : decode cX0_isPassedWith 13 = .ok (.istore_n 3, 1) := by decide +kernel
theorem dX0_isPassedWith_14 : decode cX0_isPassedWith 14 = .ok (.iload_n 3, 1) := by decide +kernel
theorem dX0_isPassedWith_15 : decode cX0_isPassedWith 15 = .ok (.ifCond .lt 24, 3) := by decide +kernel
theorem dX0_isPassedWith_18 : decode cX0_isPassedWith 18 = .ok (.iload_n 2, 1) := by decide +kernel
theorem dX0_isPassedWith_19 : decode cX0_isPassedWith 19 = .ok (.iload_n 1, 1) := by decide +kernel
theorem dX0_isPassedWith_20 : decode cX0_isPassedWith 20 = .ok (.imul, 1) := by decide +kernel
theorem dX0_isPassedWith_21 : decode cX0_isPassedWith 21 = .ok (.aload_n 0, 1) := by decide +kernel
theorem dX0_isPassedWith_22 : decode cX0_isPassedWith 22 = .ok (.getfield 9, 3) := by decide +kernel
theorem dX0_isPassedWith_25 : decode cX0_isPassedWith 25 = .ok (.iload_n 3, 1) := by decide +kernel
theorem dX0_isPassedWith_26 : decode cX0_isPassedWith 26 = .ok (.iaload, 1) := by decide +kernel
theorem dX0_isPassedWith_27 : decode cX0_isPassedWith 27 = .ok (.iadd, 1) := by decide +kernel
theorem dX0_isPassedWith_28 : decode cX0_isPassedWith 28 = .ok (.sipush 257, 3) := by decide +kernel
theorem dX0_isPassedWith_31 : decode cX0_isPassedWith 31 = .ok (.irem, 1) := by decide +kernel
theorem dX0_isPassedWith_32 : decode cX0_isPassedWith 32 = .ok (.istore_n 2, 1) := by decide +kernel
theorem dX0_isPassedWith_33 : decode cX0_isPassedWith 33 = .ok (.iinc 3 (-1), 3) := by decide +kernel
theorem dX0_isPassedWith_36 : decode cX0_isPassedWith 36 = .ok (.goto (-22), 3) := by decide +kernel
theorem dX0_isPassedWith_39 : decode cX0_isPassedWith 39 = .ok (.iload_n 2, 1) := by decide +kernel
theorem dX0_isPassedWith_40 : decode cX0_isPassedWith 40 = .ok (.ifCond .ne 7, 3) := by decide +kernel
theorem dX0_isPassedWith_43 : decode cX0_isPassedWith 43 = .ok (.iconst 1, 1) := by decide +kernel
theorem dX0_isPassedWith_44 : decode cX0_isPassedWith 44 = .ok (.goto 4, 3) := by decide +kernel
theorem dX0_isPassedWith_47 : decode cX0_isPassedWith 47 = .ok (.iconst 0, 1) := by decide +kernel
theorem dX0_isPassedWith_48 : decode cX0_isPassedWith 48 = .ok (.ireturn, 1) := by decide +kernel
theorem dX1_init_0 : decode cX1_init 0 = .ok (.aload_n 0, 1) := by decide +kernel
theorem dX1_init_1 : decode cX1_init 1 = .ok (.invokespecial 3, 3) := by decide +kernel
theorem dX1_init_4 : decode cX1_init 4 = .ok (.aload_n 0, 1) := by decide +kernel
theorem dX1_init_5 : decode cX1_init 5 = .ok (.bipush 42, 2) := by decide +kernel
theorem dX1_init_7 : decode cX1_init 7 = .ok (.newarray .int, 2) := by decide +kernel
theorem dX1_init_9 : decode cX1_init 9 = .ok (.putfield 11, 3) := by decide +kernel
theorem dX1_init_12 : decode cX1_init 12 = .ok (.return_, 1) := by decide +kernel
theorem dX1_dataWord_0 : decode cX1_dataWord 0 = .ok (.aload_n 0, 1) := by decide +kernel
theorem dX1_dataWord_1 : decode cX1_dataWord 1 = .ok (.aload_n 1, 1) := by decide +kernel
theorem dX1_dataWord_2 : decode cX1_dataWord 2 = .ok (.iload_n 2, 1) := by decide +kernel
theorem dX1_dataWord_3 : decode cX1_dataWord 3 = .ok (.iload_n 3, 1) := by decide +kernel
theorem dX1_dataWord_4 : decode cX1_dataWord 4 = .ok (.invokevirtual 15, 3) := by decide +kernel
theorem dX1_dataWord_7 : decode cX1_dataWord 7 = .ok (.iconst 0, 1) := by decide +kernel
theorem dX1_dataWord_8 : decode cX1_dataWord 8 = .ok (.istore 5, 2) := by decide +kernel
theorem dX1_dataWord_10 : decode cX1_dataWord 10 = .ok (.iload 5, 2) := by decide +kernel
theorem dX1_dataWord_12 : decode cX1_dataWord 12 = .ok (.aload_n 0, 1) := by decide +kernel
theorem dX1_dataWord_13 : decode cX1_dataWord 13 = .ok (.getfield 19, 3) := by decide +kernel
theorem dX1_dataWord_16 : decode cX1_dataWord 16 = .ok (.if_icmp .ge 15, 3) := by decide +kernel
theorem dX1_dataWord_19 : decode cX1_dataWord 19 = .ok (.aload_n 0, 1) := by decide +kernel
theorem dX1_dataWord_20 : decode cX1_dataWord 20 = .ok (.iload 5, 2) := by decide +kernel
theorem dX1_dataWord_22 : decode cX1_dataWord 22 = .ok (.invokevirtual 23, 3) := by decide +kernel
theorem dX1_dataWord_25 : decode cX1_dataWord 25 = .ok (.iinc 5 1, 3) := by decide +kernel
theorem dX1_dataWord_28 : decode cX1_dataWord 28 = .ok (.goto (-18), 3) := by decide +kernel
theorem dX1_dataWord_31 : decode cX1_dataWord 31 = .ok (.iload 4, 2) := by decide +kernel
theorem dX1_dataWord_33 : decode cX1_dataWord 33 = .ok (.ifCond .lt 30, 3) := by decide +kernel
theorem dX1_dataWord_36 : decode cX1_dataWord 36 = .ok (.iload 4, 2) := by decide +kernel
theorem dX1_dataWord_38 : decode cX1_dataWord 38 = .ok (.aload_n 0, 1) := by decide +kernel
theorem dX1_dataWord_39 : decode cX1_dataWord 39 = .ok (.getfield 19, 3) := by decide +kernel
theorem dX1_dataWord_42 : decode cX1_dataWord 42 = .ok (.if_icmp .ge 21, 3) := by decide +kernel
theorem dX1_dataWord_45 : decode cX1_dataWord 45 = .ok (.aload_n 0, 1) := by decide +kernel
theorem dX1_dataWord_46 : decode cX1_dataWord 46 = .ok (.getfield 11, 3) := by decide +kernel
theorem dX1_dataWord_49 : decode cX1_dataWord 49 = .ok (.iload 4, 2) := by decide +kernel
theorem dX1_dataWord_51 : decode cX1_dataWord 51 = .ok (.bipush 7, 2) := by decide +kernel
theorem dX1_dataWord_53 : decode cX1_dataWord 53 = .ok (.imul, 1) := by decide +kernel
theorem dX1_dataWord_54 : decode cX1_dataWord 54 = .ok (.aload_n 0, 1) := by decide +kernel
theorem dX1_dataWord_55 : decode cX1_dataWord 55 = .ok (.getfield 19, 3) := by decide +kernel
theorem dX1_dataWord_58 : decode cX1_dataWord 58 = .ok (.iadd, 1) := by decide +kernel
theorem dX1_dataWord_59 : decode cX1_dataWord 59 = .ok (.iaload, 1) := by decide +kernel
theorem dX1_dataWord_60 : decode cX1_dataWord 60 = .ok (.goto 4, 3) := by decide +kernel
theorem dX1_dataWord_63 : decode cX1_dataWord 63 = .ok (.iconst 0, 1) := by decide +kernel
theorem dX1_dataWord_64 : decode cX1_dataWord 64 = .ok (.ireturn, 1) := by decide +kernel
theorem dX1_setUp_0 : decode cX1_setUp 0 = .ok (.iload_n 3, 1) := by decide +kernel
theorem dX1_setUp_1 : decode cX1_setUp 1 = .ok (.invokestatic 27, 3) := by decide +kernel
theorem dX1_setUp_4 : decode cX1_setUp 4 = .ok (.bipush 6, 2) := by decide +kernel
theorem dX1_setUp_6 : decode cX1_setUp 6 = .ok (.invokestatic 33, 3) := by decide +kernel
theorem dX1_setUp_9 : decode cX1_setUp 9 = .ok (.istore 4, 2) := by decide +kernel
theorem dX1_setUp_11 : decode cX1_setUp 11 = .ok (.aload_n 0, 1) := by decide +kernel
theorem dX1_setUp_12 : decode cX1_setUp 12 = .ok (.iconst 0, 1) := by decide +kernel
theorem dX1_setUp_13 : decode cX1_setUp 13 = .ok (.putfield 19, 3) := by decide +kernel
theorem dX1_setUp_16 : decode cX1_setUp 16 = .ok (.iconst 0, 1) := by decide +kernel
theorem dX1_setUp_17 : decode cX1_setUp 17 = .ok (.istore 5, 2) := by decide +kernel
theorem dX1_setUp_19 : decode cX1_setUp 19 = .ok (.iload 5, 2) := by decide +kernel
theorem dX1_setUp_21 : decode cX1_setUp 21 = .ok (.bipush 10, 2) := by decide +kernel
theorem dX1_setUp_23 : decode cX1_setUp 23 = .ok (.if_icmp .ge 99, 3) := by decide +kernel
theorem dX1_setUp_26 : decode cX1_setUp 26 = .ok (.aload_n 0, 1) := by decide +kernel
theorem dX1_setUp_27 : decode cX1_setUp 27 = .ok (.getfield 19, 3) := by decide +kernel
theorem dX1_setUp_30 : decode cX1_setUp 30 = .ok (.iload 4, 2) := by decide +kernel
theorem dX1_setUp_32 : decode cX1_setUp 32 = .ok (.if_icmp .ge 90, 3) := by decide +kernel
theorem dX1_setUp_35 : decode cX1_setUp 35 = .ok (.iload_n 3, 1) := by decide +kernel
theorem dX1_setUp_36 : decode cX1_setUp 36 = .ok (.iload 5, 2) := by decide +kernel
theorem dX1_setUp_38 : decode cX1_setUp 38 = .ok (.ishr, 1) := by decide +kernel
theorem dX1_setUp_39 : decode cX1_setUp 39 = .ok (.iconst 1, 1) := by decide +kernel
theorem dX1_setUp_40 : decode cX1_setUp 40 = .ok (.iand, 1) := by decide +kernel
theorem dX1_setUp_41 : decode cX1_setUp 41 = .ok (.iconst 1, 1) := by decide +kernel
theorem dX1_setUp_42 : decode cX1_setUp 42 = .ok (.if_icmp .ne 74, 3) := by decide +kernel
theorem dX1_setUp_45 : decode cX1_setUp 45 = .ok (.aload_n 0, 1) := by decide +kernel
theorem dX1_setUp_46 : decode cX1_setUp 46 = .ok (.getfield 19, 3) := by decide +kernel
theorem dX1_setUp_49 : decode cX1_setUp 49 = .ok (.bipush 7, 2) := by decide +kernel
theorem dX1_setUp_51 : decode cX1_setUp 51 = .ok (.imul, 1) := by decide +kernel
theorem dX1_setUp_52 : decode cX1_setUp 52 = .ok (.istore 6, 2) := by decide +kernel
theorem dX1_setUp_54 : decode cX1_setUp 54 = .ok (.iconst 0, 1) := by decide +kernel
theorem dX1_setUp_55 : decode cX1_setUp 55 = .ok (.istore 7, 2) := by decide +kernel
theorem dX1_setUp_57 : decode cX1_setUp 57 = .ok (.iload 7, 2) := by decide +kernel
theorem dX1_setUp_59 : decode cX1_setUp 59 = .ok (.iload 4, 2) := by decide +kernel
theorem dX1_setUp_61 : decode cX1_setUp 61 = .ok (.if_icmp .ge 28, 3) := by decide +kernel
theorem dX1_setUp_64 : decode cX1_setUp 64 = .ok (.aload_n 0, 1) := by decide +kernel
theorem dX1_setUp_65 : decode cX1_setUp 65 = .ok (.getfield 11, 3) := by decide +kernel
theorem dX1_setUp_68 : decode cX1_setUp 68 = .ok (.iload 6, 2) := by decide +kernel
theorem dX1_setUp_70 : decode cX1_setUp 70 = .ok (.iload 7, 2) := by decide +kernel
theorem dX1_setUp_72 : decode cX1_setUp 72 = .ok (.iadd, 1) := by decide +kernel
theorem dX1_setUp_73 : decode cX1_setUp 73 = .ok (.iload 5, 2) := by decide +kernel
theorem dX1_setUp_75 : decode cX1_setUp 75 = .ok (.iload 7, 2) := by decide +kernel
theorem dX1_setUp_77 : decode cX1_setUp 77 = .ok (.iload 4, 2) := by decide +kernel
theorem dX1_setUp_79 : decode cX1_setUp 79 = .ok (.invokestatic 39, 3) := by decide +kernel
theorem dX1_setUp_82 : decode cX1_setUp 82 = .ok (.iastore, 1) := by decide +kernel
theorem dX1_setUp_83 : decode cX1_setUp 83 = .ok (.iinc 7 1, 3) := by decide +kernel
theorem dX1_setUp_86 : decode cX1_setUp 86 = .ok (.goto (-29), 3) := by decide +kernel
theorem dX1_setUp_89 : decode cX1_setUp 89 = .ok (.aload_n 0, 1) := by decide +kernel
theorem dX1_setUp_90 : decode cX1_setUp 90 = .ok (.getfield 11, 3) := by decide +kernel
theorem dX1_setUp_93 : decode cX1_setUp 93 = .ok (.iload 6, 2) := by decide +kernel
theorem dX1_setUp_95 : decode cX1_setUp 95 = .ok (.iload 4, 2) := by decide +kernel
theorem dX1_setUp_97 : decode cX1_setUp 97 = .ok (.iadd, 1) := by decide +kernel
theorem dX1_setUp_98 : decode cX1_setUp 98 = .ok (.aload_n 1, 1) := by decide +kernel
theorem dX1_setUp_99 : decode cX1_setUp 99 = .ok (.iload_n 2, 1) := by decide +kernel
theorem dX1_setUp_100 : decode cX1_setUp 100 = .ok (.iload 5, 2) := by decide +kernel
theorem dX1_setUp_102 : decode cX1_setUp 102 = .ok (.invokevirtual 43, 3) := by decide +kernel
theorem dX1_setUp_105 : decode cX1_setUp 105 = .ok (.iastore, 1) := by decide +kernel
theorem dX1_setUp_106 : decode cX1_setUp 106 = .ok (.aload_n 0, 1) := by decide +kernel
theorem dX1_setUp_107 : decode cX1_setUp 107 = .ok (.dup, 1) := by decide +kernel
theorem dX1_setUp_108 : decode cX1_setUp 108 = .ok (.getfield 19, 3) := by decide +kernel
theorem dX1_setUp_111 : decode cX1_setUp 111 = .ok (.iconst 1, 1) := by decide +kernel
theorem dX1_setUp_112 : decode cX1_setUp 112 = .ok (.iadd, 1) := by decide +kernel
theorem dX1_setUp_113 : decode cX1_setUp 113 = .ok (.putfield 19, 3) := by decide +kernel
theorem dX1_setUp_116 : decode cX1_setUp 116 = .ok (.iinc 5 1, 3) := by decide +kernel
theorem dX1_setUp_119 : decode cX1_setUp 119 = .ok (.goto (-100), 3) := by decide +kernel
theorem dX1_setUp_122 : decode cX1_setUp 122 = .ok (.return_, 1) := by decide +kernel
theorem dX1_factor_0 : decode cX1_factor 0 = .ok (.iload_n 0, 1) := by decide +kernel
theorem dX1_factor_1 : decode cX1_factor 1 = .ok (.iload_n 2, 1) := by decide +kernel
theorem dX1_factor_2 : decode cX1_factor 2 = .ok (.if_icmp .ge 14, 3) := by decide +kernel
theorem dX1_factor_5 : decode cX1_factor 5 = .ok (.iload_n 0, 1) := by decide +kernel
theorem dX1_factor_6 : decode cX1_factor 6 = .ok (.iload_n 1, 1) := by decide +kernel
theorem dX1_factor_7 : decode cX1_factor 7 = .ok (.if_icmp .ne 7, 3) := by decide +kernel
theorem dX1_factor_10 : decode cX1_factor 10 = .ok (.iconst 1, 1) := by decide +kernel
theorem dX1_factor_11 : decode cX1_factor 11 = .ok (.goto 4, 3) := by decide +kernel
theorem dX1_factor_14 : decode cX1_factor 14 = .ok (.iconst 0, 1) := by decide +kernel
theorem dX1_factor_15 : decode cX1_factor 15 = .ok (.ireturn, 1) := by decide +kernel
theorem dX1_factor_16 : decode cX1_factor 16 = .ok (.iload_n 1, 1) := by decide +kernel
theorem dX1_factor_17 : decode cX1_factor 17 = .ok (.iconst 1, 1) := by decide +kernel
theorem dX1_factor_18 : decode cX1_factor 18 = .ok (.iadd, 1) := by decide +kernel
theorem dX1_factor_19 : decode cX1_factor 19 = .ok (.iload_n 0, 1) := by decide +kernel
theorem dX1_factor_20 : decode cX1_factor 20 = .ok (.iload_n 2, 1) := by decide +kernel
theorem dX1_factor_21 : decode cX1_factor 21 = .ok (.isub, 1) := by decide +kernel
theorem dX1_factor_22 : decode cX1_factor 22 = .ok (.invokestatic 48, 3) := by decide +kernel
theorem dX1_factor_25 : decode cX1_factor 25 = .ok (.ireturn, 1) := by decide +kernel
theorem dX1_eliminate_0 : decode cX1_eliminate 0 = .ok (.iload_n 1, 1) := by decide +kernel
theorem dX1_eliminate_1 : decode cX1_eliminate 1 = .ok (.istore_n 2, 1) := by decide +kernel
theorem dX1_eliminate_2 : decode cX1_eliminate 2 = .ok (.iload_n 2, 1) := by decide +kernel
theorem dX1_eliminate_3 : decode cX1_eliminate 3 = .ok (.aload_n 0, 1) := by decide +kernel
theorem dX1_eliminate_4 : decode cX1_eliminate 4 = .ok (.getfield 19, 3) := by decide +kernel
theorem dX1_eliminate_7 : decode cX1_eliminate 7 = .ok (.if_icmp .ge 23, 3) := by decide +kernel
theorem dX1_eliminate_10 : decode cX1_eliminate 10 = .ok (.aload_n 0, 1) := by decide +kernel
theorem dX1_eliminate_11 : decode cX1_eliminate 11 = .ok (.getfield 11, 3) := by decide +kernel
theorem dX1_eliminate_14 : decode cX1_eliminate 14 = .ok (.iload_n 2, 1) := by decide +kernel
theorem dX1_eliminate_15 : decode cX1_eliminate 15 = .ok (.bipush 7, 2) := by decide +kernel
theorem dX1_eliminate_17 : decode cX1_eliminate 17 = .ok (.imul, 1) := by decide +kernel
theorem dX1_eliminate_18 : decode cX1_eliminate 18 = .ok (.iload_n 1, 1) := by decide +kernel
theorem dX1_eliminate_19 : decode cX1_eliminate 19 = .ok (.iadd, 1) := by decide +kernel
theorem dX1_eliminate_20 : decode cX1_eliminate 20 = .ok (.iaload, 1) := by decide +kernel
theorem dX1_eliminate_21 : decode cX1_eliminate 21 = .ok (.ifCond .ne 9, 3) := by decide +kernel
theorem dX1_eliminate_24 : decode cX1_eliminate 24 = .ok (.iinc 2 1, 3) := by decide +kernel
theorem dX1_eliminate_27 : decode cX1_eliminate 27 = .ok (.goto (-25), 3) := by decide +kernel
theorem dX1_eliminate_30 : decode cX1_eliminate 30 = .ok (.iload_n 2, 1) := by decide +kernel
theorem dX1_eliminate_31 : decode cX1_eliminate 31 = .ok (.aload_n 0, 1) := by decide +kernel
theorem dX1_eliminate_32 : decode cX1_eliminate 32 = .ok (.getfield 19, 3) := by decide +kernel
theorem dX1_eliminate_35 : decode cX1_eliminate 35 = .ok (.if_icmp .lt 4, 3) := by decide +kernel
theorem dX1_eliminate_38 : decode cX1_eliminate 38 = .ok (.return_, 1) := by decide +kernel
theorem dX1_eliminate_39 : decode cX1_eliminate 39 = .ok (.aload_n 0, 1) := by decide +kernel
theorem dX1_eliminate_40 : decode cX1_eliminate 40 = .ok (.iload_n 2, 1) := by decide +kernel
theorem dX1_eliminate_41 : decode cX1_eliminate 41 = .ok (.iload_n 1, 1) := by decide +kernel
theorem dX1_eliminate_42 : decode cX1_eliminate 42 = .ok (.invokevirtual 51, 3) := by decide +kernel
theorem dX1_eliminate_45 : decode cX1_eliminate 45 = .ok (.aload_n 0, 1) := by decide +kernel
theorem dX1_eliminate_46 : decode cX1_eliminate 46 = .ok (.iload_n 1, 1) := by decide +kernel
theorem dX1_eliminate_47 : decode cX1_eliminate 47 = .ok (.aload_n 0, 1) := by decide +kernel
theorem dX1_eliminate_48 : decode cX1_eliminate 48 = .ok (.getfield 11, 3) := by decide +kernel
theorem dX1_eliminate_51 : decode cX1_eliminate 51 = .ok (.iload_n 1, 1) := by decide +kernel
theorem dX1_eliminate_52 : decode cX1_eliminate 52 = .ok (.bipush 7, 2) := by decide +kernel
theorem dX1_eliminate_54 : decode cX1_eliminate 54 = .ok (.imul, 1) := by decide +kernel
theorem dX1_eliminate_55 : decode cX1_eliminate 55 = .ok (.iload_n 1, 1) := by decide +kernel
theorem dX1_eliminate_56 : decode cX1_eliminate 56 = .ok (.iadd, 1) := by decide +kernel
theorem dX1_eliminate_57 : decode cX1_eliminate 57 = .ok (.iaload, 1) := by decide +kernel
theorem dX1_eliminate_58 : decode cX1_eliminate 58 = .ok (.sipush 255, 3) := by decide +kernel
theorem dX1_eliminate_61 : decode cX1_eliminate 61 = .ok (.invokestatic 48, 3) := by decide +kernel
theorem dX1_eliminate_64 : decode cX1_eliminate 64 = .ok (.invokevirtual 55, 3) := by decide +kernel
theorem dX1_eliminate_67 : decode cX1_eliminate 67 = .ok (.iconst 0, 1) := by decide +kernel
theorem dX1_eliminate_68 : decode cX1_eliminate 68 = .ok (.istore_n 3, 1) := by decide +kernel
theorem dX1_eliminate_69 : decode cX1_eliminate 69 = .ok (.iload_n 3, 1) := by decide +kernel
theorem dX1_eliminate_70 : decode cX1_eliminate 70 = .ok (.aload_n 0, 1) := by decide +kernel
theorem dX1_eliminate_71 : decode cX1_eliminate 71 = .ok (.getfield 19, 3) := by decide +kernel
theorem dX1_eliminate_74 : decode cX1_eliminate 74 = .ok (.if_icmp .ge 31, 3) := by decide +kernel
theorem dX1_eliminate_77 : decode cX1_eliminate 77 = .ok (.iload_n 3, 1) := by decide +kernel
theorem dX1_eliminate_78 : decode cX1_eliminate 78 = .ok (.iload_n 1, 1) := by decide +kernel
theorem dX1_eliminate_79 : decode cX1_eliminate 79 = .ok (.if_icmp .eq 20, 3) := by decide +kernel
theorem dX1_eliminate_82 : decode cX1_eliminate 82 = .ok (.aload_n 0, 1) := by decide +kernel
theorem dX1_eliminate_83 : decode cX1_eliminate 83 = .ok (.iload_n 1, 1) := by decide +kernel
theorem dX1_eliminate_84 : decode cX1_eliminate 84 = .ok (.aload_n 0, 1) := by decide +kernel
theorem dX1_eliminate_85 : decode cX1_eliminate 85 = .ok (.getfield 11, 3) := by decide +kernel
theorem dX1_eliminate_88 : decode cX1_eliminate 88 = .ok (.iload_n 3, 1) := by decide +kernel
theorem dX1_eliminate_89 : decode cX1_eliminate 89 = .ok (.bipush 7, 2) := by decide +kernel
theorem dX1_eliminate_91 : decode cX1_eliminate 91 = .ok (.imul, 1) := by decide +kernel
theorem dX1_eliminate_92 : decode cX1_eliminate 92 = .ok (.iload_n 1, 1) := by decide +kernel
theorem dX1_eliminate_93 : decode cX1_eliminate 93 = .ok (.iadd, 1) := by decide +kernel
theorem dX1_eliminate_94 : decode cX1_eliminate 94 = .ok (.iaload, 1) := by decide +kernel
theorem dX1_eliminate_95 : decode cX1_eliminate 95 = .ok (.iload_n 3, 1) := by decide +kernel
theorem dX1_eliminate_96 : decode cX1_eliminate 96 = .ok (.invokevirtual 58, 3) := by decide +kernel
theorem dX1_eliminate_99 : decode cX1_eliminate 99 = .ok (.iinc 3 1, 3) := by decide +kernel
theorem dX1_eliminate_102 : decode cX1_eliminate 102 = .ok (.goto (-33), 3) := by decide +kernel
theorem dX1_eliminate_105 : decode cX1_eliminate 105 = .ok (.return_, 1) := by decide +kernel
theorem dX1_swapRows_0 : decode cX1_swapRows 0 = .ok (.iconst 0, 1) := by decide +kernel
theorem dX1_swapRows_1 : decode cX1_swapRows 1 = .ok (.istore_n 3, 1) := by decide +kernel
theorem dX1_swapRows_2 : decode cX1_swapRows 2 = .ok (.iload_n 3, 1) := by decide +kernel
theorem dX1_swapRows_3 : decode cX1_swapRows 3 = .ok (.bipush 7, 2) := by decide +kernel
theorem dX1_swapRows_5 : decode cX1_swapRows 5 = .ok (.if_icmp .ge 57, 3) := by decide +kernel
theorem dX1_swapRows_8 : decode cX1_swapRows 8 = .ok (.aload_n 0, 1) := by decide +kernel
theorem dX1_swapRows_9 : decode cX1_swapRows 9 = .ok (.getfield 11, 3) := by decide +kernel
theorem dX1_swapRows_12 : decode cX1_swapRows 12 = .ok (.iload_n 1, 1) := by decide +kernel
theorem dX1_swapRows_13 : decode cX1_swapRows 13 = .ok (.bipush 7, 2) := by decide +kernel
theorem dX1_swapRows_15 : decode cX1_swapRows 15 = .ok (.imul, 1) := by decide +kernel
theorem dX1_swapRows_16 : decode cX1_swapRows 16 = .ok (.iload_n 3, 1) := by decide +kernel
theorem dX1_swapRows_17 : decode cX1_swapRows 17 = .ok (.iadd, 1) := by decide +kernel
theorem dX1_swapRows_18 : decode cX1_swapRows 18 = .ok (.iaload, 1) := by decide +kernel
theorem dX1_swapRows_19 : decode cX1_swapRows 19 = .ok (.istore 4, 2) := by decide +kernel
theorem dX1_swapRows_21 : decode cX1_swapRows 21 = .ok (.aload_n 0, 1) := by decide +kernel
theorem dX1_swapRows_22 : decode cX1_swapRows 22 = .ok (.getfield 11, 3) := by decide +kernel
theorem dX1_swapRows_25 : decode cX1_swapRows 25 = .ok (.iload_n 1, 1) := by decide +kernel
theorem dX1_swapRows_26 : decode cX1_swapRows 26 = .ok (.bipush 7, 2) := by decide +kernel
theorem dX1_swapRows_28 : decode cX1_swapRows 28 = .ok (.imul, 1) := by decide +kernel
theorem dX1_swapRows_29 : decode cX1_swapRows 29 = .ok (.iload_n 3, 1) := by decide +kernel
theorem dX1_swapRows_30 : decode cX1_swapRows 30 = .ok (.iadd, 1) := by decide +kernel
theorem dX1_swapRows_31 : decode cX1_swapRows 31 = .ok (.aload_n 0, 1) := by decide +kernel
theorem dX1_swapRows_32 : decode cX1_swapRows 32 = .ok (.getfield 11, 3) := by decide +kernel
theorem dX1_swapRows_35 : decode cX1_swapRows 35 = .ok (.iload_n 2, 1) := by decide +kernel
theorem dX1_swapRows_36 : decode cX1_swapRows 36 = .ok (.bipush 7, 2) := by decide +kernel
theorem dX1_swapRows_38 : decode cX1_swapRows 38 = .ok (.imul, 1) := by decide +kernel
theorem dX1_swapRows_39 : decode cX1_swapRows 39 = .ok (.iload_n 3, 1) := by decide +kernel
theorem dX1_swapRows_40 : decode cX1_swapRows 40 = .ok (.iadd, 1) := by decide +kernel
theorem dX1_swapRows_41 : decode cX1_swapRows 41 = .ok (.iaload, 1) := by decide +kernel
theorem dX1_swapRows_42 : decode cX1_swapRows 42 = .ok (.iastore, 1) := by decide +kernel
theorem dX1_swapRows_43 : decode cX1_swapRows 43 = .ok (.aload_n 0, 1) := by decide +kernel
theorem dX1_swapRows_44 : decode cX1_swapRows 44 = .ok (.getfield 11, 3) := by decide +kernel
theorem dX1_swapRows_47 : decode cX1_swapRows 47 = .ok (.iload_n 2, 1) := by decide +kernel
theorem dX1_swapRows_48 : decode cX1_swapRows 48 = .ok (.bipush 7, 2) := by decide +kernel
theorem dX1_swapRows_50 : decode cX1_swapRows 50 = .ok (.imul, 1) := by decide +kernel
theorem dX1_swapRows_51 : decode cX1_swapRows 51 = .ok (.iload_n 3, 1) := by decide +kernel
theorem dX1_swapRows_52 : decode cX1_swapRows 52 = .ok (.iadd, 1) := by decide +kernel
theorem dX1_swapRows_53 : decode cX1_swapRows 53 = .ok (.iload 4, 2) := by decide +kernel
theorem dX1_swapRows_55 : decode cX1_swapRows 55 = .ok (.iastore, 1) := by decide +kernel
theorem dX1_swapRows_56 : decode cX1_swapRows 56 = .ok (.iinc 3 1, 3) := by decide +kernel
theorem dX1_swapRows_59 : decode cX1_swapRows 59 = .ok (.goto (-57), 3) := by decide +kernel
theorem dX1_swapRows_62 : decode cX1_swapRows 62 = .ok (.return_, 1) := by decide +kernel
theorem dX1_scaleRow_0 : decode cX1_scaleRow 0 = .ok (.iconst 0, 1) := by decide +kernel
theorem dX1_scaleRow_1 : decode cX1_scaleRow 1 = .ok (.istore_n 3, 1) := by decide +kernel
theorem dX1_scaleRow_2 : decode cX1_scaleRow 2 = .ok (.iload_n 3, 1) := by decide +kernel
theorem dX1_scaleRow_3 : decode cX1_scaleRow 3 = .ok (.aload_n 0, 1) := by decide +kernel
theorem dX1_scaleRow_4 : decode cX1_scaleRow 4 = .ok (.getfield 19, 3) := by decide +kernel
theorem dX1_scaleRow_7 : decode cX1_scaleRow 7 = .ok (.if_icmp .gt 37, 3) := by decide +kernel
theorem dX1_scaleRow_10 : decode cX1_scaleRow 10 = .ok (.iload_n 1, 1) := by decide +kernel
theorem dX1_scaleRow_11 : decode cX1_scaleRow 11 = .ok (.bipush 7, 2) := by decide +kernel
theorem dX1_scaleRow_13 : decode cX1_scaleRow 13 = .ok (.imul, 1) := by decide +kernel
theorem dX1_scaleRow_14 : decode cX1_scaleRow 14 = .ok (.iload_n 3, 1) := by decide +kernel
theorem dX1_scaleRow_15 : decode cX1_scaleRow 15 = .ok (.iadd, 1) := by decide +kernel
theorem dX1_scaleRow_16 : decode cX1_scaleRow 16 = .ok (.istore 4, 2) := by decide +kernel
theorem dX1_scaleRow_18 : decode cX1_scaleRow 18 = .ok (.aload_n 0, 1) := by decide +kernel
theorem dX1_scaleRow_19 : decode cX1_scaleRow 19 = .ok (.getfield 11, 3) := by decide +kernel
theorem dX1_scaleRow_22 : decode cX1_scaleRow 22 = .ok (.iload 4, 2) := by decide +kernel
theorem dX1_scaleRow_24 : decode cX1_scaleRow 24 = .ok (.aload_n 0, 1) := by decide +kernel
theorem dX1_scaleRow_25 : decode cX1_scaleRow 25 = .ok (.getfield 11, 3) := by decide +kernel
theorem dX1_scaleRow_28 : decode cX1_scaleRow 28 = .ok (.iload 4, 2) := by decide +kernel
theorem dX1_scaleRow_30 : decode cX1_scaleRow 30 = .ok (.iaload, 1) := by decide +kernel
theorem dX1_scaleRow_31 : decode cX1_scaleRow 31 = .ok (.iload_n 2, 1) := by decide +kernel
theorem dX1_scaleRow_32 : decode cX1_scaleRow 32 = .ok (.imul, 1) := by decide +kernel
theorem dX1_scaleRow_33 : decode cX1_scaleRow 33 = .ok (.sipush 257, 3) := by decide +kernel
theorem dX1_scaleRow_36 : decode cX1_scaleRow 36 = .ok (.irem, 1) := by decide +kernel
theorem dX1_scaleRow_37 : decode cX1_scaleRow 37 = .ok (.iastore, 1) := by decide +kernel
theorem dX1_scaleRow_38 : decode cX1_scaleRow 38 = .ok (.iinc 3 1, 3) := by decide +kernel
theorem dX1_scaleRow_41 : decode cX1_scaleRow 41 = .ok (.goto (-39), 3) := by decide +kernel
theorem dX1_scaleRow_44 : decode cX1_scaleRow 44 = .ok (.return_, 1) := by decide +kernel
theorem dX1_subtractRow_0 : decode cX1_subtractRow 0 = .ok (.iconst 0, 1) := by decide +kernel
theorem dX1_subtractRow_1 : decode cX1_subtractRow 1 = .ok (.istore 4, 2) := by decide +kernel
theorem dX1_subtractRow_3 : decode cX1_subtractRow 3 = .ok (.iload 4, 2) := by decide +kernel
theorem dX1_subtractRow_5 : decode cX1_subtractRow 5 = .ok (.aload_n 0, 1) := by decide +kernel
theorem dX1_subtractRow_6 : decode cX1_subtractRow 6 = .ok (.getfield 19, 3) := by decide +kernel
theorem dX1_subtractRow_9 : decode cX1_subtractRow 9 = .ok (.if_icmp .gt 55, 3) := by decide +kernel
theorem dX1_subtractRow_12 : decode cX1_subtractRow 12 = .ok (.iload_n 3, 1) := by decide +kernel
theorem dX1_subtractRow_13 : decode cX1_subtractRow 13 = .ok (.bipush 7, 2) := by decide +kernel
theorem dX1_subtractRow_15 : decode cX1_subtractRow 15 = .ok (.imul, 1) := by decide +kernel
theorem dX1_subtractRow_16 : decode cX1_subtractRow 16 = .ok (.iload 4, 2) := by decide +kernel
theorem dX1_subtractRow_18 : decode cX1_subtractRow 18 = .ok (.iadd, 1) := by decide +kernel
theorem dX1_subtractRow_19 : decode cX1_subtractRow 19 = .ok (.istore 5, 2) := by decide +kernel
theorem dX1_subtractRow_21 : decode cX1_subtractRow 21 = .ok (.aload_n 0, 1) := by decide +kernel
theorem dX1_subtractRow_22 : decode cX1_subtractRow 22 = .ok (.getfield 11, 3) := by decide +kernel
theorem dX1_subtractRow_25 : decode cX1_subtractRow 25 = .ok (.iload 5, 2) := by decide +kernel
theorem dX1_subtractRow_27 : decode cX1_subtractRow 27 = .ok (.aload_n 0, 1) := by decide +kernel
theorem dX1_subtractRow_28 : decode cX1_subtractRow 28 = .ok (.getfield 11, 3) := by decide +kernel
theorem dX1_subtractRow_31 : decode cX1_subtractRow 31 = .ok (.iload 5, 2) := by decide +kernel
theorem dX1_subtractRow_33 : decode cX1_subtractRow 33 = .ok (.iaload, 1) := by decide +kernel
theorem dX1_subtractRow_34 : decode cX1_subtractRow 34 = .ok (.sipush 257, 3) := by decide +kernel
theorem dX1_subtractRow_37 : decode cX1_subtractRow 37 = .ok (.iload_n 2, 1) := by decide +kernel
theorem dX1_subtractRow_38 : decode cX1_subtractRow 38 = .ok (.isub, 1) := by decide +kernel
theorem dX1_subtractRow_39 : decode cX1_subtractRow 39 = .ok (.aload_n 0, 1) := by decide +kernel
theorem dX1_subtractRow_40 : decode cX1_subtractRow 40 = .ok (.getfield 11, 3) := by decide +kernel
theorem dX1_subtractRow_43 : decode cX1_subtractRow 43 = .ok (.iload_n 1, 1) := by decide +kernel
theorem dX1_subtractRow_44 : decode cX1_subtractRow 44 = .ok (.bipush 7, 2) := by decide +kernel
theorem dX1_subtractRow_46 : decode cX1_subtractRow 46 = .ok (.imul, 1) := by decide +kernel
theorem dX1_subtractRow_47 : decode cX1_subtractRow 47 = .ok (.iload 4, 2) := by decide +kernel
theorem dX1_subtractRow_49 : decode cX1_subtractRow 49 = .ok (.iadd, 1) := by decide +kernel
theorem dX1_subtractRow_50 : decode cX1_subtractRow 50 = .ok (.iaload, 1) := by decide +kernel
theorem dX1_subtractRow_51 : decode cX1_subtractRow 51 = .ok (.imul, 1) := by decide +kernel
theorem dX1_subtractRow_52 : decode cX1_subtractRow 52 = .ok (.iadd, 1) := by decide +kernel
theorem dX1_subtractRow_53 : decode cX1_subtractRow 53 = .ok (.sipush 257, 3) := by decide +kernel
theorem dX1_subtractRow_56 : decode cX1_subtractRow 56 = .ok (.irem, 1) := by decide +kernel
theorem dX1_subtractRow_57 : decode cX1_subtractRow 57 = .ok (.iastore, 1) := by decide +kernel
theorem dX1_subtractRow_58 : decode cX1_subtractRow 58 = .ok (.iinc 4 1, 3) := by decide +kernel
theorem dX1_subtractRow_61 : decode cX1_subtractRow 61 = .ok (.goto (-58), 3) := by decide +kernel
theorem dX1_subtractRow_64 : decode cX1_subtractRow 64 = .ok (.return_, 1) := by decide +kernel
theorem dX2_init_0 : decode cX2_init 0 = .ok (.aload_n 0, 1) := by decide +kernel
theorem dX2_init_1 : decode cX2_init 1 = .ok (.invokespecial 3, 3) := by decide +kernel
theorem dX2_init_4 : decode cX2_init 4 = .ok (.aload_n 0, 1) := by decide +kernel
theorem dX2_init_5 : decode cX2_init 5 = .ok (.bipush 8, 2) := by decide +kernel
theorem dX2_init_7 : decode cX2_init 7 = .ok (.newarray .int, 2) := by decide +kernel
theorem dX2_init_9 : decode cX2_init 9 = .ok (.putfield 9, 3) := by decide +kernel
theorem dX2_init_12 : decode cX2_init 12 = .ok (.aload_n 0, 1) := by decide +kernel
theorem dX2_init_13 : decode cX2_init 13 = .ok (.bipush 8, 2) := by decide +kernel
theorem dX2_init_15 : decode cX2_init 15 = .ok (.newarray .int, 2) := by decide +kernel
theorem dX2_init_17 : decode cX2_init 17 = .ok (.putfield 15, 3) := by decide +kernel
theorem dX2_init_20 : decode cX2_init 20 = .ok (.aload_n 0, 1) := by decide +kernel
theorem dX2_init_21 : decode cX2_init 21 = .ok (.bipush 8, 2) := by decide +kernel
theorem dX2_init_23 : decode cX2_init 23 = .ok (.newarray .int, 2) := by decide +kernel
theorem dX2_init_25 : decode cX2_init 25 = .ok (.putfield 18, 3) := by decide +kernel
theorem dX2_init_28 : decode cX2_init 28 = .ok (.aload_n 0, 1) := by decide +kernel
theorem dX2_init_29 : decode cX2_init 29 = .ok (.bipush 80, 2) := by decide +kernel
theorem dX2_init_31 : decode cX2_init 31 = .ok (.newarray .int, 2) := by decide +kernel
theorem dX2_init_33 : decode cX2_init 33 = .ok (.putfield 21, 3) := by decide +kernel
theorem dX2_init_36 : decode cX2_init 36 = .ok (.aload_n 0, 1) := by decide +kernel
theorem dX2_init_37 : decode cX2_init 37 = .ok (.bipush 80, 2) := by decide +kernel
theorem dX2_init_39 : decode cX2_init 39 = .ok (.newarray .int, 2) := by decide +kernel
theorem dX2_init_41 : decode cX2_init 41 = .ok (.putfield 24, 3) := by decide +kernel
theorem dX2_init_44 : decode cX2_init 44 = .ok (.aload_n 0, 1) := by decide +kernel
theorem dX2_init_45 : decode cX2_init 45 = .ok (.bipush 80, 2) := by decide +kernel
theorem dX2_init_47 : decode cX2_init 47 = .ok (.newarray .int, 2) := by decide +kernel
theorem dX2_init_49 : decode cX2_init 49 = .ok (.putfield 27, 3) := by decide +kernel
theorem dX2_init_52 : decode cX2_init 52 = .ok (.aload_n 0, 1) := by decide +kernel
theorem dX2_init_53 : decode cX2_init 53 = .ok (.getfield 18, 3) := by decide +kernel
theorem dX2_init_56 : decode cX2_init 56 = .ok (.iconst (-1), 1) := by decide +kernel
theorem dX2_init_57 : decode cX2_init 57 = .ok (.invokestatic 30, 3) := by decide +kernel
theorem dX2_init_60 : decode cX2_init 60 = .ok (.aload_n 0, 1) := by decide +kernel
theorem dX2_init_61 : decode cX2_init 61 = .ok (.getfield 24, 3) := by decide +kernel
theorem dX2_init_64 : decode cX2_init 64 = .ok (.iconst (-1), 1) := by decide +kernel
theorem dX2_init_65 : decode cX2_init 65 = .ok (.invokestatic 30, 3) := by decide +kernel
theorem dX2_init_68 : decode cX2_init 68 = .ok (.return_, 1) := by decide +kernel
theorem dX2_copyFrom_0 : decode cX2_copyFrom 0 = .ok (.aload_n 1, 1) := by decide +kernel
theorem dX2_copyFrom_1 : decode cX2_copyFrom 1 = .ok (.getfield 9, 3) := by decide +kernel
theorem dX2_copyFrom_4 : decode cX2_copyFrom 4 = .ok (.aload_n 0, 1) := by decide +kernel
theorem dX2_copyFrom_5 : decode cX2_copyFrom 5 = .ok (.getfield 9, 3) := by decide +kernel
theorem dX2_copyFrom_8 : decode cX2_copyFrom 8 = .ok (.invokestatic 36, 3) := by decide +kernel
theorem dX2_copyFrom_11 : decode cX2_copyFrom 11 = .ok (.aload_n 1, 1) := by decide +kernel
theorem dX2_copyFrom_12 : decode cX2_copyFrom 12 = .ok (.getfield 15, 3) := by decide +kernel
theorem dX2_copyFrom_15 : decode cX2_copyFrom 15 = .ok (.aload_n 0, 1) := by decide +kernel
theorem dX2_copyFrom_16 : decode cX2_copyFrom 16 = .ok (.getfield 15, 3) := by decide +kernel
theorem dX2_copyFrom_19 : decode cX2_copyFrom 19 = .ok (.invokestatic 36, 3) := by decide +kernel
theorem dX2_copyFrom_22 : decode cX2_copyFrom 22 = .ok (.aload_n 1, 1) := by decide +kernel
theorem dX2_copyFrom_23 : decode cX2_copyFrom 23 = .ok (.getfield 18, 3) := by decide +kernel
theorem dX2_copyFrom_26 : decode cX2_copyFrom 26 = .ok (.aload_n 0, 1) := by decide +kernel
theorem dX2_copyFrom_27 : decode cX2_copyFrom 27 = .ok (.getfield 18, 3) := by decide +kernel
theorem dX2_copyFrom_30 : decode cX2_copyFrom 30 = .ok (.invokestatic 36, 3) := by decide +kernel
theorem dX2_copyFrom_33 : decode cX2_copyFrom 33 = .ok (.aload_n 1, 1) := by decide +kernel
theorem dX2_copyFrom_34 : decode cX2_copyFrom 34 = .ok (.getfield 21, 3) := by decide +kernel
theorem dX2_copyFrom_37 : decode cX2_copyFrom 37 = .ok (.aload_n 0, 1) := by decide +kernel
theorem dX2_copyFrom_38 : decode cX2_copyFrom 38 = .ok (.getfield 21, 3) := by decide +kernel
theorem dX2_copyFrom_41 : decode cX2_copyFrom 41 = .ok (.invokestatic 36, 3) := by decide +kernel
theorem dX2_copyFrom_44 : decode cX2_copyFrom 44 = .ok (.aload_n 1, 1) := by decide +kernel
theorem dX2_copyFrom_45 : decode cX2_copyFrom 45 = .ok (.getfield 24, 3) := by decide +kernel
theorem dX2_copyFrom_48 : decode cX2_copyFrom 48 = .ok (.aload_n 0, 1) := by decide +kernel
theorem dX2_copyFrom_49 : decode cX2_copyFrom 49 = .ok (.getfield 24, 3) := by decide +kernel
theorem dX2_copyFrom_52 : decode cX2_copyFrom 52 = .ok (.invokestatic 36, 3) := by decide +kernel
theorem dX2_copyFrom_55 : decode cX2_copyFrom 55 = .ok (.aload_n 1, 1) := by decide +kernel
theorem dX2_copyFrom_56 : decode cX2_copyFrom 56 = .ok (.getfield 27, 3) := by decide +kernel
theorem dX2_copyFrom_59 : decode cX2_copyFrom 59 = .ok (.aload_n 0, 1) := by decide +kernel
theorem dX2_copyFrom_60 : decode cX2_copyFrom 60 = .ok (.getfield 27, 3) := by decide +kernel
theorem dX2_copyFrom_63 : decode cX2_copyFrom 63 = .ok (.invokestatic 36, 3) := by decide +kernel
theorem dX2_copyFrom_66 : decode cX2_copyFrom 66 = .ok (.return_, 1) := by decide +kernel
theorem dX2_exists_0 : decode cX2_exists 0 = .ok (.iload_n 1, 1) := by decide +kernel
theorem dX2_exists_1 : decode cX2_exists 1 = .ok (.ifCond .lt 22, 3) := by decide +kernel
theorem dX2_exists_4 : decode cX2_exists 4 = .ok (.iload_n 1, 1) := by decide +kernel
theorem dX2_exists_5 : decode cX2_exists 5 = .ok (.bipush 8, 2) := by decide +kernel
theorem dX2_exists_7 : decode cX2_exists 7 = .ok (.if_icmp .ge 16, 3) := by decide +kernel
theorem dX2_exists_10 : decode cX2_exists 10 = .ok (.aload_n 0, 1) := by decide +kernel
theorem dX2_exists_11 : decode cX2_exists 11 = .ok (.getfield 9, 3) := by decide +kernel
theorem dX2_exists_14 : decode cX2_exists 14 = .ok (.iload_n 1, 1) := by decide +kernel
theorem dX2_exists_15 : decode cX2_exists 15 = .ok (.iaload, 1) := by decide +kernel
theorem dX2_exists_16 : decode cX2_exists 16 = .ok (.ifCond .le 7, 3) := by decide +kernel
theorem dX2_exists_19 : decode cX2_exists 19 = .ok (.iconst 1, 1) := by decide +kernel
theorem dX2_exists_20 : decode cX2_exists 20 = .ok (.goto 4, 3) := by decide +kernel
theorem dX2_exists_23 : decode cX2_exists 23 = .ok (.iconst 0, 1) := by decide +kernel
theorem dX2_exists_24 : decode cX2_exists 24 = .ok (.ireturn, 1) := by decide +kernel
theorem dX2_dataOf_0 : decode cX2_dataOf 0 = .ok (.iload_n 1, 1) := by decide +kernel
theorem dX2_dataOf_1 : decode cX2_dataOf 1 = .ok (.ifCond .lt 18, 3) := by decide +kernel
theorem dX2_dataOf_4 : decode cX2_dataOf 4 = .ok (.iload_n 1, 1) := by decide +kernel
theorem dX2_dataOf_5 : decode cX2_dataOf 5 = .ok (.bipush 8, 2) := by decide +kernel
theorem dX2_dataOf_7 : decode cX2_dataOf 7 = .ok (.if_icmp .ge 12, 3) := by decide +kernel
theorem dX2_dataOf_10 : decode cX2_dataOf 10 = .ok (.aload_n 0, 1) := by decide +kernel
theorem dX2_dataOf_11 : decode cX2_dataOf 11 = .ok (.getfield 9, 3) := by decide +kernel
theorem dX2_dataOf_14 : decode cX2_dataOf 14 = .ok (.iload_n 1, 1) := by decide +kernel
theorem dX2_dataOf_15 : decode cX2_dataOf 15 = .ok (.iaload, 1) := by decide +kernel
theorem dX2_dataOf_16 : decode cX2_dataOf 16 = .ok (.goto 4, 3) := by decide +kernel
theorem dX2_dataOf_19 : decode cX2_dataOf 19 = .ok (.iconst 0, 1) := by decide +kernel
theorem dX2_dataOf_20 : decode cX2_dataOf 20 = .ok (.ireturn, 1) := by decide +kernel
theorem dX2_fragmentNumber_0 : decode cX2_fragmentNumber 0 = .ok (.iload_n 1, 1) := by decide +kernel
theorem dX2_fragmentNumber_1 : decode cX2_fragmentNumber 1 = .ok (.ifCond .lt 25, 3) := by decide +kernel
theorem dX2_fragmentNumber_4 : decode cX2_fragmentNumber 4 = .ok (.iload_n 1, 1) := by decide +kernel
theorem dX2_fragmentNumber_5 : decode cX2_fragmentNumber 5 = .ok (.bipush 8, 2) := by decide +kernel
theorem dX2_fragmentNumber_7 : decode cX2_fragmentNumber 7 = .ok (.if_icmp .ge 19, 3) := by decide +kernel
theorem dX2_fragmentNumber_10 : decode cX2_fragmentNumber 10 = .ok (.aload_n 0, 1) := by decide +kernel
theorem dX2_fragmentNumber_11 : decode cX2_fragmentNumber 11 = .ok (.getfield 9, 3) := by decide +kernel
theorem dX2_fragmentNumber_14 : decode cX2_fragmentNumber 14 = .ok (.iload_n 1, 1) := by decide +kernel
theorem dX2_fragmentNumber_15 : decode cX2_fragmentNumber 15 = .ok (.iaload, 1) := by decide +kernel
theorem dX2_fragmentNumber_16 : decode cX2_fragmentNumber 16 = .ok (.aload_n 0, 1) := by decide +kernel
theorem dX2_fragmentNumber_17 : decode cX2_fragmentNumber 17 = .ok (.getfield 15, 3) := by decide +kernel
theorem dX2_fragmentNumber_20 : decode cX2_fragmentNumber 20 = .ok (.iload_n 1, 1) := by decide +kernel
theorem dX2_fragmentNumber_21 : decode cX2_fragmentNumber 21 = .ok (.iaload, 1) := by decide +kernel
theorem dX2_fragmentNumber_22 : decode cX2_fragmentNumber 22 = .ok (.iadd, 1) := by decide +kernel
theorem dX2_fragmentNumber_23 : decode cX2_fragmentNumber 23 = .ok (.goto 4, 3) := by decide +kernel
theorem dX2_fragmentNumber_26 : decode cX2_fragmentNumber 26 = .ok (.iconst 0, 1) := by decide +kernel
theorem dX2_fragmentNumber_27 : decode cX2_fragmentNumber 27 = .ok (.ireturn, 1) := by decide +kernel
theorem dX2_hasFragment_0 : decode cX2_hasFragment 0 = .ok (.iload_n 2, 1) := by decide +kernel
theorem dX2_hasFragment_1 : decode cX2_hasFragment 1 = .ok (.ifCond .lt 16, 3) := by decide +kernel
theorem dX2_hasFragment_4 : decode cX2_hasFragment 4 = .ok (.iload_n 2, 1) := by decide +kernel
theorem dX2_hasFragment_5 : decode cX2_hasFragment 5 = .ok (.aload_n 0, 1) := by decide +kernel
theorem dX2_hasFragment_6 : decode cX2_hasFragment 6 = .ok (.iload_n 1, 1) := by decide +kernel
theorem dX2_hasFragment_7 : decode cX2_hasFragment 7 = .ok (.invokevirtual 40, 3) := by decide +kernel
theorem dX2_hasFragment_10 : decode cX2_hasFragment 10 = .ok (.if_icmp .ge 7, 3) := by decide +kernel
theorem dX2_hasFragment_13 : decode cX2_hasFragment 13 = .ok (.iconst 1, 1) := by decide +kernel
theorem dX2_hasFragment_14 : decode cX2_hasFragment 14 = .ok (.goto 4, 3) := by decide +kernel
theorem dX2_hasFragment_17 : decode cX2_hasFragment 17 = .ok (.iconst 0, 1) := by decide +kernel
theorem dX2_hasFragment_18 : decode cX2_hasFragment 18 = .ok (.ireturn, 1) := by decide +kernel
theorem dX2_hasData_0 : decode cX2_hasData 0 = .ok (.iload_n 2, 1) := by decide +kernel
theorem dX2_hasData_1 : decode cX2_hasData 1 = .ok (.ifCond .lt 16, 3) := by decide +kernel
theorem dX2_hasData_4 : decode cX2_hasData 4 = .ok (.iload_n 2, 1) := by decide +kernel
theorem dX2_hasData_5 : decode cX2_hasData 5 = .ok (.aload_n 0, 1) := by decide +kernel
theorem dX2_hasData_6 : decode cX2_hasData 6 = .ok (.iload_n 1, 1) := by decide +kernel
theorem dX2_hasData_7 : decode cX2_hasData 7 = .ok (.invokevirtual 44, 3) := by decide +kernel
theorem dX2_hasData_10 : decode cX2_hasData 10 = .ok (.if_icmp .ge 7, 3) := by decide +kernel
theorem dX2_hasData_13 : decode cX2_hasData 13 = .ok (.iconst 1, 1) := by decide +kernel
theorem dX2_hasData_14 : decode cX2_hasData 14 = .ok (.goto 4, 3) := by decide +kernel
theorem dX2_hasData_17 : decode cX2_hasData 17 = .ok (.iconst 0, 1) := by decide +kernel
theorem dX2_hasData_18 : decode cX2_hasData 18 = .ok (.ireturn, 1) := by decide +kernel
theorem dX2_ownerOf_0 : decode cX2_ownerOf 0 = .ok (.iload_n 1, 1) := by decide +kernel
theorem dX2_ownerOf_1 : decode cX2_ownerOf 1 = .ok (.ifCond .lt 18, 3) := by decide +kernel
theorem dX2_ownerOf_4 : decode cX2_ownerOf 4 = .ok (.iload_n 1, 1) := by decide +kernel
theorem dX2_ownerOf_5 : decode cX2_ownerOf 5 = .ok (.bipush 8, 2) := by decide +kernel
theorem dX2_ownerOf_7 : decode cX2_ownerOf 7 = .ok (.if_icmp .ge 12, 3) := by decide +kernel
theorem dX2_ownerOf_10 : decode cX2_ownerOf 10 = .ok (.aload_n 0, 1) := by decide +kernel
theorem dX2_ownerOf_11 : decode cX2_ownerOf 11 = .ok (.getfield 18, 3) := by decide +kernel
theorem dX2_ownerOf_14 : decode cX2_ownerOf 14 = .ok (.iload_n 1, 1) := by decide +kernel
theorem dX2_ownerOf_15 : decode cX2_ownerOf 15 = .ok (.iaload, 1) := by decide +kernel
theorem dX2_ownerOf_16 : decode cX2_ownerOf 16 = .ok (.goto 4, 3) := by decide +kernel
theorem dX2_ownerOf_19 : decode cX2_ownerOf 19 = .ok (.iconst (-1), 1) := by decide +kernel
theorem dX2_ownerOf_20 : decode cX2_ownerOf 20 = .ok (.ireturn, 1) := by decide +kernel
theorem dX2_isInRows_0 : decode cX2_isInRows 0 = .ok (.iload_n 0, 1) := by decide +kernel
theorem dX2_isInRows_1 : decode cX2_isInRows 1 = .ok (.ifCond .lt 23, 3) := by decide +kernel
theorem dX2_isInRows_4 : decode cX2_isInRows 4 = .ok (.iload_n 0, 1) := by decide +kernel
theorem dX2_isInRows_5 : decode cX2_isInRows 5 = .ok (.bipush 8, 2) := by decide +kernel
theorem dX2_isInRows_7 : decode cX2_isInRows 7 = .ok (.if_icmp .ge 17, 3) := by decide +kernel
theorem dX2_isInRows_10 : decode cX2_isInRows 10 = .ok (.iload_n 1, 1) := by decide +kernel
theorem dX2_isInRows_11 : decode cX2_isInRows 11 = .ok (.ifCond .lt 13, 3) := by decide +kernel
theorem dX2_isInRows_14 : decode cX2_isInRows 14 = .ok (.iload_n 1, 1) := by decide +kernel
theorem dX2_isInRows_15 : decode cX2_isInRows 15 = .ok (.bipush 10, 2) := by decide +kernel
theorem dX2_isInRows_17 : decode cX2_isInRows 17 = .ok (.if_icmp .ge 7, 3) := by decide +kernel
theorem dX2_isInRows_20 : decode cX2_isInRows 20 = .ok (.iconst 1, 1) := by decide +kernel
theorem dX2_isInRows_21 : decode cX2_isInRows 21 = .ok (.goto 4, 3) := by decide +kernel
theorem dX2_isInRows_24 : decode cX2_isInRows 24 = .ok (.iconst 0, 1) := by decide +kernel
theorem dX2_isInRows_25 : decode cX2_isInRows 25 = .ok (.ireturn, 1) := by decide +kernel
theorem dX2_placeOf_0 : decode cX2_placeOf 0 = .ok (.iload_n 1, 1) := by decide +kernel
theorem dX2_placeOf_1 : decode cX2_placeOf 1 = .ok (.iload_n 2, 1) := by decide +kernel
theorem dX2_placeOf_2 : decode cX2_placeOf 2 = .ok (.invokestatic 47, 3) := by decide +kernel
theorem dX2_placeOf_5 : decode cX2_placeOf 5 = .ok (.ifCond .eq 17, 3) := by decide +kernel
theorem dX2_placeOf_8 : decode cX2_placeOf 8 = .ok (.aload_n 0, 1) := by decide +kernel
theorem dX2_placeOf_9 : decode cX2_placeOf 9 = .ok (.getfield 24, 3) := by decide +kernel
theorem dX2_placeOf_12 : decode cX2_placeOf 12 = .ok (.iload_n 1, 1) := by decide +kernel
theorem dX2_placeOf_13 : decode cX2_placeOf 13 = .ok (.bipush 10, 2) := by decide +kernel
theorem dX2_placeOf_15 : decode cX2_placeOf 15 = .ok (.imul, 1) := by decide +kernel
theorem dX2_placeOf_16 : decode cX2_placeOf 16 = .ok (.iload_n 2, 1) := by decide +kernel
theorem dX2_placeOf_17 : decode cX2_placeOf 17 = .ok (.iadd, 1) := by decide +kernel
theorem dX2_placeOf_18 : decode cX2_placeOf 18 = .ok (.iaload, 1) := by decide +kernel
theorem dX2_placeOf_19 : decode cX2_placeOf 19 = .ok (.goto 4, 3) := by decide +kernel
theorem dX2_placeOf_22 : decode cX2_placeOf 22 = .ok (.iconst (-1), 1) := by decide +kernel
theorem dX2_placeOf_23 : decode cX2_placeOf 23 = .ok (.ireturn, 1) := by decide +kernel
theorem dX2_correctValue_0 : decode cX2_correctValue 0 = .ok (.iload_n 1, 1) := by decide +kernel
theorem dX2_correctValue_1 : decode cX2_correctValue 1 = .ok (.iload_n 2, 1) := by decide +kernel
theorem dX2_correctValue_2 : decode cX2_correctValue 2 = .ok (.invokestatic 47, 3) := by decide +kernel
theorem dX2_correctValue_5 : decode cX2_correctValue 5 = .ok (.ifCond .eq 17, 3) := by decide +kernel
theorem dX2_correctValue_8 : decode cX2_correctValue 8 = .ok (.aload_n 0, 1) := by decide +kernel
theorem dX2_correctValue_9 : decode cX2_correctValue 9 = .ok (.getfield 21, 3) := by decide +kernel
theorem dX2_correctValue_12 : decode cX2_correctValue 12 = .ok (.iload_n 1, 1) := by decide +kernel
theorem dX2_correctValue_13 : decode cX2_correctValue 13 = .ok (.bipush 10, 2) := by decide +kernel
theorem dX2_correctValue_15 : decode cX2_correctValue 15 = .ok (.imul, 1) := by decide +kernel
theorem dX2_correctValue_16 : decode cX2_correctValue 16 = .ok (.iload_n 2, 1) := by decide +kernel
theorem dX2_correctValue_17 : decode cX2_correctValue 17 = .ok (.iadd, 1) := by decide +kernel
theorem dX2_correctValue_18 : decode cX2_correctValue 18 = .ok (.iaload, 1) := by decide +kernel
theorem dX2_correctValue_19 : decode cX2_correctValue 19 = .ok (.goto 4, 3) := by decide +kernel
theorem dX2_correctValue_22 : decode cX2_correctValue 22 = .ok (.iconst 0, 1) := by decide +kernel
theorem dX2_correctValue_23 : decode cX2_correctValue 23 = .ok (.ireturn, 1) := by decide +kernel
theorem dX2_errorOf_0 : decode cX2_errorOf 0 = .ok (.iload_n 1, 1) := by decide +kernel
theorem dX2_errorOf_1 : decode cX2_errorOf 1 = .ok (.iload_n 2, 1) := by decide +kernel
theorem dX2_errorOf_2 : decode cX2_errorOf 2 = .ok (.invokestatic 47, 3) := by decide +kernel
theorem dX2_errorOf_5 : decode cX2_errorOf 5 = .ok (.ifCond .eq 17, 3) := by decide +kernel
theorem dX2_errorOf_8 : decode cX2_errorOf 8 = .ok (.aload_n 0, 1) := by decide +kernel
theorem dX2_errorOf_9 : decode cX2_errorOf 9 = .ok (.getfield 27, 3) := by decide +kernel
theorem dX2_errorOf_12 : decode cX2_errorOf 12 = .ok (.iload_n 1, 1) := by decide +kernel
theorem dX2_errorOf_13 : decode cX2_errorOf 13 = .ok (.bipush 10, 2) := by decide +kernel
theorem dX2_errorOf_15 : decode cX2_errorOf 15 = .ok (.imul, 1) := by decide +kernel
theorem dX2_errorOf_16 : decode cX2_errorOf 16 = .ok (.iload_n 2, 1) := by decide +kernel
theorem dX2_errorOf_17 : decode cX2_errorOf 17 = .ok (.iadd, 1) := by decide +kernel
theorem dX2_errorOf_18 : decode cX2_errorOf 18 = .ok (.iaload, 1) := by decide +kernel
theorem dX2_errorOf_19 : decode cX2_errorOf 19 = .ok (.goto 4, 3) := by decide +kernel
theorem dX2_errorOf_22 : decode cX2_errorOf 22 = .ok (.iconst 0, 1) := by decide +kernel
theorem dX2_errorOf_23 : decode cX2_errorOf 23 = .ok (.ireturn, 1) := by decide +kernel
theorem dX2_storedValue_0 : decode cX2_storedValue 0 = .ok (.aload_n 0, 1) := by decide +kernel
theorem dX2_storedValue_1 : decode cX2_storedValue 1 = .ok (.iload_n 1, 1) := by decide +kernel
theorem dX2_storedValue_2 : decode cX2_storedValue 2 = .ok (.iload_n 2, 1) := by decide +kernel
theorem dX2_storedValue_3 : decode cX2_storedValue 3 = .ok (.invokevirtual 51, 3) := by decide +kernel
theorem dX2_storedValue_6 : decode cX2_storedValue 6 = .ok (.aload_n 0, 1) := by decide +kernel
theorem dX2_storedValue_7 : decode cX2_storedValue 7 = .ok (.iload_n 1, 1) := by decide +kernel
theorem dX2_storedValue_8 : decode cX2_storedValue 8 = .ok (.iload_n 2, 1) := by decide +kernel
theorem dX2_storedValue_9 : decode cX2_storedValue 9 = .ok (.invokevirtual 55, 3) := by decide +kernel
theorem dX2_storedValue_12 : decode cX2_storedValue 12 = .ok (.iadd, 1) := by decide +kernel
theorem dX2_storedValue_13 : decode cX2_storedValue 13 = .ok (.sipush 257, 3) := by decide +kernel
theorem dX2_storedValue_16 : decode cX2_storedValue 16 = .ok (.irem, 1) := by decide +kernel
theorem dX2_storedValue_17 : decode cX2_storedValue 17 = .ok (.ireturn, 1) := by decide +kernel
theorem dX2_isStored_0 : decode cX2_isStored 0 = .ok (.aload_n 0, 1) := by decide +kernel
theorem dX2_isStored_1 : decode cX2_isStored 1 = .ok (.iload_n 1, 1) := by decide +kernel
theorem dX2_isStored_2 : decode cX2_isStored 2 = .ok (.iload_n 2, 1) := by decide +kernel
theorem dX2_isStored_3 : decode cX2_isStored 3 = .ok (.invokevirtual 58, 3) := by decide +kernel
theorem dX2_isStored_6 : decode cX2_isStored 6 = .ok (.iconst (-1), 1) := by decide +kernel
theorem dX2_isStored_7 : decode cX2_isStored 7 = .ok (.if_icmp .eq 7, 3) := by decide +kernel
theorem dX2_isStored_10 : decode cX2_isStored 10 = .ok (.iconst 1, 1) := by decide +kernel
theorem dX2_isStored_11 : decode cX2_isStored 11 = .ok (.goto 4, 3) := by decide +kernel
theorem dX2_isStored_14 : decode cX2_isStored 14 = .ok (.iconst 0, 1) := by decide +kernel
theorem dX2_isStored_15 : decode cX2_isStored 15 = .ok (.ireturn, 1) := by decide +kernel
theorem dX2_isSpoiled_0 : decode cX2_isSpoiled 0 = .ok (.aload_n 0, 1) := by decide +kernel
theorem dX2_isSpoiled_1 : decode cX2_isSpoiled 1 = .ok (.iload_n 1, 1) := by decide +kernel
theorem dX2_isSpoiled_2 : decode cX2_isSpoiled 2 = .ok (.iload_n 2, 1) := by decide +kernel
theorem dX2_isSpoiled_3 : decode cX2_isSpoiled 3 = .ok (.invokevirtual 61, 3) := by decide +kernel
theorem dX2_isSpoiled_6 : decode cX2_isSpoiled 6 = .ok (.ifCond .eq 16, 3) := by decide +kernel
theorem dX2_isSpoiled_9 : decode cX2_isSpoiled 9 = .ok (.aload_n 0, 1) := by decide +kernel
theorem dX2_isSpoiled_10 : decode cX2_isSpoiled 10 = .ok (.iload_n 1, 1) := by decide +kernel
theorem dX2_isSpoiled_11 : decode cX2_isSpoiled 11 = .ok (.iload_n 2, 1) := by decide +kernel
theorem dX2_isSpoiled_12 : decode cX2_isSpoiled 12 = .ok (.invokevirtual 55, 3) := by decide +kernel
theorem dX2_isSpoiled_15 : decode cX2_isSpoiled 15 = .ok (.ifCond .eq 7, 3) := by decide +kernel
theorem dX2_isSpoiled_18 : decode cX2_isSpoiled 18 = .ok (.iconst 1, 1) := by decide +kernel
theorem dX2_isSpoiled_19 : decode cX2_isSpoiled 19 = .ok (.goto 4, 3) := by decide +kernel
theorem dX2_isSpoiled_22 : decode cX2_isSpoiled 22 = .ok (.iconst 0, 1) := by decide +kernel
theorem dX2_isSpoiled_23 : decode cX2_isSpoiled 23 = .ok (.ireturn, 1) := by decide +kernel
theorem dX2_fragmentOn_0 : decode cX2_fragmentOn 0 = .ok (.iload_n 1, 1) := by decide +kernel
theorem dX2_fragmentOn_1 : decode cX2_fragmentOn 1 = .ok (.ifCond .lt 14, 3) := by decide +kernel
theorem dX2_fragmentOn_4 : decode cX2_fragmentOn 4 = .ok (.iload_n 1, 1) := by decide +kernel
theorem dX2_fragmentOn_5 : decode cX2_fragmentOn 5 = .ok (.bipush 8, 2) := by decide +kernel
theorem dX2_fragmentOn_7 : decode cX2_fragmentOn 7 = .ok (.if_icmp .ge 8, 3) := by decide +kernel
theorem dX2_fragmentOn_10 : decode cX2_fragmentOn 10 = .ok (.iload_n 2, 1) := by decide +kernel
theorem dX2_fragmentOn_11 : decode cX2_fragmentOn 11 = .ok (.iconst (-1), 1) := by decide +kernel
theorem dX2_fragmentOn_12 : decode cX2_fragmentOn 12 = .ok (.if_icmp .ne 5, 3) := by decide +kernel
theorem dX2_fragmentOn_15 : decode cX2_fragmentOn 15 = .ok (.iconst (-1), 1) := by decide +kernel
theorem dX2_fragmentOn_16 : decode cX2_fragmentOn 16 = .ok (.ireturn, 1) := by decide +kernel
theorem dX2_fragmentOn_17 : decode cX2_fragmentOn 17 = .ok (.iload_n 1, 1) := by decide +kernel
theorem dX2_fragmentOn_18 : decode cX2_fragmentOn 18 = .ok (.bipush 10, 2) := by decide +kernel
theorem dX2_fragmentOn_20 : decode cX2_fragmentOn 20 = .ok (.imul, 1) := by decide +kernel
theorem dX2_fragmentOn_21 : decode cX2_fragmentOn 21 = .ok (.istore_n 3, 1) := by decide +kernel
theorem dX2_fragmentOn_22 : decode cX2_fragmentOn 22 = .ok (.iconst 0, 1) := by decide +kernel
theorem dX2_fragmentOn_23 : decode cX2_fragmentOn 23 = .ok (.istore 4, 2) := by decide +kernel
theorem dX2_fragmentOn_25 : decode cX2_fragmentOn 25 = .ok (.iload 4, 2) := by decide +kernel
theorem dX2_fragmentOn_27 : decode cX2_fragmentOn 27 = .ok (.bipush 10, 2) := by decide +kernel
theorem dX2_fragmentOn_29 : decode cX2_fragmentOn 29 = .ok (.if_icmp .ge 25, 3) := by decide +kernel
theorem dX2_fragmentOn_32 : decode cX2_fragmentOn 32 = .ok (.aload_n 0, 1) := by decide +kernel
theorem dX2_fragmentOn_33 : decode cX2_fragmentOn 33 = .ok (.getfield 24, 3) := by decide +kernel
theorem dX2_fragmentOn_36 : decode cX2_fragmentOn 36 = .ok (.iload_n 3, 1) := by decide +kernel
theorem dX2_fragmentOn_37 : decode cX2_fragmentOn 37 = .ok (.iload 4, 2) := by decide +kernel
theorem dX2_fragmentOn_39 : decode cX2_fragmentOn 39 = .ok (.iadd, 1) := by decide +kernel
theorem dX2_fragmentOn_40 : decode cX2_fragmentOn 40 = .ok (.iaload, 1) := by decide +kernel
theorem dX2_fragmentOn_41 : decode cX2_fragmentOn 41 = .ok (.iload_n 2, 1) := by decide +kernel
theorem dX2_fragmentOn_42 : decode cX2_fragmentOn 42 = .ok (.if_icmp .ne 6, 3) := by decide +kernel
theorem dX2_fragmentOn_45 : decode cX2_fragmentOn 45 = .ok (.iload 4, 2) := by decide +kernel
theorem dX2_fragmentOn_47 : decode cX2_fragmentOn 47 = .ok (.ireturn, 1) := by decide +kernel
theorem dX2_fragmentOn_48 : decode cX2_fragmentOn 48 = .ok (.iinc 4 1, 3) := by decide +kernel
theorem dX2_fragmentOn_51 : decode cX2_fragmentOn 51 = .ok (.goto (-26), 3) := by decide +kernel
theorem dX2_fragmentOn_54 : decode cX2_fragmentOn 54 = .ok (.iconst (-1), 1) := by decide +kernel
theorem dX2_fragmentOn_55 : decode cX2_fragmentOn 55 = .ok (.ireturn, 1) := by decide +kernel
theorem dX2_number_0 : decode cX2_number 0 = .ok (.iconst 0, 1) := by decide +kernel
theorem dX2_number_1 : decode cX2_number 1 = .ok (.istore_n 1, 1) := by decide +kernel
theorem dX2_number_2 : decode cX2_number 2 = .ok (.iconst 0, 1) := by decide +kernel
theorem dX2_number_3 : decode cX2_number 3 = .ok (.istore_n 2, 1) := by decide +kernel
theorem dX2_number_4 : decode cX2_number 4 = .ok (.iload_n 2, 1) := by decide +kernel
theorem dX2_number_5 : decode cX2_number 5 = .ok (.bipush 8, 2) := by decide +kernel
theorem dX2_number_7 : decode cX2_number 7 = .ok (.if_icmp .ge 20, 3) := by decide +kernel
theorem dX2_number_10 : decode cX2_number 10 = .ok (.aload_n 0, 1) := by decide +kernel
theorem dX2_number_11 : decode cX2_number 11 = .ok (.iload_n 2, 1) := by decide +kernel
theorem dX2_number_12 : decode cX2_number 12 = .ok (.invokevirtual 64, 3) := by decide +kernel
theorem dX2_number_15 : decode cX2_number 15 = .ok (.ifCond .eq 6, 3) := by decide +kernel
theorem dX2_number_18 : decode cX2_number 18 = .ok (.iinc 1 1, 3) := by decide +kernel
theorem dX2_number_21 : decode cX2_number 21 = .ok (.iinc 2 1, 3) := by decide +kernel
theorem dX2_number_24 : decode cX2_number 24 = .ok (.goto (-20), 3) := by decide +kernel
theorem dX2_number_27 : decode cX2_number 27 = .ok (.iload_n 1, 1) := by decide +kernel
theorem dX2_number_28 : decode cX2_number 28 = .ok (.ireturn, 1) := by decide +kernel
theorem dX2_lowestUnused_0 : decode cX2_lowestUnused 0 = .ok (.iconst 0, 1) := by decide +kernel
theorem dX2_lowestUnused_1 : decode cX2_lowestUnused 1 = .ok (.istore_n 1, 1) := by decide +kernel
theorem dX2_lowestUnused_2 : decode cX2_lowestUnused 2 = .ok (.iload_n 1, 1) := by decide +kernel
theorem dX2_lowestUnused_3 : decode cX2_lowestUnused 3 = .ok (.bipush 8, 2) := by decide +kernel
theorem dX2_lowestUnused_5 : decode cX2_lowestUnused 5 = .ok (.if_icmp .ge 19, 3) := by decide +kernel
theorem dX2_lowestUnused_8 : decode cX2_lowestUnused 8 = .ok (.aload_n 0, 1) := by decide +kernel
theorem dX2_lowestUnused_9 : decode cX2_lowestUnused 9 = .ok (.iload_n 1, 1) := by decide +kernel
theorem dX2_lowestUnused_10 : decode cX2_lowestUnused 10 = .ok (.invokevirtual 64, 3) := by decide +kernel
theorem dX2_lowestUnused_13 : decode cX2_lowestUnused 13 = .ok (.ifCond .ne 5, 3) := by decide +kernel
theorem dX2_lowestUnused_16 : decode cX2_lowestUnused 16 = .ok (.iload_n 1, 1) := by decide +kernel
theorem dX2_lowestUnused_17 : decode cX2_lowestUnused 17 = .ok (.ireturn, 1) := by decide +kernel
theorem dX2_lowestUnused_18 : decode cX2_lowestUnused 18 = .ok (.iinc 1 1, 3) := by decide +kernel
theorem dX2_lowestUnused_21 : decode cX2_lowestUnused 21 = .ok (.goto (-19), 3) := by decide +kernel
theorem dX2_lowestUnused_24 : decode cX2_lowestUnused 24 = .ok (.iconst (-1), 1) := by decide +kernel
theorem dX2_lowestUnused_25 : decode cX2_lowestUnused 25 = .ok (.ireturn, 1) := by decide +kernel
theorem dX2_ownedBy_0 : decode cX2_ownedBy 0 = .ok (.iconst 0, 1) := by decide +kernel
theorem dX2_ownedBy_1 : decode cX2_ownedBy 1 = .ok (.istore_n 2, 1) := by decide +kernel
theorem dX2_ownedBy_2 : decode cX2_ownedBy 2 = .ok (.iconst 0, 1) := by decide +kernel
theorem dX2_ownedBy_3 : decode cX2_ownedBy 3 = .ok (.istore_n 3, 1) := by decide +kernel
theorem dX2_ownedBy_4 : decode cX2_ownedBy 4 = .ok (.iload_n 3, 1) := by decide +kernel
theorem dX2_ownedBy_5 : decode cX2_ownedBy 5 = .ok (.bipush 8, 2) := by decide +kernel
theorem dX2_ownedBy_7 : decode cX2_ownedBy 7 = .ok (.if_icmp .ge 29, 3) := by decide +kernel
theorem dX2_ownedBy_10 : decode cX2_ownedBy 10 = .ok (.aload_n 0, 1) := by decide +kernel
theorem dX2_ownedBy_11 : decode cX2_ownedBy 11 = .ok (.iload_n 3, 1) := by decide +kernel
theorem dX2_ownedBy_12 : decode cX2_ownedBy 12 = .ok (.invokevirtual 64, 3) := by decide +kernel
theorem dX2_ownedBy_15 : decode cX2_ownedBy 15 = .ok (.ifCond .eq 15, 3) := by decide +kernel
theorem dX2_ownedBy_18 : decode cX2_ownedBy 18 = .ok (.aload_n 0, 1) := by decide +kernel
theorem dX2_ownedBy_19 : decode cX2_ownedBy 19 = .ok (.iload_n 3, 1) := by decide +kernel
theorem dX2_ownedBy_20 : decode cX2_ownedBy 20 = .ok (.invokevirtual 68, 3) := by decide +kernel
theorem dX2_ownedBy_23 : decode cX2_ownedBy 23 = .ok (.iload_n 1, 1) := by decide +kernel
theorem dX2_ownedBy_24 : decode cX2_ownedBy 24 = .ok (.if_icmp .ne 6, 3) := by decide +kernel
theorem dX2_ownedBy_27 : decode cX2_ownedBy 27 = .ok (.iinc 2 1, 3) := by decide +kernel
theorem dX2_ownedBy_30 : decode cX2_ownedBy 30 = .ok (.iinc 3 1, 3) := by decide +kernel
theorem dX2_ownedBy_33 : decode cX2_ownedBy 33 = .ok (.goto (-29), 3) := by decide +kernel
theorem dX2_ownedBy_36 : decode cX2_ownedBy 36 = .ok (.iload_n 2, 1) := by decide +kernel
theorem dX2_ownedBy_37 : decode cX2_ownedBy 37 = .ok (.ireturn, 1) := by decide +kernel
theorem dX2_storedNumber_0 : decode cX2_storedNumber 0 = .ok (.iconst 0, 1) := by decide +kernel
theorem dX2_storedNumber_1 : decode cX2_storedNumber 1 = .ok (.istore_n 2, 1) := by decide +kernel
theorem dX2_storedNumber_2 : decode cX2_storedNumber 2 = .ok (.aload_n 0, 1) := by decide +kernel
theorem dX2_storedNumber_3 : decode cX2_storedNumber 3 = .ok (.iload_n 1, 1) := by decide +kernel
theorem dX2_storedNumber_4 : decode cX2_storedNumber 4 = .ok (.invokevirtual 40, 3) := by decide +kernel
theorem dX2_storedNumber_7 : decode cX2_storedNumber 7 = .ok (.istore_n 3, 1) := by decide +kernel
theorem dX2_storedNumber_8 : decode cX2_storedNumber 8 = .ok (.iconst 0, 1) := by decide +kernel
theorem dX2_storedNumber_9 : decode cX2_storedNumber 9 = .ok (.istore 4, 2) := by decide +kernel
theorem dX2_storedNumber_11 : decode cX2_storedNumber 11 = .ok (.iload 4, 2) := by decide +kernel
theorem dX2_storedNumber_13 : decode cX2_storedNumber 13 = .ok (.iload_n 3, 1) := by decide +kernel
theorem dX2_storedNumber_14 : decode cX2_storedNumber 14 = .ok (.if_icmp .ge 22, 3) := by decide +kernel
theorem dX2_storedNumber_17 : decode cX2_storedNumber 17 = .ok (.aload_n 0, 1) := by decide +kernel
theorem dX2_storedNumber_18 : decode cX2_storedNumber 18 = .ok (.iload_n 1, 1) := by decide +kernel
theorem dX2_storedNumber_19 : decode cX2_storedNumber 19 = .ok (.iload 4, 2) := by decide +kernel
theorem dX2_storedNumber_21 : decode cX2_storedNumber 21 = .ok (.invokevirtual 61, 3) := by decide +kernel
theorem dX2_storedNumber_24 : decode cX2_storedNumber 24 = .ok (.ifCond .eq 6, 3) := by decide +kernel
theorem dX2_storedNumber_27 : decode cX2_storedNumber 27 = .ok (.iinc 2 1, 3) := by decide +kernel
theorem dX2_storedNumber_30 : decode cX2_storedNumber 30 = .ok (.iinc 4 1, 3) := by decide +kernel
theorem dX2_storedNumber_33 : decode cX2_storedNumber 33 = .ok (.goto (-22), 3) := by decide +kernel
theorem dX2_storedNumber_36 : decode cX2_storedNumber 36 = .ok (.iload_n 2, 1) := by decide +kernel
theorem dX2_storedNumber_37 : decode cX2_storedNumber 37 = .ok (.ireturn, 1) := by decide +kernel
theorem dX2_spoiledNumber_0 : decode cX2_spoiledNumber 0 = .ok (.iconst 0, 1) := by decide +kernel
theorem dX2_spoiledNumber_1 : decode cX2_spoiledNumber 1 = .ok (.istore_n 2, 1) := by decide +kernel
theorem dX2_spoiledNumber_2 : decode cX2_spoiledNumber 2 = .ok (.aload_n 0, 1) := by decide +kernel
theorem dX2_spoiledNumber_3 : decode cX2_spoiledNumber 3 = .ok (.iload_n 1, 1) := by decide +kernel
theorem dX2_spoiledNumber_4 : decode cX2_spoiledNumber 4 = .ok (.invokevirtual 40, 3) := by decide +kernel
theorem dX2_spoiledNumber_7 : decode cX2_spoiledNumber 7 = .ok (.istore_n 3, 1) := by decide +kernel
theorem dX2_spoiledNumber_8 : decode cX2_spoiledNumber 8 = .ok (.iconst 0, 1) := by decide +kernel
theorem dX2_spoiledNumber_9 : decode cX2_spoiledNumber 9 = .ok (.istore 4, 2) := by decide +kernel
theorem dX2_spoiledNumber_11 : decode cX2_spoiledNumber 11 = .ok (.iload 4, 2) := by decide +kernel
theorem dX2_spoiledNumber_13 : decode cX2_spoiledNumber 13 = .ok (.iload_n 3, 1) := by decide +kernel
theorem dX2_spoiledNumber_14 : decode cX2_spoiledNumber 14 = .ok (.if_icmp .ge 22, 3) := by decide +kernel
theorem dX2_spoiledNumber_17 : decode cX2_spoiledNumber 17 = .ok (.aload_n 0, 1) := by decide +kernel
theorem dX2_spoiledNumber_18 : decode cX2_spoiledNumber 18 = .ok (.iload_n 1, 1) := by decide +kernel
theorem dX2_spoiledNumber_19 : decode cX2_spoiledNumber 19 = .ok (.iload 4, 2) := by decide +kernel
theorem dX2_spoiledNumber_21 : decode cX2_spoiledNumber 21 = .ok (.invokevirtual 71, 3) := by decide +kernel
theorem dX2_spoiledNumber_24 : decode cX2_spoiledNumber 24 = .ok (.ifCond .eq 6, 3) := by decide +kernel
theorem dX2_spoiledNumber_27 : decode cX2_spoiledNumber 27 = .ok (.iinc 2 1, 3) := by decide +kernel
theorem dX2_spoiledNumber_30 : decode cX2_spoiledNumber 30 = .ok (.iinc 4 1, 3) := by decide +kernel
theorem dX2_spoiledNumber_33 : decode cX2_spoiledNumber 33 = .ok (.goto (-22), 3) := by decide +kernel
theorem dX2_spoiledNumber_36 : decode cX2_spoiledNumber 36 = .ok (.iload_n 2, 1) := by decide +kernel
theorem dX2_spoiledNumber_37 : decode cX2_spoiledNumber 37 = .ok (.ireturn, 1) := by decide +kernel
theorem dX2_allStored_0 : decode cX2_allStored 0 = .ok (.iconst 0, 1) := by decide +kernel
theorem dX2_allStored_1 : decode cX2_allStored 1 = .ok (.istore_n 1, 1) := by decide +kernel
theorem dX2_allStored_2 : decode cX2_allStored 2 = .ok (.iconst 0, 1) := by decide +kernel
theorem dX2_allStored_3 : decode cX2_allStored 3 = .ok (.istore_n 2, 1) := by decide +kernel
theorem dX2_allStored_4 : decode cX2_allStored 4 = .ok (.iload_n 2, 1) := by decide +kernel
theorem dX2_allStored_5 : decode cX2_allStored 5 = .ok (.bipush 8, 2) := by decide +kernel
theorem dX2_allStored_7 : decode cX2_allStored 7 = .ok (.if_icmp .ge 17, 3) := by decide +kernel
theorem dX2_allStored_10 : decode cX2_allStored 10 = .ok (.iload_n 1, 1) := by decide +kernel
theorem dX2_allStored_11 : decode cX2_allStored 11 = .ok (.aload_n 0, 1) := by decide +kernel
theorem dX2_allStored_12 : decode cX2_allStored 12 = .ok (.iload_n 2, 1) := by decide +kernel
theorem dX2_allStored_13 : decode cX2_allStored 13 = .ok (.invokevirtual 74, 3) := by decide +kernel
theorem dX2_allStored_16 : decode cX2_allStored 16 = .ok (.iadd, 1) := by decide +kernel
theorem dX2_allStored_17 : decode cX2_allStored 17 = .ok (.istore_n 1, 1) := by decide +kernel
theorem dX2_allStored_18 : decode cX2_allStored 18 = .ok (.iinc 2 1, 3) := by decide +kernel
theorem dX2_allStored_21 : decode cX2_allStored 21 = .ok (.goto (-17), 3) := by decide +kernel
theorem dX2_allStored_24 : decode cX2_allStored 24 = .ok (.iload_n 1, 1) := by decide +kernel
theorem dX2_allStored_25 : decode cX2_allStored 25 = .ok (.ireturn, 1) := by decide +kernel
theorem dX2_allSpoiled_0 : decode cX2_allSpoiled 0 = .ok (.iconst 0, 1) := by decide +kernel
theorem dX2_allSpoiled_1 : decode cX2_allSpoiled 1 = .ok (.istore_n 1, 1) := by decide +kernel
theorem dX2_allSpoiled_2 : decode cX2_allSpoiled 2 = .ok (.iconst 0, 1) := by decide +kernel
theorem dX2_allSpoiled_3 : decode cX2_allSpoiled 3 = .ok (.istore_n 2, 1) := by decide +kernel
theorem dX2_allSpoiled_4 : decode cX2_allSpoiled 4 = .ok (.iload_n 2, 1) := by decide +kernel
theorem dX2_allSpoiled_5 : decode cX2_allSpoiled 5 = .ok (.bipush 8, 2) := by decide +kernel
theorem dX2_allSpoiled_7 : decode cX2_allSpoiled 7 = .ok (.if_icmp .ge 17, 3) := by decide +kernel
theorem dX2_allSpoiled_10 : decode cX2_allSpoiled 10 = .ok (.iload_n 1, 1) := by decide +kernel
theorem dX2_allSpoiled_11 : decode cX2_allSpoiled 11 = .ok (.aload_n 0, 1) := by decide +kernel
theorem dX2_allSpoiled_12 : decode cX2_allSpoiled 12 = .ok (.iload_n 2, 1) := by decide +kernel
theorem dX2_allSpoiled_13 : decode cX2_allSpoiled 13 = .ok (.invokevirtual 77, 3) := by decide +kernel
theorem dX2_allSpoiled_16 : decode cX2_allSpoiled 16 = .ok (.iadd, 1) := by decide +kernel
theorem dX2_allSpoiled_17 : decode cX2_allSpoiled 17 = .ok (.istore_n 1, 1) := by decide +kernel
theorem dX2_allSpoiled_18 : decode cX2_allSpoiled 18 = .ok (.iinc 2 1, 3) := by decide +kernel
theorem dX2_allSpoiled_21 : decode cX2_allSpoiled 21 = .ok (.goto (-17), 3) := by decide +kernel
theorem dX2_allSpoiled_24 : decode cX2_allSpoiled 24 = .ok (.iload_n 1, 1) := by decide +kernel
theorem dX2_allSpoiled_25 : decode cX2_allSpoiled 25 = .ok (.ireturn, 1) := by decide +kernel
theorem dX2_isDecodingSet_0 : decode cX2_isDecodingSet 0 = .ok (.aload_n 0, 1) := by decide +kernel
theorem dX2_isDecodingSet_1 : decode cX2_isDecodingSet 1 = .ok (.iload_n 1, 1) := by decide +kernel
theorem dX2_isDecodingSet_2 : decode cX2_isDecodingSet 2 = .ok (.invokevirtual 64, 3) := by decide +kernel
theorem dX2_isDecodingSet_5 : decode cX2_isDecodingSet 5 = .ok (.ifCond .eq 34, 3) := by decide +kernel
theorem dX2_isDecodingSet_8 : decode cX2_isDecodingSet 8 = .ok (.iload_n 2, 1) := by decide +kernel
theorem dX2_isDecodingSet_9 : decode cX2_isDecodingSet 9 = .ok (.ifCond .lt 30, 3) := by decide +kernel
theorem dX2_isDecodingSet_12 : decode cX2_isDecodingSet 12 = .ok (.iload_n 2, 1) := by decide +kernel
theorem dX2_isDecodingSet_13 : decode cX2_isDecodingSet 13 = .ok (.iconst 1, 1) := by decide +kernel
theorem dX2_isDecodingSet_14 : decode cX2_isDecodingSet 14 = .ok (.aload_n 0, 1) := by decide +kernel
theorem dX2_isDecodingSet_15 : decode cX2_isDecodingSet 15 = .ok (.iload_n 1, 1) := by decide +kernel
theorem dX2_isDecodingSet_16 : decode cX2_isDecodingSet 16 = .ok (.invokevirtual 40, 3) := by decide +kernel
theorem dX2_isDecodingSet_19 : decode cX2_isDecodingSet 19 = .ok (.ishl, 1) := by decide +kernel
theorem dX2_isDecodingSet_20 : decode cX2_isDecodingSet 20 = .ok (.if_icmp .ge 19, 3) := by decide +kernel
theorem dX2_isDecodingSet_23 : decode cX2_isDecodingSet 23 = .ok (.iload_n 2, 1) := by decide +kernel
theorem dX2_isDecodingSet_24 : decode cX2_isDecodingSet 24 = .ok (.invokestatic 80, 3) := by decide +kernel
theorem dX2_isDecodingSet_27 : decode cX2_isDecodingSet 27 = .ok (.aload_n 0, 1) := by decide +kernel
theorem dX2_isDecodingSet_28 : decode cX2_isDecodingSet 28 = .ok (.iload_n 1, 1) := by decide +kernel
theorem dX2_isDecodingSet_29 : decode cX2_isDecodingSet 29 = .ok (.invokevirtual 44, 3) := by decide +kernel
theorem dX2_isDecodingSet_32 : decode cX2_isDecodingSet 32 = .ok (.if_icmp .ne 7, 3) := by decide +kernel
theorem dX2_isDecodingSet_35 : decode cX2_isDecodingSet 35 = .ok (.iconst 1, 1) := by decide +kernel
theorem dX2_isDecodingSet_36 : decode cX2_isDecodingSet 36 = .ok (.goto 4, 3) := by decide +kernel
theorem dX2_isDecodingSet_39 : decode cX2_isDecodingSet 39 = .ok (.iconst 0, 1) := by decide +kernel
theorem dX2_isDecodingSet_40 : decode cX2_isDecodingSet 40 = .ok (.ireturn, 1) := by decide +kernel
theorem dX2_isStoredSet_0 : decode cX2_isStoredSet 0 = .ok (.aload_n 0, 1) := by decide +kernel
theorem dX2_isStoredSet_1 : decode cX2_isStoredSet 1 = .ok (.iload_n 1, 1) := by decide +kernel
theorem dX2_isStoredSet_2 : decode cX2_isStoredSet 2 = .ok (.invokevirtual 40, 3) := by decide +kernel
theorem dX2_isStoredSet_5 : decode cX2_isStoredSet 5 = .ok (.istore_n 3, 1) := by decide +kernel
theorem dX2_isStoredSet_6 : decode cX2_isStoredSet 6 = .ok (.iconst 0, 1) := by decide +kernel
theorem dX2_isStoredSet_7 : decode cX2_isStoredSet 7 = .ok (.istore 4, 2) := by decide +kernel
theorem dX2_isStoredSet_9 : decode cX2_isStoredSet 9 = .ok (.iload 4, 2) := by decide +kernel
theorem dX2_isStoredSet_11 : decode cX2_isStoredSet 11 = .ok (.iload_n 3, 1) := by decide +kernel
theorem dX2_isStoredSet_12 : decode cX2_isStoredSet 12 = .ok (.if_icmp .ge 31, 3) := by decide +kernel
theorem dX2_isStoredSet_15 : decode cX2_isStoredSet 15 = .ok (.iload_n 2, 1) := by decide +kernel
theorem dX2_isStoredSet_16 : decode cX2_isStoredSet 16 = .ok (.iload 4, 2) := by decide +kernel
theorem dX2_isStoredSet_18 : decode cX2_isStoredSet 18 = .ok (.ishr, 1) := by decide +kernel
theorem dX2_isStoredSet_19 : decode cX2_isStoredSet 19 = .ok (.iconst 1, 1) := by decide +kernel
theorem dX2_isStoredSet_20 : decode cX2_isStoredSet 20 = .ok (.iand, 1) := by decide +kernel
theorem dX2_isStoredSet_21 : decode cX2_isStoredSet 21 = .ok (.iconst 1, 1) := by decide +kernel
theorem dX2_isStoredSet_22 : decode cX2_isStoredSet 22 = .ok (.if_icmp .ne 15, 3) := by decide +kernel
theorem dX2_isStoredSet_25 : decode cX2_isStoredSet 25 = .ok (.aload_n 0, 1) := by decide +kernel
theorem dX2_isStoredSet_26 : decode cX2_isStoredSet 26 = .ok (.iload_n 1, 1) := by decide +kernel
theorem dX2_isStoredSet_27 : decode cX2_isStoredSet 27 = .ok (.iload 4, 2) := by decide +kernel
theorem dX2_isStoredSet_29 : decode cX2_isStoredSet 29 = .ok (.invokevirtual 61, 3) := by decide +kernel
theorem dX2_isStoredSet_32 : decode cX2_isStoredSet 32 = .ok (.ifCond .ne 5, 3) := by decide +kernel
theorem dX2_isStoredSet_35 : decode cX2_isStoredSet 35 = .ok (.iconst 0, 1) := by decide +kernel
theorem dX2_isStoredSet_36 : decode cX2_isStoredSet 36 = .ok (.ireturn, 1) := by decide +kernel
theorem dX2_isStoredSet_37 : decode cX2_isStoredSet 37 = .ok (.iinc 4 1, 3) := by decide +kernel
theorem dX2_isStoredSet_40 : decode cX2_isStoredSet 40 = .ok (.goto (-31), 3) := by decide +kernel
theorem dX2_isStoredSet_43 : decode cX2_isStoredSet 43 = .ok (.iconst 1, 1) := by decide +kernel
theorem dX2_isStoredSet_44 : decode cX2_isStoredSet 44 = .ok (.ireturn, 1) := by decide +kernel
theorem dX2_add_0 : decode cX2_add 0 = .ok (.iload 4, 2) := by decide +kernel
theorem dX2_add_2 : decode cX2_add 2 = .ok (.aload_n 3, 1) := by decide +kernel
theorem dX2_add_3 : decode cX2_add 3 = .ok (.arraylength, 1) := by decide +kernel
theorem dX2_add_4 : decode cX2_add 4 = .ok (.invokestatic 85, 3) := by decide +kernel
theorem dX2_add_7 : decode cX2_add 7 = .ok (.bipush 6, 2) := by decide +kernel
theorem dX2_add_9 : decode cX2_add 9 = .ok (.invokestatic 85, 3) := by decide +kernel
theorem dX2_add_12 : decode cX2_add 12 = .ok (.istore 6, 2) := by decide +kernel
theorem dX2_add_14 : decode cX2_add 14 = .ok (.iload_n 1, 1) := by decide +kernel
theorem dX2_add_15 : decode cX2_add 15 = .ok (.ifCond .lt 20, 3) := by decide +kernel
theorem dX2_add_18 : decode cX2_add 18 = .ok (.iload_n 1, 1) := by decide +kernel
theorem dX2_add_19 : decode cX2_add 19 = .ok (.bipush 8, 2) := by decide +kernel
theorem dX2_add_21 : decode cX2_add 21 = .ok (.if_icmp .ge 14, 3) := by decide +kernel
theorem dX2_add_24 : decode cX2_add 24 = .ok (.iload 5, 2) := by decide +kernel
theorem dX2_add_26 : decode cX2_add 26 = .ok (.ifCond .lt 9, 3) := by decide +kernel
theorem dX2_add_29 : decode cX2_add 29 = .ok (.iload 5, 2) := by decide +kernel
theorem dX2_add_31 : decode cX2_add 31 = .ok (.iconst 4, 1) := by decide +kernel
theorem dX2_add_32 : decode cX2_add 32 = .ok (.if_icmp .le 4, 3) := by decide +kernel
theorem dX2_add_35 : decode cX2_add 35 = .ok (.return_, 1) := by decide +kernel
theorem dX2_add_36 : decode cX2_add 36 = .ok (.aload_n 0, 1) := by decide +kernel
theorem dX2_add_37 : decode cX2_add 37 = .ok (.getfield 18, 3) := by decide +kernel
theorem dX2_add_40 : decode cX2_add 40 = .ok (.iload_n 1, 1) := by decide +kernel
theorem dX2_add_41 : decode cX2_add 41 = .ok (.iload_n 2, 1) := by decide +kernel
theorem dX2_add_42 : decode cX2_add 42 = .ok (.iastore, 1) := by decide +kernel
theorem dX2_add_43 : decode cX2_add 43 = .ok (.aload_n 0, 1) := by decide +kernel
theorem dX2_add_44 : decode cX2_add 44 = .ok (.getfield 9, 3) := by decide +kernel
theorem dX2_add_47 : decode cX2_add 47 = .ok (.iload_n 1, 1) := by decide +kernel
theorem dX2_add_48 : decode cX2_add 48 = .ok (.iload 6, 2) := by decide +kernel
theorem dX2_add_50 : decode cX2_add 50 = .ok (.iastore, 1) := by decide +kernel
theorem dX2_add_51 : decode cX2_add 51 = .ok (.aload_n 0, 1) := by decide +kernel
theorem dX2_add_52 : decode cX2_add 52 = .ok (.getfield 15, 3) := by decide +kernel
theorem dX2_add_55 : decode cX2_add 55 = .ok (.iload_n 1, 1) := by decide +kernel
theorem dX2_add_56 : decode cX2_add 56 = .ok (.iload 5, 2) := by decide +kernel
theorem dX2_add_58 : decode cX2_add 58 = .ok (.iastore, 1) := by decide +kernel
theorem dX2_add_59 : decode cX2_add 59 = .ok (.iload_n 1, 1) := by decide +kernel
theorem dX2_add_60 : decode cX2_add 60 = .ok (.bipush 10, 2) := by decide +kernel
theorem dX2_add_62 : decode cX2_add 62 = .ok (.imul, 1) := by decide +kernel
theorem dX2_add_63 : decode cX2_add 63 = .ok (.istore 7, 2) := by decide +kernel
theorem dX2_add_65 : decode cX2_add 65 = .ok (.iconst 0, 1) := by decide +kernel
theorem dX2_add_66 : decode cX2_add 66 = .ok (.istore 8, 2) := by decide +kernel
theorem dX2_add_68 : decode cX2_add 68 = .ok (.iload 8, 2) := by decide +kernel
theorem dX2_add_70 : decode cX2_add 70 = .ok (.iload 6, 2) := by decide +kernel
theorem dX2_add_72 : decode cX2_add 72 = .ok (.if_icmp .ge 23, 3) := by decide +kernel
theorem dX2_add_75 : decode cX2_add 75 = .ok (.aload_n 0, 1) := by decide +kernel
theorem dX2_add_76 : decode cX2_add 76 = .ok (.getfield 21, 3) := by decide +kernel
theorem dX2_add_79 : decode cX2_add 79 = .ok (.iload 7, 2) := by decide +kernel
theorem dX2_add_81 : decode cX2_add 81 = .ok (.iload 8, 2) := by decide +kernel
theorem dX2_add_83 : decode cX2_add 83 = .ok (.iadd, 1) := by decide +kernel
theorem dX2_add_84 : decode cX2_add 84 = .ok (.aload_n 3, 1) := by decide +kernel
theorem dX2_add_85 : decode cX2_add 85 = .ok (.iload 8, 2) := by decide +kernel
theorem dX2_add_87 : decode cX2_add 87 = .ok (.iaload, 1) := by decide +kernel
theorem dX2_add_88 : decode cX2_add 88 = .ok (.iastore, 1) := by decide +kernel
theorem dX2_add_89 : decode cX2_add 89 = .ok (.iinc 8 1, 3) := by decide +kernel
theorem dX2_add_92 : decode cX2_add 92 = .ok (.goto (-24), 3) := by decide +kernel
theorem dX2_add_95 : decode cX2_add 95 = .ok (.iconst 0, 1) := by decide +kernel
theorem dX2_add_96 : decode cX2_add 96 = .ok (.istore 8, 2) := by decide +kernel
theorem dX2_add_98 : decode cX2_add 98 = .ok (.iload 8, 2) := by decide +kernel
theorem dX2_add_100 : decode cX2_add 100 = .ok (.iload 5, 2) := by decide +kernel
theorem dX2_add_102 : decode cX2_add 102 = .ok (.if_icmp .ge 30, 3) := by decide +kernel
theorem dX2_add_105 : decode cX2_add 105 = .ok (.aload_n 0, 1) := by decide +kernel
theorem dX2_add_106 : decode cX2_add 106 = .ok (.getfield 21, 3) := by decide +kernel
theorem dX2_add_109 : decode cX2_add 109 = .ok (.iload 7, 2) := by decide +kernel
theorem dX2_add_111 : decode cX2_add 111 = .ok (.iload 6, 2) := by decide +kernel
theorem dX2_add_113 : decode cX2_add 113 = .ok (.iadd, 1) := by decide +kernel
theorem dX2_add_114 : decode cX2_add 114 = .ok (.iload 8, 2) := by decide +kernel
theorem dX2_add_116 : decode cX2_add 116 = .ok (.iadd, 1) := by decide +kernel
theorem dX2_add_117 : decode cX2_add 117 = .ok (.aload_n 3, 1) := by decide +kernel
theorem dX2_add_118 : decode cX2_add 118 = .ok (.iload 6, 2) := by decide +kernel
theorem dX2_add_120 : decode cX2_add 120 = .ok (.iload 8, 2) := by decide +kernel
theorem dX2_add_122 : decode cX2_add 122 = .ok (.invokestatic 90, 3) := by decide +kernel
theorem dX2_add_125 : decode cX2_add 125 = .ok (.iastore, 1) := by decide +kernel
theorem dX2_add_126 : decode cX2_add 126 = .ok (.iinc 8 1, 3) := by decide +kernel
theorem dX2_add_129 : decode cX2_add 129 = .ok (.goto (-31), 3) := by decide +kernel
theorem dX2_add_132 : decode cX2_add 132 = .ok (.return_, 1) := by decide +kernel
theorem dX2_parityWord_0 : decode cX2_parityWord 0 = .ok (.iconst 0, 1) := by decide +kernel
theorem dX2_parityWord_1 : decode cX2_parityWord 1 = .ok (.istore_n 3, 1) := by decide +kernel
theorem dX2_parityWord_2 : decode cX2_parityWord 2 = .ok (.iconst 0, 1) := by decide +kernel
theorem dX2_parityWord_3 : decode cX2_parityWord 3 = .ok (.istore 4, 2) := by decide +kernel
theorem dX2_parityWord_5 : decode cX2_parityWord 5 = .ok (.iload 4, 2) := by decide +kernel
theorem dX2_parityWord_7 : decode cX2_parityWord 7 = .ok (.iload_n 1, 1) := by decide +kernel
theorem dX2_parityWord_8 : decode cX2_parityWord 8 = .ok (.if_icmp .ge 32, 3) := by decide +kernel
theorem dX2_parityWord_11 : decode cX2_parityWord 11 = .ok (.iload 4, 2) := by decide +kernel
theorem dX2_parityWord_13 : decode cX2_parityWord 13 = .ok (.aload_n 0, 1) := by decide +kernel
theorem dX2_parityWord_14 : decode cX2_parityWord 14 = .ok (.arraylength, 1) := by decide +kernel
theorem dX2_parityWord_15 : decode cX2_parityWord 15 = .ok (.if_icmp .ge 25, 3) := by decide +kernel
theorem dX2_parityWord_18 : decode cX2_parityWord 18 = .ok (.iload_n 3, 1) := by decide +kernel
theorem dX2_parityWord_19 : decode cX2_parityWord 19 = .ok (.aload_n 0, 1) := by decide +kernel
theorem dX2_parityWord_20 : decode cX2_parityWord 20 = .ok (.iload 4, 2) := by decide +kernel
theorem dX2_parityWord_22 : decode cX2_parityWord 22 = .ok (.iaload, 1) := by decide +kernel
theorem dX2_parityWord_23 : decode cX2_parityWord 23 = .ok (.iload 4, 2) := by decide +kernel
theorem dX2_parityWord_25 : decode cX2_parityWord 25 = .ok (.iconst 1, 1) := by decide +kernel
theorem dX2_parityWord_26 : decode cX2_parityWord 26 = .ok (.iadd, 1) := by decide +kernel
theorem dX2_parityWord_27 : decode cX2_parityWord 27 = .ok (.iload_n 2, 1) := by decide +kernel
theorem dX2_parityWord_28 : decode cX2_parityWord 28 = .ok (.invokestatic 94, 3) := by decide +kernel
theorem dX2_parityWord_31 : decode cX2_parityWord 31 = .ok (.imul, 1) := by decide +kernel
theorem dX2_parityWord_32 : decode cX2_parityWord 32 = .ok (.iadd, 1) := by decide +kernel
theorem dX2_parityWord_33 : decode cX2_parityWord 33 = .ok (.istore_n 3, 1) := by decide +kernel
theorem dX2_parityWord_34 : decode cX2_parityWord 34 = .ok (.iinc 4 1, 3) := by decide +kernel
theorem dX2_parityWord_37 : decode cX2_parityWord 37 = .ok (.goto (-32), 3) := by decide +kernel
theorem dX2_parityWord_40 : decode cX2_parityWord 40 = .ok (.iload_n 3, 1) := by decide +kernel
theorem dX2_parityWord_41 : decode cX2_parityWord 41 = .ok (.sipush 257, 3) := by decide +kernel
theorem dX2_parityWord_44 : decode cX2_parityWord 44 = .ok (.irem, 1) := by decide +kernel
theorem dX2_parityWord_45 : decode cX2_parityWord 45 = .ok (.ireturn, 1) := by decide +kernel
theorem dX2_remove_0 : decode cX2_remove 0 = .ok (.aload_n 0, 1) := by decide +kernel
theorem dX2_remove_1 : decode cX2_remove 1 = .ok (.iload_n 1, 1) := by decide +kernel
theorem dX2_remove_2 : decode cX2_remove 2 = .ok (.invokevirtual 64, 3) := by decide +kernel
theorem dX2_remove_5 : decode cX2_remove 5 = .ok (.ifCond .eq 24, 3) := by decide +kernel
theorem dX2_remove_8 : decode cX2_remove 8 = .ok (.aload_n 0, 1) := by decide +kernel
theorem dX2_remove_9 : decode cX2_remove 9 = .ok (.getfield 9, 3) := by decide +kernel
theorem dX2_remove_12 : decode cX2_remove 12 = .ok (.iload_n 1, 1) := by decide +kernel
theorem dX2_remove_13 : decode cX2_remove 13 = .ok (.iconst 0, 1) := by decide +kernel
theorem dX2_remove_14 : decode cX2_remove 14 = .ok (.iastore, 1) := by decide +kernel
theorem dX2_remove_15 : decode cX2_remove 15 = .ok (.aload_n 0, 1) := by decide +kernel
theorem dX2_remove_16 : decode cX2_remove 16 = .ok (.getfield 15, 3) := by decide +kernel
theorem dX2_remove_19 : decode cX2_remove 19 = .ok (.iload_n 1, 1) := by decide +kernel
theorem dX2_remove_20 : decode cX2_remove 20 = .ok (.iconst 0, 1) := by decide +kernel
theorem dX2_remove_21 : decode cX2_remove 21 = .ok (.iastore, 1) := by decide +kernel
theorem dX2_remove_22 : decode cX2_remove 22 = .ok (.aload_n 0, 1) := by decide +kernel
theorem dX2_remove_23 : decode cX2_remove 23 = .ok (.getfield 18, 3) := by decide +kernel
theorem dX2_remove_26 : decode cX2_remove 26 = .ok (.iload_n 1, 1) := by decide +kernel
theorem dX2_remove_27 : decode cX2_remove 27 = .ok (.iconst (-1), 1) := by decide +kernel
theorem dX2_remove_28 : decode cX2_remove 28 = .ok (.iastore, 1) := by decide +kernel
theorem dX2_remove_29 : decode cX2_remove 29 = .ok (.return_, 1) := by decide +kernel
theorem dX2_setFragment_0 : decode cX2_setFragment 0 = .ok (.iload_n 1, 1) := by decide +kernel
theorem dX2_setFragment_1 : decode cX2_setFragment 1 = .ok (.iload_n 2, 1) := by decide +kernel
theorem dX2_setFragment_2 : decode cX2_setFragment 2 = .ok (.invokestatic 47, 3) := by decide +kernel
theorem dX2_setFragment_5 : decode cX2_setFragment 5 = .ok (.ifCond .eq 28, 3) := by decide +kernel
theorem dX2_setFragment_8 : decode cX2_setFragment 8 = .ok (.aload_n 0, 1) := by decide +kernel
theorem dX2_setFragment_9 : decode cX2_setFragment 9 = .ok (.getfield 24, 3) := by decide +kernel
theorem dX2_setFragment_12 : decode cX2_setFragment 12 = .ok (.iload_n 1, 1) := by decide +kernel
theorem dX2_setFragment_13 : decode cX2_setFragment 13 = .ok (.bipush 10, 2) := by decide +kernel
theorem dX2_setFragment_15 : decode cX2_setFragment 15 = .ok (.imul, 1) := by decide +kernel
theorem dX2_setFragment_16 : decode cX2_setFragment 16 = .ok (.iload_n 2, 1) := by decide +kernel
theorem dX2_setFragment_17 : decode cX2_setFragment 17 = .ok (.iadd, 1) := by decide +kernel
theorem dX2_setFragment_18 : decode cX2_setFragment 18 = .ok (.iload_n 3, 1) := by decide +kernel
theorem dX2_setFragment_19 : decode cX2_setFragment 19 = .ok (.iastore, 1) := by decide +kernel
theorem dX2_setFragment_20 : decode cX2_setFragment 20 = .ok (.aload_n 0, 1) := by decide +kernel
theorem dX2_setFragment_21 : decode cX2_setFragment 21 = .ok (.getfield 27, 3) := by decide +kernel
theorem dX2_setFragment_24 : decode cX2_setFragment 24 = .ok (.iload_n 1, 1) := by decide +kernel
theorem dX2_setFragment_25 : decode cX2_setFragment 25 = .ok (.bipush 10, 2) := by decide +kernel
theorem dX2_setFragment_27 : decode cX2_setFragment 27 = .ok (.imul, 1) := by decide +kernel
theorem dX2_setFragment_28 : decode cX2_setFragment 28 = .ok (.iload_n 2, 1) := by decide +kernel
theorem dX2_setFragment_29 : decode cX2_setFragment 29 = .ok (.iadd, 1) := by decide +kernel
theorem dX2_setFragment_30 : decode cX2_setFragment 30 = .ok (.iload 4, 2) := by decide +kernel
theorem dX2_setFragment_32 : decode cX2_setFragment 32 = .ok (.iastore, 1) := by decide +kernel
theorem dX2_setFragment_33 : decode cX2_setFragment 33 = .ok (.return_, 1) := by decide +kernel
theorem dX2_addError_0 : decode cX2_addError 0 = .ok (.iload_n 1, 1) := by decide +kernel
theorem dX2_addError_1 : decode cX2_addError 1 = .ok (.iload_n 2, 1) := by decide +kernel
theorem dX2_addError_2 : decode cX2_addError 2 = .ok (.invokestatic 47, 3) := by decide +kernel
theorem dX2_addError_5 : decode cX2_addError 5 = .ok (.ifCond .eq 31, 3) := by decide +kernel
theorem dX2_addError_8 : decode cX2_addError 8 = .ok (.iload_n 1, 1) := by decide +kernel
theorem dX2_addError_9 : decode cX2_addError 9 = .ok (.bipush 10, 2) := by decide +kernel
theorem dX2_addError_11 : decode cX2_addError 11 = .ok (.imul, 1) := by decide +kernel
theorem dX2_addError_12 : decode cX2_addError 12 = .ok (.iload_n 2, 1) := by decide +kernel
theorem dX2_addError_13 : decode cX2_addError 13 = .ok (.iadd, 1) := by decide +kernel
theorem dX2_addError_14 : decode cX2_addError 14 = .ok (.istore 4, 2) := by decide +kernel
theorem dX2_addError_16 : decode cX2_addError 16 = .ok (.aload_n 0, 1) := by decide +kernel
theorem dX2_addError_17 : decode cX2_addError 17 = .ok (.getfield 27, 3) := by decide +kernel
theorem dX2_addError_20 : decode cX2_addError 20 = .ok (.iload 4, 2) := by decide +kernel
theorem dX2_addError_22 : decode cX2_addError 22 = .ok (.aload_n 0, 1) := by decide +kernel
theorem dX2_addError_23 : decode cX2_addError 23 = .ok (.getfield 27, 3) := by decide +kernel
theorem dX2_addError_26 : decode cX2_addError 26 = .ok (.iload 4, 2) := by decide +kernel
theorem dX2_addError_28 : decode cX2_addError 28 = .ok (.iaload, 1) := by decide +kernel
theorem dX2_addError_29 : decode cX2_addError 29 = .ok (.iload_n 3, 1) := by decide +kernel
theorem dX2_addError_30 : decode cX2_addError 30 = .ok (.iadd, 1) := by decide +kernel
theorem dX2_addError_31 : decode cX2_addError 31 = .ok (.sipush 257, 3) := by decide +kernel
theorem dX2_addError_34 : decode cX2_addError 34 = .ok (.irem, 1) := by decide +kernel
theorem dX2_addError_35 : decode cX2_addError 35 = .ok (.iastore, 1) := by decide +kernel
theorem dX2_addError_36 : decode cX2_addError 36 = .ok (.return_, 1) := by decide +kernel
theorem dX3_init_0 : decode cX3_init 0 = .ok (.aload_n 0, 1) := by decide +kernel
theorem dX3_init_1 : decode cX3_init 1 = .ok (.invokespecial 3, 3) := by decide +kernel
theorem dX3_init_4 : decode cX3_init 4 = .ok (.aload_n 0, 1) := by decide +kernel
theorem dX3_init_5 : decode cX3_init 5 = .ok (.iconst 5, 1) := by decide +kernel
theorem dX3_init_6 : decode cX3_init 6 = .ok (.anewarray 9, 3) := by decide +kernel
theorem dX3_init_9 : decode cX3_init 9 = .ok (.putfield 11, 3) := by decide +kernel
theorem dX3_init_12 : decode cX3_init 12 = .ok (.iconst 0, 1) := by decide +kernel
theorem dX3_init_13 : decode cX3_init 13 = .ok (.istore_n 1, 1) := by decide +kernel
theorem dX3_init_14 : decode cX3_init 14 = .ok (.iload_n 1, 1) := by decide +kernel
theorem dX3_init_15 : decode cX3_init 15 = .ok (.iconst 5, 1) := by decide +kernel
theorem dX3_init_16 : decode cX3_init 16 = .ok (.if_icmp .ge 22, 3) := by decide +kernel
theorem dX3_init_19 : decode cX3_init 19 = .ok (.aload_n 0, 1) := by decide +kernel
theorem dX3_init_20 : decode cX3_init 20 = .ok (.getfield 11, 3) := by decide +kernel
theorem dX3_init_23 : decode cX3_init 23 = .ok (.iload_n 1, 1) := by decide +kernel
theorem dX3_init_24 : decode cX3_init 24 = .ok (.new 9, 3) := by decide +kernel
theorem dX3_init_27 : decode cX3_init 27 = .ok (.dup, 1) := by decide +kernel
theorem dX3_init_28 : decode cX3_init 28 = .ok (.invokespecial 17, 3) := by decide +kernel
theorem dX3_init_31 : decode cX3_init 31 = .ok (.aastore, 1) := by decide +kernel
theorem dX3_init_32 : decode cX3_init 32 = .ok (.iinc 1 1, 3) := by decide +kernel
theorem dX3_init_35 : decode cX3_init 35 = .ok (.goto (-21), 3) := by decide +kernel
theorem dX3_init_38 : decode cX3_init 38 = .ok (.return_, 1) := by decide +kernel
theorem dX3_record_0 : decode cX3_record 0 = .ok (.aload_n 0, 1) := by decide +kernel
theorem dX3_record_1 : decode cX3_record 1 = .ok (.getfield 18, 3) := by decide +kernel
theorem dX3_record_4 : decode cX3_record 4 = .ok (.iconst 5, 1) := by decide +kernel
theorem dX3_record_5 : decode cX3_record 5 = .ok (.if_icmp .lt 7, 3) := by decide +kernel
theorem dX3_record_8 : decode cX3_record 8 = .ok (.aload_n 0, 1) := by decide +kernel
theorem dX3_record_9 : decode cX3_record 9 = .ok (.invokevirtual 22, 3) := by decide +kernel
theorem dX3_record_12 : decode cX3_record 12 = .ok (.aload_n 0, 1) := by decide +kernel
theorem dX3_record_13 : decode cX3_record 13 = .ok (.getfield 18, 3) := by decide +kernel
theorem dX3_record_16 : decode cX3_record 16 = .ok (.ifCond .lt 34, 3) := by decide +kernel
theorem dX3_record_19 : decode cX3_record 19 = .ok (.aload_n 0, 1) := by decide +kernel
theorem dX3_record_20 : decode cX3_record 20 = .ok (.getfield 18, 3) := by decide +kernel
theorem dX3_record_23 : decode cX3_record 23 = .ok (.iconst 5, 1) := by decide +kernel
theorem dX3_record_24 : decode cX3_record 24 = .ok (.if_icmp .ge 26, 3) := by decide +kernel
theorem dX3_record_27 : decode cX3_record 27 = .ok (.aload_n 0, 1) := by decide +kernel
theorem dX3_record_28 : decode cX3_record 28 = .ok (.getfield 11, 3) := by decide +kernel
theorem dX3_record_31 : decode cX3_record 31 = .ok (.aload_n 0, 1) := by decide +kernel
theorem dX3_record_32 : decode cX3_record 32 = .ok (.getfield 18, 3) := by decide +kernel
theorem dX3_record_35 : decode cX3_record 35 = .ok (.aaload, 1) := by decide +kernel
theorem dX3_record_36 : decode cX3_record 36 = .ok (.aload_n 1, 1) := by decide +kernel
theorem dX3_record_37 : decode cX3_record 37 = .ok (.invokevirtual 25, 3) := by decide +kernel
theorem dX3_record_40 : decode cX3_record 40 = .ok (.aload_n 0, 1) := by decide +kernel
theorem dX3_record_41 : decode cX3_record 41 = .ok (.dup, 1) := by decide +kernel
theorem dX3_record_42 : decode cX3_record 42 = .ok (.getfield 18, 3) := by decide +kernel
theorem dX3_record_45 : decode cX3_record 45 = .ok (.iconst 1, 1) := by decide +kernel
theorem dX3_record_46 : decode cX3_record 46 = .ok (.iadd, 1) := by decide +kernel
theorem dX3_record_47 : decode cX3_record 47 = .ok (.putfield 18, 3) := by decide +kernel
theorem dX3_record_50 : decode cX3_record 50 = .ok (.return_, 1) := by decide +kernel
theorem dX3_dropOldest_0 : decode cX3_dropOldest 0 = .ok (.aload_n 0, 1) := by decide +kernel
theorem dX3_dropOldest_1 : decode cX3_dropOldest 1 = .ok (.getfield 11, 3) := by decide +kernel
theorem dX3_dropOldest_4 : decode cX3_dropOldest 4 = .ok (.iconst 0, 1) := by decide +kernel
theorem dX3_dropOldest_5 : decode cX3_dropOldest 5 = .ok (.aaload, 1) := by decide +kernel
theorem dX3_dropOldest_6 : decode cX3_dropOldest 6 = .ok (.astore_n 1, 1) := by decide +kernel
theorem dX3_dropOldest_7 : decode cX3_dropOldest 7 = .ok (.iconst 1, 1) := by decide +kernel
theorem dX3_dropOldest_8 : decode cX3_dropOldest 8 = .ok (.istore_n 2, 1) := by decide +kernel
theorem dX3_dropOldest_9 : decode cX3_dropOldest 9 = .ok (.iload_n 2, 1) := by decide +kernel
theorem dX3_dropOldest_10 : decode cX3_dropOldest 10 = .ok (.iconst 5, 1) := by decide +kernel
theorem dX3_dropOldest_11 : decode cX3_dropOldest 11 = .ok (.if_icmp .ge 23, 3) := by decide +kernel
theorem dX3_dropOldest_14 : decode cX3_dropOldest 14 = .ok (.aload_n 0, 1) := by decide +kernel
theorem dX3_dropOldest_15 : decode cX3_dropOldest 15 = .ok (.getfield 11, 3) := by decide +kernel
theorem dX3_dropOldest_18 : decode cX3_dropOldest 18 = .ok (.iload_n 2, 1) := by decide +kernel
theorem dX3_dropOldest_19 : decode cX3_dropOldest 19 = .ok (.iconst 1, 1) := by decide +kernel
theorem dX3_dropOldest_20 : decode cX3_dropOldest 20 = .ok (.isub, 1) := by decide +kernel
theorem dX3_dropOldest_21 : decode cX3_dropOldest 21 = .ok (.aload_n 0, 1) := by decide +kernel
theorem dX3_dropOldest_22 : decode cX3_dropOldest 22 = .ok (.getfield 11, 3) := by decide +kernel
theorem dX3_dropOldest_25 : decode cX3_dropOldest 25 = .ok (.iload_n 2, 1) := by decide +kernel
theorem dX3_dropOldest_26 : decode cX3_dropOldest 26 = .ok (.aaload, 1) := by decide +kernel
theorem dX3_dropOldest_27 : decode cX3_dropOldest 27 = .ok (.aastore, 1) := by decide +kernel
theorem dX3_dropOldest_28 : decode cX3_dropOldest 28 = .ok (.iinc 2 1, 3) := by decide +kernel
theorem dX3_dropOldest_31 : decode cX3_dropOldest 31 = .ok (.goto (-22), 3) := by decide +kernel
theorem dX3_dropOldest_34 : decode cX3_dropOldest 34 = .ok (.aload_n 0, 1) := by decide +kernel
theorem dX3_dropOldest_35 : decode cX3_dropOldest 35 = .ok (.getfield 11, 3) := by decide +kernel
theorem dX3_dropOldest_38 : decode cX3_dropOldest 38 = .ok (.iconst 4, 1) := by decide +kernel
theorem dX3_dropOldest_39 : decode cX3_dropOldest 39 = .ok (.aload_n 1, 1) := by decide +kernel
theorem dX3_dropOldest_40 : decode cX3_dropOldest 40 = .ok (.aastore, 1) := by decide +kernel
theorem dX3_dropOldest_41 : decode cX3_dropOldest 41 = .ok (.aload_n 0, 1) := by decide +kernel
theorem dX3_dropOldest_42 : decode cX3_dropOldest 42 = .ok (.iconst 4, 1) := by decide +kernel
theorem dX3_dropOldest_43 : decode cX3_dropOldest 43 = .ok (.putfield 18, 3) := by decide +kernel
theorem dX3_dropOldest_46 : decode cX3_dropOldest 46 = .ok (.return_, 1) := by decide +kernel
theorem dX3_restoreLatest_0 : decode cX3_restoreLatest 0 = .ok (.aload_n 0, 1) := by decide +kernel
theorem dX3_restoreLatest_1 : decode cX3_restoreLatest 1 = .ok (.getfield 18, 3) := by decide +kernel
theorem dX3_restoreLatest_4 : decode cX3_restoreLatest 4 = .ok (.ifCond .le 34, 3) := by decide +kernel
theorem dX3_restoreLatest_7 : decode cX3_restoreLatest 7 = .ok (.aload_n 0, 1) := by decide +kernel
theorem dX3_restoreLatest_8 : decode cX3_restoreLatest 8 = .ok (.getfield 18, 3) := by decide +kernel
theorem dX3_restoreLatest_11 : decode cX3_restoreLatest 11 = .ok (.iconst 5, 1) := by decide +kernel
theorem dX3_restoreLatest_12 : decode cX3_restoreLatest 12 = .ok (.if_icmp .gt 26, 3) := by decide +kernel
theorem dX3_restoreLatest_15 : decode cX3_restoreLatest 15 = .ok (.aload_n 0, 1) := by decide +kernel
theorem dX3_restoreLatest_16 : decode cX3_restoreLatest 16 = .ok (.dup, 1) := by decide +kernel
theorem dX3_restoreLatest_17 : decode cX3_restoreLatest 17 = .ok (.getfield 18, 3) := by decide +kernel
theorem dX3_restoreLatest_20 : decode cX3_restoreLatest 20 = .ok (.iconst 1, 1) := by decide +kernel
theorem dX3_restoreLatest_21 : decode cX3_restoreLatest 21 = .ok (.isub, 1) := by decide +kernel
theorem dX3_restoreLatest_22 : decode cX3_restoreLatest 22 = .ok (.putfield 18, 3) := by decide +kernel
theorem dX3_restoreLatest_25 : decode cX3_restoreLatest 25 = .ok (.aload_n 1, 1) := by decide +kernel
theorem dX3_restoreLatest_26 : decode cX3_restoreLatest 26 = .ok (.aload_n 0, 1) := by decide +kernel
theorem dX3_restoreLatest_27 : decode cX3_restoreLatest 27 = .ok (.getfield 11, 3) := by decide +kernel
theorem dX3_restoreLatest_30 : decode cX3_restoreLatest 30 = .ok (.aload_n 0, 1) := by decide +kernel
theorem dX3_restoreLatest_31 : decode cX3_restoreLatest 31 = .ok (.getfield 18, 3) := by decide +kernel
theorem dX3_restoreLatest_34 : decode cX3_restoreLatest 34 = .ok (.aaload, 1) := by decide +kernel
theorem dX3_restoreLatest_35 : decode cX3_restoreLatest 35 = .ok (.invokevirtual 25, 3) := by decide +kernel
theorem dX3_restoreLatest_38 : decode cX3_restoreLatest 38 = .ok (.return_, 1) := by decide +kernel
theorem dX4_init_0 : decode cX4_init 0 = .ok (.aload_n 0, 1) := by decide +kernel
theorem dX4_init_1 : decode cX4_init 1 = .ok (.invokespecial 3, 3) := by decide +kernel
theorem dX4_init_4 : decode cX4_init 4 = .ok (.aload_n 0, 1) := by decide +kernel
theorem dX4_init_5 : decode cX4_init 5 = .ok (.bipush 12, 2) := by decide +kernel
theorem dX4_init_7 : decode cX4_init 7 = .ok (.newarray .int, 2) := by decide +kernel
theorem dX4_init_9 : decode cX4_init 9 = .ok (.putfield 9, 3) := by decide +kernel
theorem dX4_init_12 : decode cX4_init 12 = .ok (.aload_n 0, 1) := by decide +kernel
theorem dX4_init_13 : decode cX4_init 13 = .ok (.bipush 12, 2) := by decide +kernel
theorem dX4_init_15 : decode cX4_init 15 = .ok (.newarray .int, 2) := by decide +kernel
theorem dX4_init_17 : decode cX4_init 17 = .ok (.putfield 15, 3) := by decide +kernel
theorem dX4_init_20 : decode cX4_init 20 = .ok (.aload_n 0, 1) := by decide +kernel
theorem dX4_init_21 : decode cX4_init 21 = .ok (.bipush 12, 2) := by decide +kernel
theorem dX4_init_23 : decode cX4_init 23 = .ok (.newarray .int, 2) := by decide +kernel
theorem dX4_init_25 : decode cX4_init 25 = .ok (.putfield 18, 3) := by decide +kernel
theorem dX4_init_28 : decode cX4_init 28 = .ok (.aload_n 0, 1) := by decide +kernel
theorem dX4_init_29 : decode cX4_init 29 = .ok (.bipush 12, 2) := by decide +kernel
theorem dX4_init_31 : decode cX4_init 31 = .ok (.newarray .int, 2) := by decide +kernel
theorem dX4_init_33 : decode cX4_init 33 = .ok (.putfield 21, 3) := by decide +kernel
theorem dX4_init_36 : decode cX4_init 36 = .ok (.aload_n 0, 1) := by decide +kernel
theorem dX4_init_37 : decode cX4_init 37 = .ok (.sipush 144, 3) := by decide +kernel
theorem dX4_init_40 : decode cX4_init 40 = .ok (.newarray .int, 2) := by decide +kernel
theorem dX4_init_42 : decode cX4_init 42 = .ok (.putfield 24, 3) := by decide +kernel
theorem dX4_init_45 : decode cX4_init 45 = .ok (.return_, 1) := by decide +kernel
theorem dX4_copyFrom_0 : decode cX4_copyFrom 0 = .ok (.aload_n 1, 1) := by decide +kernel
theorem dX4_copyFrom_1 : decode cX4_copyFrom 1 = .ok (.getfield 9, 3) := by decide +kernel
theorem dX4_copyFrom_4 : decode cX4_copyFrom 4 = .ok (.aload_n 0, 1) := by decide +kernel
theorem dX4_copyFrom_5 : decode cX4_copyFrom 5 = .ok (.getfield 9, 3) := by decide +kernel
theorem dX4_copyFrom_8 : decode cX4_copyFrom 8 = .ok (.invokestatic 27, 3) := by decide +kernel
theorem dX4_copyFrom_11 : decode cX4_copyFrom 11 = .ok (.aload_n 1, 1) := by decide +kernel
theorem dX4_copyFrom_12 : decode cX4_copyFrom 12 = .ok (.getfield 15, 3) := by decide +kernel
theorem dX4_copyFrom_15 : decode cX4_copyFrom 15 = .ok (.aload_n 0, 1) := by decide +kernel
theorem dX4_copyFrom_16 : decode cX4_copyFrom 16 = .ok (.getfield 15, 3) := by decide +kernel
theorem dX4_copyFrom_19 : decode cX4_copyFrom 19 = .ok (.invokestatic 27, 3) := by decide +kernel
theorem dX4_copyFrom_22 : decode cX4_copyFrom 22 = .ok (.aload_n 1, 1) := by decide +kernel
theorem dX4_copyFrom_23 : decode cX4_copyFrom 23 = .ok (.getfield 18, 3) := by decide +kernel
theorem dX4_copyFrom_26 : decode cX4_copyFrom 26 = .ok (.aload_n 0, 1) := by decide +kernel
theorem dX4_copyFrom_27 : decode cX4_copyFrom 27 = .ok (.getfield 18, 3) := by decide +kernel
theorem dX4_copyFrom_30 : decode cX4_copyFrom 30 = .ok (.invokestatic 27, 3) := by decide +kernel
theorem dX4_copyFrom_33 : decode cX4_copyFrom 33 = .ok (.aload_n 1, 1) := by decide +kernel
theorem dX4_copyFrom_34 : decode cX4_copyFrom 34 = .ok (.getfield 21, 3) := by decide +kernel
theorem dX4_copyFrom_37 : decode cX4_copyFrom 37 = .ok (.aload_n 0, 1) := by decide +kernel
theorem dX4_copyFrom_38 : decode cX4_copyFrom 38 = .ok (.getfield 21, 3) := by decide +kernel
theorem dX4_copyFrom_41 : decode cX4_copyFrom 41 = .ok (.invokestatic 27, 3) := by decide +kernel
theorem dX4_copyFrom_44 : decode cX4_copyFrom 44 = .ok (.aload_n 1, 1) := by decide +kernel
theorem dX4_copyFrom_45 : decode cX4_copyFrom 45 = .ok (.getfield 24, 3) := by decide +kernel
theorem dX4_copyFrom_48 : decode cX4_copyFrom 48 = .ok (.aload_n 0, 1) := by decide +kernel
theorem dX4_copyFrom_49 : decode cX4_copyFrom 49 = .ok (.getfield 24, 3) := by decide +kernel
theorem dX4_copyFrom_52 : decode cX4_copyFrom 52 = .ok (.invokestatic 27, 3) := by decide +kernel
theorem dX4_copyFrom_55 : decode cX4_copyFrom 55 = .ok (.return_, 1) := by decide +kernel
theorem dX4_exists_0 : decode cX4_exists 0 = .ok (.iload_n 1, 1) := by decide +kernel
theorem dX4_exists_1 : decode cX4_exists 1 = .ok (.ifCond .lt 22, 3) := by decide +kernel
theorem dX4_exists_4 : decode cX4_exists 4 = .ok (.iload_n 1, 1) := by decide +kernel
theorem dX4_exists_5 : decode cX4_exists 5 = .ok (.bipush 12, 2) := by decide +kernel
theorem dX4_exists_7 : decode cX4_exists 7 = .ok (.if_icmp .ge 16, 3) := by decide +kernel
theorem dX4_exists_10 : decode cX4_exists 10 = .ok (.aload_n 0, 1) := by decide +kernel
theorem dX4_exists_11 : decode cX4_exists 11 = .ok (.getfield 9, 3) := by decide +kernel
theorem dX4_exists_14 : decode cX4_exists 14 = .ok (.iload_n 1, 1) := by decide +kernel
theorem dX4_exists_15 : decode cX4_exists 15 = .ok (.iaload, 1) := by decide +kernel
theorem dX4_exists_16 : decode cX4_exists 16 = .ok (.ifCond .le 7, 3) := by decide +kernel
theorem dX4_exists_19 : decode cX4_exists 19 = .ok (.iconst 1, 1) := by decide +kernel
theorem dX4_exists_20 : decode cX4_exists 20 = .ok (.goto 4, 3) := by decide +kernel
theorem dX4_exists_23 : decode cX4_exists 23 = .ok (.iconst 0, 1) := by decide +kernel
theorem dX4_exists_24 : decode cX4_exists 24 = .ok (.ireturn, 1) := by decide +kernel
theorem dX4_areTwo_0 : decode cX4_areTwo 0 = .ok (.iload_n 1, 1) := by decide +kernel
theorem dX4_areTwo_1 : decode cX4_areTwo 1 = .ok (.iload_n 2, 1) := by decide +kernel
theorem dX4_areTwo_2 : decode cX4_areTwo 2 = .ok (.if_icmp .eq 23, 3) := by decide +kernel
theorem dX4_areTwo_5 : decode cX4_areTwo 5 = .ok (.aload_n 0, 1) := by decide +kernel
theorem dX4_areTwo_6 : decode cX4_areTwo 6 = .ok (.iload_n 1, 1) := by decide +kernel
theorem dX4_areTwo_7 : decode cX4_areTwo 7 = .ok (.invokevirtual 31, 3) := by decide +kernel
theorem dX4_areTwo_10 : decode cX4_areTwo 10 = .ok (.ifCond .eq 15, 3) := by decide +kernel
theorem dX4_areTwo_13 : decode cX4_areTwo 13 = .ok (.aload_n 0, 1) := by decide +kernel
theorem dX4_areTwo_14 : decode cX4_areTwo 14 = .ok (.iload_n 2, 1) := by decide +kernel
theorem dX4_areTwo_15 : decode cX4_areTwo 15 = .ok (.invokevirtual 31, 3) := by decide +kernel
theorem dX4_areTwo_18 : decode cX4_areTwo 18 = .ok (.ifCond .eq 7, 3) := by decide +kernel
theorem dX4_areTwo_21 : decode cX4_areTwo 21 = .ok (.iconst 1, 1) := by decide +kernel
theorem dX4_areTwo_22 : decode cX4_areTwo 22 = .ok (.goto 4, 3) := by decide +kernel
theorem dX4_areTwo_25 : decode cX4_areTwo 25 = .ok (.iconst 0, 1) := by decide +kernel
theorem dX4_areTwo_26 : decode cX4_areTwo 26 = .ok (.ireturn, 1) := by decide +kernel
theorem dX4_isOnline_0 : decode cX4_isOnline 0 = .ok (.iload_n 1, 1) := by decide +kernel
theorem dX4_isOnline_1 : decode cX4_isOnline 1 = .ok (.ifCond .lt 23, 3) := by decide +kernel
theorem dX4_isOnline_4 : decode cX4_isOnline 4 = .ok (.iload_n 1, 1) := by decide +kernel
theorem dX4_isOnline_5 : decode cX4_isOnline 5 = .ok (.bipush 12, 2) := by decide +kernel
theorem dX4_isOnline_7 : decode cX4_isOnline 7 = .ok (.if_icmp .ge 17, 3) := by decide +kernel
theorem dX4_isOnline_10 : decode cX4_isOnline 10 = .ok (.aload_n 0, 1) := by decide +kernel
theorem dX4_isOnline_11 : decode cX4_isOnline 11 = .ok (.getfield 15, 3) := by decide +kernel
theorem dX4_isOnline_14 : decode cX4_isOnline 14 = .ok (.iload_n 1, 1) := by decide +kernel
theorem dX4_isOnline_15 : decode cX4_isOnline 15 = .ok (.iaload, 1) := by decide +kernel
theorem dX4_isOnline_16 : decode cX4_isOnline 16 = .ok (.iconst 1, 1) := by decide +kernel
theorem dX4_isOnline_17 : decode cX4_isOnline 17 = .ok (.if_icmp .ne 7, 3) := by decide +kernel
theorem dX4_isOnline_20 : decode cX4_isOnline 20 = .ok (.iconst 1, 1) := by decide +kernel
theorem dX4_isOnline_21 : decode cX4_isOnline 21 = .ok (.goto 4, 3) := by decide +kernel
theorem dX4_isOnline_24 : decode cX4_isOnline 24 = .ok (.iconst 0, 1) := by decide +kernel
theorem dX4_isOnline_25 : decode cX4_isOnline 25 = .ok (.ireturn, 1) := by decide +kernel
theorem dX4_freeSpace_0 : decode cX4_freeSpace 0 = .ok (.iload_n 1, 1) := by decide +kernel
theorem dX4_freeSpace_1 : decode cX4_freeSpace 1 = .ok (.ifCond .lt 25, 3) := by decide +kernel
theorem dX4_freeSpace_4 : decode cX4_freeSpace 4 = .ok (.iload_n 1, 1) := by decide +kernel
theorem dX4_freeSpace_5 : decode cX4_freeSpace 5 = .ok (.bipush 12, 2) := by decide +kernel
theorem dX4_freeSpace_7 : decode cX4_freeSpace 7 = .ok (.if_icmp .ge 19, 3) := by decide +kernel
theorem dX4_freeSpace_10 : decode cX4_freeSpace 10 = .ok (.aload_n 0, 1) := by decide +kernel
theorem dX4_freeSpace_11 : decode cX4_freeSpace 11 = .ok (.getfield 9, 3) := by decide +kernel
theorem dX4_freeSpace_14 : decode cX4_freeSpace 14 = .ok (.iload_n 1, 1) := by decide +kernel
theorem dX4_freeSpace_15 : decode cX4_freeSpace 15 = .ok (.iaload, 1) := by decide +kernel
theorem dX4_freeSpace_16 : decode cX4_freeSpace 16 = .ok (.aload_n 0, 1) := by decide +kernel
theorem dX4_freeSpace_17 : decode cX4_freeSpace 17 = .ok (.getfield 21, 3) := by decide +kernel
theorem dX4_freeSpace_20 : decode cX4_freeSpace 20 = .ok (.iload_n 1, 1) := by decide +kernel
theorem dX4_freeSpace_21 : decode cX4_freeSpace 21 = .ok (.iaload, 1) := by decide +kernel
theorem dX4_freeSpace_22 : decode cX4_freeSpace 22 = .ok (.isub, 1) := by decide +kernel
theorem dX4_freeSpace_23 : decode cX4_freeSpace 23 = .ok (.goto 4, 3) := by decide +kernel
theorem dX4_freeSpace_26 : decode cX4_freeSpace 26 = .ok (.iconst 0, 1) := by decide +kernel
theorem dX4_freeSpace_27 : decode cX4_freeSpace 27 = .ok (.ireturn, 1) := by decide +kernel
theorem dX4_number_0 : decode cX4_number 0 = .ok (.iconst 0, 1) := by decide +kernel
theorem dX4_number_1 : decode cX4_number 1 = .ok (.istore_n 1, 1) := by decide +kernel
theorem dX4_number_2 : decode cX4_number 2 = .ok (.iconst 0, 1) := by decide +kernel
theorem dX4_number_3 : decode cX4_number 3 = .ok (.istore_n 2, 1) := by decide +kernel
theorem dX4_number_4 : decode cX4_number 4 = .ok (.iload_n 2, 1) := by decide +kernel
theorem dX4_number_5 : decode cX4_number 5 = .ok (.bipush 12, 2) := by decide +kernel
theorem dX4_number_7 : decode cX4_number 7 = .ok (.if_icmp .ge 20, 3) := by decide +kernel
theorem dX4_number_10 : decode cX4_number 10 = .ok (.aload_n 0, 1) := by decide +kernel
theorem dX4_number_11 : decode cX4_number 11 = .ok (.iload_n 2, 1) := by decide +kernel
theorem dX4_number_12 : decode cX4_number 12 = .ok (.invokevirtual 31, 3) := by decide +kernel
theorem dX4_number_15 : decode cX4_number 15 = .ok (.ifCond .eq 6, 3) := by decide +kernel
theorem dX4_number_18 : decode cX4_number 18 = .ok (.iinc 1 1, 3) := by decide +kernel
theorem dX4_number_21 : decode cX4_number 21 = .ok (.iinc 2 1, 3) := by decide +kernel
theorem dX4_number_24 : decode cX4_number 24 = .ok (.goto (-20), 3) := by decide +kernel
theorem dX4_number_27 : decode cX4_number 27 = .ok (.iload_n 1, 1) := by decide +kernel
theorem dX4_number_28 : decode cX4_number 28 = .ok (.ireturn, 1) := by decide +kernel
theorem dX4_lowestUnused_0 : decode cX4_lowestUnused 0 = .ok (.iconst 0, 1) := by decide +kernel
theorem dX4_lowestUnused_1 : decode cX4_lowestUnused 1 = .ok (.istore_n 1, 1) := by decide +kernel
theorem dX4_lowestUnused_2 : decode cX4_lowestUnused 2 = .ok (.iload_n 1, 1) := by decide +kernel
theorem dX4_lowestUnused_3 : decode cX4_lowestUnused 3 = .ok (.bipush 12, 2) := by decide +kernel
theorem dX4_lowestUnused_5 : decode cX4_lowestUnused 5 = .ok (.if_icmp .ge 19, 3) := by decide +kernel
theorem dX4_lowestUnused_8 : decode cX4_lowestUnused 8 = .ok (.aload_n 0, 1) := by decide +kernel
theorem dX4_lowestUnused_9 : decode cX4_lowestUnused 9 = .ok (.iload_n 1, 1) := by decide +kernel
theorem dX4_lowestUnused_10 : decode cX4_lowestUnused 10 = .ok (.invokevirtual 31, 3) := by decide +kernel
theorem dX4_lowestUnused_13 : decode cX4_lowestUnused 13 = .ok (.ifCond .ne 5, 3) := by decide +kernel
theorem dX4_lowestUnused_16 : decode cX4_lowestUnused 16 = .ok (.iload_n 1, 1) := by decide +kernel
theorem dX4_lowestUnused_17 : decode cX4_lowestUnused 17 = .ok (.ireturn, 1) := by decide +kernel
theorem dX4_lowestUnused_18 : decode cX4_lowestUnused 18 = .ok (.iinc 1 1, 3) := by decide +kernel
theorem dX4_lowestUnused_21 : decode cX4_lowestUnused 21 = .ok (.goto (-19), 3) := by decide +kernel
theorem dX4_lowestUnused_24 : decode cX4_lowestUnused 24 = .ok (.iconst (-1), 1) := by decide +kernel
theorem dX4_lowestUnused_25 : decode cX4_lowestUnused 25 = .ok (.ireturn, 1) := by decide +kernel
theorem dX4_onlineFreeSpace_0 : decode cX4_onlineFreeSpace 0 = .ok (.iconst 0, 1) := by decide +kernel
theorem dX4_onlineFreeSpace_1 : decode cX4_onlineFreeSpace 1 = .ok (.istore_n 1, 1) := by decide +kernel
theorem dX4_onlineFreeSpace_2 : decode cX4_onlineFreeSpace 2 = .ok (.iconst 0, 1) := by decide +kernel
theorem dX4_onlineFreeSpace_3 : decode cX4_onlineFreeSpace 3 = .ok (.istore_n 2, 1) := by decide +kernel
theorem dX4_onlineFreeSpace_4 : decode cX4_onlineFreeSpace 4 = .ok (.iload_n 2, 1) := by decide +kernel
theorem dX4_onlineFreeSpace_5 : decode cX4_onlineFreeSpace 5 = .ok (.bipush 12, 2) := by decide +kernel
theorem dX4_onlineFreeSpace_7 : decode cX4_onlineFreeSpace 7 = .ok (.if_icmp .ge 25, 3) := by decide +kernel
theorem dX4_onlineFreeSpace_10 : decode cX4_onlineFreeSpace 10 = .ok (.aload_n 0, 1) := by decide +kernel
theorem dX4_onlineFreeSpace_11 : decode cX4_onlineFreeSpace 11 = .ok (.iload_n 2, 1) := by decide +kernel
theorem dX4_onlineFreeSpace_12 : decode cX4_onlineFreeSpace 12 = .ok (.invokevirtual 35, 3) := by decide +kernel
theorem dX4_onlineFreeSpace_15 : decode cX4_onlineFreeSpace 15 = .ok (.ifCond .eq 11, 3) := by decide +kernel
theorem dX4_onlineFreeSpace_18 : decode cX4_onlineFreeSpace 18 = .ok (.iload_n 1, 1) := by decide +kernel
theorem dX4_onlineFreeSpace_19 : decode cX4_onlineFreeSpace 19 = .ok (.aload_n 0, 1) := by decide +kernel
theorem dX4_onlineFreeSpace_20 : decode cX4_onlineFreeSpace 20 = .ok (.iload_n 2, 1) := by decide +kernel
theorem dX4_onlineFreeSpace_21 : decode cX4_onlineFreeSpace 21 = .ok (.invokevirtual 38, 3) := by decide +kernel
theorem dX4_onlineFreeSpace_24 : decode cX4_onlineFreeSpace 24 = .ok (.iadd, 1) := by decide +kernel
theorem dX4_onlineFreeSpace_25 : decode cX4_onlineFreeSpace 25 = .ok (.istore_n 1, 1) := by decide +kernel
theorem dX4_onlineFreeSpace_26 : decode cX4_onlineFreeSpace 26 = .ok (.iinc 2 1, 3) := by decide +kernel
theorem dX4_onlineFreeSpace_29 : decode cX4_onlineFreeSpace 29 = .ok (.goto (-25), 3) := by decide +kernel
theorem dX4_onlineFreeSpace_32 : decode cX4_onlineFreeSpace 32 = .ok (.iload_n 1, 1) := by decide +kernel
theorem dX4_onlineFreeSpace_33 : decode cX4_onlineFreeSpace 33 = .ok (.ireturn, 1) := by decide +kernel
theorem dX4_add_0 : decode cX4_add 0 = .ok (.iload_n 1, 1) := by decide +kernel
theorem dX4_add_1 : decode cX4_add 1 = .ok (.ifCond .lt 9, 3) := by decide +kernel
theorem dX4_add_4 : decode cX4_add 4 = .ok (.iload_n 1, 1) := by decide +kernel
theorem dX4_add_5 : decode cX4_add 5 = .ok (.bipush 12, 2) := by decide +kernel
theorem dX4_add_7 : decode cX4_add 7 = .ok (.if_icmp .lt 4, 3) := by decide +kernel
theorem dX4_add_10 : decode cX4_add 10 = .ok (.return_, 1) := by decide +kernel
theorem dX4_add_11 : decode cX4_add 11 = .ok (.aload_n 0, 1) := by decide +kernel
theorem dX4_add_12 : decode cX4_add 12 = .ok (.getfield 9, 3) := by decide +kernel
theorem dX4_add_15 : decode cX4_add 15 = .ok (.iload_n 1, 1) := by decide +kernel
theorem dX4_add_16 : decode cX4_add 16 = .ok (.iload_n 2, 1) := by decide +kernel
theorem dX4_add_17 : decode cX4_add 17 = .ok (.iastore, 1) := by decide +kernel
theorem dX4_add_18 : decode cX4_add 18 = .ok (.aload_n 0, 1) := by decide +kernel
theorem dX4_add_19 : decode cX4_add 19 = .ok (.getfield 15, 3) := by decide +kernel
theorem dX4_add_22 : decode cX4_add 22 = .ok (.iload_n 1, 1) := by decide +kernel
theorem dX4_add_23 : decode cX4_add 23 = .ok (.iconst 1, 1) := by decide +kernel
theorem dX4_add_24 : decode cX4_add 24 = .ok (.iastore, 1) := by decide +kernel
theorem dX4_add_25 : decode cX4_add 25 = .ok (.aload_n 0, 1) := by decide +kernel
theorem dX4_add_26 : decode cX4_add 26 = .ok (.getfield 18, 3) := by decide +kernel
theorem dX4_add_29 : decode cX4_add 29 = .ok (.iload_n 1, 1) := by decide +kernel
theorem dX4_add_30 : decode cX4_add 30 = .ok (.bipush 50, 2) := by decide +kernel
theorem dX4_add_32 : decode cX4_add 32 = .ok (.iastore, 1) := by decide +kernel
theorem dX4_add_33 : decode cX4_add 33 = .ok (.return_, 1) := by decide +kernel
theorem dX4_remove_0 : decode cX4_remove 0 = .ok (.aload_n 0, 1) := by decide +kernel
theorem dX4_remove_1 : decode cX4_remove 1 = .ok (.iload_n 1, 1) := by decide +kernel
theorem dX4_remove_2 : decode cX4_remove 2 = .ok (.invokevirtual 31, 3) := by decide +kernel
theorem dX4_remove_5 : decode cX4_remove 5 = .ok (.ifCond .ne 4, 3) := by decide +kernel
theorem dX4_remove_8 : decode cX4_remove 8 = .ok (.return_, 1) := by decide +kernel
theorem dX4_remove_9 : decode cX4_remove 9 = .ok (.iconst 0, 1) := by decide +kernel
theorem dX4_remove_10 : decode cX4_remove 10 = .ok (.istore_n 2, 1) := by decide +kernel
theorem dX4_remove_11 : decode cX4_remove 11 = .ok (.iload_n 2, 1) := by decide +kernel
theorem dX4_remove_12 : decode cX4_remove 12 = .ok (.bipush 12, 2) := by decide +kernel
theorem dX4_remove_14 : decode cX4_remove 14 = .ok (.if_icmp .ge 33, 3) := by decide +kernel
theorem dX4_remove_17 : decode cX4_remove 17 = .ok (.aload_n 0, 1) := by decide +kernel
theorem dX4_remove_18 : decode cX4_remove 18 = .ok (.getfield 24, 3) := by decide +kernel
theorem dX4_remove_21 : decode cX4_remove 21 = .ok (.iload_n 1, 1) := by decide +kernel
theorem dX4_remove_22 : decode cX4_remove 22 = .ok (.bipush 12, 2) := by decide +kernel
theorem dX4_remove_24 : decode cX4_remove 24 = .ok (.imul, 1) := by decide +kernel
theorem dX4_remove_25 : decode cX4_remove 25 = .ok (.iload_n 2, 1) := by decide +kernel
theorem dX4_remove_26 : decode cX4_remove 26 = .ok (.iadd, 1) := by decide +kernel
theorem dX4_remove_27 : decode cX4_remove 27 = .ok (.iconst 0, 1) := by decide +kernel
theorem dX4_remove_28 : decode cX4_remove 28 = .ok (.iastore, 1) := by decide +kernel
theorem dX4_remove_29 : decode cX4_remove 29 = .ok (.aload_n 0, 1) := by decide +kernel
theorem dX4_remove_30 : decode cX4_remove 30 = .ok (.getfield 24, 3) := by decide +kernel
theorem dX4_remove_33 : decode cX4_remove 33 = .ok (.iload_n 2, 1) := by decide +kernel
theorem dX4_remove_34 : decode cX4_remove 34 = .ok (.bipush 12, 2) := by decide +kernel
theorem dX4_remove_36 : decode cX4_remove 36 = .ok (.imul, 1) := by decide +kernel
theorem dX4_remove_37 : decode cX4_remove 37 = .ok (.iload_n 1, 1) := by decide +kernel
theorem dX4_remove_38 : decode cX4_remove 38 = .ok (.iadd, 1) := by decide +kernel
theorem dX4_remove_39 : decode cX4_remove 39 = .ok (.iconst 0, 1) := by decide +kernel
theorem dX4_remove_40 : decode cX4_remove 40 = .ok (.iastore, 1) := by decide +kernel
theorem dX4_remove_41 : decode cX4_remove 41 = .ok (.iinc 2 1, 3) := by decide +kernel
theorem dX4_remove_44 : decode cX4_remove 44 = .ok (.goto (-33), 3) := by decide +kernel
theorem dX4_remove_47 : decode cX4_remove 47 = .ok (.aload_n 0, 1) := by decide +kernel
theorem dX4_remove_48 : decode cX4_remove 48 = .ok (.getfield 9, 3) := by decide +kernel
theorem dX4_remove_51 : decode cX4_remove 51 = .ok (.iload_n 1, 1) := by decide +kernel
theorem dX4_remove_52 : decode cX4_remove 52 = .ok (.iconst 0, 1) := by decide +kernel
theorem dX4_remove_53 : decode cX4_remove 53 = .ok (.iastore, 1) := by decide +kernel
theorem dX4_remove_54 : decode cX4_remove 54 = .ok (.aload_n 0, 1) := by decide +kernel
theorem dX4_remove_55 : decode cX4_remove 55 = .ok (.getfield 15, 3) := by decide +kernel
theorem dX4_remove_58 : decode cX4_remove 58 = .ok (.iload_n 1, 1) := by decide +kernel
theorem dX4_remove_59 : decode cX4_remove 59 = .ok (.iconst 0, 1) := by decide +kernel
theorem dX4_remove_60 : decode cX4_remove 60 = .ok (.iastore, 1) := by decide +kernel
theorem dX4_remove_61 : decode cX4_remove 61 = .ok (.aload_n 0, 1) := by decide +kernel
theorem dX4_remove_62 : decode cX4_remove 62 = .ok (.getfield 18, 3) := by decide +kernel
theorem dX4_remove_65 : decode cX4_remove 65 = .ok (.iload_n 1, 1) := by decide +kernel
theorem dX4_remove_66 : decode cX4_remove 66 = .ok (.iconst 0, 1) := by decide +kernel
theorem dX4_remove_67 : decode cX4_remove 67 = .ok (.iastore, 1) := by decide +kernel
theorem dX4_remove_68 : decode cX4_remove 68 = .ok (.aload_n 0, 1) := by decide +kernel
theorem dX4_remove_69 : decode cX4_remove 69 = .ok (.getfield 21, 3) := by decide +kernel
theorem dX4_remove_72 : decode cX4_remove 72 = .ok (.iload_n 1, 1) := by decide +kernel
theorem dX4_remove_73 : decode cX4_remove 73 = .ok (.iconst 0, 1) := by decide +kernel
theorem dX4_remove_74 : decode cX4_remove 74 = .ok (.iastore, 1) := by decide +kernel
theorem dX4_remove_75 : decode cX4_remove 75 = .ok (.return_, 1) := by decide +kernel
theorem dX4_addLoad_0 : decode cX4_addLoad 0 = .ok (.aload_n 0, 1) := by decide +kernel
theorem dX4_addLoad_1 : decode cX4_addLoad 1 = .ok (.iload_n 1, 1) := by decide +kernel
theorem dX4_addLoad_2 : decode cX4_addLoad 2 = .ok (.invokevirtual 31, 3) := by decide +kernel
theorem dX4_addLoad_5 : decode cX4_addLoad 5 = .ok (.ifCond .eq 13, 3) := by decide +kernel
theorem dX4_addLoad_8 : decode cX4_addLoad 8 = .ok (.aload_n 0, 1) := by decide +kernel
theorem dX4_addLoad_9 : decode cX4_addLoad 9 = .ok (.getfield 21, 3) := by decide +kernel
theorem dX4_addLoad_12 : decode cX4_addLoad 12 = .ok (.iload_n 1, 1) := by decide +kernel
theorem dX4_addLoad_13 : decode cX4_addLoad 13 = .ok (.dup2, 1) := by decide +kernel
theorem dX4_addLoad_14 : decode cX4_addLoad 14 = .ok (.iaload, 1) := by decide +kernel
theorem dX4_addLoad_15 : decode cX4_addLoad 15 = .ok (.iload_n 2, 1) := by decide +kernel
theorem dX4_addLoad_16 : decode cX4_addLoad 16 = .ok (.iadd, 1) := by decide +kernel
theorem dX4_addLoad_17 : decode cX4_addLoad 17 = .ok (.iastore, 1) := by decide +kernel
theorem dX4_addLoad_18 : decode cX4_addLoad 18 = .ok (.return_, 1) := by decide +kernel
theorem dX4_raiseTrust_0 : decode cX4_raiseTrust 0 = .ok (.aload_n 0, 1) := by decide +kernel
theorem dX4_raiseTrust_1 : decode cX4_raiseTrust 1 = .ok (.iload_n 1, 1) := by decide +kernel
theorem dX4_raiseTrust_2 : decode cX4_raiseTrust 2 = .ok (.invokevirtual 31, 3) := by decide +kernel
theorem dX4_raiseTrust_5 : decode cX4_raiseTrust 5 = .ok (.ifCond .eq 22, 3) := by decide +kernel
theorem dX4_raiseTrust_8 : decode cX4_raiseTrust 8 = .ok (.aload_n 0, 1) := by decide +kernel
theorem dX4_raiseTrust_9 : decode cX4_raiseTrust 9 = .ok (.getfield 18, 3) := by decide +kernel
theorem dX4_raiseTrust_12 : decode cX4_raiseTrust 12 = .ok (.iload_n 1, 1) := by decide +kernel
theorem dX4_raiseTrust_13 : decode cX4_raiseTrust 13 = .ok (.aload_n 0, 1) := by decide +kernel
theorem dX4_raiseTrust_14 : decode cX4_raiseTrust 14 = .ok (.getfield 18, 3) := by decide +kernel
theorem dX4_raiseTrust_17 : decode cX4_raiseTrust 17 = .ok (.iload_n 1, 1) := by decide +kernel
theorem dX4_raiseTrust_18 : decode cX4_raiseTrust 18 = .ok (.iaload, 1) := by decide +kernel
theorem dX4_raiseTrust_19 : decode cX4_raiseTrust 19 = .ok (.iconst 5, 1) := by decide +kernel
theorem dX4_raiseTrust_20 : decode cX4_raiseTrust 20 = .ok (.iadd, 1) := by decide +kernel
theorem dX4_raiseTrust_21 : decode cX4_raiseTrust 21 = .ok (.bipush 100, 2) := by decide +kernel
theorem dX4_raiseTrust_23 : decode cX4_raiseTrust 23 = .ok (.invokestatic 42, 3) := by decide +kernel
theorem dX4_raiseTrust_26 : decode cX4_raiseTrust 26 = .ok (.iastore, 1) := by decide +kernel
theorem dX4_raiseTrust_27 : decode cX4_raiseTrust 27 = .ok (.return_, 1) := by decide +kernel
theorem dX4_halveTrust_0 : decode cX4_halveTrust 0 = .ok (.aload_n 0, 1) := by decide +kernel
theorem dX4_halveTrust_1 : decode cX4_halveTrust 1 = .ok (.iload_n 1, 1) := by decide +kernel
theorem dX4_halveTrust_2 : decode cX4_halveTrust 2 = .ok (.invokevirtual 31, 3) := by decide +kernel
theorem dX4_halveTrust_5 : decode cX4_halveTrust 5 = .ok (.ifCond .eq 17, 3) := by decide +kernel
theorem dX4_halveTrust_8 : decode cX4_halveTrust 8 = .ok (.aload_n 0, 1) := by decide +kernel
theorem dX4_halveTrust_9 : decode cX4_halveTrust 9 = .ok (.getfield 18, 3) := by decide +kernel
theorem dX4_halveTrust_12 : decode cX4_halveTrust 12 = .ok (.iload_n 1, 1) := by decide +kernel
theorem dX4_halveTrust_13 : decode cX4_halveTrust 13 = .ok (.aload_n 0, 1) := by decide +kernel
theorem dX4_halveTrust_14 : decode cX4_halveTrust 14 = .ok (.getfield 18, 3) := by decide +kernel
theorem dX4_halveTrust_17 : decode cX4_halveTrust 17 = .ok (.iload_n 1, 1) := by decide +kernel
theorem dX4_halveTrust_18 : decode cX4_halveTrust 18 = .ok (.iaload, 1) := by decide +kernel
theorem dX4_halveTrust_19 : decode cX4_halveTrust 19 = .ok (.iconst 2, 1) := by decide +kernel
theorem dX4_halveTrust_20 : decode cX4_halveTrust 20 = .ok (.idiv, 1) := by decide +kernel
theorem dX4_halveTrust_21 : decode cX4_halveTrust 21 = .ok (.iastore, 1) := by decide +kernel
theorem dX4_halveTrust_22 : decode cX4_halveTrust 22 = .ok (.return_, 1) := by decide +kernel
theorem dX4_isBetterPlace_0 : decode cX4_isBetterPlace 0 = .ok (.aload_n 0, 1) := by decide +kernel
theorem dX4_isBetterPlace_1 : decode cX4_isBetterPlace 1 = .ok (.iload_n 2, 1) := by decide +kernel
theorem dX4_isBetterPlace_2 : decode cX4_isBetterPlace 2 = .ok (.invokevirtual 31, 3) := by decide +kernel
theorem dX4_isBetterPlace_5 : decode cX4_isBetterPlace 5 = .ok (.ifCond .ne 5, 3) := by decide +kernel
theorem dX4_isBetterPlace_8 : decode cX4_isBetterPlace 8 = .ok (.iconst 1, 1) := by decide +kernel
theorem dX4_isBetterPlace_9 : decode cX4_isBetterPlace 9 = .ok (.ireturn, 1) := by decide +kernel
theorem dX4_isBetterPlace_10 : decode cX4_isBetterPlace 10 = .ok (.aload_n 0, 1) := by decide +kernel
theorem dX4_isBetterPlace_11 : decode cX4_isBetterPlace 11 = .ok (.iload_n 1, 1) := by decide +kernel
theorem dX4_isBetterPlace_12 : decode cX4_isBetterPlace 12 = .ok (.invokevirtual 31, 3) := by decide +kernel
theorem dX4_isBetterPlace_15 : decode cX4_isBetterPlace 15 = .ok (.ifCond .ne 5, 3) := by decide +kernel
theorem dX4_isBetterPlace_18 : decode cX4_isBetterPlace 18 = .ok (.iconst 0, 1) := by decide +kernel
theorem dX4_isBetterPlace_19 : decode cX4_isBetterPlace 19 = .ok (.ireturn, 1) := by decide +kernel
theorem dX4_isBetterPlace_20 : decode cX4_isBetterPlace 20 = .ok (.aload_n 0, 1) := by decide +kernel
theorem dX4_isBetterPlace_21 : decode cX4_isBetterPlace 21 = .ok (.getfield 18, 3) := by decide +kernel
theorem dX4_isBetterPlace_24 : decode cX4_isBetterPlace 24 = .ok (.iload_n 1, 1) := by decide +kernel
theorem dX4_isBetterPlace_25 : decode cX4_isBetterPlace 25 = .ok (.iaload, 1) := by decide +kernel
theorem dX4_isBetterPlace_26 : decode cX4_isBetterPlace 26 = .ok (.aload_n 0, 1) := by decide +kernel
theorem dX4_isBetterPlace_27 : decode cX4_isBetterPlace 27 = .ok (.getfield 18, 3) := by decide +kernel
theorem dX4_isBetterPlace_30 : decode cX4_isBetterPlace 30 = .ok (.iload_n 2, 1) := by decide +kernel
theorem dX4_isBetterPlace_31 : decode cX4_isBetterPlace 31 = .ok (.iaload, 1) := by decide +kernel
theorem dX4_isBetterPlace_32 : decode cX4_isBetterPlace 32 = .ok (.if_icmp .eq 24, 3) := by decide +kernel
theorem dX4_isBetterPlace_35 : decode cX4_isBetterPlace 35 = .ok (.aload_n 0, 1) := by decide +kernel
theorem dX4_isBetterPlace_36 : decode cX4_isBetterPlace 36 = .ok (.getfield 18, 3) := by decide +kernel
theorem dX4_isBetterPlace_39 : decode cX4_isBetterPlace 39 = .ok (.iload_n 1, 1) := by decide +kernel
theorem dX4_isBetterPlace_40 : decode cX4_isBetterPlace 40 = .ok (.iaload, 1) := by decide +kernel
theorem dX4_isBetterPlace_41 : decode cX4_isBetterPlace 41 = .ok (.aload_n 0, 1) := by decide +kernel
theorem dX4_isBetterPlace_42 : decode cX4_isBetterPlace 42 = .ok (.getfield 18, 3) := by decide +kernel
theorem dX4_isBetterPlace_45 : decode cX4_isBetterPlace 45 = .ok (.iload_n 2, 1) := by decide +kernel
theorem dX4_isBetterPlace_46 : decode cX4_isBetterPlace 46 = .ok (.iaload, 1) := by decide +kernel
theorem dX4_isBetterPlace_47 : decode cX4_isBetterPlace 47 = .ok (.if_icmp .le 7, 3) := by decide +kernel
theorem dX4_isBetterPlace_50 : decode cX4_isBetterPlace 50 = .ok (.iconst 1, 1) := by decide +kernel
theorem dX4_isBetterPlace_51 : decode cX4_isBetterPlace 51 = .ok (.goto 4, 3) := by decide +kernel
theorem dX4_isBetterPlace_54 : decode cX4_isBetterPlace 54 = .ok (.iconst 0, 1) := by decide +kernel
theorem dX4_isBetterPlace_55 : decode cX4_isBetterPlace 55 = .ok (.ireturn, 1) := by decide +kernel
theorem dX4_isBetterPlace_56 : decode cX4_isBetterPlace 56 = .ok (.aload_n 0, 1) := by decide +kernel
theorem dX4_isBetterPlace_57 : decode cX4_isBetterPlace 57 = .ok (.iload_n 1, 1) := by decide +kernel
theorem dX4_isBetterPlace_58 : decode cX4_isBetterPlace 58 = .ok (.invokevirtual 38, 3) := by decide +kernel
theorem dX4_isBetterPlace_61 : decode cX4_isBetterPlace 61 = .ok (.aload_n 0, 1) := by decide +kernel
theorem dX4_isBetterPlace_62 : decode cX4_isBetterPlace 62 = .ok (.iload_n 2, 1) := by decide +kernel
theorem dX4_isBetterPlace_63 : decode cX4_isBetterPlace 63 = .ok (.invokevirtual 38, 3) := by decide +kernel
theorem dX4_isBetterPlace_66 : decode cX4_isBetterPlace 66 = .ok (.if_icmp .le 7, 3) := by decide +kernel
theorem dX4_isBetterPlace_69 : decode cX4_isBetterPlace 69 = .ok (.iconst 1, 1) := by decide +kernel
theorem dX4_isBetterPlace_70 : decode cX4_isBetterPlace 70 = .ok (.goto 4, 3) := by decide +kernel
theorem dX4_isBetterPlace_73 : decode cX4_isBetterPlace 73 = .ok (.iconst 0, 1) := by decide +kernel
theorem dX4_isBetterPlace_74 : decode cX4_isBetterPlace 74 = .ok (.ireturn, 1) := by decide +kernel
theorem dX4_owe_0 : decode cX4_owe 0 = .ok (.iload_n 1, 1) := by decide +kernel
theorem dX4_owe_1 : decode cX4_owe 1 = .ok (.iload_n 2, 1) := by decide +kernel
theorem dX4_owe_2 : decode cX4_owe 2 = .ok (.if_icmp .eq 49, 3) := by decide +kernel
theorem dX4_owe_5 : decode cX4_owe 5 = .ok (.aload_n 0, 1) := by decide +kernel
theorem dX4_owe_6 : decode cX4_owe 6 = .ok (.iload_n 1, 1) := by decide +kernel
theorem dX4_owe_7 : decode cX4_owe 7 = .ok (.invokevirtual 31, 3) := by decide +kernel
theorem dX4_owe_10 : decode cX4_owe 10 = .ok (.ifCond .eq 41, 3) := by decide +kernel
theorem dX4_owe_13 : decode cX4_owe 13 = .ok (.aload_n 0, 1) := by decide +kernel
theorem dX4_owe_14 : decode cX4_owe 14 = .ok (.iload_n 2, 1) := by decide +kernel
theorem dX4_owe_15 : decode cX4_owe 15 = .ok (.invokevirtual 31, 3) := by decide +kernel
theorem dX4_owe_18 : decode cX4_owe 18 = .ok (.ifCond .eq 33, 3) := by decide +kernel
theorem dX4_owe_21 : decode cX4_owe 21 = .ok (.aload_n 0, 1) := by decide +kernel
theorem dX4_owe_22 : decode cX4_owe 22 = .ok (.getfield 24, 3) := by decide +kernel
theorem dX4_owe_25 : decode cX4_owe 25 = .ok (.iload_n 1, 1) := by decide +kernel
theorem dX4_owe_26 : decode cX4_owe 26 = .ok (.bipush 12, 2) := by decide +kernel
theorem dX4_owe_28 : decode cX4_owe 28 = .ok (.imul, 1) := by decide +kernel
theorem dX4_owe_29 : decode cX4_owe 29 = .ok (.iload_n 2, 1) := by decide +kernel
theorem dX4_owe_30 : decode cX4_owe 30 = .ok (.iadd, 1) := by decide +kernel
theorem dX4_owe_31 : decode cX4_owe 31 = .ok (.dup2, 1) := by decide +kernel
theorem dX4_owe_32 : decode cX4_owe 32 = .ok (.iaload, 1) := by decide +kernel
theorem dX4_owe_33 : decode cX4_owe 33 = .ok (.iload_n 3, 1) := by decide +kernel
theorem dX4_owe_34 : decode cX4_owe 34 = .ok (.iadd, 1) := by decide +kernel
theorem dX4_owe_35 : decode cX4_owe 35 = .ok (.iastore, 1) := by decide +kernel
theorem dX4_owe_36 : decode cX4_owe 36 = .ok (.aload_n 0, 1) := by decide +kernel
theorem dX4_owe_37 : decode cX4_owe 37 = .ok (.getfield 24, 3) := by decide +kernel
theorem dX4_owe_40 : decode cX4_owe 40 = .ok (.iload_n 2, 1) := by decide +kernel
theorem dX4_owe_41 : decode cX4_owe 41 = .ok (.bipush 12, 2) := by decide +kernel
theorem dX4_owe_43 : decode cX4_owe 43 = .ok (.imul, 1) := by decide +kernel
theorem dX4_owe_44 : decode cX4_owe 44 = .ok (.iload_n 1, 1) := by decide +kernel
theorem dX4_owe_45 : decode cX4_owe 45 = .ok (.iadd, 1) := by decide +kernel
theorem dX4_owe_46 : decode cX4_owe 46 = .ok (.dup2, 1) := by decide +kernel
theorem dX4_owe_47 : decode cX4_owe 47 = .ok (.iaload, 1) := by decide +kernel
theorem dX4_owe_48 : decode cX4_owe 48 = .ok (.iload_n 3, 1) := by decide +kernel
theorem dX4_owe_49 : decode cX4_owe 49 = .ok (.isub, 1) := by decide +kernel
theorem dX4_owe_50 : decode cX4_owe 50 = .ok (.iastore, 1) := by decide +kernel
theorem dX4_owe_51 : decode cX4_owe 51 = .ok (.return_, 1) := by decide +kernel
theorem dX4_owedBy_0 : decode cX4_owedBy 0 = .ok (.aload_n 0, 1) := by decide +kernel
theorem dX4_owedBy_1 : decode cX4_owedBy 1 = .ok (.iload_n 1, 1) := by decide +kernel
theorem dX4_owedBy_2 : decode cX4_owedBy 2 = .ok (.iload_n 2, 1) := by decide +kernel
theorem dX4_owedBy_3 : decode cX4_owedBy 3 = .ok (.invokevirtual 48, 3) := by decide +kernel
theorem dX4_owedBy_6 : decode cX4_owedBy 6 = .ok (.ifCond .eq 17, 3) := by decide +kernel
theorem dX4_owedBy_9 : decode cX4_owedBy 9 = .ok (.aload_n 0, 1) := by decide +kernel
theorem dX4_owedBy_10 : decode cX4_owedBy 10 = .ok (.getfield 24, 3) := by decide +kernel
theorem dX4_owedBy_13 : decode cX4_owedBy 13 = .ok (.iload_n 1, 1) := by decide +kernel
theorem dX4_owedBy_14 : decode cX4_owedBy 14 = .ok (.bipush 12, 2) := by decide +kernel
theorem dX4_owedBy_16 : decode cX4_owedBy 16 = .ok (.imul, 1) := by decide +kernel
theorem dX4_owedBy_17 : decode cX4_owedBy 17 = .ok (.iload_n 2, 1) := by decide +kernel
theorem dX4_owedBy_18 : decode cX4_owedBy 18 = .ok (.iadd, 1) := by decide +kernel
theorem dX4_owedBy_19 : decode cX4_owedBy 19 = .ok (.iaload, 1) := by decide +kernel
theorem dX4_owedBy_20 : decode cX4_owedBy 20 = .ok (.goto 4, 3) := by decide +kernel
theorem dX4_owedBy_23 : decode cX4_owedBy 23 = .ok (.iconst 0, 1) := by decide +kernel
theorem dX4_owedBy_24 : decode cX4_owedBy 24 = .ok (.ireturn, 1) := by decide +kernel
theorem dX4_sumOwedBy_0 : decode cX4_sumOwedBy 0 = .ok (.iconst 0, 1) := by decide +kernel
theorem dX4_sumOwedBy_1 : decode cX4_sumOwedBy 1 = .ok (.istore_n 2, 1) := by decide +kernel
theorem dX4_sumOwedBy_2 : decode cX4_sumOwedBy 2 = .ok (.iconst 0, 1) := by decide +kernel
theorem dX4_sumOwedBy_3 : decode cX4_sumOwedBy 3 = .ok (.istore_n 3, 1) := by decide +kernel
theorem dX4_sumOwedBy_4 : decode cX4_sumOwedBy 4 = .ok (.iload_n 3, 1) := by decide +kernel
theorem dX4_sumOwedBy_5 : decode cX4_sumOwedBy 5 = .ok (.bipush 12, 2) := by decide +kernel
theorem dX4_sumOwedBy_7 : decode cX4_sumOwedBy 7 = .ok (.if_icmp .ge 18, 3) := by decide +kernel
theorem dX4_sumOwedBy_10 : decode cX4_sumOwedBy 10 = .ok (.iload_n 2, 1) := by decide +kernel
theorem dX4_sumOwedBy_11 : decode cX4_sumOwedBy 11 = .ok (.aload_n 0, 1) := by decide +kernel
theorem dX4_sumOwedBy_12 : decode cX4_sumOwedBy 12 = .ok (.iload_n 1, 1) := by decide +kernel
theorem dX4_sumOwedBy_13 : decode cX4_sumOwedBy 13 = .ok (.iload_n 3, 1) := by decide +kernel
theorem dX4_sumOwedBy_14 : decode cX4_sumOwedBy 14 = .ok (.invokevirtual 52, 3) := by decide +kernel
theorem dX4_sumOwedBy_17 : decode cX4_sumOwedBy 17 = .ok (.iadd, 1) := by decide +kernel
theorem dX4_sumOwedBy_18 : decode cX4_sumOwedBy 18 = .ok (.istore_n 2, 1) := by decide +kernel
theorem dX4_sumOwedBy_19 : decode cX4_sumOwedBy 19 = .ok (.iinc 3 1, 3) := by decide +kernel
theorem dX4_sumOwedBy_22 : decode cX4_sumOwedBy 22 = .ok (.goto (-18), 3) := by decide +kernel
theorem dX4_sumOwedBy_25 : decode cX4_sumOwedBy 25 = .ok (.iload_n 2, 1) := by decide +kernel
theorem dX4_sumOwedBy_26 : decode cX4_sumOwedBy 26 = .ok (.ireturn, 1) := by decide +kernel
theorem dX4_sumOfDebts_0 : decode cX4_sumOfDebts 0 = .ok (.iconst 0, 1) := by decide +kernel
theorem dX4_sumOfDebts_1 : decode cX4_sumOfDebts 1 = .ok (.istore_n 1, 1) := by decide +kernel
theorem dX4_sumOfDebts_2 : decode cX4_sumOfDebts 2 = .ok (.iconst 0, 1) := by decide +kernel
theorem dX4_sumOfDebts_3 : decode cX4_sumOfDebts 3 = .ok (.istore_n 2, 1) := by decide +kernel
theorem dX4_sumOfDebts_4 : decode cX4_sumOfDebts 4 = .ok (.iload_n 2, 1) := by decide +kernel
theorem dX4_sumOfDebts_5 : decode cX4_sumOfDebts 5 = .ok (.sipush 144, 3) := by decide +kernel
theorem dX4_sumOfDebts_8 : decode cX4_sumOfDebts 8 = .ok (.if_icmp .ge 22, 3) := by decide +kernel
theorem dX4_sumOfDebts_11 : decode cX4_sumOfDebts 11 = .ok (.iload_n 1, 1) := by decide +kernel
theorem dX4_sumOfDebts_12 : decode cX4_sumOfDebts 12 = .ok (.aload_n 0, 1) := by decide +kernel
theorem dX4_sumOfDebts_13 : decode cX4_sumOfDebts 13 = .ok (.getfield 24, 3) := by decide +kernel
theorem dX4_sumOfDebts_16 : decode cX4_sumOfDebts 16 = .ok (.iload_n 2, 1) := by decide +kernel
theorem dX4_sumOfDebts_17 : decode cX4_sumOfDebts 17 = .ok (.iaload, 1) := by decide +kernel
theorem dX4_sumOfDebts_18 : decode cX4_sumOfDebts 18 = .ok (.iconst 0, 1) := by decide +kernel
theorem dX4_sumOfDebts_19 : decode cX4_sumOfDebts 19 = .ok (.invokestatic 55, 3) := by decide +kernel
theorem dX4_sumOfDebts_22 : decode cX4_sumOfDebts 22 = .ok (.iadd, 1) := by decide +kernel
theorem dX4_sumOfDebts_23 : decode cX4_sumOfDebts 23 = .ok (.istore_n 1, 1) := by decide +kernel
theorem dX4_sumOfDebts_24 : decode cX4_sumOfDebts 24 = .ok (.iinc 2 1, 3) := by decide +kernel
theorem dX4_sumOfDebts_27 : decode cX4_sumOfDebts 27 = .ok (.goto (-23), 3) := by decide +kernel
theorem dX4_sumOfDebts_30 : decode cX4_sumOfDebts 30 = .ok (.iload_n 1, 1) := by decide +kernel
theorem dX4_sumOfDebts_31 : decode cX4_sumOfDebts 31 = .ok (.ireturn, 1) := by decide +kernel
theorem dX5_init_0 : decode cX5_init 0 = .ok (.aload_n 0, 1) := by decide +kernel
theorem dX5_init_1 : decode cX5_init 1 = .ok (.invokespecial 3, 3) := by decide +kernel
theorem dX5_init_4 : decode cX5_init 4 = .ok (.aload_n 0, 1) := by decide +kernel
theorem dX5_init_5 : decode cX5_init 5 = .ok (.new 9, 3) := by decide +kernel
theorem dX5_init_8 : decode cX5_init 8 = .ok (.dup, 1) := by decide +kernel
theorem dX5_init_9 : decode cX5_init 9 = .ok (.invokespecial 11, 3) := by decide +kernel
theorem dX5_init_12 : decode cX5_init 12 = .ok (.putfield 12, 3) := by decide +kernel
theorem dX5_init_15 : decode cX5_init 15 = .ok (.aload_n 0, 1) := by decide +kernel
theorem dX5_init_16 : decode cX5_init 16 = .ok (.new 18, 3) := by decide +kernel
theorem dX5_init_19 : decode cX5_init 19 = .ok (.dup, 1) := by decide +kernel
theorem dX5_init_20 : decode cX5_init 20 = .ok (.invokespecial 20, 3) := by decide +kernel
theorem dX5_init_23 : decode cX5_init 23 = .ok (.putfield 21, 3) := by decide +kernel
theorem dX5_init_26 : decode cX5_init 26 = .ok (.aload_n 0, 1) := by decide +kernel
theorem dX5_init_27 : decode cX5_init 27 = .ok (.bipush 6, 2) := by decide +kernel
theorem dX5_init_29 : decode cX5_init 29 = .ok (.newarray .int, 2) := by decide +kernel
theorem dX5_init_31 : decode cX5_init 31 = .ok (.putfield 25, 3) := by decide +kernel
theorem dX5_init_34 : decode cX5_init 34 = .ok (.return_, 1) := by decide +kernel
theorem dX5_copyFrom_0 : decode cX5_copyFrom 0 = .ok (.aload_n 0, 1) := by decide +kernel
theorem dX5_copyFrom_1 : decode cX5_copyFrom 1 = .ok (.getfield 12, 3) := by decide +kernel
theorem dX5_copyFrom_4 : decode cX5_copyFrom 4 = .ok (.aload_n 1, 1) := by decide +kernel
theorem dX5_copyFrom_5 : decode cX5_copyFrom 5 = .ok (.getfield 12, 3) := by decide +kernel
theorem dX5_copyFrom_8 : decode cX5_copyFrom 8 = .ok (.invokevirtual 29, 3) := by decide +kernel
theorem dX5_copyFrom_11 : decode cX5_copyFrom 11 = .ok (.aload_n 0, 1) := by decide +kernel
theorem dX5_copyFrom_12 : decode cX5_copyFrom 12 = .ok (.getfield 21, 3) := by decide +kernel
theorem dX5_copyFrom_15 : decode cX5_copyFrom 15 = .ok (.aload_n 1, 1) := by decide +kernel
theorem dX5_copyFrom_16 : decode cX5_copyFrom 16 = .ok (.getfield 21, 3) := by decide +kernel
theorem dX5_copyFrom_19 : decode cX5_copyFrom 19 = .ok (.invokevirtual 33, 3) := by decide +kernel
theorem dX5_copyFrom_22 : decode cX5_copyFrom 22 = .ok (.aload_n 1, 1) := by decide +kernel
theorem dX5_copyFrom_23 : decode cX5_copyFrom 23 = .ok (.getfield 25, 3) := by decide +kernel
theorem dX5_copyFrom_26 : decode cX5_copyFrom 26 = .ok (.aload_n 0, 1) := by decide +kernel
theorem dX5_copyFrom_27 : decode cX5_copyFrom 27 = .ok (.getfield 25, 3) := by decide +kernel
theorem dX5_copyFrom_30 : decode cX5_copyFrom 30 = .ok (.invokestatic 36, 3) := by decide +kernel
theorem dX5_copyFrom_33 : decode cX5_copyFrom 33 = .ok (.aload_n 0, 1) := by decide +kernel
theorem dX5_copyFrom_34 : decode cX5_copyFrom 34 = .ok (.aload_n 1, 1) := by decide +kernel
theorem dX5_copyFrom_35 : decode cX5_copyFrom 35 = .ok (.getfield 40, 3) := by decide +kernel
theorem dX5_copyFrom_38 : decode cX5_copyFrom 38 = .ok (.putfield 40, 3) := by decide +kernel
theorem dX5_copyFrom_41 : decode cX5_copyFrom 41 = .ok (.return_, 1) := by decide +kernel
theorem dX5_addWaiting_0 : decode cX5_addWaiting 0 = .ok (.aload_n 0, 1) := by decide +kernel
theorem dX5_addWaiting_1 : decode cX5_addWaiting 1 = .ok (.getfield 40, 3) := by decide +kernel
theorem dX5_addWaiting_4 : decode cX5_addWaiting 4 = .ok (.ifCond .lt 32, 3) := by decide +kernel
theorem dX5_addWaiting_7 : decode cX5_addWaiting 7 = .ok (.aload_n 0, 1) := by decide +kernel
theorem dX5_addWaiting_8 : decode cX5_addWaiting 8 = .ok (.getfield 40, 3) := by decide +kernel
theorem dX5_addWaiting_11 : decode cX5_addWaiting 11 = .ok (.bipush 6, 2) := by decide +kernel
theorem dX5_addWaiting_13 : decode cX5_addWaiting 13 = .ok (.if_icmp .ge 23, 3) := by decide +kernel
theorem dX5_addWaiting_16 : decode cX5_addWaiting 16 = .ok (.aload_n 0, 1) := by decide +kernel
theorem dX5_addWaiting_17 : decode cX5_addWaiting 17 = .ok (.getfield 25, 3) := by decide +kernel
theorem dX5_addWaiting_20 : decode cX5_addWaiting 20 = .ok (.aload_n 0, 1) := by decide +kernel
theorem dX5_addWaiting_21 : decode cX5_addWaiting 21 = .ok (.getfield 40, 3) := by decide +kernel
theorem dX5_addWaiting_24 : decode cX5_addWaiting 24 = .ok (.iload_n 1, 1) := by decide +kernel
theorem dX5_addWaiting_25 : decode cX5_addWaiting 25 = .ok (.iastore, 1) := by decide +kernel
theorem dX5_addWaiting_26 : decode cX5_addWaiting 26 = .ok (.aload_n 0, 1) := by decide +kernel
theorem dX5_addWaiting_27 : decode cX5_addWaiting 27 = .ok (.dup, 1) := by decide +kernel
theorem dX5_addWaiting_28 : decode cX5_addWaiting 28 = .ok (.getfield 40, 3) := by decide +kernel
theorem dX5_addWaiting_31 : decode cX5_addWaiting 31 = .ok (.iconst 1, 1) := by decide +kernel
theorem dX5_addWaiting_32 : decode cX5_addWaiting 32 = .ok (.iadd, 1) := by decide +kernel
theorem dX5_addWaiting_33 : decode cX5_addWaiting 33 = .ok (.putfield 40, 3) := by decide +kernel
theorem dX5_addWaiting_36 : decode cX5_addWaiting 36 = .ok (.aload_n 0, 1) := by decide +kernel
theorem dX5_addWaiting_37 : decode cX5_addWaiting 37 = .ok (.getfield 40, 3) := by decide +kernel
theorem dX5_addWaiting_40 : decode cX5_addWaiting 40 = .ok (.ireturn, 1) := by decide +kernel
theorem dX5_isGood_0 : decode cX5_isGood 0 = .ok (.aload_n 0, 1) := by decide +kernel
theorem dX5_isGood_1 : decode cX5_isGood 1 = .ok (.getfield 21, 3) := by decide +kernel
theorem dX5_isGood_4 : decode cX5_isGood 4 = .ok (.iload_n 1, 1) := by decide +kernel
theorem dX5_isGood_5 : decode cX5_isGood 5 = .ok (.iload_n 2, 1) := by decide +kernel
theorem dX5_isGood_6 : decode cX5_isGood 6 = .ok (.invokevirtual 44, 3) := by decide +kernel
theorem dX5_isGood_9 : decode cX5_isGood 9 = .ok (.ifCond .ne 26, 3) := by decide +kernel
theorem dX5_isGood_12 : decode cX5_isGood 12 = .ok (.aload_n 0, 1) := by decide +kernel
theorem dX5_isGood_13 : decode cX5_isGood 13 = .ok (.getfield 12, 3) := by decide +kernel
theorem dX5_isGood_16 : decode cX5_isGood 16 = .ok (.aload_n 0, 1) := by decide +kernel
theorem dX5_isGood_17 : decode cX5_isGood 17 = .ok (.getfield 21, 3) := by decide +kernel
theorem dX5_isGood_20 : decode cX5_isGood 20 = .ok (.iload_n 1, 1) := by decide +kernel
theorem dX5_isGood_21 : decode cX5_isGood 21 = .ok (.iload_n 2, 1) := by decide +kernel
theorem dX5_isGood_22 : decode cX5_isGood 22 = .ok (.invokevirtual 48, 3) := by decide +kernel
theorem dX5_isGood_25 : decode cX5_isGood 25 = .ok (.invokevirtual 51, 3) := by decide +kernel
theorem dX5_isGood_28 : decode cX5_isGood 28 = .ok (.ifCond .eq 7, 3) := by decide +kernel
theorem dX5_isGood_31 : decode cX5_isGood 31 = .ok (.iconst 1, 1) := by decide +kernel
theorem dX5_isGood_32 : decode cX5_isGood 32 = .ok (.goto 4, 3) := by decide +kernel
theorem dX5_isGood_35 : decode cX5_isGood 35 = .ok (.iconst 0, 1) := by decide +kernel
theorem dX5_isGood_36 : decode cX5_isGood 36 = .ok (.ireturn, 1) := by decide +kernel
theorem dX5_goodNumber_0 : decode cX5_goodNumber 0 = .ok (.iconst 0, 1) := by decide +kernel
theorem dX5_goodNumber_1 : decode cX5_goodNumber 1 = .ok (.istore_n 2, 1) := by decide +kernel
theorem dX5_goodNumber_2 : decode cX5_goodNumber 2 = .ok (.aload_n 0, 1) := by decide +kernel
theorem dX5_goodNumber_3 : decode cX5_goodNumber 3 = .ok (.getfield 21, 3) := by decide +kernel
theorem dX5_goodNumber_6 : decode cX5_goodNumber 6 = .ok (.iload_n 1, 1) := by decide +kernel
theorem dX5_goodNumber_7 : decode cX5_goodNumber 7 = .ok (.invokevirtual 55, 3) := by decide +kernel
theorem dX5_goodNumber_10 : decode cX5_goodNumber 10 = .ok (.istore_n 3, 1) := by decide +kernel
theorem dX5_goodNumber_11 : decode cX5_goodNumber 11 = .ok (.iconst 0, 1) := by decide +kernel
theorem dX5_goodNumber_12 : decode cX5_goodNumber 12 = .ok (.istore 4, 2) := by decide +kernel
theorem dX5_goodNumber_14 : decode cX5_goodNumber 14 = .ok (.iload 4, 2) := by decide +kernel
theorem dX5_goodNumber_16 : decode cX5_goodNumber 16 = .ok (.iload_n 3, 1) := by decide +kernel
theorem dX5_goodNumber_17 : decode cX5_goodNumber 17 = .ok (.if_icmp .ge 22, 3) := by decide +kernel
theorem dX5_goodNumber_20 : decode cX5_goodNumber 20 = .ok (.aload_n 0, 1) := by decide +kernel
theorem dX5_goodNumber_21 : decode cX5_goodNumber 21 = .ok (.iload_n 1, 1) := by decide +kernel
theorem dX5_goodNumber_22 : decode cX5_goodNumber 22 = .ok (.iload 4, 2) := by decide +kernel
theorem dX5_goodNumber_24 : decode cX5_goodNumber 24 = .ok (.invokevirtual 59, 3) := by decide +kernel
theorem dX5_goodNumber_27 : decode cX5_goodNumber 27 = .ok (.ifCond .eq 6, 3) := by decide +kernel
theorem dX5_goodNumber_30 : decode cX5_goodNumber 30 = .ok (.iinc 2 1, 3) := by decide +kernel
theorem dX5_goodNumber_33 : decode cX5_goodNumber 33 = .ok (.iinc 4 1, 3) := by decide +kernel
theorem dX5_goodNumber_36 : decode cX5_goodNumber 36 = .ok (.goto (-22), 3) := by decide +kernel
theorem dX5_goodNumber_39 : decode cX5_goodNumber 39 = .ok (.iload_n 2, 1) := by decide +kernel
theorem dX5_goodNumber_40 : decode cX5_goodNumber 40 = .ok (.ireturn, 1) := by decide +kernel
theorem dX5_reserveOf_0 : decode cX5_reserveOf 0 = .ok (.aload_n 0, 1) := by decide +kernel
theorem dX5_reserveOf_1 : decode cX5_reserveOf 1 = .ok (.iload_n 1, 1) := by decide +kernel
theorem dX5_reserveOf_2 : decode cX5_reserveOf 2 = .ok (.invokevirtual 63, 3) := by decide +kernel
theorem dX5_reserveOf_5 : decode cX5_reserveOf 5 = .ok (.aload_n 0, 1) := by decide +kernel
theorem dX5_reserveOf_6 : decode cX5_reserveOf 6 = .ok (.getfield 21, 3) := by decide +kernel
theorem dX5_reserveOf_9 : decode cX5_reserveOf 9 = .ok (.iload_n 1, 1) := by decide +kernel
theorem dX5_reserveOf_10 : decode cX5_reserveOf 10 = .ok (.invokevirtual 66, 3) := by decide +kernel
theorem dX5_reserveOf_13 : decode cX5_reserveOf 13 = .ok (.isub, 1) := by decide +kernel
theorem dX5_reserveOf_14 : decode cX5_reserveOf 14 = .ok (.ireturn, 1) := by decide +kernel
theorem dX5_isSafe_0 : decode cX5_isSafe 0 = .ok (.aload_n 0, 1) := by decide +kernel
theorem dX5_isSafe_1 : decode cX5_isSafe 1 = .ok (.getfield 21, 3) := by decide +kernel
theorem dX5_isSafe_4 : decode cX5_isSafe 4 = .ok (.iload_n 1, 1) := by decide +kernel
theorem dX5_isSafe_5 : decode cX5_isSafe 5 = .ok (.invokevirtual 69, 3) := by decide +kernel
theorem dX5_isSafe_8 : decode cX5_isSafe 8 = .ok (.ifCond .eq 23, 3) := by decide +kernel
theorem dX5_isSafe_11 : decode cX5_isSafe 11 = .ok (.aload_n 0, 1) := by decide +kernel
theorem dX5_isSafe_12 : decode cX5_isSafe 12 = .ok (.iload_n 1, 1) := by decide +kernel
theorem dX5_isSafe_13 : decode cX5_isSafe 13 = .ok (.invokevirtual 63, 3) := by decide +kernel
theorem dX5_isSafe_16 : decode cX5_isSafe 16 = .ok (.aload_n 0, 1) := by decide +kernel
theorem dX5_isSafe_17 : decode cX5_isSafe 17 = .ok (.getfield 21, 3) := by decide +kernel
theorem dX5_isSafe_20 : decode cX5_isSafe 20 = .ok (.iload_n 1, 1) := by decide +kernel
theorem dX5_isSafe_21 : decode cX5_isSafe 21 = .ok (.invokevirtual 66, 3) := by decide +kernel
theorem dX5_isSafe_24 : decode cX5_isSafe 24 = .ok (.if_icmp .lt 7, 3) := by decide +kernel
theorem dX5_isSafe_27 : decode cX5_isSafe 27 = .ok (.iconst 1, 1) := by decide +kernel
theorem dX5_isSafe_28 : decode cX5_isSafe 28 = .ok (.goto 4, 3) := by decide +kernel
theorem dX5_isSafe_31 : decode cX5_isSafe 31 = .ok (.iconst 0, 1) := by decide +kernel
theorem dX5_isSafe_32 : decode cX5_isSafe 32 = .ok (.ireturn, 1) := by decide +kernel
theorem dX5_safeNumber_0 : decode cX5_safeNumber 0 = .ok (.iconst 0, 1) := by decide +kernel
theorem dX5_safeNumber_1 : decode cX5_safeNumber 1 = .ok (.istore_n 1, 1) := by decide +kernel
theorem dX5_safeNumber_2 : decode cX5_safeNumber 2 = .ok (.iconst 0, 1) := by decide +kernel
theorem dX5_safeNumber_3 : decode cX5_safeNumber 3 = .ok (.istore_n 2, 1) := by decide +kernel
theorem dX5_safeNumber_4 : decode cX5_safeNumber 4 = .ok (.iload_n 2, 1) := by decide +kernel
theorem dX5_safeNumber_5 : decode cX5_safeNumber 5 = .ok (.bipush 8, 2) := by decide +kernel
theorem dX5_safeNumber_7 : decode cX5_safeNumber 7 = .ok (.if_icmp .ge 20, 3) := by decide +kernel
theorem dX5_safeNumber_10 : decode cX5_safeNumber 10 = .ok (.aload_n 0, 1) := by decide +kernel
theorem dX5_safeNumber_11 : decode cX5_safeNumber 11 = .ok (.iload_n 2, 1) := by decide +kernel
theorem dX5_safeNumber_12 : decode cX5_safeNumber 12 = .ok (.invokevirtual 72, 3) := by decide +kernel
theorem dX5_safeNumber_15 : decode cX5_safeNumber 15 = .ok (.ifCond .eq 6, 3) := by decide +kernel
theorem dX5_safeNumber_18 : decode cX5_safeNumber 18 = .ok (.iinc 1 1, 3) := by decide +kernel
theorem dX5_safeNumber_21 : decode cX5_safeNumber 21 = .ok (.iinc 2 1, 3) := by decide +kernel
theorem dX5_safeNumber_24 : decode cX5_safeNumber 24 = .ok (.goto (-20), 3) := by decide +kernel
theorem dX5_safeNumber_27 : decode cX5_safeNumber 27 = .ok (.iload_n 1, 1) := by decide +kernel
theorem dX5_safeNumber_28 : decode cX5_safeNumber 28 = .ok (.ireturn, 1) := by decide +kernel
theorem dX5_findPlace_0 : decode cX5_findPlace 0 = .ok (.iconst (-1), 1) := by decide +kernel
theorem dX5_findPlace_1 : decode cX5_findPlace 1 = .ok (.istore_n 2, 1) := by decide +kernel
theorem dX5_findPlace_2 : decode cX5_findPlace 2 = .ok (.iconst 0, 1) := by decide +kernel
theorem dX5_findPlace_3 : decode cX5_findPlace 3 = .ok (.istore_n 3, 1) := by decide +kernel
theorem dX5_findPlace_4 : decode cX5_findPlace 4 = .ok (.iload_n 3, 1) := by decide +kernel
theorem dX5_findPlace_5 : decode cX5_findPlace 5 = .ok (.bipush 12, 2) := by decide +kernel
theorem dX5_findPlace_7 : decode cX5_findPlace 7 = .ok (.if_icmp .ge 58, 3) := by decide +kernel
theorem dX5_findPlace_10 : decode cX5_findPlace 10 = .ok (.aload_n 0, 1) := by decide +kernel
theorem dX5_findPlace_11 : decode cX5_findPlace 11 = .ok (.getfield 12, 3) := by decide +kernel
theorem dX5_findPlace_14 : decode cX5_findPlace 14 = .ok (.iload_n 3, 1) := by decide +kernel
theorem dX5_findPlace_15 : decode cX5_findPlace 15 = .ok (.invokevirtual 51, 3) := by decide +kernel
theorem dX5_findPlace_18 : decode cX5_findPlace 18 = .ok (.ifCond .eq 41, 3) := by decide +kernel
theorem dX5_findPlace_21 : decode cX5_findPlace 21 = .ok (.aload_n 0, 1) := by decide +kernel
theorem dX5_findPlace_22 : decode cX5_findPlace 22 = .ok (.getfield 12, 3) := by decide +kernel
theorem dX5_findPlace_25 : decode cX5_findPlace 25 = .ok (.iload_n 3, 1) := by decide +kernel
theorem dX5_findPlace_26 : decode cX5_findPlace 26 = .ok (.invokevirtual 75, 3) := by decide +kernel
theorem dX5_findPlace_29 : decode cX5_findPlace 29 = .ok (.ifCond .le 30, 3) := by decide +kernel
theorem dX5_findPlace_32 : decode cX5_findPlace 32 = .ok (.aload_n 0, 1) := by decide +kernel
theorem dX5_findPlace_33 : decode cX5_findPlace 33 = .ok (.getfield 21, 3) := by decide +kernel
theorem dX5_findPlace_36 : decode cX5_findPlace 36 = .ok (.iload_n 1, 1) := by decide +kernel
theorem dX5_findPlace_37 : decode cX5_findPlace 37 = .ok (.iload_n 3, 1) := by decide +kernel
theorem dX5_findPlace_38 : decode cX5_findPlace 38 = .ok (.invokevirtual 78, 3) := by decide +kernel
theorem dX5_findPlace_41 : decode cX5_findPlace 41 = .ok (.iconst (-1), 1) := by decide +kernel
theorem dX5_findPlace_42 : decode cX5_findPlace 42 = .ok (.if_icmp .ne 17, 3) := by decide +kernel
theorem dX5_findPlace_45 : decode cX5_findPlace 45 = .ok (.aload_n 0, 1) := by decide +kernel
theorem dX5_findPlace_46 : decode cX5_findPlace 46 = .ok (.getfield 12, 3) := by decide +kernel
theorem dX5_findPlace_49 : decode cX5_findPlace 49 = .ok (.iload_n 3, 1) := by decide +kernel
theorem dX5_findPlace_50 : decode cX5_findPlace 50 = .ok (.iload_n 2, 1) := by decide +kernel
theorem dX5_findPlace_51 : decode cX5_findPlace 51 = .ok (.invokevirtual 81, 3) := by decide +kernel
theorem dX5_findPlace_54 : decode cX5_findPlace 54 = .ok (.ifCond .eq 5, 3) := by decide +kernel
theorem dX5_findPlace_57 : decode cX5_findPlace 57 = .ok (.iload_n 3, 1) := by decide +kernel
theorem dX5_findPlace_58 : decode cX5_findPlace 58 = .ok (.istore_n 2, 1) := by decide +kernel
theorem dX5_findPlace_59 : decode cX5_findPlace 59 = .ok (.iinc 3 1, 3) := by decide +kernel
theorem dX5_findPlace_62 : decode cX5_findPlace 62 = .ok (.goto (-58), 3) := by decide +kernel
theorem dX5_findPlace_65 : decode cX5_findPlace 65 = .ok (.iload_n 2, 1) := by decide +kernel
theorem dX5_findPlace_66 : decode cX5_findPlace 66 = .ok (.ireturn, 1) := by decide +kernel
theorem dX5_putOn_0 : decode cX5_putOn 0 = .ok (.aload_n 0, 1) := by decide +kernel
theorem dX5_putOn_1 : decode cX5_putOn 1 = .ok (.getfield 21, 3) := by decide +kernel
theorem dX5_putOn_4 : decode cX5_putOn 4 = .ok (.iload_n 1, 1) := by decide +kernel
theorem dX5_putOn_5 : decode cX5_putOn 5 = .ok (.iload_n 2, 1) := by decide +kernel
theorem dX5_putOn_6 : decode cX5_putOn 6 = .ok (.iload_n 3, 1) := by decide +kernel
theorem dX5_putOn_7 : decode cX5_putOn 7 = .ok (.iload 4, 2) := by decide +kernel
theorem dX5_putOn_9 : decode cX5_putOn 9 = .ok (.invokevirtual 84, 3) := by decide +kernel
theorem dX5_putOn_12 : decode cX5_putOn 12 = .ok (.aload_n 0, 1) := by decide +kernel
theorem dX5_putOn_13 : decode cX5_putOn 13 = .ok (.getfield 12, 3) := by decide +kernel
theorem dX5_putOn_16 : decode cX5_putOn 16 = .ok (.iload_n 3, 1) := by decide +kernel
theorem dX5_putOn_17 : decode cX5_putOn 17 = .ok (.iconst 1, 1) := by decide +kernel
theorem dX5_putOn_18 : decode cX5_putOn 18 = .ok (.invokevirtual 88, 3) := by decide +kernel
theorem dX5_putOn_21 : decode cX5_putOn 21 = .ok (.aload_n 0, 1) := by decide +kernel
theorem dX5_putOn_22 : decode cX5_putOn 22 = .ok (.getfield 12, 3) := by decide +kernel
theorem dX5_putOn_25 : decode cX5_putOn 25 = .ok (.aload_n 0, 1) := by decide +kernel
theorem dX5_putOn_26 : decode cX5_putOn 26 = .ok (.getfield 21, 3) := by decide +kernel
theorem dX5_putOn_29 : decode cX5_putOn 29 = .ok (.iload_n 1, 1) := by decide +kernel
theorem dX5_putOn_30 : decode cX5_putOn 30 = .ok (.invokevirtual 92, 3) := by decide +kernel
theorem dX5_putOn_33 : decode cX5_putOn 33 = .ok (.iload_n 3, 1) := by decide +kernel
theorem dX5_putOn_34 : decode cX5_putOn 34 = .ok (.iconst 1, 1) := by decide +kernel
theorem dX5_putOn_35 : decode cX5_putOn 35 = .ok (.invokevirtual 95, 3) := by decide +kernel
theorem dX5_putOn_38 : decode cX5_putOn 38 = .ok (.return_, 1) := by decide +kernel
theorem dX5_takeOff_0 : decode cX5_takeOff 0 = .ok (.aload_n 0, 1) := by decide +kernel
theorem dX5_takeOff_1 : decode cX5_takeOff 1 = .ok (.getfield 12, 3) := by decide +kernel
theorem dX5_takeOff_4 : decode cX5_takeOff 4 = .ok (.aload_n 0, 1) := by decide +kernel
theorem dX5_takeOff_5 : decode cX5_takeOff 5 = .ok (.getfield 21, 3) := by decide +kernel
theorem dX5_takeOff_8 : decode cX5_takeOff 8 = .ok (.iload_n 1, 1) := by decide +kernel
theorem dX5_takeOff_9 : decode cX5_takeOff 9 = .ok (.iload_n 2, 1) := by decide +kernel
theorem dX5_takeOff_10 : decode cX5_takeOff 10 = .ok (.invokevirtual 48, 3) := by decide +kernel
theorem dX5_takeOff_13 : decode cX5_takeOff 13 = .ok (.iconst (-1), 1) := by decide +kernel
theorem dX5_takeOff_14 : decode cX5_takeOff 14 = .ok (.invokevirtual 88, 3) := by decide +kernel
theorem dX5_takeOff_17 : decode cX5_takeOff 17 = .ok (.aload_n 0, 1) := by decide +kernel
theorem dX5_takeOff_18 : decode cX5_takeOff 18 = .ok (.getfield 21, 3) := by decide +kernel
theorem dX5_takeOff_21 : decode cX5_takeOff 21 = .ok (.iload_n 1, 1) := by decide +kernel
theorem dX5_takeOff_22 : decode cX5_takeOff 22 = .ok (.iload_n 2, 1) := by decide +kernel
theorem dX5_takeOff_23 : decode cX5_takeOff 23 = .ok (.iconst (-1), 1) := by decide +kernel
theorem dX5_takeOff_24 : decode cX5_takeOff 24 = .ok (.iconst 0, 1) := by decide +kernel
theorem dX5_takeOff_25 : decode cX5_takeOff 25 = .ok (.invokevirtual 84, 3) := by decide +kernel
theorem dX5_takeOff_28 : decode cX5_takeOff 28 = .ok (.return_, 1) := by decide +kernel
theorem dX5_makeFile_0 : decode cX5_makeFile 0 = .ok (.aload_n 0, 1) := by decide +kernel
theorem dX5_makeFile_1 : decode cX5_makeFile 1 = .ok (.getfield 21, 3) := by decide +kernel
theorem dX5_makeFile_4 : decode cX5_makeFile 4 = .ok (.iload_n 1, 1) := by decide +kernel
theorem dX5_makeFile_5 : decode cX5_makeFile 5 = .ok (.iload_n 2, 1) := by decide +kernel
theorem dX5_makeFile_6 : decode cX5_makeFile 6 = .ok (.aload_n 0, 1) := by decide +kernel
theorem dX5_makeFile_7 : decode cX5_makeFile 7 = .ok (.getfield 25, 3) := by decide +kernel
theorem dX5_makeFile_10 : decode cX5_makeFile 10 = .ok (.aload_n 0, 1) := by decide +kernel
theorem dX5_makeFile_11 : decode cX5_makeFile 11 = .ok (.getfield 40, 3) := by decide +kernel
theorem dX5_makeFile_14 : decode cX5_makeFile 14 = .ok (.iload_n 3, 1) := by decide +kernel
theorem dX5_makeFile_15 : decode cX5_makeFile 15 = .ok (.invokevirtual 99, 3) := by decide +kernel
theorem dX5_makeFile_18 : decode cX5_makeFile 18 = .ok (.aload_n 0, 1) := by decide +kernel
theorem dX5_makeFile_19 : decode cX5_makeFile 19 = .ok (.iconst 0, 1) := by decide +kernel
theorem dX5_makeFile_20 : decode cX5_makeFile 20 = .ok (.putfield 40, 3) := by decide +kernel
theorem dX5_makeFile_23 : decode cX5_makeFile 23 = .ok (.aload_n 0, 1) := by decide +kernel
theorem dX5_makeFile_24 : decode cX5_makeFile 24 = .ok (.getfield 21, 3) := by decide +kernel
theorem dX5_makeFile_27 : decode cX5_makeFile 27 = .ok (.iload_n 1, 1) := by decide +kernel
theorem dX5_makeFile_28 : decode cX5_makeFile 28 = .ok (.invokevirtual 55, 3) := by decide +kernel
theorem dX5_makeFile_31 : decode cX5_makeFile 31 = .ok (.istore 4, 2) := by decide +kernel
theorem dX5_makeFile_33 : decode cX5_makeFile 33 = .ok (.iconst 0, 1) := by decide +kernel
theorem dX5_makeFile_34 : decode cX5_makeFile 34 = .ok (.istore 5, 2) := by decide +kernel
theorem dX5_makeFile_36 : decode cX5_makeFile 36 = .ok (.iload 5, 2) := by decide +kernel
theorem dX5_makeFile_38 : decode cX5_makeFile 38 = .ok (.iload 4, 2) := by decide +kernel
theorem dX5_makeFile_40 : decode cX5_makeFile 40 = .ok (.if_icmp .ge 32, 3) := by decide +kernel
theorem dX5_makeFile_43 : decode cX5_makeFile 43 = .ok (.aload_n 0, 1) := by decide +kernel
theorem dX5_makeFile_44 : decode cX5_makeFile 44 = .ok (.iload_n 1, 1) := by decide +kernel
theorem dX5_makeFile_45 : decode cX5_makeFile 45 = .ok (.invokevirtual 103, 3) := by decide +kernel
theorem dX5_makeFile_48 : decode cX5_makeFile 48 = .ok (.istore 6, 2) := by decide +kernel
theorem dX5_makeFile_50 : decode cX5_makeFile 50 = .ok (.iload 6, 2) := by decide +kernel
theorem dX5_makeFile_52 : decode cX5_makeFile 52 = .ok (.iconst (-1), 1) := by decide +kernel
theorem dX5_makeFile_53 : decode cX5_makeFile 53 = .ok (.if_icmp .eq 13, 3) := by decide +kernel
theorem dX5_makeFile_56 : decode cX5_makeFile 56 = .ok (.aload_n 0, 1) := by decide +kernel
theorem dX5_makeFile_57 : decode cX5_makeFile 57 = .ok (.iload_n 1, 1) := by decide +kernel
theorem dX5_makeFile_58 : decode cX5_makeFile 58 = .ok (.iload 5, 2) := by decide +kernel
theorem dX5_makeFile_60 : decode cX5_makeFile 60 = .ok (.iload 6, 2) := by decide +kernel
theorem dX5_makeFile_62 : decode cX5_makeFile 62 = .ok (.iconst 0, 1) := by decide +kernel
theorem dX5_makeFile_63 : decode cX5_makeFile 63 = .ok (.invokevirtual 106, 3) := by decide +kernel
theorem dX5_makeFile_66 : decode cX5_makeFile 66 = .ok (.iinc 5 1, 3) := by decide +kernel
theorem dX5_makeFile_69 : decode cX5_makeFile 69 = .ok (.goto (-33), 3) := by decide +kernel
theorem dX5_makeFile_72 : decode cX5_makeFile 72 = .ok (.return_, 1) := by decide +kernel
theorem dX5_removeFile_0 : decode cX5_removeFile 0 = .ok (.aload_n 0, 1) := by decide +kernel
theorem dX5_removeFile_1 : decode cX5_removeFile 1 = .ok (.getfield 21, 3) := by decide +kernel
theorem dX5_removeFile_4 : decode cX5_removeFile 4 = .ok (.iload_n 1, 1) := by decide +kernel
theorem dX5_removeFile_5 : decode cX5_removeFile 5 = .ok (.invokevirtual 55, 3) := by decide +kernel
theorem dX5_removeFile_8 : decode cX5_removeFile 8 = .ok (.istore_n 2, 1) := by decide +kernel
theorem dX5_removeFile_9 : decode cX5_removeFile 9 = .ok (.iconst 0, 1) := by decide +kernel
theorem dX5_removeFile_10 : decode cX5_removeFile 10 = .ok (.istore_n 3, 1) := by decide +kernel
theorem dX5_removeFile_11 : decode cX5_removeFile 11 = .ok (.iload_n 3, 1) := by decide +kernel
theorem dX5_removeFile_12 : decode cX5_removeFile 12 = .ok (.iload_n 2, 1) := by decide +kernel
theorem dX5_removeFile_13 : decode cX5_removeFile 13 = .ok (.if_icmp .ge 15, 3) := by decide +kernel
theorem dX5_removeFile_16 : decode cX5_removeFile 16 = .ok (.aload_n 0, 1) := by decide +kernel
theorem dX5_removeFile_17 : decode cX5_removeFile 17 = .ok (.iload_n 1, 1) := by decide +kernel
theorem dX5_removeFile_18 : decode cX5_removeFile 18 = .ok (.iload_n 3, 1) := by decide +kernel
theorem dX5_removeFile_19 : decode cX5_removeFile 19 = .ok (.invokevirtual 109, 3) := by decide +kernel
theorem dX5_removeFile_22 : decode cX5_removeFile 22 = .ok (.iinc 3 1, 3) := by decide +kernel
theorem dX5_removeFile_25 : decode cX5_removeFile 25 = .ok (.goto (-14), 3) := by decide +kernel
theorem dX5_removeFile_28 : decode cX5_removeFile 28 = .ok (.aload_n 0, 1) := by decide +kernel
theorem dX5_removeFile_29 : decode cX5_removeFile 29 = .ok (.getfield 21, 3) := by decide +kernel
theorem dX5_removeFile_32 : decode cX5_removeFile 32 = .ok (.iload_n 1, 1) := by decide +kernel
theorem dX5_removeFile_33 : decode cX5_removeFile 33 = .ok (.invokevirtual 112, 3) := by decide +kernel
theorem dX5_removeFile_36 : decode cX5_removeFile 36 = .ok (.return_, 1) := by decide +kernel
theorem dX5_mayLeave_0 : decode cX5_mayLeave 0 = .ok (.aload_n 0, 1) := by decide +kernel
theorem dX5_mayLeave_1 : decode cX5_mayLeave 1 = .ok (.getfield 12, 3) := by decide +kernel
theorem dX5_mayLeave_4 : decode cX5_mayLeave 4 = .ok (.iload_n 1, 1) := by decide +kernel
theorem dX5_mayLeave_5 : decode cX5_mayLeave 5 = .ok (.invokevirtual 51, 3) := by decide +kernel
theorem dX5_mayLeave_8 : decode cX5_mayLeave 8 = .ok (.ifCond .eq 18, 3) := by decide +kernel
theorem dX5_mayLeave_11 : decode cX5_mayLeave 11 = .ok (.aload_n 0, 1) := by decide +kernel
theorem dX5_mayLeave_12 : decode cX5_mayLeave 12 = .ok (.getfield 21, 3) := by decide +kernel
theorem dX5_mayLeave_15 : decode cX5_mayLeave 15 = .ok (.iload_n 1, 1) := by decide +kernel
theorem dX5_mayLeave_16 : decode cX5_mayLeave 16 = .ok (.invokevirtual 116, 3) := by decide +kernel
theorem dX5_mayLeave_19 : decode cX5_mayLeave 19 = .ok (.ifCond .ne 7, 3) := by decide +kernel
theorem dX5_mayLeave_22 : decode cX5_mayLeave 22 = .ok (.iconst 1, 1) := by decide +kernel
theorem dX5_mayLeave_23 : decode cX5_mayLeave 23 = .ok (.goto 4, 3) := by decide +kernel
theorem dX5_mayLeave_26 : decode cX5_mayLeave 26 = .ok (.iconst 0, 1) := by decide +kernel
theorem dX5_mayLeave_27 : decode cX5_mayLeave 27 = .ok (.ireturn, 1) := by decide +kernel
theorem dX5_leaveInOrder_0 : decode cX5_leaveInOrder 0 = .ok (.iconst 0, 1) := by decide +kernel
theorem dX5_leaveInOrder_1 : decode cX5_leaveInOrder 1 = .ok (.istore_n 2, 1) := by decide +kernel
theorem dX5_leaveInOrder_2 : decode cX5_leaveInOrder 2 = .ok (.iconst 0, 1) := by decide +kernel
theorem dX5_leaveInOrder_3 : decode cX5_leaveInOrder 3 = .ok (.istore_n 3, 1) := by decide +kernel
theorem dX5_leaveInOrder_4 : decode cX5_leaveInOrder 4 = .ok (.iload_n 3, 1) := by decide +kernel
theorem dX5_leaveInOrder_5 : decode cX5_leaveInOrder 5 = .ok (.bipush 8, 2) := by decide +kernel
theorem dX5_leaveInOrder_7 : decode cX5_leaveInOrder 7 = .ok (.if_icmp .ge 39, 3) := by decide +kernel
theorem dX5_leaveInOrder_10 : decode cX5_leaveInOrder 10 = .ok (.aload_n 0, 1) := by decide +kernel
theorem dX5_leaveInOrder_11 : decode cX5_leaveInOrder 11 = .ok (.getfield 21, 3) := by decide +kernel
theorem dX5_leaveInOrder_14 : decode cX5_leaveInOrder 14 = .ok (.iload_n 3, 1) := by decide +kernel
theorem dX5_leaveInOrder_15 : decode cX5_leaveInOrder 15 = .ok (.iload_n 1, 1) := by decide +kernel
theorem dX5_leaveInOrder_16 : decode cX5_leaveInOrder 16 = .ok (.invokevirtual 78, 3) := by decide +kernel
theorem dX5_leaveInOrder_19 : decode cX5_leaveInOrder 19 = .ok (.istore 4, 2) := by decide +kernel
theorem dX5_leaveInOrder_21 : decode cX5_leaveInOrder 21 = .ok (.iload 4, 2) := by decide +kernel
theorem dX5_leaveInOrder_23 : decode cX5_leaveInOrder 23 = .ok (.iconst (-1), 1) := by decide +kernel
theorem dX5_leaveInOrder_24 : decode cX5_leaveInOrder 24 = .ok (.if_icmp .eq 16, 3) := by decide +kernel
theorem dX5_leaveInOrder_27 : decode cX5_leaveInOrder 27 = .ok (.aload_n 0, 1) := by decide +kernel
theorem dX5_leaveInOrder_28 : decode cX5_leaveInOrder 28 = .ok (.iload_n 3, 1) := by decide +kernel
theorem dX5_leaveInOrder_29 : decode cX5_leaveInOrder 29 = .ok (.iload 4, 2) := by decide +kernel
theorem dX5_leaveInOrder_31 : decode cX5_leaveInOrder 31 = .ok (.invokevirtual 119, 3) := by decide +kernel
theorem dX5_leaveInOrder_34 : decode cX5_leaveInOrder 34 = .ok (.ifCond .ne 6, 3) := by decide +kernel
theorem dX5_leaveInOrder_37 : decode cX5_leaveInOrder 37 = .ok (.iinc 2 1, 3) := by decide +kernel
theorem dX5_leaveInOrder_40 : decode cX5_leaveInOrder 40 = .ok (.iinc 3 1, 3) := by decide +kernel
theorem dX5_leaveInOrder_43 : decode cX5_leaveInOrder 43 = .ok (.goto (-39), 3) := by decide +kernel
theorem dX5_leaveInOrder_46 : decode cX5_leaveInOrder 46 = .ok (.aload_n 0, 1) := by decide +kernel
theorem dX5_leaveInOrder_47 : decode cX5_leaveInOrder 47 = .ok (.getfield 12, 3) := by decide +kernel
theorem dX5_leaveInOrder_50 : decode cX5_leaveInOrder 50 = .ok (.iload_n 1, 1) := by decide +kernel
theorem dX5_leaveInOrder_51 : decode cX5_leaveInOrder 51 = .ok (.invokevirtual 122, 3) := by decide +kernel
theorem dX5_leaveInOrder_54 : decode cX5_leaveInOrder 54 = .ok (.iload_n 2, 1) := by decide +kernel
theorem dX5_leaveInOrder_55 : decode cX5_leaveInOrder 55 = .ok (.ireturn, 1) := by decide +kernel
theorem dX5_move_0 : decode cX5_move 0 = .ok (.aload_n 0, 1) := by decide +kernel
theorem dX5_move_1 : decode cX5_move 1 = .ok (.iload_n 1, 1) := by decide +kernel
theorem dX5_move_2 : decode cX5_move 2 = .ok (.invokevirtual 103, 3) := by decide +kernel
theorem dX5_move_5 : decode cX5_move 5 = .ok (.istore_n 3, 1) := by decide +kernel
theorem dX5_move_6 : decode cX5_move 6 = .ok (.aload_n 0, 1) := by decide +kernel
theorem dX5_move_7 : decode cX5_move 7 = .ok (.getfield 21, 3) := by decide +kernel
theorem dX5_move_10 : decode cX5_move 10 = .ok (.iload_n 1, 1) := by decide +kernel
theorem dX5_move_11 : decode cX5_move 11 = .ok (.iload_n 2, 1) := by decide +kernel
theorem dX5_move_12 : decode cX5_move 12 = .ok (.invokevirtual 44, 3) := by decide +kernel
theorem dX5_move_15 : decode cX5_move 15 = .ok (.istore 4, 2) := by decide +kernel
theorem dX5_move_17 : decode cX5_move 17 = .ok (.aload_n 0, 1) := by decide +kernel
theorem dX5_move_18 : decode cX5_move 18 = .ok (.iload_n 1, 1) := by decide +kernel
theorem dX5_move_19 : decode cX5_move 19 = .ok (.iload_n 2, 1) := by decide +kernel
theorem dX5_move_20 : decode cX5_move 20 = .ok (.invokevirtual 109, 3) := by decide +kernel
theorem dX5_move_23 : decode cX5_move 23 = .ok (.iload_n 3, 1) := by decide +kernel
theorem dX5_move_24 : decode cX5_move 24 = .ok (.iconst (-1), 1) := by decide +kernel
theorem dX5_move_25 : decode cX5_move 25 = .ok (.if_icmp .ne 5, 3) := by decide +kernel
theorem dX5_move_28 : decode cX5_move 28 = .ok (.iconst 0, 1) := by decide +kernel
theorem dX5_move_29 : decode cX5_move 29 = .ok (.ireturn, 1) := by decide +kernel
theorem dX5_move_30 : decode cX5_move 30 = .ok (.aload_n 0, 1) := by decide +kernel
theorem dX5_move_31 : decode cX5_move 31 = .ok (.iload_n 1, 1) := by decide +kernel
theorem dX5_move_32 : decode cX5_move 32 = .ok (.iload_n 2, 1) := by decide +kernel
theorem dX5_move_33 : decode cX5_move 33 = .ok (.iload_n 3, 1) := by decide +kernel
theorem dX5_move_34 : decode cX5_move 34 = .ok (.iload 4, 2) := by decide +kernel
theorem dX5_move_36 : decode cX5_move 36 = .ok (.invokevirtual 106, 3) := by decide +kernel
theorem dX5_move_39 : decode cX5_move 39 = .ok (.iconst 1, 1) := by decide +kernel
theorem dX5_move_40 : decode cX5_move 40 = .ok (.ireturn, 1) := by decide +kernel
theorem dX5_removeCrashed_0 : decode cX5_removeCrashed 0 = .ok (.iconst 0, 1) := by decide +kernel
theorem dX5_removeCrashed_1 : decode cX5_removeCrashed 1 = .ok (.istore_n 2, 1) := by decide +kernel
theorem dX5_removeCrashed_2 : decode cX5_removeCrashed 2 = .ok (.iconst 0, 1) := by decide +kernel
theorem dX5_removeCrashed_3 : decode cX5_removeCrashed 3 = .ok (.istore_n 3, 1) := by decide +kernel
theorem dX5_removeCrashed_4 : decode cX5_removeCrashed 4 = .ok (.iload_n 3, 1) := by decide +kernel
theorem dX5_removeCrashed_5 : decode cX5_removeCrashed 5 = .ok (.bipush 8, 2) := by decide +kernel
theorem dX5_removeCrashed_7 : decode cX5_removeCrashed 7 = .ok (.if_icmp .ge 56, 3) := by decide +kernel
theorem dX5_removeCrashed_10 : decode cX5_removeCrashed 10 = .ok (.aload_n 0, 1) := by decide +kernel
theorem dX5_removeCrashed_11 : decode cX5_removeCrashed 11 = .ok (.getfield 21, 3) := by decide +kernel
theorem dX5_removeCrashed_14 : decode cX5_removeCrashed 14 = .ok (.iload_n 3, 1) := by decide +kernel
theorem dX5_removeCrashed_15 : decode cX5_removeCrashed 15 = .ok (.iload_n 1, 1) := by decide +kernel
theorem dX5_removeCrashed_16 : decode cX5_removeCrashed 16 = .ok (.invokevirtual 78, 3) := by decide +kernel
theorem dX5_removeCrashed_19 : decode cX5_removeCrashed 19 = .ok (.istore 4, 2) := by decide +kernel
theorem dX5_removeCrashed_21 : decode cX5_removeCrashed 21 = .ok (.aload_n 0, 1) := by decide +kernel
theorem dX5_removeCrashed_22 : decode cX5_removeCrashed 22 = .ok (.getfield 21, 3) := by decide +kernel
theorem dX5_removeCrashed_25 : decode cX5_removeCrashed 25 = .ok (.iload_n 3, 1) := by decide +kernel
theorem dX5_removeCrashed_26 : decode cX5_removeCrashed 26 = .ok (.invokevirtual 92, 3) := by decide +kernel
theorem dX5_removeCrashed_29 : decode cX5_removeCrashed 29 = .ok (.iload_n 1, 1) := by decide +kernel
theorem dX5_removeCrashed_30 : decode cX5_removeCrashed 30 = .ok (.if_icmp .ne 11, 3) := by decide +kernel
theorem dX5_removeCrashed_33 : decode cX5_removeCrashed 33 = .ok (.aload_n 0, 1) := by decide +kernel
theorem dX5_removeCrashed_34 : decode cX5_removeCrashed 34 = .ok (.iload_n 3, 1) := by decide +kernel
theorem dX5_removeCrashed_35 : decode cX5_removeCrashed 35 = .ok (.invokevirtual 123, 3) := by decide +kernel
theorem dX5_removeCrashed_38 : decode cX5_removeCrashed 38 = .ok (.goto 19, 3) := by decide +kernel
theorem dX5_removeCrashed_41 : decode cX5_removeCrashed 41 = .ok (.iload 4, 2) := by decide +kernel
theorem dX5_removeCrashed_43 : decode cX5_removeCrashed 43 = .ok (.iconst (-1), 1) := by decide +kernel
theorem dX5_removeCrashed_44 : decode cX5_removeCrashed 44 = .ok (.if_icmp .eq 13, 3) := by decide +kernel
theorem dX5_removeCrashed_47 : decode cX5_removeCrashed 47 = .ok (.aload_n 0, 1) := by decide +kernel
theorem dX5_removeCrashed_48 : decode cX5_removeCrashed 48 = .ok (.iload_n 3, 1) := by decide +kernel
theorem dX5_removeCrashed_49 : decode cX5_removeCrashed 49 = .ok (.iload 4, 2) := by decide +kernel
theorem dX5_removeCrashed_51 : decode cX5_removeCrashed 51 = .ok (.invokevirtual 109, 3) := by decide +kernel
theorem dX5_removeCrashed_54 : decode cX5_removeCrashed 54 = .ok (.iinc 2 1, 3) := by decide +kernel
theorem dX5_removeCrashed_57 : decode cX5_removeCrashed 57 = .ok (.iinc 3 1, 3) := by decide +kernel
theorem dX5_removeCrashed_60 : decode cX5_removeCrashed 60 = .ok (.goto (-56), 3) := by decide +kernel
theorem dX5_removeCrashed_63 : decode cX5_removeCrashed 63 = .ok (.aload_n 0, 1) := by decide +kernel
theorem dX5_removeCrashed_64 : decode cX5_removeCrashed 64 = .ok (.getfield 12, 3) := by decide +kernel
theorem dX5_removeCrashed_67 : decode cX5_removeCrashed 67 = .ok (.iload_n 1, 1) := by decide +kernel
theorem dX5_removeCrashed_68 : decode cX5_removeCrashed 68 = .ok (.invokevirtual 122, 3) := by decide +kernel
theorem dX5_removeCrashed_71 : decode cX5_removeCrashed 71 = .ok (.iload_n 2, 1) := by decide +kernel
theorem dX5_removeCrashed_72 : decode cX5_removeCrashed 72 = .ok (.ireturn, 1) := by decide +kernel
theorem dX5_renewFile_0 : decode cX5_renewFile 0 = .ok (.iconst 0, 1) := by decide +kernel
theorem dX5_renewFile_1 : decode cX5_renewFile 1 = .ok (.istore_n 2, 1) := by decide +kernel
theorem dX5_renewFile_2 : decode cX5_renewFile 2 = .ok (.aload_n 0, 1) := by decide +kernel
theorem dX5_renewFile_3 : decode cX5_renewFile 3 = .ok (.getfield 21, 3) := by decide +kernel
theorem dX5_renewFile_6 : decode cX5_renewFile 6 = .ok (.iload_n 1, 1) := by decide +kernel
theorem dX5_renewFile_7 : decode cX5_renewFile 7 = .ok (.invokevirtual 55, 3) := by decide +kernel
theorem dX5_renewFile_10 : decode cX5_renewFile 10 = .ok (.istore_n 3, 1) := by decide +kernel
theorem dX5_renewFile_11 : decode cX5_renewFile 11 = .ok (.iconst 0, 1) := by decide +kernel
theorem dX5_renewFile_12 : decode cX5_renewFile 12 = .ok (.istore 4, 2) := by decide +kernel
theorem dX5_renewFile_14 : decode cX5_renewFile 14 = .ok (.iload 4, 2) := by decide +kernel
theorem dX5_renewFile_16 : decode cX5_renewFile 16 = .ok (.iload_n 3, 1) := by decide +kernel
theorem dX5_renewFile_17 : decode cX5_renewFile 17 = .ok (.if_icmp .ge 32, 3) := by decide +kernel
theorem dX5_renewFile_20 : decode cX5_renewFile 20 = .ok (.aload_n 0, 1) := by decide +kernel
theorem dX5_renewFile_21 : decode cX5_renewFile 21 = .ok (.iload_n 1, 1) := by decide +kernel
theorem dX5_renewFile_22 : decode cX5_renewFile 22 = .ok (.iload 4, 2) := by decide +kernel
theorem dX5_renewFile_24 : decode cX5_renewFile 24 = .ok (.invokevirtual 59, 3) := by decide +kernel
theorem dX5_renewFile_27 : decode cX5_renewFile 27 = .ok (.ifCond .ne 16, 3) := by decide +kernel
theorem dX5_renewFile_30 : decode cX5_renewFile 30 = .ok (.aload_n 0, 1) := by decide +kernel
theorem dX5_renewFile_31 : decode cX5_renewFile 31 = .ok (.iload_n 1, 1) := by decide +kernel
theorem dX5_renewFile_32 : decode cX5_renewFile 32 = .ok (.iload 4, 2) := by decide +kernel
theorem dX5_renewFile_34 : decode cX5_renewFile 34 = .ok (.invokevirtual 126, 3) := by decide +kernel
theorem dX5_renewFile_37 : decode cX5_renewFile 37 = .ok (.ifCond .eq 6, 3) := by decide +kernel
theorem dX5_renewFile_40 : decode cX5_renewFile 40 = .ok (.iinc 2 1, 3) := by decide +kernel
theorem dX5_renewFile_43 : decode cX5_renewFile 43 = .ok (.iinc 4 1, 3) := by decide +kernel
theorem dX5_renewFile_46 : decode cX5_renewFile 46 = .ok (.goto (-32), 3) := by decide +kernel
theorem dX5_renewFile_49 : decode cX5_renewFile 49 = .ok (.iload_n 2, 1) := by decide +kernel
theorem dX5_renewFile_50 : decode cX5_renewFile 50 = .ok (.ireturn, 1) := by decide +kernel
theorem dX5_renew_0 : decode cX5_renew 0 = .ok (.aload_n 0, 1) := by decide +kernel
theorem dX5_renew_1 : decode cX5_renew 1 = .ok (.iload_n 1, 1) := by decide +kernel
theorem dX5_renew_2 : decode cX5_renew 2 = .ok (.iload_n 2, 1) := by decide +kernel
theorem dX5_renew_3 : decode cX5_renew 3 = .ok (.invokevirtual 109, 3) := by decide +kernel
theorem dX5_renew_6 : decode cX5_renew 6 = .ok (.aload_n 0, 1) := by decide +kernel
theorem dX5_renew_7 : decode cX5_renew 7 = .ok (.iload_n 1, 1) := by decide +kernel
theorem dX5_renew_8 : decode cX5_renew 8 = .ok (.invokevirtual 103, 3) := by decide +kernel
theorem dX5_renew_11 : decode cX5_renew 11 = .ok (.istore_n 3, 1) := by decide +kernel
theorem dX5_renew_12 : decode cX5_renew 12 = .ok (.iload_n 3, 1) := by decide +kernel
theorem dX5_renew_13 : decode cX5_renew 13 = .ok (.iconst (-1), 1) := by decide +kernel
theorem dX5_renew_14 : decode cX5_renew 14 = .ok (.if_icmp .ne 5, 3) := by decide +kernel
theorem dX5_renew_17 : decode cX5_renew 17 = .ok (.iconst 0, 1) := by decide +kernel
theorem dX5_renew_18 : decode cX5_renew 18 = .ok (.ireturn, 1) := by decide +kernel
theorem dX5_renew_19 : decode cX5_renew 19 = .ok (.aload_n 0, 1) := by decide +kernel
theorem dX5_renew_20 : decode cX5_renew 20 = .ok (.iload_n 1, 1) := by decide +kernel
theorem dX5_renew_21 : decode cX5_renew 21 = .ok (.invokevirtual 129, 3) := by decide +kernel
theorem dX5_renew_24 : decode cX5_renew 24 = .ok (.aload_n 0, 1) := by decide +kernel
theorem dX5_renew_25 : decode cX5_renew 25 = .ok (.iload_n 1, 1) := by decide +kernel
theorem dX5_renew_26 : decode cX5_renew 26 = .ok (.iload_n 2, 1) := by decide +kernel
theorem dX5_renew_27 : decode cX5_renew 27 = .ok (.iload_n 3, 1) := by decide +kernel
theorem dX5_renew_28 : decode cX5_renew 28 = .ok (.iconst 0, 1) := by decide +kernel
theorem dX5_renew_29 : decode cX5_renew 29 = .ok (.invokevirtual 106, 3) := by decide +kernel
theorem dX5_renew_32 : decode cX5_renew 32 = .ok (.iconst 1, 1) := by decide +kernel
theorem dX5_renew_33 : decode cX5_renew 33 = .ok (.ireturn, 1) := by decide +kernel
theorem dX5_oweReaders_0 : decode cX5_oweReaders 0 = .ok (.aload_n 0, 1) := by decide +kernel
theorem dX5_oweReaders_1 : decode cX5_oweReaders 1 = .ok (.getfield 21, 3) := by decide +kernel
theorem dX5_oweReaders_4 : decode cX5_oweReaders 4 = .ok (.iload_n 1, 1) := by decide +kernel
theorem dX5_oweReaders_5 : decode cX5_oweReaders 5 = .ok (.invokevirtual 55, 3) := by decide +kernel
theorem dX5_oweReaders_8 : decode cX5_oweReaders 8 = .ok (.istore_n 2, 1) := by decide +kernel
theorem dX5_oweReaders_9 : decode cX5_oweReaders 9 = .ok (.aload_n 0, 1) := by decide +kernel
theorem dX5_oweReaders_10 : decode cX5_oweReaders 10 = .ok (.getfield 21, 3) := by decide +kernel
theorem dX5_oweReaders_13 : decode cX5_oweReaders 13 = .ok (.iload_n 1, 1) := by decide +kernel
theorem dX5_oweReaders_14 : decode cX5_oweReaders 14 = .ok (.invokevirtual 66, 3) := by decide +kernel
theorem dX5_oweReaders_17 : decode cX5_oweReaders 17 = .ok (.istore_n 3, 1) := by decide +kernel
theorem dX5_oweReaders_18 : decode cX5_oweReaders 18 = .ok (.iconst 0, 1) := by decide +kernel
theorem dX5_oweReaders_19 : decode cX5_oweReaders 19 = .ok (.istore 4, 2) := by decide +kernel
theorem dX5_oweReaders_21 : decode cX5_oweReaders 21 = .ok (.iload 4, 2) := by decide +kernel
theorem dX5_oweReaders_23 : decode cX5_oweReaders 23 = .ok (.iload_n 2, 1) := by decide +kernel
theorem dX5_oweReaders_24 : decode cX5_oweReaders 24 = .ok (.if_icmp .ge 52, 3) := by decide +kernel
theorem dX5_oweReaders_27 : decode cX5_oweReaders 27 = .ok (.iload_n 3, 1) := by decide +kernel
theorem dX5_oweReaders_28 : decode cX5_oweReaders 28 = .ok (.ifCond .le 48, 3) := by decide +kernel
theorem dX5_oweReaders_31 : decode cX5_oweReaders 31 = .ok (.aload_n 0, 1) := by decide +kernel
theorem dX5_oweReaders_32 : decode cX5_oweReaders 32 = .ok (.iload_n 1, 1) := by decide +kernel
theorem dX5_oweReaders_33 : decode cX5_oweReaders 33 = .ok (.iload 4, 2) := by decide +kernel
theorem dX5_oweReaders_35 : decode cX5_oweReaders 35 = .ok (.invokevirtual 59, 3) := by decide +kernel
theorem dX5_oweReaders_38 : decode cX5_oweReaders 38 = .ok (.ifCond .eq 32, 3) := by decide +kernel
theorem dX5_oweReaders_41 : decode cX5_oweReaders 41 = .ok (.aload_n 0, 1) := by decide +kernel
theorem dX5_oweReaders_42 : decode cX5_oweReaders 42 = .ok (.getfield 12, 3) := by decide +kernel
theorem dX5_oweReaders_45 : decode cX5_oweReaders 45 = .ok (.aload_n 0, 1) := by decide +kernel
theorem dX5_oweReaders_46 : decode cX5_oweReaders 46 = .ok (.getfield 21, 3) := by decide +kernel
theorem dX5_oweReaders_49 : decode cX5_oweReaders 49 = .ok (.iload_n 1, 1) := by decide +kernel
theorem dX5_oweReaders_50 : decode cX5_oweReaders 50 = .ok (.invokevirtual 92, 3) := by decide +kernel
theorem dX5_oweReaders_53 : decode cX5_oweReaders 53 = .ok (.aload_n 0, 1) := by decide +kernel
theorem dX5_oweReaders_54 : decode cX5_oweReaders 54 = .ok (.getfield 21, 3) := by decide +kernel
theorem dX5_oweReaders_57 : decode cX5_oweReaders 57 = .ok (.iload_n 1, 1) := by decide +kernel
theorem dX5_oweReaders_58 : decode cX5_oweReaders 58 = .ok (.iload 4, 2) := by decide +kernel
theorem dX5_oweReaders_60 : decode cX5_oweReaders 60 = .ok (.invokevirtual 48, 3) := by decide +kernel
theorem dX5_oweReaders_63 : decode cX5_oweReaders 63 = .ok (.iconst 1, 1) := by decide +kernel
theorem dX5_oweReaders_64 : decode cX5_oweReaders 64 = .ok (.invokevirtual 95, 3) := by decide +kernel
theorem dX5_oweReaders_67 : decode cX5_oweReaders 67 = .ok (.iinc 3 (-1), 3) := by decide +kernel
theorem dX5_oweReaders_70 : decode cX5_oweReaders 70 = .ok (.iinc 4 1, 3) := by decide +kernel
theorem dX5_oweReaders_73 : decode cX5_oweReaders 73 = .ok (.goto (-52), 3) := by decide +kernel
theorem dX5_oweReaders_76 : decode cX5_oweReaders 76 = .ok (.return_, 1) := by decide +kernel
theorem dX5_needsPeer_0 : decode cX5_needsPeer 0 = .ok (.aload_n 0, 1) := by decide +kernel
theorem dX5_needsPeer_1 : decode cX5_needsPeer 1 = .ok (.iload_n 1, 1) := by decide +kernel
theorem dX5_needsPeer_2 : decode cX5_needsPeer 2 = .ok (.invokevirtual 72, 3) := by decide +kernel
theorem dX5_needsPeer_5 : decode cX5_needsPeer 5 = .ok (.ifCond .eq 11, 3) := by decide +kernel
theorem dX5_needsPeer_8 : decode cX5_needsPeer 8 = .ok (.aload_n 0, 1) := by decide +kernel
theorem dX5_needsPeer_9 : decode cX5_needsPeer 9 = .ok (.iload_n 1, 1) := by decide +kernel
theorem dX5_needsPeer_10 : decode cX5_needsPeer 10 = .ok (.invokevirtual 132, 3) := by decide +kernel
theorem dX5_needsPeer_13 : decode cX5_needsPeer 13 = .ok (.ifCond .le 5, 3) := by decide +kernel
theorem dX5_needsPeer_16 : decode cX5_needsPeer 16 = .ok (.iconst 0, 1) := by decide +kernel
theorem dX5_needsPeer_17 : decode cX5_needsPeer 17 = .ok (.ireturn, 1) := by decide +kernel
theorem dX5_needsPeer_18 : decode cX5_needsPeer 18 = .ok (.aload_n 0, 1) := by decide +kernel
theorem dX5_needsPeer_19 : decode cX5_needsPeer 19 = .ok (.iload_n 1, 1) := by decide +kernel
theorem dX5_needsPeer_20 : decode cX5_needsPeer 20 = .ok (.aload_n 0, 1) := by decide +kernel
theorem dX5_needsPeer_21 : decode cX5_needsPeer 21 = .ok (.getfield 21, 3) := by decide +kernel
theorem dX5_needsPeer_24 : decode cX5_needsPeer 24 = .ok (.iload_n 1, 1) := by decide +kernel
theorem dX5_needsPeer_25 : decode cX5_needsPeer 25 = .ok (.iload_n 2, 1) := by decide +kernel
theorem dX5_needsPeer_26 : decode cX5_needsPeer 26 = .ok (.invokevirtual 78, 3) := by decide +kernel
theorem dX5_needsPeer_29 : decode cX5_needsPeer 29 = .ok (.invokevirtual 59, 3) := by decide +kernel
theorem dX5_needsPeer_32 : decode cX5_needsPeer 32 = .ok (.ireturn, 1) := by decide +kernel
theorem dX5_bearsCrashes_0 : decode cX5_bearsCrashes 0 = .ok (.iconst 0, 1) := by decide +kernel
theorem dX5_bearsCrashes_1 : decode cX5_bearsCrashes 1 = .ok (.istore_n 2, 1) := by decide +kernel
theorem dX5_bearsCrashes_2 : decode cX5_bearsCrashes 2 = .ok (.iload_n 2, 1) := by decide +kernel
theorem dX5_bearsCrashes_3 : decode cX5_bearsCrashes 3 = .ok (.bipush 8, 2) := by decide +kernel
theorem dX5_bearsCrashes_5 : decode cX5_bearsCrashes 5 = .ok (.if_icmp .ge 28, 3) := by decide +kernel
theorem dX5_bearsCrashes_8 : decode cX5_bearsCrashes 8 = .ok (.aload_n 0, 1) := by decide +kernel
theorem dX5_bearsCrashes_9 : decode cX5_bearsCrashes 9 = .ok (.iload_n 2, 1) := by decide +kernel
theorem dX5_bearsCrashes_10 : decode cX5_bearsCrashes 10 = .ok (.invokevirtual 72, 3) := by decide +kernel
theorem dX5_bearsCrashes_13 : decode cX5_bearsCrashes 13 = .ok (.ifCond .eq 14, 3) := by decide +kernel
theorem dX5_bearsCrashes_16 : decode cX5_bearsCrashes 16 = .ok (.aload_n 0, 1) := by decide +kernel
theorem dX5_bearsCrashes_17 : decode cX5_bearsCrashes 17 = .ok (.iload_n 2, 1) := by decide +kernel
theorem dX5_bearsCrashes_18 : decode cX5_bearsCrashes 18 = .ok (.iload_n 1, 1) := by decide +kernel
theorem dX5_bearsCrashes_19 : decode cX5_bearsCrashes 19 = .ok (.invokevirtual 135, 3) := by decide +kernel
theorem dX5_bearsCrashes_22 : decode cX5_bearsCrashes 22 = .ok (.ifCond .eq 5, 3) := by decide +kernel
theorem dX5_bearsCrashes_25 : decode cX5_bearsCrashes 25 = .ok (.iconst 0, 1) := by decide +kernel
theorem dX5_bearsCrashes_26 : decode cX5_bearsCrashes 26 = .ok (.ireturn, 1) := by decide +kernel
theorem dX5_bearsCrashes_27 : decode cX5_bearsCrashes 27 = .ok (.iinc 2 1, 3) := by decide +kernel
theorem dX5_bearsCrashes_30 : decode cX5_bearsCrashes 30 = .ok (.goto (-28), 3) := by decide +kernel
theorem dX5_bearsCrashes_33 : decode cX5_bearsCrashes 33 = .ok (.iconst 1, 1) := by decide +kernel
theorem dX5_bearsCrashes_34 : decode cX5_bearsCrashes 34 = .ok (.ireturn, 1) := by decide +kernel
theorem dX5_canBreak_0 : decode cX5_canBreak 0 = .ok (.iload_n 2, 1) := by decide +kernel
theorem dX5_canBreak_1 : decode cX5_canBreak 1 = .ok (.aload_n 0, 1) := by decide +kernel
theorem dX5_canBreak_2 : decode cX5_canBreak 2 = .ok (.getfield 12, 3) := by decide +kernel
theorem dX5_canBreak_5 : decode cX5_canBreak 5 = .ok (.invokevirtual 138, 3) := by decide +kernel
theorem dX5_canBreak_8 : decode cX5_canBreak 8 = .ok (.if_icmp .lt 5, 3) := by decide +kernel
theorem dX5_canBreak_11 : decode cX5_canBreak 11 = .ok (.iconst 0, 1) := by decide +kernel
theorem dX5_canBreak_12 : decode cX5_canBreak 12 = .ok (.ireturn, 1) := by decide +kernel
theorem dX5_canBreak_13 : decode cX5_canBreak 13 = .ok (.aload_n 0, 1) := by decide +kernel
theorem dX5_canBreak_14 : decode cX5_canBreak 14 = .ok (.iload_n 1, 1) := by decide +kernel
theorem dX5_canBreak_15 : decode cX5_canBreak 15 = .ok (.invokevirtual 63, 3) := by decide +kernel
theorem dX5_canBreak_18 : decode cX5_canBreak 18 = .ok (.istore_n 3, 1) := by decide +kernel
theorem dX5_canBreak_19 : decode cX5_canBreak 19 = .ok (.aload_n 0, 1) := by decide +kernel
theorem dX5_canBreak_20 : decode cX5_canBreak 20 = .ok (.getfield 21, 3) := by decide +kernel
theorem dX5_canBreak_23 : decode cX5_canBreak 23 = .ok (.iload_n 1, 1) := by decide +kernel
theorem dX5_canBreak_24 : decode cX5_canBreak 24 = .ok (.aload_n 0, 1) := by decide +kernel
theorem dX5_canBreak_25 : decode cX5_canBreak 25 = .ok (.getfield 21, 3) := by decide +kernel
theorem dX5_canBreak_28 : decode cX5_canBreak 28 = .ok (.iload_n 1, 1) := by decide +kernel
theorem dX5_canBreak_29 : decode cX5_canBreak 29 = .ok (.invokevirtual 92, 3) := by decide +kernel
theorem dX5_canBreak_32 : decode cX5_canBreak 32 = .ok (.invokevirtual 78, 3) := by decide +kernel
theorem dX5_canBreak_35 : decode cX5_canBreak 35 = .ok (.istore 4, 2) := by decide +kernel
theorem dX5_canBreak_37 : decode cX5_canBreak 37 = .ok (.aload_n 0, 1) := by decide +kernel
theorem dX5_canBreak_38 : decode cX5_canBreak 38 = .ok (.iload_n 1, 1) := by decide +kernel
theorem dX5_canBreak_39 : decode cX5_canBreak 39 = .ok (.iload 4, 2) := by decide +kernel
theorem dX5_canBreak_41 : decode cX5_canBreak 41 = .ok (.invokevirtual 59, 3) := by decide +kernel
theorem dX5_canBreak_44 : decode cX5_canBreak 44 = .ok (.ifCond .eq 9, 3) := by decide +kernel
theorem dX5_canBreak_47 : decode cX5_canBreak 47 = .ok (.iload_n 3, 1) := by decide +kernel
theorem dX5_canBreak_48 : decode cX5_canBreak 48 = .ok (.iconst 1, 1) := by decide +kernel
theorem dX5_canBreak_49 : decode cX5_canBreak 49 = .ok (.isub, 1) := by decide +kernel
theorem dX5_canBreak_50 : decode cX5_canBreak 50 = .ok (.goto 4, 3) := by decide +kernel
theorem dX5_canBreak_53 : decode cX5_canBreak 53 = .ok (.iload_n 3, 1) := by decide +kernel
theorem dX5_canBreak_54 : decode cX5_canBreak 54 = .ok (.istore 5, 2) := by decide +kernel
theorem dX5_canBreak_56 : decode cX5_canBreak 56 = .ok (.iload_n 2, 1) := by decide +kernel
theorem dX5_canBreak_57 : decode cX5_canBreak 57 = .ok (.iload 5, 2) := by decide +kernel
theorem dX5_canBreak_59 : decode cX5_canBreak 59 = .ok (.invokestatic 142, 3) := by decide +kernel
theorem dX5_canBreak_62 : decode cX5_canBreak 62 = .ok (.iload_n 3, 1) := by decide +kernel
theorem dX5_canBreak_63 : decode cX5_canBreak 63 = .ok (.aload_n 0, 1) := by decide +kernel
theorem dX5_canBreak_64 : decode cX5_canBreak 64 = .ok (.getfield 21, 3) := by decide +kernel
theorem dX5_canBreak_67 : decode cX5_canBreak 67 = .ok (.iload_n 1, 1) := by decide +kernel
theorem dX5_canBreak_68 : decode cX5_canBreak 68 = .ok (.invokevirtual 66, 3) := by decide +kernel
theorem dX5_canBreak_71 : decode cX5_canBreak 71 = .ok (.isub, 1) := by decide +kernel
theorem dX5_canBreak_72 : decode cX5_canBreak 72 = .ok (.if_icmp .le 7, 3) := by decide +kernel
theorem dX5_canBreak_75 : decode cX5_canBreak 75 = .ok (.iconst 1, 1) := by decide +kernel
theorem dX5_canBreak_76 : decode cX5_canBreak 76 = .ok (.goto 4, 3) := by decide +kernel
theorem dX5_canBreak_79 : decode cX5_canBreak 79 = .ok (.iconst 0, 1) := by decide +kernel
theorem dX5_canBreak_80 : decode cX5_canBreak 80 = .ok (.ireturn, 1) := by decide +kernel
theorem dX6_init_0 : decode cX6_init 0 = .ok (.aload_n 0, 1) := by decide +kernel
theorem dX6_init_1 : decode cX6_init 1 = .ok (.invokespecial 3, 3) := by decide +kernel
theorem dX6_init_4 : decode cX6_init 4 = .ok (.aload_n 0, 1) := by decide +kernel
theorem dX6_init_5 : decode cX6_init 5 = .ok (.new 9, 3) := by decide +kernel
theorem dX6_init_8 : decode cX6_init 8 = .ok (.dup, 1) := by decide +kernel
theorem dX6_init_9 : decode cX6_init 9 = .ok (.invokespecial 11, 3) := by decide +kernel
theorem dX6_init_12 : decode cX6_init 12 = .ok (.putfield 12, 3) := by decide +kernel
theorem dX6_init_15 : decode cX6_init 15 = .ok (.aload_n 0, 1) := by decide +kernel
theorem dX6_init_16 : decode cX6_init 16 = .ok (.new 16, 3) := by decide +kernel
theorem dX6_init_19 : decode cX6_init 19 = .ok (.dup, 1) := by decide +kernel
theorem dX6_init_20 : decode cX6_init 20 = .ok (.invokespecial 18, 3) := by decide +kernel
theorem dX6_init_23 : decode cX6_init 23 = .ok (.putfield 19, 3) := by decide +kernel
theorem dX6_init_26 : decode cX6_init 26 = .ok (.aload_n 0, 1) := by decide +kernel
theorem dX6_init_27 : decode cX6_init 27 = .ok (.new 23, 3) := by decide +kernel
theorem dX6_init_30 : decode cX6_init 30 = .ok (.dup, 1) := by decide +kernel
theorem dX6_init_31 : decode cX6_init 31 = .ok (.invokespecial 25, 3) := by decide +kernel
theorem dX6_init_34 : decode cX6_init 34 = .ok (.putfield 26, 3) := by decide +kernel
theorem dX6_init_37 : decode cX6_init 37 = .ok (.aload_n 0, 1) := by decide +kernel
theorem dX6_init_38 : decode cX6_init 38 = .ok (.new 30, 3) := by decide +kernel
theorem dX6_init_41 : decode cX6_init 41 = .ok (.dup, 1) := by decide +kernel
theorem dX6_init_42 : decode cX6_init 42 = .ok (.invokespecial 32, 3) := by decide +kernel
theorem dX6_init_45 : decode cX6_init 45 = .ok (.putfield 33, 3) := by decide +kernel
theorem dX6_init_48 : decode cX6_init 48 = .ok (.aload_n 0, 1) := by decide +kernel
theorem dX6_init_49 : decode cX6_init 49 = .ok (.new 9, 3) := by decide +kernel
theorem dX6_init_52 : decode cX6_init 52 = .ok (.dup, 1) := by decide +kernel
theorem dX6_init_53 : decode cX6_init 53 = .ok (.invokespecial 11, 3) := by decide +kernel
theorem dX6_init_56 : decode cX6_init 56 = .ok (.putfield 37, 3) := by decide +kernel
theorem dX6_init_59 : decode cX6_init 59 = .ok (.aload_n 0, 1) := by decide +kernel
theorem dX6_init_60 : decode cX6_init 60 = .ok (.new 9, 3) := by decide +kernel
theorem dX6_init_63 : decode cX6_init 63 = .ok (.dup, 1) := by decide +kernel
theorem dX6_init_64 : decode cX6_init 64 = .ok (.invokespecial 11, 3) := by decide +kernel
theorem dX6_init_67 : decode cX6_init 67 = .ok (.putfield 40, 3) := by decide +kernel
theorem dX6_init_70 : decode cX6_init 70 = .ok (.return_, 1) := by decide +kernel
theorem dX6_join_0 : decode cX6_join 0 = .ok (.iload_n 1, 1) := by decide +kernel
theorem dX6_join_1 : decode cX6_join 1 = .ok (.iconst 1, 1) := by decide +kernel
theorem dX6_join_2 : decode cX6_join 2 = .ok (.if_icmp .lt 9, 3) := by decide +kernel
theorem dX6_join_5 : decode cX6_join 5 = .ok (.iload_n 1, 1) := by decide +kernel
theorem dX6_join_6 : decode cX6_join 6 = .ok (.bipush 40, 2) := by decide +kernel
theorem dX6_join_8 : decode cX6_join 8 = .ok (.if_icmp .le 7, 3) := by decide +kernel
theorem dX6_join_11 : decode cX6_join 11 = .ok (.sipush (-10001), 3) := by decide +kernel
theorem dX6_join_14 : decode cX6_join 14 = .ok (.ireturn, 1) := by decide +kernel
theorem dX6_join_15 : decode cX6_join 15 = .ok (.aload_n 0, 1) := by decide +kernel
theorem dX6_join_16 : decode cX6_join 16 = .ok (.getfield 12, 3) := by decide +kernel
theorem dX6_join_19 : decode cX6_join 19 = .ok (.getfield 43, 3) := by decide +kernel
theorem dX6_join_22 : decode cX6_join 22 = .ok (.invokevirtual 47, 3) := by decide +kernel
theorem dX6_join_25 : decode cX6_join 25 = .ok (.istore_n 2, 1) := by decide +kernel
theorem dX6_join_26 : decode cX6_join 26 = .ok (.iload_n 2, 1) := by decide +kernel
theorem dX6_join_27 : decode cX6_join 27 = .ok (.iconst (-1), 1) := by decide +kernel
theorem dX6_join_28 : decode cX6_join 28 = .ok (.if_icmp .ne 7, 3) := by decide +kernel
theorem dX6_join_31 : decode cX6_join 31 = .ok (.sipush (-10003), 3) := by decide +kernel
theorem dX6_join_34 : decode cX6_join 34 = .ok (.ireturn, 1) := by decide +kernel
theorem dX6_join_35 : decode cX6_join 35 = .ok (.aload_n 0, 1) := by decide +kernel
theorem dX6_join_36 : decode cX6_join 36 = .ok (.getfield 19, 3) := by decide +kernel
theorem dX6_join_39 : decode cX6_join 39 = .ok (.aload_n 0, 1) := by decide +kernel
theorem dX6_join_40 : decode cX6_join 40 = .ok (.getfield 12, 3) := by decide +kernel
theorem dX6_join_43 : decode cX6_join 43 = .ok (.invokevirtual 53, 3) := by decide +kernel
theorem dX6_join_46 : decode cX6_join 46 = .ok (.aload_n 0, 1) := by decide +kernel
theorem dX6_join_47 : decode cX6_join 47 = .ok (.getfield 12, 3) := by decide +kernel
theorem dX6_join_50 : decode cX6_join 50 = .ok (.getfield 43, 3) := by decide +kernel
theorem dX6_join_53 : decode cX6_join 53 = .ok (.iload_n 2, 1) := by decide +kernel
theorem dX6_join_54 : decode cX6_join 54 = .ok (.iload_n 1, 1) := by decide +kernel
theorem dX6_join_55 : decode cX6_join 55 = .ok (.invokevirtual 57, 3) := by decide +kernel
theorem dX6_join_58 : decode cX6_join 58 = .ok (.iload_n 2, 1) := by decide +kernel
theorem dX6_join_59 : decode cX6_join 59 = .ok (.ireturn, 1) := by decide +kernel
theorem dX6_leave_0 : decode cX6_leave 0 = .ok (.aload_n 0, 1) := by decide +kernel
theorem dX6_leave_1 : decode cX6_leave 1 = .ok (.getfield 12, 3) := by decide +kernel
theorem dX6_leave_4 : decode cX6_leave 4 = .ok (.getfield 43, 3) := by decide +kernel
theorem dX6_leave_7 : decode cX6_leave 7 = .ok (.iload_n 1, 1) := by decide +kernel
theorem dX6_leave_8 : decode cX6_leave 8 = .ok (.invokevirtual 61, 3) := by decide +kernel
theorem dX6_leave_11 : decode cX6_leave 11 = .ok (.ifCond .ne 7, 3) := by decide +kernel
theorem dX6_leave_14 : decode cX6_leave 14 = .ok (.sipush (-10001), 3) := by decide +kernel
theorem dX6_leave_17 : decode cX6_leave 17 = .ok (.ireturn, 1) := by decide +kernel
theorem dX6_leave_18 : decode cX6_leave 18 = .ok (.aload_n 0, 1) := by decide +kernel
theorem dX6_leave_19 : decode cX6_leave 19 = .ok (.getfield 12, 3) := by decide +kernel
theorem dX6_leave_22 : decode cX6_leave 22 = .ok (.iload_n 1, 1) := by decide +kernel
theorem dX6_leave_23 : decode cX6_leave 23 = .ok (.invokevirtual 65, 3) := by decide +kernel
theorem dX6_leave_26 : decode cX6_leave 26 = .ok (.ifCond .ne 7, 3) := by decide +kernel
theorem dX6_leave_29 : decode cX6_leave 29 = .ok (.sipush (-10002), 3) := by decide +kernel
theorem dX6_leave_32 : decode cX6_leave 32 = .ok (.ireturn, 1) := by decide +kernel
theorem dX6_leave_33 : decode cX6_leave 33 = .ok (.aload_n 0, 1) := by decide +kernel
theorem dX6_leave_34 : decode cX6_leave 34 = .ok (.getfield 19, 3) := by decide +kernel
theorem dX6_leave_37 : decode cX6_leave 37 = .ok (.aload_n 0, 1) := by decide +kernel
theorem dX6_leave_38 : decode cX6_leave 38 = .ok (.getfield 12, 3) := by decide +kernel
theorem dX6_leave_41 : decode cX6_leave 41 = .ok (.invokevirtual 53, 3) := by decide +kernel
theorem dX6_leave_44 : decode cX6_leave 44 = .ok (.aload_n 0, 1) := by decide +kernel
theorem dX6_leave_45 : decode cX6_leave 45 = .ok (.getfield 12, 3) := by decide +kernel
theorem dX6_leave_48 : decode cX6_leave 48 = .ok (.iload_n 1, 1) := by decide +kernel
theorem dX6_leave_49 : decode cX6_leave 49 = .ok (.invokevirtual 68, 3) := by decide +kernel
theorem dX6_leave_52 : decode cX6_leave 52 = .ok (.ireturn, 1) := by decide +kernel
theorem dX6_crash_0 : decode cX6_crash 0 = .ok (.aload_n 0, 1) := by decide +kernel
theorem dX6_crash_1 : decode cX6_crash 1 = .ok (.getfield 12, 3) := by decide +kernel
theorem dX6_crash_4 : decode cX6_crash 4 = .ok (.getfield 43, 3) := by decide +kernel
theorem dX6_crash_7 : decode cX6_crash 7 = .ok (.iload_n 1, 1) := by decide +kernel
theorem dX6_crash_8 : decode cX6_crash 8 = .ok (.invokevirtual 61, 3) := by decide +kernel
theorem dX6_crash_11 : decode cX6_crash 11 = .ok (.ifCond .ne 7, 3) := by decide +kernel
theorem dX6_crash_14 : decode cX6_crash 14 = .ok (.sipush (-10001), 3) := by decide +kernel
theorem dX6_crash_17 : decode cX6_crash 17 = .ok (.ireturn, 1) := by decide +kernel
theorem dX6_crash_18 : decode cX6_crash 18 = .ok (.aload_n 0, 1) := by decide +kernel
theorem dX6_crash_19 : decode cX6_crash 19 = .ok (.getfield 19, 3) := by decide +kernel
theorem dX6_crash_22 : decode cX6_crash 22 = .ok (.aload_n 0, 1) := by decide +kernel
theorem dX6_crash_23 : decode cX6_crash 23 = .ok (.getfield 12, 3) := by decide +kernel
theorem dX6_crash_26 : decode cX6_crash 26 = .ok (.invokevirtual 53, 3) := by decide +kernel
theorem dX6_crash_29 : decode cX6_crash 29 = .ok (.aload_n 0, 1) := by decide +kernel
theorem dX6_crash_30 : decode cX6_crash 30 = .ok (.getfield 12, 3) := by decide +kernel
theorem dX6_crash_33 : decode cX6_crash 33 = .ok (.iload_n 1, 1) := by decide +kernel
theorem dX6_crash_34 : decode cX6_crash 34 = .ok (.invokevirtual 72, 3) := by decide +kernel
theorem dX6_crash_37 : decode cX6_crash 37 = .ok (.ireturn, 1) := by decide +kernel
theorem dX6_setOnline_0 : decode cX6_setOnline 0 = .ok (.aload_n 0, 1) := by decide +kernel
theorem dX6_setOnline_1 : decode cX6_setOnline 1 = .ok (.getfield 12, 3) := by decide +kernel
theorem dX6_setOnline_4 : decode cX6_setOnline 4 = .ok (.getfield 43, 3) := by decide +kernel
theorem dX6_setOnline_7 : decode cX6_setOnline 7 = .ok (.iload_n 1, 1) := by decide +kernel
theorem dX6_setOnline_8 : decode cX6_setOnline 8 = .ok (.invokevirtual 61, 3) := by decide +kernel
theorem dX6_setOnline_11 : decode cX6_setOnline 11 = .ok (.ifCond .eq 12, 3) := by decide +kernel
theorem dX6_setOnline_14 : decode cX6_setOnline 14 = .ok (.iload_n 2, 1) := by decide +kernel
theorem dX6_setOnline_15 : decode cX6_setOnline 15 = .ok (.ifCond .lt 8, 3) := by decide +kernel
theorem dX6_setOnline_18 : decode cX6_setOnline 18 = .ok (.iload_n 2, 1) := by decide +kernel
theorem dX6_setOnline_19 : decode cX6_setOnline 19 = .ok (.iconst 1, 1) := by decide +kernel
theorem dX6_setOnline_20 : decode cX6_setOnline 20 = .ok (.if_icmp .le 7, 3) := by decide +kernel
theorem dX6_setOnline_23 : decode cX6_setOnline 23 = .ok (.sipush (-10001), 3) := by decide +kernel
theorem dX6_setOnline_26 : decode cX6_setOnline 26 = .ok (.ireturn, 1) := by decide +kernel
theorem dX6_setOnline_27 : decode cX6_setOnline 27 = .ok (.aload_n 0, 1) := by decide +kernel
theorem dX6_setOnline_28 : decode cX6_setOnline 28 = .ok (.getfield 19, 3) := by decide +kernel
theorem dX6_setOnline_31 : decode cX6_setOnline 31 = .ok (.aload_n 0, 1) := by decide +kernel
theorem dX6_setOnline_32 : decode cX6_setOnline 32 = .ok (.getfield 12, 3) := by decide +kernel
theorem dX6_setOnline_35 : decode cX6_setOnline 35 = .ok (.invokevirtual 53, 3) := by decide +kernel
theorem dX6_setOnline_38 : decode cX6_setOnline 38 = .ok (.aload_n 0, 1) := by decide +kernel
theorem dX6_setOnline_39 : decode cX6_setOnline 39 = .ok (.getfield 12, 3) := by decide +kernel
theorem dX6_setOnline_42 : decode cX6_setOnline 42 = .ok (.getfield 43, 3) := by decide +kernel
theorem dX6_setOnline_45 : decode cX6_setOnline 45 = .ok (.getfield 75, 3) := by decide +kernel
theorem dX6_setOnline_48 : decode cX6_setOnline 48 = .ok (.iload_n 1, 1) := by decide +kernel
theorem dX6_setOnline_49 : decode cX6_setOnline 49 = .ok (.iaload, 1) := by decide +kernel
theorem dX6_setOnline_50 : decode cX6_setOnline 50 = .ok (.istore_n 3, 1) := by decide +kernel
theorem dX6_setOnline_51 : decode cX6_setOnline 51 = .ok (.aload_n 0, 1) := by decide +kernel
theorem dX6_setOnline_52 : decode cX6_setOnline 52 = .ok (.getfield 12, 3) := by decide +kernel
theorem dX6_setOnline_55 : decode cX6_setOnline 55 = .ok (.getfield 43, 3) := by decide +kernel
theorem dX6_setOnline_58 : decode cX6_setOnline 58 = .ok (.getfield 75, 3) := by decide +kernel
theorem dX6_setOnline_61 : decode cX6_setOnline 61 = .ok (.iload_n 1, 1) := by decide +kernel
theorem dX6_setOnline_62 : decode cX6_setOnline 62 = .ok (.iload_n 2, 1) := by decide +kernel
theorem dX6_setOnline_63 : decode cX6_setOnline 63 = .ok (.iastore, 1) := by decide +kernel
theorem dX6_setOnline_64 : decode cX6_setOnline 64 = .ok (.iload_n 3, 1) := by decide +kernel
theorem dX6_setOnline_65 : decode cX6_setOnline 65 = .ok (.ireturn, 1) := by decide +kernel
theorem dX6_pay_0 : decode cX6_pay 0 = .ok (.aload_n 0, 1) := by decide +kernel
theorem dX6_pay_1 : decode cX6_pay 1 = .ok (.getfield 12, 3) := by decide +kernel
theorem dX6_pay_4 : decode cX6_pay 4 = .ok (.getfield 43, 3) := by decide +kernel
theorem dX6_pay_7 : decode cX6_pay 7 = .ok (.iload_n 1, 1) := by decide +kernel
theorem dX6_pay_8 : decode cX6_pay 8 = .ok (.iload_n 2, 1) := by decide +kernel
theorem dX6_pay_9 : decode cX6_pay 9 = .ok (.invokevirtual 79, 3) := by decide +kernel
theorem dX6_pay_12 : decode cX6_pay 12 = .ok (.ifCond .eq 15, 3) := by decide +kernel
theorem dX6_pay_15 : decode cX6_pay 15 = .ok (.iload_n 3, 1) := by decide +kernel
theorem dX6_pay_16 : decode cX6_pay 16 = .ok (.iconst 1, 1) := by decide +kernel
theorem dX6_pay_17 : decode cX6_pay 17 = .ok (.if_icmp .lt 10, 3) := by decide +kernel
theorem dX6_pay_20 : decode cX6_pay 20 = .ok (.iload_n 3, 1) := by decide +kernel
theorem dX6_pay_21 : decode cX6_pay 21 = .ok (.sipush 1000, 3) := by decide +kernel
theorem dX6_pay_24 : decode cX6_pay 24 = .ok (.if_icmp .le 7, 3) := by decide +kernel
theorem dX6_pay_27 : decode cX6_pay 27 = .ok (.sipush (-10001), 3) := by decide +kernel
theorem dX6_pay_30 : decode cX6_pay 30 = .ok (.ireturn, 1) := by decide +kernel
theorem dX6_pay_31 : decode cX6_pay 31 = .ok (.aload_n 0, 1) := by decide +kernel
theorem dX6_pay_32 : decode cX6_pay 32 = .ok (.getfield 12, 3) := by decide +kernel
theorem dX6_pay_35 : decode cX6_pay 35 = .ok (.getfield 43, 3) := by decide +kernel
theorem dX6_pay_38 : decode cX6_pay 38 = .ok (.iload_n 1, 1) := by decide +kernel
theorem dX6_pay_39 : decode cX6_pay 39 = .ok (.iload_n 2, 1) := by decide +kernel
theorem dX6_pay_40 : decode cX6_pay 40 = .ok (.invokevirtual 83, 3) := by decide +kernel
theorem dX6_pay_43 : decode cX6_pay 43 = .ok (.iload_n 3, 1) := by decide +kernel
theorem dX6_pay_44 : decode cX6_pay 44 = .ok (.if_icmp .ge 7, 3) := by decide +kernel
theorem dX6_pay_47 : decode cX6_pay 47 = .ok (.sipush (-10002), 3) := by decide +kernel
theorem dX6_pay_50 : decode cX6_pay 50 = .ok (.ireturn, 1) := by decide +kernel
theorem dX6_pay_51 : decode cX6_pay 51 = .ok (.aload_n 0, 1) := by decide +kernel
theorem dX6_pay_52 : decode cX6_pay 52 = .ok (.getfield 19, 3) := by decide +kernel
theorem dX6_pay_55 : decode cX6_pay 55 = .ok (.aload_n 0, 1) := by decide +kernel
theorem dX6_pay_56 : decode cX6_pay 56 = .ok (.getfield 12, 3) := by decide +kernel
theorem dX6_pay_59 : decode cX6_pay 59 = .ok (.invokevirtual 53, 3) := by decide +kernel
theorem dX6_pay_62 : decode cX6_pay 62 = .ok (.aload_n 0, 1) := by decide +kernel
theorem dX6_pay_63 : decode cX6_pay 63 = .ok (.getfield 12, 3) := by decide +kernel
theorem dX6_pay_66 : decode cX6_pay 66 = .ok (.getfield 43, 3) := by decide +kernel
theorem dX6_pay_69 : decode cX6_pay 69 = .ok (.iload_n 1, 1) := by decide +kernel
theorem dX6_pay_70 : decode cX6_pay 70 = .ok (.iload_n 2, 1) := by decide +kernel
theorem dX6_pay_71 : decode cX6_pay 71 = .ok (.iload_n 3, 1) := by decide +kernel
theorem dX6_pay_72 : decode cX6_pay 72 = .ok (.ineg, 1) := by decide +kernel
theorem dX6_pay_73 : decode cX6_pay 73 = .ok (.invokevirtual 87, 3) := by decide +kernel
theorem dX6_pay_76 : decode cX6_pay 76 = .ok (.aload_n 0, 1) := by decide +kernel
theorem dX6_pay_77 : decode cX6_pay 77 = .ok (.getfield 12, 3) := by decide +kernel
theorem dX6_pay_80 : decode cX6_pay 80 = .ok (.getfield 43, 3) := by decide +kernel
theorem dX6_pay_83 : decode cX6_pay 83 = .ok (.iload_n 1, 1) := by decide +kernel
theorem dX6_pay_84 : decode cX6_pay 84 = .ok (.iload_n 2, 1) := by decide +kernel
theorem dX6_pay_85 : decode cX6_pay 85 = .ok (.invokevirtual 83, 3) := by decide +kernel
theorem dX6_pay_88 : decode cX6_pay 88 = .ok (.ireturn, 1) := by decide +kernel
theorem dX6_peerInfo_0 : decode cX6_peerInfo 0 = .ok (.aload_n 0, 1) := by decide +kernel
theorem dX6_peerInfo_1 : decode cX6_peerInfo 1 = .ok (.getfield 12, 3) := by decide +kernel
theorem dX6_peerInfo_4 : decode cX6_peerInfo 4 = .ok (.getfield 43, 3) := by decide +kernel
theorem dX6_peerInfo_7 : decode cX6_peerInfo 7 = .ok (.iload_n 1, 1) := by decide +kernel
theorem dX6_peerInfo_8 : decode cX6_peerInfo 8 = .ok (.invokevirtual 61, 3) := by decide +kernel
theorem dX6_peerInfo_11 : decode cX6_peerInfo 11 = .ok (.ifCond .ne 7, 3) := by decide +kernel
theorem dX6_peerInfo_14 : decode cX6_peerInfo 14 = .ok (.sipush (-10001), 3) := by decide +kernel
theorem dX6_peerInfo_17 : decode cX6_peerInfo 17 = .ok (.ireturn, 1) := by decide +kernel
theorem dX6_peerInfo_18 : decode cX6_peerInfo 18 = .ok (.iload_n 2, 1) := by decide +kernel
theorem dX6_peerInfo_19 : decode cX6_peerInfo 19 = .ok (.tableswitch 112 0 5 #[37, 50, 62, 75, 88, 100], 37) := by decide +kernel
theorem dX6_peerInfo_56 : decode cX6_peerInfo 56 = .ok (.aload_n 0, 1) := by decide +kernel
theorem dX6_peerInfo_57 : decode cX6_peerInfo 57 = .ok (.getfield 12, 3) := by decide +kernel
theorem dX6_peerInfo_60 : decode cX6_peerInfo 60 = .ok (.getfield 43, 3) := by decide +kernel
theorem dX6_peerInfo_63 : decode cX6_peerInfo 63 = .ok (.getfield 91, 3) := by decide +kernel
theorem dX6_peerInfo_66 : decode cX6_peerInfo 66 = .ok (.iload_n 1, 1) := by decide +kernel
theorem dX6_peerInfo_67 : decode cX6_peerInfo 67 = .ok (.iaload, 1) := by decide +kernel
theorem dX6_peerInfo_68 : decode cX6_peerInfo 68 = .ok (.ireturn, 1) := by decide +kernel
theorem dX6_peerInfo_69 : decode cX6_peerInfo 69 = .ok (.aload_n 0, 1) := by decide +kernel
theorem dX6_peerInfo_70 : decode cX6_peerInfo 70 = .ok (.getfield 12, 3) := by decide +kernel
theorem dX6_peerInfo_73 : decode cX6_peerInfo 73 = .ok (.getfield 43, 3) := by decide +kernel
theorem dX6_peerInfo_76 : decode cX6_peerInfo 76 = .ok (.iload_n 1, 1) := by decide +kernel
theorem dX6_peerInfo_77 : decode cX6_peerInfo 77 = .ok (.invokevirtual 94, 3) := by decide +kernel
theorem dX6_peerInfo_80 : decode cX6_peerInfo 80 = .ok (.ireturn, 1) := by decide +kernel
theorem dX6_peerInfo_81 : decode cX6_peerInfo 81 = .ok (.aload_n 0, 1) := by decide +kernel
theorem dX6_peerInfo_82 : decode cX6_peerInfo 82 = .ok (.getfield 12, 3) := by decide +kernel
theorem dX6_peerInfo_85 : decode cX6_peerInfo 85 = .ok (.getfield 43, 3) := by decide +kernel
theorem dX6_peerInfo_88 : decode cX6_peerInfo 88 = .ok (.getfield 75, 3) := by decide +kernel
theorem dX6_peerInfo_91 : decode cX6_peerInfo 91 = .ok (.iload_n 1, 1) := by decide +kernel
theorem dX6_peerInfo_92 : decode cX6_peerInfo 92 = .ok (.iaload, 1) := by decide +kernel
theorem dX6_peerInfo_93 : decode cX6_peerInfo 93 = .ok (.ireturn, 1) := by decide +kernel
theorem dX6_peerInfo_94 : decode cX6_peerInfo 94 = .ok (.aload_n 0, 1) := by decide +kernel
theorem dX6_peerInfo_95 : decode cX6_peerInfo 95 = .ok (.getfield 12, 3) := by decide +kernel
theorem dX6_peerInfo_98 : decode cX6_peerInfo 98 = .ok (.getfield 43, 3) := by decide +kernel
theorem dX6_peerInfo_101 : decode cX6_peerInfo 101 = .ok (.getfield 97, 3) := by decide +kernel
theorem dX6_peerInfo_104 : decode cX6_peerInfo 104 = .ok (.iload_n 1, 1) := by decide +kernel
theorem dX6_peerInfo_105 : decode cX6_peerInfo 105 = .ok (.iaload, 1) := by decide +kernel
theorem dX6_peerInfo_106 : decode cX6_peerInfo 106 = .ok (.ireturn, 1) := by decide +kernel
theorem dX6_peerInfo_107 : decode cX6_peerInfo 107 = .ok (.aload_n 0, 1) := by decide +kernel
theorem dX6_peerInfo_108 : decode cX6_peerInfo 108 = .ok (.getfield 12, 3) := by decide +kernel
theorem dX6_peerInfo_111 : decode cX6_peerInfo 111 = .ok (.getfield 100, 3) := by decide +kernel
theorem dX6_peerInfo_114 : decode cX6_peerInfo 114 = .ok (.iload_n 1, 1) := by decide +kernel
theorem dX6_peerInfo_115 : decode cX6_peerInfo 115 = .ok (.invokevirtual 104, 3) := by decide +kernel
theorem dX6_peerInfo_118 : decode cX6_peerInfo 118 = .ok (.ireturn, 1) := by decide +kernel
theorem dX6_peerInfo_119 : decode cX6_peerInfo 119 = .ok (.aload_n 0, 1) := by decide +kernel
theorem dX6_peerInfo_120 : decode cX6_peerInfo 120 = .ok (.getfield 12, 3) := by decide +kernel
theorem dX6_peerInfo_123 : decode cX6_peerInfo 123 = .ok (.getfield 43, 3) := by decide +kernel
theorem dX6_peerInfo_126 : decode cX6_peerInfo 126 = .ok (.iload_n 1, 1) := by decide +kernel
theorem dX6_peerInfo_127 : decode cX6_peerInfo 127 = .ok (.invokevirtual 109, 3) := by decide +kernel
theorem dX6_peerInfo_130 : decode cX6_peerInfo 130 = .ok (.ireturn, 1) := by decide +kernel
theorem dX6_peerInfo_131 : decode cX6_peerInfo 131 = .ok (.sipush (-10001), 3) := by decide +kernel
theorem dX6_peerInfo_134 : decode cX6_peerInfo 134 = .ok (.ireturn, 1) := by decide +kernel
theorem dX6_balance_0 : decode cX6_balance 0 = .ok (.aload_n 0, 1) := by decide +kernel
theorem dX6_balance_1 : decode cX6_balance 1 = .ok (.getfield 12, 3) := by decide +kernel
theorem dX6_balance_4 : decode cX6_balance 4 = .ok (.getfield 43, 3) := by decide +kernel
theorem dX6_balance_7 : decode cX6_balance 7 = .ok (.iload_n 1, 1) := by decide +kernel
theorem dX6_balance_8 : decode cX6_balance 8 = .ok (.iload_n 2, 1) := by decide +kernel
theorem dX6_balance_9 : decode cX6_balance 9 = .ok (.invokevirtual 79, 3) := by decide +kernel
theorem dX6_balance_12 : decode cX6_balance 12 = .ok (.ifCond .ne 7, 3) := by decide +kernel
theorem dX6_balance_15 : decode cX6_balance 15 = .ok (.sipush (-10001), 3) := by decide +kernel
theorem dX6_balance_18 : decode cX6_balance 18 = .ok (.ireturn, 1) := by decide +kernel
theorem dX6_balance_19 : decode cX6_balance 19 = .ok (.aload_n 0, 1) := by decide +kernel
theorem dX6_balance_20 : decode cX6_balance 20 = .ok (.getfield 12, 3) := by decide +kernel
theorem dX6_balance_23 : decode cX6_balance 23 = .ok (.getfield 43, 3) := by decide +kernel
theorem dX6_balance_26 : decode cX6_balance 26 = .ok (.iload_n 1, 1) := by decide +kernel
theorem dX6_balance_27 : decode cX6_balance 27 = .ok (.iload_n 2, 1) := by decide +kernel
theorem dX6_balance_28 : decode cX6_balance 28 = .ok (.invokevirtual 83, 3) := by decide +kernel
theorem dX6_balance_31 : decode cX6_balance 31 = .ok (.ireturn, 1) := by decide +kernel
theorem dX6_word_0 : decode cX6_word 0 = .ok (.iload_n 1, 1) := by decide +kernel
theorem dX6_word_1 : decode cX6_word 1 = .ok (.ifCond .lt 10, 3) := by decide +kernel
theorem dX6_word_4 : decode cX6_word 4 = .ok (.iload_n 1, 1) := by decide +kernel
theorem dX6_word_5 : decode cX6_word 5 = .ok (.sipush 255, 3) := by decide +kernel
theorem dX6_word_8 : decode cX6_word 8 = .ok (.if_icmp .le 7, 3) := by decide +kernel
theorem dX6_word_11 : decode cX6_word 11 = .ok (.sipush (-10001), 3) := by decide +kernel
theorem dX6_word_14 : decode cX6_word 14 = .ok (.ireturn, 1) := by decide +kernel
theorem dX6_word_15 : decode cX6_word 15 = .ok (.aload_n 0, 1) := by decide +kernel
theorem dX6_word_16 : decode cX6_word 16 = .ok (.getfield 12, 3) := by decide +kernel
theorem dX6_word_19 : decode cX6_word 19 = .ok (.getfield 112, 3) := by decide +kernel
theorem dX6_word_22 : decode cX6_word 22 = .ok (.bipush 6, 2) := by decide +kernel
theorem dX6_word_24 : decode cX6_word 24 = .ok (.if_icmp .lt 7, 3) := by decide +kernel
theorem dX6_word_27 : decode cX6_word 27 = .ok (.sipush (-10003), 3) := by decide +kernel
theorem dX6_word_30 : decode cX6_word 30 = .ok (.ireturn, 1) := by decide +kernel
theorem dX6_word_31 : decode cX6_word 31 = .ok (.aload_n 0, 1) := by decide +kernel
theorem dX6_word_32 : decode cX6_word 32 = .ok (.getfield 12, 3) := by decide +kernel
theorem dX6_word_35 : decode cX6_word 35 = .ok (.iload_n 1, 1) := by decide +kernel
theorem dX6_word_36 : decode cX6_word 36 = .ok (.invokevirtual 116, 3) := by decide +kernel
theorem dX6_word_39 : decode cX6_word 39 = .ok (.ireturn, 1) := by decide +kernel
theorem dX6_store_0 : decode cX6_store 0 = .ok (.aload_n 0, 1) := by decide +kernel
theorem dX6_store_1 : decode cX6_store 1 = .ok (.getfield 12, 3) := by decide +kernel
theorem dX6_store_4 : decode cX6_store 4 = .ok (.getfield 43, 3) := by decide +kernel
theorem dX6_store_7 : decode cX6_store 7 = .ok (.iload_n 1, 1) := by decide +kernel
theorem dX6_store_8 : decode cX6_store 8 = .ok (.invokevirtual 61, 3) := by decide +kernel
theorem dX6_store_11 : decode cX6_store 11 = .ok (.ifCond .eq 12, 3) := by decide +kernel
theorem dX6_store_14 : decode cX6_store 14 = .ok (.iload_n 2, 1) := by decide +kernel
theorem dX6_store_15 : decode cX6_store 15 = .ok (.ifCond .lt 8, 3) := by decide +kernel
theorem dX6_store_18 : decode cX6_store 18 = .ok (.iload_n 2, 1) := by decide +kernel
theorem dX6_store_19 : decode cX6_store 19 = .ok (.iconst 4, 1) := by decide +kernel
theorem dX6_store_20 : decode cX6_store 20 = .ok (.if_icmp .le 7, 3) := by decide +kernel
theorem dX6_store_23 : decode cX6_store 23 = .ok (.sipush (-10001), 3) := by decide +kernel
theorem dX6_store_26 : decode cX6_store 26 = .ok (.ireturn, 1) := by decide +kernel
theorem dX6_store_27 : decode cX6_store 27 = .ok (.aload_n 0, 1) := by decide +kernel
theorem dX6_store_28 : decode cX6_store 28 = .ok (.getfield 12, 3) := by decide +kernel
theorem dX6_store_31 : decode cX6_store 31 = .ok (.getfield 112, 3) := by decide +kernel
theorem dX6_store_34 : decode cX6_store 34 = .ok (.ifCond .eq 17, 3) := by decide +kernel
theorem dX6_store_37 : decode cX6_store 37 = .ok (.aload_n 0, 1) := by decide +kernel
theorem dX6_store_38 : decode cX6_store 38 = .ok (.getfield 12, 3) := by decide +kernel
theorem dX6_store_41 : decode cX6_store 41 = .ok (.getfield 43, 3) := by decide +kernel
theorem dX6_store_44 : decode cX6_store 44 = .ok (.iload_n 1, 1) := by decide +kernel
theorem dX6_store_45 : decode cX6_store 45 = .ok (.invokevirtual 119, 3) := by decide +kernel
theorem dX6_store_48 : decode cX6_store 48 = .ok (.ifCond .ne 7, 3) := by decide +kernel
theorem dX6_store_51 : decode cX6_store 51 = .ok (.sipush (-10002), 3) := by decide +kernel
theorem dX6_store_54 : decode cX6_store 54 = .ok (.ireturn, 1) := by decide +kernel
theorem dX6_store_55 : decode cX6_store 55 = .ok (.aload_n 0, 1) := by decide +kernel
theorem dX6_store_56 : decode cX6_store 56 = .ok (.getfield 12, 3) := by decide +kernel
theorem dX6_store_59 : decode cX6_store 59 = .ok (.getfield 100, 3) := by decide +kernel
theorem dX6_store_62 : decode cX6_store 62 = .ok (.invokevirtual 122, 3) := by decide +kernel
theorem dX6_store_65 : decode cX6_store 65 = .ok (.istore_n 3, 1) := by decide +kernel
theorem dX6_store_66 : decode cX6_store 66 = .ok (.iload_n 3, 1) := by decide +kernel
theorem dX6_store_67 : decode cX6_store 67 = .ok (.iconst (-1), 1) := by decide +kernel
theorem dX6_store_68 : decode cX6_store 68 = .ok (.if_icmp .ne 7, 3) := by decide +kernel
theorem dX6_store_71 : decode cX6_store 71 = .ok (.sipush (-10003), 3) := by decide +kernel
theorem dX6_store_74 : decode cX6_store 74 = .ok (.ireturn, 1) := by decide +kernel
theorem dX6_store_75 : decode cX6_store 75 = .ok (.aload_n 0, 1) := by decide +kernel
theorem dX6_store_76 : decode cX6_store 76 = .ok (.getfield 19, 3) := by decide +kernel
theorem dX6_store_79 : decode cX6_store 79 = .ok (.aload_n 0, 1) := by decide +kernel
theorem dX6_store_80 : decode cX6_store 80 = .ok (.getfield 12, 3) := by decide +kernel
theorem dX6_store_83 : decode cX6_store 83 = .ok (.invokevirtual 53, 3) := by decide +kernel
theorem dX6_store_86 : decode cX6_store 86 = .ok (.aload_n 0, 1) := by decide +kernel
theorem dX6_store_87 : decode cX6_store 87 = .ok (.getfield 12, 3) := by decide +kernel
theorem dX6_store_90 : decode cX6_store 90 = .ok (.iload_n 3, 1) := by decide +kernel
theorem dX6_store_91 : decode cX6_store 91 = .ok (.iload_n 1, 1) := by decide +kernel
theorem dX6_store_92 : decode cX6_store 92 = .ok (.iload_n 2, 1) := by decide +kernel
theorem dX6_store_93 : decode cX6_store 93 = .ok (.invokevirtual 123, 3) := by decide +kernel
theorem dX6_store_96 : decode cX6_store 96 = .ok (.iload_n 3, 1) := by decide +kernel
theorem dX6_store_97 : decode cX6_store 97 = .ok (.ireturn, 1) := by decide +kernel
theorem dX6_delete_0 : decode cX6_delete 0 = .ok (.aload_n 0, 1) := by decide +kernel
theorem dX6_delete_1 : decode cX6_delete 1 = .ok (.getfield 12, 3) := by decide +kernel
theorem dX6_delete_4 : decode cX6_delete 4 = .ok (.getfield 100, 3) := by decide +kernel
theorem dX6_delete_7 : decode cX6_delete 7 = .ok (.iload_n 1, 1) := by decide +kernel
theorem dX6_delete_8 : decode cX6_delete 8 = .ok (.invokevirtual 126, 3) := by decide +kernel
theorem dX6_delete_11 : decode cX6_delete 11 = .ok (.ifCond .ne 7, 3) := by decide +kernel
theorem dX6_delete_14 : decode cX6_delete 14 = .ok (.sipush (-10001), 3) := by decide +kernel
theorem dX6_delete_17 : decode cX6_delete 17 = .ok (.ireturn, 1) := by decide +kernel
theorem dX6_delete_18 : decode cX6_delete 18 = .ok (.aload_n 0, 1) := by decide +kernel
theorem dX6_delete_19 : decode cX6_delete 19 = .ok (.getfield 19, 3) := by decide +kernel
theorem dX6_delete_22 : decode cX6_delete 22 = .ok (.aload_n 0, 1) := by decide +kernel
theorem dX6_delete_23 : decode cX6_delete 23 = .ok (.getfield 12, 3) := by decide +kernel
theorem dX6_delete_26 : decode cX6_delete 26 = .ok (.invokevirtual 53, 3) := by decide +kernel
theorem dX6_delete_29 : decode cX6_delete 29 = .ok (.aload_n 0, 1) := by decide +kernel
theorem dX6_delete_30 : decode cX6_delete 30 = .ok (.getfield 12, 3) := by decide +kernel
theorem dX6_delete_33 : decode cX6_delete 33 = .ok (.iload_n 1, 1) := by decide +kernel
theorem dX6_delete_34 : decode cX6_delete 34 = .ok (.invokevirtual 127, 3) := by decide +kernel
theorem dX6_delete_37 : decode cX6_delete 37 = .ok (.aload_n 0, 1) := by decide +kernel
theorem dX6_delete_38 : decode cX6_delete 38 = .ok (.getfield 12, 3) := by decide +kernel
theorem dX6_delete_41 : decode cX6_delete 41 = .ok (.getfield 100, 3) := by decide +kernel
theorem dX6_delete_44 : decode cX6_delete 44 = .ok (.invokevirtual 131, 3) := by decide +kernel
theorem dX6_delete_47 : decode cX6_delete 47 = .ok (.ireturn, 1) := by decide +kernel
theorem dX6_fileInfo_0 : decode cX6_fileInfo 0 = .ok (.aload_n 0, 1) := by decide +kernel
theorem dX6_fileInfo_1 : decode cX6_fileInfo 1 = .ok (.getfield 12, 3) := by decide +kernel
theorem dX6_fileInfo_4 : decode cX6_fileInfo 4 = .ok (.getfield 100, 3) := by decide +kernel
theorem dX6_fileInfo_7 : decode cX6_fileInfo 7 = .ok (.iload_n 1, 1) := by decide +kernel
theorem dX6_fileInfo_8 : decode cX6_fileInfo 8 = .ok (.invokevirtual 126, 3) := by decide +kernel
theorem dX6_fileInfo_11 : decode cX6_fileInfo 11 = .ok (.ifCond .ne 7, 3) := by decide +kernel
theorem dX6_fileInfo_14 : decode cX6_fileInfo 14 = .ok (.sipush (-10001), 3) := by decide +kernel
theorem dX6_fileInfo_17 : decode cX6_fileInfo 17 = .ok (.ireturn, 1) := by decide +kernel
theorem dX6_fileInfo_18 : decode cX6_fileInfo 18 = .ok (.iload_n 2, 1) := by decide +kernel
theorem dX6_fileInfo_19 : decode cX6_fileInfo 19 = .ok (.tableswitch 126 0 6 #[41, 54, 66, 79, 91, 100, 117], 41) := by decide +kernel
theorem dX6_fileInfo_60 : decode cX6_fileInfo 60 = .ok (.aload_n 0, 1) := by decide +kernel
theorem dX6_fileInfo_61 : decode cX6_fileInfo 61 = .ok (.getfield 12, 3) := by decide +kernel
theorem dX6_fileInfo_64 : decode cX6_fileInfo 64 = .ok (.getfield 100, 3) := by decide +kernel
theorem dX6_fileInfo_67 : decode cX6_fileInfo 67 = .ok (.getfield 134, 3) := by decide +kernel
theorem dX6_fileInfo_70 : decode cX6_fileInfo 70 = .ok (.iload_n 1, 1) := by decide +kernel
theorem dX6_fileInfo_71 : decode cX6_fileInfo 71 = .ok (.iaload, 1) := by decide +kernel
theorem dX6_fileInfo_72 : decode cX6_fileInfo 72 = .ok (.ireturn, 1) := by decide +kernel
theorem dX6_fileInfo_73 : decode cX6_fileInfo 73 = .ok (.aload_n 0, 1) := by decide +kernel
theorem dX6_fileInfo_74 : decode cX6_fileInfo 74 = .ok (.getfield 12, 3) := by decide +kernel
theorem dX6_fileInfo_77 : decode cX6_fileInfo 77 = .ok (.getfield 100, 3) := by decide +kernel
theorem dX6_fileInfo_80 : decode cX6_fileInfo 80 = .ok (.iload_n 1, 1) := by decide +kernel
theorem dX6_fileInfo_81 : decode cX6_fileInfo 81 = .ok (.invokevirtual 137, 3) := by decide +kernel
theorem dX6_fileInfo_84 : decode cX6_fileInfo 84 = .ok (.ireturn, 1) := by decide +kernel
theorem dX6_fileInfo_85 : decode cX6_fileInfo 85 = .ok (.aload_n 0, 1) := by decide +kernel
theorem dX6_fileInfo_86 : decode cX6_fileInfo 86 = .ok (.getfield 12, 3) := by decide +kernel
theorem dX6_fileInfo_89 : decode cX6_fileInfo 89 = .ok (.getfield 100, 3) := by decide +kernel
theorem dX6_fileInfo_92 : decode cX6_fileInfo 92 = .ok (.getfield 140, 3) := by decide +kernel
theorem dX6_fileInfo_95 : decode cX6_fileInfo 95 = .ok (.iload_n 1, 1) := by decide +kernel
theorem dX6_fileInfo_96 : decode cX6_fileInfo 96 = .ok (.iaload, 1) := by decide +kernel
theorem dX6_fileInfo_97 : decode cX6_fileInfo 97 = .ok (.ireturn, 1) := by decide +kernel
theorem dX6_fileInfo_98 : decode cX6_fileInfo 98 = .ok (.aload_n 0, 1) := by decide +kernel
theorem dX6_fileInfo_99 : decode cX6_fileInfo 99 = .ok (.getfield 12, 3) := by decide +kernel
theorem dX6_fileInfo_102 : decode cX6_fileInfo 102 = .ok (.getfield 100, 3) := by decide +kernel
theorem dX6_fileInfo_105 : decode cX6_fileInfo 105 = .ok (.iload_n 1, 1) := by decide +kernel
theorem dX6_fileInfo_106 : decode cX6_fileInfo 106 = .ok (.invokevirtual 143, 3) := by decide +kernel
theorem dX6_fileInfo_109 : decode cX6_fileInfo 109 = .ok (.ireturn, 1) := by decide +kernel
theorem dX6_fileInfo_110 : decode cX6_fileInfo 110 = .ok (.aload_n 0, 1) := by decide +kernel
theorem dX6_fileInfo_111 : decode cX6_fileInfo 111 = .ok (.getfield 12, 3) := by decide +kernel
theorem dX6_fileInfo_114 : decode cX6_fileInfo 114 = .ok (.iload_n 1, 1) := by decide +kernel
theorem dX6_fileInfo_115 : decode cX6_fileInfo 115 = .ok (.invokevirtual 146, 3) := by decide +kernel
theorem dX6_fileInfo_118 : decode cX6_fileInfo 118 = .ok (.ireturn, 1) := by decide +kernel
theorem dX6_fileInfo_119 : decode cX6_fileInfo 119 = .ok (.aload_n 0, 1) := by decide +kernel
theorem dX6_fileInfo_120 : decode cX6_fileInfo 120 = .ok (.getfield 12, 3) := by decide +kernel
theorem dX6_fileInfo_123 : decode cX6_fileInfo 123 = .ok (.iload_n 1, 1) := by decide +kernel
theorem dX6_fileInfo_124 : decode cX6_fileInfo 124 = .ok (.invokevirtual 149, 3) := by decide +kernel
theorem dX6_fileInfo_127 : decode cX6_fileInfo 127 = .ok (.ifCond .eq 7, 3) := by decide +kernel
theorem dX6_fileInfo_130 : decode cX6_fileInfo 130 = .ok (.iconst 1, 1) := by decide +kernel
theorem dX6_fileInfo_131 : decode cX6_fileInfo 131 = .ok (.goto 4, 3) := by decide +kernel
theorem dX6_fileInfo_134 : decode cX6_fileInfo 134 = .ok (.iconst 0, 1) := by decide +kernel
theorem dX6_fileInfo_135 : decode cX6_fileInfo 135 = .ok (.ireturn, 1) := by decide +kernel
theorem dX6_fileInfo_136 : decode cX6_fileInfo 136 = .ok (.aload_n 0, 1) := by decide +kernel
theorem dX6_fileInfo_137 : decode cX6_fileInfo 137 = .ok (.getfield 12, 3) := by decide +kernel
theorem dX6_fileInfo_140 : decode cX6_fileInfo 140 = .ok (.iload_n 1, 1) := by decide +kernel
theorem dX6_fileInfo_141 : decode cX6_fileInfo 141 = .ok (.invokevirtual 152, 3) := by decide +kernel
theorem dX6_fileInfo_144 : decode cX6_fileInfo 144 = .ok (.ireturn, 1) := by decide +kernel
theorem dX6_fileInfo_145 : decode cX6_fileInfo 145 = .ok (.sipush (-10001), 3) := by decide +kernel
theorem dX6_fileInfo_148 : decode cX6_fileInfo 148 = .ok (.ireturn, 1) := by decide +kernel
theorem dX6_fragment_0 : decode cX6_fragment 0 = .ok (.aload_n 0, 1) := by decide +kernel
theorem dX6_fragment_1 : decode cX6_fragment 1 = .ok (.getfield 12, 3) := by decide +kernel
theorem dX6_fragment_4 : decode cX6_fragment 4 = .ok (.getfield 100, 3) := by decide +kernel
theorem dX6_fragment_7 : decode cX6_fragment 7 = .ok (.iload_n 1, 1) := by decide +kernel
theorem dX6_fragment_8 : decode cX6_fragment 8 = .ok (.iload_n 2, 1) := by decide +kernel
theorem dX6_fragment_9 : decode cX6_fragment 9 = .ok (.invokevirtual 155, 3) := by decide +kernel
theorem dX6_fragment_12 : decode cX6_fragment 12 = .ok (.ifCond .eq 12, 3) := by decide +kernel
theorem dX6_fragment_15 : decode cX6_fragment 15 = .ok (.iload_n 3, 1) := by decide +kernel
theorem dX6_fragment_16 : decode cX6_fragment 16 = .ok (.ifCond .lt 8, 3) := by decide +kernel
theorem dX6_fragment_19 : decode cX6_fragment 19 = .ok (.iload_n 3, 1) := by decide +kernel
theorem dX6_fragment_20 : decode cX6_fragment 20 = .ok (.iconst 1, 1) := by decide +kernel
theorem dX6_fragment_21 : decode cX6_fragment 21 = .ok (.if_icmp .le 7, 3) := by decide +kernel
theorem dX6_fragment_24 : decode cX6_fragment 24 = .ok (.sipush (-10001), 3) := by decide +kernel
theorem dX6_fragment_27 : decode cX6_fragment 27 = .ok (.ireturn, 1) := by decide +kernel
theorem dX6_fragment_28 : decode cX6_fragment 28 = .ok (.aload_n 0, 1) := by decide +kernel
theorem dX6_fragment_29 : decode cX6_fragment 29 = .ok (.getfield 12, 3) := by decide +kernel
theorem dX6_fragment_32 : decode cX6_fragment 32 = .ok (.getfield 100, 3) := by decide +kernel
theorem dX6_fragment_35 : decode cX6_fragment 35 = .ok (.iload_n 1, 1) := by decide +kernel
theorem dX6_fragment_36 : decode cX6_fragment 36 = .ok (.iload_n 2, 1) := by decide +kernel
theorem dX6_fragment_37 : decode cX6_fragment 37 = .ok (.invokevirtual 158, 3) := by decide +kernel
theorem dX6_fragment_40 : decode cX6_fragment 40 = .ok (.istore 4, 2) := by decide +kernel
theorem dX6_fragment_42 : decode cX6_fragment 42 = .ok (.iload 4, 2) := by decide +kernel
theorem dX6_fragment_44 : decode cX6_fragment 44 = .ok (.iconst (-1), 1) := by decide +kernel
theorem dX6_fragment_45 : decode cX6_fragment 45 = .ok (.if_icmp .ne 7, 3) := by decide +kernel
theorem dX6_fragment_48 : decode cX6_fragment 48 = .ok (.sipush (-10004), 3) := by decide +kernel
theorem dX6_fragment_51 : decode cX6_fragment 51 = .ok (.ireturn, 1) := by decide +kernel
theorem dX6_fragment_52 : decode cX6_fragment 52 = .ok (.iload_n 3, 1) := by decide +kernel
theorem dX6_fragment_53 : decode cX6_fragment 53 = .ok (.ifCond .ne 8, 3) := by decide +kernel
theorem dX6_fragment_56 : decode cX6_fragment 56 = .ok (.iload 4, 2) := by decide +kernel
theorem dX6_fragment_58 : decode cX6_fragment 58 = .ok (.goto 15, 3) := by decide +kernel
theorem dX6_fragment_61 : decode cX6_fragment 61 = .ok (.aload_n 0, 1) := by decide +kernel
theorem dX6_fragment_62 : decode cX6_fragment 62 = .ok (.getfield 12, 3) := by decide +kernel
theorem dX6_fragment_65 : decode cX6_fragment 65 = .ok (.getfield 100, 3) := by decide +kernel
theorem dX6_fragment_68 : decode cX6_fragment 68 = .ok (.iload_n 1, 1) := by decide +kernel
theorem dX6_fragment_69 : decode cX6_fragment 69 = .ok (.iload_n 2, 1) := by decide +kernel
theorem dX6_fragment_70 : decode cX6_fragment 70 = .ok (.invokevirtual 161, 3) := by decide +kernel
theorem dX6_fragment_73 : decode cX6_fragment 73 = .ok (.ireturn, 1) := by decide +kernel
theorem dX6_read_0 : decode cX6_read 0 = .ok (.aload_n 0, 1) := by decide +kernel
theorem dX6_read_1 : decode cX6_read 1 = .ok (.getfield 12, 3) := by decide +kernel
theorem dX6_read_4 : decode cX6_read 4 = .ok (.getfield 100, 3) := by decide +kernel
theorem dX6_read_7 : decode cX6_read 7 = .ok (.iload_n 1, 1) := by decide +kernel
theorem dX6_read_8 : decode cX6_read 8 = .ok (.iload_n 2, 1) := by decide +kernel
theorem dX6_read_9 : decode cX6_read 9 = .ok (.invokevirtual 164, 3) := by decide +kernel
theorem dX6_read_12 : decode cX6_read 12 = .ok (.ifCond .ne 7, 3) := by decide +kernel
theorem dX6_read_15 : decode cX6_read 15 = .ok (.sipush (-10001), 3) := by decide +kernel
theorem dX6_read_18 : decode cX6_read 18 = .ok (.ireturn, 1) := by decide +kernel
theorem dX6_read_19 : decode cX6_read 19 = .ok (.aload_n 0, 1) := by decide +kernel
theorem dX6_read_20 : decode cX6_read 20 = .ok (.getfield 12, 3) := by decide +kernel
theorem dX6_read_23 : decode cX6_read 23 = .ok (.iload_n 1, 1) := by decide +kernel
theorem dX6_read_24 : decode cX6_read 24 = .ok (.invokevirtual 149, 3) := by decide +kernel
theorem dX6_read_27 : decode cX6_read 27 = .ok (.ifCond .ne 19, 3) := by decide +kernel
theorem dX6_read_30 : decode cX6_read 30 = .ok (.aload_n 0, 1) := by decide +kernel
theorem dX6_read_31 : decode cX6_read 31 = .ok (.getfield 12, 3) := by decide +kernel
theorem dX6_read_34 : decode cX6_read 34 = .ok (.iload_n 1, 1) := by decide +kernel
theorem dX6_read_35 : decode cX6_read 35 = .ok (.iload_n 2, 1) := by decide +kernel
theorem dX6_read_36 : decode cX6_read 36 = .ok (.invokevirtual 167, 3) := by decide +kernel
theorem dX6_read_39 : decode cX6_read 39 = .ok (.ifCond .ne 7, 3) := by decide +kernel
theorem dX6_read_42 : decode cX6_read 42 = .ok (.sipush (-10002), 3) := by decide +kernel
theorem dX6_read_45 : decode cX6_read 45 = .ok (.ireturn, 1) := by decide +kernel
theorem dX6_read_46 : decode cX6_read 46 = .ok (.aload_n 0, 1) := by decide +kernel
theorem dX6_read_47 : decode cX6_read 47 = .ok (.getfield 12, 3) := by decide +kernel
theorem dX6_read_50 : decode cX6_read 50 = .ok (.getfield 100, 3) := by decide +kernel
theorem dX6_read_53 : decode cX6_read 53 = .ok (.iload_n 1, 1) := by decide +kernel
theorem dX6_read_54 : decode cX6_read 54 = .ok (.iload_n 2, 1) := by decide +kernel
theorem dX6_read_55 : decode cX6_read 55 = .ok (.invokevirtual 170, 3) := by decide +kernel
theorem dX6_read_58 : decode cX6_read 58 = .ok (.ireturn, 1) := by decide +kernel
theorem dX6_decode_0 : decode cX6_decode 0 = .ok (.aload_n 0, 1) := by decide +kernel
theorem dX6_decode_1 : decode cX6_decode 1 = .ok (.getfield 12, 3) := by decide +kernel
theorem dX6_decode_4 : decode cX6_decode 4 = .ok (.getfield 100, 3) := by decide +kernel
theorem dX6_decode_7 : decode cX6_decode 7 = .ok (.iload_n 1, 1) := by decide +kernel
theorem dX6_decode_8 : decode cX6_decode 8 = .ok (.iload_n 3, 1) := by decide +kernel
theorem dX6_decode_9 : decode cX6_decode 9 = .ok (.invokevirtual 164, 3) := by decide +kernel
theorem dX6_decode_12 : decode cX6_decode 12 = .ok (.ifCond .eq 18, 3) := by decide +kernel
theorem dX6_decode_15 : decode cX6_decode 15 = .ok (.aload_n 0, 1) := by decide +kernel
theorem dX6_decode_16 : decode cX6_decode 16 = .ok (.getfield 12, 3) := by decide +kernel
theorem dX6_decode_19 : decode cX6_decode 19 = .ok (.getfield 100, 3) := by decide +kernel
theorem dX6_decode_22 : decode cX6_decode 22 = .ok (.iload_n 1, 1) := by decide +kernel
theorem dX6_decode_23 : decode cX6_decode 23 = .ok (.iload_n 2, 1) := by decide +kernel
theorem dX6_decode_24 : decode cX6_decode 24 = .ok (.invokevirtual 173, 3) := by decide +kernel
theorem dX6_decode_27 : decode cX6_decode 27 = .ok (.ifCond .ne 7, 3) := by decide +kernel
theorem dX6_decode_30 : decode cX6_decode 30 = .ok (.sipush (-10001), 3) := by decide +kernel
theorem dX6_decode_33 : decode cX6_decode 33 = .ok (.ireturn, 1) := by decide +kernel
theorem dX6_decode_34 : decode cX6_decode 34 = .ok (.aload_n 0, 1) := by decide +kernel
theorem dX6_decode_35 : decode cX6_decode 35 = .ok (.getfield 12, 3) := by decide +kernel
theorem dX6_decode_38 : decode cX6_decode 38 = .ok (.getfield 100, 3) := by decide +kernel
theorem dX6_decode_41 : decode cX6_decode 41 = .ok (.iload_n 1, 1) := by decide +kernel
theorem dX6_decode_42 : decode cX6_decode 42 = .ok (.iload_n 2, 1) := by decide +kernel
theorem dX6_decode_43 : decode cX6_decode 43 = .ok (.invokevirtual 176, 3) := by decide +kernel
theorem dX6_decode_46 : decode cX6_decode 46 = .ok (.ifCond .ne 7, 3) := by decide +kernel
theorem dX6_decode_49 : decode cX6_decode 49 = .ok (.sipush (-10004), 3) := by decide +kernel
theorem dX6_decode_52 : decode cX6_decode 52 = .ok (.ireturn, 1) := by decide +kernel
theorem dX6_decode_53 : decode cX6_decode 53 = .ok (.aload_n 0, 1) := by decide +kernel
theorem dX6_decode_54 : decode cX6_decode 54 = .ok (.getfield 33, 3) := by decide +kernel
theorem dX6_decode_57 : decode cX6_decode 57 = .ok (.aload_n 0, 1) := by decide +kernel
theorem dX6_decode_58 : decode cX6_decode 58 = .ok (.getfield 12, 3) := by decide +kernel
theorem dX6_decode_61 : decode cX6_decode 61 = .ok (.getfield 100, 3) := by decide +kernel
theorem dX6_decode_64 : decode cX6_decode 64 = .ok (.iload_n 1, 1) := by decide +kernel
theorem dX6_decode_65 : decode cX6_decode 65 = .ok (.iload_n 2, 1) := by decide +kernel
theorem dX6_decode_66 : decode cX6_decode 66 = .ok (.iload_n 3, 1) := by decide +kernel
theorem dX6_decode_67 : decode cX6_decode 67 = .ok (.invokevirtual 179, 3) := by decide +kernel
theorem dX6_decode_70 : decode cX6_decode 70 = .ok (.ireturn, 1) := by decide +kernel
theorem dX6_spoil_0 : decode cX6_spoil 0 = .ok (.aload_n 0, 1) := by decide +kernel
theorem dX6_spoil_1 : decode cX6_spoil 1 = .ok (.getfield 12, 3) := by decide +kernel
theorem dX6_spoil_4 : decode cX6_spoil 4 = .ok (.getfield 100, 3) := by decide +kernel
theorem dX6_spoil_7 : decode cX6_spoil 7 = .ok (.iload_n 1, 1) := by decide +kernel
theorem dX6_spoil_8 : decode cX6_spoil 8 = .ok (.iload_n 2, 1) := by decide +kernel
theorem dX6_spoil_9 : decode cX6_spoil 9 = .ok (.invokevirtual 155, 3) := by decide +kernel
theorem dX6_spoil_12 : decode cX6_spoil 12 = .ok (.ifCond .eq 15, 3) := by decide +kernel
theorem dX6_spoil_15 : decode cX6_spoil 15 = .ok (.iload_n 3, 1) := by decide +kernel
theorem dX6_spoil_16 : decode cX6_spoil 16 = .ok (.iconst 1, 1) := by decide +kernel
theorem dX6_spoil_17 : decode cX6_spoil 17 = .ok (.if_icmp .lt 10, 3) := by decide +kernel
theorem dX6_spoil_20 : decode cX6_spoil 20 = .ok (.iload_n 3, 1) := by decide +kernel
theorem dX6_spoil_21 : decode cX6_spoil 21 = .ok (.sipush 257, 3) := by decide +kernel
theorem dX6_spoil_24 : decode cX6_spoil 24 = .ok (.if_icmp .lt 7, 3) := by decide +kernel
theorem dX6_spoil_27 : decode cX6_spoil 27 = .ok (.sipush (-10001), 3) := by decide +kernel
theorem dX6_spoil_30 : decode cX6_spoil 30 = .ok (.ireturn, 1) := by decide +kernel
theorem dX6_spoil_31 : decode cX6_spoil 31 = .ok (.aload_n 0, 1) := by decide +kernel
theorem dX6_spoil_32 : decode cX6_spoil 32 = .ok (.getfield 12, 3) := by decide +kernel
theorem dX6_spoil_35 : decode cX6_spoil 35 = .ok (.getfield 100, 3) := by decide +kernel
theorem dX6_spoil_38 : decode cX6_spoil 38 = .ok (.iload_n 1, 1) := by decide +kernel
theorem dX6_spoil_39 : decode cX6_spoil 39 = .ok (.iload_n 2, 1) := by decide +kernel
theorem dX6_spoil_40 : decode cX6_spoil 40 = .ok (.invokevirtual 158, 3) := by decide +kernel
theorem dX6_spoil_43 : decode cX6_spoil 43 = .ok (.iconst (-1), 1) := by decide +kernel
theorem dX6_spoil_44 : decode cX6_spoil 44 = .ok (.if_icmp .ne 7, 3) := by decide +kernel
theorem dX6_spoil_47 : decode cX6_spoil 47 = .ok (.sipush (-10002), 3) := by decide +kernel
theorem dX6_spoil_50 : decode cX6_spoil 50 = .ok (.ireturn, 1) := by decide +kernel
theorem dX6_spoil_51 : decode cX6_spoil 51 = .ok (.aload_n 0, 1) := by decide +kernel
theorem dX6_spoil_52 : decode cX6_spoil 52 = .ok (.getfield 19, 3) := by decide +kernel
theorem dX6_spoil_55 : decode cX6_spoil 55 = .ok (.aload_n 0, 1) := by decide +kernel
theorem dX6_spoil_56 : decode cX6_spoil 56 = .ok (.getfield 12, 3) := by decide +kernel
theorem dX6_spoil_59 : decode cX6_spoil 59 = .ok (.invokevirtual 53, 3) := by decide +kernel
theorem dX6_spoil_62 : decode cX6_spoil 62 = .ok (.aload_n 0, 1) := by decide +kernel
theorem dX6_spoil_63 : decode cX6_spoil 63 = .ok (.getfield 12, 3) := by decide +kernel
theorem dX6_spoil_66 : decode cX6_spoil 66 = .ok (.getfield 100, 3) := by decide +kernel
theorem dX6_spoil_69 : decode cX6_spoil 69 = .ok (.iload_n 1, 1) := by decide +kernel
theorem dX6_spoil_70 : decode cX6_spoil 70 = .ok (.iload_n 2, 1) := by decide +kernel
theorem dX6_spoil_71 : decode cX6_spoil 71 = .ok (.iload_n 3, 1) := by decide +kernel
theorem dX6_spoil_72 : decode cX6_spoil 72 = .ok (.invokevirtual 183, 3) := by decide +kernel
theorem dX6_spoil_75 : decode cX6_spoil 75 = .ok (.aload_n 0, 1) := by decide +kernel
theorem dX6_spoil_76 : decode cX6_spoil 76 = .ok (.getfield 12, 3) := by decide +kernel
theorem dX6_spoil_79 : decode cX6_spoil 79 = .ok (.getfield 100, 3) := by decide +kernel
theorem dX6_spoil_82 : decode cX6_spoil 82 = .ok (.iload_n 1, 1) := by decide +kernel
theorem dX6_spoil_83 : decode cX6_spoil 83 = .ok (.iload_n 2, 1) := by decide +kernel
theorem dX6_spoil_84 : decode cX6_spoil 84 = .ok (.invokevirtual 186, 3) := by decide +kernel
theorem dX6_spoil_87 : decode cX6_spoil 87 = .ok (.ifCond .ne 7, 3) := by decide +kernel
theorem dX6_spoil_90 : decode cX6_spoil 90 = .ok (.iconst 0, 1) := by decide +kernel
theorem dX6_spoil_91 : decode cX6_spoil 91 = .ok (.goto 4, 3) := by decide +kernel
theorem dX6_spoil_94 : decode cX6_spoil 94 = .ok (.iconst 1, 1) := by decide +kernel
theorem dX6_spoil_95 : decode cX6_spoil 95 = .ok (.ireturn, 1) := by decide +kernel
theorem dX6_audit_0 : decode cX6_audit 0 = .ok (.aload_n 0, 1) := by decide +kernel
theorem dX6_audit_1 : decode cX6_audit 1 = .ok (.getfield 12, 3) := by decide +kernel
theorem dX6_audit_4 : decode cX6_audit 4 = .ok (.getfield 43, 3) := by decide +kernel
theorem dX6_audit_7 : decode cX6_audit 7 = .ok (.iload_n 1, 1) := by decide +kernel
theorem dX6_audit_8 : decode cX6_audit 8 = .ok (.iload_n 2, 1) := by decide +kernel
theorem dX6_audit_9 : decode cX6_audit 9 = .ok (.invokevirtual 79, 3) := by decide +kernel
theorem dX6_audit_12 : decode cX6_audit 12 = .ok (.ifCond .eq 14, 3) := by decide +kernel
theorem dX6_audit_15 : decode cX6_audit 15 = .ok (.iload_n 3, 1) := by decide +kernel
theorem dX6_audit_16 : decode cX6_audit 16 = .ok (.ifCond .lt 10, 3) := by decide +kernel
theorem dX6_audit_19 : decode cX6_audit 19 = .ok (.iload_n 3, 1) := by decide +kernel
theorem dX6_audit_20 : decode cX6_audit 20 = .ok (.sipush 257, 3) := by decide +kernel
theorem dX6_audit_23 : decode cX6_audit 23 = .ok (.if_icmp .lt 7, 3) := by decide +kernel
theorem dX6_audit_26 : decode cX6_audit 26 = .ok (.sipush (-10001), 3) := by decide +kernel
theorem dX6_audit_29 : decode cX6_audit 29 = .ok (.ireturn, 1) := by decide +kernel
theorem dX6_audit_30 : decode cX6_audit 30 = .ok (.aload_n 0, 1) := by decide +kernel
theorem dX6_audit_31 : decode cX6_audit 31 = .ok (.getfield 12, 3) := by decide +kernel
theorem dX6_audit_34 : decode cX6_audit 34 = .ok (.getfield 43, 3) := by decide +kernel
theorem dX6_audit_37 : decode cX6_audit 37 = .ok (.iload_n 1, 1) := by decide +kernel
theorem dX6_audit_38 : decode cX6_audit 38 = .ok (.invokevirtual 119, 3) := by decide +kernel
theorem dX6_audit_41 : decode cX6_audit 41 = .ok (.ifCond .eq 17, 3) := by decide +kernel
theorem dX6_audit_44 : decode cX6_audit 44 = .ok (.aload_n 0, 1) := by decide +kernel
theorem dX6_audit_45 : decode cX6_audit 45 = .ok (.getfield 12, 3) := by decide +kernel
theorem dX6_audit_48 : decode cX6_audit 48 = .ok (.getfield 43, 3) := by decide +kernel
theorem dX6_audit_51 : decode cX6_audit 51 = .ok (.iload_n 2, 1) := by decide +kernel
theorem dX6_audit_52 : decode cX6_audit 52 = .ok (.invokevirtual 119, 3) := by decide +kernel
theorem dX6_audit_55 : decode cX6_audit 55 = .ok (.ifCond .ne 7, 3) := by decide +kernel
theorem dX6_audit_58 : decode cX6_audit 58 = .ok (.sipush (-10002), 3) := by decide +kernel
theorem dX6_audit_61 : decode cX6_audit 61 = .ok (.ireturn, 1) := by decide +kernel
theorem dX6_audit_62 : decode cX6_audit 62 = .ok (.aload_n 0, 1) := by decide +kernel
theorem dX6_audit_63 : decode cX6_audit 63 = .ok (.getfield 19, 3) := by decide +kernel
theorem dX6_audit_66 : decode cX6_audit 66 = .ok (.aload_n 0, 1) := by decide +kernel
theorem dX6_audit_67 : decode cX6_audit 67 = .ok (.getfield 12, 3) := by decide +kernel
theorem dX6_audit_70 : decode cX6_audit 70 = .ok (.invokevirtual 53, 3) := by decide +kernel
theorem dX6_audit_73 : decode cX6_audit 73 = .ok (.aload_n 0, 1) := by decide +kernel
theorem dX6_audit_74 : decode cX6_audit 74 = .ok (.getfield 26, 3) := by decide +kernel
theorem dX6_audit_77 : decode cX6_audit 77 = .ok (.aload_n 0, 1) := by decide +kernel
theorem dX6_audit_78 : decode cX6_audit 78 = .ok (.getfield 12, 3) := by decide +kernel
theorem dX6_audit_81 : decode cX6_audit 81 = .ok (.getfield 100, 3) := by decide +kernel
theorem dX6_audit_84 : decode cX6_audit 84 = .ok (.iload_n 1, 1) := by decide +kernel
theorem dX6_audit_85 : decode cX6_audit 85 = .ok (.iload_n 2, 1) := by decide +kernel
theorem dX6_audit_86 : decode cX6_audit 86 = .ok (.invokevirtual 189, 3) := by decide +kernel
theorem dX6_audit_89 : decode cX6_audit 89 = .ok (.aload_n 0, 1) := by decide +kernel
theorem dX6_audit_90 : decode cX6_audit 90 = .ok (.getfield 26, 3) := by decide +kernel
theorem dX6_audit_93 : decode cX6_audit 93 = .ok (.iload_n 3, 1) := by decide +kernel
theorem dX6_audit_94 : decode cX6_audit 94 = .ok (.invokevirtual 193, 3) := by decide +kernel
theorem dX6_audit_97 : decode cX6_audit 97 = .ok (.istore 4, 2) := by decide +kernel
theorem dX6_audit_99 : decode cX6_audit 99 = .ok (.iload 4, 2) := by decide +kernel
theorem dX6_audit_101 : decode cX6_audit 101 = .ok (.ifCond .ne 17, 3) := by decide +kernel
theorem dX6_audit_104 : decode cX6_audit 104 = .ok (.aload_n 0, 1) := by decide +kernel
theorem dX6_audit_105 : decode cX6_audit 105 = .ok (.getfield 12, 3) := by decide +kernel
theorem dX6_audit_108 : decode cX6_audit 108 = .ok (.getfield 43, 3) := by decide +kernel
theorem dX6_audit_111 : decode cX6_audit 111 = .ok (.iload_n 2, 1) := by decide +kernel
theorem dX6_audit_112 : decode cX6_audit 112 = .ok (.invokevirtual 196, 3) := by decide +kernel
theorem dX6_audit_115 : decode cX6_audit 115 = .ok (.goto 24, 3) := by decide +kernel
theorem dX6_audit_118 : decode cX6_audit 118 = .ok (.aload_n 0, 1) := by decide +kernel
theorem dX6_audit_119 : decode cX6_audit 119 = .ok (.getfield 26, 3) := by decide +kernel
theorem dX6_audit_122 : decode cX6_audit 122 = .ok (.getfield 199, 3) := by decide +kernel
theorem dX6_audit_125 : decode cX6_audit 125 = .ok (.ifCond .le 14, 3) := by decide +kernel
theorem dX6_audit_128 : decode cX6_audit 128 = .ok (.aload_n 0, 1) := by decide +kernel
theorem dX6_audit_129 : decode cX6_audit 129 = .ok (.getfield 12, 3) := by decide +kernel
theorem dX6_audit_132 : decode cX6_audit 132 = .ok (.getfield 43, 3) := by decide +kernel
theorem dX6_audit_135 : decode cX6_audit 135 = .ok (.iload_n 2, 1) := by decide +kernel
theorem dX6_audit_136 : decode cX6_audit 136 = .ok (.invokevirtual 201, 3) := by decide +kernel
theorem dX6_audit_139 : decode cX6_audit 139 = .ok (.iload 4, 2) := by decide +kernel
theorem dX6_audit_141 : decode cX6_audit 141 = .ok (.ifCond .eq 7, 3) := by decide +kernel
theorem dX6_audit_144 : decode cX6_audit 144 = .ok (.iconst 1, 1) := by decide +kernel
theorem dX6_audit_145 : decode cX6_audit 145 = .ok (.goto 4, 3) := by decide +kernel
theorem dX6_audit_148 : decode cX6_audit 148 = .ok (.iconst 0, 1) := by decide +kernel
theorem dX6_audit_149 : decode cX6_audit 149 = .ok (.ireturn, 1) := by decide +kernel
theorem dX6_passingSeeds_0 : decode cX6_passingSeeds 0 = .ok (.aload_n 0, 1) := by decide +kernel
theorem dX6_passingSeeds_1 : decode cX6_passingSeeds 1 = .ok (.getfield 12, 3) := by decide +kernel
theorem dX6_passingSeeds_4 : decode cX6_passingSeeds 4 = .ok (.getfield 43, 3) := by decide +kernel
theorem dX6_passingSeeds_7 : decode cX6_passingSeeds 7 = .ok (.iload_n 1, 1) := by decide +kernel
theorem dX6_passingSeeds_8 : decode cX6_passingSeeds 8 = .ok (.iload_n 2, 1) := by decide +kernel
theorem dX6_passingSeeds_9 : decode cX6_passingSeeds 9 = .ok (.invokevirtual 79, 3) := by decide +kernel
theorem dX6_passingSeeds_12 : decode cX6_passingSeeds 12 = .ok (.ifCond .ne 7, 3) := by decide +kernel
theorem dX6_passingSeeds_15 : decode cX6_passingSeeds 15 = .ok (.sipush (-10001), 3) := by decide +kernel
theorem dX6_passingSeeds_18 : decode cX6_passingSeeds 18 = .ok (.ireturn, 1) := by decide +kernel
theorem dX6_passingSeeds_19 : decode cX6_passingSeeds 19 = .ok (.aload_n 0, 1) := by decide +kernel
theorem dX6_passingSeeds_20 : decode cX6_passingSeeds 20 = .ok (.getfield 26, 3) := by decide +kernel
theorem dX6_passingSeeds_23 : decode cX6_passingSeeds 23 = .ok (.aload_n 0, 1) := by decide +kernel
theorem dX6_passingSeeds_24 : decode cX6_passingSeeds 24 = .ok (.getfield 12, 3) := by decide +kernel
theorem dX6_passingSeeds_27 : decode cX6_passingSeeds 27 = .ok (.getfield 100, 3) := by decide +kernel
theorem dX6_passingSeeds_30 : decode cX6_passingSeeds 30 = .ok (.iload_n 1, 1) := by decide +kernel
theorem dX6_passingSeeds_31 : decode cX6_passingSeeds 31 = .ok (.iload_n 2, 1) := by decide +kernel
theorem dX6_passingSeeds_32 : decode cX6_passingSeeds 32 = .ok (.invokevirtual 189, 3) := by decide +kernel
theorem dX6_passingSeeds_35 : decode cX6_passingSeeds 35 = .ok (.iconst 0, 1) := by decide +kernel
theorem dX6_passingSeeds_36 : decode cX6_passingSeeds 36 = .ok (.istore_n 3, 1) := by decide +kernel
theorem dX6_passingSeeds_37 : decode cX6_passingSeeds 37 = .ok (.iconst 0, 1) := by decide +kernel
theorem dX6_passingSeeds_38 : decode cX6_passingSeeds 38 = .ok (.istore 4, 2) := by decide +kernel
theorem dX6_passingSeeds_40 : decode cX6_passingSeeds 40 = .ok (.iload 4, 2) := by decide +kernel
theorem dX6_passingSeeds_42 : decode cX6_passingSeeds 42 = .ok (.sipush 257, 3) := by decide +kernel
theorem dX6_passingSeeds_45 : decode cX6_passingSeeds 45 = .ok (.if_icmp .ge 24, 3) := by decide +kernel
theorem dX6_passingSeeds_48 : decode cX6_passingSeeds 48 = .ok (.aload_n 0, 1) := by decide +kernel
theorem dX6_passingSeeds_49 : decode cX6_passingSeeds 49 = .ok (.getfield 26, 3) := by decide +kernel
theorem dX6_passingSeeds_52 : decode cX6_passingSeeds 52 = .ok (.iload 4, 2) := by decide +kernel
theorem dX6_passingSeeds_54 : decode cX6_passingSeeds 54 = .ok (.invokevirtual 193, 3) := by decide +kernel
theorem dX6_passingSeeds_57 : decode cX6_passingSeeds 57 = .ok (.ifCond .eq 6, 3) := by decide +kernel
theorem dX6_passingSeeds_60 : decode cX6_passingSeeds 60 = .ok (.iinc 3 1, 3) := by decide +kernel
theorem dX6_passingSeeds_63 : decode cX6_passingSeeds 63 = .ok (.iinc 4 1, 3) := by decide +kernel
theorem dX6_passingSeeds_66 : decode cX6_passingSeeds 66 = .ok (.goto (-26), 3) := by decide +kernel
theorem dX6_passingSeeds_69 : decode cX6_passingSeeds 69 = .ok (.iload_n 3, 1) := by decide +kernel
theorem dX6_passingSeeds_70 : decode cX6_passingSeeds 70 = .ok (.ireturn, 1) := by decide +kernel
theorem dX6_repair_0 : decode cX6_repair 0 = .ok (.aload_n 0, 1) := by decide +kernel
theorem dX6_repair_1 : decode cX6_repair 1 = .ok (.getfield 12, 3) := by decide +kernel
theorem dX6_repair_4 : decode cX6_repair 4 = .ok (.getfield 100, 3) := by decide +kernel
theorem dX6_repair_7 : decode cX6_repair 7 = .ok (.iload_n 1, 1) := by decide +kernel
theorem dX6_repair_8 : decode cX6_repair 8 = .ok (.invokevirtual 126, 3) := by decide +kernel
theorem dX6_repair_11 : decode cX6_repair 11 = .ok (.ifCond .ne 7, 3) := by decide +kernel
theorem dX6_repair_14 : decode cX6_repair 14 = .ok (.sipush (-10001), 3) := by decide +kernel
theorem dX6_repair_17 : decode cX6_repair 17 = .ok (.ireturn, 1) := by decide +kernel
theorem dX6_repair_18 : decode cX6_repair 18 = .ok (.aload_n 0, 1) := by decide +kernel
theorem dX6_repair_19 : decode cX6_repair 19 = .ok (.getfield 12, 3) := by decide +kernel
theorem dX6_repair_22 : decode cX6_repair 22 = .ok (.iload_n 1, 1) := by decide +kernel
theorem dX6_repair_23 : decode cX6_repair 23 = .ok (.invokevirtual 149, 3) := by decide +kernel
theorem dX6_repair_26 : decode cX6_repair 26 = .ok (.ifCond .ne 7, 3) := by decide +kernel
theorem dX6_repair_29 : decode cX6_repair 29 = .ok (.sipush (-10002), 3) := by decide +kernel
theorem dX6_repair_32 : decode cX6_repair 32 = .ok (.ireturn, 1) := by decide +kernel
theorem dX6_repair_33 : decode cX6_repair 33 = .ok (.aload_n 0, 1) := by decide +kernel
theorem dX6_repair_34 : decode cX6_repair 34 = .ok (.getfield 19, 3) := by decide +kernel
theorem dX6_repair_37 : decode cX6_repair 37 = .ok (.aload_n 0, 1) := by decide +kernel
theorem dX6_repair_38 : decode cX6_repair 38 = .ok (.getfield 12, 3) := by decide +kernel
theorem dX6_repair_41 : decode cX6_repair 41 = .ok (.invokevirtual 53, 3) := by decide +kernel
theorem dX6_repair_44 : decode cX6_repair 44 = .ok (.aload_n 0, 1) := by decide +kernel
theorem dX6_repair_45 : decode cX6_repair 45 = .ok (.getfield 12, 3) := by decide +kernel
theorem dX6_repair_48 : decode cX6_repair 48 = .ok (.iload_n 1, 1) := by decide +kernel
theorem dX6_repair_49 : decode cX6_repair 49 = .ok (.invokevirtual 204, 3) := by decide +kernel
theorem dX6_repair_52 : decode cX6_repair 52 = .ok (.ireturn, 1) := by decide +kernel
theorem dX6_repairAll_0 : decode cX6_repairAll 0 = .ok (.iload_n 1, 1) := by decide +kernel
theorem dX6_repairAll_1 : decode cX6_repairAll 1 = .ok (.ifCond .lt 8, 3) := by decide +kernel
theorem dX6_repairAll_4 : decode cX6_repairAll 4 = .ok (.iload_n 1, 1) := by decide +kernel
theorem dX6_repairAll_5 : decode cX6_repairAll 5 = .ok (.iconst 5, 1) := by decide +kernel
theorem dX6_repairAll_6 : decode cX6_repairAll 6 = .ok (.if_icmp .le 7, 3) := by decide +kernel
theorem dX6_repairAll_9 : decode cX6_repairAll 9 = .ok (.sipush (-10001), 3) := by decide +kernel
theorem dX6_repairAll_12 : decode cX6_repairAll 12 = .ok (.ireturn, 1) := by decide +kernel
theorem dX6_repairAll_13 : decode cX6_repairAll 13 = .ok (.aload_n 0, 1) := by decide +kernel
theorem dX6_repairAll_14 : decode cX6_repairAll 14 = .ok (.getfield 19, 3) := by decide +kernel
theorem dX6_repairAll_17 : decode cX6_repairAll 17 = .ok (.aload_n 0, 1) := by decide +kernel
theorem dX6_repairAll_18 : decode cX6_repairAll 18 = .ok (.getfield 12, 3) := by decide +kernel
theorem dX6_repairAll_21 : decode cX6_repairAll 21 = .ok (.invokevirtual 53, 3) := by decide +kernel
theorem dX6_repairAll_24 : decode cX6_repairAll 24 = .ok (.iconst 0, 1) := by decide +kernel
theorem dX6_repairAll_25 : decode cX6_repairAll 25 = .ok (.istore_n 2, 1) := by decide +kernel
theorem dX6_repairAll_26 : decode cX6_repairAll 26 = .ok (.iconst 0, 1) := by decide +kernel
theorem dX6_repairAll_27 : decode cX6_repairAll 27 = .ok (.istore_n 3, 1) := by decide +kernel
theorem dX6_repairAll_28 : decode cX6_repairAll 28 = .ok (.iload_n 3, 1) := by decide +kernel
theorem dX6_repairAll_29 : decode cX6_repairAll 29 = .ok (.bipush 8, 2) := by decide +kernel
theorem dX6_repairAll_31 : decode cX6_repairAll 31 = .ok (.if_icmp .ge 43, 3) := by decide +kernel
theorem dX6_repairAll_34 : decode cX6_repairAll 34 = .ok (.aload_n 0, 1) := by decide +kernel
theorem dX6_repairAll_35 : decode cX6_repairAll 35 = .ok (.getfield 12, 3) := by decide +kernel
theorem dX6_repairAll_38 : decode cX6_repairAll 38 = .ok (.iload_n 3, 1) := by decide +kernel
theorem dX6_repairAll_39 : decode cX6_repairAll 39 = .ok (.invokevirtual 149, 3) := by decide +kernel
theorem dX6_repairAll_42 : decode cX6_repairAll 42 = .ok (.ifCond .eq 26, 3) := by decide +kernel
theorem dX6_repairAll_45 : decode cX6_repairAll 45 = .ok (.aload_n 0, 1) := by decide +kernel
theorem dX6_repairAll_46 : decode cX6_repairAll 46 = .ok (.getfield 12, 3) := by decide +kernel
theorem dX6_repairAll_49 : decode cX6_repairAll 49 = .ok (.iload_n 3, 1) := by decide +kernel
theorem dX6_repairAll_50 : decode cX6_repairAll 50 = .ok (.invokevirtual 152, 3) := by decide +kernel
theorem dX6_repairAll_53 : decode cX6_repairAll 53 = .ok (.iload_n 1, 1) := by decide +kernel
theorem dX6_repairAll_54 : decode cX6_repairAll 54 = .ok (.if_icmp .ge 14, 3) := by decide +kernel
theorem dX6_repairAll_57 : decode cX6_repairAll 57 = .ok (.iload_n 2, 1) := by decide +kernel
theorem dX6_repairAll_58 : decode cX6_repairAll 58 = .ok (.aload_n 0, 1) := by decide +kernel
theorem dX6_repairAll_59 : decode cX6_repairAll 59 = .ok (.getfield 12, 3) := by decide +kernel
theorem dX6_repairAll_62 : decode cX6_repairAll 62 = .ok (.iload_n 3, 1) := by decide +kernel
theorem dX6_repairAll_63 : decode cX6_repairAll 63 = .ok (.invokevirtual 204, 3) := by decide +kernel
theorem dX6_repairAll_66 : decode cX6_repairAll 66 = .ok (.iadd, 1) := by decide +kernel
theorem dX6_repairAll_67 : decode cX6_repairAll 67 = .ok (.istore_n 2, 1) := by decide +kernel
theorem dX6_repairAll_68 : decode cX6_repairAll 68 = .ok (.iinc 3 1, 3) := by decide +kernel
theorem dX6_repairAll_71 : decode cX6_repairAll 71 = .ok (.goto (-43), 3) := by decide +kernel
theorem dX6_repairAll_74 : decode cX6_repairAll 74 = .ok (.iload_n 2, 1) := by decide +kernel
theorem dX6_repairAll_75 : decode cX6_repairAll 75 = .ok (.ireturn, 1) := by decide +kernel
theorem dX6_undo_0 : decode cX6_undo 0 = .ok (.aload_n 0, 1) := by decide +kernel
theorem dX6_undo_1 : decode cX6_undo 1 = .ok (.getfield 19, 3) := by decide +kernel
theorem dX6_undo_4 : decode cX6_undo 4 = .ok (.getfield 207, 3) := by decide +kernel
theorem dX6_undo_7 : decode cX6_undo 7 = .ok (.ifCond .ne 7, 3) := by decide +kernel
theorem dX6_undo_10 : decode cX6_undo 10 = .ok (.sipush (-10002), 3) := by decide +kernel
theorem dX6_undo_13 : decode cX6_undo 13 = .ok (.ireturn, 1) := by decide +kernel
theorem dX6_undo_14 : decode cX6_undo 14 = .ok (.aload_n 0, 1) := by decide +kernel
theorem dX6_undo_15 : decode cX6_undo 15 = .ok (.getfield 19, 3) := by decide +kernel
theorem dX6_undo_18 : decode cX6_undo 18 = .ok (.aload_n 0, 1) := by decide +kernel
theorem dX6_undo_19 : decode cX6_undo 19 = .ok (.getfield 12, 3) := by decide +kernel
theorem dX6_undo_22 : decode cX6_undo 22 = .ok (.invokevirtual 208, 3) := by decide +kernel
theorem dX6_undo_25 : decode cX6_undo 25 = .ok (.aload_n 0, 1) := by decide +kernel
theorem dX6_undo_26 : decode cX6_undo 26 = .ok (.getfield 19, 3) := by decide +kernel
theorem dX6_undo_29 : decode cX6_undo 29 = .ok (.getfield 207, 3) := by decide +kernel
theorem dX6_undo_32 : decode cX6_undo 32 = .ok (.ireturn, 1) := by decide +kernel
theorem dX6_tolerance_0 : decode cX6_tolerance 0 = .ok (.aload_n 0, 1) := by decide +kernel
theorem dX6_tolerance_1 : decode cX6_tolerance 1 = .ok (.getfield 12, 3) := by decide +kernel
theorem dX6_tolerance_4 : decode cX6_tolerance 4 = .ok (.getfield 43, 3) := by decide +kernel
theorem dX6_tolerance_7 : decode cX6_tolerance 7 = .ok (.invokevirtual 211, 3) := by decide +kernel
theorem dX6_tolerance_10 : decode cX6_tolerance 10 = .ok (.istore_n 1, 1) := by decide +kernel
theorem dX6_tolerance_11 : decode cX6_tolerance 11 = .ok (.iload_n 1, 1) := by decide +kernel
theorem dX6_tolerance_12 : decode cX6_tolerance 12 = .ok (.ifCond .ne 7, 3) := by decide +kernel
theorem dX6_tolerance_15 : decode cX6_tolerance 15 = .ok (.sipush (-10002), 3) := by decide +kernel
theorem dX6_tolerance_18 : decode cX6_tolerance 18 = .ok (.ireturn, 1) := by decide +kernel
theorem dX6_tolerance_19 : decode cX6_tolerance 19 = .ok (.iconst 4, 1) := by decide +kernel
theorem dX6_tolerance_20 : decode cX6_tolerance 20 = .ok (.iload_n 1, 1) := by decide +kernel
theorem dX6_tolerance_21 : decode cX6_tolerance 21 = .ok (.invokestatic 212, 3) := by decide +kernel
theorem dX6_tolerance_24 : decode cX6_tolerance 24 = .ok (.istore_n 2, 1) := by decide +kernel
theorem dX6_tolerance_25 : decode cX6_tolerance 25 = .ok (.iload_n 2, 1) := by decide +kernel
theorem dX6_tolerance_26 : decode cX6_tolerance 26 = .ok (.ifCond .le 22, 3) := by decide +kernel
theorem dX6_tolerance_29 : decode cX6_tolerance 29 = .ok (.aload_n 0, 1) := by decide +kernel
theorem dX6_tolerance_30 : decode cX6_tolerance 30 = .ok (.getfield 12, 3) := by decide +kernel
theorem dX6_tolerance_33 : decode cX6_tolerance 33 = .ok (.iload_n 2, 1) := by decide +kernel
theorem dX6_tolerance_34 : decode cX6_tolerance 34 = .ok (.invokevirtual 217, 3) := by decide +kernel
theorem dX6_tolerance_37 : decode cX6_tolerance 37 = .ok (.ifCond .eq 5, 3) := by decide +kernel
theorem dX6_tolerance_40 : decode cX6_tolerance 40 = .ok (.iload_n 2, 1) := by decide +kernel
theorem dX6_tolerance_41 : decode cX6_tolerance 41 = .ok (.ireturn, 1) := by decide +kernel
theorem dX6_tolerance_42 : decode cX6_tolerance 42 = .ok (.iinc 2 (-1), 3) := by decide +kernel
theorem dX6_tolerance_45 : decode cX6_tolerance 45 = .ok (.goto (-20), 3) := by decide +kernel
theorem dX6_tolerance_48 : decode cX6_tolerance 48 = .ok (.iconst 0, 1) := by decide +kernel
theorem dX6_tolerance_49 : decode cX6_tolerance 49 = .ok (.ireturn, 1) := by decide +kernel
theorem dX6_endangered_0 : decode cX6_endangered 0 = .ok (.aload_n 0, 1) := by decide +kernel
theorem dX6_endangered_1 : decode cX6_endangered 1 = .ok (.getfield 12, 3) := by decide +kernel
theorem dX6_endangered_4 : decode cX6_endangered 4 = .ok (.getfield 43, 3) := by decide +kernel
theorem dX6_endangered_7 : decode cX6_endangered 7 = .ok (.iload_n 1, 1) := by decide +kernel
theorem dX6_endangered_8 : decode cX6_endangered 8 = .ok (.invokevirtual 61, 3) := by decide +kernel
theorem dX6_endangered_11 : decode cX6_endangered 11 = .ok (.ifCond .ne 7, 3) := by decide +kernel
theorem dX6_endangered_14 : decode cX6_endangered 14 = .ok (.sipush (-10001), 3) := by decide +kernel
theorem dX6_endangered_17 : decode cX6_endangered 17 = .ok (.ireturn, 1) := by decide +kernel
theorem dX6_endangered_18 : decode cX6_endangered 18 = .ok (.iconst 0, 1) := by decide +kernel
theorem dX6_endangered_19 : decode cX6_endangered 19 = .ok (.istore_n 2, 1) := by decide +kernel
theorem dX6_endangered_20 : decode cX6_endangered 20 = .ok (.iconst 0, 1) := by decide +kernel
theorem dX6_endangered_21 : decode cX6_endangered 21 = .ok (.istore_n 3, 1) := by decide +kernel
theorem dX6_endangered_22 : decode cX6_endangered 22 = .ok (.iload_n 3, 1) := by decide +kernel
theorem dX6_endangered_23 : decode cX6_endangered 23 = .ok (.bipush 8, 2) := by decide +kernel
theorem dX6_endangered_25 : decode cX6_endangered 25 = .ok (.if_icmp .ge 24, 3) := by decide +kernel
theorem dX6_endangered_28 : decode cX6_endangered 28 = .ok (.aload_n 0, 1) := by decide +kernel
theorem dX6_endangered_29 : decode cX6_endangered 29 = .ok (.getfield 12, 3) := by decide +kernel
theorem dX6_endangered_32 : decode cX6_endangered 32 = .ok (.iload_n 3, 1) := by decide +kernel
theorem dX6_endangered_33 : decode cX6_endangered 33 = .ok (.iload_n 1, 1) := by decide +kernel
theorem dX6_endangered_34 : decode cX6_endangered 34 = .ok (.invokevirtual 220, 3) := by decide +kernel
theorem dX6_endangered_37 : decode cX6_endangered 37 = .ok (.ifCond .eq 6, 3) := by decide +kernel
theorem dX6_endangered_40 : decode cX6_endangered 40 = .ok (.iinc 2 1, 3) := by decide +kernel
theorem dX6_endangered_43 : decode cX6_endangered 43 = .ok (.iinc 3 1, 3) := by decide +kernel
theorem dX6_endangered_46 : decode cX6_endangered 46 = .ok (.goto (-24), 3) := by decide +kernel
theorem dX6_endangered_49 : decode cX6_endangered 49 = .ok (.iload_n 2, 1) := by decide +kernel
theorem dX6_endangered_50 : decode cX6_endangered 50 = .ok (.ireturn, 1) := by decide +kernel
theorem dX6_leavers_0 : decode cX6_leavers 0 = .ok (.aload_n 0, 1) := by decide +kernel
theorem dX6_leavers_1 : decode cX6_leavers 1 = .ok (.getfield 37, 3) := by decide +kernel
theorem dX6_leavers_4 : decode cX6_leavers 4 = .ok (.aload_n 0, 1) := by decide +kernel
theorem dX6_leavers_5 : decode cX6_leavers 5 = .ok (.getfield 12, 3) := by decide +kernel
theorem dX6_leavers_8 : decode cX6_leavers 8 = .ok (.invokevirtual 223, 3) := by decide +kernel
theorem dX6_leavers_11 : decode cX6_leavers 11 = .ok (.iconst 0, 1) := by decide +kernel
theorem dX6_leavers_12 : decode cX6_leavers 12 = .ok (.istore_n 1, 1) := by decide +kernel
theorem dX6_leavers_13 : decode cX6_leavers 13 = .ok (.iload_n 1, 1) := by decide +kernel
theorem dX6_leavers_14 : decode cX6_leavers 14 = .ok (.bipush 12, 2) := by decide +kernel
theorem dX6_leavers_16 : decode cX6_leavers 16 = .ok (.if_icmp .ge 16, 3) := by decide +kernel
theorem dX6_leavers_19 : decode cX6_leavers 19 = .ok (.aload_n 0, 1) := by decide +kernel
theorem dX6_leavers_20 : decode cX6_leavers 20 = .ok (.invokevirtual 226, 3) := by decide +kernel
theorem dX6_leavers_23 : decode cX6_leavers 23 = .ok (.ifCond .eq 9, 3) := by decide +kernel
theorem dX6_leavers_26 : decode cX6_leavers 26 = .ok (.iinc 1 1, 3) := by decide +kernel
theorem dX6_leavers_29 : decode cX6_leavers 29 = .ok (.goto (-16), 3) := by decide +kernel
theorem dX6_leavers_32 : decode cX6_leavers 32 = .ok (.iload_n 1, 1) := by decide +kernel
theorem dX6_leavers_33 : decode cX6_leavers 33 = .ok (.ireturn, 1) := by decide +kernel
theorem dX6_count_0 : decode cX6_count 0 = .ok (.iload_n 1, 1) := by decide +kernel
theorem dX6_count_1 : decode cX6_count 1 = .ok (.tableswitch 141 0 8 #[51, 62, 73, 81, 92, 103, 114, 122, 130], 51) := by decide +kernel
theorem dX6_count_52 : decode cX6_count 52 = .ok (.aload_n 0, 1) := by decide +kernel
theorem dX6_count_53 : decode cX6_count 53 = .ok (.getfield 12, 3) := by decide +kernel
theorem dX6_count_56 : decode cX6_count 56 = .ok (.getfield 43, 3) := by decide +kernel
theorem dX6_count_59 : decode cX6_count 59 = .ok (.invokevirtual 211, 3) := by decide +kernel
theorem dX6_count_62 : decode cX6_count 62 = .ok (.ireturn, 1) := by decide +kernel
theorem dX6_count_63 : decode cX6_count 63 = .ok (.aload_n 0, 1) := by decide +kernel
theorem dX6_count_64 : decode cX6_count 64 = .ok (.getfield 12, 3) := by decide +kernel
theorem dX6_count_67 : decode cX6_count 67 = .ok (.getfield 100, 3) := by decide +kernel
theorem dX6_count_70 : decode cX6_count 70 = .ok (.invokevirtual 131, 3) := by decide +kernel
theorem dX6_count_73 : decode cX6_count 73 = .ok (.ireturn, 1) := by decide +kernel
theorem dX6_count_74 : decode cX6_count 74 = .ok (.aload_n 0, 1) := by decide +kernel
theorem dX6_count_75 : decode cX6_count 75 = .ok (.getfield 12, 3) := by decide +kernel
theorem dX6_count_78 : decode cX6_count 78 = .ok (.invokevirtual 230, 3) := by decide +kernel
theorem dX6_count_81 : decode cX6_count 81 = .ok (.ireturn, 1) := by decide +kernel
theorem dX6_count_82 : decode cX6_count 82 = .ok (.aload_n 0, 1) := by decide +kernel
theorem dX6_count_83 : decode cX6_count 83 = .ok (.getfield 12, 3) := by decide +kernel
theorem dX6_count_86 : decode cX6_count 86 = .ok (.getfield 100, 3) := by decide +kernel
theorem dX6_count_89 : decode cX6_count 89 = .ok (.invokevirtual 233, 3) := by decide +kernel
theorem dX6_count_92 : decode cX6_count 92 = .ok (.ireturn, 1) := by decide +kernel
theorem dX6_count_93 : decode cX6_count 93 = .ok (.aload_n 0, 1) := by decide +kernel
theorem dX6_count_94 : decode cX6_count 94 = .ok (.getfield 12, 3) := by decide +kernel
theorem dX6_count_97 : decode cX6_count 97 = .ok (.getfield 100, 3) := by decide +kernel
theorem dX6_count_100 : decode cX6_count 100 = .ok (.invokevirtual 236, 3) := by decide +kernel
theorem dX6_count_103 : decode cX6_count 103 = .ok (.ireturn, 1) := by decide +kernel
theorem dX6_count_104 : decode cX6_count 104 = .ok (.aload_n 0, 1) := by decide +kernel
theorem dX6_count_105 : decode cX6_count 105 = .ok (.getfield 12, 3) := by decide +kernel
theorem dX6_count_108 : decode cX6_count 108 = .ok (.getfield 43, 3) := by decide +kernel
theorem dX6_count_111 : decode cX6_count 111 = .ok (.invokevirtual 239, 3) := by decide +kernel
theorem dX6_count_114 : decode cX6_count 114 = .ok (.ireturn, 1) := by decide +kernel
theorem dX6_count_115 : decode cX6_count 115 = .ok (.aload_n 0, 1) := by decide +kernel
theorem dX6_count_116 : decode cX6_count 116 = .ok (.getfield 12, 3) := by decide +kernel
theorem dX6_count_119 : decode cX6_count 119 = .ok (.getfield 112, 3) := by decide +kernel
theorem dX6_count_122 : decode cX6_count 122 = .ok (.ireturn, 1) := by decide +kernel
theorem dX6_count_123 : decode cX6_count 123 = .ok (.aload_n 0, 1) := by decide +kernel
theorem dX6_count_124 : decode cX6_count 124 = .ok (.getfield 19, 3) := by decide +kernel
theorem dX6_count_127 : decode cX6_count 127 = .ok (.getfield 207, 3) := by decide +kernel
theorem dX6_count_130 : decode cX6_count 130 = .ok (.ireturn, 1) := by decide +kernel
theorem dX6_count_131 : decode cX6_count 131 = .ok (.aload_n 0, 1) := by decide +kernel
theorem dX6_count_132 : decode cX6_count 132 = .ok (.getfield 12, 3) := by decide +kernel
theorem dX6_count_135 : decode cX6_count 135 = .ok (.getfield 43, 3) := by decide +kernel
theorem dX6_count_138 : decode cX6_count 138 = .ok (.invokevirtual 242, 3) := by decide +kernel
theorem dX6_count_141 : decode cX6_count 141 = .ok (.ireturn, 1) := by decide +kernel
theorem dX6_count_142 : decode cX6_count 142 = .ok (.sipush (-10001), 3) := by decide +kernel
theorem dX6_count_145 : decode cX6_count 145 = .ok (.ireturn, 1) := by decide +kernel
theorem dX6_planNextLeaver_0 : decode cX6_planNextLeaver 0 = .ok (.iconst 0, 1) := by decide +kernel
theorem dX6_planNextLeaver_1 : decode cX6_planNextLeaver 1 = .ok (.istore_n 1, 1) := by decide +kernel
theorem dX6_planNextLeaver_2 : decode cX6_planNextLeaver 2 = .ok (.iload_n 1, 1) := by decide +kernel
theorem dX6_planNextLeaver_3 : decode cX6_planNextLeaver 3 = .ok (.bipush 12, 2) := by decide +kernel
theorem dX6_planNextLeaver_5 : decode cX6_planNextLeaver 5 = .ok (.if_icmp .ge 69, 3) := by decide +kernel
theorem dX6_planNextLeaver_8 : decode cX6_planNextLeaver 8 = .ok (.aload_n 0, 1) := by decide +kernel
theorem dX6_planNextLeaver_9 : decode cX6_planNextLeaver 9 = .ok (.getfield 37, 3) := by decide +kernel
theorem dX6_planNextLeaver_12 : decode cX6_planNextLeaver 12 = .ok (.getfield 43, 3) := by decide +kernel
theorem dX6_planNextLeaver_15 : decode cX6_planNextLeaver 15 = .ok (.iload_n 1, 1) := by decide +kernel
theorem dX6_planNextLeaver_16 : decode cX6_planNextLeaver 16 = .ok (.invokevirtual 61, 3) := by decide +kernel
theorem dX6_planNextLeaver_19 : decode cX6_planNextLeaver 19 = .ok (.ifCond .eq 49, 3) := by decide +kernel
theorem dX6_planNextLeaver_22 : decode cX6_planNextLeaver 22 = .ok (.aload_n 0, 1) := by decide +kernel
theorem dX6_planNextLeaver_23 : decode cX6_planNextLeaver 23 = .ok (.getfield 37, 3) := by decide +kernel
theorem dX6_planNextLeaver_26 : decode cX6_planNextLeaver 26 = .ok (.iload_n 1, 1) := by decide +kernel
theorem dX6_planNextLeaver_27 : decode cX6_planNextLeaver 27 = .ok (.invokevirtual 65, 3) := by decide +kernel
theorem dX6_planNextLeaver_30 : decode cX6_planNextLeaver 30 = .ok (.ifCond .eq 38, 3) := by decide +kernel
theorem dX6_planNextLeaver_33 : decode cX6_planNextLeaver 33 = .ok (.aload_n 0, 1) := by decide +kernel
theorem dX6_planNextLeaver_34 : decode cX6_planNextLeaver 34 = .ok (.getfield 40, 3) := by decide +kernel
theorem dX6_planNextLeaver_37 : decode cX6_planNextLeaver 37 = .ok (.aload_n 0, 1) := by decide +kernel
theorem dX6_planNextLeaver_38 : decode cX6_planNextLeaver 38 = .ok (.getfield 37, 3) := by decide +kernel
theorem dX6_planNextLeaver_41 : decode cX6_planNextLeaver 41 = .ok (.invokevirtual 223, 3) := by decide +kernel
theorem dX6_planNextLeaver_44 : decode cX6_planNextLeaver 44 = .ok (.aload_n 0, 1) := by decide +kernel
theorem dX6_planNextLeaver_45 : decode cX6_planNextLeaver 45 = .ok (.getfield 40, 3) := by decide +kernel
theorem dX6_planNextLeaver_48 : decode cX6_planNextLeaver 48 = .ok (.iload_n 1, 1) := by decide +kernel
theorem dX6_planNextLeaver_49 : decode cX6_planNextLeaver 49 = .ok (.invokevirtual 68, 3) := by decide +kernel
theorem dX6_planNextLeaver_52 : decode cX6_planNextLeaver 52 = .ok (.ifCond .ne 16, 3) := by decide +kernel
theorem dX6_planNextLeaver_55 : decode cX6_planNextLeaver 55 = .ok (.aload_n 0, 1) := by decide +kernel
theorem dX6_planNextLeaver_56 : decode cX6_planNextLeaver 56 = .ok (.getfield 37, 3) := by decide +kernel
theorem dX6_planNextLeaver_59 : decode cX6_planNextLeaver 59 = .ok (.aload_n 0, 1) := by decide +kernel
theorem dX6_planNextLeaver_60 : decode cX6_planNextLeaver 60 = .ok (.getfield 40, 3) := by decide +kernel
theorem dX6_planNextLeaver_63 : decode cX6_planNextLeaver 63 = .ok (.invokevirtual 223, 3) := by decide +kernel
theorem dX6_planNextLeaver_66 : decode cX6_planNextLeaver 66 = .ok (.iconst 1, 1) := by decide +kernel
theorem dX6_planNextLeaver_67 : decode cX6_planNextLeaver 67 = .ok (.ireturn, 1) := by decide +kernel
theorem dX6_planNextLeaver_68 : decode cX6_planNextLeaver 68 = .ok (.iinc 1 1, 3) := by decide +kernel
theorem dX6_planNextLeaver_71 : decode cX6_planNextLeaver 71 = .ok (.goto (-69), 3) := by decide +kernel
theorem dX6_planNextLeaver_74 : decode cX6_planNextLeaver 74 = .ok (.iconst 0, 1) := by decide +kernel
theorem dX6_planNextLeaver_75 : decode cX6_planNextLeaver 75 = .ok (.ireturn, 1) := by decide +kernel
theorem dX6_power_0 : decode cX6_power 0 = .ok (.iconst 1, 1) := by decide +kernel
theorem dX6_power_1 : decode cX6_power 1 = .ok (.istore_n 2, 1) := by decide +kernel
theorem dX6_power_2 : decode cX6_power 2 = .ok (.iload_n 0, 1) := by decide +kernel
theorem dX6_power_3 : decode cX6_power 3 = .ok (.istore_n 3, 1) := by decide +kernel
theorem dX6_power_4 : decode cX6_power 4 = .ok (.iconst 0, 1) := by decide +kernel
theorem dX6_power_5 : decode cX6_power 5 = .ok (.istore 4, 2) := by decide +kernel
theorem dX6_power_7 : decode cX6_power 7 = .ok (.iload 4, 2) := by decide +kernel
theorem dX6_power_9 : decode cX6_power 9 = .ok (.bipush 8, 2) := by decide +kernel
theorem dX6_power_11 : decode cX6_power 11 = .ok (.if_icmp .ge 35, 3) := by decide +kernel
theorem dX6_power_14 : decode cX6_power 14 = .ok (.iload_n 1, 1) := by decide +kernel
theorem dX6_power_15 : decode cX6_power 15 = .ok (.iload 4, 2) := by decide +kernel
theorem dX6_power_17 : decode cX6_power 17 = .ok (.ishr, 1) := by decide +kernel
theorem dX6_power_18 : decode cX6_power 18 = .ok (.iconst 1, 1) := by decide +kernel
theorem dX6_power_19 : decode cX6_power 19 = .ok (.iand, 1) := by decide +kernel
theorem dX6_power_20 : decode cX6_power 20 = .ok (.iconst 1, 1) := by decide +kernel
theorem dX6_power_21 : decode cX6_power 21 = .ok (.if_icmp .ne 11, 3) := by decide +kernel
theorem dX6_power_24 : decode cX6_power 24 = .ok (.iload_n 2, 1) := by decide +kernel
theorem dX6_power_25 : decode cX6_power 25 = .ok (.iload_n 3, 1) := by decide +kernel
theorem dX6_power_26 : decode cX6_power 26 = .ok (.imul, 1) := by decide +kernel
theorem dX6_power_27 : decode cX6_power 27 = .ok (.sipush 257, 3) := by decide +kernel
theorem dX6_power_30 : decode cX6_power 30 = .ok (.irem, 1) := by decide +kernel
theorem dX6_power_31 : decode cX6_power 31 = .ok (.istore_n 2, 1) := by decide +kernel
theorem dX6_power_32 : decode cX6_power 32 = .ok (.iload_n 3, 1) := by decide +kernel
theorem dX6_power_33 : decode cX6_power 33 = .ok (.iload_n 3, 1) := by decide +kernel
theorem dX6_power_34 : decode cX6_power 34 = .ok (.imul, 1) := by decide +kernel
theorem dX6_power_35 : decode cX6_power 35 = .ok (.sipush 257, 3) := by decide +kernel
theorem dX6_power_38 : decode cX6_power 38 = .ok (.irem, 1) := by decide +kernel
theorem dX6_power_39 : decode cX6_power 39 = .ok (.istore_n 3, 1) := by decide +kernel
theorem dX6_power_40 : decode cX6_power 40 = .ok (.iinc 4 1, 3) := by decide +kernel
theorem dX6_power_43 : decode cX6_power 43 = .ok (.goto (-36), 3) := by decide +kernel
theorem dX6_power_46 : decode cX6_power 46 = .ok (.iload_n 2, 1) := by decide +kernel
theorem dX6_power_47 : decode cX6_power 47 = .ok (.ireturn, 1) := by decide +kernel
theorem dX6_copyRow_0 : decode cX6_copyRow 0 = .ok (.aload_n 0, 1) := by decide +kernel
theorem dX6_copyRow_1 : decode cX6_copyRow 1 = .ok (.iconst 0, 1) := by decide +kernel
theorem dX6_copyRow_2 : decode cX6_copyRow 2 = .ok (.aload_n 1, 1) := by decide +kernel
theorem dX6_copyRow_3 : decode cX6_copyRow 3 = .ok (.iconst 0, 1) := by decide +kernel
theorem dX6_copyRow_4 : decode cX6_copyRow 4 = .ok (.aload_n 0, 1) := by decide +kernel
theorem dX6_copyRow_5 : decode cX6_copyRow 5 = .ok (.arraylength, 1) := by decide +kernel
theorem dX6_copyRow_6 : decode cX6_copyRow 6 = .ok (.aload_n 1, 1) := by decide +kernel
theorem dX6_copyRow_7 : decode cX6_copyRow 7 = .ok (.arraylength, 1) := by decide +kernel
theorem dX6_copyRow_8 : decode cX6_copyRow 8 = .ok (.invokestatic 212, 3) := by decide +kernel
theorem dX6_copyRow_11 : decode cX6_copyRow 11 = .ok (.invokestatic 245, 3) := by decide +kernel
theorem dX6_copyRow_14 : decode cX6_copyRow 14 = .ok (.return_, 1) := by decide +kernel
theorem dJ6_bitCount_0f7a4_0 : decode cJ6_bitCount_0f7a4 0 = .ok (.iload_n 0, 1) := by decide +kernel
theorem dJ6_bitCount_0f7a4_1 : decode cJ6_bitCount_0f7a4 1 = .ok (.iload_n 0, 1) := by decide +kernel
theorem dJ6_bitCount_0f7a4_2 : decode cJ6_bitCount_0f7a4 2 = .ok (.iconst 1, 1) := by decide +kernel
theorem dJ6_bitCount_0f7a4_3 : decode cJ6_bitCount_0f7a4 3 = .ok (.iushr, 1) := by decide +kernel
theorem dJ6_bitCount_0f7a4_4 : decode cJ6_bitCount_0f7a4 4 = .ok (.ldc_w 265, 3) := by decide +kernel
theorem dJ6_bitCount_0f7a4_7 : decode cJ6_bitCount_0f7a4 7 = .ok (.iand, 1) := by decide +kernel
theorem dJ6_bitCount_0f7a4_8 : decode cJ6_bitCount_0f7a4 8 = .ok (.isub, 1) := by decide +kernel
theorem dJ6_bitCount_0f7a4_9 : decode cJ6_bitCount_0f7a4 9 = .ok (.istore_n 0, 1) := by decide +kernel
theorem dJ6_bitCount_0f7a4_10 : decode cJ6_bitCount_0f7a4 10 = .ok (.iload_n 0, 1) := by decide +kernel
theorem dJ6_bitCount_0f7a4_11 : decode cJ6_bitCount_0f7a4 11 = .ok (.ldc_w 266, 3) := by decide +kernel
theorem dJ6_bitCount_0f7a4_14 : decode cJ6_bitCount_0f7a4 14 = .ok (.iand, 1) := by decide +kernel
theorem dJ6_bitCount_0f7a4_15 : decode cJ6_bitCount_0f7a4 15 = .ok (.iload_n 0, 1) := by decide +kernel
theorem dJ6_bitCount_0f7a4_16 : decode cJ6_bitCount_0f7a4 16 = .ok (.iconst 2, 1) := by decide +kernel
theorem dJ6_bitCount_0f7a4_17 : decode cJ6_bitCount_0f7a4 17 = .ok (.iushr, 1) := by decide +kernel
theorem dJ6_bitCount_0f7a4_18 : decode cJ6_bitCount_0f7a4 18 = .ok (.ldc_w 266, 3) := by decide +kernel
theorem dJ6_bitCount_0f7a4_21 : decode cJ6_bitCount_0f7a4 21 = .ok (.iand, 1) := by decide +kernel
theorem dJ6_bitCount_0f7a4_22 : decode cJ6_bitCount_0f7a4 22 = .ok (.iadd, 1) := by decide +kernel
theorem dJ6_bitCount_0f7a4_23 : decode cJ6_bitCount_0f7a4 23 = .ok (.istore_n 0, 1) := by decide +kernel
theorem dJ6_bitCount_0f7a4_24 : decode cJ6_bitCount_0f7a4 24 = .ok (.iload_n 0, 1) := by decide +kernel
theorem dJ6_bitCount_0f7a4_25 : decode cJ6_bitCount_0f7a4 25 = .ok (.iload_n 0, 1) := by decide +kernel
theorem dJ6_bitCount_0f7a4_26 : decode cJ6_bitCount_0f7a4 26 = .ok (.iconst 4, 1) := by decide +kernel
theorem dJ6_bitCount_0f7a4_27 : decode cJ6_bitCount_0f7a4 27 = .ok (.iushr, 1) := by decide +kernel
theorem dJ6_bitCount_0f7a4_28 : decode cJ6_bitCount_0f7a4 28 = .ok (.iadd, 1) := by decide +kernel
theorem dJ6_bitCount_0f7a4_29 : decode cJ6_bitCount_0f7a4 29 = .ok (.ldc_w 267, 3) := by decide +kernel
theorem dJ6_bitCount_0f7a4_32 : decode cJ6_bitCount_0f7a4 32 = .ok (.iand, 1) := by decide +kernel
theorem dJ6_bitCount_0f7a4_33 : decode cJ6_bitCount_0f7a4 33 = .ok (.istore_n 0, 1) := by decide +kernel
theorem dJ6_bitCount_0f7a4_34 : decode cJ6_bitCount_0f7a4 34 = .ok (.iload_n 0, 1) := by decide +kernel
theorem dJ6_bitCount_0f7a4_35 : decode cJ6_bitCount_0f7a4 35 = .ok (.iload_n 0, 1) := by decide +kernel
theorem dJ6_bitCount_0f7a4_36 : decode cJ6_bitCount_0f7a4 36 = .ok (.bipush 8, 2) := by decide +kernel
theorem dJ6_bitCount_0f7a4_38 : decode cJ6_bitCount_0f7a4 38 = .ok (.iushr, 1) := by decide +kernel
theorem dJ6_bitCount_0f7a4_39 : decode cJ6_bitCount_0f7a4 39 = .ok (.iadd, 1) := by decide +kernel
theorem dJ6_bitCount_0f7a4_40 : decode cJ6_bitCount_0f7a4 40 = .ok (.istore_n 0, 1) := by decide +kernel
theorem dJ6_bitCount_0f7a4_41 : decode cJ6_bitCount_0f7a4 41 = .ok (.iload_n 0, 1) := by decide +kernel
theorem dJ6_bitCount_0f7a4_42 : decode cJ6_bitCount_0f7a4 42 = .ok (.iload_n 0, 1) := by decide +kernel
theorem dJ6_bitCount_0f7a4_43 : decode cJ6_bitCount_0f7a4 43 = .ok (.bipush 16, 2) := by decide +kernel
theorem dJ6_bitCount_0f7a4_45 : decode cJ6_bitCount_0f7a4 45 = .ok (.iushr, 1) := by decide +kernel
theorem dJ6_bitCount_0f7a4_46 : decode cJ6_bitCount_0f7a4 46 = .ok (.iadd, 1) := by decide +kernel
theorem dJ6_bitCount_0f7a4_47 : decode cJ6_bitCount_0f7a4 47 = .ok (.istore_n 0, 1) := by decide +kernel
theorem dJ6_bitCount_0f7a4_48 : decode cJ6_bitCount_0f7a4 48 = .ok (.iload_n 0, 1) := by decide +kernel
theorem dJ6_bitCount_0f7a4_49 : decode cJ6_bitCount_0f7a4 49 = .ok (.bipush 63, 2) := by decide +kernel
theorem dJ6_bitCount_0f7a4_51 : decode cJ6_bitCount_0f7a4 51 = .ok (.iand, 1) := by decide +kernel
theorem dJ6_bitCount_0f7a4_52 : decode cJ6_bitCount_0f7a4 52 = .ok (.ireturn, 1) := by decide +kernel
theorem dJ9_max_7cf53_0 : decode cJ9_max_7cf53 0 = .ok (.iload_n 0, 1) := by decide +kernel
theorem dJ9_max_7cf53_1 : decode cJ9_max_7cf53 1 = .ok (.iload_n 1, 1) := by decide +kernel
theorem dJ9_max_7cf53_2 : decode cJ9_max_7cf53 2 = .ok (.if_icmp .lt 7, 3) := by decide +kernel
theorem dJ9_max_7cf53_5 : decode cJ9_max_7cf53 5 = .ok (.iload_n 0, 1) := by decide +kernel
theorem dJ9_max_7cf53_6 : decode cJ9_max_7cf53 6 = .ok (.goto 4, 3) := by decide +kernel
theorem dJ9_max_7cf53_9 : decode cJ9_max_7cf53 9 = .ok (.iload_n 1, 1) := by decide +kernel
theorem dJ9_max_7cf53_10 : decode cJ9_max_7cf53 10 = .ok (.ireturn, 1) := by decide +kernel
theorem dJ9_min_7cf53_0 : decode cJ9_min_7cf53 0 = .ok (.iload_n 0, 1) := by decide +kernel
theorem dJ9_min_7cf53_1 : decode cJ9_min_7cf53 1 = .ok (.iload_n 1, 1) := by decide +kernel
theorem dJ9_min_7cf53_2 : decode cJ9_min_7cf53 2 = .ok (.if_icmp .gt 7, 3) := by decide +kernel
theorem dJ9_min_7cf53_5 : decode cJ9_min_7cf53 5 = .ok (.iload_n 0, 1) := by decide +kernel
theorem dJ9_min_7cf53_6 : decode cJ9_min_7cf53 6 = .ok (.goto 4, 3) := by decide +kernel
theorem dJ9_min_7cf53_9 : decode cJ9_min_7cf53 9 = .ok (.iload_n 1, 1) := by decide +kernel
theorem dJ9_min_7cf53_10 : decode cJ9_min_7cf53 10 = .ok (.ireturn, 1) := by decide +kernel
theorem dJ7_fill_53178_0 : decode cJ7_fill_53178 0 = .ok (.iconst 0, 1) := by decide +kernel
theorem dJ7_fill_53178_1 : decode cJ7_fill_53178 1 = .ok (.istore_n 2, 1) := by decide +kernel
theorem dJ7_fill_53178_2 : decode cJ7_fill_53178 2 = .ok (.aload_n 0, 1) := by decide +kernel
theorem dJ7_fill_53178_3 : decode cJ7_fill_53178 3 = .ok (.arraylength, 1) := by decide +kernel
theorem dJ7_fill_53178_4 : decode cJ7_fill_53178 4 = .ok (.istore_n 3, 1) := by decide +kernel
theorem dJ7_fill_53178_5 : decode cJ7_fill_53178 5 = .ok (.iload_n 2, 1) := by decide +kernel
theorem dJ7_fill_53178_6 : decode cJ7_fill_53178 6 = .ok (.iload_n 3, 1) := by decide +kernel
theorem dJ7_fill_53178_7 : decode cJ7_fill_53178 7 = .ok (.if_icmp .ge 13, 3) := by decide +kernel
theorem dJ7_fill_53178_10 : decode cJ7_fill_53178 10 = .ok (.aload_n 0, 1) := by decide +kernel
theorem dJ7_fill_53178_11 : decode cJ7_fill_53178 11 = .ok (.iload_n 2, 1) := by decide +kernel
theorem dJ7_fill_53178_12 : decode cJ7_fill_53178 12 = .ok (.iload_n 1, 1) := by decide +kernel
theorem dJ7_fill_53178_13 : decode cJ7_fill_53178 13 = .ok (.iastore, 1) := by decide +kernel
theorem dJ7_fill_53178_14 : decode cJ7_fill_53178 14 = .ok (.iinc 2 1, 3) := by decide +kernel
theorem dJ7_fill_53178_17 : decode cJ7_fill_53178 17 = .ok (.goto (-12), 3) := by decide +kernel
theorem dJ7_fill_53178_20 : decode cJ7_fill_53178 20 = .ok (.return_, 1) := by decide +kernel
end
section
theorem dX7_init_0 : decode cX7_init 0 = .ok (.aload_n 0, 1) := by decide +kernel
theorem dX7_init_1 : decode cX7_init 1 = .ok (.invokespecial 1, 3) := by decide +kernel
theorem dX7_init_4 : decode cX7_init 4 = .ok (.aload_n 0, 1) := by decide +kernel
theorem dX7_init_5 : decode cX7_init 5 = .ok (.sipush 439, 3) := by decide +kernel
theorem dX7_init_8 : decode cX7_init 8 = .ok (.newarray .int, 2) := by decide +kernel
theorem dX7_init_10 : decode cX7_init 10 = .ok (.putfield 7, 3) := by decide +kernel
theorem dX7_init_13 : decode cX7_init 13 = .ok (.aload_n 0, 1) := by decide +kernel
theorem dX7_init_14 : decode cX7_init 14 = .ok (.sipush 439, 3) := by decide +kernel
theorem dX7_init_17 : decode cX7_init 17 = .ok (.newarray .int, 2) := by decide +kernel
theorem dX7_init_19 : decode cX7_init 19 = .ok (.putfield 13, 3) := by decide +kernel
theorem dX7_init_22 : decode cX7_init 22 = .ok (.aload_n 0, 1) := by decide +kernel
theorem dX7_init_23 : decode cX7_init 23 = .ok (.sipush 439, 3) := by decide +kernel
theorem dX7_init_26 : decode cX7_init 26 = .ok (.newarray .int, 2) := by decide +kernel
theorem dX7_init_28 : decode cX7_init 28 = .ok (.putfield 16, 3) := by decide +kernel
theorem dX7_init_31 : decode cX7_init 31 = .ok (.aload_n 0, 1) := by decide +kernel
theorem dX7_init_32 : decode cX7_init 32 = .ok (.sipush 2195, 3) := by decide +kernel
theorem dX7_init_35 : decode cX7_init 35 = .ok (.newarray .int, 2) := by decide +kernel
theorem dX7_init_37 : decode cX7_init 37 = .ok (.putfield 19, 3) := by decide +kernel
theorem dX7_init_40 : decode cX7_init 40 = .ok (.aload_n 0, 1) := by decide +kernel
theorem dX7_init_41 : decode cX7_init 41 = .ok (.bipush 42, 2) := by decide +kernel
theorem dX7_init_43 : decode cX7_init 43 = .ok (.newarray .int, 2) := by decide +kernel
theorem dX7_init_45 : decode cX7_init 45 = .ok (.putfield 22, 3) := by decide +kernel
theorem dX7_init_48 : decode cX7_init 48 = .ok (.return_, 1) := by decide +kernel
theorem dX7_in_0 : decode cX7_in 0 = .ok (.iload_n 0, 1) := by decide +kernel
theorem dX7_in_1 : decode cX7_in 1 = .ok (.iload_n 1, 1) := by decide +kernel
theorem dX7_in_2 : decode cX7_in 2 = .ok (.if_icmp .lt 12, 3) := by decide +kernel
theorem dX7_in_5 : decode cX7_in 5 = .ok (.iload_n 0, 1) := by decide +kernel
theorem dX7_in_6 : decode cX7_in 6 = .ok (.iload_n 2, 1) := by decide +kernel
theorem dX7_in_7 : decode cX7_in 7 = .ok (.if_icmp .gt 7, 3) := by decide +kernel
theorem dX7_in_10 : decode cX7_in 10 = .ok (.iconst 1, 1) := by decide +kernel
theorem dX7_in_11 : decode cX7_in 11 = .ok (.goto 4, 3) := by decide +kernel
theorem dX7_in_14 : decode cX7_in 14 = .ok (.iconst 0, 1) := by decide +kernel
theorem dX7_in_15 : decode cX7_in 15 = .ok (.ireturn, 1) := by decide +kernel
theorem dX7_isPeer_0 : decode cX7_isPeer 0 = .ok (.iload_n 1, 1) := by decide +kernel
theorem dX7_isPeer_1 : decode cX7_isPeer 1 = .ok (.iconst 0, 1) := by decide +kernel
theorem dX7_isPeer_2 : decode cX7_isPeer 2 = .ok (.bipush 11, 2) := by decide +kernel
theorem dX7_isPeer_4 : decode cX7_isPeer 4 = .ok (.invokestatic 25, 3) := by decide +kernel
theorem dX7_isPeer_7 : decode cX7_isPeer 7 = .ok (.ifCond .eq 19, 3) := by decide +kernel
theorem dX7_isPeer_10 : decode cX7_isPeer 10 = .ok (.aload_n 0, 1) := by decide +kernel
theorem dX7_isPeer_11 : decode cX7_isPeer 11 = .ok (.getfield 7, 3) := by decide +kernel
theorem dX7_isPeer_14 : decode cX7_isPeer 14 = .ok (.iconst 4, 1) := by decide +kernel
theorem dX7_isPeer_15 : decode cX7_isPeer 15 = .ok (.iload_n 1, 1) := by decide +kernel
theorem dX7_isPeer_16 : decode cX7_isPeer 16 = .ok (.imul, 1) := by decide +kernel
theorem dX7_isPeer_17 : decode cX7_isPeer 17 = .ok (.iaload, 1) := by decide +kernel
theorem dX7_isPeer_18 : decode cX7_isPeer 18 = .ok (.iconst 1, 1) := by decide +kernel
theorem dX7_isPeer_19 : decode cX7_isPeer 19 = .ok (.if_icmp .ne 7, 3) := by decide +kernel
theorem dX7_isPeer_22 : decode cX7_isPeer 22 = .ok (.iconst 1, 1) := by decide +kernel
theorem dX7_isPeer_23 : decode cX7_isPeer 23 = .ok (.goto 4, 3) := by decide +kernel
theorem dX7_isPeer_26 : decode cX7_isPeer 26 = .ok (.iconst 0, 1) := by decide +kernel
theorem dX7_isPeer_27 : decode cX7_isPeer 27 = .ok (.ireturn, 1) := by decide +kernel
theorem dX7_isFile_0 : decode cX7_isFile 0 = .ok (.iload_n 1, 1) := by decide +kernel
theorem dX7_isFile_1 : decode cX7_isFile 1 = .ok (.iconst 0, 1) := by decide +kernel
theorem dX7_isFile_2 : decode cX7_isFile 2 = .ok (.bipush 7, 2) := by decide +kernel
theorem dX7_isFile_4 : decode cX7_isFile 4 = .ok (.invokestatic 25, 3) := by decide +kernel
theorem dX7_isFile_7 : decode cX7_isFile 7 = .ok (.ifCond .eq 17, 3) := by decide +kernel
theorem dX7_isFile_10 : decode cX7_isFile 10 = .ok (.aload_n 0, 1) := by decide +kernel
theorem dX7_isFile_11 : decode cX7_isFile 11 = .ok (.iload_n 1, 1) := by decide +kernel
theorem dX7_isFile_12 : decode cX7_isFile 12 = .ok (.iconst 0, 1) := by decide +kernel
theorem dX7_isFile_13 : decode cX7_isFile 13 = .ok (.invokevirtual 29, 3) := by decide +kernel
theorem dX7_isFile_16 : decode cX7_isFile 16 = .ok (.iconst 1, 1) := by decide +kernel
theorem dX7_isFile_17 : decode cX7_isFile 17 = .ok (.if_icmp .ne 7, 3) := by decide +kernel
theorem dX7_isFile_20 : decode cX7_isFile 20 = .ok (.iconst 1, 1) := by decide +kernel
theorem dX7_isFile_21 : decode cX7_isFile 21 = .ok (.goto 4, 3) := by decide +kernel
theorem dX7_isFile_24 : decode cX7_isFile 24 = .ok (.iconst 0, 1) := by decide +kernel
theorem dX7_isFile_25 : decode cX7_isFile 25 = .ok (.ireturn, 1) := by decide +kernel
theorem dX7_at_0 : decode cX7_at 0 = .ok (.sipush 192, 3) := by decide +kernel
theorem dX7_at_3 : decode cX7_at 3 = .ok (.bipush 30, 2) := by decide +kernel
theorem dX7_at_5 : decode cX7_at 5 = .ok (.iload_n 0, 1) := by decide +kernel
theorem dX7_at_6 : decode cX7_at 6 = .ok (.imul, 1) := by decide +kernel
theorem dX7_at_7 : decode cX7_at 7 = .ok (.iadd, 1) := by decide +kernel
theorem dX7_at_8 : decode cX7_at 8 = .ok (.iload_n 1, 1) := by decide +kernel
theorem dX7_at_9 : decode cX7_at 9 = .ok (.iadd, 1) := by decide +kernel
theorem dX7_at_10 : decode cX7_at 10 = .ok (.ireturn, 1) := by decide +kernel
theorem dX7_of_0 : decode cX7_of 0 = .ok (.aload_n 0, 1) := by decide +kernel
theorem dX7_of_1 : decode cX7_of 1 = .ok (.getfield 7, 3) := by decide +kernel
theorem dX7_of_4 : decode cX7_of 4 = .ok (.iload_n 1, 1) := by decide +kernel
theorem dX7_of_5 : decode cX7_of 5 = .ok (.iload_n 2, 1) := by decide +kernel
theorem dX7_of_6 : decode cX7_of 6 = .ok (.invokestatic 33, 3) := by decide +kernel
theorem dX7_of_9 : decode cX7_of 9 = .ok (.iaload, 1) := by decide +kernel
theorem dX7_of_10 : decode cX7_of 10 = .ok (.ireturn, 1) := by decide +kernel
theorem dX7_fragments_0 : decode cX7_fragments 0 = .ok (.aload_n 0, 1) := by decide +kernel
theorem dX7_fragments_1 : decode cX7_fragments 1 = .ok (.iload_n 1, 1) := by decide +kernel
theorem dX7_fragments_2 : decode cX7_fragments 2 = .ok (.iconst 2, 1) := by decide +kernel
theorem dX7_fragments_3 : decode cX7_fragments 3 = .ok (.invokevirtual 29, 3) := by decide +kernel
theorem dX7_fragments_6 : decode cX7_fragments 6 = .ok (.aload_n 0, 1) := by decide +kernel
theorem dX7_fragments_7 : decode cX7_fragments 7 = .ok (.iload_n 1, 1) := by decide +kernel
theorem dX7_fragments_8 : decode cX7_fragments 8 = .ok (.iconst 3, 1) := by decide +kernel
theorem dX7_fragments_9 : decode cX7_fragments 9 = .ok (.invokevirtual 29, 3) := by decide +kernel
theorem dX7_fragments_12 : decode cX7_fragments 12 = .ok (.iadd, 1) := by decide +kernel
theorem dX7_fragments_13 : decode cX7_fragments 13 = .ok (.ireturn, 1) := by decide +kernel
theorem dX7_isOnline_0 : decode cX7_isOnline 0 = .ok (.aload_n 0, 1) := by decide +kernel
theorem dX7_isOnline_1 : decode cX7_isOnline 1 = .ok (.getfield 7, 3) := by decide +kernel
theorem dX7_isOnline_4 : decode cX7_isOnline 4 = .ok (.iconst 4, 1) := by decide +kernel
theorem dX7_isOnline_5 : decode cX7_isOnline 5 = .ok (.iload_n 1, 1) := by decide +kernel
theorem dX7_isOnline_6 : decode cX7_isOnline 6 = .ok (.imul, 1) := by decide +kernel
theorem dX7_isOnline_7 : decode cX7_isOnline 7 = .ok (.iconst 2, 1) := by decide +kernel
theorem dX7_isOnline_8 : decode cX7_isOnline 8 = .ok (.iadd, 1) := by decide +kernel
theorem dX7_isOnline_9 : decode cX7_isOnline 9 = .ok (.iaload, 1) := by decide +kernel
theorem dX7_isOnline_10 : decode cX7_isOnline 10 = .ok (.iconst 1, 1) := by decide +kernel
theorem dX7_isOnline_11 : decode cX7_isOnline 11 = .ok (.if_icmp .ne 7, 3) := by decide +kernel
theorem dX7_isOnline_14 : decode cX7_isOnline 14 = .ok (.iconst 1, 1) := by decide +kernel
theorem dX7_isOnline_15 : decode cX7_isOnline 15 = .ok (.goto 4, 3) := by decide +kernel
theorem dX7_isOnline_18 : decode cX7_isOnline 18 = .ok (.iconst 0, 1) := by decide +kernel
theorem dX7_isOnline_19 : decode cX7_isOnline 19 = .ok (.ireturn, 1) := by decide +kernel
theorem dX7_keeps_0 : decode cX7_keeps 0 = .ok (.aload_n 0, 1) := by decide +kernel
theorem dX7_keeps_1 : decode cX7_keeps 1 = .ok (.getfield 36, 3) := by decide +kernel
theorem dX7_keeps_4 : decode cX7_keeps 4 = .ok (.iconst 5, 1) := by decide +kernel
theorem dX7_keeps_5 : decode cX7_keeps 5 = .ok (.if_icmp .ne 44, 3) := by decide +kernel
theorem dX7_keeps_8 : decode cX7_keeps 8 = .ok (.iconst 0, 1) := by decide +kernel
theorem dX7_keeps_9 : decode cX7_keeps 9 = .ok (.istore_n 1, 1) := by decide +kernel
theorem dX7_keeps_10 : decode cX7_keeps 10 = .ok (.iload_n 1, 1) := by decide +kernel
theorem dX7_keeps_11 : decode cX7_keeps 11 = .ok (.sipush 1756, 3) := by decide +kernel
theorem dX7_keeps_14 : decode cX7_keeps 14 = .ok (.if_icmp .ge 25, 3) := by decide +kernel
theorem dX7_keeps_17 : decode cX7_keeps 17 = .ok (.aload_n 0, 1) := by decide +kernel
theorem dX7_keeps_18 : decode cX7_keeps 18 = .ok (.getfield 19, 3) := by decide +kernel
theorem dX7_keeps_21 : decode cX7_keeps 21 = .ok (.iload_n 1, 1) := by decide +kernel
theorem dX7_keeps_22 : decode cX7_keeps 22 = .ok (.aload_n 0, 1) := by decide +kernel
theorem dX7_keeps_23 : decode cX7_keeps 23 = .ok (.getfield 19, 3) := by decide +kernel
theorem dX7_keeps_26 : decode cX7_keeps 26 = .ok (.sipush 439, 3) := by decide +kernel
theorem dX7_keeps_29 : decode cX7_keeps 29 = .ok (.iload_n 1, 1) := by decide +kernel
theorem dX7_keeps_30 : decode cX7_keeps 30 = .ok (.iadd, 1) := by decide +kernel
theorem dX7_keeps_31 : decode cX7_keeps 31 = .ok (.iaload, 1) := by decide +kernel
theorem dX7_keeps_32 : decode cX7_keeps 32 = .ok (.iastore, 1) := by decide +kernel
theorem dX7_keeps_33 : decode cX7_keeps 33 = .ok (.iinc 1 1, 3) := by decide +kernel
theorem dX7_keeps_36 : decode cX7_keeps 36 = .ok (.goto (-26), 3) := by decide +kernel
theorem dX7_keeps_39 : decode cX7_keeps 39 = .ok (.aload_n 0, 1) := by decide +kernel
theorem dX7_keeps_40 : decode cX7_keeps 40 = .ok (.dup, 1) := by decide +kernel
theorem dX7_keeps_41 : decode cX7_keeps 41 = .ok (.getfield 36, 3) := by decide +kernel
theorem dX7_keeps_44 : decode cX7_keeps 44 = .ok (.iconst 1, 1) := by decide +kernel
theorem dX7_keeps_45 : decode cX7_keeps 45 = .ok (.isub, 1) := by decide +kernel
theorem dX7_keeps_46 : decode cX7_keeps 46 = .ok (.putfield 36, 3) := by decide +kernel
theorem dX7_keeps_49 : decode cX7_keeps 49 = .ok (.iconst 0, 1) := by decide +kernel
theorem dX7_keeps_50 : decode cX7_keeps 50 = .ok (.istore_n 1, 1) := by decide +kernel
theorem dX7_keeps_51 : decode cX7_keeps 51 = .ok (.iload_n 1, 1) := by decide +kernel
theorem dX7_keeps_52 : decode cX7_keeps 52 = .ok (.sipush 439, 3) := by decide +kernel
theorem dX7_keeps_55 : decode cX7_keeps 55 = .ok (.if_icmp .ge 30, 3) := by decide +kernel
theorem dX7_keeps_58 : decode cX7_keeps 58 = .ok (.aload_n 0, 1) := by decide +kernel
theorem dX7_keeps_59 : decode cX7_keeps 59 = .ok (.getfield 19, 3) := by decide +kernel
theorem dX7_keeps_62 : decode cX7_keeps 62 = .ok (.sipush 439, 3) := by decide +kernel
theorem dX7_keeps_65 : decode cX7_keeps 65 = .ok (.aload_n 0, 1) := by decide +kernel
theorem dX7_keeps_66 : decode cX7_keeps 66 = .ok (.getfield 36, 3) := by decide +kernel
theorem dX7_keeps_69 : decode cX7_keeps 69 = .ok (.imul, 1) := by decide +kernel
theorem dX7_keeps_70 : decode cX7_keeps 70 = .ok (.iload_n 1, 1) := by decide +kernel
theorem dX7_keeps_71 : decode cX7_keeps 71 = .ok (.iadd, 1) := by decide +kernel
theorem dX7_keeps_72 : decode cX7_keeps 72 = .ok (.aload_n 0, 1) := by decide +kernel
theorem dX7_keeps_73 : decode cX7_keeps 73 = .ok (.getfield 7, 3) := by decide +kernel
theorem dX7_keeps_76 : decode cX7_keeps 76 = .ok (.iload_n 1, 1) := by decide +kernel
theorem dX7_keeps_77 : decode cX7_keeps 77 = .ok (.iaload, 1) := by decide +kernel
theorem dX7_keeps_78 : decode cX7_keeps 78 = .ok (.iastore, 1) := by decide +kernel
theorem dX7_keeps_79 : decode cX7_keeps 79 = .ok (.iinc 1 1, 3) := by decide +kernel
theorem dX7_keeps_82 : decode cX7_keeps 82 = .ok (.goto (-31), 3) := by decide +kernel
theorem dX7_keeps_85 : decode cX7_keeps 85 = .ok (.aload_n 0, 1) := by decide +kernel
theorem dX7_keeps_86 : decode cX7_keeps 86 = .ok (.dup, 1) := by decide +kernel
theorem dX7_keeps_87 : decode cX7_keeps 87 = .ok (.getfield 36, 3) := by decide +kernel
theorem dX7_keeps_90 : decode cX7_keeps 90 = .ok (.iconst 1, 1) := by decide +kernel
theorem dX7_keeps_91 : decode cX7_keeps 91 = .ok (.iadd, 1) := by decide +kernel
theorem dX7_keeps_92 : decode cX7_keeps 92 = .ok (.putfield 36, 3) := by decide +kernel
theorem dX7_keeps_95 : decode cX7_keeps 95 = .ok (.return_, 1) := by decide +kernel
theorem dX7_balanceAt_0 : decode cX7_balanceAt 0 = .ok (.bipush 48, 2) := by decide +kernel
theorem dX7_balanceAt_2 : decode cX7_balanceAt 2 = .ok (.bipush 12, 2) := by decide +kernel
theorem dX7_balanceAt_4 : decode cX7_balanceAt 4 = .ok (.iload_n 0, 1) := by decide +kernel
theorem dX7_balanceAt_5 : decode cX7_balanceAt 5 = .ok (.imul, 1) := by decide +kernel
theorem dX7_balanceAt_6 : decode cX7_balanceAt 6 = .ok (.iadd, 1) := by decide +kernel
theorem dX7_balanceAt_7 : decode cX7_balanceAt 7 = .ok (.iload_n 1, 1) := by decide +kernel
theorem dX7_balanceAt_8 : decode cX7_balanceAt 8 = .ok (.iadd, 1) := by decide +kernel
theorem dX7_balanceAt_9 : decode cX7_balanceAt 9 = .ok (.ireturn, 1) := by decide +kernel
theorem dX7_owes_0 : decode cX7_owes 0 = .ok (.iload_n 1, 1) := by decide +kernel
theorem dX7_owes_1 : decode cX7_owes 1 = .ok (.iload_n 2, 1) := by decide +kernel
theorem dX7_owes_2 : decode cX7_owes 2 = .ok (.if_icmp .eq 31, 3) := by decide +kernel
theorem dX7_owes_5 : decode cX7_owes 5 = .ok (.aload_n 0, 1) := by decide +kernel
theorem dX7_owes_6 : decode cX7_owes 6 = .ok (.getfield 7, 3) := by decide +kernel
theorem dX7_owes_9 : decode cX7_owes 9 = .ok (.iload_n 1, 1) := by decide +kernel
theorem dX7_owes_10 : decode cX7_owes 10 = .ok (.iload_n 2, 1) := by decide +kernel
theorem dX7_owes_11 : decode cX7_owes 11 = .ok (.invokestatic 40, 3) := by decide +kernel
theorem dX7_owes_14 : decode cX7_owes 14 = .ok (.dup2, 1) := by decide +kernel
theorem dX7_owes_15 : decode cX7_owes 15 = .ok (.iaload, 1) := by decide +kernel
theorem dX7_owes_16 : decode cX7_owes 16 = .ok (.iload_n 3, 1) := by decide +kernel
theorem dX7_owes_17 : decode cX7_owes 17 = .ok (.iadd, 1) := by decide +kernel
theorem dX7_owes_18 : decode cX7_owes 18 = .ok (.iastore, 1) := by decide +kernel
theorem dX7_owes_19 : decode cX7_owes 19 = .ok (.aload_n 0, 1) := by decide +kernel
theorem dX7_owes_20 : decode cX7_owes 20 = .ok (.getfield 7, 3) := by decide +kernel
theorem dX7_owes_23 : decode cX7_owes 23 = .ok (.iload_n 2, 1) := by decide +kernel
theorem dX7_owes_24 : decode cX7_owes 24 = .ok (.iload_n 1, 1) := by decide +kernel
theorem dX7_owes_25 : decode cX7_owes 25 = .ok (.invokestatic 40, 3) := by decide +kernel
theorem dX7_owes_28 : decode cX7_owes 28 = .ok (.dup2, 1) := by decide +kernel
theorem dX7_owes_29 : decode cX7_owes 29 = .ok (.iaload, 1) := by decide +kernel
theorem dX7_owes_30 : decode cX7_owes 30 = .ok (.iload_n 3, 1) := by decide +kernel
theorem dX7_owes_31 : decode cX7_owes 31 = .ok (.isub, 1) := by decide +kernel
theorem dX7_owes_32 : decode cX7_owes 32 = .ok (.iastore, 1) := by decide +kernel
theorem dX7_owes_33 : decode cX7_owes 33 = .ok (.return_, 1) := by decide +kernel
theorem dX7_free_0 : decode cX7_free 0 = .ok (.aload_n 0, 1) := by decide +kernel
theorem dX7_free_1 : decode cX7_free 1 = .ok (.getfield 7, 3) := by decide +kernel
theorem dX7_free_4 : decode cX7_free 4 = .ok (.iconst 4, 1) := by decide +kernel
theorem dX7_free_5 : decode cX7_free 5 = .ok (.iload_n 1, 1) := by decide +kernel
theorem dX7_free_6 : decode cX7_free 6 = .ok (.imul, 1) := by decide +kernel
theorem dX7_free_7 : decode cX7_free 7 = .ok (.iconst 1, 1) := by decide +kernel
theorem dX7_free_8 : decode cX7_free 8 = .ok (.iadd, 1) := by decide +kernel
theorem dX7_free_9 : decode cX7_free 9 = .ok (.iaload, 1) := by decide +kernel
theorem dX7_free_10 : decode cX7_free 10 = .ok (.istore_n 2, 1) := by decide +kernel
theorem dX7_free_11 : decode cX7_free 11 = .ok (.iconst 0, 1) := by decide +kernel
theorem dX7_free_12 : decode cX7_free 12 = .ok (.istore_n 3, 1) := by decide +kernel
theorem dX7_free_13 : decode cX7_free 13 = .ok (.iload_n 3, 1) := by decide +kernel
theorem dX7_free_14 : decode cX7_free 14 = .ok (.bipush 8, 2) := by decide +kernel
theorem dX7_free_16 : decode cX7_free 16 = .ok (.if_icmp .ge 58, 3) := by decide +kernel
theorem dX7_free_19 : decode cX7_free 19 = .ok (.iconst 0, 1) := by decide +kernel
theorem dX7_free_20 : decode cX7_free 20 = .ok (.istore 4, 2) := by decide +kernel
theorem dX7_free_22 : decode cX7_free 22 = .ok (.aload_n 0, 1) := by decide +kernel
theorem dX7_free_23 : decode cX7_free 23 = .ok (.iload_n 3, 1) := by decide +kernel
theorem dX7_free_24 : decode cX7_free 24 = .ok (.invokevirtual 43, 3) := by decide +kernel
theorem dX7_free_27 : decode cX7_free 27 = .ok (.ifCond .eq 41, 3) := by decide +kernel
theorem dX7_free_30 : decode cX7_free 30 = .ok (.iload 4, 2) := by decide +kernel
theorem dX7_free_32 : decode cX7_free 32 = .ok (.aload_n 0, 1) := by decide +kernel
theorem dX7_free_33 : decode cX7_free 33 = .ok (.iload_n 3, 1) := by decide +kernel
theorem dX7_free_34 : decode cX7_free 34 = .ok (.invokevirtual 47, 3) := by decide +kernel
theorem dX7_free_37 : decode cX7_free 37 = .ok (.if_icmp .ge 31, 3) := by decide +kernel
theorem dX7_free_40 : decode cX7_free 40 = .ok (.iload_n 2, 1) := by decide +kernel
theorem dX7_free_41 : decode cX7_free 41 = .ok (.aload_n 0, 1) := by decide +kernel
theorem dX7_free_42 : decode cX7_free 42 = .ok (.iload_n 3, 1) := by decide +kernel
theorem dX7_free_43 : decode cX7_free 43 = .ok (.bipush 10, 2) := by decide +kernel
theorem dX7_free_45 : decode cX7_free 45 = .ok (.iload 4, 2) := by decide +kernel
theorem dX7_free_47 : decode cX7_free 47 = .ok (.iadd, 1) := by decide +kernel
theorem dX7_free_48 : decode cX7_free 48 = .ok (.invokevirtual 29, 3) := by decide +kernel
theorem dX7_free_51 : decode cX7_free 51 = .ok (.iload_n 1, 1) := by decide +kernel
theorem dX7_free_52 : decode cX7_free 52 = .ok (.if_icmp .ne 7, 3) := by decide +kernel
theorem dX7_free_55 : decode cX7_free 55 = .ok (.iconst 1, 1) := by decide +kernel
theorem dX7_free_56 : decode cX7_free 56 = .ok (.goto 4, 3) := by decide +kernel
theorem dX7_free_59 : decode cX7_free 59 = .ok (.iconst 0, 1) := by decide +kernel
theorem dX7_free_60 : decode cX7_free 60 = .ok (.isub, 1) := by decide +kernel
theorem dX7_free_61 : decode cX7_free 61 = .ok (.istore_n 2, 1) := by decide +kernel
theorem dX7_free_62 : decode cX7_free 62 = .ok (.iinc 4 1, 3) := by decide +kernel
theorem dX7_free_65 : decode cX7_free 65 = .ok (.goto (-43), 3) := by decide +kernel
theorem dX7_free_68 : decode cX7_free 68 = .ok (.iinc 3 1, 3) := by decide +kernel
theorem dX7_free_71 : decode cX7_free 71 = .ok (.goto (-58), 3) := by decide +kernel
theorem dX7_free_74 : decode cX7_free 74 = .ok (.iload_n 2, 1) := by decide +kernel
theorem dX7_free_75 : decode cX7_free 75 = .ok (.ireturn, 1) := by decide +kernel
theorem dX7_stores_0 : decode cX7_stores 0 = .ok (.iconst 0, 1) := by decide +kernel
theorem dX7_stores_1 : decode cX7_stores 1 = .ok (.istore_n 3, 1) := by decide +kernel
theorem dX7_stores_2 : decode cX7_stores 2 = .ok (.iconst 0, 1) := by decide +kernel
theorem dX7_stores_3 : decode cX7_stores 3 = .ok (.istore 4, 2) := by decide +kernel
theorem dX7_stores_5 : decode cX7_stores 5 = .ok (.iload 4, 2) := by decide +kernel
theorem dX7_stores_7 : decode cX7_stores 7 = .ok (.aload_n 0, 1) := by decide +kernel
theorem dX7_stores_8 : decode cX7_stores 8 = .ok (.iload_n 2, 1) := by decide +kernel
theorem dX7_stores_9 : decode cX7_stores 9 = .ok (.invokevirtual 47, 3) := by decide +kernel
theorem dX7_stores_12 : decode cX7_stores 12 = .ok (.if_icmp .ge 33, 3) := by decide +kernel
theorem dX7_stores_15 : decode cX7_stores 15 = .ok (.iload_n 3, 1) := by decide +kernel
theorem dX7_stores_16 : decode cX7_stores 16 = .ok (.ifCond .ne 17, 3) := by decide +kernel
theorem dX7_stores_19 : decode cX7_stores 19 = .ok (.aload_n 0, 1) := by decide +kernel
theorem dX7_stores_20 : decode cX7_stores 20 = .ok (.iload_n 2, 1) := by decide +kernel
theorem dX7_stores_21 : decode cX7_stores 21 = .ok (.bipush 10, 2) := by decide +kernel
theorem dX7_stores_23 : decode cX7_stores 23 = .ok (.iload 4, 2) := by decide +kernel
theorem dX7_stores_25 : decode cX7_stores 25 = .ok (.iadd, 1) := by decide +kernel
theorem dX7_stores_26 : decode cX7_stores 26 = .ok (.invokevirtual 29, 3) := by decide +kernel
theorem dX7_stores_29 : decode cX7_stores 29 = .ok (.iload_n 1, 1) := by decide +kernel
theorem dX7_stores_30 : decode cX7_stores 30 = .ok (.if_icmp .ne 7, 3) := by decide +kernel
theorem dX7_stores_33 : decode cX7_stores 33 = .ok (.iconst 1, 1) := by decide +kernel
theorem dX7_stores_34 : decode cX7_stores 34 = .ok (.goto 4, 3) := by decide +kernel
theorem dX7_stores_37 : decode cX7_stores 37 = .ok (.iconst 0, 1) := by decide +kernel
theorem dX7_stores_38 : decode cX7_stores 38 = .ok (.istore_n 3, 1) := by decide +kernel
theorem dX7_stores_39 : decode cX7_stores 39 = .ok (.iinc 4 1, 3) := by decide +kernel
theorem dX7_stores_42 : decode cX7_stores 42 = .ok (.goto (-37), 3) := by decide +kernel
theorem dX7_stores_45 : decode cX7_stores 45 = .ok (.iload_n 3, 1) := by decide +kernel
theorem dX7_stores_46 : decode cX7_stores 46 = .ok (.ireturn, 1) := by decide +kernel
theorem dX7_isGood_0 : decode cX7_isGood 0 = .ok (.aload_n 0, 1) := by decide +kernel
theorem dX7_isGood_1 : decode cX7_isGood 1 = .ok (.iload_n 1, 1) := by decide +kernel
theorem dX7_isGood_2 : decode cX7_isGood 2 = .ok (.bipush 10, 2) := by decide +kernel
theorem dX7_isGood_4 : decode cX7_isGood 4 = .ok (.iload_n 2, 1) := by decide +kernel
theorem dX7_isGood_5 : decode cX7_isGood 5 = .ok (.iadd, 1) := by decide +kernel
theorem dX7_isGood_6 : decode cX7_isGood 6 = .ok (.invokevirtual 29, 3) := by decide +kernel
theorem dX7_isGood_9 : decode cX7_isGood 9 = .ok (.istore_n 3, 1) := by decide +kernel
theorem dX7_isGood_10 : decode cX7_isGood 10 = .ok (.iload_n 3, 1) := by decide +kernel
theorem dX7_isGood_11 : decode cX7_isGood 11 = .ok (.ifCond .lt 27, 3) := by decide +kernel
theorem dX7_isGood_14 : decode cX7_isGood 14 = .ok (.aload_n 0, 1) := by decide +kernel
theorem dX7_isGood_15 : decode cX7_isGood 15 = .ok (.iload_n 1, 1) := by decide +kernel
theorem dX7_isGood_16 : decode cX7_isGood 16 = .ok (.bipush 20, 2) := by decide +kernel
theorem dX7_isGood_18 : decode cX7_isGood 18 = .ok (.iload_n 2, 1) := by decide +kernel
theorem dX7_isGood_19 : decode cX7_isGood 19 = .ok (.iadd, 1) := by decide +kernel
theorem dX7_isGood_20 : decode cX7_isGood 20 = .ok (.invokevirtual 29, 3) := by decide +kernel
theorem dX7_isGood_23 : decode cX7_isGood 23 = .ok (.ifCond .ne 15, 3) := by decide +kernel
theorem dX7_isGood_26 : decode cX7_isGood 26 = .ok (.aload_n 0, 1) := by decide +kernel
theorem dX7_isGood_27 : decode cX7_isGood 27 = .ok (.iload_n 3, 1) := by decide +kernel
theorem dX7_isGood_28 : decode cX7_isGood 28 = .ok (.invokevirtual 51, 3) := by decide +kernel
theorem dX7_isGood_31 : decode cX7_isGood 31 = .ok (.ifCond .eq 7, 3) := by decide +kernel
theorem dX7_isGood_34 : decode cX7_isGood 34 = .ok (.iconst 1, 1) := by decide +kernel
theorem dX7_isGood_35 : decode cX7_isGood 35 = .ok (.goto 4, 3) := by decide +kernel
theorem dX7_isGood_38 : decode cX7_isGood 38 = .ok (.iconst 0, 1) := by decide +kernel
theorem dX7_isGood_39 : decode cX7_isGood 39 = .ok (.ireturn, 1) := by decide +kernel
theorem dX7_good_0 : decode cX7_good 0 = .ok (.iconst 0, 1) := by decide +kernel
theorem dX7_good_1 : decode cX7_good 1 = .ok (.istore_n 2, 1) := by decide +kernel
theorem dX7_good_2 : decode cX7_good 2 = .ok (.iconst 0, 1) := by decide +kernel
theorem dX7_good_3 : decode cX7_good 3 = .ok (.istore_n 3, 1) := by decide +kernel
theorem dX7_good_4 : decode cX7_good 4 = .ok (.iload_n 3, 1) := by decide +kernel
theorem dX7_good_5 : decode cX7_good 5 = .ok (.aload_n 0, 1) := by decide +kernel
theorem dX7_good_6 : decode cX7_good 6 = .ok (.iload_n 1, 1) := by decide +kernel
theorem dX7_good_7 : decode cX7_good 7 = .ok (.invokevirtual 47, 3) := by decide +kernel
theorem dX7_good_10 : decode cX7_good 10 = .ok (.if_icmp .ge 26, 3) := by decide +kernel
theorem dX7_good_13 : decode cX7_good 13 = .ok (.iload_n 2, 1) := by decide +kernel
theorem dX7_good_14 : decode cX7_good 14 = .ok (.aload_n 0, 1) := by decide +kernel
theorem dX7_good_15 : decode cX7_good 15 = .ok (.iload_n 1, 1) := by decide +kernel
theorem dX7_good_16 : decode cX7_good 16 = .ok (.iload_n 3, 1) := by decide +kernel
theorem dX7_good_17 : decode cX7_good 17 = .ok (.invokevirtual 54, 3) := by decide +kernel
theorem dX7_good_20 : decode cX7_good 20 = .ok (.ifCond .eq 7, 3) := by decide +kernel
theorem dX7_good_23 : decode cX7_good 23 = .ok (.iconst 1, 1) := by decide +kernel
theorem dX7_good_24 : decode cX7_good 24 = .ok (.goto 4, 3) := by decide +kernel
theorem dX7_good_27 : decode cX7_good 27 = .ok (.iconst 0, 1) := by decide +kernel
theorem dX7_good_28 : decode cX7_good 28 = .ok (.iadd, 1) := by decide +kernel
theorem dX7_good_29 : decode cX7_good 29 = .ok (.istore_n 2, 1) := by decide +kernel
theorem dX7_good_30 : decode cX7_good 30 = .ok (.iinc 3 1, 3) := by decide +kernel
theorem dX7_good_33 : decode cX7_good 33 = .ok (.goto (-29), 3) := by decide +kernel
theorem dX7_good_36 : decode cX7_good 36 = .ok (.iload_n 2, 1) := by decide +kernel
theorem dX7_good_37 : decode cX7_good 37 = .ok (.ireturn, 1) := by decide +kernel
theorem dX7_isSafe_0 : decode cX7_isSafe 0 = .ok (.aload_n 0, 1) := by decide +kernel
theorem dX7_isSafe_1 : decode cX7_isSafe 1 = .ok (.iload_n 1, 1) := by decide +kernel
theorem dX7_isSafe_2 : decode cX7_isSafe 2 = .ok (.invokevirtual 58, 3) := by decide +kernel
theorem dX7_isSafe_5 : decode cX7_isSafe 5 = .ok (.aload_n 0, 1) := by decide +kernel
theorem dX7_isSafe_6 : decode cX7_isSafe 6 = .ok (.iload_n 1, 1) := by decide +kernel
theorem dX7_isSafe_7 : decode cX7_isSafe 7 = .ok (.iconst 2, 1) := by decide +kernel
theorem dX7_isSafe_8 : decode cX7_isSafe 8 = .ok (.invokevirtual 29, 3) := by decide +kernel
theorem dX7_isSafe_11 : decode cX7_isSafe 11 = .ok (.if_icmp .lt 7, 3) := by decide +kernel
theorem dX7_isSafe_14 : decode cX7_isSafe 14 = .ok (.iconst 1, 1) := by decide +kernel
theorem dX7_isSafe_15 : decode cX7_isSafe 15 = .ok (.goto 4, 3) := by decide +kernel
theorem dX7_isSafe_18 : decode cX7_isSafe 18 = .ok (.iconst 0, 1) := by decide +kernel
theorem dX7_isSafe_19 : decode cX7_isSafe 19 = .ok (.ireturn, 1) := by decide +kernel
theorem dX7_power_0 : decode cX7_power 0 = .ok (.iconst 1, 1) := by decide +kernel
theorem dX7_power_1 : decode cX7_power 1 = .ok (.istore_n 2, 1) := by decide +kernel
theorem dX7_power_2 : decode cX7_power 2 = .ok (.iconst 0, 1) := by decide +kernel
theorem dX7_power_3 : decode cX7_power 3 = .ok (.istore_n 3, 1) := by decide +kernel
theorem dX7_power_4 : decode cX7_power 4 = .ok (.iload_n 3, 1) := by decide +kernel
theorem dX7_power_5 : decode cX7_power 5 = .ok (.iload_n 1, 1) := by decide +kernel
theorem dX7_power_6 : decode cX7_power 6 = .ok (.if_icmp .ge 17, 3) := by decide +kernel
theorem dX7_power_9 : decode cX7_power 9 = .ok (.iload_n 2, 1) := by decide +kernel
theorem dX7_power_10 : decode cX7_power 10 = .ok (.iload_n 0, 1) := by decide +kernel
theorem dX7_power_11 : decode cX7_power 11 = .ok (.imul, 1) := by decide +kernel
theorem dX7_power_12 : decode cX7_power 12 = .ok (.sipush 257, 3) := by decide +kernel
theorem dX7_power_15 : decode cX7_power 15 = .ok (.irem, 1) := by decide +kernel
theorem dX7_power_16 : decode cX7_power 16 = .ok (.istore_n 2, 1) := by decide +kernel
theorem dX7_power_17 : decode cX7_power 17 = .ok (.iinc 3 1, 3) := by decide +kernel
theorem dX7_power_20 : decode cX7_power 20 = .ok (.goto (-16), 3) := by decide +kernel
theorem dX7_power_23 : decode cX7_power 23 = .ok (.iload_n 2, 1) := by decide +kernel
theorem dX7_power_24 : decode cX7_power 24 = .ok (.ireturn, 1) := by decide +kernel
theorem dX7_correct_0 : decode cX7_correct 0 = .ok (.aload_n 0, 1) := by decide +kernel
theorem dX7_correct_1 : decode cX7_correct 1 = .ok (.iload_n 1, 1) := by decide +kernel
theorem dX7_correct_2 : decode cX7_correct 2 = .ok (.iconst 2, 1) := by decide +kernel
theorem dX7_correct_3 : decode cX7_correct 3 = .ok (.invokevirtual 29, 3) := by decide +kernel
theorem dX7_correct_6 : decode cX7_correct 6 = .ok (.istore_n 3, 1) := by decide +kernel
theorem dX7_correct_7 : decode cX7_correct 7 = .ok (.iload_n 2, 1) := by decide +kernel
theorem dX7_correct_8 : decode cX7_correct 8 = .ok (.iload_n 3, 1) := by decide +kernel
theorem dX7_correct_9 : decode cX7_correct 9 = .ok (.if_icmp .ge 12, 3) := by decide +kernel
theorem dX7_correct_12 : decode cX7_correct 12 = .ok (.aload_n 0, 1) := by decide +kernel
theorem dX7_correct_13 : decode cX7_correct 13 = .ok (.iload_n 1, 1) := by decide +kernel
theorem dX7_correct_14 : decode cX7_correct 14 = .ok (.iconst 4, 1) := by decide +kernel
theorem dX7_correct_15 : decode cX7_correct 15 = .ok (.iload_n 2, 1) := by decide +kernel
theorem dX7_correct_16 : decode cX7_correct 16 = .ok (.iadd, 1) := by decide +kernel
theorem dX7_correct_17 : decode cX7_correct 17 = .ok (.invokevirtual 29, 3) := by decide +kernel
theorem dX7_correct_20 : decode cX7_correct 20 = .ok (.ireturn, 1) := by decide +kernel
theorem dX7_correct_21 : decode cX7_correct 21 = .ok (.iconst 0, 1) := by decide +kernel
theorem dX7_correct_22 : decode cX7_correct 22 = .ok (.istore 4, 2) := by decide +kernel
theorem dX7_correct_24 : decode cX7_correct 24 = .ok (.iconst 0, 1) := by decide +kernel
theorem dX7_correct_25 : decode cX7_correct 25 = .ok (.istore 5, 2) := by decide +kernel
theorem dX7_correct_27 : decode cX7_correct 27 = .ok (.iload 5, 2) := by decide +kernel
theorem dX7_correct_29 : decode cX7_correct 29 = .ok (.iload_n 3, 1) := by decide +kernel
theorem dX7_correct_30 : decode cX7_correct 30 = .ok (.if_icmp .ge 34, 3) := by decide +kernel
theorem dX7_correct_33 : decode cX7_correct 33 = .ok (.iload 4, 2) := by decide +kernel
theorem dX7_correct_35 : decode cX7_correct 35 = .ok (.aload_n 0, 1) := by decide +kernel
theorem dX7_correct_36 : decode cX7_correct 36 = .ok (.iload_n 1, 1) := by decide +kernel
theorem dX7_correct_37 : decode cX7_correct 37 = .ok (.iconst 4, 1) := by decide +kernel
theorem dX7_correct_38 : decode cX7_correct 38 = .ok (.iload 5, 2) := by decide +kernel
theorem dX7_correct_40 : decode cX7_correct 40 = .ok (.iadd, 1) := by decide +kernel
theorem dX7_correct_41 : decode cX7_correct 41 = .ok (.invokevirtual 29, 3) := by decide +kernel
theorem dX7_correct_44 : decode cX7_correct 44 = .ok (.iload 5, 2) := by decide +kernel
theorem dX7_correct_46 : decode cX7_correct 46 = .ok (.iconst 1, 1) := by decide +kernel
theorem dX7_correct_47 : decode cX7_correct 47 = .ok (.iadd, 1) := by decide +kernel
theorem dX7_correct_48 : decode cX7_correct 48 = .ok (.iload_n 2, 1) := by decide +kernel
theorem dX7_correct_49 : decode cX7_correct 49 = .ok (.iload_n 3, 1) := by decide +kernel
theorem dX7_correct_50 : decode cX7_correct 50 = .ok (.isub, 1) := by decide +kernel
theorem dX7_correct_51 : decode cX7_correct 51 = .ok (.invokestatic 61, 3) := by decide +kernel
theorem dX7_correct_54 : decode cX7_correct 54 = .ok (.imul, 1) := by decide +kernel
theorem dX7_correct_55 : decode cX7_correct 55 = .ok (.iadd, 1) := by decide +kernel
theorem dX7_correct_56 : decode cX7_correct 56 = .ok (.istore 4, 2) := by decide +kernel
theorem dX7_correct_58 : decode cX7_correct 58 = .ok (.iinc 5 1, 3) := by decide +kernel
theorem dX7_correct_61 : decode cX7_correct 61 = .ok (.goto (-34), 3) := by decide +kernel
theorem dX7_correct_64 : decode cX7_correct 64 = .ok (.iload 4, 2) := by decide +kernel
theorem dX7_correct_66 : decode cX7_correct 66 = .ok (.sipush 257, 3) := by decide +kernel
theorem dX7_correct_69 : decode cX7_correct 69 = .ok (.irem, 1) := by decide +kernel
theorem dX7_correct_70 : decode cX7_correct 70 = .ok (.ireturn, 1) := by decide +kernel
theorem dX7_valueOf_0 : decode cX7_valueOf 0 = .ok (.aload_n 0, 1) := by decide +kernel
theorem dX7_valueOf_1 : decode cX7_valueOf 1 = .ok (.iload_n 1, 1) := by decide +kernel
theorem dX7_valueOf_2 : decode cX7_valueOf 2 = .ok (.iload_n 2, 1) := by decide +kernel
theorem dX7_valueOf_3 : decode cX7_valueOf 3 = .ok (.invokevirtual 64, 3) := by decide +kernel
theorem dX7_valueOf_6 : decode cX7_valueOf 6 = .ok (.aload_n 0, 1) := by decide +kernel
theorem dX7_valueOf_7 : decode cX7_valueOf 7 = .ok (.iload_n 1, 1) := by decide +kernel
theorem dX7_valueOf_8 : decode cX7_valueOf 8 = .ok (.bipush 20, 2) := by decide +kernel
theorem dX7_valueOf_10 : decode cX7_valueOf 10 = .ok (.iload_n 2, 1) := by decide +kernel
theorem dX7_valueOf_11 : decode cX7_valueOf 11 = .ok (.iadd, 1) := by decide +kernel
theorem dX7_valueOf_12 : decode cX7_valueOf 12 = .ok (.invokevirtual 29, 3) := by decide +kernel
theorem dX7_valueOf_15 : decode cX7_valueOf 15 = .ok (.iadd, 1) := by decide +kernel
theorem dX7_valueOf_16 : decode cX7_valueOf 16 = .ok (.sipush 257, 3) := by decide +kernel
theorem dX7_valueOf_19 : decode cX7_valueOf 19 = .ok (.irem, 1) := by decide +kernel
theorem dX7_valueOf_20 : decode cX7_valueOf 20 = .ok (.ireturn, 1) := by decide +kernel
theorem dX7_places_0 : decode cX7_places 0 = .ok (.iconst (-1), 1) := by decide +kernel
theorem dX7_places_1 : decode cX7_places 1 = .ok (.istore 4, 2) := by decide +kernel
theorem dX7_places_3 : decode cX7_places 3 = .ok (.iconst 0, 1) := by decide +kernel
theorem dX7_places_4 : decode cX7_places 4 = .ok (.istore 5, 2) := by decide +kernel
theorem dX7_places_6 : decode cX7_places 6 = .ok (.iload 5, 2) := by decide +kernel
theorem dX7_places_8 : decode cX7_places 8 = .ok (.bipush 12, 2) := by decide +kernel
theorem dX7_places_10 : decode cX7_places 10 = .ok (.if_icmp .ge 125, 3) := by decide +kernel
theorem dX7_places_13 : decode cX7_places 13 = .ok (.aload_n 0, 1) := by decide +kernel
theorem dX7_places_14 : decode cX7_places 14 = .ok (.iload 5, 2) := by decide +kernel
theorem dX7_places_16 : decode cX7_places 16 = .ok (.invokevirtual 67, 3) := by decide +kernel
theorem dX7_places_19 : decode cX7_places 19 = .ok (.ifCond .eq 110, 3) := by decide +kernel
theorem dX7_places_22 : decode cX7_places 22 = .ok (.iload 5, 2) := by decide +kernel
theorem dX7_places_24 : decode cX7_places 24 = .ok (.iload_n 3, 1) := by decide +kernel
theorem dX7_places_25 : decode cX7_places 25 = .ok (.if_icmp .eq 104, 3) := by decide +kernel
theorem dX7_places_28 : decode cX7_places 28 = .ok (.aload_n 0, 1) := by decide +kernel
theorem dX7_places_29 : decode cX7_places 29 = .ok (.iload 5, 2) := by decide +kernel
theorem dX7_places_31 : decode cX7_places 31 = .ok (.invokevirtual 51, 3) := by decide +kernel
theorem dX7_places_34 : decode cX7_places 34 = .ok (.ifCond .eq 95, 3) := by decide +kernel
theorem dX7_places_37 : decode cX7_places 37 = .ok (.aload_n 0, 1) := by decide +kernel
theorem dX7_places_38 : decode cX7_places 38 = .ok (.iload 5, 2) := by decide +kernel
theorem dX7_places_40 : decode cX7_places 40 = .ok (.invokevirtual 70, 3) := by decide +kernel
theorem dX7_places_43 : decode cX7_places 43 = .ok (.ifCond .le 86, 3) := by decide +kernel
theorem dX7_places_46 : decode cX7_places 46 = .ok (.aload_n 0, 1) := by decide +kernel
theorem dX7_places_47 : decode cX7_places 47 = .ok (.iload 5, 2) := by decide +kernel
theorem dX7_places_49 : decode cX7_places 49 = .ok (.iload_n 1, 1) := by decide +kernel
theorem dX7_places_50 : decode cX7_places 50 = .ok (.invokevirtual 73, 3) := by decide +kernel
theorem dX7_places_53 : decode cX7_places 53 = .ok (.ifCond .ne 76, 3) := by decide +kernel
theorem dX7_places_56 : decode cX7_places 56 = .ok (.iload 4, 2) := by decide +kernel
theorem dX7_places_58 : decode cX7_places 58 = .ok (.ifCond .ge 7, 3) := by decide +kernel
theorem dX7_places_61 : decode cX7_places 61 = .ok (.iconst 1, 1) := by decide +kernel
theorem dX7_places_62 : decode cX7_places 62 = .ok (.goto 26, 3) := by decide +kernel
theorem dX7_places_65 : decode cX7_places 65 = .ok (.aload_n 0, 1) := by decide +kernel
theorem dX7_places_66 : decode cX7_places 66 = .ok (.getfield 7, 3) := by decide +kernel
theorem dX7_places_69 : decode cX7_places 69 = .ok (.iconst 4, 1) := by decide +kernel
theorem dX7_places_70 : decode cX7_places 70 = .ok (.iload 5, 2) := by decide +kernel
theorem dX7_places_72 : decode cX7_places 72 = .ok (.imul, 1) := by decide +kernel
theorem dX7_places_73 : decode cX7_places 73 = .ok (.iconst 3, 1) := by decide +kernel
theorem dX7_places_74 : decode cX7_places 74 = .ok (.iadd, 1) := by decide +kernel
theorem dX7_places_75 : decode cX7_places 75 = .ok (.iaload, 1) := by decide +kernel
theorem dX7_places_76 : decode cX7_places 76 = .ok (.aload_n 0, 1) := by decide +kernel
theorem dX7_places_77 : decode cX7_places 77 = .ok (.getfield 7, 3) := by decide +kernel
theorem dX7_places_80 : decode cX7_places 80 = .ok (.iconst 4, 1) := by decide +kernel
theorem dX7_places_81 : decode cX7_places 81 = .ok (.iload 4, 2) := by decide +kernel
theorem dX7_places_83 : decode cX7_places 83 = .ok (.imul, 1) := by decide +kernel
theorem dX7_places_84 : decode cX7_places 84 = .ok (.iconst 3, 1) := by decide +kernel
theorem dX7_places_85 : decode cX7_places 85 = .ok (.iadd, 1) := by decide +kernel
theorem dX7_places_86 : decode cX7_places 86 = .ok (.iaload, 1) := by decide +kernel
theorem dX7_places_87 : decode cX7_places 87 = .ok (.isub, 1) := by decide +kernel
theorem dX7_places_88 : decode cX7_places 88 = .ok (.istore 6, 2) := by decide +kernel
theorem dX7_places_90 : decode cX7_places 90 = .ok (.iload 6, 2) := by decide +kernel
theorem dX7_places_92 : decode cX7_places 92 = .ok (.ifCond .ne 19, 3) := by decide +kernel
theorem dX7_places_95 : decode cX7_places 95 = .ok (.aload_n 0, 1) := by decide +kernel
theorem dX7_places_96 : decode cX7_places 96 = .ok (.iload 5, 2) := by decide +kernel
theorem dX7_places_98 : decode cX7_places 98 = .ok (.invokevirtual 70, 3) := by decide +kernel
theorem dX7_places_101 : decode cX7_places 101 = .ok (.aload_n 0, 1) := by decide +kernel
theorem dX7_places_102 : decode cX7_places 102 = .ok (.iload 4, 2) := by decide +kernel
theorem dX7_places_104 : decode cX7_places 104 = .ok (.invokevirtual 70, 3) := by decide +kernel
theorem dX7_places_107 : decode cX7_places 107 = .ok (.isub, 1) := by decide +kernel
theorem dX7_places_108 : decode cX7_places 108 = .ok (.goto 5, 3) := by decide +kernel
theorem dX7_places_111 : decode cX7_places 111 = .ok (.iload 6, 2) := by decide +kernel
theorem dX7_places_113 : decode cX7_places 113 = .ok (.istore 6, 2) := by decide +kernel
theorem dX7_places_115 : decode cX7_places 115 = .ok (.iload 6, 2) := by decide +kernel
theorem dX7_places_117 : decode cX7_places 117 = .ok (.ifCond .le 8, 3) := by decide +kernel
theorem dX7_places_120 : decode cX7_places 120 = .ok (.iload 5, 2) := by decide +kernel
theorem dX7_places_122 : decode cX7_places 122 = .ok (.goto 5, 3) := by decide +kernel
theorem dX7_places_125 : decode cX7_places 125 = .ok (.iload 4, 2) := by decide +kernel
theorem dX7_places_127 : decode cX7_places 127 = .ok (.istore 4, 2) := by decide +kernel
theorem dX7_places_129 : decode cX7_places 129 = .ok (.iinc 5 1, 3) := by decide +kernel
theorem dX7_places_132 : decode cX7_places 132 = .ok (.goto (-126), 3) := by decide +kernel
theorem dX7_places_135 : decode cX7_places 135 = .ok (.aload_n 0, 1) := by decide +kernel
theorem dX7_places_136 : decode cX7_places 136 = .ok (.getfield 7, 3) := by decide +kernel
theorem dX7_places_139 : decode cX7_places 139 = .ok (.iload_n 1, 1) := by decide +kernel
theorem dX7_places_140 : decode cX7_places 140 = .ok (.bipush 10, 2) := by decide +kernel
theorem dX7_places_142 : decode cX7_places 142 = .ok (.iload_n 2, 1) := by decide +kernel
theorem dX7_places_143 : decode cX7_places 143 = .ok (.iadd, 1) := by decide +kernel
theorem dX7_places_144 : decode cX7_places 144 = .ok (.invokestatic 33, 3) := by decide +kernel
theorem dX7_places_147 : decode cX7_places 147 = .ok (.iload 4, 2) := by decide +kernel
theorem dX7_places_149 : decode cX7_places 149 = .ok (.iastore, 1) := by decide +kernel
theorem dX7_places_150 : decode cX7_places 150 = .ok (.iload 4, 2) := by decide +kernel
theorem dX7_places_152 : decode cX7_places 152 = .ok (.ifCond .ge 19, 3) := by decide +kernel
theorem dX7_places_155 : decode cX7_places 155 = .ok (.aload_n 0, 1) := by decide +kernel
theorem dX7_places_156 : decode cX7_places 156 = .ok (.getfield 7, 3) := by decide +kernel
theorem dX7_places_159 : decode cX7_places 159 = .ok (.iload_n 1, 1) := by decide +kernel
theorem dX7_places_160 : decode cX7_places 160 = .ok (.bipush 20, 2) := by decide +kernel
theorem dX7_places_162 : decode cX7_places 162 = .ok (.iload_n 2, 1) := by decide +kernel
theorem dX7_places_163 : decode cX7_places 163 = .ok (.iadd, 1) := by decide +kernel
theorem dX7_places_164 : decode cX7_places 164 = .ok (.invokestatic 33, 3) := by decide +kernel
theorem dX7_places_167 : decode cX7_places 167 = .ok (.iconst 0, 1) := by decide +kernel
theorem dX7_places_168 : decode cX7_places 168 = .ok (.iastore, 1) := by decide +kernel
theorem dX7_places_169 : decode cX7_places 169 = .ok (.iconst 0, 1) := by decide +kernel
theorem dX7_places_170 : decode cX7_places 170 = .ok (.ireturn, 1) := by decide +kernel
theorem dX7_places_171 : decode cX7_places 171 = .ok (.aload_n 0, 1) := by decide +kernel
theorem dX7_places_172 : decode cX7_places 172 = .ok (.aload_n 0, 1) := by decide +kernel
theorem dX7_places_173 : decode cX7_places 173 = .ok (.iload_n 1, 1) := by decide +kernel
theorem dX7_places_174 : decode cX7_places 174 = .ok (.iconst 1, 1) := by decide +kernel
theorem dX7_places_175 : decode cX7_places 175 = .ok (.invokevirtual 29, 3) := by decide +kernel
theorem dX7_places_178 : decode cX7_places 178 = .ok (.iload 4, 2) := by decide +kernel
theorem dX7_places_180 : decode cX7_places 180 = .ok (.iconst 1, 1) := by decide +kernel
theorem dX7_places_181 : decode cX7_places 181 = .ok (.invokevirtual 76, 3) := by decide +kernel
theorem dX7_places_184 : decode cX7_places 184 = .ok (.iconst 1, 1) := by decide +kernel
theorem dX7_places_185 : decode cX7_places 185 = .ok (.ireturn, 1) := by decide +kernel
theorem dX7_join_0 : decode cX7_join 0 = .ok (.iload_n 1, 1) := by decide +kernel
theorem dX7_join_1 : decode cX7_join 1 = .ok (.iconst 1, 1) := by decide +kernel
theorem dX7_join_2 : decode cX7_join 2 = .ok (.bipush 40, 2) := by decide +kernel
theorem dX7_join_4 : decode cX7_join 4 = .ok (.invokestatic 25, 3) := by decide +kernel
theorem dX7_join_7 : decode cX7_join 7 = .ok (.ifCond .ne 7, 3) := by decide +kernel
theorem dX7_join_10 : decode cX7_join 10 = .ok (.sipush (-10001), 3) := by decide +kernel
theorem dX7_join_13 : decode cX7_join 13 = .ok (.ireturn, 1) := by decide +kernel
theorem dX7_join_14 : decode cX7_join 14 = .ok (.iconst 0, 1) := by decide +kernel
theorem dX7_join_15 : decode cX7_join 15 = .ok (.istore_n 2, 1) := by decide +kernel
theorem dX7_join_16 : decode cX7_join 16 = .ok (.iload_n 2, 1) := by decide +kernel
theorem dX7_join_17 : decode cX7_join 17 = .ok (.bipush 12, 2) := by decide +kernel
theorem dX7_join_19 : decode cX7_join 19 = .ok (.if_icmp .ge 17, 3) := by decide +kernel
theorem dX7_join_22 : decode cX7_join 22 = .ok (.aload_n 0, 1) := by decide +kernel
theorem dX7_join_23 : decode cX7_join 23 = .ok (.iload_n 2, 1) := by decide +kernel
theorem dX7_join_24 : decode cX7_join 24 = .ok (.invokevirtual 67, 3) := by decide +kernel
theorem dX7_join_27 : decode cX7_join 27 = .ok (.ifCond .eq 9, 3) := by decide +kernel
theorem dX7_join_30 : decode cX7_join 30 = .ok (.iinc 2 1, 3) := by decide +kernel
theorem dX7_join_33 : decode cX7_join 33 = .ok (.goto (-17), 3) := by decide +kernel
theorem dX7_join_36 : decode cX7_join 36 = .ok (.iload_n 2, 1) := by decide +kernel
theorem dX7_join_37 : decode cX7_join 37 = .ok (.bipush 12, 2) := by decide +kernel
theorem dX7_join_39 : decode cX7_join 39 = .ok (.if_icmp .ne 7, 3) := by decide +kernel
theorem dX7_join_42 : decode cX7_join 42 = .ok (.sipush (-10003), 3) := by decide +kernel
theorem dX7_join_45 : decode cX7_join 45 = .ok (.ireturn, 1) := by decide +kernel
theorem dX7_join_46 : decode cX7_join 46 = .ok (.aload_n 0, 1) := by decide +kernel
theorem dX7_join_47 : decode cX7_join 47 = .ok (.invokevirtual 80, 3) := by decide +kernel
theorem dX7_join_50 : decode cX7_join 50 = .ok (.aload_n 0, 1) := by decide +kernel
theorem dX7_join_51 : decode cX7_join 51 = .ok (.getfield 7, 3) := by decide +kernel
theorem dX7_join_54 : decode cX7_join 54 = .ok (.iconst 4, 1) := by decide +kernel
theorem dX7_join_55 : decode cX7_join 55 = .ok (.iload_n 2, 1) := by decide +kernel
theorem dX7_join_56 : decode cX7_join 56 = .ok (.imul, 1) := by decide +kernel
theorem dX7_join_57 : decode cX7_join 57 = .ok (.iconst 1, 1) := by decide +kernel
theorem dX7_join_58 : decode cX7_join 58 = .ok (.iastore, 1) := by decide +kernel
theorem dX7_join_59 : decode cX7_join 59 = .ok (.aload_n 0, 1) := by decide +kernel
theorem dX7_join_60 : decode cX7_join 60 = .ok (.getfield 7, 3) := by decide +kernel
theorem dX7_join_63 : decode cX7_join 63 = .ok (.iconst 4, 1) := by decide +kernel
theorem dX7_join_64 : decode cX7_join 64 = .ok (.iload_n 2, 1) := by decide +kernel
theorem dX7_join_65 : decode cX7_join 65 = .ok (.imul, 1) := by decide +kernel
theorem dX7_join_66 : decode cX7_join 66 = .ok (.iconst 1, 1) := by decide +kernel
theorem dX7_join_67 : decode cX7_join 67 = .ok (.iadd, 1) := by decide +kernel
theorem dX7_join_68 : decode cX7_join 68 = .ok (.iload_n 1, 1) := by decide +kernel
theorem dX7_join_69 : decode cX7_join 69 = .ok (.iastore, 1) := by decide +kernel
theorem dX7_join_70 : decode cX7_join 70 = .ok (.aload_n 0, 1) := by decide +kernel
theorem dX7_join_71 : decode cX7_join 71 = .ok (.getfield 7, 3) := by decide +kernel
theorem dX7_join_74 : decode cX7_join 74 = .ok (.iconst 4, 1) := by decide +kernel
theorem dX7_join_75 : decode cX7_join 75 = .ok (.iload_n 2, 1) := by decide +kernel
theorem dX7_join_76 : decode cX7_join 76 = .ok (.imul, 1) := by decide +kernel
theorem dX7_join_77 : decode cX7_join 77 = .ok (.iconst 2, 1) := by decide +kernel
theorem dX7_join_78 : decode cX7_join 78 = .ok (.iadd, 1) := by decide +kernel
theorem dX7_join_79 : decode cX7_join 79 = .ok (.iconst 1, 1) := by decide +kernel
theorem dX7_join_80 : decode cX7_join 80 = .ok (.iastore, 1) := by decide +kernel
theorem dX7_join_81 : decode cX7_join 81 = .ok (.aload_n 0, 1) := by decide +kernel
theorem dX7_join_82 : decode cX7_join 82 = .ok (.getfield 7, 3) := by decide +kernel
theorem dX7_join_85 : decode cX7_join 85 = .ok (.iconst 4, 1) := by decide +kernel
theorem dX7_join_86 : decode cX7_join 86 = .ok (.iload_n 2, 1) := by decide +kernel
theorem dX7_join_87 : decode cX7_join 87 = .ok (.imul, 1) := by decide +kernel
theorem dX7_join_88 : decode cX7_join 88 = .ok (.iconst 3, 1) := by decide +kernel
theorem dX7_join_89 : decode cX7_join 89 = .ok (.iadd, 1) := by decide +kernel
theorem dX7_join_90 : decode cX7_join 90 = .ok (.bipush 50, 2) := by decide +kernel
theorem dX7_join_92 : decode cX7_join 92 = .ok (.iastore, 1) := by decide +kernel
theorem dX7_join_93 : decode cX7_join 93 = .ok (.iload_n 2, 1) := by decide +kernel
theorem dX7_join_94 : decode cX7_join 94 = .ok (.ireturn, 1) := by decide +kernel
theorem dX7_owned_0 : decode cX7_owned 0 = .ok (.iconst 0, 1) := by decide +kernel
theorem dX7_owned_1 : decode cX7_owned 1 = .ok (.istore_n 2, 1) := by decide +kernel
theorem dX7_owned_2 : decode cX7_owned 2 = .ok (.iconst 0, 1) := by decide +kernel
theorem dX7_owned_3 : decode cX7_owned 3 = .ok (.istore_n 3, 1) := by decide +kernel
theorem dX7_owned_4 : decode cX7_owned 4 = .ok (.iload_n 3, 1) := by decide +kernel
theorem dX7_owned_5 : decode cX7_owned 5 = .ok (.bipush 8, 2) := by decide +kernel
theorem dX7_owned_7 : decode cX7_owned 7 = .ok (.if_icmp .ge 35, 3) := by decide +kernel
theorem dX7_owned_10 : decode cX7_owned 10 = .ok (.iload_n 2, 1) := by decide +kernel
theorem dX7_owned_11 : decode cX7_owned 11 = .ok (.aload_n 0, 1) := by decide +kernel
theorem dX7_owned_12 : decode cX7_owned 12 = .ok (.iload_n 3, 1) := by decide +kernel
theorem dX7_owned_13 : decode cX7_owned 13 = .ok (.invokevirtual 43, 3) := by decide +kernel
theorem dX7_owned_16 : decode cX7_owned 16 = .ok (.ifCond .eq 17, 3) := by decide +kernel
theorem dX7_owned_19 : decode cX7_owned 19 = .ok (.aload_n 0, 1) := by decide +kernel
theorem dX7_owned_20 : decode cX7_owned 20 = .ok (.iload_n 3, 1) := by decide +kernel
theorem dX7_owned_21 : decode cX7_owned 21 = .ok (.iconst 1, 1) := by decide +kernel
theorem dX7_owned_22 : decode cX7_owned 22 = .ok (.invokevirtual 29, 3) := by decide +kernel
theorem dX7_owned_25 : decode cX7_owned 25 = .ok (.iload_n 1, 1) := by decide +kernel
theorem dX7_owned_26 : decode cX7_owned 26 = .ok (.if_icmp .ne 7, 3) := by decide +kernel
theorem dX7_owned_29 : decode cX7_owned 29 = .ok (.iconst 1, 1) := by decide +kernel
theorem dX7_owned_30 : decode cX7_owned 30 = .ok (.goto 4, 3) := by decide +kernel
theorem dX7_owned_33 : decode cX7_owned 33 = .ok (.iconst 0, 1) := by decide +kernel
theorem dX7_owned_34 : decode cX7_owned 34 = .ok (.iadd, 1) := by decide +kernel
theorem dX7_owned_35 : decode cX7_owned 35 = .ok (.istore_n 2, 1) := by decide +kernel
theorem dX7_owned_36 : decode cX7_owned 36 = .ok (.iinc 3 1, 3) := by decide +kernel
theorem dX7_owned_39 : decode cX7_owned 39 = .ok (.goto (-35), 3) := by decide +kernel
theorem dX7_owned_42 : decode cX7_owned 42 = .ok (.iload_n 2, 1) := by decide +kernel
theorem dX7_owned_43 : decode cX7_owned 43 = .ok (.ireturn, 1) := by decide +kernel
theorem dX7_goes_0 : decode cX7_goes 0 = .ok (.iconst 0, 1) := by decide +kernel
theorem dX7_goes_1 : decode cX7_goes 1 = .ok (.istore_n 2, 1) := by decide +kernel
theorem dX7_goes_2 : decode cX7_goes 2 = .ok (.iload_n 2, 1) := by decide +kernel
theorem dX7_goes_3 : decode cX7_goes 3 = .ok (.iconst 4, 1) := by decide +kernel
theorem dX7_goes_4 : decode cX7_goes 4 = .ok (.if_icmp .ge 20, 3) := by decide +kernel
theorem dX7_goes_7 : decode cX7_goes 7 = .ok (.aload_n 0, 1) := by decide +kernel
theorem dX7_goes_8 : decode cX7_goes 8 = .ok (.getfield 7, 3) := by decide +kernel
theorem dX7_goes_11 : decode cX7_goes 11 = .ok (.iconst 4, 1) := by decide +kernel
theorem dX7_goes_12 : decode cX7_goes 12 = .ok (.iload_n 1, 1) := by decide +kernel
theorem dX7_goes_13 : decode cX7_goes 13 = .ok (.imul, 1) := by decide +kernel
theorem dX7_goes_14 : decode cX7_goes 14 = .ok (.iload_n 2, 1) := by decide +kernel
theorem dX7_goes_15 : decode cX7_goes 15 = .ok (.iadd, 1) := by decide +kernel
theorem dX7_goes_16 : decode cX7_goes 16 = .ok (.iconst 0, 1) := by decide +kernel
theorem dX7_goes_17 : decode cX7_goes 17 = .ok (.iastore, 1) := by decide +kernel
theorem dX7_goes_18 : decode cX7_goes 18 = .ok (.iinc 2 1, 3) := by decide +kernel
theorem dX7_goes_21 : decode cX7_goes 21 = .ok (.goto (-19), 3) := by decide +kernel
theorem dX7_goes_24 : decode cX7_goes 24 = .ok (.iconst 0, 1) := by decide +kernel
theorem dX7_goes_25 : decode cX7_goes 25 = .ok (.istore_n 2, 1) := by decide +kernel
theorem dX7_goes_26 : decode cX7_goes 26 = .ok (.iload_n 2, 1) := by decide +kernel
theorem dX7_goes_27 : decode cX7_goes 27 = .ok (.bipush 12, 2) := by decide +kernel
theorem dX7_goes_29 : decode cX7_goes 29 = .ok (.if_icmp .ge 31, 3) := by decide +kernel
theorem dX7_goes_32 : decode cX7_goes 32 = .ok (.aload_n 0, 1) := by decide +kernel
theorem dX7_goes_33 : decode cX7_goes 33 = .ok (.getfield 7, 3) := by decide +kernel
theorem dX7_goes_36 : decode cX7_goes 36 = .ok (.iload_n 1, 1) := by decide +kernel
theorem dX7_goes_37 : decode cX7_goes 37 = .ok (.iload_n 2, 1) := by decide +kernel
theorem dX7_goes_38 : decode cX7_goes 38 = .ok (.invokestatic 40, 3) := by decide +kernel
theorem dX7_goes_41 : decode cX7_goes 41 = .ok (.iconst 0, 1) := by decide +kernel
theorem dX7_goes_42 : decode cX7_goes 42 = .ok (.iastore, 1) := by decide +kernel
theorem dX7_goes_43 : decode cX7_goes 43 = .ok (.aload_n 0, 1) := by decide +kernel
theorem dX7_goes_44 : decode cX7_goes 44 = .ok (.getfield 7, 3) := by decide +kernel
theorem dX7_goes_47 : decode cX7_goes 47 = .ok (.iload_n 2, 1) := by decide +kernel
theorem dX7_goes_48 : decode cX7_goes 48 = .ok (.iload_n 1, 1) := by decide +kernel
theorem dX7_goes_49 : decode cX7_goes 49 = .ok (.invokestatic 40, 3) := by decide +kernel
theorem dX7_goes_52 : decode cX7_goes 52 = .ok (.iconst 0, 1) := by decide +kernel
theorem dX7_goes_53 : decode cX7_goes 53 = .ok (.iastore, 1) := by decide +kernel
theorem dX7_goes_54 : decode cX7_goes 54 = .ok (.iinc 2 1, 3) := by decide +kernel
theorem dX7_goes_57 : decode cX7_goes 57 = .ok (.goto (-31), 3) := by decide +kernel
theorem dX7_goes_60 : decode cX7_goes 60 = .ok (.return_, 1) := by decide +kernel
theorem dX7_leaves_0 : decode cX7_leaves 0 = .ok (.iconst 0, 1) := by decide +kernel
theorem dX7_leaves_1 : decode cX7_leaves 1 = .ok (.istore_n 2, 1) := by decide +kernel
theorem dX7_leaves_2 : decode cX7_leaves 2 = .ok (.iconst 0, 1) := by decide +kernel
theorem dX7_leaves_3 : decode cX7_leaves 3 = .ok (.istore_n 3, 1) := by decide +kernel
theorem dX7_leaves_4 : decode cX7_leaves 4 = .ok (.iload_n 3, 1) := by decide +kernel
theorem dX7_leaves_5 : decode cX7_leaves 5 = .ok (.bipush 80, 2) := by decide +kernel
theorem dX7_leaves_7 : decode cX7_leaves 7 = .ok (.if_icmp .ge 76, 3) := by decide +kernel
theorem dX7_leaves_10 : decode cX7_leaves 10 = .ok (.iload_n 3, 1) := by decide +kernel
theorem dX7_leaves_11 : decode cX7_leaves 11 = .ok (.bipush 10, 2) := by decide +kernel
theorem dX7_leaves_13 : decode cX7_leaves 13 = .ok (.idiv, 1) := by decide +kernel
theorem dX7_leaves_14 : decode cX7_leaves 14 = .ok (.istore 4, 2) := by decide +kernel
theorem dX7_leaves_16 : decode cX7_leaves 16 = .ok (.iload_n 3, 1) := by decide +kernel
theorem dX7_leaves_17 : decode cX7_leaves 17 = .ok (.bipush 10, 2) := by decide +kernel
theorem dX7_leaves_19 : decode cX7_leaves 19 = .ok (.irem, 1) := by decide +kernel
theorem dX7_leaves_20 : decode cX7_leaves 20 = .ok (.istore 5, 2) := by decide +kernel
theorem dX7_leaves_22 : decode cX7_leaves 22 = .ok (.aload_n 0, 1) := by decide +kernel
theorem dX7_leaves_23 : decode cX7_leaves 23 = .ok (.iload 4, 2) := by decide +kernel
theorem dX7_leaves_25 : decode cX7_leaves 25 = .ok (.invokevirtual 43, 3) := by decide +kernel
theorem dX7_leaves_28 : decode cX7_leaves 28 = .ok (.ifCond .eq 49, 3) := by decide +kernel
theorem dX7_leaves_31 : decode cX7_leaves 31 = .ok (.iload 5, 2) := by decide +kernel
theorem dX7_leaves_33 : decode cX7_leaves 33 = .ok (.aload_n 0, 1) := by decide +kernel
theorem dX7_leaves_34 : decode cX7_leaves 34 = .ok (.iload 4, 2) := by decide +kernel
theorem dX7_leaves_36 : decode cX7_leaves 36 = .ok (.invokevirtual 47, 3) := by decide +kernel
theorem dX7_leaves_39 : decode cX7_leaves 39 = .ok (.if_icmp .ge 38, 3) := by decide +kernel
theorem dX7_leaves_42 : decode cX7_leaves 42 = .ok (.aload_n 0, 1) := by decide +kernel
theorem dX7_leaves_43 : decode cX7_leaves 43 = .ok (.iload 4, 2) := by decide +kernel
theorem dX7_leaves_45 : decode cX7_leaves 45 = .ok (.bipush 10, 2) := by decide +kernel
theorem dX7_leaves_47 : decode cX7_leaves 47 = .ok (.iload 5, 2) := by decide +kernel
theorem dX7_leaves_49 : decode cX7_leaves 49 = .ok (.iadd, 1) := by decide +kernel
theorem dX7_leaves_50 : decode cX7_leaves 50 = .ok (.invokevirtual 29, 3) := by decide +kernel
theorem dX7_leaves_53 : decode cX7_leaves 53 = .ok (.iload_n 1, 1) := by decide +kernel
theorem dX7_leaves_54 : decode cX7_leaves 54 = .ok (.if_icmp .ne 23, 3) := by decide +kernel
theorem dX7_leaves_57 : decode cX7_leaves 57 = .ok (.iload_n 2, 1) := by decide +kernel
theorem dX7_leaves_58 : decode cX7_leaves 58 = .ok (.aload_n 0, 1) := by decide +kernel
theorem dX7_leaves_59 : decode cX7_leaves 59 = .ok (.iload 4, 2) := by decide +kernel
theorem dX7_leaves_61 : decode cX7_leaves 61 = .ok (.iload 5, 2) := by decide +kernel
theorem dX7_leaves_63 : decode cX7_leaves 63 = .ok (.iload_n 1, 1) := by decide +kernel
theorem dX7_leaves_64 : decode cX7_leaves 64 = .ok (.invokevirtual 83, 3) := by decide +kernel
theorem dX7_leaves_67 : decode cX7_leaves 67 = .ok (.ifCond .eq 7, 3) := by decide +kernel
theorem dX7_leaves_70 : decode cX7_leaves 70 = .ok (.iconst 0, 1) := by decide +kernel
theorem dX7_leaves_71 : decode cX7_leaves 71 = .ok (.goto 4, 3) := by decide +kernel
theorem dX7_leaves_74 : decode cX7_leaves 74 = .ok (.iconst 1, 1) := by decide +kernel
theorem dX7_leaves_75 : decode cX7_leaves 75 = .ok (.iadd, 1) := by decide +kernel
theorem dX7_leaves_76 : decode cX7_leaves 76 = .ok (.istore_n 2, 1) := by decide +kernel
theorem dX7_leaves_77 : decode cX7_leaves 77 = .ok (.iinc 3 1, 3) := by decide +kernel
theorem dX7_leaves_80 : decode cX7_leaves 80 = .ok (.goto (-76), 3) := by decide +kernel
theorem dX7_leaves_83 : decode cX7_leaves 83 = .ok (.aload_n 0, 1) := by decide +kernel
theorem dX7_leaves_84 : decode cX7_leaves 84 = .ok (.iload_n 1, 1) := by decide +kernel
theorem dX7_leaves_85 : decode cX7_leaves 85 = .ok (.invokevirtual 86, 3) := by decide +kernel
theorem dX7_leaves_88 : decode cX7_leaves 88 = .ok (.iload_n 2, 1) := by decide +kernel
theorem dX7_leaves_89 : decode cX7_leaves 89 = .ok (.ireturn, 1) := by decide +kernel
theorem dX7_leave_0 : decode cX7_leave 0 = .ok (.aload_n 0, 1) := by decide +kernel
theorem dX7_leave_1 : decode cX7_leave 1 = .ok (.iload_n 1, 1) := by decide +kernel
theorem dX7_leave_2 : decode cX7_leave 2 = .ok (.invokevirtual 67, 3) := by decide +kernel
theorem dX7_leave_5 : decode cX7_leave 5 = .ok (.ifCond .ne 7, 3) := by decide +kernel
theorem dX7_leave_8 : decode cX7_leave 8 = .ok (.sipush (-10001), 3) := by decide +kernel
theorem dX7_leave_11 : decode cX7_leave 11 = .ok (.ireturn, 1) := by decide +kernel
theorem dX7_leave_12 : decode cX7_leave 12 = .ok (.aload_n 0, 1) := by decide +kernel
theorem dX7_leave_13 : decode cX7_leave 13 = .ok (.iload_n 1, 1) := by decide +kernel
theorem dX7_leave_14 : decode cX7_leave 14 = .ok (.invokevirtual 90, 3) := by decide +kernel
theorem dX7_leave_17 : decode cX7_leave 17 = .ok (.ifCond .gt 11, 3) := by decide +kernel
theorem dX7_leave_20 : decode cX7_leave 20 = .ok (.aload_n 0, 1) := by decide +kernel
theorem dX7_leave_21 : decode cX7_leave 21 = .ok (.iload_n 1, 1) := by decide +kernel
theorem dX7_leave_22 : decode cX7_leave 22 = .ok (.invokevirtual 51, 3) := by decide +kernel
theorem dX7_leave_25 : decode cX7_leave 25 = .ok (.ifCond .ne 7, 3) := by decide +kernel
theorem dX7_leave_28 : decode cX7_leave 28 = .ok (.sipush (-10002), 3) := by decide +kernel
theorem dX7_leave_31 : decode cX7_leave 31 = .ok (.ireturn, 1) := by decide +kernel
theorem dX7_leave_32 : decode cX7_leave 32 = .ok (.aload_n 0, 1) := by decide +kernel
theorem dX7_leave_33 : decode cX7_leave 33 = .ok (.invokevirtual 80, 3) := by decide +kernel
theorem dX7_leave_36 : decode cX7_leave 36 = .ok (.aload_n 0, 1) := by decide +kernel
theorem dX7_leave_37 : decode cX7_leave 37 = .ok (.iload_n 1, 1) := by decide +kernel
theorem dX7_leave_38 : decode cX7_leave 38 = .ok (.invokevirtual 93, 3) := by decide +kernel
theorem dX7_leave_41 : decode cX7_leave 41 = .ok (.ireturn, 1) := by decide +kernel
theorem dX7_deletes_0 : decode cX7_deletes 0 = .ok (.iconst 0, 1) := by decide +kernel
theorem dX7_deletes_1 : decode cX7_deletes 1 = .ok (.istore_n 2, 1) := by decide +kernel
theorem dX7_deletes_2 : decode cX7_deletes 2 = .ok (.iload_n 2, 1) := by decide +kernel
theorem dX7_deletes_3 : decode cX7_deletes 3 = .ok (.bipush 30, 2) := by decide +kernel
theorem dX7_deletes_5 : decode cX7_deletes 5 = .ok (.if_icmp .ge 20, 3) := by decide +kernel
theorem dX7_deletes_8 : decode cX7_deletes 8 = .ok (.aload_n 0, 1) := by decide +kernel
theorem dX7_deletes_9 : decode cX7_deletes 9 = .ok (.getfield 7, 3) := by decide +kernel
theorem dX7_deletes_12 : decode cX7_deletes 12 = .ok (.iload_n 1, 1) := by decide +kernel
theorem dX7_deletes_13 : decode cX7_deletes 13 = .ok (.iload_n 2, 1) := by decide +kernel
theorem dX7_deletes_14 : decode cX7_deletes 14 = .ok (.invokestatic 33, 3) := by decide +kernel
theorem dX7_deletes_17 : decode cX7_deletes 17 = .ok (.iconst 0, 1) := by decide +kernel
theorem dX7_deletes_18 : decode cX7_deletes 18 = .ok (.iastore, 1) := by decide +kernel
theorem dX7_deletes_19 : decode cX7_deletes 19 = .ok (.iinc 2 1, 3) := by decide +kernel
theorem dX7_deletes_22 : decode cX7_deletes 22 = .ok (.goto (-20), 3) := by decide +kernel
theorem dX7_deletes_25 : decode cX7_deletes 25 = .ok (.return_, 1) := by decide +kernel
theorem dX7_crash_0 : decode cX7_crash 0 = .ok (.aload_n 0, 1) := by decide +kernel
theorem dX7_crash_1 : decode cX7_crash 1 = .ok (.iload_n 1, 1) := by decide +kernel
theorem dX7_crash_2 : decode cX7_crash 2 = .ok (.invokevirtual 67, 3) := by decide +kernel
theorem dX7_crash_5 : decode cX7_crash 5 = .ok (.ifCond .ne 7, 3) := by decide +kernel
theorem dX7_crash_8 : decode cX7_crash 8 = .ok (.sipush (-10001), 3) := by decide +kernel
theorem dX7_crash_11 : decode cX7_crash 11 = .ok (.ireturn, 1) := by decide +kernel
theorem dX7_crash_12 : decode cX7_crash 12 = .ok (.aload_n 0, 1) := by decide +kernel
theorem dX7_crash_13 : decode cX7_crash 13 = .ok (.invokevirtual 80, 3) := by decide +kernel
theorem dX7_crash_16 : decode cX7_crash 16 = .ok (.iconst 0, 1) := by decide +kernel
theorem dX7_crash_17 : decode cX7_crash 17 = .ok (.istore_n 2, 1) := by decide +kernel
theorem dX7_crash_18 : decode cX7_crash 18 = .ok (.iconst 0, 1) := by decide +kernel
theorem dX7_crash_19 : decode cX7_crash 19 = .ok (.istore_n 3, 1) := by decide +kernel
theorem dX7_crash_20 : decode cX7_crash 20 = .ok (.iload_n 3, 1) := by decide +kernel
theorem dX7_crash_21 : decode cX7_crash 21 = .ok (.bipush 8, 2) := by decide +kernel
theorem dX7_crash_23 : decode cX7_crash 23 = .ok (.if_icmp .ge 106, 3) := by decide +kernel
theorem dX7_crash_26 : decode cX7_crash 26 = .ok (.aload_n 0, 1) := by decide +kernel
theorem dX7_crash_27 : decode cX7_crash 27 = .ok (.iload_n 3, 1) := by decide +kernel
theorem dX7_crash_28 : decode cX7_crash 28 = .ok (.invokevirtual 43, 3) := by decide +kernel
theorem dX7_crash_31 : decode cX7_crash 31 = .ok (.ifCond .eq 18, 3) := by decide +kernel
theorem dX7_crash_34 : decode cX7_crash 34 = .ok (.aload_n 0, 1) := by decide +kernel
theorem dX7_crash_35 : decode cX7_crash 35 = .ok (.iload_n 3, 1) := by decide +kernel
theorem dX7_crash_36 : decode cX7_crash 36 = .ok (.iconst 1, 1) := by decide +kernel
theorem dX7_crash_37 : decode cX7_crash 37 = .ok (.invokevirtual 29, 3) := by decide +kernel
theorem dX7_crash_40 : decode cX7_crash 40 = .ok (.iload_n 1, 1) := by decide +kernel
theorem dX7_crash_41 : decode cX7_crash 41 = .ok (.if_icmp .ne 8, 3) := by decide +kernel
theorem dX7_crash_44 : decode cX7_crash 44 = .ok (.aload_n 0, 1) := by decide +kernel
theorem dX7_crash_45 : decode cX7_crash 45 = .ok (.iload_n 3, 1) := by decide +kernel
theorem dX7_crash_46 : decode cX7_crash 46 = .ok (.invokevirtual 96, 3) := by decide +kernel
theorem dX7_crash_49 : decode cX7_crash 49 = .ok (.iconst 0, 1) := by decide +kernel
theorem dX7_crash_50 : decode cX7_crash 50 = .ok (.istore 4, 2) := by decide +kernel
theorem dX7_crash_52 : decode cX7_crash 52 = .ok (.aload_n 0, 1) := by decide +kernel
theorem dX7_crash_53 : decode cX7_crash 53 = .ok (.iload_n 3, 1) := by decide +kernel
theorem dX7_crash_54 : decode cX7_crash 54 = .ok (.invokevirtual 43, 3) := by decide +kernel
theorem dX7_crash_57 : decode cX7_crash 57 = .ok (.ifCond .eq 66, 3) := by decide +kernel
theorem dX7_crash_60 : decode cX7_crash 60 = .ok (.iload 4, 2) := by decide +kernel
theorem dX7_crash_62 : decode cX7_crash 62 = .ok (.aload_n 0, 1) := by decide +kernel
theorem dX7_crash_63 : decode cX7_crash 63 = .ok (.iload_n 3, 1) := by decide +kernel
theorem dX7_crash_64 : decode cX7_crash 64 = .ok (.invokevirtual 47, 3) := by decide +kernel
theorem dX7_crash_67 : decode cX7_crash 67 = .ok (.if_icmp .ge 56, 3) := by decide +kernel
theorem dX7_crash_70 : decode cX7_crash 70 = .ok (.aload_n 0, 1) := by decide +kernel
theorem dX7_crash_71 : decode cX7_crash 71 = .ok (.iload_n 3, 1) := by decide +kernel
theorem dX7_crash_72 : decode cX7_crash 72 = .ok (.bipush 10, 2) := by decide +kernel
theorem dX7_crash_74 : decode cX7_crash 74 = .ok (.iload 4, 2) := by decide +kernel
theorem dX7_crash_76 : decode cX7_crash 76 = .ok (.iadd, 1) := by decide +kernel
theorem dX7_crash_77 : decode cX7_crash 77 = .ok (.invokevirtual 29, 3) := by decide +kernel
theorem dX7_crash_80 : decode cX7_crash 80 = .ok (.iload_n 1, 1) := by decide +kernel
theorem dX7_crash_81 : decode cX7_crash 81 = .ok (.if_icmp .ne 36, 3) := by decide +kernel
theorem dX7_crash_84 : decode cX7_crash 84 = .ok (.aload_n 0, 1) := by decide +kernel
theorem dX7_crash_85 : decode cX7_crash 85 = .ok (.getfield 7, 3) := by decide +kernel
theorem dX7_crash_88 : decode cX7_crash 88 = .ok (.iload_n 3, 1) := by decide +kernel
theorem dX7_crash_89 : decode cX7_crash 89 = .ok (.bipush 10, 2) := by decide +kernel
theorem dX7_crash_91 : decode cX7_crash 91 = .ok (.iload 4, 2) := by decide +kernel
theorem dX7_crash_93 : decode cX7_crash 93 = .ok (.iadd, 1) := by decide +kernel
theorem dX7_crash_94 : decode cX7_crash 94 = .ok (.invokestatic 33, 3) := by decide +kernel
theorem dX7_crash_97 : decode cX7_crash 97 = .ok (.iconst (-1), 1) := by decide +kernel
theorem dX7_crash_98 : decode cX7_crash 98 = .ok (.iastore, 1) := by decide +kernel
theorem dX7_crash_99 : decode cX7_crash 99 = .ok (.aload_n 0, 1) := by decide +kernel
theorem dX7_crash_100 : decode cX7_crash 100 = .ok (.getfield 7, 3) := by decide +kernel
theorem dX7_crash_103 : decode cX7_crash 103 = .ok (.iload_n 3, 1) := by decide +kernel
theorem dX7_crash_104 : decode cX7_crash 104 = .ok (.bipush 20, 2) := by decide +kernel
theorem dX7_crash_106 : decode cX7_crash 106 = .ok (.iload 4, 2) := by decide +kernel
theorem dX7_crash_108 : decode cX7_crash 108 = .ok (.iadd, 1) := by decide +kernel
theorem dX7_crash_109 : decode cX7_crash 109 = .ok (.invokestatic 33, 3) := by decide +kernel
theorem dX7_crash_112 : decode cX7_crash 112 = .ok (.iconst 0, 1) := by decide +kernel
theorem dX7_crash_113 : decode cX7_crash 113 = .ok (.iastore, 1) := by decide +kernel
theorem dX7_crash_114 : decode cX7_crash 114 = .ok (.iinc 2 1, 3) := by decide +kernel
theorem dX7_crash_117 : decode cX7_crash 117 = .ok (.iinc 4 1, 3) := by decide +kernel
theorem dX7_crash_120 : decode cX7_crash 120 = .ok (.goto (-68), 3) := by decide +kernel
theorem dX7_crash_123 : decode cX7_crash 123 = .ok (.iinc 3 1, 3) := by decide +kernel
theorem dX7_crash_126 : decode cX7_crash 126 = .ok (.goto (-106), 3) := by decide +kernel
theorem dX7_crash_129 : decode cX7_crash 129 = .ok (.aload_n 0, 1) := by decide +kernel
theorem dX7_crash_130 : decode cX7_crash 130 = .ok (.iload_n 1, 1) := by decide +kernel
theorem dX7_crash_131 : decode cX7_crash 131 = .ok (.invokevirtual 86, 3) := by decide +kernel
theorem dX7_crash_134 : decode cX7_crash 134 = .ok (.iload_n 2, 1) := by decide +kernel
theorem dX7_crash_135 : decode cX7_crash 135 = .ok (.ireturn, 1) := by decide +kernel
theorem dX7_setOnline_0 : decode cX7_setOnline 0 = .ok (.aload_n 0, 1) := by decide +kernel
theorem dX7_setOnline_1 : decode cX7_setOnline 1 = .ok (.iload_n 1, 1) := by decide +kernel
theorem dX7_setOnline_2 : decode cX7_setOnline 2 = .ok (.invokevirtual 67, 3) := by decide +kernel
theorem dX7_setOnline_5 : decode cX7_setOnline 5 = .ok (.ifCond .eq 12, 3) := by decide +kernel
theorem dX7_setOnline_8 : decode cX7_setOnline 8 = .ok (.iload_n 2, 1) := by decide +kernel
theorem dX7_setOnline_9 : decode cX7_setOnline 9 = .ok (.iconst 0, 1) := by decide +kernel
theorem dX7_setOnline_10 : decode cX7_setOnline 10 = .ok (.iconst 1, 1) := by decide +kernel
theorem dX7_setOnline_11 : decode cX7_setOnline 11 = .ok (.invokestatic 25, 3) := by decide +kernel
theorem dX7_setOnline_14 : decode cX7_setOnline 14 = .ok (.ifCond .ne 7, 3) := by decide +kernel
theorem dX7_setOnline_17 : decode cX7_setOnline 17 = .ok (.sipush (-10001), 3) := by decide +kernel
theorem dX7_setOnline_20 : decode cX7_setOnline 20 = .ok (.ireturn, 1) := by decide +kernel
theorem dX7_setOnline_21 : decode cX7_setOnline 21 = .ok (.aload_n 0, 1) := by decide +kernel
theorem dX7_setOnline_22 : decode cX7_setOnline 22 = .ok (.invokevirtual 80, 3) := by decide +kernel
theorem dX7_setOnline_25 : decode cX7_setOnline 25 = .ok (.aload_n 0, 1) := by decide +kernel
theorem dX7_setOnline_26 : decode cX7_setOnline 26 = .ok (.getfield 7, 3) := by decide +kernel
theorem dX7_setOnline_29 : decode cX7_setOnline 29 = .ok (.iconst 4, 1) := by decide +kernel
theorem dX7_setOnline_30 : decode cX7_setOnline 30 = .ok (.iload_n 1, 1) := by decide +kernel
theorem dX7_setOnline_31 : decode cX7_setOnline 31 = .ok (.imul, 1) := by decide +kernel
theorem dX7_setOnline_32 : decode cX7_setOnline 32 = .ok (.iconst 2, 1) := by decide +kernel
theorem dX7_setOnline_33 : decode cX7_setOnline 33 = .ok (.iadd, 1) := by decide +kernel
theorem dX7_setOnline_34 : decode cX7_setOnline 34 = .ok (.iaload, 1) := by decide +kernel
theorem dX7_setOnline_35 : decode cX7_setOnline 35 = .ok (.istore_n 3, 1) := by decide +kernel
theorem dX7_setOnline_36 : decode cX7_setOnline 36 = .ok (.aload_n 0, 1) := by decide +kernel
theorem dX7_setOnline_37 : decode cX7_setOnline 37 = .ok (.getfield 7, 3) := by decide +kernel
theorem dX7_setOnline_40 : decode cX7_setOnline 40 = .ok (.iconst 4, 1) := by decide +kernel
theorem dX7_setOnline_41 : decode cX7_setOnline 41 = .ok (.iload_n 1, 1) := by decide +kernel
theorem dX7_setOnline_42 : decode cX7_setOnline 42 = .ok (.imul, 1) := by decide +kernel
theorem dX7_setOnline_43 : decode cX7_setOnline 43 = .ok (.iconst 2, 1) := by decide +kernel
theorem dX7_setOnline_44 : decode cX7_setOnline 44 = .ok (.iadd, 1) := by decide +kernel
theorem dX7_setOnline_45 : decode cX7_setOnline 45 = .ok (.iload_n 2, 1) := by decide +kernel
theorem dX7_setOnline_46 : decode cX7_setOnline 46 = .ok (.iastore, 1) := by decide +kernel
theorem dX7_setOnline_47 : decode cX7_setOnline 47 = .ok (.iload_n 3, 1) := by decide +kernel
theorem dX7_setOnline_48 : decode cX7_setOnline 48 = .ok (.ireturn, 1) := by decide +kernel
theorem dX7_pay_0 : decode cX7_pay 0 = .ok (.aload_n 0, 1) := by decide +kernel
theorem dX7_pay_1 : decode cX7_pay 1 = .ok (.iload_n 1, 1) := by decide +kernel
theorem dX7_pay_2 : decode cX7_pay 2 = .ok (.invokevirtual 67, 3) := by decide +kernel
theorem dX7_pay_5 : decode cX7_pay 5 = .ok (.ifCond .eq 27, 3) := by decide +kernel
theorem dX7_pay_8 : decode cX7_pay 8 = .ok (.aload_n 0, 1) := by decide +kernel
theorem dX7_pay_9 : decode cX7_pay 9 = .ok (.iload_n 2, 1) := by decide +kernel
theorem dX7_pay_10 : decode cX7_pay 10 = .ok (.invokevirtual 67, 3) := by decide +kernel
theorem dX7_pay_13 : decode cX7_pay 13 = .ok (.ifCond .eq 19, 3) := by decide +kernel
theorem dX7_pay_16 : decode cX7_pay 16 = .ok (.iload_n 1, 1) := by decide +kernel
theorem dX7_pay_17 : decode cX7_pay 17 = .ok (.iload_n 2, 1) := by decide +kernel
theorem dX7_pay_18 : decode cX7_pay 18 = .ok (.if_icmp .eq 14, 3) := by decide +kernel
theorem dX7_pay_21 : decode cX7_pay 21 = .ok (.iload_n 3, 1) := by decide +kernel
theorem dX7_pay_22 : decode cX7_pay 22 = .ok (.iconst 1, 1) := by decide +kernel
theorem dX7_pay_23 : decode cX7_pay 23 = .ok (.sipush 1000, 3) := by decide +kernel
theorem dX7_pay_26 : decode cX7_pay 26 = .ok (.invokestatic 25, 3) := by decide +kernel
theorem dX7_pay_29 : decode cX7_pay 29 = .ok (.ifCond .ne 7, 3) := by decide +kernel
theorem dX7_pay_32 : decode cX7_pay 32 = .ok (.sipush (-10001), 3) := by decide +kernel
theorem dX7_pay_35 : decode cX7_pay 35 = .ok (.ireturn, 1) := by decide +kernel
theorem dX7_pay_36 : decode cX7_pay 36 = .ok (.aload_n 0, 1) := by decide +kernel
theorem dX7_pay_37 : decode cX7_pay 37 = .ok (.getfield 7, 3) := by decide +kernel
theorem dX7_pay_40 : decode cX7_pay 40 = .ok (.iload_n 1, 1) := by decide +kernel
theorem dX7_pay_41 : decode cX7_pay 41 = .ok (.iload_n 2, 1) := by decide +kernel
theorem dX7_pay_42 : decode cX7_pay 42 = .ok (.invokestatic 40, 3) := by decide +kernel
theorem dX7_pay_45 : decode cX7_pay 45 = .ok (.iaload, 1) := by decide +kernel
theorem dX7_pay_46 : decode cX7_pay 46 = .ok (.iload_n 3, 1) := by decide +kernel
theorem dX7_pay_47 : decode cX7_pay 47 = .ok (.if_icmp .ge 7, 3) := by decide +kernel
theorem dX7_pay_50 : decode cX7_pay 50 = .ok (.sipush (-10002), 3) := by decide +kernel
theorem dX7_pay_53 : decode cX7_pay 53 = .ok (.ireturn, 1) := by decide +kernel
theorem dX7_pay_54 : decode cX7_pay 54 = .ok (.aload_n 0, 1) := by decide +kernel
theorem dX7_pay_55 : decode cX7_pay 55 = .ok (.invokevirtual 80, 3) := by decide +kernel
theorem dX7_pay_58 : decode cX7_pay 58 = .ok (.aload_n 0, 1) := by decide +kernel
theorem dX7_pay_59 : decode cX7_pay 59 = .ok (.iload_n 1, 1) := by decide +kernel
theorem dX7_pay_60 : decode cX7_pay 60 = .ok (.iload_n 2, 1) := by decide +kernel
theorem dX7_pay_61 : decode cX7_pay 61 = .ok (.iload_n 3, 1) := by decide +kernel
theorem dX7_pay_62 : decode cX7_pay 62 = .ok (.ineg, 1) := by decide +kernel
theorem dX7_pay_63 : decode cX7_pay 63 = .ok (.invokevirtual 76, 3) := by decide +kernel
theorem dX7_pay_66 : decode cX7_pay 66 = .ok (.aload_n 0, 1) := by decide +kernel
theorem dX7_pay_67 : decode cX7_pay 67 = .ok (.getfield 7, 3) := by decide +kernel
theorem dX7_pay_70 : decode cX7_pay 70 = .ok (.iload_n 1, 1) := by decide +kernel
theorem dX7_pay_71 : decode cX7_pay 71 = .ok (.iload_n 2, 1) := by decide +kernel
theorem dX7_pay_72 : decode cX7_pay 72 = .ok (.invokestatic 40, 3) := by decide +kernel
theorem dX7_pay_75 : decode cX7_pay 75 = .ok (.iaload, 1) := by decide +kernel
theorem dX7_pay_76 : decode cX7_pay 76 = .ok (.ireturn, 1) := by decide +kernel
theorem dX7_peerInfo_0 : decode cX7_peerInfo 0 = .ok (.aload_n 0, 1) := by decide +kernel
theorem dX7_peerInfo_1 : decode cX7_peerInfo 1 = .ok (.iload_n 1, 1) := by decide +kernel
theorem dX7_peerInfo_2 : decode cX7_peerInfo 2 = .ok (.invokevirtual 67, 3) := by decide +kernel
theorem dX7_peerInfo_5 : decode cX7_peerInfo 5 = .ok (.ifCond .eq 12, 3) := by decide +kernel
theorem dX7_peerInfo_8 : decode cX7_peerInfo 8 = .ok (.iload_n 2, 1) := by decide +kernel
theorem dX7_peerInfo_9 : decode cX7_peerInfo 9 = .ok (.iconst 0, 1) := by decide +kernel
theorem dX7_peerInfo_10 : decode cX7_peerInfo 10 = .ok (.iconst 5, 1) := by decide +kernel
theorem dX7_peerInfo_11 : decode cX7_peerInfo 11 = .ok (.invokestatic 25, 3) := by decide +kernel
theorem dX7_peerInfo_14 : decode cX7_peerInfo 14 = .ok (.ifCond .ne 7, 3) := by decide +kernel
theorem dX7_peerInfo_17 : decode cX7_peerInfo 17 = .ok (.sipush (-10001), 3) := by decide +kernel
theorem dX7_peerInfo_20 : decode cX7_peerInfo 20 = .ok (.ireturn, 1) := by decide +kernel
theorem dX7_peerInfo_21 : decode cX7_peerInfo 21 = .ok (.iconst 0, 1) := by decide +kernel
theorem dX7_peerInfo_22 : decode cX7_peerInfo 22 = .ok (.istore_n 3, 1) := by decide +kernel
theorem dX7_peerInfo_23 : decode cX7_peerInfo 23 = .ok (.iconst 0, 1) := by decide +kernel
theorem dX7_peerInfo_24 : decode cX7_peerInfo 24 = .ok (.istore 4, 2) := by decide +kernel
theorem dX7_peerInfo_26 : decode cX7_peerInfo 26 = .ok (.iload 4, 2) := by decide +kernel
theorem dX7_peerInfo_28 : decode cX7_peerInfo 28 = .ok (.bipush 12, 2) := by decide +kernel
theorem dX7_peerInfo_30 : decode cX7_peerInfo 30 = .ok (.if_icmp .ge 23, 3) := by decide +kernel
theorem dX7_peerInfo_33 : decode cX7_peerInfo 33 = .ok (.iload_n 3, 1) := by decide +kernel
theorem dX7_peerInfo_34 : decode cX7_peerInfo 34 = .ok (.aload_n 0, 1) := by decide +kernel
theorem dX7_peerInfo_35 : decode cX7_peerInfo 35 = .ok (.getfield 7, 3) := by decide +kernel
theorem dX7_peerInfo_38 : decode cX7_peerInfo 38 = .ok (.iload_n 1, 1) := by decide +kernel
theorem dX7_peerInfo_39 : decode cX7_peerInfo 39 = .ok (.iload 4, 2) := by decide +kernel
theorem dX7_peerInfo_41 : decode cX7_peerInfo 41 = .ok (.invokestatic 40, 3) := by decide +kernel
theorem dX7_peerInfo_44 : decode cX7_peerInfo 44 = .ok (.iaload, 1) := by decide +kernel
theorem dX7_peerInfo_45 : decode cX7_peerInfo 45 = .ok (.iadd, 1) := by decide +kernel
theorem dX7_peerInfo_46 : decode cX7_peerInfo 46 = .ok (.istore_n 3, 1) := by decide +kernel
theorem dX7_peerInfo_47 : decode cX7_peerInfo 47 = .ok (.iinc 4 1, 3) := by decide +kernel
theorem dX7_peerInfo_50 : decode cX7_peerInfo 50 = .ok (.goto (-24), 3) := by decide +kernel
theorem dX7_peerInfo_53 : decode cX7_peerInfo 53 = .ok (.iload_n 2, 1) := by decide +kernel
theorem dX7_peerInfo_54 : decode cX7_peerInfo 54 = .ok (.ifCond .ne 16, 3) := by decide +kernel
theorem dX7_peerInfo_57 : decode cX7_peerInfo 57 = .ok (.aload_n 0, 1) := by decide +kernel
theorem dX7_peerInfo_58 : decode cX7_peerInfo 58 = .ok (.getfield 7, 3) := by decide +kernel
theorem dX7_peerInfo_61 : decode cX7_peerInfo 61 = .ok (.iconst 4, 1) := by decide +kernel
theorem dX7_peerInfo_62 : decode cX7_peerInfo 62 = .ok (.iload_n 1, 1) := by decide +kernel
theorem dX7_peerInfo_63 : decode cX7_peerInfo 63 = .ok (.imul, 1) := by decide +kernel
theorem dX7_peerInfo_64 : decode cX7_peerInfo 64 = .ok (.iconst 1, 1) := by decide +kernel
theorem dX7_peerInfo_65 : decode cX7_peerInfo 65 = .ok (.iadd, 1) := by decide +kernel
theorem dX7_peerInfo_66 : decode cX7_peerInfo 66 = .ok (.iaload, 1) := by decide +kernel
theorem dX7_peerInfo_67 : decode cX7_peerInfo 67 = .ok (.goto 53, 3) := by decide +kernel
theorem dX7_peerInfo_70 : decode cX7_peerInfo 70 = .ok (.iload_n 2, 1) := by decide +kernel
theorem dX7_peerInfo_71 : decode cX7_peerInfo 71 = .ok (.iconst 1, 1) := by decide +kernel
theorem dX7_peerInfo_72 : decode cX7_peerInfo 72 = .ok (.if_icmp .ne 11, 3) := by decide +kernel
theorem dX7_peerInfo_75 : decode cX7_peerInfo 75 = .ok (.aload_n 0, 1) := by decide +kernel
theorem dX7_peerInfo_76 : decode cX7_peerInfo 76 = .ok (.iload_n 1, 1) := by decide +kernel
theorem dX7_peerInfo_77 : decode cX7_peerInfo 77 = .ok (.invokevirtual 70, 3) := by decide +kernel
theorem dX7_peerInfo_80 : decode cX7_peerInfo 80 = .ok (.goto 40, 3) := by decide +kernel
theorem dX7_peerInfo_83 : decode cX7_peerInfo 83 = .ok (.iload_n 2, 1) := by decide +kernel
theorem dX7_peerInfo_84 : decode cX7_peerInfo 84 = .ok (.iconst 2, 1) := by decide +kernel
theorem dX7_peerInfo_85 : decode cX7_peerInfo 85 = .ok (.if_icmp .eq 8, 3) := by decide +kernel
theorem dX7_peerInfo_88 : decode cX7_peerInfo 88 = .ok (.iload_n 2, 1) := by decide +kernel
theorem dX7_peerInfo_89 : decode cX7_peerInfo 89 = .ok (.iconst 3, 1) := by decide +kernel
theorem dX7_peerInfo_90 : decode cX7_peerInfo 90 = .ok (.if_icmp .ne 16, 3) := by decide +kernel
theorem dX7_peerInfo_93 : decode cX7_peerInfo 93 = .ok (.aload_n 0, 1) := by decide +kernel
theorem dX7_peerInfo_94 : decode cX7_peerInfo 94 = .ok (.getfield 7, 3) := by decide +kernel
theorem dX7_peerInfo_97 : decode cX7_peerInfo 97 = .ok (.iconst 4, 1) := by decide +kernel
theorem dX7_peerInfo_98 : decode cX7_peerInfo 98 = .ok (.iload_n 1, 1) := by decide +kernel
theorem dX7_peerInfo_99 : decode cX7_peerInfo 99 = .ok (.imul, 1) := by decide +kernel
theorem dX7_peerInfo_100 : decode cX7_peerInfo 100 = .ok (.iload_n 2, 1) := by decide +kernel
theorem dX7_peerInfo_101 : decode cX7_peerInfo 101 = .ok (.iadd, 1) := by decide +kernel
theorem dX7_peerInfo_102 : decode cX7_peerInfo 102 = .ok (.iaload, 1) := by decide +kernel
theorem dX7_peerInfo_103 : decode cX7_peerInfo 103 = .ok (.goto 17, 3) := by decide +kernel
theorem dX7_peerInfo_106 : decode cX7_peerInfo 106 = .ok (.iload_n 2, 1) := by decide +kernel
theorem dX7_peerInfo_107 : decode cX7_peerInfo 107 = .ok (.iconst 4, 1) := by decide +kernel
theorem dX7_peerInfo_108 : decode cX7_peerInfo 108 = .ok (.if_icmp .ne 11, 3) := by decide +kernel
theorem dX7_peerInfo_111 : decode cX7_peerInfo 111 = .ok (.aload_n 0, 1) := by decide +kernel
theorem dX7_peerInfo_112 : decode cX7_peerInfo 112 = .ok (.iload_n 1, 1) := by decide +kernel
theorem dX7_peerInfo_113 : decode cX7_peerInfo 113 = .ok (.invokevirtual 90, 3) := by decide +kernel
theorem dX7_peerInfo_116 : decode cX7_peerInfo 116 = .ok (.goto 4, 3) := by decide +kernel
theorem dX7_peerInfo_119 : decode cX7_peerInfo 119 = .ok (.iload_n 3, 1) := by decide +kernel
theorem dX7_peerInfo_120 : decode cX7_peerInfo 120 = .ok (.ireturn, 1) := by decide +kernel
theorem dX7_balance_0 : decode cX7_balance 0 = .ok (.aload_n 0, 1) := by decide +kernel
theorem dX7_balance_1 : decode cX7_balance 1 = .ok (.iload_n 1, 1) := by decide +kernel
theorem dX7_balance_2 : decode cX7_balance 2 = .ok (.invokevirtual 67, 3) := by decide +kernel
theorem dX7_balance_5 : decode cX7_balance 5 = .ok (.ifCond .eq 16, 3) := by decide +kernel
theorem dX7_balance_8 : decode cX7_balance 8 = .ok (.aload_n 0, 1) := by decide +kernel
theorem dX7_balance_9 : decode cX7_balance 9 = .ok (.iload_n 2, 1) := by decide +kernel
theorem dX7_balance_10 : decode cX7_balance 10 = .ok (.invokevirtual 67, 3) := by decide +kernel
theorem dX7_balance_13 : decode cX7_balance 13 = .ok (.ifCond .eq 8, 3) := by decide +kernel
theorem dX7_balance_16 : decode cX7_balance 16 = .ok (.iload_n 1, 1) := by decide +kernel
theorem dX7_balance_17 : decode cX7_balance 17 = .ok (.iload_n 2, 1) := by decide +kernel
theorem dX7_balance_18 : decode cX7_balance 18 = .ok (.if_icmp .ne 9, 3) := by decide +kernel
theorem dX7_balance_21 : decode cX7_balance 21 = .ok (.sipush (-10001), 3) := by decide +kernel
theorem dX7_balance_24 : decode cX7_balance 24 = .ok (.goto 13, 3) := by decide +kernel
theorem dX7_balance_27 : decode cX7_balance 27 = .ok (.aload_n 0, 1) := by decide +kernel
theorem dX7_balance_28 : decode cX7_balance 28 = .ok (.getfield 7, 3) := by decide +kernel
theorem dX7_balance_31 : decode cX7_balance 31 = .ok (.iload_n 1, 1) := by decide +kernel
theorem dX7_balance_32 : decode cX7_balance 32 = .ok (.iload_n 2, 1) := by decide +kernel
theorem dX7_balance_33 : decode cX7_balance 33 = .ok (.invokestatic 40, 3) := by decide +kernel
theorem dX7_balance_36 : decode cX7_balance 36 = .ok (.iaload, 1) := by decide +kernel
theorem dX7_balance_37 : decode cX7_balance 37 = .ok (.ireturn, 1) := by decide +kernel
theorem dX7_word_0 : decode cX7_word 0 = .ok (.iload_n 1, 1) := by decide +kernel
theorem dX7_word_1 : decode cX7_word 1 = .ok (.iconst 0, 1) := by decide +kernel
theorem dX7_word_2 : decode cX7_word 2 = .ok (.sipush 255, 3) := by decide +kernel
theorem dX7_word_5 : decode cX7_word 5 = .ok (.invokestatic 25, 3) := by decide +kernel
theorem dX7_word_8 : decode cX7_word 8 = .ok (.ifCond .ne 7, 3) := by decide +kernel
theorem dX7_word_11 : decode cX7_word 11 = .ok (.sipush (-10001), 3) := by decide +kernel
theorem dX7_word_14 : decode cX7_word 14 = .ok (.ireturn, 1) := by decide +kernel
theorem dX7_word_15 : decode cX7_word 15 = .ok (.aload_n 0, 1) := by decide +kernel
theorem dX7_word_16 : decode cX7_word 16 = .ok (.getfield 7, 3) := by decide +kernel
theorem dX7_word_19 : decode cX7_word 19 = .ok (.sipush 432, 3) := by decide +kernel
theorem dX7_word_22 : decode cX7_word 22 = .ok (.iaload, 1) := by decide +kernel
theorem dX7_word_23 : decode cX7_word 23 = .ok (.bipush 6, 2) := by decide +kernel
theorem dX7_word_25 : decode cX7_word 25 = .ok (.if_icmp .ne 7, 3) := by decide +kernel
theorem dX7_word_28 : decode cX7_word 28 = .ok (.sipush (-10003), 3) := by decide +kernel
theorem dX7_word_31 : decode cX7_word 31 = .ok (.ireturn, 1) := by decide +kernel
theorem dX7_word_32 : decode cX7_word 32 = .ok (.aload_n 0, 1) := by decide +kernel
theorem dX7_word_33 : decode cX7_word 33 = .ok (.getfield 7, 3) := by decide +kernel
theorem dX7_word_36 : decode cX7_word 36 = .ok (.sipush 432, 3) := by decide +kernel
theorem dX7_word_39 : decode cX7_word 39 = .ok (.dup2, 1) := by decide +kernel
theorem dX7_word_40 : decode cX7_word 40 = .ok (.iaload, 1) := by decide +kernel
theorem dX7_word_41 : decode cX7_word 41 = .ok (.iconst 1, 1) := by decide +kernel
theorem dX7_word_42 : decode cX7_word 42 = .ok (.iadd, 1) := by decide +kernel
theorem dX7_word_43 : decode cX7_word 43 = .ok (.iastore, 1) := by decide +kernel
theorem dX7_word_44 : decode cX7_word 44 = .ok (.aload_n 0, 1) := by decide +kernel
theorem dX7_word_45 : decode cX7_word 45 = .ok (.getfield 7, 3) := by decide +kernel
theorem dX7_word_48 : decode cX7_word 48 = .ok (.sipush 432, 3) := by decide +kernel
theorem dX7_word_51 : decode cX7_word 51 = .ok (.aload_n 0, 1) := by decide +kernel
theorem dX7_word_52 : decode cX7_word 52 = .ok (.getfield 7, 3) := by decide +kernel
theorem dX7_word_55 : decode cX7_word 55 = .ok (.sipush 432, 3) := by decide +kernel
theorem dX7_word_58 : decode cX7_word 58 = .ok (.iaload, 1) := by decide +kernel
theorem dX7_word_59 : decode cX7_word 59 = .ok (.iadd, 1) := by decide +kernel
theorem dX7_word_60 : decode cX7_word 60 = .ok (.iload_n 1, 1) := by decide +kernel
theorem dX7_word_61 : decode cX7_word 61 = .ok (.iastore, 1) := by decide +kernel
theorem dX7_word_62 : decode cX7_word 62 = .ok (.aload_n 0, 1) := by decide +kernel
theorem dX7_word_63 : decode cX7_word 63 = .ok (.getfield 7, 3) := by decide +kernel
theorem dX7_word_66 : decode cX7_word 66 = .ok (.sipush 432, 3) := by decide +kernel
theorem dX7_word_69 : decode cX7_word 69 = .ok (.iaload, 1) := by decide +kernel
theorem dX7_word_70 : decode cX7_word 70 = .ok (.ireturn, 1) := by decide +kernel
theorem dX7_files_0 : decode cX7_files 0 = .ok (.iconst 0, 1) := by decide +kernel
theorem dX7_files_1 : decode cX7_files 1 = .ok (.istore_n 1, 1) := by decide +kernel
theorem dX7_files_2 : decode cX7_files 2 = .ok (.iconst 0, 1) := by decide +kernel
theorem dX7_files_3 : decode cX7_files 3 = .ok (.istore_n 2, 1) := by decide +kernel
theorem dX7_files_4 : decode cX7_files 4 = .ok (.iload_n 2, 1) := by decide +kernel
theorem dX7_files_5 : decode cX7_files 5 = .ok (.bipush 8, 2) := by decide +kernel
theorem dX7_files_7 : decode cX7_files 7 = .ok (.if_icmp .ge 25, 3) := by decide +kernel
theorem dX7_files_10 : decode cX7_files 10 = .ok (.iload_n 1, 1) := by decide +kernel
theorem dX7_files_11 : decode cX7_files 11 = .ok (.aload_n 0, 1) := by decide +kernel
theorem dX7_files_12 : decode cX7_files 12 = .ok (.iload_n 2, 1) := by decide +kernel
theorem dX7_files_13 : decode cX7_files 13 = .ok (.invokevirtual 43, 3) := by decide +kernel
theorem dX7_files_16 : decode cX7_files 16 = .ok (.ifCond .eq 7, 3) := by decide +kernel
theorem dX7_files_19 : decode cX7_files 19 = .ok (.iconst 1, 1) := by decide +kernel
theorem dX7_files_20 : decode cX7_files 20 = .ok (.goto 4, 3) := by decide +kernel
theorem dX7_files_23 : decode cX7_files 23 = .ok (.iconst 0, 1) := by decide +kernel
theorem dX7_files_24 : decode cX7_files 24 = .ok (.iadd, 1) := by decide +kernel
theorem dX7_files_25 : decode cX7_files 25 = .ok (.istore_n 1, 1) := by decide +kernel
theorem dX7_files_26 : decode cX7_files 26 = .ok (.iinc 2 1, 3) := by decide +kernel
theorem dX7_files_29 : decode cX7_files 29 = .ok (.goto (-25), 3) := by decide +kernel
theorem dX7_files_32 : decode cX7_files 32 = .ok (.iload_n 1, 1) := by decide +kernel
theorem dX7_files_33 : decode cX7_files 33 = .ok (.ireturn, 1) := by decide +kernel
theorem dX7_store_0 : decode cX7_store 0 = .ok (.aload_n 0, 1) := by decide +kernel
theorem dX7_store_1 : decode cX7_store 1 = .ok (.iload_n 1, 1) := by decide +kernel
theorem dX7_store_2 : decode cX7_store 2 = .ok (.invokevirtual 67, 3) := by decide +kernel
theorem dX7_store_5 : decode cX7_store 5 = .ok (.ifCond .eq 12, 3) := by decide +kernel
theorem dX7_store_8 : decode cX7_store 8 = .ok (.iload_n 2, 1) := by decide +kernel
theorem dX7_store_9 : decode cX7_store 9 = .ok (.iconst 0, 1) := by decide +kernel
theorem dX7_store_10 : decode cX7_store 10 = .ok (.iconst 4, 1) := by decide +kernel
theorem dX7_store_11 : decode cX7_store 11 = .ok (.invokestatic 25, 3) := by decide +kernel
theorem dX7_store_14 : decode cX7_store 14 = .ok (.ifCond .ne 7, 3) := by decide +kernel
theorem dX7_store_17 : decode cX7_store 17 = .ok (.sipush (-10001), 3) := by decide +kernel
theorem dX7_store_20 : decode cX7_store 20 = .ok (.ireturn, 1) := by decide +kernel
theorem dX7_store_21 : decode cX7_store 21 = .ok (.aload_n 0, 1) := by decide +kernel
theorem dX7_store_22 : decode cX7_store 22 = .ok (.getfield 7, 3) := by decide +kernel
theorem dX7_store_25 : decode cX7_store 25 = .ok (.sipush 432, 3) := by decide +kernel
theorem dX7_store_28 : decode cX7_store 28 = .ok (.iaload, 1) := by decide +kernel
theorem dX7_store_29 : decode cX7_store 29 = .ok (.ifCond .eq 11, 3) := by decide +kernel
theorem dX7_store_32 : decode cX7_store 32 = .ok (.aload_n 0, 1) := by decide +kernel
theorem dX7_store_33 : decode cX7_store 33 = .ok (.iload_n 1, 1) := by decide +kernel
theorem dX7_store_34 : decode cX7_store 34 = .ok (.invokevirtual 51, 3) := by decide +kernel
theorem dX7_store_37 : decode cX7_store 37 = .ok (.ifCond .ne 7, 3) := by decide +kernel
theorem dX7_store_40 : decode cX7_store 40 = .ok (.sipush (-10002), 3) := by decide +kernel
theorem dX7_store_43 : decode cX7_store 43 = .ok (.ireturn, 1) := by decide +kernel
theorem dX7_store_44 : decode cX7_store 44 = .ok (.aload_n 0, 1) := by decide +kernel
theorem dX7_store_45 : decode cX7_store 45 = .ok (.invokevirtual 99, 3) := by decide +kernel
theorem dX7_store_48 : decode cX7_store 48 = .ok (.bipush 8, 2) := by decide +kernel
theorem dX7_store_50 : decode cX7_store 50 = .ok (.if_icmp .ne 7, 3) := by decide +kernel
theorem dX7_store_53 : decode cX7_store 53 = .ok (.sipush (-10003), 3) := by decide +kernel
theorem dX7_store_56 : decode cX7_store 56 = .ok (.ireturn, 1) := by decide +kernel
theorem dX7_store_57 : decode cX7_store 57 = .ok (.aload_n 0, 1) := by decide +kernel
theorem dX7_store_58 : decode cX7_store 58 = .ok (.invokevirtual 80, 3) := by decide +kernel
theorem dX7_store_61 : decode cX7_store 61 = .ok (.iconst 0, 1) := by decide +kernel
theorem dX7_store_62 : decode cX7_store 62 = .ok (.istore_n 3, 1) := by decide +kernel
theorem dX7_store_63 : decode cX7_store 63 = .ok (.aload_n 0, 1) := by decide +kernel
theorem dX7_store_64 : decode cX7_store 64 = .ok (.iload_n 3, 1) := by decide +kernel
theorem dX7_store_65 : decode cX7_store 65 = .ok (.invokevirtual 43, 3) := by decide +kernel
theorem dX7_store_68 : decode cX7_store 68 = .ok (.ifCond .eq 9, 3) := by decide +kernel
theorem dX7_store_71 : decode cX7_store 71 = .ok (.iinc 3 1, 3) := by decide +kernel
theorem dX7_store_74 : decode cX7_store 74 = .ok (.goto (-11), 3) := by decide +kernel
theorem dX7_store_77 : decode cX7_store 77 = .ok (.aload_n 0, 1) := by decide +kernel
theorem dX7_store_78 : decode cX7_store 78 = .ok (.getfield 7, 3) := by decide +kernel
theorem dX7_store_81 : decode cX7_store 81 = .ok (.iload_n 3, 1) := by decide +kernel
theorem dX7_store_82 : decode cX7_store 82 = .ok (.iconst 0, 1) := by decide +kernel
theorem dX7_store_83 : decode cX7_store 83 = .ok (.invokestatic 33, 3) := by decide +kernel
theorem dX7_store_86 : decode cX7_store 86 = .ok (.iconst 1, 1) := by decide +kernel
theorem dX7_store_87 : decode cX7_store 87 = .ok (.iastore, 1) := by decide +kernel
theorem dX7_store_88 : decode cX7_store 88 = .ok (.aload_n 0, 1) := by decide +kernel
theorem dX7_store_89 : decode cX7_store 89 = .ok (.getfield 7, 3) := by decide +kernel
theorem dX7_store_92 : decode cX7_store 92 = .ok (.iload_n 3, 1) := by decide +kernel
theorem dX7_store_93 : decode cX7_store 93 = .ok (.iconst 1, 1) := by decide +kernel
theorem dX7_store_94 : decode cX7_store 94 = .ok (.invokestatic 33, 3) := by decide +kernel
theorem dX7_store_97 : decode cX7_store 97 = .ok (.iload_n 1, 1) := by decide +kernel
theorem dX7_store_98 : decode cX7_store 98 = .ok (.iastore, 1) := by decide +kernel
theorem dX7_store_99 : decode cX7_store 99 = .ok (.aload_n 0, 1) := by decide +kernel
theorem dX7_store_100 : decode cX7_store 100 = .ok (.getfield 7, 3) := by decide +kernel
theorem dX7_store_103 : decode cX7_store 103 = .ok (.iload_n 3, 1) := by decide +kernel
theorem dX7_store_104 : decode cX7_store 104 = .ok (.iconst 2, 1) := by decide +kernel
theorem dX7_store_105 : decode cX7_store 105 = .ok (.invokestatic 33, 3) := by decide +kernel
theorem dX7_store_108 : decode cX7_store 108 = .ok (.aload_n 0, 1) := by decide +kernel
theorem dX7_store_109 : decode cX7_store 109 = .ok (.getfield 7, 3) := by decide +kernel
theorem dX7_store_112 : decode cX7_store 112 = .ok (.sipush 432, 3) := by decide +kernel
theorem dX7_store_115 : decode cX7_store 115 = .ok (.iaload, 1) := by decide +kernel
theorem dX7_store_116 : decode cX7_store 116 = .ok (.iastore, 1) := by decide +kernel
theorem dX7_store_117 : decode cX7_store 117 = .ok (.aload_n 0, 1) := by decide +kernel
theorem dX7_store_118 : decode cX7_store 118 = .ok (.getfield 7, 3) := by decide +kernel
theorem dX7_store_121 : decode cX7_store 121 = .ok (.iload_n 3, 1) := by decide +kernel
theorem dX7_store_122 : decode cX7_store 122 = .ok (.iconst 3, 1) := by decide +kernel
theorem dX7_store_123 : decode cX7_store 123 = .ok (.invokestatic 33, 3) := by decide +kernel
theorem dX7_store_126 : decode cX7_store 126 = .ok (.iload_n 2, 1) := by decide +kernel
theorem dX7_store_127 : decode cX7_store 127 = .ok (.iastore, 1) := by decide +kernel
theorem dX7_store_128 : decode cX7_store 128 = .ok (.iconst 0, 1) := by decide +kernel
theorem dX7_store_129 : decode cX7_store 129 = .ok (.istore 4, 2) := by decide +kernel
theorem dX7_store_131 : decode cX7_store 131 = .ok (.iload 4, 2) := by decide +kernel
theorem dX7_store_133 : decode cX7_store 133 = .ok (.bipush 10, 2) := by decide +kernel
theorem dX7_store_135 : decode cX7_store 135 = .ok (.if_icmp .ge 39, 3) := by decide +kernel
theorem dX7_store_138 : decode cX7_store 138 = .ok (.aload_n 0, 1) := by decide +kernel
theorem dX7_store_139 : decode cX7_store 139 = .ok (.getfield 7, 3) := by decide +kernel
theorem dX7_store_142 : decode cX7_store 142 = .ok (.iload_n 3, 1) := by decide +kernel
theorem dX7_store_143 : decode cX7_store 143 = .ok (.bipush 10, 2) := by decide +kernel
theorem dX7_store_145 : decode cX7_store 145 = .ok (.iload 4, 2) := by decide +kernel
theorem dX7_store_147 : decode cX7_store 147 = .ok (.iadd, 1) := by decide +kernel
theorem dX7_store_148 : decode cX7_store 148 = .ok (.invokestatic 33, 3) := by decide +kernel
theorem dX7_store_151 : decode cX7_store 151 = .ok (.iconst (-1), 1) := by decide +kernel
theorem dX7_store_152 : decode cX7_store 152 = .ok (.iastore, 1) := by decide +kernel
theorem dX7_store_153 : decode cX7_store 153 = .ok (.aload_n 0, 1) := by decide +kernel
theorem dX7_store_154 : decode cX7_store 154 = .ok (.getfield 7, 3) := by decide +kernel
theorem dX7_store_157 : decode cX7_store 157 = .ok (.iload_n 3, 1) := by decide +kernel
theorem dX7_store_158 : decode cX7_store 158 = .ok (.bipush 20, 2) := by decide +kernel
theorem dX7_store_160 : decode cX7_store 160 = .ok (.iload 4, 2) := by decide +kernel
theorem dX7_store_162 : decode cX7_store 162 = .ok (.iadd, 1) := by decide +kernel
theorem dX7_store_163 : decode cX7_store 163 = .ok (.invokestatic 33, 3) := by decide +kernel
theorem dX7_store_166 : decode cX7_store 166 = .ok (.iconst 0, 1) := by decide +kernel
theorem dX7_store_167 : decode cX7_store 167 = .ok (.iastore, 1) := by decide +kernel
theorem dX7_store_168 : decode cX7_store 168 = .ok (.iinc 4 1, 3) := by decide +kernel
theorem dX7_store_171 : decode cX7_store 171 = .ok (.goto (-40), 3) := by decide +kernel
theorem dX7_store_174 : decode cX7_store 174 = .ok (.iconst 0, 1) := by decide +kernel
theorem dX7_store_175 : decode cX7_store 175 = .ok (.istore 4, 2) := by decide +kernel
theorem dX7_store_177 : decode cX7_store 177 = .ok (.iload 4, 2) := by decide +kernel
theorem dX7_store_179 : decode cX7_store 179 = .ok (.bipush 6, 2) := by decide +kernel
theorem dX7_store_181 : decode cX7_store 181 = .ok (.if_icmp .ge 62, 3) := by decide +kernel
theorem dX7_store_184 : decode cX7_store 184 = .ok (.aload_n 0, 1) := by decide +kernel
theorem dX7_store_185 : decode cX7_store 185 = .ok (.getfield 7, 3) := by decide +kernel
theorem dX7_store_188 : decode cX7_store 188 = .ok (.iload_n 3, 1) := by decide +kernel
theorem dX7_store_189 : decode cX7_store 189 = .ok (.iconst 4, 1) := by decide +kernel
theorem dX7_store_190 : decode cX7_store 190 = .ok (.iload 4, 2) := by decide +kernel
theorem dX7_store_192 : decode cX7_store 192 = .ok (.iadd, 1) := by decide +kernel
theorem dX7_store_193 : decode cX7_store 193 = .ok (.invokestatic 33, 3) := by decide +kernel
theorem dX7_store_196 : decode cX7_store 196 = .ok (.iload 4, 2) := by decide +kernel
theorem dX7_store_198 : decode cX7_store 198 = .ok (.aload_n 0, 1) := by decide +kernel
theorem dX7_store_199 : decode cX7_store 199 = .ok (.getfield 7, 3) := by decide +kernel
theorem dX7_store_202 : decode cX7_store 202 = .ok (.sipush 432, 3) := by decide +kernel
theorem dX7_store_205 : decode cX7_store 205 = .ok (.iaload, 1) := by decide +kernel
theorem dX7_store_206 : decode cX7_store 206 = .ok (.if_icmp .ge 17, 3) := by decide +kernel
theorem dX7_store_209 : decode cX7_store 209 = .ok (.aload_n 0, 1) := by decide +kernel
theorem dX7_store_210 : decode cX7_store 210 = .ok (.getfield 7, 3) := by decide +kernel
theorem dX7_store_213 : decode cX7_store 213 = .ok (.sipush 433, 3) := by decide +kernel
theorem dX7_store_216 : decode cX7_store 216 = .ok (.iload 4, 2) := by decide +kernel
theorem dX7_store_218 : decode cX7_store 218 = .ok (.iadd, 1) := by decide +kernel
theorem dX7_store_219 : decode cX7_store 219 = .ok (.iaload, 1) := by decide +kernel
theorem dX7_store_220 : decode cX7_store 220 = .ok (.goto 4, 3) := by decide +kernel
theorem dX7_store_223 : decode cX7_store 223 = .ok (.iconst 0, 1) := by decide +kernel
theorem dX7_store_224 : decode cX7_store 224 = .ok (.iastore, 1) := by decide +kernel
theorem dX7_store_225 : decode cX7_store 225 = .ok (.aload_n 0, 1) := by decide +kernel
theorem dX7_store_226 : decode cX7_store 226 = .ok (.getfield 7, 3) := by decide +kernel
theorem dX7_store_229 : decode cX7_store 229 = .ok (.sipush 433, 3) := by decide +kernel
theorem dX7_store_232 : decode cX7_store 232 = .ok (.iload 4, 2) := by decide +kernel
theorem dX7_store_234 : decode cX7_store 234 = .ok (.iadd, 1) := by decide +kernel
theorem dX7_store_235 : decode cX7_store 235 = .ok (.iconst 0, 1) := by decide +kernel
theorem dX7_store_236 : decode cX7_store 236 = .ok (.iastore, 1) := by decide +kernel
theorem dX7_store_237 : decode cX7_store 237 = .ok (.iinc 4 1, 3) := by decide +kernel
theorem dX7_store_240 : decode cX7_store 240 = .ok (.goto (-63), 3) := by decide +kernel
theorem dX7_store_243 : decode cX7_store 243 = .ok (.aload_n 0, 1) := by decide +kernel
theorem dX7_store_244 : decode cX7_store 244 = .ok (.getfield 7, 3) := by decide +kernel
theorem dX7_store_247 : decode cX7_store 247 = .ok (.sipush 432, 3) := by decide +kernel
theorem dX7_store_250 : decode cX7_store 250 = .ok (.iconst 0, 1) := by decide +kernel
theorem dX7_store_251 : decode cX7_store 251 = .ok (.iastore, 1) := by decide +kernel
theorem dX7_store_252 : decode cX7_store 252 = .ok (.iconst 0, 1) := by decide +kernel
theorem dX7_store_253 : decode cX7_store 253 = .ok (.istore 4, 2) := by decide +kernel
theorem dX7_store_255 : decode cX7_store 255 = .ok (.iload 4, 2) := by decide +kernel
theorem dX7_store_257 : decode cX7_store 257 = .ok (.aload_n 0, 1) := by decide +kernel
theorem dX7_store_258 : decode cX7_store 258 = .ok (.iload_n 3, 1) := by decide +kernel
theorem dX7_store_259 : decode cX7_store 259 = .ok (.invokevirtual 47, 3) := by decide +kernel
theorem dX7_store_262 : decode cX7_store 262 = .ok (.if_icmp .ge 18, 3) := by decide +kernel
theorem dX7_store_265 : decode cX7_store 265 = .ok (.aload_n 0, 1) := by decide +kernel
theorem dX7_store_266 : decode cX7_store 266 = .ok (.iload_n 3, 1) := by decide +kernel
theorem dX7_store_267 : decode cX7_store 267 = .ok (.iload 4, 2) := by decide +kernel
theorem dX7_store_269 : decode cX7_store 269 = .ok (.iconst (-1), 1) := by decide +kernel
theorem dX7_store_270 : decode cX7_store 270 = .ok (.invokevirtual 83, 3) := by decide +kernel
theorem dX7_store_273 : decode cX7_store 273 = .ok (.pop, 1) := by decide +kernel
theorem dX7_store_274 : decode cX7_store 274 = .ok (.iinc 4 1, 3) := by decide +kernel
theorem dX7_store_277 : decode cX7_store 277 = .ok (.goto (-22), 3) := by decide +kernel
theorem dX7_store_280 : decode cX7_store 280 = .ok (.iload_n 3, 1) := by decide +kernel
theorem dX7_store_281 : decode cX7_store 281 = .ok (.ireturn, 1) := by decide +kernel
theorem dX7_delete_0 : decode cX7_delete 0 = .ok (.aload_n 0, 1) := by decide +kernel
theorem dX7_delete_1 : decode cX7_delete 1 = .ok (.iload_n 1, 1) := by decide +kernel
theorem dX7_delete_2 : decode cX7_delete 2 = .ok (.invokevirtual 43, 3) := by decide +kernel
theorem dX7_delete_5 : decode cX7_delete 5 = .ok (.ifCond .ne 7, 3) := by decide +kernel
theorem dX7_delete_8 : decode cX7_delete 8 = .ok (.sipush (-10001), 3) := by decide +kernel
theorem dX7_delete_11 : decode cX7_delete 11 = .ok (.ireturn, 1) := by decide +kernel
theorem dX7_delete_12 : decode cX7_delete 12 = .ok (.aload_n 0, 1) := by decide +kernel
theorem dX7_delete_13 : decode cX7_delete 13 = .ok (.invokevirtual 80, 3) := by decide +kernel
theorem dX7_delete_16 : decode cX7_delete 16 = .ok (.aload_n 0, 1) := by decide +kernel
theorem dX7_delete_17 : decode cX7_delete 17 = .ok (.iload_n 1, 1) := by decide +kernel
theorem dX7_delete_18 : decode cX7_delete 18 = .ok (.invokevirtual 96, 3) := by decide +kernel
theorem dX7_delete_21 : decode cX7_delete 21 = .ok (.aload_n 0, 1) := by decide +kernel
theorem dX7_delete_22 : decode cX7_delete 22 = .ok (.invokevirtual 99, 3) := by decide +kernel
theorem dX7_delete_25 : decode cX7_delete 25 = .ok (.ireturn, 1) := by decide +kernel
theorem dX7_storedOf_0 : decode cX7_storedOf 0 = .ok (.iconst 0, 1) := by decide +kernel
theorem dX7_storedOf_1 : decode cX7_storedOf 1 = .ok (.istore_n 2, 1) := by decide +kernel
theorem dX7_storedOf_2 : decode cX7_storedOf 2 = .ok (.iconst 0, 1) := by decide +kernel
theorem dX7_storedOf_3 : decode cX7_storedOf 3 = .ok (.istore_n 3, 1) := by decide +kernel
theorem dX7_storedOf_4 : decode cX7_storedOf 4 = .ok (.iload_n 3, 1) := by decide +kernel
theorem dX7_storedOf_5 : decode cX7_storedOf 5 = .ok (.aload_n 0, 1) := by decide +kernel
theorem dX7_storedOf_6 : decode cX7_storedOf 6 = .ok (.iload_n 1, 1) := by decide +kernel
theorem dX7_storedOf_7 : decode cX7_storedOf 7 = .ok (.invokevirtual 47, 3) := by decide +kernel
theorem dX7_storedOf_10 : decode cX7_storedOf 10 = .ok (.if_icmp .ge 29, 3) := by decide +kernel
theorem dX7_storedOf_13 : decode cX7_storedOf 13 = .ok (.iload_n 2, 1) := by decide +kernel
theorem dX7_storedOf_14 : decode cX7_storedOf 14 = .ok (.aload_n 0, 1) := by decide +kernel
theorem dX7_storedOf_15 : decode cX7_storedOf 15 = .ok (.iload_n 1, 1) := by decide +kernel
theorem dX7_storedOf_16 : decode cX7_storedOf 16 = .ok (.bipush 10, 2) := by decide +kernel
theorem dX7_storedOf_18 : decode cX7_storedOf 18 = .ok (.iload_n 3, 1) := by decide +kernel
theorem dX7_storedOf_19 : decode cX7_storedOf 19 = .ok (.iadd, 1) := by decide +kernel
theorem dX7_storedOf_20 : decode cX7_storedOf 20 = .ok (.invokevirtual 29, 3) := by decide +kernel
theorem dX7_storedOf_23 : decode cX7_storedOf 23 = .ok (.ifCond .lt 7, 3) := by decide +kernel
theorem dX7_storedOf_26 : decode cX7_storedOf 26 = .ok (.iconst 1, 1) := by decide +kernel
theorem dX7_storedOf_27 : decode cX7_storedOf 27 = .ok (.goto 4, 3) := by decide +kernel
theorem dX7_storedOf_30 : decode cX7_storedOf 30 = .ok (.iconst 0, 1) := by decide +kernel
theorem dX7_storedOf_31 : decode cX7_storedOf 31 = .ok (.iadd, 1) := by decide +kernel
theorem dX7_storedOf_32 : decode cX7_storedOf 32 = .ok (.istore_n 2, 1) := by decide +kernel
theorem dX7_storedOf_33 : decode cX7_storedOf 33 = .ok (.iinc 3 1, 3) := by decide +kernel
theorem dX7_storedOf_36 : decode cX7_storedOf 36 = .ok (.goto (-32), 3) := by decide +kernel
theorem dX7_storedOf_39 : decode cX7_storedOf 39 = .ok (.iload_n 2, 1) := by decide +kernel
theorem dX7_storedOf_40 : decode cX7_storedOf 40 = .ok (.ireturn, 1) := by decide +kernel
theorem dX7_fileInfo_0 : decode cX7_fileInfo 0 = .ok (.aload_n 0, 1) := by decide +kernel
theorem dX7_fileInfo_1 : decode cX7_fileInfo 1 = .ok (.iload_n 1, 1) := by decide +kernel
theorem dX7_fileInfo_2 : decode cX7_fileInfo 2 = .ok (.invokevirtual 43, 3) := by decide +kernel
theorem dX7_fileInfo_5 : decode cX7_fileInfo 5 = .ok (.ifCond .eq 13, 3) := by decide +kernel
theorem dX7_fileInfo_8 : decode cX7_fileInfo 8 = .ok (.iload_n 2, 1) := by decide +kernel
theorem dX7_fileInfo_9 : decode cX7_fileInfo 9 = .ok (.iconst 0, 1) := by decide +kernel
theorem dX7_fileInfo_10 : decode cX7_fileInfo 10 = .ok (.bipush 6, 2) := by decide +kernel
theorem dX7_fileInfo_12 : decode cX7_fileInfo 12 = .ok (.invokestatic 25, 3) := by decide +kernel
theorem dX7_fileInfo_15 : decode cX7_fileInfo 15 = .ok (.ifCond .ne 7, 3) := by decide +kernel
theorem dX7_fileInfo_18 : decode cX7_fileInfo 18 = .ok (.sipush (-10001), 3) := by decide +kernel
theorem dX7_fileInfo_21 : decode cX7_fileInfo 21 = .ok (.ireturn, 1) := by decide +kernel
theorem dX7_fileInfo_22 : decode cX7_fileInfo 22 = .ok (.iload_n 2, 1) := by decide +kernel
theorem dX7_fileInfo_23 : decode cX7_fileInfo 23 = .ok (.iconst 3, 1) := by decide +kernel
theorem dX7_fileInfo_24 : decode cX7_fileInfo 24 = .ok (.if_icmp .ge 14, 3) := by decide +kernel
theorem dX7_fileInfo_27 : decode cX7_fileInfo 27 = .ok (.aload_n 0, 1) := by decide +kernel
theorem dX7_fileInfo_28 : decode cX7_fileInfo 28 = .ok (.iload_n 1, 1) := by decide +kernel
theorem dX7_fileInfo_29 : decode cX7_fileInfo 29 = .ok (.iload_n 2, 1) := by decide +kernel
theorem dX7_fileInfo_30 : decode cX7_fileInfo 30 = .ok (.iconst 1, 1) := by decide +kernel
theorem dX7_fileInfo_31 : decode cX7_fileInfo 31 = .ok (.iadd, 1) := by decide +kernel
theorem dX7_fileInfo_32 : decode cX7_fileInfo 32 = .ok (.invokevirtual 29, 3) := by decide +kernel
theorem dX7_fileInfo_35 : decode cX7_fileInfo 35 = .ok (.goto 62, 3) := by decide +kernel
theorem dX7_fileInfo_38 : decode cX7_fileInfo 38 = .ok (.iload_n 2, 1) := by decide +kernel
theorem dX7_fileInfo_39 : decode cX7_fileInfo 39 = .ok (.iconst 3, 1) := by decide +kernel
theorem dX7_fileInfo_40 : decode cX7_fileInfo 40 = .ok (.if_icmp .ne 11, 3) := by decide +kernel
theorem dX7_fileInfo_43 : decode cX7_fileInfo 43 = .ok (.aload_n 0, 1) := by decide +kernel
theorem dX7_fileInfo_44 : decode cX7_fileInfo 44 = .ok (.iload_n 1, 1) := by decide +kernel
theorem dX7_fileInfo_45 : decode cX7_fileInfo 45 = .ok (.invokevirtual 103, 3) := by decide +kernel
theorem dX7_fileInfo_48 : decode cX7_fileInfo 48 = .ok (.goto 49, 3) := by decide +kernel
theorem dX7_fileInfo_51 : decode cX7_fileInfo 51 = .ok (.iload_n 2, 1) := by decide +kernel
theorem dX7_fileInfo_52 : decode cX7_fileInfo 52 = .ok (.iconst 4, 1) := by decide +kernel
theorem dX7_fileInfo_53 : decode cX7_fileInfo 53 = .ok (.if_icmp .ne 11, 3) := by decide +kernel
theorem dX7_fileInfo_56 : decode cX7_fileInfo 56 = .ok (.aload_n 0, 1) := by decide +kernel
theorem dX7_fileInfo_57 : decode cX7_fileInfo 57 = .ok (.iload_n 1, 1) := by decide +kernel
theorem dX7_fileInfo_58 : decode cX7_fileInfo 58 = .ok (.invokevirtual 58, 3) := by decide +kernel
theorem dX7_fileInfo_61 : decode cX7_fileInfo 61 = .ok (.goto 36, 3) := by decide +kernel
theorem dX7_fileInfo_64 : decode cX7_fileInfo 64 = .ok (.iload_n 2, 1) := by decide +kernel
theorem dX7_fileInfo_65 : decode cX7_fileInfo 65 = .ok (.iconst 5, 1) := by decide +kernel
theorem dX7_fileInfo_66 : decode cX7_fileInfo 66 = .ok (.if_icmp .ne 19, 3) := by decide +kernel
theorem dX7_fileInfo_69 : decode cX7_fileInfo 69 = .ok (.aload_n 0, 1) := by decide +kernel
theorem dX7_fileInfo_70 : decode cX7_fileInfo 70 = .ok (.iload_n 1, 1) := by decide +kernel
theorem dX7_fileInfo_71 : decode cX7_fileInfo 71 = .ok (.invokevirtual 106, 3) := by decide +kernel
theorem dX7_fileInfo_74 : decode cX7_fileInfo 74 = .ok (.ifCond .eq 7, 3) := by decide +kernel
theorem dX7_fileInfo_77 : decode cX7_fileInfo 77 = .ok (.iconst 1, 1) := by decide +kernel
theorem dX7_fileInfo_78 : decode cX7_fileInfo 78 = .ok (.goto 19, 3) := by decide +kernel
theorem dX7_fileInfo_81 : decode cX7_fileInfo 81 = .ok (.iconst 0, 1) := by decide +kernel
theorem dX7_fileInfo_82 : decode cX7_fileInfo 82 = .ok (.goto 15, 3) := by decide +kernel
theorem dX7_fileInfo_85 : decode cX7_fileInfo 85 = .ok (.aload_n 0, 1) := by decide +kernel
theorem dX7_fileInfo_86 : decode cX7_fileInfo 86 = .ok (.iload_n 1, 1) := by decide +kernel
theorem dX7_fileInfo_87 : decode cX7_fileInfo 87 = .ok (.invokevirtual 58, 3) := by decide +kernel
theorem dX7_fileInfo_90 : decode cX7_fileInfo 90 = .ok (.aload_n 0, 1) := by decide +kernel
theorem dX7_fileInfo_91 : decode cX7_fileInfo 91 = .ok (.iload_n 1, 1) := by decide +kernel
theorem dX7_fileInfo_92 : decode cX7_fileInfo 92 = .ok (.iconst 2, 1) := by decide +kernel
theorem dX7_fileInfo_93 : decode cX7_fileInfo 93 = .ok (.invokevirtual 29, 3) := by decide +kernel
theorem dX7_fileInfo_96 : decode cX7_fileInfo 96 = .ok (.isub, 1) := by decide +kernel
theorem dX7_fileInfo_97 : decode cX7_fileInfo 97 = .ok (.ireturn, 1) := by decide +kernel
theorem dX7_isFragment_0 : decode cX7_isFragment 0 = .ok (.aload_n 0, 1) := by decide +kernel
theorem dX7_isFragment_1 : decode cX7_isFragment 1 = .ok (.iload_n 1, 1) := by decide +kernel
theorem dX7_isFragment_2 : decode cX7_isFragment 2 = .ok (.invokevirtual 43, 3) := by decide +kernel
theorem dX7_isFragment_5 : decode cX7_isFragment 5 = .ok (.ifCond .eq 22, 3) := by decide +kernel
theorem dX7_isFragment_8 : decode cX7_isFragment 8 = .ok (.iload_n 2, 1) := by decide +kernel
theorem dX7_isFragment_9 : decode cX7_isFragment 9 = .ok (.iconst 0, 1) := by decide +kernel
theorem dX7_isFragment_10 : decode cX7_isFragment 10 = .ok (.aload_n 0, 1) := by decide +kernel
theorem dX7_isFragment_11 : decode cX7_isFragment 11 = .ok (.iload_n 1, 1) := by decide +kernel
theorem dX7_isFragment_12 : decode cX7_isFragment 12 = .ok (.invokevirtual 47, 3) := by decide +kernel
theorem dX7_isFragment_15 : decode cX7_isFragment 15 = .ok (.iconst 1, 1) := by decide +kernel
theorem dX7_isFragment_16 : decode cX7_isFragment 16 = .ok (.isub, 1) := by decide +kernel
theorem dX7_isFragment_17 : decode cX7_isFragment 17 = .ok (.invokestatic 25, 3) := by decide +kernel
theorem dX7_isFragment_20 : decode cX7_isFragment 20 = .ok (.ifCond .eq 7, 3) := by decide +kernel
theorem dX7_isFragment_23 : decode cX7_isFragment 23 = .ok (.iconst 1, 1) := by decide +kernel
theorem dX7_isFragment_24 : decode cX7_isFragment 24 = .ok (.goto 4, 3) := by decide +kernel
theorem dX7_isFragment_27 : decode cX7_isFragment 27 = .ok (.iconst 0, 1) := by decide +kernel
theorem dX7_isFragment_28 : decode cX7_isFragment 28 = .ok (.ireturn, 1) := by decide +kernel
theorem dX7_fragment_0 : decode cX7_fragment 0 = .ok (.aload_n 0, 1) := by decide +kernel
theorem dX7_fragment_1 : decode cX7_fragment 1 = .ok (.iload_n 1, 1) := by decide +kernel
theorem dX7_fragment_2 : decode cX7_fragment 2 = .ok (.iload_n 2, 1) := by decide +kernel
theorem dX7_fragment_3 : decode cX7_fragment 3 = .ok (.invokevirtual 109, 3) := by decide +kernel
theorem dX7_fragment_6 : decode cX7_fragment 6 = .ok (.ifCond .eq 12, 3) := by decide +kernel
theorem dX7_fragment_9 : decode cX7_fragment 9 = .ok (.iload_n 3, 1) := by decide +kernel
theorem dX7_fragment_10 : decode cX7_fragment 10 = .ok (.iconst 0, 1) := by decide +kernel
theorem dX7_fragment_11 : decode cX7_fragment 11 = .ok (.iconst 1, 1) := by decide +kernel
theorem dX7_fragment_12 : decode cX7_fragment 12 = .ok (.invokestatic 25, 3) := by decide +kernel
theorem dX7_fragment_15 : decode cX7_fragment 15 = .ok (.ifCond .ne 7, 3) := by decide +kernel
theorem dX7_fragment_18 : decode cX7_fragment 18 = .ok (.sipush (-10001), 3) := by decide +kernel
theorem dX7_fragment_21 : decode cX7_fragment 21 = .ok (.ireturn, 1) := by decide +kernel
theorem dX7_fragment_22 : decode cX7_fragment 22 = .ok (.aload_n 0, 1) := by decide +kernel
theorem dX7_fragment_23 : decode cX7_fragment 23 = .ok (.iload_n 1, 1) := by decide +kernel
theorem dX7_fragment_24 : decode cX7_fragment 24 = .ok (.bipush 10, 2) := by decide +kernel
theorem dX7_fragment_26 : decode cX7_fragment 26 = .ok (.iload_n 2, 1) := by decide +kernel
theorem dX7_fragment_27 : decode cX7_fragment 27 = .ok (.iadd, 1) := by decide +kernel
theorem dX7_fragment_28 : decode cX7_fragment 28 = .ok (.invokevirtual 29, 3) := by decide +kernel
theorem dX7_fragment_31 : decode cX7_fragment 31 = .ok (.ifCond .ge 7, 3) := by decide +kernel
theorem dX7_fragment_34 : decode cX7_fragment 34 = .ok (.sipush (-10004), 3) := by decide +kernel
theorem dX7_fragment_37 : decode cX7_fragment 37 = .ok (.ireturn, 1) := by decide +kernel
theorem dX7_fragment_38 : decode cX7_fragment 38 = .ok (.iload_n 3, 1) := by decide +kernel
theorem dX7_fragment_39 : decode cX7_fragment 39 = .ok (.ifCond .ne 15, 3) := by decide +kernel
theorem dX7_fragment_42 : decode cX7_fragment 42 = .ok (.aload_n 0, 1) := by decide +kernel
theorem dX7_fragment_43 : decode cX7_fragment 43 = .ok (.iload_n 1, 1) := by decide +kernel
theorem dX7_fragment_44 : decode cX7_fragment 44 = .ok (.bipush 10, 2) := by decide +kernel
theorem dX7_fragment_46 : decode cX7_fragment 46 = .ok (.iload_n 2, 1) := by decide +kernel
theorem dX7_fragment_47 : decode cX7_fragment 47 = .ok (.iadd, 1) := by decide +kernel
theorem dX7_fragment_48 : decode cX7_fragment 48 = .ok (.invokevirtual 29, 3) := by decide +kernel
theorem dX7_fragment_51 : decode cX7_fragment 51 = .ok (.goto 9, 3) := by decide +kernel
theorem dX7_fragment_54 : decode cX7_fragment 54 = .ok (.aload_n 0, 1) := by decide +kernel
theorem dX7_fragment_55 : decode cX7_fragment 55 = .ok (.iload_n 1, 1) := by decide +kernel
theorem dX7_fragment_56 : decode cX7_fragment 56 = .ok (.iload_n 2, 1) := by decide +kernel
theorem dX7_fragment_57 : decode cX7_fragment 57 = .ok (.invokevirtual 112, 3) := by decide +kernel
theorem dX7_fragment_60 : decode cX7_fragment 60 = .ok (.ireturn, 1) := by decide +kernel
theorem dX7_read_0 : decode cX7_read 0 = .ok (.aload_n 0, 1) := by decide +kernel
theorem dX7_read_1 : decode cX7_read 1 = .ok (.iload_n 1, 1) := by decide +kernel
theorem dX7_read_2 : decode cX7_read 2 = .ok (.invokevirtual 43, 3) := by decide +kernel
theorem dX7_read_5 : decode cX7_read 5 = .ok (.ifCond .eq 19, 3) := by decide +kernel
theorem dX7_read_8 : decode cX7_read 8 = .ok (.iload_n 2, 1) := by decide +kernel
theorem dX7_read_9 : decode cX7_read 9 = .ok (.iconst 0, 1) := by decide +kernel
theorem dX7_read_10 : decode cX7_read 10 = .ok (.aload_n 0, 1) := by decide +kernel
theorem dX7_read_11 : decode cX7_read 11 = .ok (.iload_n 1, 1) := by decide +kernel
theorem dX7_read_12 : decode cX7_read 12 = .ok (.iconst 2, 1) := by decide +kernel
theorem dX7_read_13 : decode cX7_read 13 = .ok (.invokevirtual 29, 3) := by decide +kernel
theorem dX7_read_16 : decode cX7_read 16 = .ok (.iconst 1, 1) := by decide +kernel
theorem dX7_read_17 : decode cX7_read 17 = .ok (.isub, 1) := by decide +kernel
theorem dX7_read_18 : decode cX7_read 18 = .ok (.invokestatic 25, 3) := by decide +kernel
theorem dX7_read_21 : decode cX7_read 21 = .ok (.ifCond .ne 7, 3) := by decide +kernel
theorem dX7_read_24 : decode cX7_read 24 = .ok (.sipush (-10001), 3) := by decide +kernel
theorem dX7_read_27 : decode cX7_read 27 = .ok (.ireturn, 1) := by decide +kernel
theorem dX7_read_28 : decode cX7_read 28 = .ok (.aload_n 0, 1) := by decide +kernel
theorem dX7_read_29 : decode cX7_read 29 = .ok (.iload_n 1, 1) := by decide +kernel
theorem dX7_read_30 : decode cX7_read 30 = .ok (.invokevirtual 106, 3) := by decide +kernel
theorem dX7_read_33 : decode cX7_read 33 = .ok (.ifCond .ne 12, 3) := by decide +kernel
theorem dX7_read_36 : decode cX7_read 36 = .ok (.aload_n 0, 1) := by decide +kernel
theorem dX7_read_37 : decode cX7_read 37 = .ok (.iload_n 1, 1) := by decide +kernel
theorem dX7_read_38 : decode cX7_read 38 = .ok (.iload_n 2, 1) := by decide +kernel
theorem dX7_read_39 : decode cX7_read 39 = .ok (.invokevirtual 54, 3) := by decide +kernel
theorem dX7_read_42 : decode cX7_read 42 = .ok (.ifCond .eq 14, 3) := by decide +kernel
theorem dX7_read_45 : decode cX7_read 45 = .ok (.aload_n 0, 1) := by decide +kernel
theorem dX7_read_46 : decode cX7_read 46 = .ok (.iload_n 1, 1) := by decide +kernel
theorem dX7_read_47 : decode cX7_read 47 = .ok (.iconst 4, 1) := by decide +kernel
theorem dX7_read_48 : decode cX7_read 48 = .ok (.iload_n 2, 1) := by decide +kernel
theorem dX7_read_49 : decode cX7_read 49 = .ok (.iadd, 1) := by decide +kernel
theorem dX7_read_50 : decode cX7_read 50 = .ok (.invokevirtual 29, 3) := by decide +kernel
theorem dX7_read_53 : decode cX7_read 53 = .ok (.goto 6, 3) := by decide +kernel
theorem dX7_read_56 : decode cX7_read 56 = .ok (.sipush (-10002), 3) := by decide +kernel
theorem dX7_read_59 : decode cX7_read 59 = .ok (.ireturn, 1) := by decide +kernel
theorem dX7_solves_0 : decode cX7_solves 0 = .ok (.iconst 0, 1) := by decide +kernel
theorem dX7_solves_1 : decode cX7_solves 1 = .ok (.istore_n 2, 1) := by decide +kernel
theorem dX7_solves_2 : decode cX7_solves 2 = .ok (.iload_n 2, 1) := by decide +kernel
theorem dX7_solves_3 : decode cX7_solves 3 = .ok (.iload_n 1, 1) := by decide +kernel
theorem dX7_solves_4 : decode cX7_solves 4 = .ok (.if_icmp .ge 230, 3) := by decide +kernel
theorem dX7_solves_7 : decode cX7_solves 7 = .ok (.iload_n 2, 1) := by decide +kernel
theorem dX7_solves_8 : decode cX7_solves 8 = .ok (.istore_n 3, 1) := by decide +kernel
theorem dX7_solves_9 : decode cX7_solves 9 = .ok (.aload_n 0, 1) := by decide +kernel
theorem dX7_solves_10 : decode cX7_solves 10 = .ok (.getfield 22, 3) := by decide +kernel
theorem dX7_solves_13 : decode cX7_solves 13 = .ok (.bipush 7, 2) := by decide +kernel
theorem dX7_solves_15 : decode cX7_solves 15 = .ok (.iload_n 3, 1) := by decide +kernel
theorem dX7_solves_16 : decode cX7_solves 16 = .ok (.imul, 1) := by decide +kernel
theorem dX7_solves_17 : decode cX7_solves 17 = .ok (.iload_n 2, 1) := by decide +kernel
theorem dX7_solves_18 : decode cX7_solves 18 = .ok (.iadd, 1) := by decide +kernel
theorem dX7_solves_19 : decode cX7_solves 19 = .ok (.iaload, 1) := by decide +kernel
theorem dX7_solves_20 : decode cX7_solves 20 = .ok (.ifCond .ne 9, 3) := by decide +kernel
theorem dX7_solves_23 : decode cX7_solves 23 = .ok (.iinc 3 1, 3) := by decide +kernel
theorem dX7_solves_26 : decode cX7_solves 26 = .ok (.goto (-17), 3) := by decide +kernel
theorem dX7_solves_29 : decode cX7_solves 29 = .ok (.aload_n 0, 1) := by decide +kernel
theorem dX7_solves_30 : decode cX7_solves 30 = .ok (.getfield 22, 3) := by decide +kernel
theorem dX7_solves_33 : decode cX7_solves 33 = .ok (.bipush 7, 2) := by decide +kernel
theorem dX7_solves_35 : decode cX7_solves 35 = .ok (.iload_n 3, 1) := by decide +kernel
theorem dX7_solves_36 : decode cX7_solves 36 = .ok (.imul, 1) := by decide +kernel
theorem dX7_solves_37 : decode cX7_solves 37 = .ok (.iload_n 2, 1) := by decide +kernel
theorem dX7_solves_38 : decode cX7_solves 38 = .ok (.iadd, 1) := by decide +kernel
theorem dX7_solves_39 : decode cX7_solves 39 = .ok (.iaload, 1) := by decide +kernel
theorem dX7_solves_40 : decode cX7_solves 40 = .ok (.sipush 255, 3) := by decide +kernel
theorem dX7_solves_43 : decode cX7_solves 43 = .ok (.invokestatic 61, 3) := by decide +kernel
theorem dX7_solves_46 : decode cX7_solves 46 = .ok (.istore 4, 2) := by decide +kernel
theorem dX7_solves_48 : decode cX7_solves 48 = .ok (.iconst 0, 1) := by decide +kernel
theorem dX7_solves_49 : decode cX7_solves 49 = .ok (.istore 5, 2) := by decide +kernel
theorem dX7_solves_51 : decode cX7_solves 51 = .ok (.iload 5, 2) := by decide +kernel
theorem dX7_solves_53 : decode cX7_solves 53 = .ok (.bipush 7, 2) := by decide +kernel
theorem dX7_solves_55 : decode cX7_solves 55 = .ok (.if_icmp .ge 68, 3) := by decide +kernel
theorem dX7_solves_58 : decode cX7_solves 58 = .ok (.aload_n 0, 1) := by decide +kernel
theorem dX7_solves_59 : decode cX7_solves 59 = .ok (.getfield 22, 3) := by decide +kernel
theorem dX7_solves_62 : decode cX7_solves 62 = .ok (.bipush 7, 2) := by decide +kernel
theorem dX7_solves_64 : decode cX7_solves 64 = .ok (.iload_n 3, 1) := by decide +kernel
theorem dX7_solves_65 : decode cX7_solves 65 = .ok (.imul, 1) := by decide +kernel
theorem dX7_solves_66 : decode cX7_solves 66 = .ok (.iload 5, 2) := by decide +kernel
theorem dX7_solves_68 : decode cX7_solves 68 = .ok (.iadd, 1) := by decide +kernel
theorem dX7_solves_69 : decode cX7_solves 69 = .ok (.iaload, 1) := by decide +kernel
theorem dX7_solves_70 : decode cX7_solves 70 = .ok (.iload 4, 2) := by decide +kernel
theorem dX7_solves_72 : decode cX7_solves 72 = .ok (.imul, 1) := by decide +kernel
theorem dX7_solves_73 : decode cX7_solves 73 = .ok (.sipush 257, 3) := by decide +kernel
theorem dX7_solves_76 : decode cX7_solves 76 = .ok (.irem, 1) := by decide +kernel
theorem dX7_solves_77 : decode cX7_solves 77 = .ok (.istore 6, 2) := by decide +kernel
theorem dX7_solves_79 : decode cX7_solves 79 = .ok (.aload_n 0, 1) := by decide +kernel
theorem dX7_solves_80 : decode cX7_solves 80 = .ok (.getfield 22, 3) := by decide +kernel
theorem dX7_solves_83 : decode cX7_solves 83 = .ok (.bipush 7, 2) := by decide +kernel
theorem dX7_solves_85 : decode cX7_solves 85 = .ok (.iload_n 3, 1) := by decide +kernel
theorem dX7_solves_86 : decode cX7_solves 86 = .ok (.imul, 1) := by decide +kernel
theorem dX7_solves_87 : decode cX7_solves 87 = .ok (.iload 5, 2) := by decide +kernel
theorem dX7_solves_89 : decode cX7_solves 89 = .ok (.iadd, 1) := by decide +kernel
theorem dX7_solves_90 : decode cX7_solves 90 = .ok (.aload_n 0, 1) := by decide +kernel
theorem dX7_solves_91 : decode cX7_solves 91 = .ok (.getfield 22, 3) := by decide +kernel
theorem dX7_solves_94 : decode cX7_solves 94 = .ok (.bipush 7, 2) := by decide +kernel
theorem dX7_solves_96 : decode cX7_solves 96 = .ok (.iload_n 2, 1) := by decide +kernel
theorem dX7_solves_97 : decode cX7_solves 97 = .ok (.imul, 1) := by decide +kernel
theorem dX7_solves_98 : decode cX7_solves 98 = .ok (.iload 5, 2) := by decide +kernel
theorem dX7_solves_100 : decode cX7_solves 100 = .ok (.iadd, 1) := by decide +kernel
theorem dX7_solves_101 : decode cX7_solves 101 = .ok (.iaload, 1) := by decide +kernel
theorem dX7_solves_102 : decode cX7_solves 102 = .ok (.iastore, 1) := by decide +kernel
theorem dX7_solves_103 : decode cX7_solves 103 = .ok (.aload_n 0, 1) := by decide +kernel
theorem dX7_solves_104 : decode cX7_solves 104 = .ok (.getfield 22, 3) := by decide +kernel
theorem dX7_solves_107 : decode cX7_solves 107 = .ok (.bipush 7, 2) := by decide +kernel
theorem dX7_solves_109 : decode cX7_solves 109 = .ok (.iload_n 2, 1) := by decide +kernel
theorem dX7_solves_110 : decode cX7_solves 110 = .ok (.imul, 1) := by decide +kernel
theorem dX7_solves_111 : decode cX7_solves 111 = .ok (.iload 5, 2) := by decide +kernel
theorem dX7_solves_113 : decode cX7_solves 113 = .ok (.iadd, 1) := by decide +kernel
theorem dX7_solves_114 : decode cX7_solves 114 = .ok (.iload 6, 2) := by decide +kernel
theorem dX7_solves_116 : decode cX7_solves 116 = .ok (.iastore, 1) := by decide +kernel
theorem dX7_solves_117 : decode cX7_solves 117 = .ok (.iinc 5 1, 3) := by decide +kernel
theorem dX7_solves_120 : decode cX7_solves 120 = .ok (.goto (-69), 3) := by decide +kernel
theorem dX7_solves_123 : decode cX7_solves 123 = .ok (.iconst 0, 1) := by decide +kernel
theorem dX7_solves_124 : decode cX7_solves 124 = .ok (.istore 5, 2) := by decide +kernel
theorem dX7_solves_126 : decode cX7_solves 126 = .ok (.iload 5, 2) := by decide +kernel
theorem dX7_solves_128 : decode cX7_solves 128 = .ok (.iload_n 1, 1) := by decide +kernel
theorem dX7_solves_129 : decode cX7_solves 129 = .ok (.if_icmp .ge 99, 3) := by decide +kernel
theorem dX7_solves_132 : decode cX7_solves 132 = .ok (.iload 5, 2) := by decide +kernel
theorem dX7_solves_134 : decode cX7_solves 134 = .ok (.iload_n 2, 1) := by decide +kernel
theorem dX7_solves_135 : decode cX7_solves 135 = .ok (.if_icmp .ne 7, 3) := by decide +kernel
theorem dX7_solves_138 : decode cX7_solves 138 = .ok (.iconst 0, 1) := by decide +kernel
theorem dX7_solves_139 : decode cX7_solves 139 = .ok (.goto 15, 3) := by decide +kernel
theorem dX7_solves_142 : decode cX7_solves 142 = .ok (.aload_n 0, 1) := by decide +kernel
theorem dX7_solves_143 : decode cX7_solves 143 = .ok (.getfield 22, 3) := by decide +kernel
theorem dX7_solves_146 : decode cX7_solves 146 = .ok (.bipush 7, 2) := by decide +kernel
theorem dX7_solves_148 : decode cX7_solves 148 = .ok (.iload 5, 2) := by decide +kernel
theorem dX7_solves_150 : decode cX7_solves 150 = .ok (.imul, 1) := by decide +kernel
theorem dX7_solves_151 : decode cX7_solves 151 = .ok (.iload_n 2, 1) := by decide +kernel
theorem dX7_solves_152 : decode cX7_solves 152 = .ok (.iadd, 1) := by decide +kernel
theorem dX7_solves_153 : decode cX7_solves 153 = .ok (.iaload, 1) := by decide +kernel
theorem dX7_solves_154 : decode cX7_solves 154 = .ok (.istore 6, 2) := by decide +kernel
theorem dX7_solves_156 : decode cX7_solves 156 = .ok (.iconst 0, 1) := by decide +kernel
theorem dX7_solves_157 : decode cX7_solves 157 = .ok (.istore 7, 2) := by decide +kernel
theorem dX7_solves_159 : decode cX7_solves 159 = .ok (.iload 7, 2) := by decide +kernel
theorem dX7_solves_161 : decode cX7_solves 161 = .ok (.bipush 7, 2) := by decide +kernel
theorem dX7_solves_163 : decode cX7_solves 163 = .ok (.if_icmp .ge 59, 3) := by decide +kernel
theorem dX7_solves_166 : decode cX7_solves 166 = .ok (.aload_n 0, 1) := by decide +kernel
theorem dX7_solves_167 : decode cX7_solves 167 = .ok (.getfield 22, 3) := by decide +kernel
theorem dX7_solves_170 : decode cX7_solves 170 = .ok (.bipush 7, 2) := by decide +kernel
theorem dX7_solves_172 : decode cX7_solves 172 = .ok (.iload 5, 2) := by decide +kernel
theorem dX7_solves_174 : decode cX7_solves 174 = .ok (.imul, 1) := by decide +kernel
theorem dX7_solves_175 : decode cX7_solves 175 = .ok (.iload 7, 2) := by decide +kernel
theorem dX7_solves_177 : decode cX7_solves 177 = .ok (.iadd, 1) := by decide +kernel
theorem dX7_solves_178 : decode cX7_solves 178 = .ok (.aload_n 0, 1) := by decide +kernel
theorem dX7_solves_179 : decode cX7_solves 179 = .ok (.getfield 22, 3) := by decide +kernel
theorem dX7_solves_182 : decode cX7_solves 182 = .ok (.bipush 7, 2) := by decide +kernel
theorem dX7_solves_184 : decode cX7_solves 184 = .ok (.iload 5, 2) := by decide +kernel
theorem dX7_solves_186 : decode cX7_solves 186 = .ok (.imul, 1) := by decide +kernel
theorem dX7_solves_187 : decode cX7_solves 187 = .ok (.iload 7, 2) := by decide +kernel
theorem dX7_solves_189 : decode cX7_solves 189 = .ok (.iadd, 1) := by decide +kernel
theorem dX7_solves_190 : decode cX7_solves 190 = .ok (.iaload, 1) := by decide +kernel
theorem dX7_solves_191 : decode cX7_solves 191 = .ok (.sipush 257, 3) := by decide +kernel
theorem dX7_solves_194 : decode cX7_solves 194 = .ok (.iload 6, 2) := by decide +kernel
theorem dX7_solves_196 : decode cX7_solves 196 = .ok (.isub, 1) := by decide +kernel
theorem dX7_solves_197 : decode cX7_solves 197 = .ok (.aload_n 0, 1) := by decide +kernel
theorem dX7_solves_198 : decode cX7_solves 198 = .ok (.getfield 22, 3) := by decide +kernel
theorem dX7_solves_201 : decode cX7_solves 201 = .ok (.bipush 7, 2) := by decide +kernel
theorem dX7_solves_203 : decode cX7_solves 203 = .ok (.iload_n 2, 1) := by decide +kernel
theorem dX7_solves_204 : decode cX7_solves 204 = .ok (.imul, 1) := by decide +kernel
theorem dX7_solves_205 : decode cX7_solves 205 = .ok (.iload 7, 2) := by decide +kernel
theorem dX7_solves_207 : decode cX7_solves 207 = .ok (.iadd, 1) := by decide +kernel
theorem dX7_solves_208 : decode cX7_solves 208 = .ok (.iaload, 1) := by decide +kernel
theorem dX7_solves_209 : decode cX7_solves 209 = .ok (.imul, 1) := by decide +kernel
theorem dX7_solves_210 : decode cX7_solves 210 = .ok (.iadd, 1) := by decide +kernel
theorem dX7_solves_211 : decode cX7_solves 211 = .ok (.sipush 257, 3) := by decide +kernel
theorem dX7_solves_214 : decode cX7_solves 214 = .ok (.irem, 1) := by decide +kernel
theorem dX7_solves_215 : decode cX7_solves 215 = .ok (.iastore, 1) := by decide +kernel
theorem dX7_solves_216 : decode cX7_solves 216 = .ok (.iinc 7 1, 3) := by decide +kernel
theorem dX7_solves_219 : decode cX7_solves 219 = .ok (.goto (-60), 3) := by decide +kernel
theorem dX7_solves_222 : decode cX7_solves 222 = .ok (.iinc 5 1, 3) := by decide +kernel
theorem dX7_solves_225 : decode cX7_solves 225 = .ok (.goto (-99), 3) := by decide +kernel
theorem dX7_solves_228 : decode cX7_solves 228 = .ok (.iinc 2 1, 3) := by decide +kernel
theorem dX7_solves_231 : decode cX7_solves 231 = .ok (.goto (-229), 3) := by decide +kernel
theorem dX7_solves_234 : decode cX7_solves 234 = .ok (.return_, 1) := by decide +kernel
theorem dX7_decode_0 : decode cX7_decode 0 = .ok (.aload_n 0, 1) := by decide +kernel
theorem dX7_decode_1 : decode cX7_decode 1 = .ok (.iload_n 1, 1) := by decide +kernel
theorem dX7_decode_2 : decode cX7_decode 2 = .ok (.invokevirtual 43, 3) := by decide +kernel
theorem dX7_decode_5 : decode cX7_decode 5 = .ok (.ifCond .eq 36, 3) := by decide +kernel
theorem dX7_decode_8 : decode cX7_decode 8 = .ok (.iload_n 3, 1) := by decide +kernel
theorem dX7_decode_9 : decode cX7_decode 9 = .ok (.iconst 0, 1) := by decide +kernel
theorem dX7_decode_10 : decode cX7_decode 10 = .ok (.aload_n 0, 1) := by decide +kernel
theorem dX7_decode_11 : decode cX7_decode 11 = .ok (.iload_n 1, 1) := by decide +kernel
theorem dX7_decode_12 : decode cX7_decode 12 = .ok (.iconst 2, 1) := by decide +kernel
theorem dX7_decode_13 : decode cX7_decode 13 = .ok (.invokevirtual 29, 3) := by decide +kernel
theorem dX7_decode_16 : decode cX7_decode 16 = .ok (.iconst 1, 1) := by decide +kernel
theorem dX7_decode_17 : decode cX7_decode 17 = .ok (.isub, 1) := by decide +kernel
theorem dX7_decode_18 : decode cX7_decode 18 = .ok (.invokestatic 25, 3) := by decide +kernel
theorem dX7_decode_21 : decode cX7_decode 21 = .ok (.ifCond .eq 20, 3) := by decide +kernel
theorem dX7_decode_24 : decode cX7_decode 24 = .ok (.iload_n 2, 1) := by decide +kernel
theorem dX7_decode_25 : decode cX7_decode 25 = .ok (.iconst 0, 1) := by decide +kernel
theorem dX7_decode_26 : decode cX7_decode 26 = .ok (.iconst 1, 1) := by decide +kernel
theorem dX7_decode_27 : decode cX7_decode 27 = .ok (.aload_n 0, 1) := by decide +kernel
theorem dX7_decode_28 : decode cX7_decode 28 = .ok (.iload_n 1, 1) := by decide +kernel
theorem dX7_decode_29 : decode cX7_decode 29 = .ok (.invokevirtual 47, 3) := by decide +kernel
theorem dX7_decode_32 : decode cX7_decode 32 = .ok (.ishl, 1) := by decide +kernel
theorem dX7_decode_33 : decode cX7_decode 33 = .ok (.iconst 1, 1) := by decide +kernel
theorem dX7_decode_34 : decode cX7_decode 34 = .ok (.isub, 1) := by decide +kernel
theorem dX7_decode_35 : decode cX7_decode 35 = .ok (.invokestatic 25, 3) := by decide +kernel
theorem dX7_decode_38 : decode cX7_decode 38 = .ok (.ifCond .ne 7, 3) := by decide +kernel
theorem dX7_decode_41 : decode cX7_decode 41 = .ok (.sipush (-10001), 3) := by decide +kernel
theorem dX7_decode_44 : decode cX7_decode 44 = .ok (.ireturn, 1) := by decide +kernel
theorem dX7_decode_45 : decode cX7_decode 45 = .ok (.aload_n 0, 1) := by decide +kernel
theorem dX7_decode_46 : decode cX7_decode 46 = .ok (.iload_n 1, 1) := by decide +kernel
theorem dX7_decode_47 : decode cX7_decode 47 = .ok (.iconst 2, 1) := by decide +kernel
theorem dX7_decode_48 : decode cX7_decode 48 = .ok (.invokevirtual 29, 3) := by decide +kernel
theorem dX7_decode_51 : decode cX7_decode 51 = .ok (.istore 4, 2) := by decide +kernel
theorem dX7_decode_53 : decode cX7_decode 53 = .ok (.iconst 0, 1) := by decide +kernel
theorem dX7_decode_54 : decode cX7_decode 54 = .ok (.istore 5, 2) := by decide +kernel
theorem dX7_decode_56 : decode cX7_decode 56 = .ok (.iconst 0, 1) := by decide +kernel
theorem dX7_decode_57 : decode cX7_decode 57 = .ok (.istore 6, 2) := by decide +kernel
theorem dX7_decode_59 : decode cX7_decode 59 = .ok (.iconst 0, 1) := by decide +kernel
theorem dX7_decode_60 : decode cX7_decode 60 = .ok (.istore 7, 2) := by decide +kernel
theorem dX7_decode_62 : decode cX7_decode 62 = .ok (.iload 7, 2) := by decide +kernel
theorem dX7_decode_64 : decode cX7_decode 64 = .ok (.aload_n 0, 1) := by decide +kernel
theorem dX7_decode_65 : decode cX7_decode 65 = .ok (.iload_n 1, 1) := by decide +kernel
theorem dX7_decode_66 : decode cX7_decode 66 = .ok (.invokevirtual 47, 3) := by decide +kernel
theorem dX7_decode_69 : decode cX7_decode 69 = .ok (.if_icmp .ge 71, 3) := by decide +kernel
theorem dX7_decode_72 : decode cX7_decode 72 = .ok (.iload_n 2, 1) := by decide +kernel
theorem dX7_decode_73 : decode cX7_decode 73 = .ok (.iload 7, 2) := by decide +kernel
theorem dX7_decode_75 : decode cX7_decode 75 = .ok (.ishr, 1) := by decide +kernel
theorem dX7_decode_76 : decode cX7_decode 76 = .ok (.iconst 1, 1) := by decide +kernel
theorem dX7_decode_77 : decode cX7_decode 77 = .ok (.iand, 1) := by decide +kernel
theorem dX7_decode_78 : decode cX7_decode 78 = .ok (.iconst 1, 1) := by decide +kernel
theorem dX7_decode_79 : decode cX7_decode 79 = .ok (.if_icmp .ne 7, 3) := by decide +kernel
theorem dX7_decode_82 : decode cX7_decode 82 = .ok (.iconst 1, 1) := by decide +kernel
theorem dX7_decode_83 : decode cX7_decode 83 = .ok (.goto 4, 3) := by decide +kernel
theorem dX7_decode_86 : decode cX7_decode 86 = .ok (.iconst 0, 1) := by decide +kernel
theorem dX7_decode_87 : decode cX7_decode 87 = .ok (.istore 8, 2) := by decide +kernel
theorem dX7_decode_89 : decode cX7_decode 89 = .ok (.iload 5, 2) := by decide +kernel
theorem dX7_decode_91 : decode cX7_decode 91 = .ok (.iload 8, 2) := by decide +kernel
theorem dX7_decode_93 : decode cX7_decode 93 = .ok (.ifCond .eq 7, 3) := by decide +kernel
theorem dX7_decode_96 : decode cX7_decode 96 = .ok (.iconst 1, 1) := by decide +kernel
theorem dX7_decode_97 : decode cX7_decode 97 = .ok (.goto 4, 3) := by decide +kernel
theorem dX7_decode_100 : decode cX7_decode 100 = .ok (.iconst 0, 1) := by decide +kernel
theorem dX7_decode_101 : decode cX7_decode 101 = .ok (.iadd, 1) := by decide +kernel
theorem dX7_decode_102 : decode cX7_decode 102 = .ok (.istore 5, 2) := by decide +kernel
theorem dX7_decode_104 : decode cX7_decode 104 = .ok (.iload 6, 2) := by decide +kernel
theorem dX7_decode_106 : decode cX7_decode 106 = .ok (.ifCond .ne 21, 3) := by decide +kernel
theorem dX7_decode_109 : decode cX7_decode 109 = .ok (.iload 8, 2) := by decide +kernel
theorem dX7_decode_111 : decode cX7_decode 111 = .ok (.ifCond .eq 20, 3) := by decide +kernel
theorem dX7_decode_114 : decode cX7_decode 114 = .ok (.aload_n 0, 1) := by decide +kernel
theorem dX7_decode_115 : decode cX7_decode 115 = .ok (.iload_n 1, 1) := by decide +kernel
theorem dX7_decode_116 : decode cX7_decode 116 = .ok (.bipush 10, 2) := by decide +kernel
theorem dX7_decode_118 : decode cX7_decode 118 = .ok (.iload 7, 2) := by decide +kernel
theorem dX7_decode_120 : decode cX7_decode 120 = .ok (.iadd, 1) := by decide +kernel
theorem dX7_decode_121 : decode cX7_decode 121 = .ok (.invokevirtual 29, 3) := by decide +kernel
theorem dX7_decode_124 : decode cX7_decode 124 = .ok (.ifCond .ge 7, 3) := by decide +kernel
theorem dX7_decode_127 : decode cX7_decode 127 = .ok (.iconst 1, 1) := by decide +kernel
theorem dX7_decode_128 : decode cX7_decode 128 = .ok (.goto 4, 3) := by decide +kernel
theorem dX7_decode_131 : decode cX7_decode 131 = .ok (.iconst 0, 1) := by decide +kernel
theorem dX7_decode_132 : decode cX7_decode 132 = .ok (.istore 6, 2) := by decide +kernel
theorem dX7_decode_134 : decode cX7_decode 134 = .ok (.iinc 7 1, 3) := by decide +kernel
theorem dX7_decode_137 : decode cX7_decode 137 = .ok (.goto (-75), 3) := by decide +kernel
theorem dX7_decode_140 : decode cX7_decode 140 = .ok (.iload 5, 2) := by decide +kernel
theorem dX7_decode_142 : decode cX7_decode 142 = .ok (.iload 4, 2) := by decide +kernel
theorem dX7_decode_144 : decode cX7_decode 144 = .ok (.if_icmp .eq 7, 3) := by decide +kernel
theorem dX7_decode_147 : decode cX7_decode 147 = .ok (.sipush (-10001), 3) := by decide +kernel
theorem dX7_decode_150 : decode cX7_decode 150 = .ok (.ireturn, 1) := by decide +kernel
theorem dX7_decode_151 : decode cX7_decode 151 = .ok (.iload 6, 2) := by decide +kernel
theorem dX7_decode_153 : decode cX7_decode 153 = .ok (.ifCond .eq 7, 3) := by decide +kernel
theorem dX7_decode_156 : decode cX7_decode 156 = .ok (.sipush (-10004), 3) := by decide +kernel
theorem dX7_decode_159 : decode cX7_decode 159 = .ok (.ireturn, 1) := by decide +kernel
theorem dX7_decode_160 : decode cX7_decode 160 = .ok (.iconst 0, 1) := by decide +kernel
theorem dX7_decode_161 : decode cX7_decode 161 = .ok (.istore 7, 2) := by decide +kernel
theorem dX7_decode_163 : decode cX7_decode 163 = .ok (.iconst 0, 1) := by decide +kernel
theorem dX7_decode_164 : decode cX7_decode 164 = .ok (.istore 8, 2) := by decide +kernel
theorem dX7_decode_166 : decode cX7_decode 166 = .ok (.iload 8, 2) := by decide +kernel
theorem dX7_decode_168 : decode cX7_decode 168 = .ok (.aload_n 0, 1) := by decide +kernel
theorem dX7_decode_169 : decode cX7_decode 169 = .ok (.iload_n 1, 1) := by decide +kernel
theorem dX7_decode_170 : decode cX7_decode 170 = .ok (.invokevirtual 47, 3) := by decide +kernel
theorem dX7_decode_173 : decode cX7_decode 173 = .ok (.if_icmp .ge 116, 3) := by decide +kernel
theorem dX7_decode_176 : decode cX7_decode 176 = .ok (.iload_n 2, 1) := by decide +kernel
theorem dX7_decode_177 : decode cX7_decode 177 = .ok (.iload 8, 2) := by decide +kernel
theorem dX7_decode_179 : decode cX7_decode 179 = .ok (.ishr, 1) := by decide +kernel
theorem dX7_decode_180 : decode cX7_decode 180 = .ok (.iconst 1, 1) := by decide +kernel
theorem dX7_decode_181 : decode cX7_decode 181 = .ok (.iand, 1) := by decide +kernel
theorem dX7_decode_182 : decode cX7_decode 182 = .ok (.iconst 1, 1) := by decide +kernel
theorem dX7_decode_183 : decode cX7_decode 183 = .ok (.if_icmp .ne 100, 3) := by decide +kernel
theorem dX7_decode_186 : decode cX7_decode 186 = .ok (.iconst 0, 1) := by decide +kernel
theorem dX7_decode_187 : decode cX7_decode 187 = .ok (.istore 9, 2) := by decide +kernel
theorem dX7_decode_189 : decode cX7_decode 189 = .ok (.iload 9, 2) := by decide +kernel
theorem dX7_decode_191 : decode cX7_decode 191 = .ok (.bipush 6, 2) := by decide +kernel
theorem dX7_decode_193 : decode cX7_decode 193 = .ok (.if_icmp .ge 67, 3) := by decide +kernel
theorem dX7_decode_196 : decode cX7_decode 196 = .ok (.aload_n 0, 1) := by decide +kernel
theorem dX7_decode_197 : decode cX7_decode 197 = .ok (.getfield 22, 3) := by decide +kernel
theorem dX7_decode_200 : decode cX7_decode 200 = .ok (.bipush 7, 2) := by decide +kernel
theorem dX7_decode_202 : decode cX7_decode 202 = .ok (.iload 7, 2) := by decide +kernel
theorem dX7_decode_204 : decode cX7_decode 204 = .ok (.imul, 1) := by decide +kernel
theorem dX7_decode_205 : decode cX7_decode 205 = .ok (.iload 9, 2) := by decide +kernel
theorem dX7_decode_207 : decode cX7_decode 207 = .ok (.iadd, 1) := by decide +kernel
theorem dX7_decode_208 : decode cX7_decode 208 = .ok (.iload 9, 2) := by decide +kernel
theorem dX7_decode_210 : decode cX7_decode 210 = .ok (.iload 4, 2) := by decide +kernel
theorem dX7_decode_212 : decode cX7_decode 212 = .ok (.if_icmp .lt 7, 3) := by decide +kernel
theorem dX7_decode_215 : decode cX7_decode 215 = .ok (.iconst 0, 1) := by decide +kernel
theorem dX7_decode_216 : decode cX7_decode 216 = .ok (.goto 37, 3) := by decide +kernel
theorem dX7_decode_219 : decode cX7_decode 219 = .ok (.iload 8, 2) := by decide +kernel
theorem dX7_decode_221 : decode cX7_decode 221 = .ok (.iload 4, 2) := by decide +kernel
theorem dX7_decode_223 : decode cX7_decode 223 = .ok (.if_icmp .lt 18, 3) := by decide +kernel
theorem dX7_decode_226 : decode cX7_decode 226 = .ok (.iload 9, 2) := by decide +kernel
theorem dX7_decode_228 : decode cX7_decode 228 = .ok (.iconst 1, 1) := by decide +kernel
theorem dX7_decode_229 : decode cX7_decode 229 = .ok (.iadd, 1) := by decide +kernel
theorem dX7_decode_230 : decode cX7_decode 230 = .ok (.iload 8, 2) := by decide +kernel
theorem dX7_decode_232 : decode cX7_decode 232 = .ok (.iload 4, 2) := by decide +kernel
theorem dX7_decode_234 : decode cX7_decode 234 = .ok (.isub, 1) := by decide +kernel
theorem dX7_decode_235 : decode cX7_decode 235 = .ok (.invokestatic 61, 3) := by decide +kernel
theorem dX7_decode_238 : decode cX7_decode 238 = .ok (.goto 15, 3) := by decide +kernel
theorem dX7_decode_241 : decode cX7_decode 241 = .ok (.iload 8, 2) := by decide +kernel
theorem dX7_decode_243 : decode cX7_decode 243 = .ok (.iload 9, 2) := by decide +kernel
theorem dX7_decode_245 : decode cX7_decode 245 = .ok (.if_icmp .ne 7, 3) := by decide +kernel
theorem dX7_decode_248 : decode cX7_decode 248 = .ok (.iconst 1, 1) := by decide +kernel
theorem dX7_decode_249 : decode cX7_decode 249 = .ok (.goto 4, 3) := by decide +kernel
theorem dX7_decode_252 : decode cX7_decode 252 = .ok (.iconst 0, 1) := by decide +kernel
theorem dX7_decode_253 : decode cX7_decode 253 = .ok (.iastore, 1) := by decide +kernel
theorem dX7_decode_254 : decode cX7_decode 254 = .ok (.iinc 9 1, 3) := by decide +kernel
theorem dX7_decode_257 : decode cX7_decode 257 = .ok (.goto (-68), 3) := by decide +kernel
theorem dX7_decode_260 : decode cX7_decode 260 = .ok (.aload_n 0, 1) := by decide +kernel
theorem dX7_decode_261 : decode cX7_decode 261 = .ok (.getfield 22, 3) := by decide +kernel
theorem dX7_decode_264 : decode cX7_decode 264 = .ok (.bipush 7, 2) := by decide +kernel
theorem dX7_decode_266 : decode cX7_decode 266 = .ok (.iload 7, 2) := by decide +kernel
theorem dX7_decode_268 : decode cX7_decode 268 = .ok (.imul, 1) := by decide +kernel
theorem dX7_decode_269 : decode cX7_decode 269 = .ok (.bipush 6, 2) := by decide +kernel
theorem dX7_decode_271 : decode cX7_decode 271 = .ok (.iadd, 1) := by decide +kernel
theorem dX7_decode_272 : decode cX7_decode 272 = .ok (.aload_n 0, 1) := by decide +kernel
theorem dX7_decode_273 : decode cX7_decode 273 = .ok (.iload_n 1, 1) := by decide +kernel
theorem dX7_decode_274 : decode cX7_decode 274 = .ok (.iload 8, 2) := by decide +kernel
theorem dX7_decode_276 : decode cX7_decode 276 = .ok (.invokevirtual 112, 3) := by decide +kernel
theorem dX7_decode_279 : decode cX7_decode 279 = .ok (.iastore, 1) := by decide +kernel
theorem dX7_decode_280 : decode cX7_decode 280 = .ok (.iinc 7 1, 3) := by decide +kernel
theorem dX7_decode_283 : decode cX7_decode 283 = .ok (.iinc 8 1, 3) := by decide +kernel
theorem dX7_decode_286 : decode cX7_decode 286 = .ok (.goto (-120), 3) := by decide +kernel
theorem dX7_decode_289 : decode cX7_decode 289 = .ok (.aload_n 0, 1) := by decide +kernel
theorem dX7_decode_290 : decode cX7_decode 290 = .ok (.iload 4, 2) := by decide +kernel
theorem dX7_decode_292 : decode cX7_decode 292 = .ok (.invokevirtual 115, 3) := by decide +kernel
theorem dX7_decode_295 : decode cX7_decode 295 = .ok (.aload_n 0, 1) := by decide +kernel
theorem dX7_decode_296 : decode cX7_decode 296 = .ok (.getfield 22, 3) := by decide +kernel
theorem dX7_decode_299 : decode cX7_decode 299 = .ok (.bipush 7, 2) := by decide +kernel
theorem dX7_decode_301 : decode cX7_decode 301 = .ok (.iload_n 3, 1) := by decide +kernel
theorem dX7_decode_302 : decode cX7_decode 302 = .ok (.imul, 1) := by decide +kernel
theorem dX7_decode_303 : decode cX7_decode 303 = .ok (.bipush 6, 2) := by decide +kernel
theorem dX7_decode_305 : decode cX7_decode 305 = .ok (.iadd, 1) := by decide +kernel
theorem dX7_decode_306 : decode cX7_decode 306 = .ok (.iaload, 1) := by decide +kernel
theorem dX7_decode_307 : decode cX7_decode 307 = .ok (.ireturn, 1) := by decide +kernel
theorem dX7_spoil_0 : decode cX7_spoil 0 = .ok (.aload_n 0, 1) := by decide +kernel
theorem dX7_spoil_1 : decode cX7_spoil 1 = .ok (.iload_n 1, 1) := by decide +kernel
theorem dX7_spoil_2 : decode cX7_spoil 2 = .ok (.iload_n 2, 1) := by decide +kernel
theorem dX7_spoil_3 : decode cX7_spoil 3 = .ok (.invokevirtual 109, 3) := by decide +kernel
theorem dX7_spoil_6 : decode cX7_spoil 6 = .ok (.ifCond .eq 14, 3) := by decide +kernel
theorem dX7_spoil_9 : decode cX7_spoil 9 = .ok (.iload_n 3, 1) := by decide +kernel
theorem dX7_spoil_10 : decode cX7_spoil 10 = .ok (.iconst 1, 1) := by decide +kernel
theorem dX7_spoil_11 : decode cX7_spoil 11 = .ok (.sipush 256, 3) := by decide +kernel
theorem dX7_spoil_14 : decode cX7_spoil 14 = .ok (.invokestatic 25, 3) := by decide +kernel
theorem dX7_spoil_17 : decode cX7_spoil 17 = .ok (.ifCond .ne 7, 3) := by decide +kernel
theorem dX7_spoil_20 : decode cX7_spoil 20 = .ok (.sipush (-10001), 3) := by decide +kernel
theorem dX7_spoil_23 : decode cX7_spoil 23 = .ok (.ireturn, 1) := by decide +kernel
theorem dX7_spoil_24 : decode cX7_spoil 24 = .ok (.aload_n 0, 1) := by decide +kernel
theorem dX7_spoil_25 : decode cX7_spoil 25 = .ok (.iload_n 1, 1) := by decide +kernel
theorem dX7_spoil_26 : decode cX7_spoil 26 = .ok (.bipush 10, 2) := by decide +kernel
theorem dX7_spoil_28 : decode cX7_spoil 28 = .ok (.iload_n 2, 1) := by decide +kernel
theorem dX7_spoil_29 : decode cX7_spoil 29 = .ok (.iadd, 1) := by decide +kernel
theorem dX7_spoil_30 : decode cX7_spoil 30 = .ok (.invokevirtual 29, 3) := by decide +kernel
theorem dX7_spoil_33 : decode cX7_spoil 33 = .ok (.ifCond .ge 7, 3) := by decide +kernel
theorem dX7_spoil_36 : decode cX7_spoil 36 = .ok (.sipush (-10002), 3) := by decide +kernel
theorem dX7_spoil_39 : decode cX7_spoil 39 = .ok (.ireturn, 1) := by decide +kernel
theorem dX7_spoil_40 : decode cX7_spoil 40 = .ok (.aload_n 0, 1) := by decide +kernel
theorem dX7_spoil_41 : decode cX7_spoil 41 = .ok (.invokevirtual 80, 3) := by decide +kernel
theorem dX7_spoil_44 : decode cX7_spoil 44 = .ok (.aload_n 0, 1) := by decide +kernel
theorem dX7_spoil_45 : decode cX7_spoil 45 = .ok (.iload_n 1, 1) := by decide +kernel
theorem dX7_spoil_46 : decode cX7_spoil 46 = .ok (.bipush 20, 2) := by decide +kernel
theorem dX7_spoil_48 : decode cX7_spoil 48 = .ok (.iload_n 2, 1) := by decide +kernel
theorem dX7_spoil_49 : decode cX7_spoil 49 = .ok (.iadd, 1) := by decide +kernel
theorem dX7_spoil_50 : decode cX7_spoil 50 = .ok (.invokevirtual 29, 3) := by decide +kernel
theorem dX7_spoil_53 : decode cX7_spoil 53 = .ok (.iload_n 3, 1) := by decide +kernel
theorem dX7_spoil_54 : decode cX7_spoil 54 = .ok (.iadd, 1) := by decide +kernel
theorem dX7_spoil_55 : decode cX7_spoil 55 = .ok (.sipush 257, 3) := by decide +kernel
theorem dX7_spoil_58 : decode cX7_spoil 58 = .ok (.irem, 1) := by decide +kernel
theorem dX7_spoil_59 : decode cX7_spoil 59 = .ok (.istore 4, 2) := by decide +kernel
theorem dX7_spoil_61 : decode cX7_spoil 61 = .ok (.aload_n 0, 1) := by decide +kernel
theorem dX7_spoil_62 : decode cX7_spoil 62 = .ok (.getfield 7, 3) := by decide +kernel
theorem dX7_spoil_65 : decode cX7_spoil 65 = .ok (.iload_n 1, 1) := by decide +kernel
theorem dX7_spoil_66 : decode cX7_spoil 66 = .ok (.bipush 20, 2) := by decide +kernel
theorem dX7_spoil_68 : decode cX7_spoil 68 = .ok (.iload_n 2, 1) := by decide +kernel
theorem dX7_spoil_69 : decode cX7_spoil 69 = .ok (.iadd, 1) := by decide +kernel
theorem dX7_spoil_70 : decode cX7_spoil 70 = .ok (.invokestatic 33, 3) := by decide +kernel
theorem dX7_spoil_73 : decode cX7_spoil 73 = .ok (.iload 4, 2) := by decide +kernel
theorem dX7_spoil_75 : decode cX7_spoil 75 = .ok (.iastore, 1) := by decide +kernel
theorem dX7_spoil_76 : decode cX7_spoil 76 = .ok (.iload 4, 2) := by decide +kernel
theorem dX7_spoil_78 : decode cX7_spoil 78 = .ok (.ifCond .le 7, 3) := by decide +kernel
theorem dX7_spoil_81 : decode cX7_spoil 81 = .ok (.iconst 1, 1) := by decide +kernel
theorem dX7_spoil_82 : decode cX7_spoil 82 = .ok (.goto 4, 3) := by decide +kernel
theorem dX7_spoil_85 : decode cX7_spoil 85 = .ok (.iconst 0, 1) := by decide +kernel
theorem dX7_spoil_86 : decode cX7_spoil 86 = .ok (.ireturn, 1) := by decide +kernel
theorem dX7_off_0 : decode cX7_off 0 = .ok (.iconst 0, 1) := by decide +kernel
theorem dX7_off_1 : decode cX7_off 1 = .ok (.istore 4, 2) := by decide +kernel
theorem dX7_off_3 : decode cX7_off 3 = .ok (.iconst 0, 1) := by decide +kernel
theorem dX7_off_4 : decode cX7_off 4 = .ok (.istore 5, 2) := by decide +kernel
theorem dX7_off_6 : decode cX7_off 6 = .ok (.iconst 0, 1) := by decide +kernel
theorem dX7_off_7 : decode cX7_off 7 = .ok (.istore 6, 2) := by decide +kernel
theorem dX7_off_9 : decode cX7_off 9 = .ok (.iload 6, 2) := by decide +kernel
theorem dX7_off_11 : decode cX7_off 11 = .ok (.bipush 80, 2) := by decide +kernel
theorem dX7_off_13 : decode cX7_off 13 = .ok (.if_icmp .ge 99, 3) := by decide +kernel
theorem dX7_off_16 : decode cX7_off 16 = .ok (.iload 6, 2) := by decide +kernel
theorem dX7_off_18 : decode cX7_off 18 = .ok (.bipush 10, 2) := by decide +kernel
theorem dX7_off_20 : decode cX7_off 20 = .ok (.idiv, 1) := by decide +kernel
theorem dX7_off_21 : decode cX7_off 21 = .ok (.istore 7, 2) := by decide +kernel
theorem dX7_off_23 : decode cX7_off 23 = .ok (.iload 6, 2) := by decide +kernel
theorem dX7_off_25 : decode cX7_off 25 = .ok (.bipush 10, 2) := by decide +kernel
theorem dX7_off_27 : decode cX7_off 27 = .ok (.irem, 1) := by decide +kernel
theorem dX7_off_28 : decode cX7_off 28 = .ok (.istore 8, 2) := by decide +kernel
theorem dX7_off_30 : decode cX7_off 30 = .ok (.aload_n 0, 1) := by decide +kernel
theorem dX7_off_31 : decode cX7_off 31 = .ok (.iload 7, 2) := by decide +kernel
theorem dX7_off_33 : decode cX7_off 33 = .ok (.invokevirtual 43, 3) := by decide +kernel
theorem dX7_off_36 : decode cX7_off 36 = .ok (.ifCond .eq 70, 3) := by decide +kernel
theorem dX7_off_39 : decode cX7_off 39 = .ok (.aload_n 0, 1) := by decide +kernel
theorem dX7_off_40 : decode cX7_off 40 = .ok (.iload 7, 2) := by decide +kernel
theorem dX7_off_42 : decode cX7_off 42 = .ok (.iconst 1, 1) := by decide +kernel
theorem dX7_off_43 : decode cX7_off 43 = .ok (.invokevirtual 29, 3) := by decide +kernel
theorem dX7_off_46 : decode cX7_off 46 = .ok (.iload_n 1, 1) := by decide +kernel
theorem dX7_off_47 : decode cX7_off 47 = .ok (.if_icmp .ne 59, 3) := by decide +kernel
theorem dX7_off_50 : decode cX7_off 50 = .ok (.iload 8, 2) := by decide +kernel
theorem dX7_off_52 : decode cX7_off 52 = .ok (.aload_n 0, 1) := by decide +kernel
theorem dX7_off_53 : decode cX7_off 53 = .ok (.iload 7, 2) := by decide +kernel
theorem dX7_off_55 : decode cX7_off 55 = .ok (.invokevirtual 47, 3) := by decide +kernel
theorem dX7_off_58 : decode cX7_off 58 = .ok (.if_icmp .ge 48, 3) := by decide +kernel
theorem dX7_off_61 : decode cX7_off 61 = .ok (.aload_n 0, 1) := by decide +kernel
theorem dX7_off_62 : decode cX7_off 62 = .ok (.iload 7, 2) := by decide +kernel
theorem dX7_off_64 : decode cX7_off 64 = .ok (.bipush 10, 2) := by decide +kernel
theorem dX7_off_66 : decode cX7_off 66 = .ok (.iload 8, 2) := by decide +kernel
theorem dX7_off_68 : decode cX7_off 68 = .ok (.iadd, 1) := by decide +kernel
theorem dX7_off_69 : decode cX7_off 69 = .ok (.invokevirtual 29, 3) := by decide +kernel
theorem dX7_off_72 : decode cX7_off 72 = .ok (.iload_n 2, 1) := by decide +kernel
theorem dX7_off_73 : decode cX7_off 73 = .ok (.if_icmp .ne 33, 3) := by decide +kernel
theorem dX7_off_76 : decode cX7_off 76 = .ok (.iload 4, 2) := by decide +kernel
theorem dX7_off_78 : decode cX7_off 78 = .ok (.aload_n 0, 1) := by decide +kernel
theorem dX7_off_79 : decode cX7_off 79 = .ok (.iload 7, 2) := by decide +kernel
theorem dX7_off_81 : decode cX7_off 81 = .ok (.bipush 20, 2) := by decide +kernel
theorem dX7_off_83 : decode cX7_off 83 = .ok (.iload 8, 2) := by decide +kernel
theorem dX7_off_85 : decode cX7_off 85 = .ok (.iadd, 1) := by decide +kernel
theorem dX7_off_86 : decode cX7_off 86 = .ok (.invokevirtual 29, 3) := by decide +kernel
theorem dX7_off_89 : decode cX7_off 89 = .ok (.iload_n 3, 1) := by decide +kernel
theorem dX7_off_90 : decode cX7_off 90 = .ok (.iload 5, 2) := by decide +kernel
theorem dX7_off_92 : decode cX7_off 92 = .ok (.invokestatic 61, 3) := by decide +kernel
theorem dX7_off_95 : decode cX7_off 95 = .ok (.imul, 1) := by decide +kernel
theorem dX7_off_96 : decode cX7_off 96 = .ok (.iadd, 1) := by decide +kernel
theorem dX7_off_97 : decode cX7_off 97 = .ok (.sipush 257, 3) := by decide +kernel
theorem dX7_off_100 : decode cX7_off 100 = .ok (.irem, 1) := by decide +kernel
theorem dX7_off_101 : decode cX7_off 101 = .ok (.istore 4, 2) := by decide +kernel
theorem dX7_off_103 : decode cX7_off 103 = .ok (.iinc 5 1, 3) := by decide +kernel
theorem dX7_off_106 : decode cX7_off 106 = .ok (.iinc 6 1, 3) := by decide +kernel
theorem dX7_off_109 : decode cX7_off 109 = .ok (.goto (-100), 3) := by decide +kernel
theorem dX7_off_112 : decode cX7_off 112 = .ok (.iload 5, 2) := by decide +kernel
theorem dX7_off_114 : decode cX7_off 114 = .ok (.ifCond .ne 7, 3) := by decide +kernel
theorem dX7_off_117 : decode cX7_off 117 = .ok (.iconst (-1), 1) := by decide +kernel
theorem dX7_off_118 : decode cX7_off 118 = .ok (.goto 5, 3) := by decide +kernel
theorem dX7_off_121 : decode cX7_off 121 = .ok (.iload 4, 2) := by decide +kernel
theorem dX7_off_123 : decode cX7_off 123 = .ok (.ireturn, 1) := by decide +kernel
theorem dX7_arePeers_0 : decode cX7_arePeers 0 = .ok (.aload_n 0, 1) := by decide +kernel
theorem dX7_arePeers_1 : decode cX7_arePeers 1 = .ok (.iload_n 1, 1) := by decide +kernel
theorem dX7_arePeers_2 : decode cX7_arePeers 2 = .ok (.invokevirtual 67, 3) := by decide +kernel
theorem dX7_arePeers_5 : decode cX7_arePeers 5 = .ok (.ifCond .eq 20, 3) := by decide +kernel
theorem dX7_arePeers_8 : decode cX7_arePeers 8 = .ok (.aload_n 0, 1) := by decide +kernel
theorem dX7_arePeers_9 : decode cX7_arePeers 9 = .ok (.iload_n 2, 1) := by decide +kernel
theorem dX7_arePeers_10 : decode cX7_arePeers 10 = .ok (.invokevirtual 67, 3) := by decide +kernel
theorem dX7_arePeers_13 : decode cX7_arePeers 13 = .ok (.ifCond .eq 12, 3) := by decide +kernel
theorem dX7_arePeers_16 : decode cX7_arePeers 16 = .ok (.iload_n 1, 1) := by decide +kernel
theorem dX7_arePeers_17 : decode cX7_arePeers 17 = .ok (.iload_n 2, 1) := by decide +kernel
theorem dX7_arePeers_18 : decode cX7_arePeers 18 = .ok (.if_icmp .eq 7, 3) := by decide +kernel
theorem dX7_arePeers_21 : decode cX7_arePeers 21 = .ok (.iconst 1, 1) := by decide +kernel
theorem dX7_arePeers_22 : decode cX7_arePeers 22 = .ok (.goto 4, 3) := by decide +kernel
theorem dX7_arePeers_25 : decode cX7_arePeers 25 = .ok (.iconst 0, 1) := by decide +kernel
theorem dX7_arePeers_26 : decode cX7_arePeers 26 = .ok (.ireturn, 1) := by decide +kernel
theorem dX7_audit_0 : decode cX7_audit 0 = .ok (.aload_n 0, 1) := by decide +kernel
theorem dX7_audit_1 : decode cX7_audit 1 = .ok (.iload_n 1, 1) := by decide +kernel
theorem dX7_audit_2 : decode cX7_audit 2 = .ok (.iload_n 2, 1) := by decide +kernel
theorem dX7_audit_3 : decode cX7_audit 3 = .ok (.invokevirtual 118, 3) := by decide +kernel
theorem dX7_audit_6 : decode cX7_audit 6 = .ok (.ifCond .eq 14, 3) := by decide +kernel
theorem dX7_audit_9 : decode cX7_audit 9 = .ok (.iload_n 3, 1) := by decide +kernel
theorem dX7_audit_10 : decode cX7_audit 10 = .ok (.iconst 0, 1) := by decide +kernel
theorem dX7_audit_11 : decode cX7_audit 11 = .ok (.sipush 256, 3) := by decide +kernel
theorem dX7_audit_14 : decode cX7_audit 14 = .ok (.invokestatic 25, 3) := by decide +kernel
theorem dX7_audit_17 : decode cX7_audit 17 = .ok (.ifCond .ne 7, 3) := by decide +kernel
theorem dX7_audit_20 : decode cX7_audit 20 = .ok (.sipush (-10001), 3) := by decide +kernel
theorem dX7_audit_23 : decode cX7_audit 23 = .ok (.ireturn, 1) := by decide +kernel
theorem dX7_audit_24 : decode cX7_audit 24 = .ok (.aload_n 0, 1) := by decide +kernel
theorem dX7_audit_25 : decode cX7_audit 25 = .ok (.iload_n 1, 1) := by decide +kernel
theorem dX7_audit_26 : decode cX7_audit 26 = .ok (.invokevirtual 51, 3) := by decide +kernel
theorem dX7_audit_29 : decode cX7_audit 29 = .ok (.ifCond .eq 11, 3) := by decide +kernel
theorem dX7_audit_32 : decode cX7_audit 32 = .ok (.aload_n 0, 1) := by decide +kernel
theorem dX7_audit_33 : decode cX7_audit 33 = .ok (.iload_n 2, 1) := by decide +kernel
theorem dX7_audit_34 : decode cX7_audit 34 = .ok (.invokevirtual 51, 3) := by decide +kernel
theorem dX7_audit_37 : decode cX7_audit 37 = .ok (.ifCond .ne 7, 3) := by decide +kernel
theorem dX7_audit_40 : decode cX7_audit 40 = .ok (.sipush (-10002), 3) := by decide +kernel
theorem dX7_audit_43 : decode cX7_audit 43 = .ok (.ireturn, 1) := by decide +kernel
theorem dX7_audit_44 : decode cX7_audit 44 = .ok (.aload_n 0, 1) := by decide +kernel
theorem dX7_audit_45 : decode cX7_audit 45 = .ok (.invokevirtual 80, 3) := by decide +kernel
theorem dX7_audit_48 : decode cX7_audit 48 = .ok (.aload_n 0, 1) := by decide +kernel
theorem dX7_audit_49 : decode cX7_audit 49 = .ok (.iload_n 1, 1) := by decide +kernel
theorem dX7_audit_50 : decode cX7_audit 50 = .ok (.iload_n 2, 1) := by decide +kernel
theorem dX7_audit_51 : decode cX7_audit 51 = .ok (.iload_n 3, 1) := by decide +kernel
theorem dX7_audit_52 : decode cX7_audit 52 = .ok (.invokevirtual 121, 3) := by decide +kernel
theorem dX7_audit_55 : decode cX7_audit 55 = .ok (.istore 4, 2) := by decide +kernel
theorem dX7_audit_57 : decode cX7_audit 57 = .ok (.aload_n 0, 1) := by decide +kernel
theorem dX7_audit_58 : decode cX7_audit 58 = .ok (.getfield 7, 3) := by decide +kernel
theorem dX7_audit_61 : decode cX7_audit 61 = .ok (.iconst 4, 1) := by decide +kernel
theorem dX7_audit_62 : decode cX7_audit 62 = .ok (.iload_n 2, 1) := by decide +kernel
theorem dX7_audit_63 : decode cX7_audit 63 = .ok (.imul, 1) := by decide +kernel
theorem dX7_audit_64 : decode cX7_audit 64 = .ok (.iconst 3, 1) := by decide +kernel
theorem dX7_audit_65 : decode cX7_audit 65 = .ok (.iadd, 1) := by decide +kernel
theorem dX7_audit_66 : decode cX7_audit 66 = .ok (.iaload, 1) := by decide +kernel
theorem dX7_audit_67 : decode cX7_audit 67 = .ok (.istore 5, 2) := by decide +kernel
theorem dX7_audit_69 : decode cX7_audit 69 = .ok (.aload_n 0, 1) := by decide +kernel
theorem dX7_audit_70 : decode cX7_audit 70 = .ok (.getfield 7, 3) := by decide +kernel
theorem dX7_audit_73 : decode cX7_audit 73 = .ok (.iconst 4, 1) := by decide +kernel
theorem dX7_audit_74 : decode cX7_audit 74 = .ok (.iload_n 2, 1) := by decide +kernel
theorem dX7_audit_75 : decode cX7_audit 75 = .ok (.imul, 1) := by decide +kernel
theorem dX7_audit_76 : decode cX7_audit 76 = .ok (.iconst 3, 1) := by decide +kernel
theorem dX7_audit_77 : decode cX7_audit 77 = .ok (.iadd, 1) := by decide +kernel
theorem dX7_audit_78 : decode cX7_audit 78 = .ok (.iload 4, 2) := by decide +kernel
theorem dX7_audit_80 : decode cX7_audit 80 = .ok (.ifCond .ge 8, 3) := by decide +kernel
theorem dX7_audit_83 : decode cX7_audit 83 = .ok (.iload 5, 2) := by decide +kernel
theorem dX7_audit_85 : decode cX7_audit 85 = .ok (.goto 31, 3) := by decide +kernel
theorem dX7_audit_88 : decode cX7_audit 88 = .ok (.iload 4, 2) := by decide +kernel
theorem dX7_audit_90 : decode cX7_audit 90 = .ok (.ifCond .le 10, 3) := by decide +kernel
theorem dX7_audit_93 : decode cX7_audit 93 = .ok (.iload 5, 2) := by decide +kernel
theorem dX7_audit_95 : decode cX7_audit 95 = .ok (.iconst 2, 1) := by decide +kernel
theorem dX7_audit_96 : decode cX7_audit 96 = .ok (.idiv, 1) := by decide +kernel
theorem dX7_audit_97 : decode cX7_audit 97 = .ok (.goto 19, 3) := by decide +kernel
theorem dX7_audit_100 : decode cX7_audit 100 = .ok (.iload 5, 2) := by decide +kernel
theorem dX7_audit_102 : decode cX7_audit 102 = .ok (.bipush 95, 2) := by decide +kernel
theorem dX7_audit_104 : decode cX7_audit 104 = .ok (.if_icmp .le 8, 3) := by decide +kernel
theorem dX7_audit_107 : decode cX7_audit 107 = .ok (.bipush 100, 2) := by decide +kernel
theorem dX7_audit_109 : decode cX7_audit 109 = .ok (.goto 7, 3) := by decide +kernel
theorem dX7_audit_112 : decode cX7_audit 112 = .ok (.iload 5, 2) := by decide +kernel
theorem dX7_audit_114 : decode cX7_audit 114 = .ok (.iconst 5, 1) := by decide +kernel
theorem dX7_audit_115 : decode cX7_audit 115 = .ok (.iadd, 1) := by decide +kernel
theorem dX7_audit_116 : decode cX7_audit 116 = .ok (.iastore, 1) := by decide +kernel
theorem dX7_audit_117 : decode cX7_audit 117 = .ok (.iload 4, 2) := by decide +kernel
theorem dX7_audit_119 : decode cX7_audit 119 = .ok (.ifCond .le 7, 3) := by decide +kernel
theorem dX7_audit_122 : decode cX7_audit 122 = .ok (.iconst 0, 1) := by decide +kernel
theorem dX7_audit_123 : decode cX7_audit 123 = .ok (.goto 4, 3) := by decide +kernel
theorem dX7_audit_126 : decode cX7_audit 126 = .ok (.iconst 1, 1) := by decide +kernel
theorem dX7_audit_127 : decode cX7_audit 127 = .ok (.ireturn, 1) := by decide +kernel
theorem dX7_passingSeeds_0 : decode cX7_passingSeeds 0 = .ok (.aload_n 0, 1) := by decide +kernel
theorem dX7_passingSeeds_1 : decode cX7_passingSeeds 1 = .ok (.iload_n 1, 1) := by decide +kernel
theorem dX7_passingSeeds_2 : decode cX7_passingSeeds 2 = .ok (.iload_n 2, 1) := by decide +kernel
theorem dX7_passingSeeds_3 : decode cX7_passingSeeds 3 = .ok (.invokevirtual 118, 3) := by decide +kernel
theorem dX7_passingSeeds_6 : decode cX7_passingSeeds 6 = .ok (.ifCond .ne 7, 3) := by decide +kernel
theorem dX7_passingSeeds_9 : decode cX7_passingSeeds 9 = .ok (.sipush (-10001), 3) := by decide +kernel
theorem dX7_passingSeeds_12 : decode cX7_passingSeeds 12 = .ok (.ireturn, 1) := by decide +kernel
theorem dX7_passingSeeds_13 : decode cX7_passingSeeds 13 = .ok (.iconst 0, 1) := by decide +kernel
theorem dX7_passingSeeds_14 : decode cX7_passingSeeds 14 = .ok (.istore_n 3, 1) := by decide +kernel
theorem dX7_passingSeeds_15 : decode cX7_passingSeeds 15 = .ok (.iconst 0, 1) := by decide +kernel
theorem dX7_passingSeeds_16 : decode cX7_passingSeeds 16 = .ok (.istore 4, 2) := by decide +kernel
theorem dX7_passingSeeds_18 : decode cX7_passingSeeds 18 = .ok (.iload 4, 2) := by decide +kernel
theorem dX7_passingSeeds_20 : decode cX7_passingSeeds 20 = .ok (.sipush 257, 3) := by decide +kernel
theorem dX7_passingSeeds_23 : decode cX7_passingSeeds 23 = .ok (.if_icmp .ge 28, 3) := by decide +kernel
theorem dX7_passingSeeds_26 : decode cX7_passingSeeds 26 = .ok (.iload_n 3, 1) := by decide +kernel
theorem dX7_passingSeeds_27 : decode cX7_passingSeeds 27 = .ok (.aload_n 0, 1) := by decide +kernel
theorem dX7_passingSeeds_28 : decode cX7_passingSeeds 28 = .ok (.iload_n 1, 1) := by decide +kernel
theorem dX7_passingSeeds_29 : decode cX7_passingSeeds 29 = .ok (.iload_n 2, 1) := by decide +kernel
theorem dX7_passingSeeds_30 : decode cX7_passingSeeds 30 = .ok (.iload 4, 2) := by decide +kernel
theorem dX7_passingSeeds_32 : decode cX7_passingSeeds 32 = .ok (.invokevirtual 121, 3) := by decide +kernel
theorem dX7_passingSeeds_35 : decode cX7_passingSeeds 35 = .ok (.ifCond .gt 7, 3) := by decide +kernel
theorem dX7_passingSeeds_38 : decode cX7_passingSeeds 38 = .ok (.iconst 1, 1) := by decide +kernel
theorem dX7_passingSeeds_39 : decode cX7_passingSeeds 39 = .ok (.goto 4, 3) := by decide +kernel
theorem dX7_passingSeeds_42 : decode cX7_passingSeeds 42 = .ok (.iconst 0, 1) := by decide +kernel
theorem dX7_passingSeeds_43 : decode cX7_passingSeeds 43 = .ok (.iadd, 1) := by decide +kernel
theorem dX7_passingSeeds_44 : decode cX7_passingSeeds 44 = .ok (.istore_n 3, 1) := by decide +kernel
theorem dX7_passingSeeds_45 : decode cX7_passingSeeds 45 = .ok (.iinc 4 1, 3) := by decide +kernel
theorem dX7_passingSeeds_48 : decode cX7_passingSeeds 48 = .ok (.goto (-30), 3) := by decide +kernel
theorem dX7_passingSeeds_51 : decode cX7_passingSeeds 51 = .ok (.iload_n 3, 1) := by decide +kernel
theorem dX7_passingSeeds_52 : decode cX7_passingSeeds 52 = .ok (.ireturn, 1) := by decide +kernel
theorem dX7_sources_0 : decode cX7_sources 0 = .ok (.iconst 0, 1) := by decide +kernel
theorem dX7_sources_1 : decode cX7_sources 1 = .ok (.istore_n 2, 1) := by decide +kernel
theorem dX7_sources_2 : decode cX7_sources 2 = .ok (.aload_n 0, 1) := by decide +kernel
theorem dX7_sources_3 : decode cX7_sources 3 = .ok (.iload_n 1, 1) := by decide +kernel
theorem dX7_sources_4 : decode cX7_sources 4 = .ok (.iconst 2, 1) := by decide +kernel
theorem dX7_sources_5 : decode cX7_sources 5 = .ok (.invokevirtual 29, 3) := by decide +kernel
theorem dX7_sources_8 : decode cX7_sources 8 = .ok (.istore_n 3, 1) := by decide +kernel
theorem dX7_sources_9 : decode cX7_sources 9 = .ok (.iconst 0, 1) := by decide +kernel
theorem dX7_sources_10 : decode cX7_sources 10 = .ok (.istore 4, 2) := by decide +kernel
theorem dX7_sources_12 : decode cX7_sources 12 = .ok (.iload 4, 2) := by decide +kernel
theorem dX7_sources_14 : decode cX7_sources 14 = .ok (.aload_n 0, 1) := by decide +kernel
theorem dX7_sources_15 : decode cX7_sources 15 = .ok (.iload_n 1, 1) := by decide +kernel
theorem dX7_sources_16 : decode cX7_sources 16 = .ok (.invokevirtual 47, 3) := by decide +kernel
theorem dX7_sources_19 : decode cX7_sources 19 = .ok (.if_icmp .ge 41, 3) := by decide +kernel
theorem dX7_sources_22 : decode cX7_sources 22 = .ok (.iload_n 3, 1) := by decide +kernel
theorem dX7_sources_23 : decode cX7_sources 23 = .ok (.ifCond .le 37, 3) := by decide +kernel
theorem dX7_sources_26 : decode cX7_sources 26 = .ok (.aload_n 0, 1) := by decide +kernel
theorem dX7_sources_27 : decode cX7_sources 27 = .ok (.iload_n 1, 1) := by decide +kernel
theorem dX7_sources_28 : decode cX7_sources 28 = .ok (.iload 4, 2) := by decide +kernel
theorem dX7_sources_30 : decode cX7_sources 30 = .ok (.invokevirtual 54, 3) := by decide +kernel
theorem dX7_sources_33 : decode cX7_sources 33 = .ok (.ifCond .eq 21, 3) := by decide +kernel
theorem dX7_sources_36 : decode cX7_sources 36 = .ok (.iload_n 2, 1) := by decide +kernel
theorem dX7_sources_37 : decode cX7_sources 37 = .ok (.iconst 1, 1) := by decide +kernel
theorem dX7_sources_38 : decode cX7_sources 38 = .ok (.aload_n 0, 1) := by decide +kernel
theorem dX7_sources_39 : decode cX7_sources 39 = .ok (.iload_n 1, 1) := by decide +kernel
theorem dX7_sources_40 : decode cX7_sources 40 = .ok (.bipush 10, 2) := by decide +kernel
theorem dX7_sources_42 : decode cX7_sources 42 = .ok (.iload 4, 2) := by decide +kernel
theorem dX7_sources_44 : decode cX7_sources 44 = .ok (.iadd, 1) := by decide +kernel
theorem dX7_sources_45 : decode cX7_sources 45 = .ok (.invokevirtual 29, 3) := by decide +kernel
theorem dX7_sources_48 : decode cX7_sources 48 = .ok (.ishl, 1) := by decide +kernel
theorem dX7_sources_49 : decode cX7_sources 49 = .ok (.ior, 1) := by decide +kernel
theorem dX7_sources_50 : decode cX7_sources 50 = .ok (.istore_n 2, 1) := by decide +kernel
theorem dX7_sources_51 : decode cX7_sources 51 = .ok (.iinc 3 (-1), 3) := by decide +kernel
theorem dX7_sources_54 : decode cX7_sources 54 = .ok (.iinc 4 1, 3) := by decide +kernel
theorem dX7_sources_57 : decode cX7_sources 57 = .ok (.goto (-45), 3) := by decide +kernel
theorem dX7_sources_60 : decode cX7_sources 60 = .ok (.iload_n 2, 1) := by decide +kernel
theorem dX7_sources_61 : decode cX7_sources 61 = .ok (.ireturn, 1) := by decide +kernel
theorem dX7_repairs_0 : decode cX7_repairs 0 = .ok (.iconst 0, 1) := by decide +kernel
theorem dX7_repairs_1 : decode cX7_repairs 1 = .ok (.istore_n 2, 1) := by decide +kernel
theorem dX7_repairs_2 : decode cX7_repairs 2 = .ok (.iconst 0, 1) := by decide +kernel
theorem dX7_repairs_3 : decode cX7_repairs 3 = .ok (.istore_n 3, 1) := by decide +kernel
theorem dX7_repairs_4 : decode cX7_repairs 4 = .ok (.iload_n 3, 1) := by decide +kernel
theorem dX7_repairs_5 : decode cX7_repairs 5 = .ok (.aload_n 0, 1) := by decide +kernel
theorem dX7_repairs_6 : decode cX7_repairs 6 = .ok (.iload_n 1, 1) := by decide +kernel
theorem dX7_repairs_7 : decode cX7_repairs 7 = .ok (.invokevirtual 47, 3) := by decide +kernel
theorem dX7_repairs_10 : decode cX7_repairs 10 = .ok (.if_icmp .ge 106, 3) := by decide +kernel
theorem dX7_repairs_13 : decode cX7_repairs 13 = .ok (.aload_n 0, 1) := by decide +kernel
theorem dX7_repairs_14 : decode cX7_repairs 14 = .ok (.iload_n 1, 1) := by decide +kernel
theorem dX7_repairs_15 : decode cX7_repairs 15 = .ok (.iload_n 3, 1) := by decide +kernel
theorem dX7_repairs_16 : decode cX7_repairs 16 = .ok (.invokevirtual 54, 3) := by decide +kernel
theorem dX7_repairs_19 : decode cX7_repairs 19 = .ok (.ifCond .ne 91, 3) := by decide +kernel
theorem dX7_repairs_22 : decode cX7_repairs 22 = .ok (.aload_n 0, 1) := by decide +kernel
theorem dX7_repairs_23 : decode cX7_repairs 23 = .ok (.iload_n 1, 1) := by decide +kernel
theorem dX7_repairs_24 : decode cX7_repairs 24 = .ok (.invokevirtual 125, 3) := by decide +kernel
theorem dX7_repairs_27 : decode cX7_repairs 27 = .ok (.istore 4, 2) := by decide +kernel
theorem dX7_repairs_29 : decode cX7_repairs 29 = .ok (.aload_n 0, 1) := by decide +kernel
theorem dX7_repairs_30 : decode cX7_repairs 30 = .ok (.getfield 7, 3) := by decide +kernel
theorem dX7_repairs_33 : decode cX7_repairs 33 = .ok (.iload_n 1, 1) := by decide +kernel
theorem dX7_repairs_34 : decode cX7_repairs 34 = .ok (.bipush 10, 2) := by decide +kernel
theorem dX7_repairs_36 : decode cX7_repairs 36 = .ok (.iload_n 3, 1) := by decide +kernel
theorem dX7_repairs_37 : decode cX7_repairs 37 = .ok (.iadd, 1) := by decide +kernel
theorem dX7_repairs_38 : decode cX7_repairs 38 = .ok (.invokestatic 33, 3) := by decide +kernel
theorem dX7_repairs_41 : decode cX7_repairs 41 = .ok (.iconst (-1), 1) := by decide +kernel
theorem dX7_repairs_42 : decode cX7_repairs 42 = .ok (.iastore, 1) := by decide +kernel
theorem dX7_repairs_43 : decode cX7_repairs 43 = .ok (.aload_n 0, 1) := by decide +kernel
theorem dX7_repairs_44 : decode cX7_repairs 44 = .ok (.getfield 7, 3) := by decide +kernel
theorem dX7_repairs_47 : decode cX7_repairs 47 = .ok (.iload_n 1, 1) := by decide +kernel
theorem dX7_repairs_48 : decode cX7_repairs 48 = .ok (.bipush 20, 2) := by decide +kernel
theorem dX7_repairs_50 : decode cX7_repairs 50 = .ok (.iload_n 3, 1) := by decide +kernel
theorem dX7_repairs_51 : decode cX7_repairs 51 = .ok (.iadd, 1) := by decide +kernel
theorem dX7_repairs_52 : decode cX7_repairs 52 = .ok (.invokestatic 33, 3) := by decide +kernel
theorem dX7_repairs_55 : decode cX7_repairs 55 = .ok (.iconst 0, 1) := by decide +kernel
theorem dX7_repairs_56 : decode cX7_repairs 56 = .ok (.iastore, 1) := by decide +kernel
theorem dX7_repairs_57 : decode cX7_repairs 57 = .ok (.aload_n 0, 1) := by decide +kernel
theorem dX7_repairs_58 : decode cX7_repairs 58 = .ok (.iload_n 1, 1) := by decide +kernel
theorem dX7_repairs_59 : decode cX7_repairs 59 = .ok (.iload_n 3, 1) := by decide +kernel
theorem dX7_repairs_60 : decode cX7_repairs 60 = .ok (.iconst (-1), 1) := by decide +kernel
theorem dX7_repairs_61 : decode cX7_repairs 61 = .ok (.invokevirtual 83, 3) := by decide +kernel
theorem dX7_repairs_64 : decode cX7_repairs 64 = .ok (.ifCond .eq 46, 3) := by decide +kernel
theorem dX7_repairs_67 : decode cX7_repairs 67 = .ok (.iinc 2 1, 3) := by decide +kernel
theorem dX7_repairs_70 : decode cX7_repairs 70 = .ok (.iconst 0, 1) := by decide +kernel
theorem dX7_repairs_71 : decode cX7_repairs 71 = .ok (.istore 5, 2) := by decide +kernel
theorem dX7_repairs_73 : decode cX7_repairs 73 = .ok (.iload 5, 2) := by decide +kernel
theorem dX7_repairs_75 : decode cX7_repairs 75 = .ok (.bipush 12, 2) := by decide +kernel
theorem dX7_repairs_77 : decode cX7_repairs 77 = .ok (.if_icmp .ge 33, 3) := by decide +kernel
theorem dX7_repairs_80 : decode cX7_repairs 80 = .ok (.iload 4, 2) := by decide +kernel
theorem dX7_repairs_82 : decode cX7_repairs 82 = .ok (.iload 5, 2) := by decide +kernel
theorem dX7_repairs_84 : decode cX7_repairs 84 = .ok (.ishr, 1) := by decide +kernel
theorem dX7_repairs_85 : decode cX7_repairs 85 = .ok (.iconst 1, 1) := by decide +kernel
theorem dX7_repairs_86 : decode cX7_repairs 86 = .ok (.iand, 1) := by decide +kernel
theorem dX7_repairs_87 : decode cX7_repairs 87 = .ok (.iconst 1, 1) := by decide +kernel
theorem dX7_repairs_88 : decode cX7_repairs 88 = .ok (.if_icmp .ne 16, 3) := by decide +kernel
theorem dX7_repairs_91 : decode cX7_repairs 91 = .ok (.aload_n 0, 1) := by decide +kernel
theorem dX7_repairs_92 : decode cX7_repairs 92 = .ok (.aload_n 0, 1) := by decide +kernel
theorem dX7_repairs_93 : decode cX7_repairs 93 = .ok (.iload_n 1, 1) := by decide +kernel
theorem dX7_repairs_94 : decode cX7_repairs 94 = .ok (.iconst 1, 1) := by decide +kernel
theorem dX7_repairs_95 : decode cX7_repairs 95 = .ok (.invokevirtual 29, 3) := by decide +kernel
theorem dX7_repairs_98 : decode cX7_repairs 98 = .ok (.iload 5, 2) := by decide +kernel
theorem dX7_repairs_100 : decode cX7_repairs 100 = .ok (.iconst 1, 1) := by decide +kernel
theorem dX7_repairs_101 : decode cX7_repairs 101 = .ok (.invokevirtual 76, 3) := by decide +kernel
theorem dX7_repairs_104 : decode cX7_repairs 104 = .ok (.iinc 5 1, 3) := by decide +kernel
theorem dX7_repairs_107 : decode cX7_repairs 107 = .ok (.goto (-34), 3) := by decide +kernel
theorem dX7_repairs_110 : decode cX7_repairs 110 = .ok (.iinc 3 1, 3) := by decide +kernel
theorem dX7_repairs_113 : decode cX7_repairs 113 = .ok (.goto (-109), 3) := by decide +kernel
theorem dX7_repairs_116 : decode cX7_repairs 116 = .ok (.iload_n 2, 1) := by decide +kernel
theorem dX7_repairs_117 : decode cX7_repairs 117 = .ok (.ireturn, 1) := by decide +kernel
theorem dX7_repair_0 : decode cX7_repair 0 = .ok (.aload_n 0, 1) := by decide +kernel
theorem dX7_repair_1 : decode cX7_repair 1 = .ok (.iload_n 1, 1) := by decide +kernel
theorem dX7_repair_2 : decode cX7_repair 2 = .ok (.invokevirtual 43, 3) := by decide +kernel
theorem dX7_repair_5 : decode cX7_repair 5 = .ok (.ifCond .ne 7, 3) := by decide +kernel
theorem dX7_repair_8 : decode cX7_repair 8 = .ok (.sipush (-10001), 3) := by decide +kernel
theorem dX7_repair_11 : decode cX7_repair 11 = .ok (.ireturn, 1) := by decide +kernel
theorem dX7_repair_12 : decode cX7_repair 12 = .ok (.aload_n 0, 1) := by decide +kernel
theorem dX7_repair_13 : decode cX7_repair 13 = .ok (.iload_n 1, 1) := by decide +kernel
theorem dX7_repair_14 : decode cX7_repair 14 = .ok (.invokevirtual 106, 3) := by decide +kernel
theorem dX7_repair_17 : decode cX7_repair 17 = .ok (.ifCond .ne 7, 3) := by decide +kernel
theorem dX7_repair_20 : decode cX7_repair 20 = .ok (.sipush (-10002), 3) := by decide +kernel
theorem dX7_repair_23 : decode cX7_repair 23 = .ok (.ireturn, 1) := by decide +kernel
theorem dX7_repair_24 : decode cX7_repair 24 = .ok (.aload_n 0, 1) := by decide +kernel
theorem dX7_repair_25 : decode cX7_repair 25 = .ok (.invokevirtual 80, 3) := by decide +kernel
theorem dX7_repair_28 : decode cX7_repair 28 = .ok (.aload_n 0, 1) := by decide +kernel
theorem dX7_repair_29 : decode cX7_repair 29 = .ok (.iload_n 1, 1) := by decide +kernel
theorem dX7_repair_30 : decode cX7_repair 30 = .ok (.invokevirtual 128, 3) := by decide +kernel
theorem dX7_repair_33 : decode cX7_repair 33 = .ok (.ireturn, 1) := by decide +kernel
theorem dX7_repairAll_0 : decode cX7_repairAll 0 = .ok (.iload_n 1, 1) := by decide +kernel
theorem dX7_repairAll_1 : decode cX7_repairAll 1 = .ok (.iconst 0, 1) := by decide +kernel
theorem dX7_repairAll_2 : decode cX7_repairAll 2 = .ok (.iconst 5, 1) := by decide +kernel
theorem dX7_repairAll_3 : decode cX7_repairAll 3 = .ok (.invokestatic 25, 3) := by decide +kernel
theorem dX7_repairAll_6 : decode cX7_repairAll 6 = .ok (.ifCond .ne 7, 3) := by decide +kernel
theorem dX7_repairAll_9 : decode cX7_repairAll 9 = .ok (.sipush (-10001), 3) := by decide +kernel
theorem dX7_repairAll_12 : decode cX7_repairAll 12 = .ok (.ireturn, 1) := by decide +kernel
theorem dX7_repairAll_13 : decode cX7_repairAll 13 = .ok (.aload_n 0, 1) := by decide +kernel
theorem dX7_repairAll_14 : decode cX7_repairAll 14 = .ok (.invokevirtual 80, 3) := by decide +kernel
theorem dX7_repairAll_17 : decode cX7_repairAll 17 = .ok (.iconst 0, 1) := by decide +kernel
theorem dX7_repairAll_18 : decode cX7_repairAll 18 = .ok (.istore_n 2, 1) := by decide +kernel
theorem dX7_repairAll_19 : decode cX7_repairAll 19 = .ok (.iconst 0, 1) := by decide +kernel
theorem dX7_repairAll_20 : decode cX7_repairAll 20 = .ok (.istore_n 3, 1) := by decide +kernel
theorem dX7_repairAll_21 : decode cX7_repairAll 21 = .ok (.iload_n 3, 1) := by decide +kernel
theorem dX7_repairAll_22 : decode cX7_repairAll 22 = .ok (.bipush 8, 2) := by decide +kernel
theorem dX7_repairAll_24 : decode cX7_repairAll 24 = .ok (.if_icmp .ge 53, 3) := by decide +kernel
theorem dX7_repairAll_27 : decode cX7_repairAll 27 = .ok (.iload_n 2, 1) := by decide +kernel
theorem dX7_repairAll_28 : decode cX7_repairAll 28 = .ok (.aload_n 0, 1) := by decide +kernel
theorem dX7_repairAll_29 : decode cX7_repairAll 29 = .ok (.iload_n 3, 1) := by decide +kernel
theorem dX7_repairAll_30 : decode cX7_repairAll 30 = .ok (.invokevirtual 43, 3) := by decide +kernel
theorem dX7_repairAll_33 : decode cX7_repairAll 33 = .ok (.ifCond .eq 35, 3) := by decide +kernel
theorem dX7_repairAll_36 : decode cX7_repairAll 36 = .ok (.aload_n 0, 1) := by decide +kernel
theorem dX7_repairAll_37 : decode cX7_repairAll 37 = .ok (.iload_n 3, 1) := by decide +kernel
theorem dX7_repairAll_38 : decode cX7_repairAll 38 = .ok (.invokevirtual 106, 3) := by decide +kernel
theorem dX7_repairAll_41 : decode cX7_repairAll 41 = .ok (.ifCond .eq 27, 3) := by decide +kernel
theorem dX7_repairAll_44 : decode cX7_repairAll 44 = .ok (.aload_n 0, 1) := by decide +kernel
theorem dX7_repairAll_45 : decode cX7_repairAll 45 = .ok (.iload_n 3, 1) := by decide +kernel
theorem dX7_repairAll_46 : decode cX7_repairAll 46 = .ok (.invokevirtual 58, 3) := by decide +kernel
theorem dX7_repairAll_49 : decode cX7_repairAll 49 = .ok (.aload_n 0, 1) := by decide +kernel
theorem dX7_repairAll_50 : decode cX7_repairAll 50 = .ok (.iload_n 3, 1) := by decide +kernel
theorem dX7_repairAll_51 : decode cX7_repairAll 51 = .ok (.iconst 2, 1) := by decide +kernel
theorem dX7_repairAll_52 : decode cX7_repairAll 52 = .ok (.invokevirtual 29, 3) := by decide +kernel
theorem dX7_repairAll_55 : decode cX7_repairAll 55 = .ok (.isub, 1) := by decide +kernel
theorem dX7_repairAll_56 : decode cX7_repairAll 56 = .ok (.iload_n 1, 1) := by decide +kernel
theorem dX7_repairAll_57 : decode cX7_repairAll 57 = .ok (.if_icmp .ge 11, 3) := by decide +kernel
theorem dX7_repairAll_60 : decode cX7_repairAll 60 = .ok (.aload_n 0, 1) := by decide +kernel
theorem dX7_repairAll_61 : decode cX7_repairAll 61 = .ok (.iload_n 3, 1) := by decide +kernel
theorem dX7_repairAll_62 : decode cX7_repairAll 62 = .ok (.invokevirtual 128, 3) := by decide +kernel
theorem dX7_repairAll_65 : decode cX7_repairAll 65 = .ok (.goto 4, 3) := by decide +kernel
theorem dX7_repairAll_68 : decode cX7_repairAll 68 = .ok (.iconst 0, 1) := by decide +kernel
theorem dX7_repairAll_69 : decode cX7_repairAll 69 = .ok (.iadd, 1) := by decide +kernel
theorem dX7_repairAll_70 : decode cX7_repairAll 70 = .ok (.istore_n 2, 1) := by decide +kernel
theorem dX7_repairAll_71 : decode cX7_repairAll 71 = .ok (.iinc 3 1, 3) := by decide +kernel
theorem dX7_repairAll_74 : decode cX7_repairAll 74 = .ok (.goto (-53), 3) := by decide +kernel
theorem dX7_repairAll_77 : decode cX7_repairAll 77 = .ok (.iload_n 2, 1) := by decide +kernel
theorem dX7_repairAll_78 : decode cX7_repairAll 78 = .ok (.ireturn, 1) := by decide +kernel
theorem dX7_undo_0 : decode cX7_undo 0 = .ok (.aload_n 0, 1) := by decide +kernel
theorem dX7_undo_1 : decode cX7_undo 1 = .ok (.getfield 36, 3) := by decide +kernel
theorem dX7_undo_4 : decode cX7_undo 4 = .ok (.ifCond .ne 7, 3) := by decide +kernel
theorem dX7_undo_7 : decode cX7_undo 7 = .ok (.sipush (-10002), 3) := by decide +kernel
theorem dX7_undo_10 : decode cX7_undo 10 = .ok (.ireturn, 1) := by decide +kernel
theorem dX7_undo_11 : decode cX7_undo 11 = .ok (.aload_n 0, 1) := by decide +kernel
theorem dX7_undo_12 : decode cX7_undo 12 = .ok (.dup, 1) := by decide +kernel
theorem dX7_undo_13 : decode cX7_undo 13 = .ok (.getfield 36, 3) := by decide +kernel
theorem dX7_undo_16 : decode cX7_undo 16 = .ok (.iconst 1, 1) := by decide +kernel
theorem dX7_undo_17 : decode cX7_undo 17 = .ok (.isub, 1) := by decide +kernel
theorem dX7_undo_18 : decode cX7_undo 18 = .ok (.putfield 36, 3) := by decide +kernel
theorem dX7_undo_21 : decode cX7_undo 21 = .ok (.iconst 0, 1) := by decide +kernel
theorem dX7_undo_22 : decode cX7_undo 22 = .ok (.istore_n 1, 1) := by decide +kernel
theorem dX7_undo_23 : decode cX7_undo 23 = .ok (.iload_n 1, 1) := by decide +kernel
theorem dX7_undo_24 : decode cX7_undo 24 = .ok (.sipush 439, 3) := by decide +kernel
theorem dX7_undo_27 : decode cX7_undo 27 = .ok (.if_icmp .ge 30, 3) := by decide +kernel
theorem dX7_undo_30 : decode cX7_undo 30 = .ok (.aload_n 0, 1) := by decide +kernel
theorem dX7_undo_31 : decode cX7_undo 31 = .ok (.getfield 7, 3) := by decide +kernel
theorem dX7_undo_34 : decode cX7_undo 34 = .ok (.iload_n 1, 1) := by decide +kernel
theorem dX7_undo_35 : decode cX7_undo 35 = .ok (.aload_n 0, 1) := by decide +kernel
theorem dX7_undo_36 : decode cX7_undo 36 = .ok (.getfield 19, 3) := by decide +kernel
theorem dX7_undo_39 : decode cX7_undo 39 = .ok (.sipush 439, 3) := by decide +kernel
theorem dX7_undo_42 : decode cX7_undo 42 = .ok (.aload_n 0, 1) := by decide +kernel
theorem dX7_undo_43 : decode cX7_undo 43 = .ok (.getfield 36, 3) := by decide +kernel
theorem dX7_undo_46 : decode cX7_undo 46 = .ok (.imul, 1) := by decide +kernel
theorem dX7_undo_47 : decode cX7_undo 47 = .ok (.iload_n 1, 1) := by decide +kernel
theorem dX7_undo_48 : decode cX7_undo 48 = .ok (.iadd, 1) := by decide +kernel
theorem dX7_undo_49 : decode cX7_undo 49 = .ok (.iaload, 1) := by decide +kernel
theorem dX7_undo_50 : decode cX7_undo 50 = .ok (.iastore, 1) := by decide +kernel
theorem dX7_undo_51 : decode cX7_undo 51 = .ok (.iinc 1 1, 3) := by decide +kernel
theorem dX7_undo_54 : decode cX7_undo 54 = .ok (.goto (-31), 3) := by decide +kernel
theorem dX7_undo_57 : decode cX7_undo 57 = .ok (.aload_n 0, 1) := by decide +kernel
theorem dX7_undo_58 : decode cX7_undo 58 = .ok (.getfield 36, 3) := by decide +kernel
theorem dX7_undo_61 : decode cX7_undo 61 = .ok (.ireturn, 1) := by decide +kernel
theorem dX7_count1_0 : decode cX7_count1 0 = .ok (.iconst 0, 1) := by decide +kernel
theorem dX7_count1_1 : decode cX7_count1 1 = .ok (.istore_n 1, 1) := by decide +kernel
theorem dX7_count1_2 : decode cX7_count1 2 = .ok (.iload_n 0, 1) := by decide +kernel
theorem dX7_count1_3 : decode cX7_count1 3 = .ok (.istore_n 2, 1) := by decide +kernel
theorem dX7_count1_4 : decode cX7_count1 4 = .ok (.iload_n 2, 1) := by decide +kernel
theorem dX7_count1_5 : decode cX7_count1 5 = .ok (.ifCond .eq 15, 3) := by decide +kernel
theorem dX7_count1_8 : decode cX7_count1 8 = .ok (.iinc 1 1, 3) := by decide +kernel
theorem dX7_count1_11 : decode cX7_count1 11 = .ok (.iload_n 2, 1) := by decide +kernel
theorem dX7_count1_12 : decode cX7_count1 12 = .ok (.iload_n 2, 1) := by decide +kernel
theorem dX7_count1_13 : decode cX7_count1 13 = .ok (.iconst 1, 1) := by decide +kernel
theorem dX7_count1_14 : decode cX7_count1 14 = .ok (.isub, 1) := by decide +kernel
theorem dX7_count1_15 : decode cX7_count1 15 = .ok (.iand, 1) := by decide +kernel
theorem dX7_count1_16 : decode cX7_count1 16 = .ok (.istore_n 2, 1) := by decide +kernel
theorem dX7_count1_17 : decode cX7_count1 17 = .ok (.goto (-13), 3) := by decide +kernel
theorem dX7_count1_20 : decode cX7_count1 20 = .ok (.iload_n 1, 1) := by decide +kernel
theorem dX7_count1_21 : decode cX7_count1 21 = .ok (.ireturn, 1) := by decide +kernel
theorem dX7_isHurt_0 : decode cX7_isHurt 0 = .ok (.aload_n 0, 1) := by decide +kernel
theorem dX7_isHurt_1 : decode cX7_isHurt 1 = .ok (.iload_n 1, 1) := by decide +kernel
theorem dX7_isHurt_2 : decode cX7_isHurt 2 = .ok (.invokevirtual 43, 3) := by decide +kernel
theorem dX7_isHurt_5 : decode cX7_isHurt 5 = .ok (.ifCond .eq 25, 3) := by decide +kernel
theorem dX7_isHurt_8 : decode cX7_isHurt 8 = .ok (.aload_n 0, 1) := by decide +kernel
theorem dX7_isHurt_9 : decode cX7_isHurt 9 = .ok (.iload_n 1, 1) := by decide +kernel
theorem dX7_isHurt_10 : decode cX7_isHurt 10 = .ok (.invokevirtual 106, 3) := by decide +kernel
theorem dX7_isHurt_13 : decode cX7_isHurt 13 = .ok (.ifCond .eq 17, 3) := by decide +kernel
theorem dX7_isHurt_16 : decode cX7_isHurt 16 = .ok (.iload_n 2, 1) := by decide +kernel
theorem dX7_isHurt_17 : decode cX7_isHurt 17 = .ok (.aload_n 0, 1) := by decide +kernel
theorem dX7_isHurt_18 : decode cX7_isHurt 18 = .ok (.iload_n 1, 1) := by decide +kernel
theorem dX7_isHurt_19 : decode cX7_isHurt 19 = .ok (.iconst 1, 1) := by decide +kernel
theorem dX7_isHurt_20 : decode cX7_isHurt 20 = .ok (.invokevirtual 29, 3) := by decide +kernel
theorem dX7_isHurt_23 : decode cX7_isHurt 23 = .ok (.ishr, 1) := by decide +kernel
theorem dX7_isHurt_24 : decode cX7_isHurt 24 = .ok (.iconst 1, 1) := by decide +kernel
theorem dX7_isHurt_25 : decode cX7_isHurt 25 = .ok (.iand, 1) := by decide +kernel
theorem dX7_isHurt_26 : decode cX7_isHurt 26 = .ok (.iconst 1, 1) := by decide +kernel
theorem dX7_isHurt_27 : decode cX7_isHurt 27 = .ok (.if_icmp .ne 5, 3) := by decide +kernel
theorem dX7_isHurt_30 : decode cX7_isHurt 30 = .ok (.iconst 0, 1) := by decide +kernel
theorem dX7_isHurt_31 : decode cX7_isHurt 31 = .ok (.ireturn, 1) := by decide +kernel
theorem dX7_isHurt_32 : decode cX7_isHurt 32 = .ok (.iconst 0, 1) := by decide +kernel
theorem dX7_isHurt_33 : decode cX7_isHurt 33 = .ok (.istore_n 3, 1) := by decide +kernel
theorem dX7_isHurt_34 : decode cX7_isHurt 34 = .ok (.iconst 0, 1) := by decide +kernel
theorem dX7_isHurt_35 : decode cX7_isHurt 35 = .ok (.istore 4, 2) := by decide +kernel
theorem dX7_isHurt_37 : decode cX7_isHurt 37 = .ok (.iload 4, 2) := by decide +kernel
theorem dX7_isHurt_39 : decode cX7_isHurt 39 = .ok (.aload_n 0, 1) := by decide +kernel
theorem dX7_isHurt_40 : decode cX7_isHurt 40 = .ok (.iload_n 1, 1) := by decide +kernel
theorem dX7_isHurt_41 : decode cX7_isHurt 41 = .ok (.invokevirtual 47, 3) := by decide +kernel
theorem dX7_isHurt_44 : decode cX7_isHurt 44 = .ok (.if_icmp .ge 44, 3) := by decide +kernel
theorem dX7_isHurt_47 : decode cX7_isHurt 47 = .ok (.iload_n 3, 1) := by decide +kernel
theorem dX7_isHurt_48 : decode cX7_isHurt 48 = .ok (.aload_n 0, 1) := by decide +kernel
theorem dX7_isHurt_49 : decode cX7_isHurt 49 = .ok (.iload_n 1, 1) := by decide +kernel
theorem dX7_isHurt_50 : decode cX7_isHurt 50 = .ok (.iload 4, 2) := by decide +kernel
theorem dX7_isHurt_52 : decode cX7_isHurt 52 = .ok (.invokevirtual 54, 3) := by decide +kernel
theorem dX7_isHurt_55 : decode cX7_isHurt 55 = .ok (.ifCond .eq 24, 3) := by decide +kernel
theorem dX7_isHurt_58 : decode cX7_isHurt 58 = .ok (.iload_n 2, 1) := by decide +kernel
theorem dX7_isHurt_59 : decode cX7_isHurt 59 = .ok (.aload_n 0, 1) := by decide +kernel
theorem dX7_isHurt_60 : decode cX7_isHurt 60 = .ok (.iload_n 1, 1) := by decide +kernel
theorem dX7_isHurt_61 : decode cX7_isHurt 61 = .ok (.bipush 10, 2) := by decide +kernel
theorem dX7_isHurt_63 : decode cX7_isHurt 63 = .ok (.iload 4, 2) := by decide +kernel
theorem dX7_isHurt_65 : decode cX7_isHurt 65 = .ok (.iadd, 1) := by decide +kernel
theorem dX7_isHurt_66 : decode cX7_isHurt 66 = .ok (.invokevirtual 29, 3) := by decide +kernel
theorem dX7_isHurt_69 : decode cX7_isHurt 69 = .ok (.ishr, 1) := by decide +kernel
theorem dX7_isHurt_70 : decode cX7_isHurt 70 = .ok (.iconst 1, 1) := by decide +kernel
theorem dX7_isHurt_71 : decode cX7_isHurt 71 = .ok (.iand, 1) := by decide +kernel
theorem dX7_isHurt_72 : decode cX7_isHurt 72 = .ok (.ifCond .ne 7, 3) := by decide +kernel
theorem dX7_isHurt_75 : decode cX7_isHurt 75 = .ok (.iconst 1, 1) := by decide +kernel
theorem dX7_isHurt_76 : decode cX7_isHurt 76 = .ok (.goto 4, 3) := by decide +kernel
theorem dX7_isHurt_79 : decode cX7_isHurt 79 = .ok (.iconst 0, 1) := by decide +kernel
theorem dX7_isHurt_80 : decode cX7_isHurt 80 = .ok (.iadd, 1) := by decide +kernel
theorem dX7_isHurt_81 : decode cX7_isHurt 81 = .ok (.istore_n 3, 1) := by decide +kernel
theorem dX7_isHurt_82 : decode cX7_isHurt 82 = .ok (.iinc 4 1, 3) := by decide +kernel
theorem dX7_isHurt_85 : decode cX7_isHurt 85 = .ok (.goto (-48), 3) := by decide +kernel
theorem dX7_isHurt_88 : decode cX7_isHurt 88 = .ok (.iload_n 3, 1) := by decide +kernel
theorem dX7_isHurt_89 : decode cX7_isHurt 89 = .ok (.aload_n 0, 1) := by decide +kernel
theorem dX7_isHurt_90 : decode cX7_isHurt 90 = .ok (.iload_n 1, 1) := by decide +kernel
theorem dX7_isHurt_91 : decode cX7_isHurt 91 = .ok (.iconst 2, 1) := by decide +kernel
theorem dX7_isHurt_92 : decode cX7_isHurt 92 = .ok (.invokevirtual 29, 3) := by decide +kernel
theorem dX7_isHurt_95 : decode cX7_isHurt 95 = .ok (.if_icmp .ge 7, 3) := by decide +kernel
theorem dX7_isHurt_98 : decode cX7_isHurt 98 = .ok (.iconst 1, 1) := by decide +kernel
theorem dX7_isHurt_99 : decode cX7_isHurt 99 = .ok (.goto 4, 3) := by decide +kernel
theorem dX7_isHurt_102 : decode cX7_isHurt 102 = .ok (.iconst 0, 1) := by decide +kernel
theorem dX7_isHurt_103 : decode cX7_isHurt 103 = .ok (.ireturn, 1) := by decide +kernel
theorem dX7_peerSet_0 : decode cX7_peerSet 0 = .ok (.iconst 0, 1) := by decide +kernel
theorem dX7_peerSet_1 : decode cX7_peerSet 1 = .ok (.istore_n 1, 1) := by decide +kernel
theorem dX7_peerSet_2 : decode cX7_peerSet 2 = .ok (.iconst 0, 1) := by decide +kernel
theorem dX7_peerSet_3 : decode cX7_peerSet 3 = .ok (.istore_n 2, 1) := by decide +kernel
theorem dX7_peerSet_4 : decode cX7_peerSet 4 = .ok (.iload_n 2, 1) := by decide +kernel
theorem dX7_peerSet_5 : decode cX7_peerSet 5 = .ok (.bipush 12, 2) := by decide +kernel
theorem dX7_peerSet_7 : decode cX7_peerSet 7 = .ok (.if_icmp .ge 27, 3) := by decide +kernel
theorem dX7_peerSet_10 : decode cX7_peerSet 10 = .ok (.iload_n 1, 1) := by decide +kernel
theorem dX7_peerSet_11 : decode cX7_peerSet 11 = .ok (.aload_n 0, 1) := by decide +kernel
theorem dX7_peerSet_12 : decode cX7_peerSet 12 = .ok (.iload_n 2, 1) := by decide +kernel
theorem dX7_peerSet_13 : decode cX7_peerSet 13 = .ok (.invokevirtual 67, 3) := by decide +kernel
theorem dX7_peerSet_16 : decode cX7_peerSet 16 = .ok (.ifCond .eq 9, 3) := by decide +kernel
theorem dX7_peerSet_19 : decode cX7_peerSet 19 = .ok (.iconst 1, 1) := by decide +kernel
theorem dX7_peerSet_20 : decode cX7_peerSet 20 = .ok (.iload_n 2, 1) := by decide +kernel
theorem dX7_peerSet_21 : decode cX7_peerSet 21 = .ok (.ishl, 1) := by decide +kernel
theorem dX7_peerSet_22 : decode cX7_peerSet 22 = .ok (.goto 4, 3) := by decide +kernel
theorem dX7_peerSet_25 : decode cX7_peerSet 25 = .ok (.iconst 0, 1) := by decide +kernel
theorem dX7_peerSet_26 : decode cX7_peerSet 26 = .ok (.ior, 1) := by decide +kernel
theorem dX7_peerSet_27 : decode cX7_peerSet 27 = .ok (.istore_n 1, 1) := by decide +kernel
theorem dX7_peerSet_28 : decode cX7_peerSet 28 = .ok (.iinc 2 1, 3) := by decide +kernel
theorem dX7_peerSet_31 : decode cX7_peerSet 31 = .ok (.goto (-27), 3) := by decide +kernel
theorem dX7_peerSet_34 : decode cX7_peerSet 34 = .ok (.iload_n 1, 1) := by decide +kernel
theorem dX7_peerSet_35 : decode cX7_peerSet 35 = .ok (.ireturn, 1) := by decide +kernel
theorem dX7_isBorne_0 : decode cX7_isBorne 0 = .ok (.aload_n 0, 1) := by decide +kernel
theorem dX7_isBorne_1 : decode cX7_isBorne 1 = .ok (.invokevirtual 131, 3) := by decide +kernel
theorem dX7_isBorne_4 : decode cX7_isBorne 4 = .ok (.istore_n 2, 1) := by decide +kernel
theorem dX7_isBorne_5 : decode cX7_isBorne 5 = .ok (.iconst 0, 1) := by decide +kernel
theorem dX7_isBorne_6 : decode cX7_isBorne 6 = .ok (.istore_n 3, 1) := by decide +kernel
theorem dX7_isBorne_7 : decode cX7_isBorne 7 = .ok (.iload_n 3, 1) := by decide +kernel
theorem dX7_isBorne_8 : decode cX7_isBorne 8 = .ok (.iload_n 2, 1) := by decide +kernel
theorem dX7_isBorne_9 : decode cX7_isBorne 9 = .ok (.if_icmp .gt 53, 3) := by decide +kernel
theorem dX7_isBorne_12 : decode cX7_isBorne 12 = .ok (.iload_n 3, 1) := by decide +kernel
theorem dX7_isBorne_13 : decode cX7_isBorne 13 = .ok (.iload_n 2, 1) := by decide +kernel
theorem dX7_isBorne_14 : decode cX7_isBorne 14 = .ok (.iconst (-1), 1) := by decide +kernel
theorem dX7_isBorne_15 : decode cX7_isBorne 15 = .ok (.ixor, 1) := by decide +kernel
theorem dX7_isBorne_16 : decode cX7_isBorne 16 = .ok (.iand, 1) := by decide +kernel
theorem dX7_isBorne_17 : decode cX7_isBorne 17 = .ok (.ifCond .ne 39, 3) := by decide +kernel
theorem dX7_isBorne_20 : decode cX7_isBorne 20 = .ok (.iload_n 3, 1) := by decide +kernel
theorem dX7_isBorne_21 : decode cX7_isBorne 21 = .ok (.invokestatic 134, 3) := by decide +kernel
theorem dX7_isBorne_24 : decode cX7_isBorne 24 = .ok (.iload_n 1, 1) := by decide +kernel
theorem dX7_isBorne_25 : decode cX7_isBorne 25 = .ok (.if_icmp .ne 31, 3) := by decide +kernel
theorem dX7_isBorne_28 : decode cX7_isBorne 28 = .ok (.iconst 0, 1) := by decide +kernel
theorem dX7_isBorne_29 : decode cX7_isBorne 29 = .ok (.istore 4, 2) := by decide +kernel
theorem dX7_isBorne_31 : decode cX7_isBorne 31 = .ok (.iload 4, 2) := by decide +kernel
theorem dX7_isBorne_33 : decode cX7_isBorne 33 = .ok (.bipush 8, 2) := by decide +kernel
theorem dX7_isBorne_35 : decode cX7_isBorne 35 = .ok (.if_icmp .ge 21, 3) := by decide +kernel
theorem dX7_isBorne_38 : decode cX7_isBorne 38 = .ok (.aload_n 0, 1) := by decide +kernel
theorem dX7_isBorne_39 : decode cX7_isBorne 39 = .ok (.iload 4, 2) := by decide +kernel
theorem dX7_isBorne_41 : decode cX7_isBorne 41 = .ok (.iload_n 3, 1) := by decide +kernel
theorem dX7_isBorne_42 : decode cX7_isBorne 42 = .ok (.invokevirtual 137, 3) := by decide +kernel
theorem dX7_isBorne_45 : decode cX7_isBorne 45 = .ok (.ifCond .eq 5, 3) := by decide +kernel
theorem dX7_isBorne_48 : decode cX7_isBorne 48 = .ok (.iconst 0, 1) := by decide +kernel
theorem dX7_isBorne_49 : decode cX7_isBorne 49 = .ok (.ireturn, 1) := by decide +kernel
theorem dX7_isBorne_50 : decode cX7_isBorne 50 = .ok (.iinc 4 1, 3) := by decide +kernel
theorem dX7_isBorne_53 : decode cX7_isBorne 53 = .ok (.goto (-22), 3) := by decide +kernel
theorem dX7_isBorne_56 : decode cX7_isBorne 56 = .ok (.iinc 3 1, 3) := by decide +kernel
theorem dX7_isBorne_59 : decode cX7_isBorne 59 = .ok (.goto (-52), 3) := by decide +kernel
theorem dX7_isBorne_62 : decode cX7_isBorne 62 = .ok (.iconst 1, 1) := by decide +kernel
theorem dX7_isBorne_63 : decode cX7_isBorne 63 = .ok (.ireturn, 1) := by decide +kernel
theorem dX7_tolerance_0 : decode cX7_tolerance 0 = .ok (.aload_n 0, 1) := by decide +kernel
theorem dX7_tolerance_1 : decode cX7_tolerance 1 = .ok (.invokevirtual 131, 3) := by decide +kernel
theorem dX7_tolerance_4 : decode cX7_tolerance 4 = .ok (.istore_n 1, 1) := by decide +kernel
theorem dX7_tolerance_5 : decode cX7_tolerance 5 = .ok (.iload_n 1, 1) := by decide +kernel
theorem dX7_tolerance_6 : decode cX7_tolerance 6 = .ok (.ifCond .ne 7, 3) := by decide +kernel
theorem dX7_tolerance_9 : decode cX7_tolerance 9 = .ok (.sipush (-10002), 3) := by decide +kernel
theorem dX7_tolerance_12 : decode cX7_tolerance 12 = .ok (.ireturn, 1) := by decide +kernel
theorem dX7_tolerance_13 : decode cX7_tolerance 13 = .ok (.iconst 0, 1) := by decide +kernel
theorem dX7_tolerance_14 : decode cX7_tolerance 14 = .ok (.istore_n 2, 1) := by decide +kernel
theorem dX7_tolerance_15 : decode cX7_tolerance 15 = .ok (.iconst 1, 1) := by decide +kernel
theorem dX7_tolerance_16 : decode cX7_tolerance 16 = .ok (.istore_n 3, 1) := by decide +kernel
theorem dX7_tolerance_17 : decode cX7_tolerance 17 = .ok (.iload_n 3, 1) := by decide +kernel
theorem dX7_tolerance_18 : decode cX7_tolerance 18 = .ok (.iconst 4, 1) := by decide +kernel
theorem dX7_tolerance_19 : decode cX7_tolerance 19 = .ok (.if_icmp .gt 31, 3) := by decide +kernel
theorem dX7_tolerance_22 : decode cX7_tolerance 22 = .ok (.iload_n 3, 1) := by decide +kernel
theorem dX7_tolerance_23 : decode cX7_tolerance 23 = .ok (.iload_n 1, 1) := by decide +kernel
theorem dX7_tolerance_24 : decode cX7_tolerance 24 = .ok (.invokestatic 134, 3) := by decide +kernel
theorem dX7_tolerance_27 : decode cX7_tolerance 27 = .ok (.if_icmp .gt 23, 3) := by decide +kernel
theorem dX7_tolerance_30 : decode cX7_tolerance 30 = .ok (.aload_n 0, 1) := by decide +kernel
theorem dX7_tolerance_31 : decode cX7_tolerance 31 = .ok (.iload_n 3, 1) := by decide +kernel
theorem dX7_tolerance_32 : decode cX7_tolerance 32 = .ok (.invokevirtual 140, 3) := by decide +kernel
theorem dX7_tolerance_35 : decode cX7_tolerance 35 = .ok (.ifCond .eq 7, 3) := by decide +kernel
theorem dX7_tolerance_38 : decode cX7_tolerance 38 = .ok (.iload_n 3, 1) := by decide +kernel
theorem dX7_tolerance_39 : decode cX7_tolerance 39 = .ok (.goto 4, 3) := by decide +kernel
theorem dX7_tolerance_42 : decode cX7_tolerance 42 = .ok (.iload_n 2, 1) := by decide +kernel
theorem dX7_tolerance_43 : decode cX7_tolerance 43 = .ok (.istore_n 2, 1) := by decide +kernel
theorem dX7_tolerance_44 : decode cX7_tolerance 44 = .ok (.iinc 3 1, 3) := by decide +kernel
theorem dX7_tolerance_47 : decode cX7_tolerance 47 = .ok (.goto (-30), 3) := by decide +kernel
theorem dX7_tolerance_50 : decode cX7_tolerance 50 = .ok (.iload_n 2, 1) := by decide +kernel
theorem dX7_tolerance_51 : decode cX7_tolerance 51 = .ok (.ireturn, 1) := by decide +kernel
theorem dX7_endangered_0 : decode cX7_endangered 0 = .ok (.aload_n 0, 1) := by decide +kernel
theorem dX7_endangered_1 : decode cX7_endangered 1 = .ok (.iload_n 1, 1) := by decide +kernel
theorem dX7_endangered_2 : decode cX7_endangered 2 = .ok (.invokevirtual 67, 3) := by decide +kernel
theorem dX7_endangered_5 : decode cX7_endangered 5 = .ok (.ifCond .ne 7, 3) := by decide +kernel
theorem dX7_endangered_8 : decode cX7_endangered 8 = .ok (.sipush (-10001), 3) := by decide +kernel
theorem dX7_endangered_11 : decode cX7_endangered 11 = .ok (.ireturn, 1) := by decide +kernel
theorem dX7_endangered_12 : decode cX7_endangered 12 = .ok (.aload_n 0, 1) := by decide +kernel
theorem dX7_endangered_13 : decode cX7_endangered 13 = .ok (.getfield 7, 3) := by decide +kernel
theorem dX7_endangered_16 : decode cX7_endangered 16 = .ok (.iconst 4, 1) := by decide +kernel
theorem dX7_endangered_17 : decode cX7_endangered 17 = .ok (.iload_n 1, 1) := by decide +kernel
theorem dX7_endangered_18 : decode cX7_endangered 18 = .ok (.imul, 1) := by decide +kernel
theorem dX7_endangered_19 : decode cX7_endangered 19 = .ok (.iconst 2, 1) := by decide +kernel
theorem dX7_endangered_20 : decode cX7_endangered 20 = .ok (.iadd, 1) := by decide +kernel
theorem dX7_endangered_21 : decode cX7_endangered 21 = .ok (.iaload, 1) := by decide +kernel
theorem dX7_endangered_22 : decode cX7_endangered 22 = .ok (.istore_n 2, 1) := by decide +kernel
theorem dX7_endangered_23 : decode cX7_endangered 23 = .ok (.iconst 0, 1) := by decide +kernel
theorem dX7_endangered_24 : decode cX7_endangered 24 = .ok (.istore_n 3, 1) := by decide +kernel
theorem dX7_endangered_25 : decode cX7_endangered 25 = .ok (.iconst 0, 1) := by decide +kernel
theorem dX7_endangered_26 : decode cX7_endangered 26 = .ok (.istore 4, 2) := by decide +kernel
theorem dX7_endangered_28 : decode cX7_endangered 28 = .ok (.iload 4, 2) := by decide +kernel
theorem dX7_endangered_30 : decode cX7_endangered 30 = .ok (.bipush 8, 2) := by decide +kernel
theorem dX7_endangered_32 : decode cX7_endangered 32 = .ok (.if_icmp .ge 78, 3) := by decide +kernel
theorem dX7_endangered_35 : decode cX7_endangered 35 = .ok (.aload_n 0, 1) := by decide +kernel
theorem dX7_endangered_36 : decode cX7_endangered 36 = .ok (.iload 4, 2) := by decide +kernel
theorem dX7_endangered_38 : decode cX7_endangered 38 = .ok (.invokevirtual 43, 3) := by decide +kernel
theorem dX7_endangered_41 : decode cX7_endangered 41 = .ok (.ifCond .eq 16, 3) := by decide +kernel
theorem dX7_endangered_44 : decode cX7_endangered 44 = .ok (.aload_n 0, 1) := by decide +kernel
theorem dX7_endangered_45 : decode cX7_endangered 45 = .ok (.iload 4, 2) := by decide +kernel
theorem dX7_endangered_47 : decode cX7_endangered 47 = .ok (.invokevirtual 106, 3) := by decide +kernel
theorem dX7_endangered_50 : decode cX7_endangered 50 = .ok (.ifCond .eq 7, 3) := by decide +kernel
theorem dX7_endangered_53 : decode cX7_endangered 53 = .ok (.iconst 1, 1) := by decide +kernel
theorem dX7_endangered_54 : decode cX7_endangered 54 = .ok (.goto 4, 3) := by decide +kernel
theorem dX7_endangered_57 : decode cX7_endangered 57 = .ok (.iconst 0, 1) := by decide +kernel
theorem dX7_endangered_58 : decode cX7_endangered 58 = .ok (.istore 5, 2) := by decide +kernel
theorem dX7_endangered_60 : decode cX7_endangered 60 = .ok (.aload_n 0, 1) := by decide +kernel
theorem dX7_endangered_61 : decode cX7_endangered 61 = .ok (.getfield 7, 3) := by decide +kernel
theorem dX7_endangered_64 : decode cX7_endangered 64 = .ok (.iconst 4, 1) := by decide +kernel
theorem dX7_endangered_65 : decode cX7_endangered 65 = .ok (.iload_n 1, 1) := by decide +kernel
theorem dX7_endangered_66 : decode cX7_endangered 66 = .ok (.imul, 1) := by decide +kernel
theorem dX7_endangered_67 : decode cX7_endangered 67 = .ok (.iconst 2, 1) := by decide +kernel
theorem dX7_endangered_68 : decode cX7_endangered 68 = .ok (.iadd, 1) := by decide +kernel
theorem dX7_endangered_69 : decode cX7_endangered 69 = .ok (.iconst 0, 1) := by decide +kernel
theorem dX7_endangered_70 : decode cX7_endangered 70 = .ok (.iastore, 1) := by decide +kernel
theorem dX7_endangered_71 : decode cX7_endangered 71 = .ok (.iload_n 3, 1) := by decide +kernel
theorem dX7_endangered_72 : decode cX7_endangered 72 = .ok (.iload 5, 2) := by decide +kernel
theorem dX7_endangered_74 : decode cX7_endangered 74 = .ok (.ifCond .eq 16, 3) := by decide +kernel
theorem dX7_endangered_77 : decode cX7_endangered 77 = .ok (.aload_n 0, 1) := by decide +kernel
theorem dX7_endangered_78 : decode cX7_endangered 78 = .ok (.iload 4, 2) := by decide +kernel
theorem dX7_endangered_80 : decode cX7_endangered 80 = .ok (.invokevirtual 106, 3) := by decide +kernel
theorem dX7_endangered_83 : decode cX7_endangered 83 = .ok (.ifCond .ne 7, 3) := by decide +kernel
theorem dX7_endangered_86 : decode cX7_endangered 86 = .ok (.iconst 1, 1) := by decide +kernel
theorem dX7_endangered_87 : decode cX7_endangered 87 = .ok (.goto 4, 3) := by decide +kernel
theorem dX7_endangered_90 : decode cX7_endangered 90 = .ok (.iconst 0, 1) := by decide +kernel
theorem dX7_endangered_91 : decode cX7_endangered 91 = .ok (.iadd, 1) := by decide +kernel
theorem dX7_endangered_92 : decode cX7_endangered 92 = .ok (.istore_n 3, 1) := by decide +kernel
theorem dX7_endangered_93 : decode cX7_endangered 93 = .ok (.aload_n 0, 1) := by decide +kernel
theorem dX7_endangered_94 : decode cX7_endangered 94 = .ok (.getfield 7, 3) := by decide +kernel
theorem dX7_endangered_97 : decode cX7_endangered 97 = .ok (.iconst 4, 1) := by decide +kernel
theorem dX7_endangered_98 : decode cX7_endangered 98 = .ok (.iload_n 1, 1) := by decide +kernel
theorem dX7_endangered_99 : decode cX7_endangered 99 = .ok (.imul, 1) := by decide +kernel
theorem dX7_endangered_100 : decode cX7_endangered 100 = .ok (.iconst 2, 1) := by decide +kernel
theorem dX7_endangered_101 : decode cX7_endangered 101 = .ok (.iadd, 1) := by decide +kernel
theorem dX7_endangered_102 : decode cX7_endangered 102 = .ok (.iload_n 2, 1) := by decide +kernel
theorem dX7_endangered_103 : decode cX7_endangered 103 = .ok (.iastore, 1) := by decide +kernel
theorem dX7_endangered_104 : decode cX7_endangered 104 = .ok (.iinc 4 1, 3) := by decide +kernel
theorem dX7_endangered_107 : decode cX7_endangered 107 = .ok (.goto (-79), 3) := by decide +kernel
theorem dX7_endangered_110 : decode cX7_endangered 110 = .ok (.iload_n 3, 1) := by decide +kernel
theorem dX7_endangered_111 : decode cX7_endangered 111 = .ok (.ireturn, 1) := by decide +kernel
theorem dX7_puts_0 : decode cX7_puts 0 = .ok (.iconst 0, 1) := by decide +kernel
theorem dX7_puts_1 : decode cX7_puts 1 = .ok (.istore_n 2, 1) := by decide +kernel
theorem dX7_puts_2 : decode cX7_puts 2 = .ok (.iload_n 2, 1) := by decide +kernel
theorem dX7_puts_3 : decode cX7_puts 3 = .ok (.sipush 439, 3) := by decide +kernel
theorem dX7_puts_6 : decode cX7_puts 6 = .ok (.if_icmp .ge 15, 3) := by decide +kernel
theorem dX7_puts_9 : decode cX7_puts 9 = .ok (.aload_n 1, 1) := by decide +kernel
theorem dX7_puts_10 : decode cX7_puts 10 = .ok (.iload_n 2, 1) := by decide +kernel
theorem dX7_puts_11 : decode cX7_puts 11 = .ok (.aload_n 0, 1) := by decide +kernel
theorem dX7_puts_12 : decode cX7_puts 12 = .ok (.iload_n 2, 1) := by decide +kernel
theorem dX7_puts_13 : decode cX7_puts 13 = .ok (.iaload, 1) := by decide +kernel
theorem dX7_puts_14 : decode cX7_puts 14 = .ok (.iastore, 1) := by decide +kernel
theorem dX7_puts_15 : decode cX7_puts 15 = .ok (.iinc 2 1, 3) := by decide +kernel
theorem dX7_puts_18 : decode cX7_puts 18 = .ok (.goto (-16), 3) := by decide +kernel
theorem dX7_puts_21 : decode cX7_puts 21 = .ok (.return_, 1) := by decide +kernel
theorem dX7_canGo_0 : decode cX7_canGo 0 = .ok (.aload_n 0, 1) := by decide +kernel
theorem dX7_canGo_1 : decode cX7_canGo 1 = .ok (.iload_n 1, 1) := by decide +kernel
theorem dX7_canGo_2 : decode cX7_canGo 2 = .ok (.invokevirtual 67, 3) := by decide +kernel
theorem dX7_canGo_5 : decode cX7_canGo 5 = .ok (.ifCond .eq 19, 3) := by decide +kernel
theorem dX7_canGo_8 : decode cX7_canGo 8 = .ok (.aload_n 0, 1) := by decide +kernel
theorem dX7_canGo_9 : decode cX7_canGo 9 = .ok (.iload_n 1, 1) := by decide +kernel
theorem dX7_canGo_10 : decode cX7_canGo 10 = .ok (.invokevirtual 90, 3) := by decide +kernel
theorem dX7_canGo_13 : decode cX7_canGo 13 = .ok (.ifCond .gt 11, 3) := by decide +kernel
theorem dX7_canGo_16 : decode cX7_canGo 16 = .ok (.aload_n 0, 1) := by decide +kernel
theorem dX7_canGo_17 : decode cX7_canGo 17 = .ok (.iload_n 1, 1) := by decide +kernel
theorem dX7_canGo_18 : decode cX7_canGo 18 = .ok (.invokevirtual 51, 3) := by decide +kernel
theorem dX7_canGo_21 : decode cX7_canGo 21 = .ok (.ifCond .ne 5, 3) := by decide +kernel
theorem dX7_canGo_24 : decode cX7_canGo 24 = .ok (.iconst 0, 1) := by decide +kernel
theorem dX7_canGo_25 : decode cX7_canGo 25 = .ok (.ireturn, 1) := by decide +kernel
theorem dX7_canGo_26 : decode cX7_canGo 26 = .ok (.aload_n 0, 1) := by decide +kernel
theorem dX7_canGo_27 : decode cX7_canGo 27 = .ok (.getfield 7, 3) := by decide +kernel
theorem dX7_canGo_30 : decode cX7_canGo 30 = .ok (.aload_n 0, 1) := by decide +kernel
theorem dX7_canGo_31 : decode cX7_canGo 31 = .ok (.getfield 16, 3) := by decide +kernel
theorem dX7_canGo_34 : decode cX7_canGo 34 = .ok (.invokestatic 143, 3) := by decide +kernel
theorem dX7_canGo_37 : decode cX7_canGo 37 = .ok (.aload_n 0, 1) := by decide +kernel
theorem dX7_canGo_38 : decode cX7_canGo 38 = .ok (.iload_n 1, 1) := by decide +kernel
theorem dX7_canGo_39 : decode cX7_canGo 39 = .ok (.invokevirtual 93, 3) := by decide +kernel
theorem dX7_canGo_42 : decode cX7_canGo 42 = .ok (.ifCond .ne 5, 3) := by decide +kernel
theorem dX7_canGo_45 : decode cX7_canGo 45 = .ok (.iconst 1, 1) := by decide +kernel
theorem dX7_canGo_46 : decode cX7_canGo 46 = .ok (.ireturn, 1) := by decide +kernel
theorem dX7_canGo_47 : decode cX7_canGo 47 = .ok (.aload_n 0, 1) := by decide +kernel
theorem dX7_canGo_48 : decode cX7_canGo 48 = .ok (.getfield 16, 3) := by decide +kernel
theorem dX7_canGo_51 : decode cX7_canGo 51 = .ok (.aload_n 0, 1) := by decide +kernel
theorem dX7_canGo_52 : decode cX7_canGo 52 = .ok (.getfield 7, 3) := by decide +kernel
theorem dX7_canGo_55 : decode cX7_canGo 55 = .ok (.invokestatic 143, 3) := by decide +kernel
theorem dX7_canGo_58 : decode cX7_canGo 58 = .ok (.iconst 0, 1) := by decide +kernel
theorem dX7_canGo_59 : decode cX7_canGo 59 = .ok (.ireturn, 1) := by decide +kernel
theorem dX7_leavers_0 : decode cX7_leavers 0 = .ok (.aload_n 0, 1) := by decide +kernel
theorem dX7_leavers_1 : decode cX7_leavers 1 = .ok (.getfield 7, 3) := by decide +kernel
theorem dX7_leavers_4 : decode cX7_leavers 4 = .ok (.aload_n 0, 1) := by decide +kernel
theorem dX7_leavers_5 : decode cX7_leavers 5 = .ok (.getfield 13, 3) := by decide +kernel
theorem dX7_leavers_8 : decode cX7_leavers 8 = .ok (.invokestatic 143, 3) := by decide +kernel
theorem dX7_leavers_11 : decode cX7_leavers 11 = .ok (.iconst 0, 1) := by decide +kernel
theorem dX7_leavers_12 : decode cX7_leavers 12 = .ok (.istore_n 1, 1) := by decide +kernel
theorem dX7_leavers_13 : decode cX7_leavers 13 = .ok (.iconst 1, 1) := by decide +kernel
theorem dX7_leavers_14 : decode cX7_leavers 14 = .ok (.istore_n 2, 1) := by decide +kernel
theorem dX7_leavers_15 : decode cX7_leavers 15 = .ok (.iload_n 2, 1) := by decide +kernel
theorem dX7_leavers_16 : decode cX7_leavers 16 = .ok (.ifCond .eq 44, 3) := by decide +kernel
theorem dX7_leavers_19 : decode cX7_leavers 19 = .ok (.iconst 0, 1) := by decide +kernel
theorem dX7_leavers_20 : decode cX7_leavers 20 = .ok (.istore_n 2, 1) := by decide +kernel
theorem dX7_leavers_21 : decode cX7_leavers 21 = .ok (.iconst 0, 1) := by decide +kernel
theorem dX7_leavers_22 : decode cX7_leavers 22 = .ok (.istore_n 3, 1) := by decide +kernel
theorem dX7_leavers_23 : decode cX7_leavers 23 = .ok (.iload_n 3, 1) := by decide +kernel
theorem dX7_leavers_24 : decode cX7_leavers 24 = .ok (.bipush 12, 2) := by decide +kernel
theorem dX7_leavers_26 : decode cX7_leavers 26 = .ok (.if_icmp .ge 19, 3) := by decide +kernel
theorem dX7_leavers_29 : decode cX7_leavers 29 = .ok (.iload_n 2, 1) := by decide +kernel
theorem dX7_leavers_30 : decode cX7_leavers 30 = .ok (.ifCond .ne 15, 3) := by decide +kernel
theorem dX7_leavers_33 : decode cX7_leavers 33 = .ok (.aload_n 0, 1) := by decide +kernel
theorem dX7_leavers_34 : decode cX7_leavers 34 = .ok (.iload_n 3, 1) := by decide +kernel
theorem dX7_leavers_35 : decode cX7_leavers 35 = .ok (.invokevirtual 147, 3) := by decide +kernel
theorem dX7_leavers_38 : decode cX7_leavers 38 = .ok (.istore_n 2, 1) := by decide +kernel
theorem dX7_leavers_39 : decode cX7_leavers 39 = .ok (.iinc 3 1, 3) := by decide +kernel
theorem dX7_leavers_42 : decode cX7_leavers 42 = .ok (.goto (-19), 3) := by decide +kernel
theorem dX7_leavers_45 : decode cX7_leavers 45 = .ok (.iload_n 1, 1) := by decide +kernel
theorem dX7_leavers_46 : decode cX7_leavers 46 = .ok (.iload_n 2, 1) := by decide +kernel
theorem dX7_leavers_47 : decode cX7_leavers 47 = .ok (.ifCond .eq 7, 3) := by decide +kernel
theorem dX7_leavers_50 : decode cX7_leavers 50 = .ok (.iconst 1, 1) := by decide +kernel
theorem dX7_leavers_51 : decode cX7_leavers 51 = .ok (.goto 4, 3) := by decide +kernel
theorem dX7_leavers_54 : decode cX7_leavers 54 = .ok (.iconst 0, 1) := by decide +kernel
theorem dX7_leavers_55 : decode cX7_leavers 55 = .ok (.iadd, 1) := by decide +kernel
theorem dX7_leavers_56 : decode cX7_leavers 56 = .ok (.istore_n 1, 1) := by decide +kernel
theorem dX7_leavers_57 : decode cX7_leavers 57 = .ok (.goto (-42), 3) := by decide +kernel
theorem dX7_leavers_60 : decode cX7_leavers 60 = .ok (.aload_n 0, 1) := by decide +kernel
theorem dX7_leavers_61 : decode cX7_leavers 61 = .ok (.getfield 13, 3) := by decide +kernel
theorem dX7_leavers_64 : decode cX7_leavers 64 = .ok (.aload_n 0, 1) := by decide +kernel
theorem dX7_leavers_65 : decode cX7_leavers 65 = .ok (.getfield 7, 3) := by decide +kernel
theorem dX7_leavers_68 : decode cX7_leavers 68 = .ok (.invokestatic 143, 3) := by decide +kernel
theorem dX7_leavers_71 : decode cX7_leavers 71 = .ok (.iload_n 1, 1) := by decide +kernel
theorem dX7_leavers_72 : decode cX7_leavers 72 = .ok (.ireturn, 1) := by decide +kernel
theorem dX7_count_0 : decode cX7_count 0 = .ok (.iload_n 1, 1) := by decide +kernel
theorem dX7_count_1 : decode cX7_count 1 = .ok (.iconst 0, 1) := by decide +kernel
theorem dX7_count_2 : decode cX7_count 2 = .ok (.bipush 8, 2) := by decide +kernel
theorem dX7_count_4 : decode cX7_count 4 = .ok (.invokestatic 25, 3) := by decide +kernel
theorem dX7_count_7 : decode cX7_count 7 = .ok (.ifCond .ne 7, 3) := by decide +kernel
theorem dX7_count_10 : decode cX7_count 10 = .ok (.sipush (-10001), 3) := by decide +kernel
theorem dX7_count_13 : decode cX7_count 13 = .ok (.ireturn, 1) := by decide +kernel
theorem dX7_count_14 : decode cX7_count 14 = .ok (.iconst 0, 1) := by decide +kernel
theorem dX7_count_15 : decode cX7_count 15 = .ok (.istore_n 2, 1) := by decide +kernel
theorem dX7_count_16 : decode cX7_count 16 = .ok (.iconst 0, 1) := by decide +kernel
theorem dX7_count_17 : decode cX7_count 17 = .ok (.istore_n 3, 1) := by decide +kernel
theorem dX7_count_18 : decode cX7_count 18 = .ok (.iconst 0, 1) := by decide +kernel
theorem dX7_count_19 : decode cX7_count 19 = .ok (.istore 4, 2) := by decide +kernel
theorem dX7_count_21 : decode cX7_count 21 = .ok (.iconst 0, 1) := by decide +kernel
theorem dX7_count_22 : decode cX7_count 22 = .ok (.istore 5, 2) := by decide +kernel
theorem dX7_count_24 : decode cX7_count 24 = .ok (.iload 5, 2) := by decide +kernel
theorem dX7_count_26 : decode cX7_count 26 = .ok (.bipush 8, 2) := by decide +kernel
theorem dX7_count_28 : decode cX7_count 28 = .ok (.if_icmp .ge 110, 3) := by decide +kernel
theorem dX7_count_31 : decode cX7_count 31 = .ok (.iload_n 2, 1) := by decide +kernel
theorem dX7_count_32 : decode cX7_count 32 = .ok (.aload_n 0, 1) := by decide +kernel
theorem dX7_count_33 : decode cX7_count 33 = .ok (.iload 5, 2) := by decide +kernel
theorem dX7_count_35 : decode cX7_count 35 = .ok (.invokevirtual 43, 3) := by decide +kernel
theorem dX7_count_38 : decode cX7_count 38 = .ok (.ifCond .eq 16, 3) := by decide +kernel
theorem dX7_count_41 : decode cX7_count 41 = .ok (.aload_n 0, 1) := by decide +kernel
theorem dX7_count_42 : decode cX7_count 42 = .ok (.iload 5, 2) := by decide +kernel
theorem dX7_count_44 : decode cX7_count 44 = .ok (.invokevirtual 106, 3) := by decide +kernel
theorem dX7_count_47 : decode cX7_count 47 = .ok (.ifCond .eq 7, 3) := by decide +kernel
theorem dX7_count_50 : decode cX7_count 50 = .ok (.iconst 1, 1) := by decide +kernel
theorem dX7_count_51 : decode cX7_count 51 = .ok (.goto 4, 3) := by decide +kernel
theorem dX7_count_54 : decode cX7_count 54 = .ok (.iconst 0, 1) := by decide +kernel
theorem dX7_count_55 : decode cX7_count 55 = .ok (.iadd, 1) := by decide +kernel
theorem dX7_count_56 : decode cX7_count 56 = .ok (.istore_n 2, 1) := by decide +kernel
theorem dX7_count_57 : decode cX7_count 57 = .ok (.iload_n 3, 1) := by decide +kernel
theorem dX7_count_58 : decode cX7_count 58 = .ok (.aload_n 0, 1) := by decide +kernel
theorem dX7_count_59 : decode cX7_count 59 = .ok (.iload 5, 2) := by decide +kernel
theorem dX7_count_61 : decode cX7_count 61 = .ok (.invokevirtual 43, 3) := by decide +kernel
theorem dX7_count_64 : decode cX7_count 64 = .ok (.ifCond .eq 12, 3) := by decide +kernel
theorem dX7_count_67 : decode cX7_count 67 = .ok (.aload_n 0, 1) := by decide +kernel
theorem dX7_count_68 : decode cX7_count 68 = .ok (.iload 5, 2) := by decide +kernel
theorem dX7_count_70 : decode cX7_count 70 = .ok (.invokevirtual 103, 3) := by decide +kernel
theorem dX7_count_73 : decode cX7_count 73 = .ok (.goto 4, 3) := by decide +kernel
theorem dX7_count_76 : decode cX7_count 76 = .ok (.iconst 0, 1) := by decide +kernel
theorem dX7_count_77 : decode cX7_count 77 = .ok (.iadd, 1) := by decide +kernel
theorem dX7_count_78 : decode cX7_count 78 = .ok (.istore_n 3, 1) := by decide +kernel
theorem dX7_count_79 : decode cX7_count 79 = .ok (.iconst 0, 1) := by decide +kernel
theorem dX7_count_80 : decode cX7_count 80 = .ok (.istore 6, 2) := by decide +kernel
theorem dX7_count_82 : decode cX7_count 82 = .ok (.aload_n 0, 1) := by decide +kernel
theorem dX7_count_83 : decode cX7_count 83 = .ok (.iload 5, 2) := by decide +kernel
theorem dX7_count_85 : decode cX7_count 85 = .ok (.invokevirtual 43, 3) := by decide +kernel
theorem dX7_count_88 : decode cX7_count 88 = .ok (.ifCond .eq 44, 3) := by decide +kernel
theorem dX7_count_91 : decode cX7_count 91 = .ok (.iload 6, 2) := by decide +kernel
theorem dX7_count_93 : decode cX7_count 93 = .ok (.aload_n 0, 1) := by decide +kernel
theorem dX7_count_94 : decode cX7_count 94 = .ok (.iload 5, 2) := by decide +kernel
theorem dX7_count_96 : decode cX7_count 96 = .ok (.invokevirtual 47, 3) := by decide +kernel
theorem dX7_count_99 : decode cX7_count 99 = .ok (.if_icmp .ge 33, 3) := by decide +kernel
theorem dX7_count_102 : decode cX7_count 102 = .ok (.iload 4, 2) := by decide +kernel
theorem dX7_count_104 : decode cX7_count 104 = .ok (.aload_n 0, 1) := by decide +kernel
theorem dX7_count_105 : decode cX7_count 105 = .ok (.iload 5, 2) := by decide +kernel
theorem dX7_count_107 : decode cX7_count 107 = .ok (.bipush 20, 2) := by decide +kernel
theorem dX7_count_109 : decode cX7_count 109 = .ok (.iload 6, 2) := by decide +kernel
theorem dX7_count_111 : decode cX7_count 111 = .ok (.iadd, 1) := by decide +kernel
theorem dX7_count_112 : decode cX7_count 112 = .ok (.invokevirtual 29, 3) := by decide +kernel
theorem dX7_count_115 : decode cX7_count 115 = .ok (.ifCond .le 7, 3) := by decide +kernel
theorem dX7_count_118 : decode cX7_count 118 = .ok (.iconst 1, 1) := by decide +kernel
theorem dX7_count_119 : decode cX7_count 119 = .ok (.goto 4, 3) := by decide +kernel
theorem dX7_count_122 : decode cX7_count 122 = .ok (.iconst 0, 1) := by decide +kernel
theorem dX7_count_123 : decode cX7_count 123 = .ok (.iadd, 1) := by decide +kernel
theorem dX7_count_124 : decode cX7_count 124 = .ok (.istore 4, 2) := by decide +kernel
theorem dX7_count_126 : decode cX7_count 126 = .ok (.iinc 6 1, 3) := by decide +kernel
theorem dX7_count_129 : decode cX7_count 129 = .ok (.goto (-47), 3) := by decide +kernel
theorem dX7_count_132 : decode cX7_count 132 = .ok (.iinc 5 1, 3) := by decide +kernel
theorem dX7_count_135 : decode cX7_count 135 = .ok (.goto (-111), 3) := by decide +kernel
theorem dX7_count_138 : decode cX7_count 138 = .ok (.iconst 0, 1) := by decide +kernel
theorem dX7_count_139 : decode cX7_count 139 = .ok (.istore 5, 2) := by decide +kernel
theorem dX7_count_141 : decode cX7_count 141 = .ok (.iconst 0, 1) := by decide +kernel
theorem dX7_count_142 : decode cX7_count 142 = .ok (.istore 6, 2) := by decide +kernel
theorem dX7_count_144 : decode cX7_count 144 = .ok (.iconst 0, 1) := by decide +kernel
theorem dX7_count_145 : decode cX7_count 145 = .ok (.istore 7, 2) := by decide +kernel
theorem dX7_count_147 : decode cX7_count 147 = .ok (.iload 7, 2) := by decide +kernel
theorem dX7_count_149 : decode cX7_count 149 = .ok (.bipush 12, 2) := by decide +kernel
theorem dX7_count_151 : decode cX7_count 151 = .ok (.if_icmp .ge 94, 3) := by decide +kernel
theorem dX7_count_154 : decode cX7_count 154 = .ok (.iload 5, 2) := by decide +kernel
theorem dX7_count_156 : decode cX7_count 156 = .ok (.aload_n 0, 1) := by decide +kernel
theorem dX7_count_157 : decode cX7_count 157 = .ok (.iload 7, 2) := by decide +kernel
theorem dX7_count_159 : decode cX7_count 159 = .ok (.invokevirtual 67, 3) := by decide +kernel
theorem dX7_count_162 : decode cX7_count 162 = .ok (.ifCond .eq 21, 3) := by decide +kernel
theorem dX7_count_165 : decode cX7_count 165 = .ok (.aload_n 0, 1) := by decide +kernel
theorem dX7_count_166 : decode cX7_count 166 = .ok (.iload 7, 2) := by decide +kernel
theorem dX7_count_168 : decode cX7_count 168 = .ok (.invokevirtual 51, 3) := by decide +kernel
theorem dX7_count_171 : decode cX7_count 171 = .ok (.ifCond .eq 12, 3) := by decide +kernel
theorem dX7_count_174 : decode cX7_count 174 = .ok (.aload_n 0, 1) := by decide +kernel
theorem dX7_count_175 : decode cX7_count 175 = .ok (.iload 7, 2) := by decide +kernel
theorem dX7_count_177 : decode cX7_count 177 = .ok (.invokevirtual 70, 3) := by decide +kernel
theorem dX7_count_180 : decode cX7_count 180 = .ok (.goto 4, 3) := by decide +kernel
theorem dX7_count_183 : decode cX7_count 183 = .ok (.iconst 0, 1) := by decide +kernel
theorem dX7_count_184 : decode cX7_count 184 = .ok (.iadd, 1) := by decide +kernel
theorem dX7_count_185 : decode cX7_count 185 = .ok (.istore 5, 2) := by decide +kernel
theorem dX7_count_187 : decode cX7_count 187 = .ok (.iconst 0, 1) := by decide +kernel
theorem dX7_count_188 : decode cX7_count 188 = .ok (.istore 8, 2) := by decide +kernel
theorem dX7_count_190 : decode cX7_count 190 = .ok (.iload 8, 2) := by decide +kernel
theorem dX7_count_192 : decode cX7_count 192 = .ok (.bipush 12, 2) := by decide +kernel
theorem dX7_count_194 : decode cX7_count 194 = .ok (.if_icmp .ge 45, 3) := by decide +kernel
theorem dX7_count_197 : decode cX7_count 197 = .ok (.iload 6, 2) := by decide +kernel
theorem dX7_count_199 : decode cX7_count 199 = .ok (.aload_n 0, 1) := by decide +kernel
theorem dX7_count_200 : decode cX7_count 200 = .ok (.getfield 7, 3) := by decide +kernel
theorem dX7_count_203 : decode cX7_count 203 = .ok (.iload 7, 2) := by decide +kernel
theorem dX7_count_205 : decode cX7_count 205 = .ok (.iload 8, 2) := by decide +kernel
theorem dX7_count_207 : decode cX7_count 207 = .ok (.invokestatic 40, 3) := by decide +kernel
theorem dX7_count_210 : decode cX7_count 210 = .ok (.iaload, 1) := by decide +kernel
theorem dX7_count_211 : decode cX7_count 211 = .ok (.ifCond .le 18, 3) := by decide +kernel
theorem dX7_count_214 : decode cX7_count 214 = .ok (.aload_n 0, 1) := by decide +kernel
theorem dX7_count_215 : decode cX7_count 215 = .ok (.getfield 7, 3) := by decide +kernel
theorem dX7_count_218 : decode cX7_count 218 = .ok (.iload 7, 2) := by decide +kernel
theorem dX7_count_220 : decode cX7_count 220 = .ok (.iload 8, 2) := by decide +kernel
theorem dX7_count_222 : decode cX7_count 222 = .ok (.invokestatic 40, 3) := by decide +kernel
theorem dX7_count_225 : decode cX7_count 225 = .ok (.iaload, 1) := by decide +kernel
theorem dX7_count_226 : decode cX7_count 226 = .ok (.goto 4, 3) := by decide +kernel
theorem dX7_count_229 : decode cX7_count 229 = .ok (.iconst 0, 1) := by decide +kernel
theorem dX7_count_230 : decode cX7_count 230 = .ok (.iadd, 1) := by decide +kernel
theorem dX7_count_231 : decode cX7_count 231 = .ok (.istore 6, 2) := by decide +kernel
theorem dX7_count_233 : decode cX7_count 233 = .ok (.iinc 8 1, 3) := by decide +kernel
theorem dX7_count_236 : decode cX7_count 236 = .ok (.goto (-46), 3) := by decide +kernel
theorem dX7_count_239 : decode cX7_count 239 = .ok (.iinc 7 1, 3) := by decide +kernel
theorem dX7_count_242 : decode cX7_count 242 = .ok (.goto (-95), 3) := by decide +kernel
theorem dX7_count_245 : decode cX7_count 245 = .ok (.iload_n 1, 1) := by decide +kernel
theorem dX7_count_246 : decode cX7_count 246 = .ok (.ifCond .ne 13, 3) := by decide +kernel
theorem dX7_count_249 : decode cX7_count 249 = .ok (.aload_n 0, 1) := by decide +kernel
theorem dX7_count_250 : decode cX7_count 250 = .ok (.invokevirtual 131, 3) := by decide +kernel
theorem dX7_count_253 : decode cX7_count 253 = .ok (.invokestatic 134, 3) := by decide +kernel
theorem dX7_count_256 : decode cX7_count 256 = .ok (.goto 85, 3) := by decide +kernel
theorem dX7_count_259 : decode cX7_count 259 = .ok (.iload_n 1, 1) := by decide +kernel
theorem dX7_count_260 : decode cX7_count 260 = .ok (.iconst 1, 1) := by decide +kernel
theorem dX7_count_261 : decode cX7_count 261 = .ok (.if_icmp .ne 10, 3) := by decide +kernel
theorem dX7_count_264 : decode cX7_count 264 = .ok (.aload_n 0, 1) := by decide +kernel
theorem dX7_count_265 : decode cX7_count 265 = .ok (.invokevirtual 99, 3) := by decide +kernel
theorem dX7_count_268 : decode cX7_count 268 = .ok (.goto 73, 3) := by decide +kernel
theorem dX7_count_271 : decode cX7_count 271 = .ok (.iload_n 1, 1) := by decide +kernel
theorem dX7_count_272 : decode cX7_count 272 = .ok (.iconst 2, 1) := by decide +kernel
theorem dX7_count_273 : decode cX7_count 273 = .ok (.if_icmp .ne 7, 3) := by decide +kernel
theorem dX7_count_276 : decode cX7_count 276 = .ok (.iload_n 2, 1) := by decide +kernel
theorem dX7_count_277 : decode cX7_count 277 = .ok (.goto 64, 3) := by decide +kernel
theorem dX7_count_280 : decode cX7_count 280 = .ok (.iload_n 1, 1) := by decide +kernel
theorem dX7_count_281 : decode cX7_count 281 = .ok (.iconst 3, 1) := by decide +kernel
theorem dX7_count_282 : decode cX7_count 282 = .ok (.if_icmp .ne 7, 3) := by decide +kernel
theorem dX7_count_285 : decode cX7_count 285 = .ok (.iload_n 3, 1) := by decide +kernel
theorem dX7_count_286 : decode cX7_count 286 = .ok (.goto 55, 3) := by decide +kernel
theorem dX7_count_289 : decode cX7_count 289 = .ok (.iload_n 1, 1) := by decide +kernel
theorem dX7_count_290 : decode cX7_count 290 = .ok (.iconst 4, 1) := by decide +kernel
theorem dX7_count_291 : decode cX7_count 291 = .ok (.if_icmp .ne 8, 3) := by decide +kernel
theorem dX7_count_294 : decode cX7_count 294 = .ok (.iload 4, 2) := by decide +kernel
theorem dX7_count_296 : decode cX7_count 296 = .ok (.goto 45, 3) := by decide +kernel
theorem dX7_count_299 : decode cX7_count 299 = .ok (.iload_n 1, 1) := by decide +kernel
theorem dX7_count_300 : decode cX7_count 300 = .ok (.iconst 5, 1) := by decide +kernel
theorem dX7_count_301 : decode cX7_count 301 = .ok (.if_icmp .ne 8, 3) := by decide +kernel
theorem dX7_count_304 : decode cX7_count 304 = .ok (.iload 5, 2) := by decide +kernel
theorem dX7_count_306 : decode cX7_count 306 = .ok (.goto 35, 3) := by decide +kernel
theorem dX7_count_309 : decode cX7_count 309 = .ok (.iload_n 1, 1) := by decide +kernel
theorem dX7_count_310 : decode cX7_count 310 = .ok (.bipush 6, 2) := by decide +kernel
theorem dX7_count_312 : decode cX7_count 312 = .ok (.if_icmp .ne 14, 3) := by decide +kernel
theorem dX7_count_315 : decode cX7_count 315 = .ok (.aload_n 0, 1) := by decide +kernel
theorem dX7_count_316 : decode cX7_count 316 = .ok (.getfield 7, 3) := by decide +kernel
theorem dX7_count_319 : decode cX7_count 319 = .ok (.sipush 432, 3) := by decide +kernel
theorem dX7_count_322 : decode cX7_count 322 = .ok (.iaload, 1) := by decide +kernel
theorem dX7_count_323 : decode cX7_count 323 = .ok (.goto 18, 3) := by decide +kernel
theorem dX7_count_326 : decode cX7_count 326 = .ok (.iload_n 1, 1) := by decide +kernel
theorem dX7_count_327 : decode cX7_count 327 = .ok (.bipush 7, 2) := by decide +kernel
theorem dX7_count_329 : decode cX7_count 329 = .ok (.if_icmp .ne 10, 3) := by decide +kernel
theorem dX7_count_332 : decode cX7_count 332 = .ok (.aload_n 0, 1) := by decide +kernel
theorem dX7_count_333 : decode cX7_count 333 = .ok (.getfield 36, 3) := by decide +kernel
theorem dX7_count_336 : decode cX7_count 336 = .ok (.goto 5, 3) := by decide +kernel
theorem dX7_count_339 : decode cX7_count 339 = .ok (.iload 6, 2) := by decide +kernel
theorem dX7_count_341 : decode cX7_count 341 = .ok (.ireturn, 1) := by decide +kernel
theorem dL_law_0 : decode cL_law 0 = .ok (.new 7, 3) := by decide +kernel
theorem dL_law_3 : decode cL_law 3 = .ok (.dup, 1) := by decide +kernel
theorem dL_law_4 : decode cL_law 4 = .ok (.invokespecial 9, 3) := by decide +kernel
theorem dL_law_7 : decode cL_law 7 = .ok (.astore_n 1, 1) := by decide +kernel
theorem dL_law_8 : decode cL_law 8 = .ok (.new 10, 3) := by decide +kernel
theorem dL_law_11 : decode cL_law 11 = .ok (.dup, 1) := by decide +kernel
theorem dL_law_12 : decode cL_law 12 = .ok (.invokespecial 12, 3) := by decide +kernel
theorem dL_law_15 : decode cL_law 15 = .ok (.astore_n 2, 1) := by decide +kernel
theorem dL_law_16 : decode cL_law 16 = .ok (.iconst 0, 1) := by decide +kernel
theorem dL_law_17 : decode cL_law 17 = .ok (.istore_n 3, 1) := by decide +kernel
theorem dL_law_18 : decode cL_law 18 = .ok (.iload_n 3, 1) := by decide +kernel
theorem dL_law_19 : decode cL_law 19 = .ok (.aload_n 0, 1) := by decide +kernel
theorem dL_law_20 : decode cL_law 20 = .ok (.arraylength, 1) := by decide +kernel
theorem dL_law_21 : decode cL_law 21 = .ok (.iconst 4, 1) := by decide +kernel
theorem dL_law_22 : decode cL_law 22 = .ok (.isub, 1) := by decide +kernel
theorem dL_law_23 : decode cL_law 23 = .ok (.if_icmp .gt 819, 3) := by decide +kernel
theorem dL_law_26 : decode cL_law 26 = .ok (.aload_n 0, 1) := by decide +kernel
theorem dL_law_27 : decode cL_law 27 = .ok (.iload_n 3, 1) := by decide +kernel
theorem dL_law_28 : decode cL_law 28 = .ok (.iaload, 1) := by decide +kernel
theorem dL_law_29 : decode cL_law 29 = .ok (.bipush 31, 2) := by decide +kernel
theorem dL_law_31 : decode cL_law 31 = .ok (.iand, 1) := by decide +kernel
theorem dL_law_32 : decode cL_law 32 = .ok (.tableswitch 804 0 23 #[112, 135, 158, 181, 214, 257, 290, 323, 346, 379, 402, 435, 478, 511, 554, 597, 640, 673, 696, 719, 732, 745, 768, 781], 112) := by decide +kernel
theorem dL_law_144 : decode cL_law 144 = .ok (.aload_n 1, 1) := by decide +kernel
theorem dL_law_145 : decode cL_law 145 = .ok (.aload_n 0, 1) := by decide +kernel
theorem dL_law_146 : decode cL_law 146 = .ok (.iload_n 3, 1) := by decide +kernel
theorem dL_law_147 : decode cL_law 147 = .ok (.iconst 1, 1) := by decide +kernel
theorem dL_law_148 : decode cL_law 148 = .ok (.iadd, 1) := by decide +kernel
theorem dL_law_149 : decode cL_law 149 = .ok (.iaload, 1) := by decide +kernel
theorem dL_law_150 : decode cL_law 150 = .ok (.invokevirtual 13, 3) := by decide +kernel
theorem dL_law_153 : decode cL_law 153 = .ok (.aload_n 2, 1) := by decide +kernel
theorem dL_law_154 : decode cL_law 154 = .ok (.aload_n 0, 1) := by decide +kernel
theorem dL_law_155 : decode cL_law 155 = .ok (.iload_n 3, 1) := by decide +kernel
theorem dL_law_156 : decode cL_law 156 = .ok (.iconst 1, 1) := by decide +kernel
theorem dL_law_157 : decode cL_law 157 = .ok (.iadd, 1) := by decide +kernel
theorem dL_law_158 : decode cL_law 158 = .ok (.iaload, 1) := by decide +kernel
theorem dL_law_159 : decode cL_law 159 = .ok (.invokevirtual 17, 3) := by decide +kernel
theorem dL_law_162 : decode cL_law 162 = .ok (.if_icmp .eq 674, 3) := by decide +kernel
theorem dL_law_165 : decode cL_law 165 = .ok (.iconst 0, 1) := by decide +kernel
theorem dL_law_166 : decode cL_law 166 = .ok (.ireturn, 1) := by decide +kernel
theorem dL_law_167 : decode cL_law 167 = .ok (.aload_n 1, 1) := by decide +kernel
theorem dL_law_168 : decode cL_law 168 = .ok (.aload_n 0, 1) := by decide +kernel
theorem dL_law_169 : decode cL_law 169 = .ok (.iload_n 3, 1) := by decide +kernel
theorem dL_law_170 : decode cL_law 170 = .ok (.iconst 1, 1) := by decide +kernel
theorem dL_law_171 : decode cL_law 171 = .ok (.iadd, 1) := by decide +kernel
theorem dL_law_172 : decode cL_law 172 = .ok (.iaload, 1) := by decide +kernel
theorem dL_law_173 : decode cL_law 173 = .ok (.invokevirtual 18, 3) := by decide +kernel
theorem dL_law_176 : decode cL_law 176 = .ok (.aload_n 2, 1) := by decide +kernel
theorem dL_law_177 : decode cL_law 177 = .ok (.aload_n 0, 1) := by decide +kernel
theorem dL_law_178 : decode cL_law 178 = .ok (.iload_n 3, 1) := by decide +kernel
theorem dL_law_179 : decode cL_law 179 = .ok (.iconst 1, 1) := by decide +kernel
theorem dL_law_180 : decode cL_law 180 = .ok (.iadd, 1) := by decide +kernel
theorem dL_law_181 : decode cL_law 181 = .ok (.iaload, 1) := by decide +kernel
theorem dL_law_182 : decode cL_law 182 = .ok (.invokevirtual 21, 3) := by decide +kernel
theorem dL_law_185 : decode cL_law 185 = .ok (.if_icmp .eq 651, 3) := by decide +kernel
theorem dL_law_188 : decode cL_law 188 = .ok (.iconst 0, 1) := by decide +kernel
theorem dL_law_189 : decode cL_law 189 = .ok (.ireturn, 1) := by decide +kernel
theorem dL_law_190 : decode cL_law 190 = .ok (.aload_n 1, 1) := by decide +kernel
theorem dL_law_191 : decode cL_law 191 = .ok (.aload_n 0, 1) := by decide +kernel
theorem dL_law_192 : decode cL_law 192 = .ok (.iload_n 3, 1) := by decide +kernel
theorem dL_law_193 : decode cL_law 193 = .ok (.iconst 1, 1) := by decide +kernel
theorem dL_law_194 : decode cL_law 194 = .ok (.iadd, 1) := by decide +kernel
theorem dL_law_195 : decode cL_law 195 = .ok (.iaload, 1) := by decide +kernel
theorem dL_law_196 : decode cL_law 196 = .ok (.invokevirtual 22, 3) := by decide +kernel
theorem dL_law_199 : decode cL_law 199 = .ok (.aload_n 2, 1) := by decide +kernel
theorem dL_law_200 : decode cL_law 200 = .ok (.aload_n 0, 1) := by decide +kernel
theorem dL_law_201 : decode cL_law 201 = .ok (.iload_n 3, 1) := by decide +kernel
theorem dL_law_202 : decode cL_law 202 = .ok (.iconst 1, 1) := by decide +kernel
theorem dL_law_203 : decode cL_law 203 = .ok (.iadd, 1) := by decide +kernel
theorem dL_law_204 : decode cL_law 204 = .ok (.iaload, 1) := by decide +kernel
theorem dL_law_205 : decode cL_law 205 = .ok (.invokevirtual 25, 3) := by decide +kernel
theorem dL_law_208 : decode cL_law 208 = .ok (.if_icmp .eq 628, 3) := by decide +kernel
theorem dL_law_211 : decode cL_law 211 = .ok (.iconst 0, 1) := by decide +kernel
theorem dL_law_212 : decode cL_law 212 = .ok (.ireturn, 1) := by decide +kernel
theorem dL_law_213 : decode cL_law 213 = .ok (.aload_n 1, 1) := by decide +kernel
theorem dL_law_214 : decode cL_law 214 = .ok (.aload_n 0, 1) := by decide +kernel
theorem dL_law_215 : decode cL_law 215 = .ok (.iload_n 3, 1) := by decide +kernel
theorem dL_law_216 : decode cL_law 216 = .ok (.iconst 1, 1) := by decide +kernel
theorem dL_law_217 : decode cL_law 217 = .ok (.iadd, 1) := by decide +kernel
theorem dL_law_218 : decode cL_law 218 = .ok (.iaload, 1) := by decide +kernel
theorem dL_law_219 : decode cL_law 219 = .ok (.aload_n 0, 1) := by decide +kernel
theorem dL_law_220 : decode cL_law 220 = .ok (.iload_n 3, 1) := by decide +kernel
theorem dL_law_221 : decode cL_law 221 = .ok (.iconst 2, 1) := by decide +kernel
theorem dL_law_222 : decode cL_law 222 = .ok (.iadd, 1) := by decide +kernel
theorem dL_law_223 : decode cL_law 223 = .ok (.iaload, 1) := by decide +kernel
theorem dL_law_224 : decode cL_law 224 = .ok (.invokevirtual 26, 3) := by decide +kernel
theorem dL_law_227 : decode cL_law 227 = .ok (.aload_n 2, 1) := by decide +kernel
theorem dL_law_228 : decode cL_law 228 = .ok (.aload_n 0, 1) := by decide +kernel
theorem dL_law_229 : decode cL_law 229 = .ok (.iload_n 3, 1) := by decide +kernel
theorem dL_law_230 : decode cL_law 230 = .ok (.iconst 1, 1) := by decide +kernel
theorem dL_law_231 : decode cL_law 231 = .ok (.iadd, 1) := by decide +kernel
theorem dL_law_232 : decode cL_law 232 = .ok (.iaload, 1) := by decide +kernel
theorem dL_law_233 : decode cL_law 233 = .ok (.aload_n 0, 1) := by decide +kernel
theorem dL_law_234 : decode cL_law 234 = .ok (.iload_n 3, 1) := by decide +kernel
theorem dL_law_235 : decode cL_law 235 = .ok (.iconst 2, 1) := by decide +kernel
theorem dL_law_236 : decode cL_law 236 = .ok (.iadd, 1) := by decide +kernel
theorem dL_law_237 : decode cL_law 237 = .ok (.iaload, 1) := by decide +kernel
theorem dL_law_238 : decode cL_law 238 = .ok (.invokevirtual 30, 3) := by decide +kernel
theorem dL_law_241 : decode cL_law 241 = .ok (.if_icmp .eq 595, 3) := by decide +kernel
theorem dL_law_244 : decode cL_law 244 = .ok (.iconst 0, 1) := by decide +kernel
theorem dL_law_245 : decode cL_law 245 = .ok (.ireturn, 1) := by decide +kernel
theorem dL_law_246 : decode cL_law 246 = .ok (.aload_n 1, 1) := by decide +kernel
theorem dL_law_247 : decode cL_law 247 = .ok (.aload_n 0, 1) := by decide +kernel
theorem dL_law_248 : decode cL_law 248 = .ok (.iload_n 3, 1) := by decide +kernel
theorem dL_law_249 : decode cL_law 249 = .ok (.iconst 1, 1) := by decide +kernel
theorem dL_law_250 : decode cL_law 250 = .ok (.iadd, 1) := by decide +kernel
theorem dL_law_251 : decode cL_law 251 = .ok (.iaload, 1) := by decide +kernel
theorem dL_law_252 : decode cL_law 252 = .ok (.aload_n 0, 1) := by decide +kernel
theorem dL_law_253 : decode cL_law 253 = .ok (.iload_n 3, 1) := by decide +kernel
theorem dL_law_254 : decode cL_law 254 = .ok (.iconst 2, 1) := by decide +kernel
theorem dL_law_255 : decode cL_law 255 = .ok (.iadd, 1) := by decide +kernel
theorem dL_law_256 : decode cL_law 256 = .ok (.iaload, 1) := by decide +kernel
theorem dL_law_257 : decode cL_law 257 = .ok (.aload_n 0, 1) := by decide +kernel
theorem dL_law_258 : decode cL_law 258 = .ok (.iload_n 3, 1) := by decide +kernel
theorem dL_law_259 : decode cL_law 259 = .ok (.iconst 3, 1) := by decide +kernel
theorem dL_law_260 : decode cL_law 260 = .ok (.iadd, 1) := by decide +kernel
theorem dL_law_261 : decode cL_law 261 = .ok (.iaload, 1) := by decide +kernel
theorem dL_law_262 : decode cL_law 262 = .ok (.invokevirtual 31, 3) := by decide +kernel
theorem dL_law_265 : decode cL_law 265 = .ok (.aload_n 2, 1) := by decide +kernel
theorem dL_law_266 : decode cL_law 266 = .ok (.aload_n 0, 1) := by decide +kernel
theorem dL_law_267 : decode cL_law 267 = .ok (.iload_n 3, 1) := by decide +kernel
theorem dL_law_268 : decode cL_law 268 = .ok (.iconst 1, 1) := by decide +kernel
theorem dL_law_269 : decode cL_law 269 = .ok (.iadd, 1) := by decide +kernel
theorem dL_law_270 : decode cL_law 270 = .ok (.iaload, 1) := by decide +kernel
theorem dL_law_271 : decode cL_law 271 = .ok (.aload_n 0, 1) := by decide +kernel
theorem dL_law_272 : decode cL_law 272 = .ok (.iload_n 3, 1) := by decide +kernel
theorem dL_law_273 : decode cL_law 273 = .ok (.iconst 2, 1) := by decide +kernel
theorem dL_law_274 : decode cL_law 274 = .ok (.iadd, 1) := by decide +kernel
theorem dL_law_275 : decode cL_law 275 = .ok (.iaload, 1) := by decide +kernel
theorem dL_law_276 : decode cL_law 276 = .ok (.aload_n 0, 1) := by decide +kernel
theorem dL_law_277 : decode cL_law 277 = .ok (.iload_n 3, 1) := by decide +kernel
theorem dL_law_278 : decode cL_law 278 = .ok (.iconst 3, 1) := by decide +kernel
theorem dL_law_279 : decode cL_law 279 = .ok (.iadd, 1) := by decide +kernel
theorem dL_law_280 : decode cL_law 280 = .ok (.iaload, 1) := by decide +kernel
theorem dL_law_281 : decode cL_law 281 = .ok (.invokevirtual 35, 3) := by decide +kernel
theorem dL_law_284 : decode cL_law 284 = .ok (.if_icmp .eq 552, 3) := by decide +kernel
theorem dL_law_287 : decode cL_law 287 = .ok (.iconst 0, 1) := by decide +kernel
theorem dL_law_288 : decode cL_law 288 = .ok (.ireturn, 1) := by decide +kernel
theorem dL_law_289 : decode cL_law 289 = .ok (.aload_n 1, 1) := by decide +kernel
theorem dL_law_290 : decode cL_law 290 = .ok (.aload_n 0, 1) := by decide +kernel
theorem dL_law_291 : decode cL_law 291 = .ok (.iload_n 3, 1) := by decide +kernel
theorem dL_law_292 : decode cL_law 292 = .ok (.iconst 1, 1) := by decide +kernel
theorem dL_law_293 : decode cL_law 293 = .ok (.iadd, 1) := by decide +kernel
theorem dL_law_294 : decode cL_law 294 = .ok (.iaload, 1) := by decide +kernel
theorem dL_law_295 : decode cL_law 295 = .ok (.aload_n 0, 1) := by decide +kernel
theorem dL_law_296 : decode cL_law 296 = .ok (.iload_n 3, 1) := by decide +kernel
theorem dL_law_297 : decode cL_law 297 = .ok (.iconst 2, 1) := by decide +kernel
theorem dL_law_298 : decode cL_law 298 = .ok (.iadd, 1) := by decide +kernel
theorem dL_law_299 : decode cL_law 299 = .ok (.iaload, 1) := by decide +kernel
theorem dL_law_300 : decode cL_law 300 = .ok (.invokevirtual 36, 3) := by decide +kernel
theorem dL_law_303 : decode cL_law 303 = .ok (.aload_n 2, 1) := by decide +kernel
theorem dL_law_304 : decode cL_law 304 = .ok (.aload_n 0, 1) := by decide +kernel
theorem dL_law_305 : decode cL_law 305 = .ok (.iload_n 3, 1) := by decide +kernel
theorem dL_law_306 : decode cL_law 306 = .ok (.iconst 1, 1) := by decide +kernel
theorem dL_law_307 : decode cL_law 307 = .ok (.iadd, 1) := by decide +kernel
theorem dL_law_308 : decode cL_law 308 = .ok (.iaload, 1) := by decide +kernel
theorem dL_law_309 : decode cL_law 309 = .ok (.aload_n 0, 1) := by decide +kernel
theorem dL_law_310 : decode cL_law 310 = .ok (.iload_n 3, 1) := by decide +kernel
theorem dL_law_311 : decode cL_law 311 = .ok (.iconst 2, 1) := by decide +kernel
theorem dL_law_312 : decode cL_law 312 = .ok (.iadd, 1) := by decide +kernel
theorem dL_law_313 : decode cL_law 313 = .ok (.iaload, 1) := by decide +kernel
theorem dL_law_314 : decode cL_law 314 = .ok (.invokevirtual 39, 3) := by decide +kernel
theorem dL_law_317 : decode cL_law 317 = .ok (.if_icmp .eq 519, 3) := by decide +kernel
theorem dL_law_320 : decode cL_law 320 = .ok (.iconst 0, 1) := by decide +kernel
theorem dL_law_321 : decode cL_law 321 = .ok (.ireturn, 1) := by decide +kernel
theorem dL_law_322 : decode cL_law 322 = .ok (.aload_n 1, 1) := by decide +kernel
theorem dL_law_323 : decode cL_law 323 = .ok (.aload_n 0, 1) := by decide +kernel
theorem dL_law_324 : decode cL_law 324 = .ok (.iload_n 3, 1) := by decide +kernel
theorem dL_law_325 : decode cL_law 325 = .ok (.iconst 1, 1) := by decide +kernel
theorem dL_law_326 : decode cL_law 326 = .ok (.iadd, 1) := by decide +kernel
theorem dL_law_327 : decode cL_law 327 = .ok (.iaload, 1) := by decide +kernel
theorem dL_law_328 : decode cL_law 328 = .ok (.aload_n 0, 1) := by decide +kernel
theorem dL_law_329 : decode cL_law 329 = .ok (.iload_n 3, 1) := by decide +kernel
theorem dL_law_330 : decode cL_law 330 = .ok (.iconst 2, 1) := by decide +kernel
theorem dL_law_331 : decode cL_law 331 = .ok (.iadd, 1) := by decide +kernel
theorem dL_law_332 : decode cL_law 332 = .ok (.iaload, 1) := by decide +kernel
theorem dL_law_333 : decode cL_law 333 = .ok (.invokevirtual 40, 3) := by decide +kernel
theorem dL_law_336 : decode cL_law 336 = .ok (.aload_n 2, 1) := by decide +kernel
theorem dL_law_337 : decode cL_law 337 = .ok (.aload_n 0, 1) := by decide +kernel
theorem dL_law_338 : decode cL_law 338 = .ok (.iload_n 3, 1) := by decide +kernel
theorem dL_law_339 : decode cL_law 339 = .ok (.iconst 1, 1) := by decide +kernel
theorem dL_law_340 : decode cL_law 340 = .ok (.iadd, 1) := by decide +kernel
theorem dL_law_341 : decode cL_law 341 = .ok (.iaload, 1) := by decide +kernel
theorem dL_law_342 : decode cL_law 342 = .ok (.aload_n 0, 1) := by decide +kernel
theorem dL_law_343 : decode cL_law 343 = .ok (.iload_n 3, 1) := by decide +kernel
theorem dL_law_344 : decode cL_law 344 = .ok (.iconst 2, 1) := by decide +kernel
theorem dL_law_345 : decode cL_law 345 = .ok (.iadd, 1) := by decide +kernel
theorem dL_law_346 : decode cL_law 346 = .ok (.iaload, 1) := by decide +kernel
theorem dL_law_347 : decode cL_law 347 = .ok (.invokevirtual 43, 3) := by decide +kernel
theorem dL_law_350 : decode cL_law 350 = .ok (.if_icmp .eq 486, 3) := by decide +kernel
theorem dL_law_353 : decode cL_law 353 = .ok (.iconst 0, 1) := by decide +kernel
theorem dL_law_354 : decode cL_law 354 = .ok (.ireturn, 1) := by decide +kernel
theorem dL_law_355 : decode cL_law 355 = .ok (.aload_n 1, 1) := by decide +kernel
theorem dL_law_356 : decode cL_law 356 = .ok (.aload_n 0, 1) := by decide +kernel
theorem dL_law_357 : decode cL_law 357 = .ok (.iload_n 3, 1) := by decide +kernel
theorem dL_law_358 : decode cL_law 358 = .ok (.iconst 1, 1) := by decide +kernel
theorem dL_law_359 : decode cL_law 359 = .ok (.iadd, 1) := by decide +kernel
theorem dL_law_360 : decode cL_law 360 = .ok (.iaload, 1) := by decide +kernel
theorem dL_law_361 : decode cL_law 361 = .ok (.invokevirtual 44, 3) := by decide +kernel
theorem dL_law_364 : decode cL_law 364 = .ok (.aload_n 2, 1) := by decide +kernel
theorem dL_law_365 : decode cL_law 365 = .ok (.aload_n 0, 1) := by decide +kernel
theorem dL_law_366 : decode cL_law 366 = .ok (.iload_n 3, 1) := by decide +kernel
theorem dL_law_367 : decode cL_law 367 = .ok (.iconst 1, 1) := by decide +kernel
theorem dL_law_368 : decode cL_law 368 = .ok (.iadd, 1) := by decide +kernel
theorem dL_law_369 : decode cL_law 369 = .ok (.iaload, 1) := by decide +kernel
theorem dL_law_370 : decode cL_law 370 = .ok (.invokevirtual 47, 3) := by decide +kernel
theorem dL_law_373 : decode cL_law 373 = .ok (.if_icmp .eq 463, 3) := by decide +kernel
theorem dL_law_376 : decode cL_law 376 = .ok (.iconst 0, 1) := by decide +kernel
theorem dL_law_377 : decode cL_law 377 = .ok (.ireturn, 1) := by decide +kernel
theorem dL_law_378 : decode cL_law 378 = .ok (.aload_n 1, 1) := by decide +kernel
theorem dL_law_379 : decode cL_law 379 = .ok (.aload_n 0, 1) := by decide +kernel
theorem dL_law_380 : decode cL_law 380 = .ok (.iload_n 3, 1) := by decide +kernel
theorem dL_law_381 : decode cL_law 381 = .ok (.iconst 1, 1) := by decide +kernel
theorem dL_law_382 : decode cL_law 382 = .ok (.iadd, 1) := by decide +kernel
theorem dL_law_383 : decode cL_law 383 = .ok (.iaload, 1) := by decide +kernel
theorem dL_law_384 : decode cL_law 384 = .ok (.aload_n 0, 1) := by decide +kernel
theorem dL_law_385 : decode cL_law 385 = .ok (.iload_n 3, 1) := by decide +kernel
theorem dL_law_386 : decode cL_law 386 = .ok (.iconst 2, 1) := by decide +kernel
theorem dL_law_387 : decode cL_law 387 = .ok (.iadd, 1) := by decide +kernel
theorem dL_law_388 : decode cL_law 388 = .ok (.iaload, 1) := by decide +kernel
theorem dL_law_389 : decode cL_law 389 = .ok (.invokevirtual 48, 3) := by decide +kernel
theorem dL_law_392 : decode cL_law 392 = .ok (.aload_n 2, 1) := by decide +kernel
theorem dL_law_393 : decode cL_law 393 = .ok (.aload_n 0, 1) := by decide +kernel
theorem dL_law_394 : decode cL_law 394 = .ok (.iload_n 3, 1) := by decide +kernel
theorem dL_law_395 : decode cL_law 395 = .ok (.iconst 1, 1) := by decide +kernel
theorem dL_law_396 : decode cL_law 396 = .ok (.iadd, 1) := by decide +kernel
theorem dL_law_397 : decode cL_law 397 = .ok (.iaload, 1) := by decide +kernel
theorem dL_law_398 : decode cL_law 398 = .ok (.aload_n 0, 1) := by decide +kernel
theorem dL_law_399 : decode cL_law 399 = .ok (.iload_n 3, 1) := by decide +kernel
theorem dL_law_400 : decode cL_law 400 = .ok (.iconst 2, 1) := by decide +kernel
theorem dL_law_401 : decode cL_law 401 = .ok (.iadd, 1) := by decide +kernel
theorem dL_law_402 : decode cL_law 402 = .ok (.iaload, 1) := by decide +kernel
theorem dL_law_403 : decode cL_law 403 = .ok (.invokevirtual 51, 3) := by decide +kernel
theorem dL_law_406 : decode cL_law 406 = .ok (.if_icmp .eq 430, 3) := by decide +kernel
theorem dL_law_409 : decode cL_law 409 = .ok (.iconst 0, 1) := by decide +kernel
theorem dL_law_410 : decode cL_law 410 = .ok (.ireturn, 1) := by decide +kernel
theorem dL_law_411 : decode cL_law 411 = .ok (.aload_n 1, 1) := by decide +kernel
theorem dL_law_412 : decode cL_law 412 = .ok (.aload_n 0, 1) := by decide +kernel
theorem dL_law_413 : decode cL_law 413 = .ok (.iload_n 3, 1) := by decide +kernel
theorem dL_law_414 : decode cL_law 414 = .ok (.iconst 1, 1) := by decide +kernel
theorem dL_law_415 : decode cL_law 415 = .ok (.iadd, 1) := by decide +kernel
theorem dL_law_416 : decode cL_law 416 = .ok (.iaload, 1) := by decide +kernel
theorem dL_law_417 : decode cL_law 417 = .ok (.invokevirtual 52, 3) := by decide +kernel
theorem dL_law_420 : decode cL_law 420 = .ok (.aload_n 2, 1) := by decide +kernel
theorem dL_law_421 : decode cL_law 421 = .ok (.aload_n 0, 1) := by decide +kernel
theorem dL_law_422 : decode cL_law 422 = .ok (.iload_n 3, 1) := by decide +kernel
theorem dL_law_423 : decode cL_law 423 = .ok (.iconst 1, 1) := by decide +kernel
theorem dL_law_424 : decode cL_law 424 = .ok (.iadd, 1) := by decide +kernel
theorem dL_law_425 : decode cL_law 425 = .ok (.iaload, 1) := by decide +kernel
theorem dL_law_426 : decode cL_law 426 = .ok (.invokevirtual 55, 3) := by decide +kernel
theorem dL_law_429 : decode cL_law 429 = .ok (.if_icmp .eq 407, 3) := by decide +kernel
theorem dL_law_432 : decode cL_law 432 = .ok (.iconst 0, 1) := by decide +kernel
theorem dL_law_433 : decode cL_law 433 = .ok (.ireturn, 1) := by decide +kernel
theorem dL_law_434 : decode cL_law 434 = .ok (.aload_n 1, 1) := by decide +kernel
theorem dL_law_435 : decode cL_law 435 = .ok (.aload_n 0, 1) := by decide +kernel
theorem dL_law_436 : decode cL_law 436 = .ok (.iload_n 3, 1) := by decide +kernel
theorem dL_law_437 : decode cL_law 437 = .ok (.iconst 1, 1) := by decide +kernel
theorem dL_law_438 : decode cL_law 438 = .ok (.iadd, 1) := by decide +kernel
theorem dL_law_439 : decode cL_law 439 = .ok (.iaload, 1) := by decide +kernel
theorem dL_law_440 : decode cL_law 440 = .ok (.aload_n 0, 1) := by decide +kernel
theorem dL_law_441 : decode cL_law 441 = .ok (.iload_n 3, 1) := by decide +kernel
theorem dL_law_442 : decode cL_law 442 = .ok (.iconst 2, 1) := by decide +kernel
theorem dL_law_443 : decode cL_law 443 = .ok (.iadd, 1) := by decide +kernel
theorem dL_law_444 : decode cL_law 444 = .ok (.iaload, 1) := by decide +kernel
theorem dL_law_445 : decode cL_law 445 = .ok (.invokevirtual 56, 3) := by decide +kernel
theorem dL_law_448 : decode cL_law 448 = .ok (.aload_n 2, 1) := by decide +kernel
theorem dL_law_449 : decode cL_law 449 = .ok (.aload_n 0, 1) := by decide +kernel
theorem dL_law_450 : decode cL_law 450 = .ok (.iload_n 3, 1) := by decide +kernel
theorem dL_law_451 : decode cL_law 451 = .ok (.iconst 1, 1) := by decide +kernel
theorem dL_law_452 : decode cL_law 452 = .ok (.iadd, 1) := by decide +kernel
theorem dL_law_453 : decode cL_law 453 = .ok (.iaload, 1) := by decide +kernel
theorem dL_law_454 : decode cL_law 454 = .ok (.aload_n 0, 1) := by decide +kernel
theorem dL_law_455 : decode cL_law 455 = .ok (.iload_n 3, 1) := by decide +kernel
theorem dL_law_456 : decode cL_law 456 = .ok (.iconst 2, 1) := by decide +kernel
theorem dL_law_457 : decode cL_law 457 = .ok (.iadd, 1) := by decide +kernel
theorem dL_law_458 : decode cL_law 458 = .ok (.iaload, 1) := by decide +kernel
theorem dL_law_459 : decode cL_law 459 = .ok (.invokevirtual 59, 3) := by decide +kernel
theorem dL_law_462 : decode cL_law 462 = .ok (.if_icmp .eq 374, 3) := by decide +kernel
theorem dL_law_465 : decode cL_law 465 = .ok (.iconst 0, 1) := by decide +kernel
theorem dL_law_466 : decode cL_law 466 = .ok (.ireturn, 1) := by decide +kernel
theorem dL_law_467 : decode cL_law 467 = .ok (.aload_n 1, 1) := by decide +kernel
theorem dL_law_468 : decode cL_law 468 = .ok (.aload_n 0, 1) := by decide +kernel
theorem dL_law_469 : decode cL_law 469 = .ok (.iload_n 3, 1) := by decide +kernel
theorem dL_law_470 : decode cL_law 470 = .ok (.iconst 1, 1) := by decide +kernel
theorem dL_law_471 : decode cL_law 471 = .ok (.iadd, 1) := by decide +kernel
theorem dL_law_472 : decode cL_law 472 = .ok (.iaload, 1) := by decide +kernel
theorem dL_law_473 : decode cL_law 473 = .ok (.aload_n 0, 1) := by decide +kernel
theorem dL_law_474 : decode cL_law 474 = .ok (.iload_n 3, 1) := by decide +kernel
theorem dL_law_475 : decode cL_law 475 = .ok (.iconst 2, 1) := by decide +kernel
theorem dL_law_476 : decode cL_law 476 = .ok (.iadd, 1) := by decide +kernel
theorem dL_law_477 : decode cL_law 477 = .ok (.iaload, 1) := by decide +kernel
theorem dL_law_478 : decode cL_law 478 = .ok (.aload_n 0, 1) := by decide +kernel
theorem dL_law_479 : decode cL_law 479 = .ok (.iload_n 3, 1) := by decide +kernel
theorem dL_law_480 : decode cL_law 480 = .ok (.iconst 3, 1) := by decide +kernel
theorem dL_law_481 : decode cL_law 481 = .ok (.iadd, 1) := by decide +kernel
theorem dL_law_482 : decode cL_law 482 = .ok (.iaload, 1) := by decide +kernel
theorem dL_law_483 : decode cL_law 483 = .ok (.invokevirtual 60, 3) := by decide +kernel
theorem dL_law_486 : decode cL_law 486 = .ok (.aload_n 2, 1) := by decide +kernel
theorem dL_law_487 : decode cL_law 487 = .ok (.aload_n 0, 1) := by decide +kernel
theorem dL_law_488 : decode cL_law 488 = .ok (.iload_n 3, 1) := by decide +kernel
theorem dL_law_489 : decode cL_law 489 = .ok (.iconst 1, 1) := by decide +kernel
theorem dL_law_490 : decode cL_law 490 = .ok (.iadd, 1) := by decide +kernel
theorem dL_law_491 : decode cL_law 491 = .ok (.iaload, 1) := by decide +kernel
theorem dL_law_492 : decode cL_law 492 = .ok (.aload_n 0, 1) := by decide +kernel
theorem dL_law_493 : decode cL_law 493 = .ok (.iload_n 3, 1) := by decide +kernel
theorem dL_law_494 : decode cL_law 494 = .ok (.iconst 2, 1) := by decide +kernel
theorem dL_law_495 : decode cL_law 495 = .ok (.iadd, 1) := by decide +kernel
theorem dL_law_496 : decode cL_law 496 = .ok (.iaload, 1) := by decide +kernel
theorem dL_law_497 : decode cL_law 497 = .ok (.aload_n 0, 1) := by decide +kernel
theorem dL_law_498 : decode cL_law 498 = .ok (.iload_n 3, 1) := by decide +kernel
theorem dL_law_499 : decode cL_law 499 = .ok (.iconst 3, 1) := by decide +kernel
theorem dL_law_500 : decode cL_law 500 = .ok (.iadd, 1) := by decide +kernel
theorem dL_law_501 : decode cL_law 501 = .ok (.iaload, 1) := by decide +kernel
theorem dL_law_502 : decode cL_law 502 = .ok (.invokevirtual 63, 3) := by decide +kernel
theorem dL_law_505 : decode cL_law 505 = .ok (.if_icmp .eq 331, 3) := by decide +kernel
theorem dL_law_508 : decode cL_law 508 = .ok (.iconst 0, 1) := by decide +kernel
theorem dL_law_509 : decode cL_law 509 = .ok (.ireturn, 1) := by decide +kernel
theorem dL_law_510 : decode cL_law 510 = .ok (.aload_n 1, 1) := by decide +kernel
theorem dL_law_511 : decode cL_law 511 = .ok (.aload_n 0, 1) := by decide +kernel
theorem dL_law_512 : decode cL_law 512 = .ok (.iload_n 3, 1) := by decide +kernel
theorem dL_law_513 : decode cL_law 513 = .ok (.iconst 1, 1) := by decide +kernel
theorem dL_law_514 : decode cL_law 514 = .ok (.iadd, 1) := by decide +kernel
theorem dL_law_515 : decode cL_law 515 = .ok (.iaload, 1) := by decide +kernel
theorem dL_law_516 : decode cL_law 516 = .ok (.aload_n 0, 1) := by decide +kernel
theorem dL_law_517 : decode cL_law 517 = .ok (.iload_n 3, 1) := by decide +kernel
theorem dL_law_518 : decode cL_law 518 = .ok (.iconst 2, 1) := by decide +kernel
theorem dL_law_519 : decode cL_law 519 = .ok (.iadd, 1) := by decide +kernel
theorem dL_law_520 : decode cL_law 520 = .ok (.iaload, 1) := by decide +kernel
theorem dL_law_521 : decode cL_law 521 = .ok (.invokevirtual 64, 3) := by decide +kernel
theorem dL_law_524 : decode cL_law 524 = .ok (.aload_n 2, 1) := by decide +kernel
theorem dL_law_525 : decode cL_law 525 = .ok (.aload_n 0, 1) := by decide +kernel
theorem dL_law_526 : decode cL_law 526 = .ok (.iload_n 3, 1) := by decide +kernel
theorem dL_law_527 : decode cL_law 527 = .ok (.iconst 1, 1) := by decide +kernel
theorem dL_law_528 : decode cL_law 528 = .ok (.iadd, 1) := by decide +kernel
theorem dL_law_529 : decode cL_law 529 = .ok (.iaload, 1) := by decide +kernel
theorem dL_law_530 : decode cL_law 530 = .ok (.aload_n 0, 1) := by decide +kernel
theorem dL_law_531 : decode cL_law 531 = .ok (.iload_n 3, 1) := by decide +kernel
theorem dL_law_532 : decode cL_law 532 = .ok (.iconst 2, 1) := by decide +kernel
theorem dL_law_533 : decode cL_law 533 = .ok (.iadd, 1) := by decide +kernel
theorem dL_law_534 : decode cL_law 534 = .ok (.iaload, 1) := by decide +kernel
theorem dL_law_535 : decode cL_law 535 = .ok (.invokevirtual 67, 3) := by decide +kernel
theorem dL_law_538 : decode cL_law 538 = .ok (.if_icmp .eq 298, 3) := by decide +kernel
theorem dL_law_541 : decode cL_law 541 = .ok (.iconst 0, 1) := by decide +kernel
theorem dL_law_542 : decode cL_law 542 = .ok (.ireturn, 1) := by decide +kernel
theorem dL_law_543 : decode cL_law 543 = .ok (.aload_n 1, 1) := by decide +kernel
theorem dL_law_544 : decode cL_law 544 = .ok (.aload_n 0, 1) := by decide +kernel
theorem dL_law_545 : decode cL_law 545 = .ok (.iload_n 3, 1) := by decide +kernel
theorem dL_law_546 : decode cL_law 546 = .ok (.iconst 1, 1) := by decide +kernel
theorem dL_law_547 : decode cL_law 547 = .ok (.iadd, 1) := by decide +kernel
theorem dL_law_548 : decode cL_law 548 = .ok (.iaload, 1) := by decide +kernel
theorem dL_law_549 : decode cL_law 549 = .ok (.aload_n 0, 1) := by decide +kernel
theorem dL_law_550 : decode cL_law 550 = .ok (.iload_n 3, 1) := by decide +kernel
theorem dL_law_551 : decode cL_law 551 = .ok (.iconst 2, 1) := by decide +kernel
theorem dL_law_552 : decode cL_law 552 = .ok (.iadd, 1) := by decide +kernel
theorem dL_law_553 : decode cL_law 553 = .ok (.iaload, 1) := by decide +kernel
theorem dL_law_554 : decode cL_law 554 = .ok (.aload_n 0, 1) := by decide +kernel
theorem dL_law_555 : decode cL_law 555 = .ok (.iload_n 3, 1) := by decide +kernel
theorem dL_law_556 : decode cL_law 556 = .ok (.iconst 3, 1) := by decide +kernel
theorem dL_law_557 : decode cL_law 557 = .ok (.iadd, 1) := by decide +kernel
theorem dL_law_558 : decode cL_law 558 = .ok (.iaload, 1) := by decide +kernel
theorem dL_law_559 : decode cL_law 559 = .ok (.invokevirtual 68, 3) := by decide +kernel
theorem dL_law_562 : decode cL_law 562 = .ok (.aload_n 2, 1) := by decide +kernel
theorem dL_law_563 : decode cL_law 563 = .ok (.aload_n 0, 1) := by decide +kernel
theorem dL_law_564 : decode cL_law 564 = .ok (.iload_n 3, 1) := by decide +kernel
theorem dL_law_565 : decode cL_law 565 = .ok (.iconst 1, 1) := by decide +kernel
theorem dL_law_566 : decode cL_law 566 = .ok (.iadd, 1) := by decide +kernel
theorem dL_law_567 : decode cL_law 567 = .ok (.iaload, 1) := by decide +kernel
theorem dL_law_568 : decode cL_law 568 = .ok (.aload_n 0, 1) := by decide +kernel
theorem dL_law_569 : decode cL_law 569 = .ok (.iload_n 3, 1) := by decide +kernel
theorem dL_law_570 : decode cL_law 570 = .ok (.iconst 2, 1) := by decide +kernel
theorem dL_law_571 : decode cL_law 571 = .ok (.iadd, 1) := by decide +kernel
theorem dL_law_572 : decode cL_law 572 = .ok (.iaload, 1) := by decide +kernel
theorem dL_law_573 : decode cL_law 573 = .ok (.aload_n 0, 1) := by decide +kernel
theorem dL_law_574 : decode cL_law 574 = .ok (.iload_n 3, 1) := by decide +kernel
theorem dL_law_575 : decode cL_law 575 = .ok (.iconst 3, 1) := by decide +kernel
theorem dL_law_576 : decode cL_law 576 = .ok (.iadd, 1) := by decide +kernel
theorem dL_law_577 : decode cL_law 577 = .ok (.iaload, 1) := by decide +kernel
theorem dL_law_578 : decode cL_law 578 = .ok (.invokevirtual 71, 3) := by decide +kernel
theorem dL_law_581 : decode cL_law 581 = .ok (.if_icmp .eq 255, 3) := by decide +kernel
theorem dL_law_584 : decode cL_law 584 = .ok (.iconst 0, 1) := by decide +kernel
theorem dL_law_585 : decode cL_law 585 = .ok (.ireturn, 1) := by decide +kernel
theorem dL_law_586 : decode cL_law 586 = .ok (.aload_n 1, 1) := by decide +kernel
theorem dL_law_587 : decode cL_law 587 = .ok (.aload_n 0, 1) := by decide +kernel
theorem dL_law_588 : decode cL_law 588 = .ok (.iload_n 3, 1) := by decide +kernel
theorem dL_law_589 : decode cL_law 589 = .ok (.iconst 1, 1) := by decide +kernel
theorem dL_law_590 : decode cL_law 590 = .ok (.iadd, 1) := by decide +kernel
theorem dL_law_591 : decode cL_law 591 = .ok (.iaload, 1) := by decide +kernel
theorem dL_law_592 : decode cL_law 592 = .ok (.aload_n 0, 1) := by decide +kernel
theorem dL_law_593 : decode cL_law 593 = .ok (.iload_n 3, 1) := by decide +kernel
theorem dL_law_594 : decode cL_law 594 = .ok (.iconst 2, 1) := by decide +kernel
theorem dL_law_595 : decode cL_law 595 = .ok (.iadd, 1) := by decide +kernel
theorem dL_law_596 : decode cL_law 596 = .ok (.iaload, 1) := by decide +kernel
theorem dL_law_597 : decode cL_law 597 = .ok (.aload_n 0, 1) := by decide +kernel
theorem dL_law_598 : decode cL_law 598 = .ok (.iload_n 3, 1) := by decide +kernel
theorem dL_law_599 : decode cL_law 599 = .ok (.iconst 3, 1) := by decide +kernel
theorem dL_law_600 : decode cL_law 600 = .ok (.iadd, 1) := by decide +kernel
theorem dL_law_601 : decode cL_law 601 = .ok (.iaload, 1) := by decide +kernel
theorem dL_law_602 : decode cL_law 602 = .ok (.invokevirtual 72, 3) := by decide +kernel
theorem dL_law_605 : decode cL_law 605 = .ok (.aload_n 2, 1) := by decide +kernel
theorem dL_law_606 : decode cL_law 606 = .ok (.aload_n 0, 1) := by decide +kernel
theorem dL_law_607 : decode cL_law 607 = .ok (.iload_n 3, 1) := by decide +kernel
theorem dL_law_608 : decode cL_law 608 = .ok (.iconst 1, 1) := by decide +kernel
theorem dL_law_609 : decode cL_law 609 = .ok (.iadd, 1) := by decide +kernel
theorem dL_law_610 : decode cL_law 610 = .ok (.iaload, 1) := by decide +kernel
theorem dL_law_611 : decode cL_law 611 = .ok (.aload_n 0, 1) := by decide +kernel
theorem dL_law_612 : decode cL_law 612 = .ok (.iload_n 3, 1) := by decide +kernel
theorem dL_law_613 : decode cL_law 613 = .ok (.iconst 2, 1) := by decide +kernel
theorem dL_law_614 : decode cL_law 614 = .ok (.iadd, 1) := by decide +kernel
theorem dL_law_615 : decode cL_law 615 = .ok (.iaload, 1) := by decide +kernel
theorem dL_law_616 : decode cL_law 616 = .ok (.aload_n 0, 1) := by decide +kernel
theorem dL_law_617 : decode cL_law 617 = .ok (.iload_n 3, 1) := by decide +kernel
theorem dL_law_618 : decode cL_law 618 = .ok (.iconst 3, 1) := by decide +kernel
theorem dL_law_619 : decode cL_law 619 = .ok (.iadd, 1) := by decide +kernel
theorem dL_law_620 : decode cL_law 620 = .ok (.iaload, 1) := by decide +kernel
theorem dL_law_621 : decode cL_law 621 = .ok (.invokevirtual 75, 3) := by decide +kernel
theorem dL_law_624 : decode cL_law 624 = .ok (.if_icmp .eq 212, 3) := by decide +kernel
theorem dL_law_627 : decode cL_law 627 = .ok (.iconst 0, 1) := by decide +kernel
theorem dL_law_628 : decode cL_law 628 = .ok (.ireturn, 1) := by decide +kernel
theorem dL_law_629 : decode cL_law 629 = .ok (.aload_n 1, 1) := by decide +kernel
theorem dL_law_630 : decode cL_law 630 = .ok (.aload_n 0, 1) := by decide +kernel
theorem dL_law_631 : decode cL_law 631 = .ok (.iload_n 3, 1) := by decide +kernel
theorem dL_law_632 : decode cL_law 632 = .ok (.iconst 1, 1) := by decide +kernel
theorem dL_law_633 : decode cL_law 633 = .ok (.iadd, 1) := by decide +kernel
theorem dL_law_634 : decode cL_law 634 = .ok (.iaload, 1) := by decide +kernel
theorem dL_law_635 : decode cL_law 635 = .ok (.aload_n 0, 1) := by decide +kernel
theorem dL_law_636 : decode cL_law 636 = .ok (.iload_n 3, 1) := by decide +kernel
theorem dL_law_637 : decode cL_law 637 = .ok (.iconst 2, 1) := by decide +kernel
theorem dL_law_638 : decode cL_law 638 = .ok (.iadd, 1) := by decide +kernel
theorem dL_law_639 : decode cL_law 639 = .ok (.iaload, 1) := by decide +kernel
theorem dL_law_640 : decode cL_law 640 = .ok (.aload_n 0, 1) := by decide +kernel
theorem dL_law_641 : decode cL_law 641 = .ok (.iload_n 3, 1) := by decide +kernel
theorem dL_law_642 : decode cL_law 642 = .ok (.iconst 3, 1) := by decide +kernel
theorem dL_law_643 : decode cL_law 643 = .ok (.iadd, 1) := by decide +kernel
theorem dL_law_644 : decode cL_law 644 = .ok (.iaload, 1) := by decide +kernel
theorem dL_law_645 : decode cL_law 645 = .ok (.invokevirtual 76, 3) := by decide +kernel
theorem dL_law_648 : decode cL_law 648 = .ok (.aload_n 2, 1) := by decide +kernel
theorem dL_law_649 : decode cL_law 649 = .ok (.aload_n 0, 1) := by decide +kernel
theorem dL_law_650 : decode cL_law 650 = .ok (.iload_n 3, 1) := by decide +kernel
theorem dL_law_651 : decode cL_law 651 = .ok (.iconst 1, 1) := by decide +kernel
theorem dL_law_652 : decode cL_law 652 = .ok (.iadd, 1) := by decide +kernel
theorem dL_law_653 : decode cL_law 653 = .ok (.iaload, 1) := by decide +kernel
theorem dL_law_654 : decode cL_law 654 = .ok (.aload_n 0, 1) := by decide +kernel
theorem dL_law_655 : decode cL_law 655 = .ok (.iload_n 3, 1) := by decide +kernel
theorem dL_law_656 : decode cL_law 656 = .ok (.iconst 2, 1) := by decide +kernel
theorem dL_law_657 : decode cL_law 657 = .ok (.iadd, 1) := by decide +kernel
theorem dL_law_658 : decode cL_law 658 = .ok (.iaload, 1) := by decide +kernel
theorem dL_law_659 : decode cL_law 659 = .ok (.aload_n 0, 1) := by decide +kernel
theorem dL_law_660 : decode cL_law 660 = .ok (.iload_n 3, 1) := by decide +kernel
theorem dL_law_661 : decode cL_law 661 = .ok (.iconst 3, 1) := by decide +kernel
theorem dL_law_662 : decode cL_law 662 = .ok (.iadd, 1) := by decide +kernel
theorem dL_law_663 : decode cL_law 663 = .ok (.iaload, 1) := by decide +kernel
theorem dL_law_664 : decode cL_law 664 = .ok (.invokevirtual 79, 3) := by decide +kernel
theorem dL_law_667 : decode cL_law 667 = .ok (.if_icmp .eq 169, 3) := by decide +kernel
theorem dL_law_670 : decode cL_law 670 = .ok (.iconst 0, 1) := by decide +kernel
theorem dL_law_671 : decode cL_law 671 = .ok (.ireturn, 1) := by decide +kernel
theorem dL_law_672 : decode cL_law 672 = .ok (.aload_n 1, 1) := by decide +kernel
theorem dL_law_673 : decode cL_law 673 = .ok (.aload_n 0, 1) := by decide +kernel
theorem dL_law_674 : decode cL_law 674 = .ok (.iload_n 3, 1) := by decide +kernel
theorem dL_law_675 : decode cL_law 675 = .ok (.iconst 1, 1) := by decide +kernel
theorem dL_law_676 : decode cL_law 676 = .ok (.iadd, 1) := by decide +kernel
theorem dL_law_677 : decode cL_law 677 = .ok (.iaload, 1) := by decide +kernel
theorem dL_law_678 : decode cL_law 678 = .ok (.aload_n 0, 1) := by decide +kernel
theorem dL_law_679 : decode cL_law 679 = .ok (.iload_n 3, 1) := by decide +kernel
theorem dL_law_680 : decode cL_law 680 = .ok (.iconst 2, 1) := by decide +kernel
theorem dL_law_681 : decode cL_law 681 = .ok (.iadd, 1) := by decide +kernel
theorem dL_law_682 : decode cL_law 682 = .ok (.iaload, 1) := by decide +kernel
theorem dL_law_683 : decode cL_law 683 = .ok (.invokevirtual 80, 3) := by decide +kernel
theorem dL_law_686 : decode cL_law 686 = .ok (.aload_n 2, 1) := by decide +kernel
theorem dL_law_687 : decode cL_law 687 = .ok (.aload_n 0, 1) := by decide +kernel
theorem dL_law_688 : decode cL_law 688 = .ok (.iload_n 3, 1) := by decide +kernel
theorem dL_law_689 : decode cL_law 689 = .ok (.iconst 1, 1) := by decide +kernel
theorem dL_law_690 : decode cL_law 690 = .ok (.iadd, 1) := by decide +kernel
theorem dL_law_691 : decode cL_law 691 = .ok (.iaload, 1) := by decide +kernel
theorem dL_law_692 : decode cL_law 692 = .ok (.aload_n 0, 1) := by decide +kernel
theorem dL_law_693 : decode cL_law 693 = .ok (.iload_n 3, 1) := by decide +kernel
theorem dL_law_694 : decode cL_law 694 = .ok (.iconst 2, 1) := by decide +kernel
theorem dL_law_695 : decode cL_law 695 = .ok (.iadd, 1) := by decide +kernel
theorem dL_law_696 : decode cL_law 696 = .ok (.iaload, 1) := by decide +kernel
theorem dL_law_697 : decode cL_law 697 = .ok (.invokevirtual 83, 3) := by decide +kernel
theorem dL_law_700 : decode cL_law 700 = .ok (.if_icmp .eq 136, 3) := by decide +kernel
theorem dL_law_703 : decode cL_law 703 = .ok (.iconst 0, 1) := by decide +kernel
theorem dL_law_704 : decode cL_law 704 = .ok (.ireturn, 1) := by decide +kernel
theorem dL_law_705 : decode cL_law 705 = .ok (.aload_n 1, 1) := by decide +kernel
theorem dL_law_706 : decode cL_law 706 = .ok (.aload_n 0, 1) := by decide +kernel
theorem dL_law_707 : decode cL_law 707 = .ok (.iload_n 3, 1) := by decide +kernel
theorem dL_law_708 : decode cL_law 708 = .ok (.iconst 1, 1) := by decide +kernel
theorem dL_law_709 : decode cL_law 709 = .ok (.iadd, 1) := by decide +kernel
theorem dL_law_710 : decode cL_law 710 = .ok (.iaload, 1) := by decide +kernel
theorem dL_law_711 : decode cL_law 711 = .ok (.invokevirtual 84, 3) := by decide +kernel
theorem dL_law_714 : decode cL_law 714 = .ok (.aload_n 2, 1) := by decide +kernel
theorem dL_law_715 : decode cL_law 715 = .ok (.aload_n 0, 1) := by decide +kernel
theorem dL_law_716 : decode cL_law 716 = .ok (.iload_n 3, 1) := by decide +kernel
theorem dL_law_717 : decode cL_law 717 = .ok (.iconst 1, 1) := by decide +kernel
theorem dL_law_718 : decode cL_law 718 = .ok (.iadd, 1) := by decide +kernel
theorem dL_law_719 : decode cL_law 719 = .ok (.iaload, 1) := by decide +kernel
theorem dL_law_720 : decode cL_law 720 = .ok (.invokevirtual 87, 3) := by decide +kernel
theorem dL_law_723 : decode cL_law 723 = .ok (.if_icmp .eq 113, 3) := by decide +kernel
theorem dL_law_726 : decode cL_law 726 = .ok (.iconst 0, 1) := by decide +kernel
theorem dL_law_727 : decode cL_law 727 = .ok (.ireturn, 1) := by decide +kernel
theorem dL_law_728 : decode cL_law 728 = .ok (.aload_n 1, 1) := by decide +kernel
theorem dL_law_729 : decode cL_law 729 = .ok (.aload_n 0, 1) := by decide +kernel
theorem dL_law_730 : decode cL_law 730 = .ok (.iload_n 3, 1) := by decide +kernel
theorem dL_law_731 : decode cL_law 731 = .ok (.iconst 1, 1) := by decide +kernel
theorem dL_law_732 : decode cL_law 732 = .ok (.iadd, 1) := by decide +kernel
theorem dL_law_733 : decode cL_law 733 = .ok (.iaload, 1) := by decide +kernel
theorem dL_law_734 : decode cL_law 734 = .ok (.invokevirtual 88, 3) := by decide +kernel
theorem dL_law_737 : decode cL_law 737 = .ok (.aload_n 2, 1) := by decide +kernel
theorem dL_law_738 : decode cL_law 738 = .ok (.aload_n 0, 1) := by decide +kernel
theorem dL_law_739 : decode cL_law 739 = .ok (.iload_n 3, 1) := by decide +kernel
theorem dL_law_740 : decode cL_law 740 = .ok (.iconst 1, 1) := by decide +kernel
theorem dL_law_741 : decode cL_law 741 = .ok (.iadd, 1) := by decide +kernel
theorem dL_law_742 : decode cL_law 742 = .ok (.iaload, 1) := by decide +kernel
theorem dL_law_743 : decode cL_law 743 = .ok (.invokevirtual 91, 3) := by decide +kernel
theorem dL_law_746 : decode cL_law 746 = .ok (.if_icmp .eq 90, 3) := by decide +kernel
theorem dL_law_749 : decode cL_law 749 = .ok (.iconst 0, 1) := by decide +kernel
theorem dL_law_750 : decode cL_law 750 = .ok (.ireturn, 1) := by decide +kernel
theorem dL_law_751 : decode cL_law 751 = .ok (.aload_n 1, 1) := by decide +kernel
theorem dL_law_752 : decode cL_law 752 = .ok (.invokevirtual 92, 3) := by decide +kernel
theorem dL_law_755 : decode cL_law 755 = .ok (.aload_n 2, 1) := by decide +kernel
theorem dL_law_756 : decode cL_law 756 = .ok (.invokevirtual 96, 3) := by decide +kernel
theorem dL_law_759 : decode cL_law 759 = .ok (.if_icmp .eq 77, 3) := by decide +kernel
theorem dL_law_762 : decode cL_law 762 = .ok (.iconst 0, 1) := by decide +kernel
theorem dL_law_763 : decode cL_law 763 = .ok (.ireturn, 1) := by decide +kernel
theorem dL_law_764 : decode cL_law 764 = .ok (.aload_n 1, 1) := by decide +kernel
theorem dL_law_765 : decode cL_law 765 = .ok (.invokevirtual 97, 3) := by decide +kernel
theorem dL_law_768 : decode cL_law 768 = .ok (.aload_n 2, 1) := by decide +kernel
theorem dL_law_769 : decode cL_law 769 = .ok (.invokevirtual 100, 3) := by decide +kernel
theorem dL_law_772 : decode cL_law 772 = .ok (.if_icmp .eq 64, 3) := by decide +kernel
theorem dL_law_775 : decode cL_law 775 = .ok (.iconst 0, 1) := by decide +kernel
theorem dL_law_776 : decode cL_law 776 = .ok (.ireturn, 1) := by decide +kernel
theorem dL_law_777 : decode cL_law 777 = .ok (.aload_n 1, 1) := by decide +kernel
theorem dL_law_778 : decode cL_law 778 = .ok (.aload_n 0, 1) := by decide +kernel
theorem dL_law_779 : decode cL_law 779 = .ok (.iload_n 3, 1) := by decide +kernel
theorem dL_law_780 : decode cL_law 780 = .ok (.iconst 1, 1) := by decide +kernel
theorem dL_law_781 : decode cL_law 781 = .ok (.iadd, 1) := by decide +kernel
theorem dL_law_782 : decode cL_law 782 = .ok (.iaload, 1) := by decide +kernel
theorem dL_law_783 : decode cL_law 783 = .ok (.invokevirtual 101, 3) := by decide +kernel
theorem dL_law_786 : decode cL_law 786 = .ok (.aload_n 2, 1) := by decide +kernel
theorem dL_law_787 : decode cL_law 787 = .ok (.aload_n 0, 1) := by decide +kernel
theorem dL_law_788 : decode cL_law 788 = .ok (.iload_n 3, 1) := by decide +kernel
theorem dL_law_789 : decode cL_law 789 = .ok (.iconst 1, 1) := by decide +kernel
theorem dL_law_790 : decode cL_law 790 = .ok (.iadd, 1) := by decide +kernel
theorem dL_law_791 : decode cL_law 791 = .ok (.iaload, 1) := by decide +kernel
theorem dL_law_792 : decode cL_law 792 = .ok (.invokevirtual 104, 3) := by decide +kernel
theorem dL_law_795 : decode cL_law 795 = .ok (.if_icmp .eq 41, 3) := by decide +kernel
theorem dL_law_798 : decode cL_law 798 = .ok (.iconst 0, 1) := by decide +kernel
theorem dL_law_799 : decode cL_law 799 = .ok (.ireturn, 1) := by decide +kernel
theorem dL_law_800 : decode cL_law 800 = .ok (.aload_n 1, 1) := by decide +kernel
theorem dL_law_801 : decode cL_law 801 = .ok (.invokevirtual 105, 3) := by decide +kernel
theorem dL_law_804 : decode cL_law 804 = .ok (.aload_n 2, 1) := by decide +kernel
theorem dL_law_805 : decode cL_law 805 = .ok (.invokevirtual 108, 3) := by decide +kernel
theorem dL_law_808 : decode cL_law 808 = .ok (.if_icmp .eq 28, 3) := by decide +kernel
theorem dL_law_811 : decode cL_law 811 = .ok (.iconst 0, 1) := by decide +kernel
theorem dL_law_812 : decode cL_law 812 = .ok (.ireturn, 1) := by decide +kernel
theorem dL_law_813 : decode cL_law 813 = .ok (.aload_n 1, 1) := by decide +kernel
theorem dL_law_814 : decode cL_law 814 = .ok (.aload_n 0, 1) := by decide +kernel
theorem dL_law_815 : decode cL_law 815 = .ok (.iload_n 3, 1) := by decide +kernel
theorem dL_law_816 : decode cL_law 816 = .ok (.iconst 1, 1) := by decide +kernel
theorem dL_law_817 : decode cL_law 817 = .ok (.iadd, 1) := by decide +kernel
theorem dL_law_818 : decode cL_law 818 = .ok (.iaload, 1) := by decide +kernel
theorem dL_law_819 : decode cL_law 819 = .ok (.invokevirtual 109, 3) := by decide +kernel
theorem dL_law_822 : decode cL_law 822 = .ok (.aload_n 2, 1) := by decide +kernel
theorem dL_law_823 : decode cL_law 823 = .ok (.aload_n 0, 1) := by decide +kernel
theorem dL_law_824 : decode cL_law 824 = .ok (.iload_n 3, 1) := by decide +kernel
theorem dL_law_825 : decode cL_law 825 = .ok (.iconst 1, 1) := by decide +kernel
theorem dL_law_826 : decode cL_law 826 = .ok (.iadd, 1) := by decide +kernel
theorem dL_law_827 : decode cL_law 827 = .ok (.iaload, 1) := by decide +kernel
theorem dL_law_828 : decode cL_law 828 = .ok (.invokevirtual 112, 3) := by decide +kernel
theorem dL_law_831 : decode cL_law 831 = .ok (.if_icmp .eq 5, 3) := by decide +kernel
theorem dL_law_834 : decode cL_law 834 = .ok (.iconst 0, 1) := by decide +kernel
theorem dL_law_835 : decode cL_law 835 = .ok (.ireturn, 1) := by decide +kernel
theorem dL_law_836 : decode cL_law 836 = .ok (.iinc 3 4, 3) := by decide +kernel
theorem dL_law_839 : decode cL_law 839 = .ok (.goto (-821), 3) := by decide +kernel
theorem dL_law_842 : decode cL_law 842 = .ok (.iconst 1, 1) := by decide +kernel
theorem dL_law_843 : decode cL_law 843 = .ok (.ireturn, 1) := by decide +kernel
end
section
/-! ===== an abstract machine over the kit's rows: a world is a list of cells, a reference is a place in it ===== -/
abbrev XC : Type := List Int32 ⊕ (List (Option Nat) ⊕ (Nat × List Value))
abbrev XW : Type := List XC
abbrev XG : Type := va_G × ClassId × ClassId
/-- a method: name, code, locals, answer, height of its calls, cells and slots that it makes -/
abbrev XM : Type := MethodName × ByteArray × Nat × Option FieldType × Nat × Nat × Nat
def xv (ad : Nat → Nat) (v : Value) : Value := match v with
  | .ref i => .ref (ad i)
  | v => v
def xe (g : XG) (ad : Nat → Nat) (c : XC) : va_E := match c with
  | .inl xs => .inl (g.2.1, xs.length, .inl (fun k => xs.getD k 0))
  | .inr (.inl rs) => .inl (g.2.2, rs.length, .inr (.inr (.inr (.inr (fun k => (rs.getD k none).map ad)))))
  | .inr (.inr o) => .inr (o.1, o.2.map (xv ad))
def xw (g : XG) (ad : Nat → Nat) (w : XW) : va_W := w.mapIdx (fun i c => (ad i, xe g ad c))
theorem xw_get (g : XG) (ad : Nat → Nat) (w : XW) (k : Nat) : (xw g ad w)[k]? = (w[k]?).map (fun c => (ad k, xe g ad c)) := by
  simp [xw, List.getElem?_mapIdx]
theorem xw_at {g : XG} {ad : Nat → Nat} {w : XW} {k : Nat} {c : XC} (h : w[k]? = some c) : (xw g ad w)[k]? = some (ad k, xe g ad c) := by rw [xw_get, h]; rfl
theorem xw_of {g : XG} {ad : Nat → Nat} {w : XW} {k : Nat} {q : Nat × va_E} (h : (xw g ad w)[k]? = some q) : ∃ c, w[k]? = some c ∧ q = (ad k, xe g ad c) := by
  rw [xw_get] at h
  cases hc : w[k]? with
  | none => rw [hc] at h; cases h
  | some c => rw [hc] at h; exact ⟨c, rfl, (Option.some.inj h).symm⟩
theorem xw_len (g : XG) (ad : Nat → Nat) (w : XW) : (xw g ad w).length = w.length := by simp [xw]
/-- the words that a call carries along -/
def xt : List Cond := lw_tbl.filter goodWord
theorem xt_in {w : Cond} (h : w ∈ lw_tbl) (hg : goodWord w = true) : w ∈ xt := List.mem_filter.mpr ⟨h, hg⟩
theorem xt_tbl {w : Cond} (h : w ∈ xt) : w ∈ lw_tbl := (List.mem_filter.mp h).1
theorem xt_good : GoodIn xt xt := fun w h => ⟨h, good_of_word (List.mem_filter.mp h).2⟩
def xtys (g : XG) : List (ClassId × FieldType) := [(g.2.1, .int), (g.2.2, .object "PeerStorage$State")]
def XK (g : XG) (U : State) : Prop := va_K g.1 vwCl (xtys g) U ∧ va_AO "PeerStorage$State" U ∧ ∀ (own : String) (idx : Nat) (y : MethodName), Cond.methodLinkNest own idx y "PeerStorage" ∈ lw_tbl → va_Nw (.methodLinkNest own idx y "PeerStorage") U
theorem XK_warm {g : XG} {s U : State} (h : XK g s) (hW : s.WarmedH U.vm) : XK g U := ⟨va_K.moved hW.alike h.1, va_AO.moved hW.alike h.2.1, fun own idx y hm => va_Nw.warmM hW (h.2.2 own idx y hm)⟩
theorem XK_calling {g : XG} {U : State} {gg : JFrame} {mk : MethodId} {a : Array Value} (h : XK g U) : XK g (U.calling gg mk a) := ⟨va_K.moved (u := U) (U := U.calling gg mk a) (Vm.Alike.refl U.vm) h.1, va_AO.moved (u := U) (U := U.calling gg mk a) (Vm.Alike.refl U.vm) h.2.1, fun own idx y hm => va_Nw.same (u := U) (U := U.calling gg mk a) rfl rfl (h.2.2 own idx y hm)⟩
def xm_rm (M : XM) : Room := { frames := M.2.2.2.2.1, cells := M.2.2.2.2.2.1, slots := M.2.2.2.2.2.2, locals := 40 * M.2.2.2.2.1 }
abbrev xm_ws (M : XM) : List Cond := Cond.code M.1 M.2.1 M.2.2.1 M.2.2.2.1 :: xt
/-- references lie within the world -/
def xok (n : Nat) (v : Value) : Prop := ∀ i, v = .ref i → i < n
def xcok (n : Nat) (c : XC) : Prop := match c with
  | .inl _ => True
  | .inr (.inl rs) => ∀ i, some i ∈ rs → i < n
  | .inr (.inr o) => ∀ v ∈ o.2, xok n v
def xwok (w : XW) : Prop := ∀ c ∈ w, xcok w.length c
theorem xok_int (n : Nat) (x : Int32) : xok n (.int x) := fun _ h => by cases h
theorem xok_mono {n m : Nat} {v : Value} (h : xok n v) (hm : n ≤ m) : xok m v := fun i e => Nat.lt_of_lt_of_le (h i e) hm
theorem xcok_mono {n m : Nat} {c : XC} (h : xcok n c) (hm : n ≤ m) : xcok m c := by
  rcases c with xs | rs | o
  · trivial
  · exact fun i hi => Nat.lt_of_lt_of_le (h i hi) hm
  · exact fun v hv => xok_mono (h v hv) hm
/-- with other addresses, if they agree on what is there -/
theorem xv_eq {n : Nat} {ad ad' : Nat → Nat} {v : Value} (h : xok n v) (ha : ∀ i, i < n → ad' i = ad i) : xv ad' v = xv ad v := by
  cases v <;> try rfl
  exact congrArg Value.ref (ha _ (h _ rfl))
theorem xe_eq {g : XG} {n : Nat} {ad ad' : Nat → Nat} {c : XC} (h : xcok n c) (ha : ∀ i, i < n → ad' i = ad i) : xe g ad' c = xe g ad c := by
  rcases c with xs | rs | o
  · rfl
  · show (Sum.inl (g.2.2, rs.length, Sum.inr (Sum.inr (Sum.inr (Sum.inr (fun k => (rs.getD k none).map ad'))))) : va_E) = Sum.inl (g.2.2, rs.length, Sum.inr (Sum.inr (Sum.inr (Sum.inr (fun k => (rs.getD k none).map ad)))))
    have : (fun k => (rs.getD k none).map ad') = (fun k => (rs.getD k none).map ad) := by
      funext k
      cases hk : rs.getD k none with
      | none => rfl
      | some i =>
        refine congrArg some (ha i (h i ?_))
        rw [List.getD_eq_getElem?_getD] at hk
        cases hq : rs[k]? with
        | none => rw [hq] at hk; cases hk
        | some y => rw [hq] at hk; cases hk; exact List.mem_of_getElem? hq
    rw [this]
  · show (Sum.inr (o.1, o.2.map (xv ad')) : va_E) = Sum.inr (o.1, o.2.map (xv ad))
    rw [List.map_congr_left (fun v hv => xv_eq (h v hv) ha)]
def XQ (g : XG) (Q : Option Value → XW → Prop) (Af : Nat → Prop) (ad0 : Nat → Nat) (n0 : Nat) : Array Value → State → Outcome → State → Prop := fun _ st oc t =>
  (∃ (r : Option Value) (w' : XW) (ad' : Nat → Nat), oc = .returned (r.map (xv ad')) ∧ Q r w' ∧ xwok w' ∧ (∀ v, r = some v → xok w'.length v) ∧ n0 ≤ w'.length ∧ (∀ i, i < n0 → ad' i = ad0 i) ∧ va_P g.1 vwCl (xw g ad' w') t.heap ∧ va_D Af (xw g ad' w')) ∧ va_F Af st t
/-- a contract: from the world w, with the arguments as, the method comes to an end with Q of its answer and its world -/
def Ct (l : Launch) (g : XG) (M : XM) (as : List Value) (w : XW) (Q : Option Value → XW → Prop) : Prop := xwok w → (∀ v ∈ as, xok w.length v) → ∀ (ad : Nat → Nat) (sz : Nat),
  Met l M.1 (xm_ws M) (xm_rm M) (va_Pc (as.map (xv ad)) (fun U => U.heap.size = sz ∧ va_P g.1 vwCl (xw g ad w) U.heap ∧ XK g U ∧ va_D (fun _ => True) (xw g ad w))) (XQ g Q (va_A (xw g ad w) sz) ad w.length) M.2.2.2.2.2.1 M.2.2.2.2.2.2 (va_A (xw g ad w) sz)
def lvh (ls : Array Slot) (nL : Nat) (ad : Nat → Nat) (lv : List (Option Value)) : Prop := ls.size = nL ∧ lv_wf ls ∧ (∀ (k : Nat) (v : Value), lv[k]? = some (some v) → v.category = 1) ∧ ∀ (k : Nat) (v : Value), lv[k]? = some (some v) → ls[k]? = some (.val (xv ad v))
def XIn (g : XG) (M : XM) (Af : Nat → Prop) (p : Program) (s : State) (m : MethodId) (args : Array Value) (meth : Method) (c : Code) : Prop :=
  p.tables.exec = Jvm.exec ∧ c.code = M.2.1 ∧ meth.sig.returnType = M.2.2.2.1 ∧ c.maxLocals = M.2.2.1 ∧ s.vm.findClass M.1.cls = some m.cls ∧ (∀ w ∈ xt, w.before args s = true) ∧ meth.locks = false ∧ XK g s ∧ meth.name = M.1.name ∧ (∀ q : Nat, s.heap.size ≤ q → Af q)
/-- the frame's references lie within the world -/
def XF (lv : List (Option Value)) (st : List Value) (w : XW) : Prop := xwok w ∧ (∀ v ∈ st, xok w.length v) ∧ ∀ v, some v ∈ lv → xok w.length v
/-- the method's frame at pc, locals lv, operands st, world w; kc and ks: what it has made so far -/
def XA (l : Launch) (g : XG) (M : XM) (Q : Option Value → XW → Prop) (pc : Nat) (lv : List (Option Value)) (st : List Value) (w : XW) (kc ks : Nat) : Prop :=
  ∀ (Af : Nat → Prop) (ad0 : Nat → Nat) (n0 : Nat) (p : Program) (e : Env) (s : State) (m : MethodId) (args : Array Value) (below : List Frame) (meth : Method) (c : Code), XIn g M Af p s m args meth c →
  ∀ (ad : Nat → Nat) (H : Heap) (locs : List Loc) (ls : Array Slot), XF lv st w → n0 ≤ w.length → (∀ i, i < n0 → ad i = ad0 i) → va_P g.1 vwCl (xw g ad w) H → va_D Af (xw g ad w) → va_S Af s.heap H locs → lvh ls M.2.2.1 ad lv →
  W p l e (xm_rm M) s m args below meth c H locs kc ks (MQ below (XQ g Q Af ad0 n0) args s M.2.2.2.2.2.1 M.2.2.2.2.2.2 Af) (F0 m pc ls (st.map (xv ad)))
theorem xv_cat (ad : Nat → Nat) (v : Value) : (xv ad v).category = v.category := by cases v <;> rfl
theorem lvh_eq {ls : Array Slot} {nL n : Nat} {ad ad' : Nat → Nat} {lv : List (Option Value)} (h : lvh ls nL ad lv) (ho : ∀ v, some v ∈ lv → xok n v) (ha : ∀ i, i < n → ad' i = ad i) : lvh ls nL ad' lv :=
  ⟨h.1, h.2.1, h.2.2.1, fun k v hk => by rw [xv_eq (ho v (List.mem_of_getElem? hk)) ha]; exact h.2.2.2 k v hk⟩
theorem st_eq {n : Nat} {ad ad' : Nat → Nat} {st : List Value} (ho : ∀ v ∈ st, xok n v) (ha : ∀ i, i < n → ad' i = ad i) : st.map (xv ad') = st.map (xv ad) := List.map_congr_left (fun v hv => xv_eq (ho v hv) ha)
theorem lvh_store {ls : Array Slot} {nL : Nat} {ad : Nat → Nat} {lv : List (Option Value)} {i : Nat} {v : Value} (h : lvh ls nL ad lv) (hi : i < nL) (hc : v.category = 1) :
    ∃ ls', storeLocals ls i (xv ad v) = some ls' ∧ lvh ls' nL ad (lv.set i (some v)) := by
  obtain ⟨h1, h2, h3, h4⟩ := h
  have hh : lv_has ls nL ((List.range lv.length).filterMap (fun k => match lv[k]? with | some (some u) => some (k, xv ad u) | _ => none)) := by
    refine ⟨h1, h2, fun q hq => ?_⟩
    obtain ⟨k, -, hk⟩ := List.mem_filterMap.mp hq
    split at hk
    · rename_i u hu
      cases hk
      exact h4 _ _ hu
    · cases hk
  obtain ⟨ls', e1, g1, g2, g3⟩ := lv_store1 (v := xv ad v) hh hi (by rw [xv_cat]; exact hc)
  refine ⟨ls', e1, g1, g2, fun k u hk => ?_, fun k u hk => ?_⟩
  · by_cases hki : i = k
    · subst hki
      rw [List.getElem?_set] at hk
      simp only [if_pos] at hk
      split at hk
      · cases hk; exact hc
      · cases hk
    · rw [List.getElem?_set_ne hki] at hk
      exact h3 k u hk
  · by_cases hki : i = k
    · subst hki
      rw [List.getElem?_set] at hk
      simp only [if_pos] at hk
      split at hk
      · cases hk; exact g3 (i, xv ad v) List.mem_cons_self
      · cases hk
    · rw [List.getElem?_set_ne hki] at hk
      refine g3 (k, xv ad u) (List.mem_cons_of_mem _ (List.mem_filter.mpr ⟨List.mem_filterMap.mpr ⟨k, List.mem_range.mpr ((List.getElem?_eq_some_iff.mp hk).1), by rw [hk]⟩, ?_⟩))
      have := h3 k u hk
      simp only [Bool.and_eq_true, Bool.not_eq_true', beq_eq_false_iff_ne, ne_eq, Bool.and_eq_false_iff]
      exact ⟨fun z => hki z.symm, Or.inr (by rw [xv_cat, this]; decide)⟩
theorem xf_push {lv : List (Option Value)} {st : List Value} {w : XW} (h : XF lv st w) {v : Value} (hv : xok w.length v) : XF lv (v :: st) w := ⟨h.1, fun u hu => by rcases List.mem_cons.mp hu with rfl | hu; exact hv; exact h.2.1 u hu, h.2.2⟩
theorem xf_int {lv : List (Option Value)} {st : List Value} {w : XW} (h : XF lv st w) {x : Int32} : XF lv (.int x :: st) w := xf_push h (xok_int _ _)
theorem xf_tail {lv : List (Option Value)} {st : List Value} {w : XW} {v : Value} (h : XF lv (v :: st) w) : XF lv st w := ⟨h.1, fun u hu => h.2.1 u (List.mem_cons_of_mem _ hu), h.2.2⟩
theorem xf_head {lv : List (Option Value)} {st : List Value} {w : XW} {v : Value} (h : XF lv (v :: st) w) : xok w.length v := h.2.1 v List.mem_cons_self
theorem xf_set {lv : List (Option Value)} {st : List Value} {w : XW} {v : Value} (h : XF lv st w) {i : Nat} (hv : xok w.length v) : XF (lv.set i (some v)) st w := ⟨h.1, h.2.1, fun u hu => by
  rcases List.mem_or_eq_of_mem_set hu with h1 | h1
  · exact h.2.2 u h1
  · cases h1; exact hv⟩
end
section
section XROWS
variable {l : Launch} {g : XG} {M : XM} {Q : Option Value → XW → Prop} {pc : Nat} {lv : List (Option Value)} {st : List Value} {w : XW} {kc ks : Nat}

theorem x_iload_n {k : Fin 4} {v : Int32} (hd : decode M.2.1 pc = .ok (.iload_n k, 1)) (hv : lv[(k : Nat)]? = some (some (.int v))) (h : XA l g M Q (pc + 1) lv (.int v :: st) w kc ks) : XA l g M Q pc lv st w kc ks := by
  intro Af ad0 n0 p e s m args below meth c X ad H locs ls hF hn ha hP hD hS hl
  exact lv_iload_n X.1 X.2.1 hd rfl (hl.2.2.2 _ _ hv) (h Af ad0 n0 p e s m args below meth c X ad H locs ls (xf_int hF) hn ha hP hD hS hl)
theorem x_iload {k : Nat} {v : Int32} (hd : decode M.2.1 pc = .ok (.iload k, 2)) (hv : lv[k]? = some (some (.int v))) (h : XA l g M Q (pc + 2) lv (.int v :: st) w kc ks) : XA l g M Q pc lv st w kc ks := by
  intro Af ad0 n0 p e s m args below meth c X ad H locs ls hF hn ha hP hD hS hl
  exact lv_iload X.1 X.2.1 hd (hl.2.2.2 _ _ hv) (h Af ad0 n0 p e s m args below meth c X ad H locs ls (xf_int hF) hn ha hP hD hS hl)
theorem x_aload_n {k : Fin 4} {a : Nat} (hd : decode M.2.1 pc = .ok (.aload_n k, 1)) (hv : lv[(k : Nat)]? = some (some (.ref a))) (h : XA l g M Q (pc + 1) lv (.ref a :: st) w kc ks) : XA l g M Q pc lv st w kc ks := by
  intro Af ad0 n0 p e s m args below meth c X ad H locs ls hF hn ha hP hD hS hl
  exact lv_aload_n X.1 X.2.1 hd rfl (hl.2.2.2 _ _ hv) (h Af ad0 n0 p e s m args below meth c X ad H locs ls (xf_push hF (hF.2.2 _ (List.mem_of_getElem? hv))) hn ha hP hD hS hl)
theorem x_aload {k : Nat} {a : Nat} (hd : decode M.2.1 pc = .ok (.aload k, 2)) (hv : lv[k]? = some (some (.ref a))) (h : XA l g M Q (pc + 2) lv (.ref a :: st) w kc ks) : XA l g M Q pc lv st w kc ks := by
  intro Af ad0 n0 p e s m args below meth c X ad H locs ls hF hn ha hP hD hS hl
  exact lv_aload X.1 X.2.1 hd (hl.2.2.2 _ _ hv) (h Af ad0 n0 p e s m args below meth c X ad H locs ls (xf_push hF (hF.2.2 _ (List.mem_of_getElem? hv))) hn ha hP hD hS hl)
theorem x_istore_n {k : Fin 4} {v : Int32} (hd : decode M.2.1 pc = .ok (.istore_n k, 1)) (hi : (k : Nat) < M.2.2.1) (h : XA l g M Q (pc + 1) (lv.set (k : Nat) (some (.int v))) st w kc ks) : XA l g M Q pc lv (.int v :: st) w kc ks := by
  intro Af ad0 n0 p e s m args below meth c X ad H locs ls hF hn ha hP hD hS hl
  obtain ⟨ls', e', hl'⟩ := lvh_store (v := .int v) hl hi rfl
  have hx := X.1
  have hb := X.2.1
  have K := h Af ad0 n0 p e s m args below meth c X ad H locs ls' (xf_set (xf_tail hF) (xf_head hF)) hn ha hP hD hS hl'
  intro T hT Y
  obtain ⟨t, a1, b1⟩ := K T hT Y
  refine ⟨t, ?_, b1⟩
  simp only [xv] at e'
  simp only [List.map_cons, xv]
  jvm_step Y.here [Y.here.top, ↓top_set Y.here.top, hx, hb, hd, e', Value.isRef]
  exact a1
theorem x_istore {k : Nat} {v : Int32} (hd : decode M.2.1 pc = .ok (.istore k, 2)) (hi : k < M.2.2.1) (h : XA l g M Q (pc + 2) (lv.set k (some (.int v))) st w kc ks) : XA l g M Q pc lv (.int v :: st) w kc ks := by
  intro Af ad0 n0 p e s m args below meth c X ad H locs ls hF hn ha hP hD hS hl
  obtain ⟨ls', e', hl'⟩ := lvh_store (v := .int v) hl hi rfl
  have hx := X.1
  have hb := X.2.1
  have K := h Af ad0 n0 p e s m args below meth c X ad H locs ls' (xf_set (xf_tail hF) (xf_head hF)) hn ha hP hD hS hl'
  intro T hT Y
  obtain ⟨t, a1, b1⟩ := K T hT Y
  refine ⟨t, ?_, b1⟩
  simp only [xv] at e'
  simp only [List.map_cons, xv]
  jvm_step Y.here [Y.here.top, ↓top_set Y.here.top, hx, hb, hd, e', Value.isRef]
  exact a1
theorem x_astore_n {k : Fin 4} {v : Nat} (hd : decode M.2.1 pc = .ok (.astore_n k, 1)) (hi : (k : Nat) < M.2.2.1) (h : XA l g M Q (pc + 1) (lv.set (k : Nat) (some (.ref v))) st w kc ks) : XA l g M Q pc lv (.ref v :: st) w kc ks := by
  intro Af ad0 n0 p e s m args below meth c X ad H locs ls hF hn ha hP hD hS hl
  obtain ⟨ls', e', hl'⟩ := lvh_store (v := .ref v) hl hi rfl
  have hx := X.1
  have hb := X.2.1
  have K := h Af ad0 n0 p e s m args below meth c X ad H locs ls' (xf_set (xf_tail hF) (xf_head hF)) hn ha hP hD hS hl'
  intro T hT Y
  obtain ⟨t, a1, b1⟩ := K T hT Y
  refine ⟨t, ?_, b1⟩
  simp only [xv] at e'
  simp only [List.map_cons, xv]
  jvm_step Y.here [Y.here.top, ↓top_set Y.here.top, hx, hb, hd, e', Value.isRef]
  exact a1
theorem x_astore {k : Nat} {v : Nat} (hd : decode M.2.1 pc = .ok (.astore k, 2)) (hi : k < M.2.2.1) (h : XA l g M Q (pc + 2) (lv.set k (some (.ref v))) st w kc ks) : XA l g M Q pc lv (.ref v :: st) w kc ks := by
  intro Af ad0 n0 p e s m args below meth c X ad H locs ls hF hn ha hP hD hS hl
  obtain ⟨ls', e', hl'⟩ := lvh_store (v := .ref v) hl hi rfl
  have hx := X.1
  have hb := X.2.1
  have K := h Af ad0 n0 p e s m args below meth c X ad H locs ls' (xf_set (xf_tail hF) (xf_head hF)) hn ha hP hD hS hl'
  intro T hT Y
  obtain ⟨t, a1, b1⟩ := K T hT Y
  refine ⟨t, ?_, b1⟩
  simp only [xv] at e'
  simp only [List.map_cons, xv]
  jvm_step Y.here [Y.here.top, ↓top_set Y.here.top, hx, hb, hd, e', Value.isRef]
  exact a1
theorem x_iinc {k : Nat} {n : Int} {v : Int32} {v' : Int32} (hd : decode M.2.1 pc = .ok (.iinc k n, 3)) (hi : k < M.2.2.1) (hv : lv[k]? = some (some (.int v))) (hn' : v + Int32.ofInt n = v') (h : XA l g M Q (pc + 3) (lv.set k (some (.int v'))) st w kc ks) : XA l g M Q pc lv st w kc ks := by
  intro Af ad0 n0 p e s m args below meth c X ad H locs ls hF hn ha hP hD hS hl
  subst hn'
  obtain ⟨ls', e', hl'⟩ := lvh_store (v := .int (v + Int32.ofInt n)) hl hi rfl
  have hx := X.1
  have hb := X.2.1
  have hg : ls[k]? = some (.val (.int v)) := hl.2.2.2 _ _ hv
  have K := h Af ad0 n0 p e s m args below meth c X ad H locs ls' (xf_set hF (xok_int _ _)) hn ha hP hD hS hl'
  intro T hT Y
  obtain ⟨t, a1, b1⟩ := K T hT Y
  refine ⟨t, ?_, b1⟩
  simp only [xv] at e'
  jvm_step Y.here [Y.here.top, ↓top_set Y.here.top, hx, hb, hd, hg, e']
  exact a1
theorem x_iconst {n : Int} {v : Int32} (hd : decode M.2.1 pc = .ok (.iconst n, 1)) (hv : Int32.ofInt n = v) (h : XA l g M Q (pc + 1) lv (.int v :: st) w kc ks) : XA l g M Q pc lv st w kc ks := by
  intro Af ad0 n0 p e s m args below meth c X ad H locs ls hF hn ha hP hD hS hl
  exact lv_iconst X.1 X.2.1 hd hv (h Af ad0 n0 p e s m args below meth c X ad H locs ls (xf_int hF) hn ha hP hD hS hl)
theorem x_bipush {n : Int} {v : Int32} (hd : decode M.2.1 pc = .ok (.bipush n, 2)) (hv : (Int8.ofInt n).toInt32 = v) (h : XA l g M Q (pc + 2) lv (.int v :: st) w kc ks) : XA l g M Q pc lv st w kc ks := by
  intro Af ad0 n0 p e s m args below meth c X ad H locs ls hF hn ha hP hD hS hl
  exact lv_bipush X.1 X.2.1 hd hv (h Af ad0 n0 p e s m args below meth c X ad H locs ls (xf_int hF) hn ha hP hD hS hl)
theorem x_sipush {n : Int} {v : Int32} (hd : decode M.2.1 pc = .ok (.sipush n, 3)) (hv : (Int16.ofInt n).toInt32 = v) (h : XA l g M Q (pc + 3) lv (.int v :: st) w kc ks) : XA l g M Q pc lv st w kc ks := by
  intro Af ad0 n0 p e s m args below meth c X ad H locs ls hF hn ha hP hD hS hl
  exact lv_sipush X.1 X.2.1 hd hv (h Af ad0 n0 p e s m args below meth c X ad H locs ls (xf_int hF) hn ha hP hD hS hl)
theorem x_ldc_w {n : Nat} {v : Int32} (hd : decode M.2.1 pc = .ok (.ldc_w n, 3)) (hc : Cond.constant M.1.cls n v ∈ xt) (h : XA l g M Q (pc + 3) lv (.int v :: st) w kc ks) : XA l g M Q pc lv st w kc ks := by
  intro Af ad0 n0 p e s m args below meth c X ad H locs ls hF hn ha hP hD hS hl
  exact lv_ldcw X.1 X.2.1 X.2.2.2.2.1 (X.2.2.2.2.2.1 _ hc) hd (h Af ad0 n0 p e s m args below meth c X ad H locs ls (xf_int hF) hn ha hP hD hS hl)
theorem x_iadd {x y : Int32} (hd : decode M.2.1 pc = .ok (.iadd, 1)) (h : XA l g M Q (pc + 1) lv (.int (x + y) :: st) w kc ks) : XA l g M Q pc lv (.int y :: .int x :: st) w kc ks := by
  intro Af ad0 n0 p e s m args below meth c X ad H locs ls hF hn ha hP hD hS hl
  exact lv_iadd X.1 X.2.1 hd (h Af ad0 n0 p e s m args below meth c X ad H locs ls (xf_int (xf_tail (xf_tail hF))) hn ha hP hD hS hl)
theorem x_isub {x y : Int32} (hd : decode M.2.1 pc = .ok (.isub, 1)) (h : XA l g M Q (pc + 1) lv (.int (x - y) :: st) w kc ks) : XA l g M Q pc lv (.int y :: .int x :: st) w kc ks := by
  intro Af ad0 n0 p e s m args below meth c X ad H locs ls hF hn ha hP hD hS hl
  exact lv_isub X.1 X.2.1 hd (h Af ad0 n0 p e s m args below meth c X ad H locs ls (xf_int (xf_tail (xf_tail hF))) hn ha hP hD hS hl)
theorem x_imul {x y : Int32} (hd : decode M.2.1 pc = .ok (.imul, 1)) (h : XA l g M Q (pc + 1) lv (.int (x * y) :: st) w kc ks) : XA l g M Q pc lv (.int y :: .int x :: st) w kc ks := by
  intro Af ad0 n0 p e s m args below meth c X ad H locs ls hF hn ha hP hD hS hl
  exact lv_imul X.1 X.2.1 hd (h Af ad0 n0 p e s m args below meth c X ad H locs ls (xf_int (xf_tail (xf_tail hF))) hn ha hP hD hS hl)
theorem x_iand {x y : Int32} (hd : decode M.2.1 pc = .ok (.iand, 1)) (h : XA l g M Q (pc + 1) lv (.int (x &&& y) :: st) w kc ks) : XA l g M Q pc lv (.int y :: .int x :: st) w kc ks := by
  intro Af ad0 n0 p e s m args below meth c X ad H locs ls hF hn ha hP hD hS hl
  exact lv_iand X.1 X.2.1 hd (h Af ad0 n0 p e s m args below meth c X ad H locs ls (xf_int (xf_tail (xf_tail hF))) hn ha hP hD hS hl)
theorem x_ior {x y : Int32} (hd : decode M.2.1 pc = .ok (.ior, 1)) (h : XA l g M Q (pc + 1) lv (.int (x ||| y) :: st) w kc ks) : XA l g M Q pc lv (.int y :: .int x :: st) w kc ks := by
  intro Af ad0 n0 p e s m args below meth c X ad H locs ls hF hn ha hP hD hS hl
  exact lv_ior X.1 X.2.1 hd (h Af ad0 n0 p e s m args below meth c X ad H locs ls (xf_int (xf_tail (xf_tail hF))) hn ha hP hD hS hl)
theorem x_ixor {x y : Int32} (hd : decode M.2.1 pc = .ok (.ixor, 1)) (h : XA l g M Q (pc + 1) lv (.int (x ^^^ y) :: st) w kc ks) : XA l g M Q pc lv (.int y :: .int x :: st) w kc ks := by
  intro Af ad0 n0 p e s m args below meth c X ad H locs ls hF hn ha hP hD hS hl
  exact lv_ixor X.1 X.2.1 hd (h Af ad0 n0 p e s m args below meth c X ad H locs ls (xf_int (xf_tail (xf_tail hF))) hn ha hP hD hS hl)
theorem x_ishl {x y : Int32} (hd : decode M.2.1 pc = .ok (.ishl, 1)) (h : XA l g M Q (pc + 1) lv (.int (x <<< (y &&& 31)) :: st) w kc ks) : XA l g M Q pc lv (.int y :: .int x :: st) w kc ks := by
  intro Af ad0 n0 p e s m args below meth c X ad H locs ls hF hn ha hP hD hS hl
  exact lv_ishl X.1 X.2.1 hd (h Af ad0 n0 p e s m args below meth c X ad H locs ls (xf_int (xf_tail (xf_tail hF))) hn ha hP hD hS hl)
theorem x_ishr {x y : Int32} (hd : decode M.2.1 pc = .ok (.ishr, 1)) (h : XA l g M Q (pc + 1) lv (.int (x >>> (y &&& 31)) :: st) w kc ks) : XA l g M Q pc lv (.int y :: .int x :: st) w kc ks := by
  intro Af ad0 n0 p e s m args below meth c X ad H locs ls hF hn ha hP hD hS hl
  exact lv_ishr X.1 X.2.1 hd (h Af ad0 n0 p e s m args below meth c X ad H locs ls (xf_int (xf_tail (xf_tail hF))) hn ha hP hD hS hl)
theorem x_iushr {x y v : Int32} (hd : decode M.2.1 pc = .ok (.iushr, 1)) (hv : (x.toUInt32 >>> (y.toUInt32 &&& Int32.toUInt32 31)).toInt32 = v) (h : XA l g M Q (pc + 1) lv (.int v :: st) w kc ks) : XA l g M Q pc lv (.int y :: .int x :: st) w kc ks := by
  intro Af ad0 n0 p e s m args below meth c X ad H locs ls hF hn ha hP hD hS hl
  exact lv_iushr X.1 X.2.1 hd hv (h Af ad0 n0 p e s m args below meth c X ad H locs ls (xf_int (xf_tail (xf_tail hF))) hn ha hP hD hS hl)
theorem x_irem {x y : Int32} (hd : decode M.2.1 pc = .ok (.irem, 1)) (hne : ¬ y = 0) (h : XA l g M Q (pc + 1) lv (.int (x - x / y * y) :: st) w kc ks) : XA l g M Q pc lv (.int y :: .int x :: st) w kc ks := by
  intro Af ad0 n0 p e s m args below meth c X ad H locs ls hF hn ha hP hD hS hl
  exact lv_irem X.1 X.2.1 hd hne (h Af ad0 n0 p e s m args below meth c X ad H locs ls (xf_int (xf_tail (xf_tail hF))) hn ha hP hD hS hl)
theorem x_idiv {x y : Int32} (hd : decode M.2.1 pc = .ok (.idiv, 1)) (hne : ¬ y = 0) (h : XA l g M Q (pc + 1) lv (.int (x / y) :: st) w kc ks) : XA l g M Q pc lv (.int y :: .int x :: st) w kc ks := by
  intro Af ad0 n0 p e s m args below meth c X ad H locs ls hF hn ha hP hD hS hl
  exact lv_idiv X.1 X.2.1 hd hne (h Af ad0 n0 p e s m args below meth c X ad H locs ls (xf_int (xf_tail (xf_tail hF))) hn ha hP hD hS hl)
theorem x_ineg {x : Int32} (hd : decode M.2.1 pc = .ok (.ineg, 1)) (h : XA l g M Q (pc + 1) lv (.int (-x) :: st) w kc ks) : XA l g M Q pc lv (.int x :: st) w kc ks := by
  intro Af ad0 n0 p e s m args below meth c X ad H locs ls hF hn ha hP hD hS hl
  exact lv_ineg X.1 X.2.1 hd (h Af ad0 n0 p e s m args below meth c X ad H locs ls (xf_int (xf_tail hF)) hn ha hP hD hS hl)
theorem x_dup {v : Value} (hd : decode M.2.1 pc = .ok (.dup, 1)) (hv : v.category = 1) (h : XA l g M Q (pc + 1) lv (v :: v :: st) w kc ks) : XA l g M Q pc lv (v :: st) w kc ks := by
  intro Af ad0 n0 p e s m args below meth c X ad H locs ls hF hn ha hP hD hS hl
  exact lv_dup X.1 X.2.1 hd (by rw [xv_cat]; exact hv) (h Af ad0 n0 p e s m args below meth c X ad H locs ls (xf_push hF (xf_head hF)) hn ha hP hD hS hl)
theorem x_pop {v : Value} (hd : decode M.2.1 pc = .ok (.pop, 1)) (hv : v.category = 1) (h : XA l g M Q (pc + 1) lv st w kc ks) : XA l g M Q pc lv (v :: st) w kc ks := by
  intro Af ad0 n0 p e s m args below meth c X ad H locs ls hF hn ha hP hD hS hl
  exact lv_pop X.1 X.2.1 hd (by rw [xv_cat]; exact hv) (h Af ad0 n0 p e s m args below meth c X ad H locs ls (xf_tail hF) hn ha hP hD hS hl)
theorem x_dup2 {v u : Value} (hd : decode M.2.1 pc = .ok (.dup2, 1)) (hv : v.category = 1) (hu : u.category = 1) (h : XA l g M Q (pc + 1) lv (v :: u :: v :: u :: st) w kc ks) : XA l g M Q pc lv (v :: u :: st) w kc ks := by
  intro Af ad0 n0 p e s m args below meth c X ad H locs ls hF hn ha hP hD hS hl
  exact lv_dup2_11 X.1 X.2.1 hd (by rw [xv_cat]; exact hv) (by rw [xv_cat]; exact hu) (h Af ad0 n0 p e s m args below meth c X ad H locs ls (xf_push (xf_push hF (xf_head (xf_tail hF))) (xf_head hF)) hn ha hP hD hS hl)
theorem x_goto {off : Int} {tgt : Nat} (hd : decode M.2.1 pc = .ok (.goto off, 3)) (ht : (pc : Int) + off = (tgt : Int)) (h : XA l g M Q tgt lv st w kc ks) : XA l g M Q pc lv st w kc ks := by
  intro Af ad0 n0 p e s m args below meth c X ad H locs ls hF hn ha hP hD hS hl
  exact lv_goto X.1 X.2.1 hd ht (h Af ad0 n0 p e s m args below meth c X ad H locs ls hF hn ha hP hD hS hl)
theorem x_if_eq {x : Int32} {off : Int} {tgt : Nat} (hd : decode M.2.1 pc = .ok (.ifCond .eq off, 3)) (ht : (pc : Int) + off = (tgt : Int)) (kt : x = 0 → XA l g M Q tgt lv st w kc ks) (kf : ¬ x = 0 → XA l g M Q (pc + 3) lv st w kc ks) : XA l g M Q pc lv (.int x :: st) w kc ks := by
  intro Af ad0 n0 p e s m args below meth c X ad H locs ls hF hn ha hP hD hS hl
  exact lv_if_eq X.1 X.2.1 hd ht (fun z => kt z Af ad0 n0 p e s m args below meth c X ad H locs ls (xf_tail hF) hn ha hP hD hS hl) (fun z => kf z Af ad0 n0 p e s m args below meth c X ad H locs ls (xf_tail hF) hn ha hP hD hS hl)
theorem x_icmp_eq {x y : Int32} {off : Int} {tgt : Nat} (hd : decode M.2.1 pc = .ok (.if_icmp .eq off, 3)) (ht : (pc : Int) + off = (tgt : Int)) (kt : x = y → XA l g M Q tgt lv st w kc ks) (kf : ¬ x = y → XA l g M Q (pc + 3) lv st w kc ks) : XA l g M Q pc lv (.int y :: .int x :: st) w kc ks := by
  intro Af ad0 n0 p e s m args below meth c X ad H locs ls hF hn ha hP hD hS hl
  exact lv_icmp_eq X.1 X.2.1 hd ht (fun z => kt z Af ad0 n0 p e s m args below meth c X ad H locs ls (xf_tail (xf_tail hF)) hn ha hP hD hS hl) (fun z => kf z Af ad0 n0 p e s m args below meth c X ad H locs ls (xf_tail (xf_tail hF)) hn ha hP hD hS hl)
theorem x_if_ne {x : Int32} {off : Int} {tgt : Nat} (hd : decode M.2.1 pc = .ok (.ifCond .ne off, 3)) (ht : (pc : Int) + off = (tgt : Int)) (kt : ¬ x = 0 → XA l g M Q tgt lv st w kc ks) (kf : x = 0 → XA l g M Q (pc + 3) lv st w kc ks) : XA l g M Q pc lv (.int x :: st) w kc ks := by
  intro Af ad0 n0 p e s m args below meth c X ad H locs ls hF hn ha hP hD hS hl
  exact lv_if_ne X.1 X.2.1 hd ht (fun z => kt z Af ad0 n0 p e s m args below meth c X ad H locs ls (xf_tail hF) hn ha hP hD hS hl) (fun z => kf z Af ad0 n0 p e s m args below meth c X ad H locs ls (xf_tail hF) hn ha hP hD hS hl)
theorem x_icmp_ne {x y : Int32} {off : Int} {tgt : Nat} (hd : decode M.2.1 pc = .ok (.if_icmp .ne off, 3)) (ht : (pc : Int) + off = (tgt : Int)) (kt : ¬ x = y → XA l g M Q tgt lv st w kc ks) (kf : x = y → XA l g M Q (pc + 3) lv st w kc ks) : XA l g M Q pc lv (.int y :: .int x :: st) w kc ks := by
  intro Af ad0 n0 p e s m args below meth c X ad H locs ls hF hn ha hP hD hS hl
  exact lv_icmp_ne X.1 X.2.1 hd ht (fun z => kt z Af ad0 n0 p e s m args below meth c X ad H locs ls (xf_tail (xf_tail hF)) hn ha hP hD hS hl) (fun z => kf z Af ad0 n0 p e s m args below meth c X ad H locs ls (xf_tail (xf_tail hF)) hn ha hP hD hS hl)
theorem x_if_lt {x : Int32} {off : Int} {tgt : Nat} (hd : decode M.2.1 pc = .ok (.ifCond .lt off, 3)) (ht : (pc : Int) + off = (tgt : Int)) (kt : x < 0 → XA l g M Q tgt lv st w kc ks) (kf : ¬ x < 0 → XA l g M Q (pc + 3) lv st w kc ks) : XA l g M Q pc lv (.int x :: st) w kc ks := by
  intro Af ad0 n0 p e s m args below meth c X ad H locs ls hF hn ha hP hD hS hl
  exact lv_if_lt X.1 X.2.1 hd ht (fun z => kt z Af ad0 n0 p e s m args below meth c X ad H locs ls (xf_tail hF) hn ha hP hD hS hl) (fun z => kf z Af ad0 n0 p e s m args below meth c X ad H locs ls (xf_tail hF) hn ha hP hD hS hl)
theorem x_icmp_lt {x y : Int32} {off : Int} {tgt : Nat} (hd : decode M.2.1 pc = .ok (.if_icmp .lt off, 3)) (ht : (pc : Int) + off = (tgt : Int)) (kt : x < y → XA l g M Q tgt lv st w kc ks) (kf : ¬ x < y → XA l g M Q (pc + 3) lv st w kc ks) : XA l g M Q pc lv (.int y :: .int x :: st) w kc ks := by
  intro Af ad0 n0 p e s m args below meth c X ad H locs ls hF hn ha hP hD hS hl
  exact lv_icmp_lt X.1 X.2.1 hd ht (fun z => kt z Af ad0 n0 p e s m args below meth c X ad H locs ls (xf_tail (xf_tail hF)) hn ha hP hD hS hl) (fun z => kf z Af ad0 n0 p e s m args below meth c X ad H locs ls (xf_tail (xf_tail hF)) hn ha hP hD hS hl)
theorem x_if_ge {x : Int32} {off : Int} {tgt : Nat} (hd : decode M.2.1 pc = .ok (.ifCond .ge off, 3)) (ht : (pc : Int) + off = (tgt : Int)) (kt : 0 ≤ x → XA l g M Q tgt lv st w kc ks) (kf : ¬ 0 ≤ x → XA l g M Q (pc + 3) lv st w kc ks) : XA l g M Q pc lv (.int x :: st) w kc ks := by
  intro Af ad0 n0 p e s m args below meth c X ad H locs ls hF hn ha hP hD hS hl
  exact lv_if_ge X.1 X.2.1 hd ht (fun z => kt z Af ad0 n0 p e s m args below meth c X ad H locs ls (xf_tail hF) hn ha hP hD hS hl) (fun z => kf z Af ad0 n0 p e s m args below meth c X ad H locs ls (xf_tail hF) hn ha hP hD hS hl)
theorem x_icmp_ge {x y : Int32} {off : Int} {tgt : Nat} (hd : decode M.2.1 pc = .ok (.if_icmp .ge off, 3)) (ht : (pc : Int) + off = (tgt : Int)) (kt : y ≤ x → XA l g M Q tgt lv st w kc ks) (kf : ¬ y ≤ x → XA l g M Q (pc + 3) lv st w kc ks) : XA l g M Q pc lv (.int y :: .int x :: st) w kc ks := by
  intro Af ad0 n0 p e s m args below meth c X ad H locs ls hF hn ha hP hD hS hl
  exact lv_icmp_ge X.1 X.2.1 hd ht (fun z => kt z Af ad0 n0 p e s m args below meth c X ad H locs ls (xf_tail (xf_tail hF)) hn ha hP hD hS hl) (fun z => kf z Af ad0 n0 p e s m args below meth c X ad H locs ls (xf_tail (xf_tail hF)) hn ha hP hD hS hl)
theorem x_if_gt {x : Int32} {off : Int} {tgt : Nat} (hd : decode M.2.1 pc = .ok (.ifCond .gt off, 3)) (ht : (pc : Int) + off = (tgt : Int)) (kt : 0 < x → XA l g M Q tgt lv st w kc ks) (kf : ¬ 0 < x → XA l g M Q (pc + 3) lv st w kc ks) : XA l g M Q pc lv (.int x :: st) w kc ks := by
  intro Af ad0 n0 p e s m args below meth c X ad H locs ls hF hn ha hP hD hS hl
  exact lv_if_gt X.1 X.2.1 hd ht (fun z => kt z Af ad0 n0 p e s m args below meth c X ad H locs ls (xf_tail hF) hn ha hP hD hS hl) (fun z => kf z Af ad0 n0 p e s m args below meth c X ad H locs ls (xf_tail hF) hn ha hP hD hS hl)
theorem x_icmp_gt {x y : Int32} {off : Int} {tgt : Nat} (hd : decode M.2.1 pc = .ok (.if_icmp .gt off, 3)) (ht : (pc : Int) + off = (tgt : Int)) (kt : y < x → XA l g M Q tgt lv st w kc ks) (kf : ¬ y < x → XA l g M Q (pc + 3) lv st w kc ks) : XA l g M Q pc lv (.int y :: .int x :: st) w kc ks := by
  intro Af ad0 n0 p e s m args below meth c X ad H locs ls hF hn ha hP hD hS hl
  exact lv_icmp_gt X.1 X.2.1 hd ht (fun z => kt z Af ad0 n0 p e s m args below meth c X ad H locs ls (xf_tail (xf_tail hF)) hn ha hP hD hS hl) (fun z => kf z Af ad0 n0 p e s m args below meth c X ad H locs ls (xf_tail (xf_tail hF)) hn ha hP hD hS hl)
theorem x_if_le {x : Int32} {off : Int} {tgt : Nat} (hd : decode M.2.1 pc = .ok (.ifCond .le off, 3)) (ht : (pc : Int) + off = (tgt : Int)) (kt : x ≤ 0 → XA l g M Q tgt lv st w kc ks) (kf : ¬ x ≤ 0 → XA l g M Q (pc + 3) lv st w kc ks) : XA l g M Q pc lv (.int x :: st) w kc ks := by
  intro Af ad0 n0 p e s m args below meth c X ad H locs ls hF hn ha hP hD hS hl
  exact lv_if_le X.1 X.2.1 hd ht (fun z => kt z Af ad0 n0 p e s m args below meth c X ad H locs ls (xf_tail hF) hn ha hP hD hS hl) (fun z => kf z Af ad0 n0 p e s m args below meth c X ad H locs ls (xf_tail hF) hn ha hP hD hS hl)
theorem x_icmp_le {x y : Int32} {off : Int} {tgt : Nat} (hd : decode M.2.1 pc = .ok (.if_icmp .le off, 3)) (ht : (pc : Int) + off = (tgt : Int)) (kt : x ≤ y → XA l g M Q tgt lv st w kc ks) (kf : ¬ x ≤ y → XA l g M Q (pc + 3) lv st w kc ks) : XA l g M Q pc lv (.int y :: .int x :: st) w kc ks := by
  intro Af ad0 n0 p e s m args below meth c X ad H locs ls hF hn ha hP hD hS hl
  exact lv_icmp_le X.1 X.2.1 hd ht (fun z => kt z Af ad0 n0 p e s m args below meth c X ad H locs ls (xf_tail (xf_tail hF)) hn ha hP hD hS hl) (fun z => kf z Af ad0 n0 p e s m args below meth c X ad H locs ls (xf_tail (xf_tail hF)) hn ha hP hD hS hl)
theorem x_switchOut {dflt lo hi : Int} {offs : Array Int} {len : Nat} {x : Int32} {tgt : Nat} (hd : decode M.2.1 pc = .ok (.tableswitch dflt lo hi offs, len)) (hx : x.toInt < lo ∨ hi < x.toInt) (ht : (pc : Int) + dflt = (tgt : Int)) (h : XA l g M Q tgt lv st w kc ks) : XA l g M Q pc lv (.int x :: st) w kc ks := by
  intro Af ad0 n0 p e s m args below meth c X ad H locs ls hF hn ha hP hD hS hl
  exact lv_tableOut X.1 X.2.1 hd hx ht (h Af ad0 n0 p e s m args below meth c X ad H locs ls (xf_tail hF) hn ha hP hD hS hl)
theorem x_switchIn {dflt lo hi : Int} {offs : Array Int} {len : Nat} {x : Int32} {off : Int} {tgt : Nat} (hd : decode M.2.1 pc = .ok (.tableswitch dflt lo hi offs, len)) (h1 : ¬ x.toInt < lo) (h2 : ¬ hi < x.toInt) (ho : offs[(x.toInt - lo).toNat]? = some off) (ht : (pc : Int) + off = (tgt : Int)) (h : XA l g M Q tgt lv st w kc ks) : XA l g M Q pc lv (.int x :: st) w kc ks := by
  intro Af ad0 n0 p e s m args below meth c X ad H locs ls hF hn ha hP hD hS hl
  exact lv_tableIn X.1 X.2.1 hd h1 h2 ho ht (h Af ad0 n0 p e s m args below meth c X ad H locs ls (xf_tail hF) hn ha hP hD hS hl)
/-- fewer locals are known -/
theorem x_drop {lv' : List (Option Value)} (hd : ∀ (k : Nat) (v : Value), lv'[k]? = some (some v) → lv[k]? = some (some v)) (h : XA l g M Q pc lv' st w kc ks) : XA l g M Q pc lv st w kc ks := by
  intro Af ad0 n0 p e s m args below meth c X ad H locs ls hF hn ha hP hD hS hl
  exact h Af ad0 n0 p e s m args below meth c X ad H locs ls ⟨hF.1, hF.2.1, fun v hv => by
    obtain ⟨k, hk⟩ := List.getElem?_of_mem hv
    exact hF.2.2 v (List.mem_of_getElem? (hd k v hk))⟩ hn ha hP hD hS ⟨hl.1, hl.2.1, fun k v hk => hl.2.2.1 k v (hd k v hk), fun k v hk => hl.2.2.2 k v (hd k v hk)⟩
/-- more is made than was -/
theorem x_widen {kc' ks' : Nat} (h1 : kc ≤ kc') (h2 : ks ≤ ks') (h : XA l g M Q pc lv st w kc' ks') : XA l g M Q pc lv st w kc ks := by
  intro Af ad0 n0 p e s m args below meth c X ad H locs ls hF hn ha hP hD hS hl
  exact W.widen h1 h2 (h Af ad0 n0 p e s m args below meth c X ad H locs ls hF hn ha hP hD hS hl)
theorem x_reti {v : Int32} (hd : decode M.2.1 pc = .ok (.ireturn, 1)) (hr : M.2.2.2.1 = some .int) (hc : M.2.2.2.2.2.1 = kc) (hs : M.2.2.2.2.2.2 = ks) (h : Q (some (.int v)) w) : XA l g M Q pc lv [.int v] w kc ks := by
  intro Af ad0 n0 p e s m args below meth c X ad H locs ls hF hn ha hP hD hS hl
  subst hc; subst hs
  exact W.iret X.1 X.2.1 (X.2.2.1.trans hr) (fun t ht hW => ⟨⟨some (.int v), w, ad, rfl, h, hF.1, (fun u hu => by cases hu; exact xok_int _ _), hn, ha, by rw [ht]; exact hP, hD⟩, hS.F ht⟩) hS.2.2 hd X.2.2.2.2.2.2.1
theorem x_retz {v : Int32} (hd : decode M.2.1 pc = .ok (.ireturn, 1)) (hr : M.2.2.2.1 = some .boolean) (hv : narrow .boolean (.int v) = .int v) (hc : M.2.2.2.2.2.1 = kc) (hs : M.2.2.2.2.2.2 = ks) (h : Q (some (.int v)) w) : XA l g M Q pc lv [.int v] w kc ks := by
  intro Af ad0 n0 p e s m args below meth c X ad H locs ls hF hn ha hP hD hS hl
  subst hc; subst hs
  exact W.zret X.1 X.2.1 (X.2.2.1.trans hr) hv (fun t ht hW => ⟨⟨some (.int v), w, ad, rfl, h, hF.1, (fun u hu => by cases hu; exact xok_int _ _), hn, ha, by rw [ht]; exact hP, hD⟩, hS.F ht⟩) hS.2.2 hd X.2.2.2.2.2.2.1
theorem x_retv (hd : decode M.2.1 pc = .ok (.return_, 1)) (hr : M.2.2.2.1 = none) (hc : M.2.2.2.2.2.1 = kc) (hs : M.2.2.2.2.2.2 = ks) (h : Q none w) : XA l g M Q pc lv [] w kc ks := by
  intro Af ad0 n0 p e s m args below meth c X ad H locs ls hF hn ha hP hD hS hl
  subst hc; subst hs
  exact W.vret X.1 X.2.1 (X.2.2.1.trans hr) (fun t ht hW => ⟨⟨none, w, ad, rfl, h, hF.1, (fun u hu => by cases hu), hn, ha, by rw [ht]; exact hP, hD⟩, hS.F ht⟩) hS.2.2 hd X.2.2.2.2.2.2.1
end XROWS
end
section
/-! ===== fields, arrays, new ===== -/
theorem x_in : ∀ (ci : Nat) (q : vw_C), vwCl[ci]? = some q → ∀ w ∈ u_ws q.1 q.2.1 q.2.2, w ∈ xt := by
  suffices hh : ∀ (ci : Nat) (q : vw_C), vwCl[ci]? = some q → ∀ w ∈ u_ws q.1 q.2.1 q.2.2, w ∈ lw_tbl ∧ goodWord w = true from fun ci q h w hw => xt_in (hh ci q h w hw).1 (hh ci q h w hw).2
  intro ci q h
  match ci, h with
  | 0, h => cases h; decide +kernel
  | 1, h => cases h; decide +kernel
  | 2, h => cases h; decide +kernel
  | 3, h => cases h; decide +kernel
  | 4, h => cases h; decide +kernel
  | 5, h => cases h; decide +kernel
  | 6, h => cases h; decide +kernel
  | 7, h => cases h; decide +kernel
  | k + 8, h => simp [vwCl] at h
theorem x_ty : ∀ (ci : Nat) (q : vw_C), vwCl[ci]? = some q → ∃ ty : Nat → FieldType, (∀ k, k < q.2.2 → parseFieldDescriptor (q.2.1 k).2.2.1 = some (ty k)) ∧ ∀ a, a < q.2.2 → ∀ b, b < q.2.2 → a ≠ b → (q.2.1 a).2.1 ≠ (q.2.1 b).2.1 := by
  intro ci q h
  match ci, h with
  | 0, h => cases h; exact ⟨tyX0, tyX0_ok, nmX0⟩
  | 1, h => cases h; exact ⟨tyX1, tyX1_ok, nmX1⟩
  | 2, h => cases h; exact ⟨tyX2, tyX2_ok, nmX2⟩
  | 3, h => cases h; exact ⟨tyX3, tyX3_ok, nmX3⟩
  | 4, h => cases h; exact ⟨tyX4, tyX4_ok, nmX4⟩
  | 5, h => cases h; exact ⟨tyX5, tyX5_ok, nmX5⟩
  | 6, h => cases h; exact ⟨tyX6, tyX6_ok, nmX6⟩
  | 7, h => cases h; exact ⟨tyX7, tyX7_ok, nmX7⟩
  | k + 8, h => simp [vwCl] at h
/-- entry idx of own's pool is field k of class ci -/
def xfl (own : String) (idx ci k : Nat) : Prop := ∃ q : vw_C, vwCl[ci]? = some q ∧ k < q.2.2 ∧ Cond.fieldLink own idx (q.2.1 k).1 (q.2.1 k).2.1 (q.2.1 k).2.2.1 ∈ xt
/-- a field that isn't final, an int -/
def xfi (ci k : Nat) : Prop := ∀ q : vw_C, vwCl[ci]? = some q → (q.2.1 k).2.2.2 = false ∧ parseFieldDescriptor (q.2.1 k).2.2.1 = some .int
/-- a final field of own, a reference -/
def xff (own : String) (ci k : Nat) : Prop := ∀ q : vw_C, vwCl[ci]? = some q → (q.2.1 k).2.2.2 = true ∧ (q.2.1 k).1 = own ∧ ∃ ty, parseFieldDescriptor (q.2.1 k).2.2.1 = some ty ∧ ∀ a : Nat, narrow ty (.ref a) = .ref a ∧ fits ty (.ref a) = true
theorem xw_set (g : XG) (ad : Nat → Nat) (w : XW) (k : Nat) (c : XC) : (xw g ad w).set k (ad k, xe g ad c) = xw g ad (w.set k c) := by
  apply List.ext_getElem?
  intro i
  rw [List.getElem?_set, xw_get, xw_get, List.getElem?_set]
  by_cases hk : k = i
  · subst hk
    by_cases hl : k < w.length
    · simp [hl, xw_len]
    · simp [hl, xw_len]
  · simp [hk]
theorem xw_push (g : XG) (ad : Nat → Nat) (w : XW) (c : XC) : xw g ad (w ++ [c]) = xw g ad w ++ [(ad w.length, xe g ad c)] := by
  simp [xw, List.mapIdx_append]
theorem xwok_set {w : XW} (h : xwok w) {k : Nat} {c : XC} (hc : xcok w.length c) : xwok (w.set k c) := by
  intro d hd
  rw [List.length_set]
  rcases List.mem_or_eq_of_mem_set hd with h1 | h1
  · exact h d h1
  · subst h1; exact hc
theorem xwok_push {w : XW} (h : xwok w) {c : XC} (hc : xcok (w.length + 1) c) : xwok (w ++ [c]) := by
  intro d hd
  rw [List.length_append, List.length_singleton]
  rcases List.mem_append.mp hd with h1 | h1
  · exact xcok_mono (h d h1) (Nat.le_succ _)
  · rw [List.mem_singleton.mp h1]; exact hc
section XHEAP
variable {l : Launch} {g : XG} {M : XM} {Q : Option Value → XW → Prop} {pc : Nat} {lv : List (Option Value)} {st : List Value} {w : XW} {kc ks : Nat}
theorem x_getf {idx ci k a : Nat} {fs : List Value} {v : Value} (hd : decode M.2.1 pc = .ok (.getfield idx, 3)) (hl : xfl M.1.cls idx ci k) (hw : w[a]? = some (.inr (.inr (ci, fs)))) (hv : fs[k]? = some v) (h : XA l g M Q (pc + 3) lv (v :: st) w kc ks) : XA l g M Q pc lv (.ref a :: st) w kc ks := by
  intro Af ad0 n0 p e s m args below meth c X ad H locs ls hF hn ha hP hD hS hls
  obtain ⟨⟨C, T, N⟩, hc, hk, hlk⟩ := hl
  have hvo : xok w.length v := hF.1 _ (List.mem_of_getElem? hw) v (List.mem_of_getElem? hv)
  exact va_get X.1 X.2.1 X.2.2.2.2.2.1 (x_in ci _ hc) X.2.2.2.2.1 X.2.2.2.2.2.2.2.1.1 hP a (xw_at hw) hc k hk (X.2.2.2.2.2.1 _ hlk) (fun _ h => h) (v := xv ad v) (by rw [List.getElem?_map, hv]; rfl) hd (h Af ad0 n0 p e s m args below meth c X ad H locs ls (xf_push (xf_tail hF) hvo) hn ha hP hD hS hls)
theorem x_puti {idx ci k a : Nat} {fs : List Value} {v : Int32} (hd : decode M.2.1 pc = .ok (.putfield idx, 3)) (hl : xfl M.1.cls idx ci k) (hi : xfi ci k) (hw : w[a]? = some (.inr (.inr (ci, fs)))) (hv : k < fs.length) (h : XA l g M Q (pc + 3) lv st (w.set a (.inr (.inr (ci, fs.set k (.int v))))) kc ks) : XA l g M Q pc lv (.int v :: .ref a :: st) w kc ks := by
  intro Af ad0 n0 p e s m args below meth c X ad H locs ls hF hn ha hP hD hS hls
  obtain ⟨⟨C, T, N⟩, hc, hk, hlk⟩ := hl
  obtain ⟨hi1, hi2⟩ := hi _ hc
  obtain ⟨ty, t1, t2⟩ := x_ty ci _ hc
  have hwo : xwok (w.set a (.inr (.inr (ci, fs.set k (.int v))))) := xwok_set hF.1 (fun u hu => by
    rcases List.mem_or_eq_of_mem_set hu with h1 | h1
    · exact hF.1 _ (List.mem_of_getElem? hw) u h1
    · subst h1; exact xok_int _ _)
  have hset : (xw g ad w).set a (ad a, .inr (ci, (fs.map (xv ad)).set k (.int v))) = xw g ad (w.set a (.inr (.inr (ci, fs.set k (.int v))))) := by
    rw [← xw_set]; congr 2; show Sum.inr _ = Sum.inr _; rw [List.map_set]; rfl
  refine va_put X.1 X.2.1 X.2.2.2.2.2.1 (x_in ci _ hc) ty t1 t2 X.2.2.2.2.1 X.2.2.2.2.2.2.2.1.1 hP hD hS a (xw_at hw) hc k hk (X.2.2.2.2.2.1 _ hlk) (fun _ h => h) hi1 hi2 rfl rfl (by rw [List.length_map]; exact hv) hd (fun H1 locs1 hP1 hD1 hS1 => ?_)
  replace hP1 := (congrArg (fun z => va_P g.1 vwCl z H1) hset).mp hP1
  replace hD1 := (congrArg (fun z => va_D Af z) hset).mp hD1
  exact h Af ad0 n0 p e s m args below meth c X ad H1 locs1 ls ⟨hwo, fun u hu => by rw [List.length_set]; exact (xf_tail (xf_tail hF)).2.1 u hu, fun u hu => by rw [List.length_set]; exact hF.2.2 u hu⟩ (by rw [List.length_set]; exact hn) ha hP1 hD1 hS1 hls
theorem x_putr {idx ci k a b : Nat} {fs : List Value} (hd : decode M.2.1 pc = .ok (.putfield idx, 3)) (hl : xfl M.1.cls idx ci k) (hi : xff M.1.cls ci k) (hin : M.1.name = "<init>") (hw : w[a]? = some (.inr (.inr (ci, fs)))) (hv : k < fs.length) (h : XA l g M Q (pc + 3) lv st (w.set a (.inr (.inr (ci, fs.set k (.ref b))))) kc ks) : XA l g M Q pc lv (.ref b :: .ref a :: st) w kc ks := by
  intro Af ad0 n0 p e s m args below meth c X ad H locs ls hF hn ha hP hD hS hls
  obtain ⟨⟨C, T, N⟩, hc, hk, hlk⟩ := hl
  obtain ⟨hi1, hi2, tyk, hi3, hi4⟩ := hi _ hc
  obtain ⟨ty, t1, t2⟩ := x_ty ci _ hc
  have hwo : xwok (w.set a (.inr (.inr (ci, fs.set k (.ref b))))) := xwok_set hF.1 (fun u hu => by
    rcases List.mem_or_eq_of_mem_set hu with h1 | h1
    · exact hF.1 _ (List.mem_of_getElem? hw) u h1
    · subst h1; exact xf_head hF)
  have hset : (xw g ad w).set a (ad a, .inr (ci, (fs.map (xv ad)).set k (.ref (ad b)))) = xw g ad (w.set a (.inr (.inr (ci, fs.set k (.ref b))))) := by
    rw [← xw_set]; congr 2; show Sum.inr _ = Sum.inr _; rw [List.map_set]; rfl
  refine va_putF X.1 X.2.1 X.2.2.2.2.2.1 (x_in ci _ hc) ty t1 t2 X.2.2.2.2.1 X.2.2.2.2.2.2.2.1.1 hP hD hS a (xw_at hw) hc k hk (X.2.2.2.2.2.1 _ hlk) (fun _ h => h) hi1 (X.2.2.2.2.2.2.2.2.1.trans hin) hi2 hi3 (hi4 _).1 (hi4 _).2 (by rw [List.length_map]; exact hv) hd (fun H1 locs1 hP1 hD1 hS1 => ?_)
  replace hP1 := (congrArg (fun z => va_P g.1 vwCl z H1) hset).mp hP1
  replace hD1 := (congrArg (fun z => va_D Af z) hset).mp hD1
  exact h Af ad0 n0 p e s m args below meth c X ad H1 locs1 ls ⟨hwo, fun u hu => by rw [List.length_set]; exact (xf_tail (xf_tail hF)).2.1 u hu, fun u hu => by rw [List.length_set]; exact hF.2.2 u hu⟩ (by rw [List.length_set]; exact hn) ha hP1 hD1 hS1 hls
theorem x_iald {a : Nat} {xs : List Int32} {i : Int32} (hd : decode M.2.1 pc = .ok (.iaload, 1)) (hw : w[a]? = some (.inl xs)) (hi : vp_in i xs.length) (h : XA l g M Q (pc + 1) lv (.int (xs.getD i.toNatClampNeg 0) :: st) w kc ks) : XA l g M Q pc lv (.int i :: .ref a :: st) w kc ks := by
  intro Af ad0 n0 p e s m args below meth c X ad H locs ls hF hn ha hP hD hS hls
  exact va_iald X.1 X.2.1 X.2.2.2.2.2.2.2.1.1 hP a 0 (xw_at hw) rfl hi hd (h Af ad0 n0 p e s m args below meth c X ad H locs ls (xf_int (xf_tail (xf_tail hF))) hn ha hP hD hS hls)
theorem x_iast {a : Nat} {xs : List Int32} {i x : Int32} (hd : decode M.2.1 pc = .ok (.iastore, 1)) (hw : w[a]? = some (.inl xs)) (hi : vp_in i xs.length) (h : XA l g M Q (pc + 1) lv st (w.set a (.inl (xs.set i.toNatClampNeg x))) kc ks) : XA l g M Q pc lv (.int x :: .int i :: .ref a :: st) w kc ks := by
  intro Af ad0 n0 p e s m args below meth c X ad H locs ls hF hn ha hP hD hS hls
  have hlt : i.toNatClampNeg < xs.length := Nat.not_le.mp fun q => hi (Or.inr q)
  have hset : (xw g ad w).set a (ad a, .inl (g.2.1, xs.length, .inl (upd (fun k => xs.getD k 0) i.toNatClampNeg x))) = xw g ad (w.set a (.inl (xs.set i.toNatClampNeg x))) := by
    rw [← xw_set]
    congr 2
    show (Sum.inl _ : va_E) = Sum.inl _
    congr 2
    rw [List.length_set]
    congr 2
    funext k
    simp only [upd, List.getD_eq_getElem?_getD, List.getElem?_set]
    by_cases hk : k = i.toNatClampNeg
    · subst hk; simp [hlt]
    · simp [hk, Ne.symm hk]
  refine va_iast X.1 X.2.1 X.2.2.2.2.2.2.2.1.1 hP hD hS a 0 (xw_at hw) rfl hi hd (fun H1 locs1 hP1 hD1 hS1 => ?_)
  rw [hset] at hP1 hD1
  exact h Af ad0 n0 p e s m args below meth c X ad H1 locs1 ls ⟨xwok_set hF.1 trivial, fun u hu => by rw [List.length_set]; exact (xf_tail (xf_tail (xf_tail hF))).2.1 u hu, fun u hu => by rw [List.length_set]; exact hF.2.2 u hu⟩ (by rw [List.length_set]; exact hn) ha hP1 hD1 hS1 hls
theorem x_alen {a : Nat} {xs : List Int32} {v : Int32} (hd : decode M.2.1 pc = .ok (.arraylength, 1)) (hw : w[a]? = some (.inl xs)) (hv : Int32.ofNat xs.length = v) (h : XA l g M Q (pc + 1) lv (.int v :: st) w kc ks) : XA l g M Q pc lv (.ref a :: st) w kc ks := by
  intro Af ad0 n0 p e s m args below meth c X ad H locs ls hF hn ha hP hD hS hls
  exact va_alen X.1 X.2.1 X.2.2.2.2.2.2.2.1.1 hP a 0 (xw_at hw) (ty := .int) rfl hv hd (h Af ad0 n0 p e s m args below meth c X ad H locs ls (xf_int (xf_tail hF)) hn ha hP hD hS hls)
theorem x_aald {a b : Nat} {rs : List (Option Nat)} {i : Int32} (hd : decode M.2.1 pc = .ok (.aaload, 1)) (hw : w[a]? = some (.inr (.inl rs))) (hi : vp_in i rs.length) (hb : rs.getD i.toNatClampNeg none = some b) (h : XA l g M Q (pc + 1) lv (.ref b :: st) w kc ks) : XA l g M Q pc lv (.int i :: .ref a :: st) w kc ks := by
  intro Af ad0 n0 p e s m args below meth c X ad H locs ls hF hn ha hP hD hS hls
  have hbo : b < w.length := by
    refine hF.1 _ (List.mem_of_getElem? hw) b ?_
    rw [List.getD_eq_getElem?_getD] at hb
    cases hq : rs[i.toNatClampNeg]? with
    | none => rw [hq] at hb; cases hb
    | some y => rw [hq] at hb; cases hb; exact List.mem_of_getElem? hq
  refine va_aldq X.1 X.2.1 X.2.2.2.2.2.2.2.1.1 hP a 1 (xw_at hw) (C := "PeerStorage$State") rfl hi hd ?_
  rw [hb]
  exact h Af ad0 n0 p e s m args below meth c X ad H locs ls (xf_push (xf_tail (xf_tail hF)) (fun j e => by cases e; exact hbo)) hn ha hP hD hS hls
theorem x_aast {a b : Nat} {rs : List (Option Nat)} {i : Int32} {fs : List Value} (hd : decode M.2.1 pc = .ok (.aastore, 1)) (hw : w[a]? = some (.inr (.inl rs))) (hi : vp_in i rs.length) (hb : w[b]? = some (.inr (.inr (5, fs)))) (h : XA l g M Q (pc + 1) lv st (w.set a (.inr (.inl (rs.set i.toNatClampNeg (some b))))) kc ks) : XA l g M Q pc lv (.ref b :: .int i :: .ref a :: st) w kc ks := by
  intro Af ad0 n0 p e s m args below meth c X ad H locs ls hF hn ha hP hD hS hls
  have hlt : i.toNatClampNeg < rs.length := Nat.not_le.mp fun q => hi (Or.inr q)
  have hset : (xw g ad w).set a (ad a, .inl (g.2.2, rs.length, .inr (.inr (.inr (.inr (va_up (fun k => (rs.getD k none).map ad) i.toNatClampNeg (some (ad b)))))))) = xw g ad (w.set a (.inr (.inl (rs.set i.toNatClampNeg (some b))))) := by
    rw [← xw_set]
    congr 2
    show (Sum.inl _ : va_E) = Sum.inl _
    congr 2
    rw [List.length_set]
    congr 5
    funext k
    simp only [va_up, List.getD_eq_getElem?_getD, List.getElem?_set]
    by_cases hk : k = i.toNatClampNeg
    · subst hk; simp [hlt]
    · simp [hk, Ne.symm hk]
  refine va_astq (r := (RX5, TX5, 4)) X.1 X.2.1 X.2.2.2.2.2.2.2.1.1 hP hD hS a 1 b 5 (xw_at hw) rfl (xw_at hb) rfl hi hd (fun H1 locs1 hP1 hD1 hS1 => ?_)
  rw [hset] at hP1 hD1
  have hbo : xok w.length (.ref b) := xf_head hF
  exact h Af ad0 n0 p e s m args below meth c X ad H1 locs1 ls ⟨xwok_set hF.1 (fun j hj => by
    rcases List.mem_or_eq_of_mem_set hj with h1 | h1
    · exact hF.1 _ (List.mem_of_getElem? hw) j h1
    · cases h1; exact hbo b rfl), fun u hu => by rw [List.length_set]; exact (xf_tail (xf_tail (xf_tail hF))).2.1 u hu, fun u hu => by rw [List.length_set]; exact hF.2.2 u hu⟩ (by rw [List.length_set]; exact hn) ha hP1 hD1 hS1 hls
end XHEAP
end
section
/-! ===== what a method makes ===== -/
def xdf (ci : Nat) (fs : List Value) : Prop := ∀ q : vw_C, vwCl[ci]? = some q → Cond.instantiable q.1 q.2.2 ∈ xt ∧ Cond.initialized q.1 ∈ xt ∧ (∀ v ∈ fs, ∀ i, v ≠ .ref i) ∧ ∃ ty : Nat → FieldType, (∀ k, k < q.2.2 → parseFieldDescriptor (q.2.1 k).2.2.1 = some (ty k)) ∧ ∀ j, j < q.2.2 → defaultValue (ty j) = vp_V fs j
def xup (ad : Nat → Nat) (n q : Nat) : Nat → Nat := fun i => if i = n then q else ad i
theorem xup_lt {ad : Nat → Nat} {n q i : Nat} (h : i < n) : xup ad n q i = ad i := if_neg (Nat.ne_of_lt h)
theorem xw_up {g : XG} {ad : Nat → Nat} {w : XW} {q : Nat} (h : xwok w) : xw g (xup ad w.length q) w = xw g ad w := by
  apply List.ext_getElem?
  intro i
  rw [xw_get, xw_get]
  cases hc : w[i]? with
  | none => rfl
  | some c =>
    have hi : i < w.length := (List.getElem?_eq_some_iff.mp hc).1
    simp only [Option.map_some]
    rw [xup_lt hi, xe_eq (h c (List.mem_of_getElem? hc)) (fun j hj => xup_lt hj)]
section XNEW
variable {l : Launch} {g : XG} {M : XM} {Q : Option Value → XW → Prop} {pc : Nat} {lv : List (Option Value)} {st : List Value} {w : XW} {kc ks : Nat}
/-- a cell more, at a new address -/
theorem x_grown {Af : Nat → Prop} {ad0 : Nat → Nat} {n0 : Nat} {p : Program} {e : Env} {s : State} {m : MethodId} {args : Array Value} {below : List Frame} {meth : Method} {c : Code} (X : XIn g M Af p s m args meth c) {ad : Nat → Nat} {H1 : Heap} {locs : List Loc} {ls : Array Slot} {cl : XC} {q : Nat} (hF : XF lv st w) (hc : xcok 0 cl) (hn : n0 ≤ w.length) (ha : ∀ i, i < n0 → ad i = ad0 i) (hP : va_P g.1 vwCl (xw g ad w ++ [(q, xe g ad cl)]) H1) (hD : va_D Af (xw g ad w ++ [(q, xe g ad cl)])) (hS : va_S Af s.heap H1 locs) (hls : lvh ls M.2.2.1 ad lv) {pc' : Nat} (h : XA l g M Q pc' lv (.ref w.length :: st) (w ++ [cl]) kc ks) : W p l e (xm_rm M) s m args below meth c H1 locs kc ks (MQ below (XQ g Q Af ad0 n0) args s M.2.2.2.2.2.1 M.2.2.2.2.2.2 Af) (F0 m pc' ls (.ref q :: st.map (xv ad))) := by
  have e1 : xw g (xup ad w.length q) (w ++ [cl]) = xw g ad w ++ [(q, xe g ad cl)] := by
    rw [xw_push, xw_up hF.1, xe_eq hc (fun i hi => absurd hi (Nat.not_lt_zero _)) (ad := ad)]
    simp [xup]
  have hw : w.length ≤ (w ++ [cl]).length := by simp
  have K := h Af ad0 n0 p e s m args below meth c X (xup ad w.length q) H1 locs ls ⟨xwok_push hF.1 (xcok_mono hc (Nat.zero_le _)), fun v hv => by
    rcases List.mem_cons.mp hv with rfl | hv
    · exact fun i e => by cases e; simp
    · exact xok_mono (hF.2.1 v hv) hw, fun v hv => xok_mono (hF.2.2 v hv) hw⟩ (Nat.le_trans hn hw) (fun i hi => by rw [xup_lt (Nat.lt_of_lt_of_le hi hn)]; exact ha i hi) (by rw [e1]; exact hP) (by rw [e1]; exact hD) hS (lvh_eq hls hF.2.2 (fun i hi => xup_lt hi))
  have e2 : (Value.ref w.length :: st).map (xv (xup ad w.length q)) = .ref q :: st.map (xv ad) := by
    rw [List.map_cons, st_eq hF.2.1 (fun i hi => xup_lt hi)]
    simp [xv, xup]
  rw [e2] at K
  exact K
theorem x_new {idx ci : Nat} {fs : List Value} {q : vw_C} (hd : decode M.2.1 pc = .ok (.new idx, 3)) (hq : vwCl[ci]? = some q) (hl : Cond.classLink M.1.cls idx q.1 ∈ xt) (hf : xdf ci fs) (hc : kc + 1 ≤ M.2.2.2.2.2.1) (hs : ks + q.2.2 ≤ M.2.2.2.2.2.2) (h : XA l g M Q (pc + 3) lv (.ref w.length :: st) (w ++ [.inr (.inr (ci, fs))]) (kc + 1) (ks + q.2.2)) : XA l g M Q pc lv st w kc ks := by
  intro Af ad0 n0 p e s m args below meth c X ad H locs ls hF hn ha hP hD hS hls
  obtain ⟨C, T, N⟩ := q
  obtain ⟨f1, f2, f3, ty, f4, f5⟩ := hf _ hq
  have hx : xcok 0 (.inr (.inr (ci, fs))) := fun v hv i e => absurd e (f3 v hv i)
  have hfs : fs.map (xv ad) = fs := by
    conv => rhs; rw [← List.map_id fs]
    refine List.map_congr_left (fun v hv => ?_)
    cases v <;> first | rfl | exact absurd rfl (f3 _ hv _)
  refine va_new X.1 X.2.1 X.2.2.2.2.2.1 (x_in ci _ hq) ty f4 X.2.2.2.2.1 (X.2.2.2.2.2.1 _ hl) (X.2.2.2.2.2.1 _ f1) (X.2.2.2.2.2.1 _ f2) X.2.2.2.2.2.2.2.1.1 hP hD hS X.2.2.2.2.2.2.2.2.2 hq f5 hc hs hd (fun q H1 hP1 hD1 hS1 => ?_)
  refine x_grown X hF hx hn ha ?_ ?_ hS1 hls h
  · show va_P g.1 vwCl (xw g ad w ++ [(q, .inr (ci, fs.map (xv ad)))]) H1
    rw [hfs]; exact hP1
  · show va_D Af (xw g ad w ++ [(q, .inr (ci, fs.map (xv ad)))])
    rw [hfs]; exact hD1
theorem x_newi {n : Int32} {N : Nat} (hd : decode M.2.1 pc = .ok (.newarray .int, 2)) (hi : Cond.arrayClass .int ∈ xt) (hn0 : ¬ n < 0) (hN : n.toNatClampNeg = N) (hb : N * 4 ≤ 536870912) (hc : kc + 1 ≤ M.2.2.2.2.2.1) (hs : ks + N ≤ M.2.2.2.2.2.2) (h : XA l g M Q (pc + 2) lv (.ref w.length :: st) (w ++ [.inl (List.replicate N 0)]) (kc + 1) (ks + N)) : XA l g M Q pc lv (.int n :: st) w kc ks := by
  intro Af ad0 n0 p e s m args below meth c X ad H locs ls hF hn ha hP hD hS hls
  refine va_newa (atype := .int) (ty := .int) (N' := N) (a0 := ((List.replicate N (0 : Int32)).length, .inl (fun k => (List.replicate N (0 : Int32)).getD k 0))) X.1 X.2.1 (X.2.2.2.2.2.1 _ hi) rfl X.2.2.2.2.2.2.2.1.1 hP hD hS X.2.2.2.2.2.2.2.2.2 (fun cA => ?_) hn0 hN hb hc hs hd (fun q cA H1 hK1 hP1 hD1 hS1 => ?_)
  · have e1 : (fun k => (List.replicate N (0 : Int32)).getD k 0) = fun _ => (0 : Int32) := by
      funext k
      simp only [List.getD_eq_getElem?_getD, List.getElem?_replicate]
      split <;> rfl
    rw [e1, vp_cell_i, List.length_replicate]
    rfl
  · have hcA : cA = g.2.1 := by
      have h1 := (hK1.2 2 (cA, .int) rfl).2
      have h2 := (X.2.2.2.2.2.2.2.1.1.2 0 (g.2.1, .int) rfl).2
      exact Option.some.inj ((show s.vm.findClass _ = some cA from h1).symm.trans (show s.vm.findClass _ = some g.2.1 from h2))
    subst hcA
    exact x_grown X (xf_tail hF) (show xcok 0 (.inl (List.replicate N 0)) from trivial) hn ha hP1 hD1 hS1 hls h
theorem x_newr {idx : Nat} {n : Int32} {N : Nat} (hd : decode M.2.1 pc = .ok (.anewarray idx, 3)) (hl : Cond.classLink M.1.cls idx "PeerStorage$State" ∈ xt) (hn0 : ¬ n < 0) (hN : n.toNatClampNeg = N) (hb : N * 4 ≤ 536870912) (hc : kc + 1 ≤ M.2.2.2.2.2.1) (hs : ks + N ≤ M.2.2.2.2.2.2) (h : XA l g M Q (pc + 3) lv (.ref w.length :: st) (w ++ [.inr (.inl (List.replicate N none))]) (kc + 1) (ks + N)) : XA l g M Q pc lv (.int n :: st) w kc ks := by
  intro Af ad0 n0 p e s m args below meth c X ad H locs ls hF hn ha hP hD hS hls
  refine va_newq X.1 X.2.1 X.2.2.2.2.1 (X.2.2.2.2.2.1 _ hl) X.2.2.2.2.2.2.2.1.2.1 X.2.2.2.2.2.2.2.1.1 hP hD hS X.2.2.2.2.2.2.2.2.2 hn0 hN hb hc hs hd (fun q cA H1 hK1 hP1 hD1 hS1 => ?_)
  have hcA : cA = g.2.2 := by
    obtain ⟨k1, c1, -, -, -, h1⟩ := (hK1.2 2 (cA, .object "PeerStorage$State") rfl).2
    obtain ⟨k2, c2, -, -, -, h2⟩ := (X.2.2.2.2.2.2.2.1.1.2 1 (g.2.2, .object "PeerStorage$State") rfl).2
    exact Option.some.inj (h1.symm.trans h2)
  subst hcA
  have e1 : xe g ad (.inr (.inl (List.replicate N none))) = .inl (g.2.2, N, .inr (.inr (.inr (.inr (fun _ => none))))) := by
    show (Sum.inl (g.2.2, (List.replicate N (none : Option Nat)).length, Sum.inr (Sum.inr (Sum.inr (Sum.inr (fun k => ((List.replicate N (none : Option Nat)).getD k none).map ad))))) : va_E) = _
    have : (fun k => ((List.replicate N (none : Option Nat)).getD k none).map ad) = fun _ => none := by
      funext k
      simp only [List.getD_eq_getElem?_getD, List.getElem?_replicate]
      split <;> rfl
    rw [this, List.length_replicate]
  refine x_grown X (xf_tail hF) (show xcok 0 (.inr (.inl (List.replicate N none))) from fun i hi => ?_) hn ha (by rw [e1]; exact hP1) (by rw [e1]; exact hD1) hS1 hls h
  rw [List.mem_replicate] at hi
  cases hi.2
end XNEW
end
section
/-! ===== calls: the callee has a part of the world, its places are is ===== -/
def xro (is : List Nat) (n j : Nat) : Nat := match is[j]? with
  | some i => i
  | none => n + (j - is.length)
def xrc (ro : Nat → Nat) (c : XC) : XC := match c with
  | .inl xs => .inl xs
  | .inr (.inl rs) => .inr (.inl (rs.map (Option.map ro)))
  | .inr (.inr o) => .inr (.inr (o.1, o.2.map (xv ro)))
def xset (ro : Nat → Nat) : List Nat → XW → XW → XW
  | [], [], w => w
  | [], c :: w1, w => w ++ (c :: w1).map (xrc ro)
  | _ :: _, [], w => w
  | i :: is, c :: w1, w => xset ro is w1 (w.set i (xrc ro c))
theorem xv_comp (ad ro : Nat → Nat) (v : Value) : xv ad (xv ro v) = xv (fun j => ad (ro j)) v := by cases v <;> rfl
theorem xe_ren (g : XG) (ad ro : Nat → Nat) (c : XC) : xe g ad (xrc ro c) = xe g (fun j => ad (ro j)) c := by
  rcases c with xs | rs | o
  · rfl
  · show (Sum.inl (g.2.2, (rs.map (Option.map ro)).length, Sum.inr (Sum.inr (Sum.inr (Sum.inr (fun k => ((rs.map (Option.map ro)).getD k none).map ad))))) : va_E) = Sum.inl (g.2.2, rs.length, Sum.inr (Sum.inr (Sum.inr (Sum.inr (fun k => (rs.getD k none).map (fun j => ad (ro j)))))))
    have : (fun k => ((rs.map (Option.map ro)).getD k none).map ad) = (fun k => (rs.getD k none).map (fun j => ad (ro j))) := by
      funext k
      simp only [List.getD_eq_getElem?_getD, List.getElem?_map]
      cases rs[k]? with
      | none => rfl
      | some y => cases y <;> rfl
    rw [this, List.length_map]
  · show (Sum.inr (o.1, (o.2.map (xv ro)).map (xv ad)) : va_E) = Sum.inr (o.1, o.2.map (xv (fun j => ad (ro j))))
    rw [List.map_map]
    congr 2
    exact List.map_congr_left (fun v _ => xv_comp ad ro v)
theorem xset_out (ro : Nat → Nat) : ∀ (is : List Nat) (w1 w : XW) (k : Nat), k < w.length → k ∉ is → (xset ro is w1 w)[k]? = w[k]?
  | [], [], w, k, _, _ => rfl
  | [], c :: w1, w, k, hk, _ => List.getElem?_append_left hk
  | _ :: _, [], w, k, _, _ => rfl
  | i :: is, c :: w1, w, k, hk, hn => by
    have h1 : k ≠ i := fun e => hn (e ▸ List.mem_cons_self)
    rw [xset, xset_out ro is w1 _ k (by rw [List.length_set]; exact hk) (fun h => hn (List.mem_cons_of_mem _ h)), List.getElem?_set_ne (Ne.symm h1)]
theorem xset_len (ro : Nat → Nat) : ∀ (is : List Nat) (w1 w : XW), is.length ≤ w1.length → (xset ro is w1 w).length = w.length + (w1.length - is.length)
  | [], [], w, _ => rfl
  | [], c :: w1, w, _ => by simp [xset]
  | _ :: _, [], w, h => by simp at h
  | i :: is, c :: w1, w, h => by
    rw [xset, xset_len ro is w1 _ (by simpa using h), List.length_set]
    simp
theorem xset_in (ro : Nat → Nat) : ∀ (is : List Nat) (w1 w : XW) (j i : Nat), va_nd is = true → (∀ x ∈ is, x < w.length) → is.length ≤ w1.length → is[j]? = some i → (xset ro is w1 w)[i]? = (w1[j]?).map (xrc ro)
  | [], w1, w, j, i, _, _, _, h => by simp at h
  | _ :: _, [], w, j, i, _, _, hl, _ => by simp at hl
  | a :: is, c :: w1, w, j, i, hn, hw, hl, h => by
    simp only [va_nd, Bool.and_eq_true, decide_eq_true_eq] at hn
    cases j with
    | zero =>
      simp only [List.getElem?_cons_zero, Option.some.injEq] at h
      subst h
      rw [xset, xset_out ro is w1 _ a (by rw [List.length_set]; exact hw a List.mem_cons_self) hn.1, List.getElem?_set_self (hw a List.mem_cons_self)]
      rfl
    | succ j =>
      rw [List.getElem?_cons_succ] at h
      rw [xset, xset_in ro is w1 _ j i hn.2 (fun x hx => by rw [List.length_set]; exact hw x (List.mem_cons_of_mem _ hx)) (by simpa using hl) h]
      rfl
theorem xset_new (ro : Nat → Nat) : ∀ (is : List Nat) (w1 w : XW) (j : Nat), is.length ≤ w1.length → is.length ≤ j → (xset ro is w1 w)[w.length + (j - is.length)]? = (w1[j]?).map (xrc ro)
  | [], [], w, j, _, _ => by simp [xset]
  | [], c :: w1, w, j, _, _ => by
    rw [xset, List.getElem?_append_right (by simp), List.getElem?_map]
    simp
  | _ :: _, [], w, j, h, _ => by simp at h
  | i :: is, c :: w1, w, j, h, hj => by
    cases j with
    | zero => simp at hj
    | succ j =>
      have := xset_new ro is w1 (w.set i (xrc ro c)) j (by simpa using h) (by simpa using hj)
      rw [List.length_set] at this
      rw [xset]
      simpa using this
theorem xro_some {is : List Nat} {n j i : Nat} (h : is[j]? = some i) : xro is n j = i := by simp [xro, h]
theorem xro_none {is : List Nat} {n j : Nat} (h : is.length ≤ j) : xro is n j = n + (j - is.length) := by simp [xro, List.getElem?_eq_none h]
section XCORE
variable {l : Launch} {g : XG} {p : Program} {e : Env} {R : Room} {s : State} {m : MethodId} {args : Array Value} {below : List Frame} {meth : Method} {c : Code} {H : Heap} {locs : List Loc} {kc ks : Nat} {Z : State → Prop} {Af : Nat → Prop} {w : XW} {ad : Nat → Nat}
theorem xc_core (is : List Nat) {wc : XW} {Qc : Option Value → XW → Prop} {mc ms pc : Nat} {ls : Array Slot} {stc rest : List Value} {a : Array Value} (hA : ∀ q : Nat, s.heap.size ≤ q → Af q) (hP : va_P g.1 vwCl (xw g ad w) H) (hD : va_D Af (xw g ad w)) (hS : va_S Af s.heap H locs) (hwf : xwok w)
    (hsub : is.map (fun i => w[i]?) = wc.map (fun c => some (xrc (xro is w.length) c))) (hnd : va_nd is = true)
    (hr : va_Run p l e R s m args below meth c H locs kc ks mc ms (F0 m pc ls stc) rest (XQ g Qc (va_A (xw g (fun j => ad (xro is w.length j)) wc) H.size) (fun j => ad (xro is w.length j)) wc.length a) (va_A (xw g (fun j => ad (xro is w.length j)) wc) H.size))
    (kk : ∀ (r : Option Value) (w1 : XW) (ad' : Nat → Nat) (H1 : Heap) (locs1 : List Loc), Qc r w1 → xwok (xset (xro is w.length) is w1 w) → w.length ≤ (xset (xro is w.length) is w1 w).length → (∀ v, r = some v → xok (xset (xro is w.length) is w1 w).length (xv (xro is w.length) v)) → (∀ i, i < w.length → ad' i = ad i) →
      va_P g.1 vwCl (xw g ad' (xset (xro is w.length) is w1 w)) H1 → va_D Af (xw g ad' (xset (xro is w.length) is w1 w)) → va_S Af s.heap H1 locs1 → W p l e R s m args below meth c H1 locs1 (kc + mc) (ks + ms) Z (F0 m (pc + 3) ls ((r.map (fun v => xv ad' (xv (xro is w.length) v))).toList ++ rest))) :
    W p l e R s m args below meth c H locs kc ks Z (F0 m pc ls stc) := by
  have hlen : is.length = wc.length := by simpa using congrArg List.length hsub
  have hat : ∀ (j i : Nat), is[j]? = some i → ∃ d : XC, wc[j]? = some d ∧ w[i]? = some (xrc (xro is w.length) d) := by
    intro j i hj
    have h1 : (is.map (fun i => w[i]?))[j]? = some (w[i]?) := by rw [List.getElem?_map, hj]; rfl
    rw [hsub, List.getElem?_map] at h1
    cases hd : wc[j]? with
    | none => rw [hd] at h1; cases h1
    | some d => rw [hd] at h1; exact ⟨d, rfl, (Option.some.inj h1).symm⟩
  have hlt : ∀ x ∈ is, x < w.length := by
    intro x hx
    obtain ⟨j, hj⟩ := List.getElem?_of_mem hx
    obtain ⟨d, -, h2⟩ := hat j x hj
    exact (List.getElem?_eq_some_iff.mp h2).1
  intro T hT X
  obtain ⟨v, st₀, t, T', L, h0, X', hL, e1, e2, ⟨⟨r, w1, ad1, hv, hq, hwf1, hro, hn1, ha1, hP1, hD1⟩, hz, hk⟩, st⟩ := hr T hT X
  cases hv
  rw [h0] at hz hk
  rw [← hlen] at hn1 ha1
  have hadw : ∀ i, i < w.length → (fun i => if i < w.length then ad i else ad1 (i - w.length + is.length)) i = ad i := fun i hi => if_pos hi
  have hkey : (fun j => (fun i => if i < w.length then ad i else ad1 (i - w.length + is.length)) (xro is w.length j)) = ad1 := by
    funext j
    by_cases hj : j < is.length
    · have h1 : is[j]? = some is[j] := List.getElem?_eq_getElem hj
      have h2 : is[j] < w.length := hlt _ (List.getElem_mem hj)
      show (if xro is w.length j < w.length then ad (xro is w.length j) else _) = ad1 j
      rw [xro_some h1, if_pos h2, ha1 j hj]
      show ad is[j] = ad (xro is w.length j)
      rw [xro_some h1]
    · have hj : is.length ≤ j := Nat.not_lt.mp hj
      show (if xro is w.length j < w.length then ad (xro is w.length j) else ad1 (xro is w.length j - w.length + is.length)) = ad1 j
      rw [xro_none hj, if_neg (by omega)]
      congr 1
      omega
  generalize had : (fun i => if i < w.length then ad i else ad1 (i - w.length + is.length)) = ad' at hadw hkey
  have hwl : (xset (xro is w.length) is w1 w).length = w.length + (w1.length - is.length) := xset_len _ is w1 w hn1
  -- a cell of the new world is the callee's, or an old one
  have hcase : ∀ (k : Nat) (d : XC), (xset (xro is w.length) is w1 w)[k]? = some d → (∃ (j : Nat) (d1 : XC), w1[j]? = some d1 ∧ d = xrc (xro is w.length) d1 ∧ xro is w.length j = k) ∨ (k < w.length ∧ k ∉ is ∧ w[k]? = some d) := by
    intro k d hd
    by_cases hk1 : k < w.length
    · by_cases hk2 : k ∈ is
      · obtain ⟨j, hj⟩ := List.getElem?_of_mem hk2
        rw [xset_in _ is w1 w j k hnd hlt hn1 hj] at hd
        cases hd1 : w1[j]? with
        | none => rw [hd1] at hd; cases hd
        | some d1 => rw [hd1] at hd; exact Or.inl ⟨j, d1, hd1, (Option.some.inj hd).symm, xro_some hj⟩
      · rw [xset_out _ is w1 w k hk1 hk2] at hd
        exact Or.inr ⟨hk1, hk2, hd⟩
    · have h2 : w.length + ((k - w.length + is.length) - is.length) = k := by omega
      have h3 := xset_new (xro is w.length) is w1 w (k - w.length + is.length) hn1 (by omega)
      rw [h2, hd] at h3
      cases hd1 : w1[k - w.length + is.length]? with
      | none => rw [hd1] at h3; cases h3
      | some d1 => rw [hd1] at h3; exact Or.inl ⟨_, d1, hd1, Option.some.inj h3, by rw [xro_none (by omega)]; omega⟩
  have hcell : ∀ (j k : Nat) (d1 : XC), w1[j]? = some d1 → xro is w.length j = k → (ad' k, xe g ad' (xrc (xro is w.length) d1)) = (ad1 j, xe g ad1 d1) := by
    intro j k d1 _ hj
    subst hj
    rw [xe_ren, hkey]
    congr 1
    exact congrFun hkey j
  have hnot : ∀ k, k < w.length → k ∉ is → ¬ va_A (xw g (fun j => ad (xro is w.length j)) wc) H.size (ad k) := by
    intro k hk1 hk2 hz
    obtain ⟨d, hd⟩ : ∃ d, w[k]? = some d := ⟨_, List.getElem?_eq_getElem hk1⟩
    rcases hz with ⟨j, e', hj⟩ | hz
    · obtain ⟨dc, hj1, hj2⟩ := xw_of hj
      have hj3 : j < is.length := by rw [hlen]; exact (List.getElem?_eq_some_iff.mp hj1).1
      have h1 : is[j]? = some is[j] := List.getElem?_eq_getElem hj3
      obtain ⟨d2, -, h2⟩ := hat j _ h1
      have h3 : ad k = ad is[j] := by
        have := congrArg Prod.fst hj2
        simp only [xro_some h1] at this
        exact this
      have h4 := hD.1 k is[j] _ _ (xw_at hd) (xw_at h2) h3
      exact hk2 (h4 ▸ List.getElem_mem hj3)
    · have := (hP k _ (xw_at hd)).lt
      exact absurd hz (Nat.not_le.mpr this)
  have hin : ∀ q, va_A (xw g (fun j => ad (xro is w.length j)) wc) H.size q → Af q := by
    intro q hz
    rcases hz with ⟨j, e', hj⟩ | hz
    · obtain ⟨dc, hj1, hj2⟩ := xw_of hj
      have hj3 : j < is.length := by rw [hlen]; exact (List.getElem?_eq_some_iff.mp hj1).1
      have h1 : is[j]? = some is[j] := List.getElem?_eq_getElem hj3
      obtain ⟨d2, -, h2⟩ := hat j _ h1
      have h3 : q = ad is[j] := by
        have := congrArg Prod.fst hj2
        simp only [xro_some h1] at this
        exact this
      rw [h3]
      exact hD.2 _ _ (xw_at h2)
    · exact hA q (Nat.le_trans hS.1 hz)
  have hPn : va_P g.1 vwCl (xw g ad' (xset (xro is w.length) is w1 w)) T'.heap := by
    intro k q hq'
    obtain ⟨d, hd, rfl⟩ := xw_of hq'
    rcases hcase k d hd with ⟨j, d1, hj, rfl, hro'⟩ | ⟨hk1, hk2, hd2⟩
    · rw [hcell j k d1 hj hro', e1]
      exact hP1 j _ (xw_at hj)
    · rw [hadw k hk1, xe_eq (hwf d (List.mem_of_getElem? hd2)) hadw]
      have h1 := hP k _ (xw_at hd2)
      refine h1.kept ?_
      rw [e1]
      exact hk _ h1.lt (hnot k hk1 hk2)
  have hDn : va_D Af (xw g ad' (xset (xro is w.length) is w1 w)) := by
    constructor
    · intro i j x y hi hj hxy
      obtain ⟨d, hd, rfl⟩ := xw_of hi
      obtain ⟨d', hd', rfl⟩ := xw_of hj
      have hmix : ∀ (i j : Nat) (d1 : XC) (jj : Nat), i < w.length → i ∉ is → w1[jj]? = some d1 → xro is w.length jj = j → ad' i = ad' j → False := by
        intro i j d1 jj hi1 hi2 hjj hroj hij
        have h1 := congrArg Prod.fst (hcell jj j d1 hjj hroj)
        have h2 := hD1.2 jj _ (xw_at hjj)
        simp only at h1 h2
        rw [← h1, ← hij, hadw i hi1] at h2
        exact hnot i hi1 hi2 h2
      rcases hcase i d hd with ⟨ji, d1, hji, rfl, hroi⟩ | ⟨hi1, hi2, hdi⟩ <;> rcases hcase j d' hd' with ⟨jj, d2, hjj, rfl, hroj⟩ | ⟨hj1, hj2, hdj⟩
      · have h1 := hcell ji i d1 hji hroi
        have h2 := hcell jj j d2 hjj hroj
        rw [h1, h2] at hxy
        have h3 := hD1.1 ji jj _ _ (xw_at hji) (xw_at hjj) hxy
        rw [← hroi, ← hroj, h3]
      · exact (hmix j i d1 ji hj1 hj2 hji hroi hxy.symm).elim
      · exact (hmix i j d2 jj hi1 hi2 hjj hroj hxy).elim
      · have hxy' : ad' i = ad' j := hxy
        rw [hadw i hi1, hadw j hj1] at hxy'
        exact hD.1 i j _ _ (xw_at hdi) (xw_at hdj) hxy'
    · intro k q hq'
      obtain ⟨d, hd, rfl⟩ := xw_of hq'
      rcases hcase k d hd with ⟨j, d1, hj, rfl, hro'⟩ | ⟨hk1, hk2, hd2⟩
      · rw [hcell j k d1 hj hro']
        exact hin _ (hD1.2 j _ (xw_at hj))
      · show Af (ad' k)
        rw [hadw k hk1]
        exact hD.2 k _ (xw_at hd2)
  have hrolt : ∀ j, j < w1.length → xro is w.length j < (xset (xro is w.length) is w1 w).length := by
    intro j hj
    rw [hwl]
    by_cases hj1 : j < is.length
    · rw [xro_some (List.getElem?_eq_getElem hj1)]
      have := hlt _ (List.getElem_mem hj1)
      omega
    · rw [xro_none (Nat.not_lt.mp hj1)]
      omega
  have hwn : xwok (xset (xro is w.length) is w1 w) := by
    intro d hd0
    obtain ⟨k, hd⟩ := List.getElem?_of_mem hd0
    rcases hcase k d hd with ⟨j, d1, hj, rfl, hro'⟩ | ⟨hk1, hk2, hd2⟩
    · have h1 := hwf1 d1 (List.mem_of_getElem? hj)
      rcases d1 with xs | rs | o
      · trivial
      · intro i hi
        obtain ⟨y, hy, hyi⟩ := List.mem_map.mp hi
        cases y with
        | none => cases hyi
        | some y => cases hyi; exact hrolt y (h1 y hy)
      · intro u hu i hui
        obtain ⟨y, hy, hyi⟩ := List.mem_map.mp hu
        subst hyi
        cases y <;> cases hui
        exact hrolt _ (h1 _ hy _ rfl)
    · exact xcok_mono (hwf d (List.mem_of_getElem? hd2)) (by rw [hwl]; omega)
  obtain ⟨t2, a1, b1⟩ := kk r w1 ad' T'.heap (locs ++ L) hq hwn (by rw [hwl]; omega) (fun u hu i hui => by
      subst hu
      cases u <;> cases hui
      exact hrolt _ (hro _ rfl _ rfl)) hadw hPn hDn
    ⟨Nat.le_trans hS.1 (by rw [e1]; exact hz), fun q h1 h2 => by rw [e1, hk q (Nat.lt_of_lt_of_le h1 hS.1) (fun z => h2 (hin q z))]; exact hS.2.1 q h1 h2, fun q hq => by
      rcases List.mem_append.mp hq with h | h
      · exact hS.2.2 q h
      · exact hin _ (hL q h)⟩ T' rfl X'
  refine ⟨t2, st t2 ?_, b1⟩
  have hst : (r.map (fun v => xv ad' (xv (xro is w.length) v))).toList = (r.map (xv ad1)).toList := by
    cases r with
    | none => rfl
    | some u => simp only [Option.map_some]; rw [xv_comp, hkey]
  rw [hst] at a1
  exact a1
end XCORE
end
section
def xlB (N : XM) (n : Nat) : Prop := Cond.code N.1 N.2.1 N.2.2.1 N.2.2.2.1 ∈ xt ∧ Cond.initialized N.1.cls ∈ xt ∧ (N.1.cls ≠ "java/lang/invoke/MethodHandle" ∧ N.1.cls ≠ "java/lang/invoke/VarHandle" ∧ (parseMethodDescriptor N.1.desc).map (fun d => d.parameters.length) = some n) ∧ N.2.2.1 ≤ 21
def xlV (own : String) (idx : Nat) (N : XM) : Prop := Cond.methodLink own idx N.1 ∈ xt ∧ Cond.instanceMethod N.1 ∈ xt ∧ Cond.selects N.1.cls N.1 N.1 ∈ xt
def xlS (own : String) (idx : Nat) (N : XM) : Prop := Cond.methodLink own idx N.1 ∈ xt ∧ Cond.static N.1 ∈ xt
def xlSN (own : String) (idx : Nat) (N : XM) : Prop := Cond.methodLinkNest own idx N.1 "PeerStorage" ∈ lw_tbl ∧ Cond.static N.1 ∈ xt
def xlI (own : String) (idx : Nat) (N : XM) : Prop := Cond.methodLink own idx N.1 ∈ xt ∧ Cond.instanceMethod N.1 ∈ xt ∧ N.1.name = "<init>" ∧ N.2.2.2.1 = none
def xlIN (own : String) (idx : Nat) (N : XM) : Prop := Cond.methodLinkNest own idx N.1 "PeerStorage" ∈ lw_tbl ∧ Cond.instanceMethod N.1 ∈ xt ∧ N.1.name = "<init>" ∧ N.2.2.2.1 = none
theorem xm_good {N : XM} {n : Nat} (h : xlB N n) : GoodIn xt (xm_ws N) := fun w hw => by
  rcases List.mem_cons.mp hw with rfl | hw
  · exact xt_good _ h.1
  · exact xt_good _ hw
/-- an instruction of own's code that calls N -/
def XInv (own : String) (code : ByteArray) (N : XM) (pc : Nat) (as : List Value) (wc : XW) : Prop :=
  (∃ (idx n b ci : Nat) (as' fs : List Value) (q : vw_C), decode code pc = .ok (.invokevirtual idx, 3) ∧ xlB N n ∧ xlV own idx N ∧ as = .ref b :: as' ∧ as'.length = n ∧ wc[b]? = some (.inr (.inr (ci, fs))) ∧ vwCl[ci]? = some q ∧ q.1 = N.1.cls) ∨
  (∃ idx n : Nat, decode code pc = .ok (.invokestatic idx, 3) ∧ xlB N n ∧ xlS own idx N ∧ as.length = n) ∨
  (∃ idx n : Nat, decode code pc = .ok (.invokestatic idx, 3) ∧ xlB N n ∧ xlSN own idx N ∧ as.length = n) ∨
  (∃ (idx n b : Nat) (as' : List Value), decode code pc = .ok (.invokespecial idx, 3) ∧ xlB N n ∧ xlI own idx N ∧ as = .ref b :: as' ∧ as'.length = n) ∨
  (∃ (idx n b : Nat) (as' : List Value), decode code pc = .ok (.invokespecial idx, 3) ∧ xlB N n ∧ xlIN own idx N ∧ as = .ref b :: as' ∧ as'.length = n)
theorem x_iV {own : String} {code : ByteArray} {N : XM} {pc idx n b ci : Nat} {as' fs : List Value} {wc : XW} {q : vw_C} (hd : decode code pc = .ok (.invokevirtual idx, 3)) (hl : xlV own idx N) (hb : xlB N n) (hn : as'.length = n) (hw : wc[b]? = some (.inr (.inr (ci, fs)))) (hc : vwCl[ci]? = some q) (hq : q.1 = N.1.cls) : XInv own code N pc (.ref b :: as') wc := Or.inl ⟨idx, n, b, ci, as', fs, q, hd, hb, hl, rfl, hn, hw, hc, hq⟩
theorem x_iS {own : String} {code : ByteArray} {N : XM} {pc idx n : Nat} {as : List Value} {wc : XW} (hd : decode code pc = .ok (.invokestatic idx, 3)) (hl : xlS own idx N) (hb : xlB N n) (hn : as.length = n) : XInv own code N pc as wc := Or.inr (Or.inl ⟨idx, n, hd, hb, hl, hn⟩)
theorem x_iSN {own : String} {code : ByteArray} {N : XM} {pc idx n : Nat} {as : List Value} {wc : XW} (hd : decode code pc = .ok (.invokestatic idx, 3)) (hl : xlSN own idx N) (hb : xlB N n) (hn : as.length = n) : XInv own code N pc as wc := Or.inr (Or.inr (Or.inl ⟨idx, n, hd, hb, hl, hn⟩))
theorem x_iI {own : String} {code : ByteArray} {N : XM} {pc idx n b : Nat} {as' : List Value} {wc : XW} (hd : decode code pc = .ok (.invokespecial idx, 3)) (hl : xlI own idx N) (hb : xlB N n) (hn : as'.length = n) : XInv own code N pc (.ref b :: as') wc := Or.inr (Or.inr (Or.inr (Or.inl ⟨idx, n, b, as', hd, hb, hl, rfl, hn⟩)))
theorem x_iIN {own : String} {code : ByteArray} {N : XM} {pc idx n b : Nat} {as' : List Value} {wc : XW} (hd : decode code pc = .ok (.invokespecial idx, 3)) (hl : xlIN own idx N) (hb : xlB N n) (hn : as'.length = n) : XInv own code N pc (.ref b :: as') wc := Or.inr (Or.inr (Or.inr (Or.inr ⟨idx, n, b, as', hd, hb, hl, rfl, hn⟩)))
section XRUN
variable {l : Launch} {g : XG} {p : Program} {e : Env} {R : Room} {s : State} {m : MethodId} {args : Array Value} {below : List Frame} {meth : Method} {c : Code} {H : Heap} {locs : List Loc} {kc ks : Nat} {Af : Nat → Prop} {w : XW} {ad : Nat → Nat}
theorem xc_run {own : String} {code : ByteArray} {nL : Nat} {N : XM} {pc : Nat} {as : List Value} {wc : XW} {Qc : Option Value → XW → Prop} {ls : Array Slot} {rest stc : List Value} (adc : Nat → Nat) (hx : p.tables.exec = Jvm.exec) (hb : c.code = code) (hml : c.maxLocals = nL) (hown : s.vm.findClass own = some m.cls) (hts : ∀ w ∈ xt, w.before args s = true) (hK : XK g s)
    (hi : XInv own code N pc as wc) (hC : Ct l g N as wc Qc) (hwf : xwok wc) (hao : ∀ v ∈ as, xok wc.length v) (hP : va_P g.1 vwCl (xw g adc wc) H) (hD : va_D (fun _ => True) (xw g adc wc)) (hfr : N.2.2.2.2.1 + 1 ≤ R.frames) (hlo : 40 * (N.2.2.2.2.1 + 1) ≤ R.locals) (hsize : ls.size = nL)
    (hc : kc + N.2.2.2.2.2.1 ≤ R.cells) (hs : ks + N.2.2.2.2.2.2 ≤ R.slots) (hrest : (rest.map fun v => v.category).sum ≤ 8) (hst : stc = (as.map (xv adc)).reverse ++ rest) :
    va_Run p l e R s m args below meth c H locs kc ks N.2.2.2.2.2.1 N.2.2.2.2.2.2 (F0 m pc ls stc) rest (XQ g Qc (va_A (xw g adc wc) H.size) adc wc.length (as.map (xv adc)).toArray) (va_A (xw g adc wc) H.size) := by
  have hM := hC hwf hao adc H.size
  have hblind : FrameBlind (va_Pc (as.map (xv adc)) (fun U => U.heap.size = H.size ∧ va_P g.1 vwCl (xw g adc wc) U.heap ∧ XK g U ∧ va_D (fun _ => True) (xw g adc wc))) := fun a U gg mk q => by
    obtain ⟨q0, q1, q2, q3, q4⟩ := q
    exact ⟨q0, q1, q2, XK_calling q3, q4⟩
  have hpre : ∀ U : State, U.heap = H → s.WarmedH U.vm → va_Pc (as.map (xv adc)) (fun U => U.heap.size = H.size ∧ va_P g.1 vwCl (xw g adc wc) U.heap ∧ XK g U ∧ va_D (fun _ => True) (xw g adc wc)) (as.map (xv adc)).toArray U := fun U hU hW => ⟨rfl, by rw [hU], by rw [hU]; exact hP, XK_warm hK hW, hD⟩
  have hS : CallFix p m c code nL s args xt own := ⟨hx, hb, hml, hown, hts⟩
  have hR : ∀ {n : Nat}, xlB N n → (xm_rm N).frames + 1 ≤ R.frames ∧ 8 + (N.2.2.1 + 11) + (xm_rm N).locals ≤ R.locals := fun h => ⟨hfr, by have := h.2.2.2; show 8 + (N.2.2.1 + 11) + 40 * N.2.2.2.2.1 ≤ R.locals; omega⟩
  have hroom : 2 * (F0 m pc ls stc).monitorRoom + (rest.map fun v => v.category).sum ≤ 8 := by
    show 2 * 0 + _ ≤ 8
    omega
  rcases hi with ⟨idx, n, b, ci, as', fs, q, hd, hlb, hl, rfl, hn, hw, hq, hqn⟩ | ⟨idx, n, hd, hlb, hl, hn⟩ | ⟨idx, n, hd, hlb, hl, hn⟩ | ⟨idx, n, b, as', hd, hlb, hl, rfl, hn⟩ | ⟨idx, n, b, as', hd, hlb, hl, rfl, hn⟩
  · have hrc := va_recv hK.1 hP hq (xw_at hw)
    rw [hqn] at hrc
    exact va_runV (C := N.1.cls) (b := adc b) (As := as'.map (xv adc)) (n := n) (ret := N.2.2.2.1) hS hM ⟨callB_of n hts (xm_good hlb) rfl rfl rfl (hts _ hlb.2.1) (hts _ hl.1) hlb.2.2.1 (hR hlb), hts _ hl.2.1, hts _ hl.2.2⟩ ⟨hblind, hrc, hpre⟩ rfl (by simpa using hn) hsize (by rw [hst]; simp [xv]) hroom hd ⟨hc, hs⟩
  · exact va_runS (As := as.map (xv adc)) (n := n) (ret := N.2.2.2.1) hS hM ⟨callB_of n hts (xm_good hlb) rfl rfl rfl (hts _ hlb.2.1) (hts _ hl.1) hlb.2.2.1 (hR hlb), hts _ hl.2⟩ ⟨hblind, hpre⟩ rfl (by simpa using hn) hsize hst hroom hd ⟨hc, hs⟩
  · exact va_runSN (As := as.map (xv adc)) (n := n) (ret := N.2.2.2.1) (host := "PeerStorage") hS hM ⟨va_cnB n hts (xm_good hlb) rfl rfl rfl (hK.2.2 _ _ _ hl.1) (hts _ hlb.2.1) hlb.2.2.1 (hR hlb), hts _ hl.2, trivial⟩ ⟨hblind, hpre⟩ rfl (by simpa using hn) hsize hst hroom hd ⟨hc, hs⟩
  · obtain ⟨y, cd, nl, rt, hgt⟩ := N
    obtain ⟨hl1, hl2, hl3, hl4⟩ := hl
    simp only at hl4
    subst hl4
    exact va_runI (b := adc b) (As := as'.map (xv adc)) (n := n) hS hM ⟨callB_of n hts (xm_good hlb) rfl rfl rfl (hts _ hlb.2.1) (hts _ hl1) hlb.2.2.1 (hR hlb), hl3, hts _ hl2⟩ ⟨hblind, hpre⟩ rfl (by simpa using hn) hsize (by rw [hst]; simp [xv]) hroom hd ⟨hc, hs⟩
  · obtain ⟨y, cd, nl, rt, hgt⟩ := N
    obtain ⟨hl1, hl2, hl3, hl4⟩ := hl
    simp only at hl4
    subst hl4
    exact va_runIN (b := adc b) (As := as'.map (xv adc)) (n := n) (host := "PeerStorage") hS hM ⟨va_cnB n hts (xm_good hlb) rfl rfl rfl (hK.2.2 _ _ _ hl1) (hts _ hlb.2.1) hlb.2.2.1 (hR hlb), hl3, hts _ hl2⟩ ⟨hblind, hpre⟩ rfl (by simpa using hn) hsize (by rw [hst]; simp [xv]) hroom hd ⟨hc, hs⟩
end XRUN
end
section
theorem xset_same (ro : Nat → Nat) : ∀ (is : List Nat) (wc w : XW), is.map (fun i => w[i]?) = wc.map (fun c => some (xrc ro c)) → xset ro is wc w = w
  | [], [], w, _ => rfl
  | [], c :: wc, w, h => by simp at h
  | i :: is, [], w, h => by simp at h
  | i :: is, c :: wc, w, h => by
    simp only [List.map_cons, List.cons.injEq] at h
    have h1 : w.set i (xrc ro c) = w := by
      apply List.ext_getElem?
      intro k
      rw [List.getElem?_set]
      by_cases hk : i = k
      · subst hk
        have := (List.getElem?_eq_some_iff.mp h.1).1
        rw [if_pos rfl, if_pos this, h.1]
      · simp [hk]
    rw [xset, h1]
    exact xset_same ro is wc w h.2
def Qi (P : Int32 → XW → Prop) : Option Value → XW → Prop := fun r w => ∃ v, r = some (.int v) ∧ P v w
def Qv (P : XW → Prop) : Option Value → XW → Prop := fun r w => r = none ∧ P w
/-- only reads, and answers x -/
def Qp (x : Int32) (w : XW) : Option Value → XW → Prop := fun r w' => r = some (.int x) ∧ w' = w
theorem st_cat (ad : Nat → Nat) (st : List Value) : ((st.map (xv ad)).map fun v => v.category) = st.map fun v => v.category := by
  rw [List.map_map]
  exact List.map_congr_left (fun v _ => xv_cat ad v)
section XCALL
variable {l : Launch} {g : XG} {M : XM} {Q : Option Value → XW → Prop} {pc : Nat} {lv : List (Option Value)} {st : List Value} {w : XW} {kc ks : Nat}
theorem x_call (is : List Nat) {N : XM} {as : List Value} {wc : XW} {Qc : Option Value → XW → Prop} {st0 : List Value} (hi : XInv M.1.cls M.2.1 N pc as wc) (hC : Ct l g N as wc Qc) (hh : N.2.2.2.2.1 + 1 ≤ M.2.2.2.2.1) (hc : kc + N.2.2.2.2.2.1 ≤ M.2.2.2.2.2.1) (hs : ks + N.2.2.2.2.2.2 ≤ M.2.2.2.2.2.2) (hrest : (st.map fun v => v.category).sum ≤ 8)
    (hst : st0 = (as.map (xv (xro is w.length))).reverse ++ st) (hsub : is.map (fun i => w[i]?) = wc.map (fun c => some (xrc (xro is w.length) c))) (hnd : va_nd is = true)
    (h : ∀ (r : Option Value) (w1 : XW), Qc r w1 → XA l g M Q (pc + 3) lv ((r.map (xv (xro is w.length))).toList ++ st) (xset (xro is w.length) is w1 w) (kc + N.2.2.2.2.2.1) (ks + N.2.2.2.2.2.2)) : XA l g M Q pc lv st0 w kc ks := by
  intro Af ad0 n0 p e s m args below meth c X ad H locs ls hF hn ha hP hD hS hls
  have hlen : is.length = wc.length := by simpa using congrArg List.length hsub
  have hat : ∀ (j : Nat) (d : XC), wc[j]? = some d → ∃ i : Nat, is[j]? = some i ∧ w[i]? = some (xrc (xro is w.length) d) := by
    intro j d hj
    have h1 : (wc.map (fun c => some (xrc (xro is w.length) c)))[j]? = some (some (xrc (xro is w.length) d)) := by rw [List.getElem?_map, hj]; rfl
    rw [← hsub, List.getElem?_map] at h1
    cases hi : is[j]? with
    | none => rw [hi] at h1; cases h1
    | some i => rw [hi] at h1; exact ⟨i, rfl, Option.some.inj h1⟩
  have hro : ∀ j, xro is w.length j < w.length → j < wc.length := by
    intro j hj
    by_cases h1 : j < is.length
    · rw [← hlen]; exact h1
    · rw [xro_none (Nat.not_lt.mp h1)] at hj
      omega
  have hwfc : xwok wc := by
    intro d hd
    obtain ⟨j, hj⟩ := List.getElem?_of_mem hd
    obtain ⟨i, hi1, hi2⟩ := hat j d hj
    have h1 := hF.1 _ (List.mem_of_getElem? hi2)
    rcases d with xs | rs | o
    · trivial
    · intro k hk
      exact hro k (h1 _ (List.mem_map.mpr ⟨some k, hk, rfl⟩))
    · intro v hv k hvk
      subst hvk
      exact hro k (h1 _ (List.mem_map.mpr ⟨_, hv, rfl⟩) _ rfl)
  have hao : ∀ v ∈ as, xok wc.length v := by
    intro v hv k hvk
    subst hvk
    refine hro k (hF.2.1 (.ref (xro is w.length k)) ?_ _ rfl)
    rw [hst]
    exact List.mem_append_left _ (List.mem_reverse.mpr (List.mem_map.mpr ⟨_, hv, rfl⟩))
  have hsto : ∀ v ∈ st, xok w.length v := fun v hv => hF.2.1 v (by rw [hst]; exact List.mem_append_right _ hv)
  have hPc : va_P g.1 vwCl (xw g (fun j => ad (xro is w.length j)) wc) H := by
    intro j q hq
    obtain ⟨d, hj, rfl⟩ := xw_of hq
    obtain ⟨i, hi1, hi2⟩ := hat j d hj
    have h1 := hP i _ (xw_at hi2)
    rw [xe_ren] at h1
    rw [xro_some hi1]
    exact h1
  have hDc : va_D (fun _ => True) (xw g (fun j => ad (xro is w.length j)) wc) := by
    refine ⟨fun i j x y hi hj hxy => ?_, fun _ _ _ => trivial⟩
    obtain ⟨d, hdi, rfl⟩ := xw_of hi
    obtain ⟨d', hdj, rfl⟩ := xw_of hj
    obtain ⟨i1, hi1, hi2⟩ := hat i d hdi
    obtain ⟨j1, hj1, hj2⟩ := hat j d' hdj
    simp only [xro_some hi1, xro_some hj1] at hxy
    have h3 := hD.1 i1 j1 _ _ (xw_at hi2) (xw_at hj2) hxy
    subst h3
    exact va_nd_inj is hnd i j i1 hi1 hj1
  refine xc_core is (rest := st.map (xv ad)) X.2.2.2.2.2.2.2.2.2 hP hD hS hF.1 hsub hnd (xc_run (fun j => ad (xro is w.length j)) X.1 X.2.1 X.2.2.2.1 X.2.2.2.2.1 X.2.2.2.2.2.1 X.2.2.2.2.2.2.2.1 hi hC hwfc hao hPc hDc hh ?_ hls.1 hc hs ?_ ?_) (fun r w1 ad' H1 locs1 hq hw1 hw2 hr had hP1 hD1 hS1 => ?_)
  · show 40 * (N.2.2.2.2.1 + 1) ≤ 40 * M.2.2.2.2.1
    omega
  · rw [st_cat]
    exact hrest
  · rw [hst, List.map_append, List.map_reverse, List.map_map]
    congr 2
    exact List.map_congr_left (fun v _ => xv_comp ad _ v)
  · have K := h r w1 hq Af ad0 n0 p e s m args below meth c X ad' H1 locs1 ls ⟨hw1, fun v hv => ?_, fun v hv => xok_mono (hF.2.2 v hv) hw2⟩ (Nat.le_trans hn hw2) (fun i hi => by rw [had i (Nat.lt_of_lt_of_le hi hn)]; exact ha i hi) hP1 hD1 hS1 (lvh_eq hls hF.2.2 had)
    · have e1 : ((r.map (xv (xro is w.length))).toList ++ st).map (xv ad') = (r.map (fun v => xv ad' (xv (xro is w.length) v))).toList ++ st.map (xv ad) := by
        rw [List.map_append, st_eq hsto had]
        congr 1
        cases r <;> rfl
      rw [e1] at K
      exact K
    · rcases List.mem_append.mp hv with h1 | h1
      · cases r with
        | none => cases h1
        | some u =>
          simp only [Option.map_some, Option.toList_some, List.mem_singleton] at h1
          subst h1
          exact hr u rfl
      · exact xok_mono (hsto v h1) hw2
/-- a call that only reads -/
theorem x_callp (is : List Nat) {N : XM} {as : List Value} {wc : XW} {x : Int32} {st0 : List Value} (hi : XInv M.1.cls M.2.1 N pc as wc) (hC : Ct l g N as wc (Qp x wc)) (hh : N.2.2.2.2.1 + 1 ≤ M.2.2.2.2.1) (hc0 : N.2.2.2.2.2.1 = 0) (hs0 : N.2.2.2.2.2.2 = 0) (hc : kc ≤ M.2.2.2.2.2.1) (hs : ks ≤ M.2.2.2.2.2.2) (hrest : (st.map fun v => v.category).sum ≤ 8)
    (hst : st0 = (as.map (xv (xro is w.length))).reverse ++ st) (hsub : is.map (fun i => w[i]?) = wc.map (fun c => some (xrc (xro is w.length) c))) (hnd : va_nd is = true)
    (h : XA l g M Q (pc + 3) lv (.int x :: st) w kc ks) : XA l g M Q pc lv st0 w kc ks := by
  refine x_call is hi hC hh (by rw [hc0]; exact hc) (by rw [hs0]; exact hs) hrest hst hsub hnd (fun r w1 hq => ?_)
  obtain ⟨rfl, rfl⟩ := hq
  rw [xset_same _ is _ w hsub, hc0, hs0]
  exact h
theorem x_calli (is : List Nat) {N : XM} {as : List Value} {wc : XW} {P : Int32 → XW → Prop} {st0 : List Value} (hi : XInv M.1.cls M.2.1 N pc as wc) (hC : Ct l g N as wc (Qi P)) (hh : N.2.2.2.2.1 + 1 ≤ M.2.2.2.2.1) (hc0 : N.2.2.2.2.2.1 = 0) (hs0 : N.2.2.2.2.2.2 = 0) (hc : kc ≤ M.2.2.2.2.2.1) (hs : ks ≤ M.2.2.2.2.2.2) (hrest : (st.map fun v => v.category).sum ≤ 8)
    (hst : st0 = (as.map (xv (xro is w.length))).reverse ++ st) (hsub : is.map (fun i => w[i]?) = wc.map (fun c => some (xrc (xro is w.length) c))) (hnd : va_nd is = true)
    (h : ∀ (v : Int32) (w1 : XW), P v w1 → XA l g M Q (pc + 3) lv (.int v :: st) (xset (xro is w.length) is w1 w) kc ks) : XA l g M Q pc lv st0 w kc ks := by
  refine x_call is hi hC hh (by rw [hc0]; exact hc) (by rw [hs0]; exact hs) hrest hst hsub hnd (fun r w1 hq => ?_)
  obtain ⟨v, rfl, hq⟩ := hq
  rw [hc0, hs0]
  exact h v w1 hq
theorem x_callv (is : List Nat) {N : XM} {as : List Value} {wc : XW} {P : XW → Prop} {st0 : List Value} (hi : XInv M.1.cls M.2.1 N pc as wc) (hC : Ct l g N as wc (Qv P)) (hh : N.2.2.2.2.1 + 1 ≤ M.2.2.2.2.1) (hc : kc + N.2.2.2.2.2.1 ≤ M.2.2.2.2.2.1) (hs : ks + N.2.2.2.2.2.2 ≤ M.2.2.2.2.2.2) (hrest : (st.map fun v => v.category).sum ≤ 8)
    (hst : st0 = (as.map (xv (xro is w.length))).reverse ++ st) (hsub : is.map (fun i => w[i]?) = wc.map (fun c => some (xrc (xro is w.length) c))) (hnd : va_nd is = true)
    (h : ∀ w1 : XW, P w1 → XA l g M Q (pc + 3) lv st (xset (xro is w.length) is w1 w) (kc + N.2.2.2.2.2.1) (ks + N.2.2.2.2.2.2)) : XA l g M Q pc lv st0 w kc ks := by
  refine x_call is hi hC hh hc hs hrest hst hsub hnd (fun r w1 hq => ?_)
  obtain ⟨rfl, hq⟩ := hq
  exact h w1 hq
theorem x_objInit {idx a : Nat} (hd : decode M.2.1 pc = .ok (.invokespecial idx, 3)) (hl : Cond.methodLink M.1.cls idx Lib.objectInit ∈ xt) (h1 : Cond.instanceMethod Lib.objectInit ∈ xt) (h2 : Cond.code Lib.objectInit ⟨#[0xb1]⟩ 1 none ∈ xt) (hh : 1 ≤ M.2.2.2.2.1) (hrest : (st.map fun v => v.category).sum ≤ 8) (h : XA l g M Q (pc + 3) lv st w kc ks) : XA l g M Q pc lv (.ref a :: st) w kc ks := by
  intro Af ad0 n0 p e s m args below meth c X ad H locs ls hF hn ha hP hD hS hls
  refine W.objInit X.1 X.2.1 X.2.2.2.2.1 (X.2.2.2.2.2.1 _ hl) (X.2.2.2.2.2.1 _ h1) (X.2.2.2.2.2.1 _ h2) (g := F0 m pc ls ((Value.ref a :: st).map (xv ad))) rfl (hls.1.trans X.2.2.2.1.symm) rfl hd hh ?_ (h Af ad0 n0 p e s m args below meth c X ad H locs ls (xf_tail hF) hn ha hP hD hS hls)
  show 2 * 0 + ((st.map (xv ad)).map fun v => v.category).sum + 12 ≤ 40 * M.2.2.2.2.1
  rw [st_cat]
  omega
theorem x_max {idx : Nat} {x y : Int32} (hd : decode M.2.1 pc = .ok (.invokestatic idx, 3)) (hl : Cond.methodLink M.1.cls idx Lib.Math.max.name ∈ xt) (h1 : Cond.static Lib.Math.max.name ∈ xt) (h2 : Cond.initialized "java/lang/Math" ∈ xt) (h3 : Cond.code Lib.Math.max.name Lib.Math.max.code 2 (some .int) ∈ xt) (hh : 1 ≤ M.2.2.2.2.1) (hc : kc ≤ M.2.2.2.2.2.1) (hs : ks ≤ M.2.2.2.2.2.2) (hrest : (st.map fun v => v.category).sum ≤ 8) (h : XA l g M Q (pc + 3) lv (.int (if x < y then y else x) :: st) w kc ks) : XA l g M Q pc lv (.int y :: .int x :: st) w kc ks := by
  intro Af ad0 n0 p e s m args below meth c X ad H locs ls hF hn ha hP hD hS hls
  refine va_mmax X.1 X.2.1 (X.2.2.2.1.trans hls.1.symm) X.2.2.2.2.1 (X.2.2.2.2.2.1 _ hl) (X.2.2.2.2.2.1 _ h1) (X.2.2.2.2.2.1 _ h2) (X.2.2.2.2.2.1 _ h3) hh ?_ hc hs hd (h Af ad0 n0 p e s m args below meth c X ad H locs ls (xf_int (xf_tail (xf_tail hF))) hn ha hP hD hS hls)
  show ((st.map (xv ad)).map fun v => v.category).sum + 13 ≤ 40 * M.2.2.2.2.1
  rw [st_cat]
  omega
theorem x_min {idx : Nat} {x y : Int32} (hd : decode M.2.1 pc = .ok (.invokestatic idx, 3)) (hl : Cond.methodLink M.1.cls idx Lib.Math.min.name ∈ xt) (h1 : Cond.static Lib.Math.min.name ∈ xt) (h2 : Cond.initialized "java/lang/Math" ∈ xt) (h3 : Cond.code Lib.Math.min.name Lib.Math.min.code 2 (some .int) ∈ xt) (hh : 1 ≤ M.2.2.2.2.1) (hc : kc ≤ M.2.2.2.2.2.1) (hs : ks ≤ M.2.2.2.2.2.2) (hrest : (st.map fun v => v.category).sum ≤ 8) (h : XA l g M Q (pc + 3) lv (.int (if y < x then y else x) :: st) w kc ks) : XA l g M Q pc lv (.int y :: .int x :: st) w kc ks := by
  intro Af ad0 n0 p e s m args below meth c X ad H locs ls hF hn ha hP hD hS hls
  refine va_mmin X.1 X.2.1 (X.2.2.2.1.trans hls.1.symm) X.2.2.2.2.1 (X.2.2.2.2.2.1 _ hl) (X.2.2.2.2.2.1 _ h1) (X.2.2.2.2.2.1 _ h2) (X.2.2.2.2.2.1 _ h3) hh ?_ hc hs hd (h Af ad0 n0 p e s m args below meth c X ad H locs ls (xf_int (xf_tail (xf_tail hF))) hn ha hP hD hS hls)
  show ((st.map (xv ad)).map fun v => v.category).sum + 13 ≤ 40 * M.2.2.2.2.1
  rw [st_cat]
  omega
/-- System.arraycopy(a, 0, b, 0, n) of two rows of one length n -/
theorem x_copy {idx a b : Nat} {xs ys : List Int32} {n : Int32} (hd : decode M.2.1 pc = .ok (.invokestatic idx, 3)) (hl : Cond.methodLink M.1.cls idx arraycopyName ∈ xt) (h1 : Cond.native arraycopyName ∈ xt) (h2 : Cond.static arraycopyName ∈ xt) (h3 : Cond.initialized "java/lang/System" ∈ xt) (hh : 1 ≤ M.2.2.2.2.1) (hwa : w[a]? = some (.inl xs)) (hwb : w[b]? = some (.inl ys)) (hn0 : ¬ n < 0) (hnx : n.toNatClampNeg = xs.length) (hny : ys.length = xs.length) (hrest : (st.map fun v => v.category).sum ≤ 8) (h : XA l g M Q (pc + 3) lv st (w.set b (.inl xs)) kc ks) : XA l g M Q pc lv (.int n :: .int 0 :: .ref b :: .int 0 :: .ref a :: st) w kc ks := by
  intro Af ad0 n0 p e s m args below meth c X ad H locs ls hF hn ha hP hD hS hls
  have hset : (xw g ad w).set b (ad b, .inl (g.2.1, ys.length, .inl (va_cpy (fun k => xs.getD k 0) (fun k => ys.getD k 0) (0 : Int32).toNatClampNeg (0 : Int32).toNatClampNeg n.toNatClampNeg))) = xw g ad (w.set b (.inl xs)) := by
    rw [← xw_set]
    congr 2
    show (Sum.inl _ : va_E) = Sum.inl _
    rw [hny, hnx]
    congr 4
    funext k
    show (if 0 ≤ k ∧ k < 0 + xs.length then xs.getD (0 + (k - 0)) 0 else ys.getD k 0) = xs.getD k 0
    by_cases hk : k < xs.length
    · rw [if_pos ⟨Nat.zero_le _, by omega⟩]; congr 1; omega
    · rw [if_neg (by omega)]
      simp only [List.getD_eq_getElem?_getD]
      rw [List.getElem?_eq_none (by omega), List.getElem?_eq_none (by omega)]
  refine va_copyi X.1 X.2.1 (X.2.2.2.1.trans hls.1.symm) X.2.2.2.2.1 (X.2.2.2.2.2.1 _ hl) (X.2.2.2.2.2.1 _ h1) (X.2.2.2.2.2.1 _ h2) (X.2.2.2.2.2.1 _ h3) X.2.2.2.2.2.2.2.1.1 hP hD hS a b 0 0 (xw_at hwa) (xw_at hwb) (ty := .int) rfl rfl rfl (by decide) (by decide) hn0 ?_ ?_ (fun i _ => rfl) hh ?_ hd (fun H1 locs1 hP1 hD1 hS1 => ?_)
  · show 0 + n.toNatClampNeg ≤ xs.length
    omega
  · show 0 + n.toNatClampNeg ≤ ys.length
    omega
  · show ((st.map (xv ad)).map fun v => v.category).sum + (nativeFrameWords "java/lang/System" "arraycopy" 5 + 11) ≤ 40 * M.2.2.2.2.1
    rw [st_cat]
    have : nativeFrameWords "java/lang/System" "arraycopy" 5 ≤ 20 := by decide +kernel
    omega
  · rw [hset] at hP1 hD1
    exact h Af ad0 n0 p e s m args below meth c X ad H1 locs1 ls ⟨xwok_set hF.1 trivial, fun u hu => by rw [List.length_set]; exact hF.2.1 u (by simp [hu]), fun u hu => by rw [List.length_set]; exact hF.2.2 u hu⟩ (by rw [List.length_set]; exact hn) ha hP1 hD1 hS1 hls
end XCALL
/-- a contract out of the walk of the method's body -/
theorem lvh_entry (ad : Nat → Nat) (as : List Value) {n : Nat} (hc : ∀ v ∈ as, v.category = 1) (hl : as.length ≤ n) : lvh ((lg_sl (as.map (xv ad)) ++ List.replicate (n - (lg_sl (as.map (xv ad))).length) Slot.unset).toArray) n ad (as.map some ++ List.replicate (n - as.length) none) := by
  have e1 : ∀ bs : List Value, (∀ v ∈ bs, v.category = 1) → lg_sl (bs.map (xv ad)) = bs.map (fun v => Slot.val (xv ad v)) := by
    intro bs
    induction bs with
    | nil => intro _; rfl
    | cons b bs ih =>
      intro hb
      have h1 := hb b List.mem_cons_self
      have h2 := ih (fun v hv => hb v (List.mem_cons_of_mem _ hv))
      have h3 : (xv ad b).category = 1 := by rw [xv_cat]; exact h1
      simp only [List.map_cons]
      rw [← h2]
      cases hb' : xv ad b <;> rw [hb'] at h3 <;> first | rfl | (simp [Value.category] at h3)
  have e2 := e1 as hc
  have hlen : (lg_sl (as.map (xv ad))).length = as.length := by rw [e2]; simp
  obtain ⟨h1, h2, -⟩ := lv_entry (as.map (xv ad)) (n := n) (by rw [hlen]; exact hl)
  refine ⟨h1, h2, fun k v hk => ?_, fun k v hk => ?_⟩
  · have := List.mem_of_getElem? hk
    rcases List.mem_append.mp this with h | h
    · obtain ⟨u, hu, hu2⟩ := List.mem_map.mp h
      cases hu2
      exact hc _ hu
    · rw [List.mem_replicate] at h
      cases h.2
  · have hk1 : k < as.length := by
      rcases Nat.lt_or_ge k as.length with h | h
      · exact h
      · rw [List.getElem?_append_right (by simpa using h)] at hk
        have := List.mem_of_getElem? hk
        rw [List.mem_replicate] at this
        cases this.2
    rw [List.getElem?_append_left (by simpa using hk1), List.getElem?_map] at hk
    rw [List.getElem?_toArray, List.getElem?_append_left (by rw [hlen]; exact hk1), e2, List.getElem?_map]
    cases hq : as[k]? with
    | none => rw [hq] at hk; cases hk
    | some u => rw [hq] at hk; cases hk; rfl
theorem Ct_of {l : Launch} {g : XG} {M : XM} {as : List Value} {w : XW} {Q : Option Value → XW → Prop} (hy : plainName M.1.cls = true) (hc : ∀ v ∈ as, v.category = 1) (hl : as.length ≤ M.2.2.1) (h : XA l g M Q 0 (as.map some ++ List.replicate (M.2.2.1 - as.length) none) [] w 0 0) : Ct l g M as w Q := by
  intro hwf hao ad sz
  refine Met.ofW (cc := M.2.1) (maxL := M.2.2.1) (ret := M.2.2.2.1) hy rfl ?_
  intro p e s m args below meth c s₁ B hml hv
  obtain ⟨rfl, hsz, hP, hK, hD0⟩ := hv
  subst hsz
  have hts := atoms_spec (ws := xm_ws M) B.pre
  have hown : s.vm.findClass M.1.cls = some m.cls := findClass_of_methodNamed B.named
  have hin : meth.name = M.1.name := (name_of_methodNamed B.named B.method).1
  rw [lg_entry_eq]
  exact h (va_A (xw g ad w) s.heap.size) ad w.length p e s m _ below meth c ⟨B.exec, B.bytes, B.returns, hml, hown, fun w hw => hts w (List.mem_cons_of_mem _ hw), B.notSynchronized, hK, hin, fun q hq => Or.inr hq⟩ ad s.heap [] _ ⟨hwf, (fun v hv => by cases hv), fun v hv => by
    rcases List.mem_append.mp hv with h | h
    · obtain ⟨u, hu, hu2⟩ := List.mem_map.mp h
      cases hu2
      exact hao _ hu
    · rw [List.mem_replicate] at h
      cases h.2⟩ (Nat.le_refl _) (fun _ _ => rfl) hP hD0.self va_S.rf (lvh_entry ad as hc hl)
end
section
abbrev MX0_init : XM := (yX0_init, cX0_init, 1, none, 1, 1, 8)
theorem lbX0_init : xlB MX0_init 0 := ⟨(xt_in (List.mem_of_getElem? (i := 166) (by decide +kernel)) rfl), (xt_in (List.mem_of_getElem? (i := 53) (by decide +kernel)) rfl), ⟨by decide +kernel, by decide +kernel, by decide +kernel⟩, by decide +kernel⟩
abbrev MX0_lookAt : XM := (yX0_lookAt, cX0_lookAt, 6, none, 2, 0, 0)
theorem lbX0_lookAt : xlB MX0_lookAt 3 := ⟨(xt_in (List.mem_of_getElem? (i := 567) (by decide +kernel)) rfl), (xt_in (List.mem_of_getElem? (i := 53) (by decide +kernel)) rfl), ⟨by decide +kernel, by decide +kernel, by decide +kernel⟩, by decide +kernel⟩
abbrev MX0_append : XM := (yX0_append, cX0_append, 2, none, 0, 0, 0)
theorem lbX0_append : xlB MX0_append 1 := ⟨(xt_in (List.mem_of_getElem? (i := 574) (by decide +kernel)) rfl), (xt_in (List.mem_of_getElem? (i := 53) (by decide +kernel)) rfl), ⟨by decide +kernel, by decide +kernel, by decide +kernel⟩, by decide +kernel⟩
abbrev MX0_isPassedWith : XM := (yX0_isPassedWith, cX0_isPassedWith, 4, some .boolean, 1, 0, 0)
theorem lbX0_isPassedWith : xlB MX0_isPassedWith 1 := ⟨(xt_in (List.mem_of_getElem? (i := 578) (by decide +kernel)) rfl), (xt_in (List.mem_of_getElem? (i := 53) (by decide +kernel)) rfl), ⟨by decide +kernel, by decide +kernel, by decide +kernel⟩, by decide +kernel⟩
abbrev MX1_init : XM := (yX1_init, cX1_init, 1, none, 1, 1, 42)
theorem lbX1_init : xlB MX1_init 0 := ⟨(xt_in (List.mem_of_getElem? (i := 180) (by decide +kernel)) rfl), (xt_in (List.mem_of_getElem? (i := 54) (by decide +kernel)) rfl), ⟨by decide +kernel, by decide +kernel, by decide +kernel⟩, by decide +kernel⟩
abbrev MX1_dataWord : XM := (yX1_dataWord, cX1_dataWord, 6, some .int, 4, 0, 0)
theorem lbX1_dataWord : xlB MX1_dataWord 4 := ⟨(xt_in (List.mem_of_getElem? (i := 523) (by decide +kernel)) rfl), (xt_in (List.mem_of_getElem? (i := 54) (by decide +kernel)) rfl), ⟨by decide +kernel, by decide +kernel, by decide +kernel⟩, by decide +kernel⟩
abbrev MX1_setUp : XM := (yX1_setUp, cX1_setUp, 8, none, 3, 0, 0)
theorem lbX1_setUp : xlB MX1_setUp 3 := ⟨(xt_in (List.mem_of_getElem? (i := 527) (by decide +kernel)) rfl), (xt_in (List.mem_of_getElem? (i := 54) (by decide +kernel)) rfl), ⟨by decide +kernel, by decide +kernel, by decide +kernel⟩, by decide +kernel⟩
abbrev MX1_factor : XM := (yX1_factor, cX1_factor, 3, some .int, 1, 0, 0)
theorem lbX1_factor : xlB MX1_factor 3 := ⟨(xt_in (List.mem_of_getElem? (i := 532) (by decide +kernel)) rfl), (xt_in (List.mem_of_getElem? (i := 54) (by decide +kernel)) rfl), ⟨by decide +kernel, by decide +kernel, by decide +kernel⟩, by decide +kernel⟩
abbrev MX1_eliminate : XM := (yX1_eliminate, cX1_eliminate, 4, none, 1, 0, 0)
theorem lbX1_eliminate : xlB MX1_eliminate 1 := ⟨(xt_in (List.mem_of_getElem? (i := 538) (by decide +kernel)) rfl), (xt_in (List.mem_of_getElem? (i := 54) (by decide +kernel)) rfl), ⟨by decide +kernel, by decide +kernel, by decide +kernel⟩, by decide +kernel⟩
abbrev MX1_swapRows : XM := (yX1_swapRows, cX1_swapRows, 5, none, 0, 0, 0)
theorem lbX1_swapRows : xlB MX1_swapRows 2 := ⟨(xt_in (List.mem_of_getElem? (i := 542) (by decide +kernel)) rfl), (xt_in (List.mem_of_getElem? (i := 54) (by decide +kernel)) rfl), ⟨by decide +kernel, by decide +kernel, by decide +kernel⟩, by decide +kernel⟩
abbrev MX1_scaleRow : XM := (yX1_scaleRow, cX1_scaleRow, 5, none, 0, 0, 0)
theorem lbX1_scaleRow : xlB MX1_scaleRow 2 := ⟨(xt_in (List.mem_of_getElem? (i := 546) (by decide +kernel)) rfl), (xt_in (List.mem_of_getElem? (i := 54) (by decide +kernel)) rfl), ⟨by decide +kernel, by decide +kernel, by decide +kernel⟩, by decide +kernel⟩
abbrev MX1_subtractRow : XM := (yX1_subtractRow, cX1_subtractRow, 6, none, 0, 0, 0)
theorem lbX1_subtractRow : xlB MX1_subtractRow 3 := ⟨(xt_in (List.mem_of_getElem? (i := 550) (by decide +kernel)) rfl), (xt_in (List.mem_of_getElem? (i := 54) (by decide +kernel)) rfl), ⟨by decide +kernel, by decide +kernel, by decide +kernel⟩, by decide +kernel⟩
abbrev MX2_init : XM := (yX2_init, cX2_init, 1, none, 1, 6, 264)
theorem lbX2_init : xlB MX2_init 0 := ⟨(xt_in (List.mem_of_getElem? (i := 103) (by decide +kernel)) rfl), (xt_in (List.mem_of_getElem? (i := 50) (by decide +kernel)) rfl), ⟨by decide +kernel, by decide +kernel, by decide +kernel⟩, by decide +kernel⟩
abbrev MX2_copyFrom : XM := (yX2_copyFrom, cX2_copyFrom, 2, none, 2, 0, 0)
theorem lbX2_copyFrom : xlB MX2_copyFrom 1 := ⟨(xt_in (List.mem_of_getElem? (i := 248) (by decide +kernel)) rfl), (xt_in (List.mem_of_getElem? (i := 50) (by decide +kernel)) rfl), ⟨by decide +kernel, by decide +kernel, by decide +kernel⟩, by decide +kernel⟩
abbrev MX2_exists : XM := (yX2_exists, cX2_exists, 2, some .boolean, 0, 0, 0)
theorem lbX2_exists : xlB MX2_exists 1 := ⟨(xt_in (List.mem_of_getElem? (i := 275) (by decide +kernel)) rfl), (xt_in (List.mem_of_getElem? (i := 50) (by decide +kernel)) rfl), ⟨by decide +kernel, by decide +kernel, by decide +kernel⟩, by decide +kernel⟩
abbrev MX2_dataOf : XM := (yX2_dataOf, cX2_dataOf, 2, some .int, 0, 0, 0)
theorem lbX2_dataOf : xlB MX2_dataOf 1 := ⟨(xt_in (List.mem_of_getElem? (i := 443) (by decide +kernel)) rfl), (xt_in (List.mem_of_getElem? (i := 50) (by decide +kernel)) rfl), ⟨by decide +kernel, by decide +kernel, by decide +kernel⟩, by decide +kernel⟩
abbrev MX2_fragmentNumber : XM := (yX2_fragmentNumber, cX2_fragmentNumber, 2, some .int, 0, 0, 0)
theorem lbX2_fragmentNumber : xlB MX2_fragmentNumber 1 := ⟨(xt_in (List.mem_of_getElem? (i := 356) (by decide +kernel)) rfl), (xt_in (List.mem_of_getElem? (i := 50) (by decide +kernel)) rfl), ⟨by decide +kernel, by decide +kernel, by decide +kernel⟩, by decide +kernel⟩
abbrev MX2_hasFragment : XM := (yX2_hasFragment, cX2_hasFragment, 3, some .boolean, 1, 0, 0)
theorem lbX2_hasFragment : xlB MX2_hasFragment 2 := ⟨(xt_in (List.mem_of_getElem? (i := 480) (by decide +kernel)) rfl), (xt_in (List.mem_of_getElem? (i := 50) (by decide +kernel)) rfl), ⟨by decide +kernel, by decide +kernel, by decide +kernel⟩, by decide +kernel⟩
abbrev MX2_hasData : XM := (yX2_hasData, cX2_hasData, 3, some .boolean, 1, 0, 0)
theorem lbX2_hasData : xlB MX2_hasData 2 := ⟨(xt_in (List.mem_of_getElem? (i := 498) (by decide +kernel)) rfl), (xt_in (List.mem_of_getElem? (i := 50) (by decide +kernel)) rfl), ⟨by decide +kernel, by decide +kernel, by decide +kernel⟩, by decide +kernel⟩
abbrev MX2_ownerOf : XM := (yX2_ownerOf, cX2_ownerOf, 2, some .int, 0, 0, 0)
theorem lbX2_ownerOf : xlB MX2_ownerOf 1 := ⟨(xt_in (List.mem_of_getElem? (i := 279) (by decide +kernel)) rfl), (xt_in (List.mem_of_getElem? (i := 50) (by decide +kernel)) rfl), ⟨by decide +kernel, by decide +kernel, by decide +kernel⟩, by decide +kernel⟩
abbrev MX2_isInRows : XM := (yX2_isInRows, cX2_isInRows, 2, some .boolean, 0, 0, 0)
theorem lbX2_isInRows : xlB MX2_isInRows 2 := ⟨(xt_in (List.mem_of_getElem? (i := 311) (by decide +kernel)) rfl), (xt_in (List.mem_of_getElem? (i := 50) (by decide +kernel)) rfl), ⟨by decide +kernel, by decide +kernel, by decide +kernel⟩, by decide +kernel⟩
abbrev MX2_placeOf : XM := (yX2_placeOf, cX2_placeOf, 3, some .int, 1, 0, 0)
theorem lbX2_placeOf : xlB MX2_placeOf 2 := ⟨(xt_in (List.mem_of_getElem? (i := 319) (by decide +kernel)) rfl), (xt_in (List.mem_of_getElem? (i := 50) (by decide +kernel)) rfl), ⟨by decide +kernel, by decide +kernel, by decide +kernel⟩, by decide +kernel⟩
abbrev MX2_correctValue : XM := (yX2_correctValue, cX2_correctValue, 3, some .int, 1, 0, 0)
theorem lbX2_correctValue : xlB MX2_correctValue 2 := ⟨(xt_in (List.mem_of_getElem? (i := 489) (by decide +kernel)) rfl), (xt_in (List.mem_of_getElem? (i := 50) (by decide +kernel)) rfl), ⟨by decide +kernel, by decide +kernel, by decide +kernel⟩, by decide +kernel⟩
abbrev MX2_errorOf : XM := (yX2_errorOf, cX2_errorOf, 3, some .int, 1, 0, 0)
theorem lbX2_errorOf : xlB MX2_errorOf 2 := ⟨(xt_in (List.mem_of_getElem? (i := 308) (by decide +kernel)) rfl), (xt_in (List.mem_of_getElem? (i := 50) (by decide +kernel)) rfl), ⟨by decide +kernel, by decide +kernel, by decide +kernel⟩, by decide +kernel⟩
abbrev MX2_storedValue : XM := (yX2_storedValue, cX2_storedValue, 3, some .int, 2, 0, 0)
theorem lbX2_storedValue : xlB MX2_storedValue 2 := ⟨(xt_in (List.mem_of_getElem? (i := 485) (by decide +kernel)) rfl), (xt_in (List.mem_of_getElem? (i := 50) (by decide +kernel)) rfl), ⟨by decide +kernel, by decide +kernel, by decide +kernel⟩, by decide +kernel⟩
abbrev MX2_isStored : XM := (yX2_isStored, cX2_isStored, 3, some .boolean, 2, 0, 0)
theorem lbX2_isStored : xlB MX2_isStored 2 := ⟨(xt_in (List.mem_of_getElem? (i := 452) (by decide +kernel)) rfl), (xt_in (List.mem_of_getElem? (i := 50) (by decide +kernel)) rfl), ⟨by decide +kernel, by decide +kernel, by decide +kernel⟩, by decide +kernel⟩
abbrev MX2_isSpoiled : XM := (yX2_isSpoiled, cX2_isSpoiled, 3, some .boolean, 3, 0, 0)
theorem lbX2_isSpoiled : xlB MX2_isSpoiled 2 := ⟨(xt_in (List.mem_of_getElem? (i := 682) (by decide +kernel)) rfl), (xt_in (List.mem_of_getElem? (i := 50) (by decide +kernel)) rfl), ⟨by decide +kernel, by decide +kernel, by decide +kernel⟩, by decide +kernel⟩
abbrev MX2_fragmentOn : XM := (yX2_fragmentOn, cX2_fragmentOn, 5, some .int, 0, 0, 0)
theorem lbX2_fragmentOn : xlB MX2_fragmentOn 2 := ⟨(xt_in (List.mem_of_getElem? (i := 287) (by decide +kernel)) rfl), (xt_in (List.mem_of_getElem? (i := 50) (by decide +kernel)) rfl), ⟨by decide +kernel, by decide +kernel, by decide +kernel⟩, by decide +kernel⟩
abbrev MX2_number : XM := (yX2_number, cX2_number, 3, some .int, 1, 0, 0)
theorem lbX2_number : xlB MX2_number 0 := ⟨(xt_in (List.mem_of_getElem? (i := 435) (by decide +kernel)) rfl), (xt_in (List.mem_of_getElem? (i := 50) (by decide +kernel)) rfl), ⟨by decide +kernel, by decide +kernel, by decide +kernel⟩, by decide +kernel⟩
abbrev MX2_lowestUnused : XM := (yX2_lowestUnused, cX2_lowestUnused, 2, some .int, 1, 0, 0)
theorem lbX2_lowestUnused : xlB MX2_lowestUnused 0 := ⟨(xt_in (List.mem_of_getElem? (i := 410) (by decide +kernel)) rfl), (xt_in (List.mem_of_getElem? (i := 50) (by decide +kernel)) rfl), ⟨by decide +kernel, by decide +kernel, by decide +kernel⟩, by decide +kernel⟩
abbrev MX2_ownedBy : XM := (yX2_ownedBy, cX2_ownedBy, 4, some .int, 1, 0, 0)
theorem lbX2_ownedBy : xlB MX2_ownedBy 1 := ⟨(xt_in (List.mem_of_getElem? (i := 271) (by decide +kernel)) rfl), (xt_in (List.mem_of_getElem? (i := 50) (by decide +kernel)) rfl), ⟨by decide +kernel, by decide +kernel, by decide +kernel⟩, by decide +kernel⟩
abbrev MX2_storedNumber : XM := (yX2_storedNumber, cX2_storedNumber, 5, some .int, 3, 0, 0)
theorem lbX2_storedNumber : xlB MX2_storedNumber 1 := ⟨(xt_in (List.mem_of_getElem? (i := 447) (by decide +kernel)) rfl), (xt_in (List.mem_of_getElem? (i := 50) (by decide +kernel)) rfl), ⟨by decide +kernel, by decide +kernel, by decide +kernel⟩, by decide +kernel⟩
abbrev MX2_spoiledNumber : XM := (yX2_spoiledNumber, cX2_spoiledNumber, 5, some .int, 4, 0, 0)
theorem lbX2_spoiledNumber : xlB MX2_spoiledNumber 1 := ⟨(xt_in (List.mem_of_getElem? (i := 678) (by decide +kernel)) rfl), (xt_in (List.mem_of_getElem? (i := 50) (by decide +kernel)) rfl), ⟨by decide +kernel, by decide +kernel, by decide +kernel⟩, by decide +kernel⟩
abbrev MX2_allStored : XM := (yX2_allStored, cX2_allStored, 3, some .int, 4, 0, 0)
theorem lbX2_allStored : xlB MX2_allStored 0 := ⟨(xt_in (List.mem_of_getElem? (i := 669) (by decide +kernel)) rfl), (xt_in (List.mem_of_getElem? (i := 50) (by decide +kernel)) rfl), ⟨by decide +kernel, by decide +kernel, by decide +kernel⟩, by decide +kernel⟩
abbrev MX2_allSpoiled : XM := (yX2_allSpoiled, cX2_allSpoiled, 3, some .int, 5, 0, 0)
theorem lbX2_allSpoiled : xlB MX2_allSpoiled 0 := ⟨(xt_in (List.mem_of_getElem? (i := 674) (by decide +kernel)) rfl), (xt_in (List.mem_of_getElem? (i := 50) (by decide +kernel)) rfl), ⟨by decide +kernel, by decide +kernel, by decide +kernel⟩, by decide +kernel⟩
abbrev MX2_isDecodingSet : XM := (yX2_isDecodingSet, cX2_isDecodingSet, 3, some .boolean, 1, 0, 0)
theorem lbX2_isDecodingSet : xlB MX2_isDecodingSet 2 := ⟨(xt_in (List.mem_of_getElem? (i := 509) (by decide +kernel)) rfl), (xt_in (List.mem_of_getElem? (i := 50) (by decide +kernel)) rfl), ⟨by decide +kernel, by decide +kernel, by decide +kernel⟩, by decide +kernel⟩
abbrev MX2_isStoredSet : XM := (yX2_isStoredSet, cX2_isStoredSet, 5, some .boolean, 3, 0, 0)
theorem lbX2_isStoredSet : xlB MX2_isStoredSet 2 := ⟨(xt_in (List.mem_of_getElem? (i := 519) (by decide +kernel)) rfl), (xt_in (List.mem_of_getElem? (i := 50) (by decide +kernel)) rfl), ⟨by decide +kernel, by decide +kernel, by decide +kernel⟩, by decide +kernel⟩
abbrev MX2_add : XM := (yX2_add, cX2_add, 9, none, 2, 0, 0)
theorem lbX2_add : xlB MX2_add 5 := ⟨(xt_in (List.mem_of_getElem? (i := 418) (by decide +kernel)) rfl), (xt_in (List.mem_of_getElem? (i := 50) (by decide +kernel)) rfl), ⟨by decide +kernel, by decide +kernel, by decide +kernel⟩, by decide +kernel⟩
abbrev MX2_parityWord : XM := (yX2_parityWord, cX2_parityWord, 5, some .int, 1, 0, 0)
theorem lbX2_parityWord : xlB MX2_parityWord 3 := ⟨(xt_in (List.mem_of_getElem? (i := 422) (by decide +kernel)) rfl), (xt_in (List.mem_of_getElem? (i := 50) (by decide +kernel)) rfl), ⟨by decide +kernel, by decide +kernel, by decide +kernel⟩, by decide +kernel⟩
abbrev MX2_remove : XM := (yX2_remove, cX2_remove, 2, none, 1, 0, 0)
theorem lbX2_remove : xlB MX2_remove 1 := ⟨(xt_in (List.mem_of_getElem? (i := 360) (by decide +kernel)) rfl), (xt_in (List.mem_of_getElem? (i := 50) (by decide +kernel)) rfl), ⟨by decide +kernel, by decide +kernel, by decide +kernel⟩, by decide +kernel⟩
abbrev MX2_setFragment : XM := (yX2_setFragment, cX2_setFragment, 5, none, 1, 0, 0)
theorem lbX2_setFragment : xlB MX2_setFragment 4 := ⟨(xt_in (List.mem_of_getElem? (i := 327) (by decide +kernel)) rfl), (xt_in (List.mem_of_getElem? (i := 50) (by decide +kernel)) rfl), ⟨by decide +kernel, by decide +kernel, by decide +kernel⟩, by decide +kernel⟩
abbrev MX2_addError : XM := (yX2_addError, cX2_addError, 5, none, 1, 0, 0)
theorem lbX2_addError : xlB MX2_addError 3 := ⟨(xt_in (List.mem_of_getElem? (i := 558) (by decide +kernel)) rfl), (xt_in (List.mem_of_getElem? (i := 50) (by decide +kernel)) rfl), ⟨by decide +kernel, by decide +kernel, by decide +kernel⟩, by decide +kernel⟩
abbrev MX3_init : XM := (yX3_init, cX3_init, 2, none, 3, 76, 2390)
theorem lbX3_init : xlB MX3_init 0 := ⟨(xt_in (List.mem_of_getElem? (i := 149) (by decide +kernel)) rfl), (xt_in (List.mem_of_getElem? (i := 52) (by decide +kernel)) rfl), ⟨by decide +kernel, by decide +kernel, by decide +kernel⟩, by decide +kernel⟩
abbrev MX3_record : XM := (yX3_record, cX3_record, 2, none, 4, 0, 0)
theorem lbX3_record : xlB MX3_record 1 := ⟨(xt_in (List.mem_of_getElem? (i := 223) (by decide +kernel)) rfl), (xt_in (List.mem_of_getElem? (i := 52) (by decide +kernel)) rfl), ⟨by decide +kernel, by decide +kernel, by decide +kernel⟩, by decide +kernel⟩
abbrev MX3_dropOldest : XM := (yX3_dropOldest, cX3_dropOldest, 3, none, 0, 0, 0)
theorem lbX3_dropOldest : xlB MX3_dropOldest 0 := ⟨(xt_in (List.mem_of_getElem? (i := 227) (by decide +kernel)) rfl), (xt_in (List.mem_of_getElem? (i := 52) (by decide +kernel)) rfl), ⟨by decide +kernel, by decide +kernel, by decide +kernel⟩, by decide +kernel⟩
abbrev MX3_restoreLatest : XM := (yX3_restoreLatest, cX3_restoreLatest, 2, none, 4, 0, 0)
theorem lbX3_restoreLatest : xlB MX3_restoreLatest 1 := ⟨(xt_in (List.mem_of_getElem? (i := 620) (by decide +kernel)) rfl), (xt_in (List.mem_of_getElem? (i := 52) (by decide +kernel)) rfl), ⟨by decide +kernel, by decide +kernel, by decide +kernel⟩, by decide +kernel⟩
abbrev MX4_init : XM := (yX4_init, cX4_init, 1, none, 1, 5, 192)
theorem lbX4_init : xlB MX4_init 0 := ⟨(xt_in (List.mem_of_getElem? (i := 77) (by decide +kernel)) rfl), (xt_in (List.mem_of_getElem? (i := 49) (by decide +kernel)) rfl), ⟨by decide +kernel, by decide +kernel, by decide +kernel⟩, by decide +kernel⟩
abbrev MX4_copyFrom : XM := (yX4_copyFrom, cX4_copyFrom, 2, none, 2, 0, 0)
theorem lbX4_copyFrom : xlB MX4_copyFrom 1 := ⟨(xt_in (List.mem_of_getElem? (i := 235) (by decide +kernel)) rfl), (xt_in (List.mem_of_getElem? (i := 49) (by decide +kernel)) rfl), ⟨by decide +kernel, by decide +kernel, by decide +kernel⟩, by decide +kernel⟩
abbrev MX4_exists : XM := (yX4_exists, cX4_exists, 2, some .boolean, 0, 0, 0)
theorem lbX4_exists : xlB MX4_exists 1 := ⟨(xt_in (List.mem_of_getElem? (i := 219) (by decide +kernel)) rfl), (xt_in (List.mem_of_getElem? (i := 49) (by decide +kernel)) rfl), ⟨by decide +kernel, by decide +kernel, by decide +kernel⟩, by decide +kernel⟩
abbrev MX4_areTwo : XM := (yX4_areTwo, cX4_areTwo, 3, some .boolean, 1, 0, 0)
theorem lbX4_areTwo : xlB MX4_areTwo 2 := ⟨(xt_in (List.mem_of_getElem? (i := 372) (by decide +kernel)) rfl), (xt_in (List.mem_of_getElem? (i := 49) (by decide +kernel)) rfl), ⟨by decide +kernel, by decide +kernel, by decide +kernel⟩, by decide +kernel⟩
abbrev MX4_isOnline : XM := (yX4_isOnline, cX4_isOnline, 2, some .boolean, 0, 0, 0)
theorem lbX4_isOnline : xlB MX4_isOnline 1 := ⟨(xt_in (List.mem_of_getElem? (i := 267) (by decide +kernel)) rfl), (xt_in (List.mem_of_getElem? (i := 49) (by decide +kernel)) rfl), ⟨by decide +kernel, by decide +kernel, by decide +kernel⟩, by decide +kernel⟩
abbrev MX4_freeSpace : XM := (yX4_freeSpace, cX4_freeSpace, 2, some .int, 0, 0, 0)
theorem lbX4_freeSpace : xlB MX4_freeSpace 1 := ⟨(xt_in (List.mem_of_getElem? (i := 299) (by decide +kernel)) rfl), (xt_in (List.mem_of_getElem? (i := 49) (by decide +kernel)) rfl), ⟨by decide +kernel, by decide +kernel, by decide +kernel⟩, by decide +kernel⟩
abbrev MX4_number : XM := (yX4_number, cX4_number, 3, some .int, 1, 0, 0)
theorem lbX4_number : xlB MX4_number 0 := ⟨(xt_in (List.mem_of_getElem? (i := 628) (by decide +kernel)) rfl), (xt_in (List.mem_of_getElem? (i := 49) (by decide +kernel)) rfl), ⟨by decide +kernel, by decide +kernel, by decide +kernel⟩, by decide +kernel⟩
abbrev MX4_lowestUnused : XM := (yX4_lowestUnused, cX4_lowestUnused, 2, some .int, 1, 0, 0)
theorem lbX4_lowestUnused : xlB MX4_lowestUnused 0 := ⟨(xt_in (List.mem_of_getElem? (i := 215) (by decide +kernel)) rfl), (xt_in (List.mem_of_getElem? (i := 49) (by decide +kernel)) rfl), ⟨by decide +kernel, by decide +kernel, by decide +kernel⟩, by decide +kernel⟩
abbrev MX4_onlineFreeSpace : XM := (yX4_onlineFreeSpace, cX4_onlineFreeSpace, 3, some .int, 1, 0, 0)
theorem lbX4_onlineFreeSpace : xlB MX4_onlineFreeSpace 0 := ⟨(xt_in (List.mem_of_getElem? (i := 686) (by decide +kernel)) rfl), (xt_in (List.mem_of_getElem? (i := 49) (by decide +kernel)) rfl), ⟨by decide +kernel, by decide +kernel, by decide +kernel⟩, by decide +kernel⟩
abbrev MX4_add : XM := (yX4_add, cX4_add, 3, none, 0, 0, 0)
theorem lbX4_add : xlB MX4_add 2 := ⟨(xt_in (List.mem_of_getElem? (i := 254) (by decide +kernel)) rfl), (xt_in (List.mem_of_getElem? (i := 49) (by decide +kernel)) rfl), ⟨by decide +kernel, by decide +kernel, by decide +kernel⟩, by decide +kernel⟩
abbrev MX4_remove : XM := (yX4_remove, cX4_remove, 3, none, 1, 0, 0)
theorem lbX4_remove : xlB MX4_remove 1 := ⟨(xt_in (List.mem_of_getElem? (i := 340) (by decide +kernel)) rfl), (xt_in (List.mem_of_getElem? (i := 49) (by decide +kernel)) rfl), ⟨by decide +kernel, by decide +kernel, by decide +kernel⟩, by decide +kernel⟩
abbrev MX4_addLoad : XM := (yX4_addLoad, cX4_addLoad, 3, none, 1, 0, 0)
theorem lbX4_addLoad : xlB MX4_addLoad 2 := ⟨(xt_in (List.mem_of_getElem? (i := 323) (by decide +kernel)) rfl), (xt_in (List.mem_of_getElem? (i := 49) (by decide +kernel)) rfl), ⟨by decide +kernel, by decide +kernel, by decide +kernel⟩, by decide +kernel⟩
abbrev MX4_raiseTrust : XM := (yX4_raiseTrust, cX4_raiseTrust, 2, none, 1, 0, 0)
theorem lbX4_raiseTrust : xlB MX4_raiseTrust 1 := ⟨(xt_in (List.mem_of_getElem? (i := 587) (by decide +kernel)) rfl), (xt_in (List.mem_of_getElem? (i := 49) (by decide +kernel)) rfl), ⟨by decide +kernel, by decide +kernel, by decide +kernel⟩, by decide +kernel⟩
abbrev MX4_halveTrust : XM := (yX4_halveTrust, cX4_halveTrust, 2, none, 1, 0, 0)
theorem lbX4_halveTrust : xlB MX4_halveTrust 1 := ⟨(xt_in (List.mem_of_getElem? (i := 583) (by decide +kernel)) rfl), (xt_in (List.mem_of_getElem? (i := 49) (by decide +kernel)) rfl), ⟨by decide +kernel, by decide +kernel, by decide +kernel⟩, by decide +kernel⟩
abbrev MX4_isBetterPlace : XM := (yX4_isBetterPlace, cX4_isBetterPlace, 3, some .boolean, 1, 0, 0)
theorem lbX4_isBetterPlace : xlB MX4_isBetterPlace 2 := ⟨(xt_in (List.mem_of_getElem? (i := 303) (by decide +kernel)) rfl), (xt_in (List.mem_of_getElem? (i := 49) (by decide +kernel)) rfl), ⟨by decide +kernel, by decide +kernel, by decide +kernel⟩, by decide +kernel⟩
abbrev MX4_owe : XM := (yX4_owe, cX4_owe, 4, none, 1, 0, 0)
theorem lbX4_owe : xlB MX4_owe 3 := ⟨(xt_in (List.mem_of_getElem? (i := 336) (by decide +kernel)) rfl), (xt_in (List.mem_of_getElem? (i := 49) (by decide +kernel)) rfl), ⟨by decide +kernel, by decide +kernel, by decide +kernel⟩, by decide +kernel⟩
abbrev MX4_owedBy : XM := (yX4_owedBy, cX4_owedBy, 3, some .int, 2, 0, 0)
theorem lbX4_owedBy : xlB MX4_owedBy 2 := ⟨(xt_in (List.mem_of_getElem? (i := 376) (by decide +kernel)) rfl), (xt_in (List.mem_of_getElem? (i := 49) (by decide +kernel)) rfl), ⟨by decide +kernel, by decide +kernel, by decide +kernel⟩, by decide +kernel⟩
abbrev MX4_sumOwedBy : XM := (yX4_sumOwedBy, cX4_sumOwedBy, 4, some .int, 3, 0, 0)
theorem lbX4_sumOwedBy : xlB MX4_sumOwedBy 1 := ⟨(xt_in (List.mem_of_getElem? (i := 388) (by decide +kernel)) rfl), (xt_in (List.mem_of_getElem? (i := 49) (by decide +kernel)) rfl), ⟨by decide +kernel, by decide +kernel, by decide +kernel⟩, by decide +kernel⟩
abbrev MX4_sumOfDebts : XM := (yX4_sumOfDebts, cX4_sumOfDebts, 3, some .int, 1, 0, 0)
theorem lbX4_sumOfDebts : xlB MX4_sumOfDebts 0 := ⟨(xt_in (List.mem_of_getElem? (i := 691) (by decide +kernel)) rfl), (xt_in (List.mem_of_getElem? (i := 49) (by decide +kernel)) rfl), ⟨by decide +kernel, by decide +kernel, by decide +kernel⟩, by decide +kernel⟩
abbrev MX5_init : XM := (yX5_init, cX5_init, 1, none, 2, 14, 473)
theorem lbX5_init : xlB MX5_init 0 := ⟨(xt_in (List.mem_of_getElem? (i := 71) (by decide +kernel)) rfl), (xt_in (List.mem_of_getElem? (i := 48) (by decide +kernel)) rfl), ⟨by decide +kernel, by decide +kernel, by decide +kernel⟩, by decide +kernel⟩
abbrev MX5_copyFrom : XM := (yX5_copyFrom, cX5_copyFrom, 2, none, 3, 0, 0)
theorem lbX5_copyFrom : xlB MX5_copyFrom 1 := ⟨(xt_in (List.mem_of_getElem? (i := 231) (by decide +kernel)) rfl), (xt_in (List.mem_of_getElem? (i := 48) (by decide +kernel)) rfl), ⟨by decide +kernel, by decide +kernel, by decide +kernel⟩, by decide +kernel⟩
abbrev MX5_addWaiting : XM := (yX5_addWaiting, cX5_addWaiting, 2, some .int, 0, 0, 0)
theorem lbX5_addWaiting : xlB MX5_addWaiting 1 := ⟨(xt_in (List.mem_of_getElem? (i := 401) (by decide +kernel)) rfl), (xt_in (List.mem_of_getElem? (i := 48) (by decide +kernel)) rfl), ⟨by decide +kernel, by decide +kernel, by decide +kernel⟩, by decide +kernel⟩
abbrev MX5_isGood : XM := (yX5_isGood, cX5_isGood, 3, some .boolean, 2, 0, 0)
theorem lbX5_isGood : xlB MX5_isGood 2 := ⟨(xt_in (List.mem_of_getElem? (i := 461) (by decide +kernel)) rfl), (xt_in (List.mem_of_getElem? (i := 48) (by decide +kernel)) rfl), ⟨by decide +kernel, by decide +kernel, by decide +kernel⟩, by decide +kernel⟩
abbrev MX5_goodNumber : XM := (yX5_goodNumber, cX5_goodNumber, 5, some .int, 3, 0, 0)
theorem lbX5_goodNumber : xlB MX5_goodNumber 1 := ⟨(xt_in (List.mem_of_getElem? (i := 457) (by decide +kernel)) rfl), (xt_in (List.mem_of_getElem? (i := 48) (by decide +kernel)) rfl), ⟨by decide +kernel, by decide +kernel, by decide +kernel⟩, by decide +kernel⟩
abbrev MX5_reserveOf : XM := (yX5_reserveOf, cX5_reserveOf, 2, some .int, 4, 0, 0)
theorem lbX5_reserveOf : xlB MX5_reserveOf 1 := ⟨(xt_in (List.mem_of_getElem? (i := 472) (by decide +kernel)) rfl), (xt_in (List.mem_of_getElem? (i := 48) (by decide +kernel)) rfl), ⟨by decide +kernel, by decide +kernel, by decide +kernel⟩, by decide +kernel⟩
abbrev MX5_isSafe : XM := (yX5_isSafe, cX5_isSafe, 2, some .boolean, 4, 0, 0)
theorem lbX5_isSafe : xlB MX5_isSafe 1 := ⟨(xt_in (List.mem_of_getElem? (i := 465) (by decide +kernel)) rfl), (xt_in (List.mem_of_getElem? (i := 48) (by decide +kernel)) rfl), ⟨by decide +kernel, by decide +kernel, by decide +kernel⟩, by decide +kernel⟩
abbrev MX5_safeNumber : XM := (yX5_safeNumber, cX5_safeNumber, 3, some .int, 5, 0, 0)
theorem lbX5_safeNumber : xlB MX5_safeNumber 0 := ⟨(xt_in (List.mem_of_getElem? (i := 665) (by decide +kernel)) rfl), (xt_in (List.mem_of_getElem? (i := 48) (by decide +kernel)) rfl), ⟨by decide +kernel, by decide +kernel, by decide +kernel⟩, by decide +kernel⟩
abbrev MX5_findPlace : XM := (yX5_findPlace, cX5_findPlace, 4, some .int, 2, 0, 0)
theorem lbX5_findPlace : xlB MX5_findPlace 1 := ⟨(xt_in (List.mem_of_getElem? (i := 295) (by decide +kernel)) rfl), (xt_in (List.mem_of_getElem? (i := 48) (by decide +kernel)) rfl), ⟨by decide +kernel, by decide +kernel, by decide +kernel⟩, by decide +kernel⟩
abbrev MX5_putOn : XM := (yX5_putOn, cX5_putOn, 5, none, 2, 0, 0)
theorem lbX5_putOn : xlB MX5_putOn 4 := ⟨(xt_in (List.mem_of_getElem? (i := 331) (by decide +kernel)) rfl), (xt_in (List.mem_of_getElem? (i := 48) (by decide +kernel)) rfl), ⟨by decide +kernel, by decide +kernel, by decide +kernel⟩, by decide +kernel⟩
abbrev MX5_takeOff : XM := (yX5_takeOff, cX5_takeOff, 3, none, 2, 0, 0)
theorem lbX5_takeOff : xlB MX5_takeOff 2 := ⟨(xt_in (List.mem_of_getElem? (i := 315) (by decide +kernel)) rfl), (xt_in (List.mem_of_getElem? (i := 48) (by decide +kernel)) rfl), ⟨by decide +kernel, by decide +kernel, by decide +kernel⟩, by decide +kernel⟩
abbrev MX5_makeFile : XM := (yX5_makeFile, cX5_makeFile, 7, none, 3, 0, 0)
theorem lbX5_makeFile : xlB MX5_makeFile 3 := ⟨(xt_in (List.mem_of_getElem? (i := 414) (by decide +kernel)) rfl), (xt_in (List.mem_of_getElem? (i := 48) (by decide +kernel)) rfl), ⟨by decide +kernel, by decide +kernel, by decide +kernel⟩, by decide +kernel⟩
abbrev MX5_removeFile : XM := (yX5_removeFile, cX5_removeFile, 4, none, 3, 0, 0)
theorem lbX5_removeFile : xlB MX5_removeFile 1 := ⟨(xt_in (List.mem_of_getElem? (i := 352) (by decide +kernel)) rfl), (xt_in (List.mem_of_getElem? (i := 48) (by decide +kernel)) rfl), ⟨by decide +kernel, by decide +kernel, by decide +kernel⟩, by decide +kernel⟩
abbrev MX5_mayLeave : XM := (yX5_mayLeave, cX5_mayLeave, 2, some .boolean, 2, 0, 0)
theorem lbX5_mayLeave : xlB MX5_mayLeave 1 := ⟨(xt_in (List.mem_of_getElem? (i := 263) (by decide +kernel)) rfl), (xt_in (List.mem_of_getElem? (i := 48) (by decide +kernel)) rfl), ⟨by decide +kernel, by decide +kernel, by decide +kernel⟩, by decide +kernel⟩
abbrev MX5_leaveInOrder : XM := (yX5_leaveInOrder, cX5_leaveInOrder, 5, some .int, 4, 0, 0)
theorem lbX5_leaveInOrder : xlB MX5_leaveInOrder 1 := ⟨(xt_in (List.mem_of_getElem? (i := 283) (by decide +kernel)) rfl), (xt_in (List.mem_of_getElem? (i := 48) (by decide +kernel)) rfl), ⟨by decide +kernel, by decide +kernel, by decide +kernel⟩, by decide +kernel⟩
abbrev MX5_move : XM := (yX5_move, cX5_move, 5, some .boolean, 3, 0, 0)
theorem lbX5_move : xlB MX5_move 2 := ⟨(xt_in (List.mem_of_getElem? (i := 291) (by decide +kernel)) rfl), (xt_in (List.mem_of_getElem? (i := 48) (by decide +kernel)) rfl), ⟨by decide +kernel, by decide +kernel, by decide +kernel⟩, by decide +kernel⟩
abbrev MX5_removeCrashed : XM := (yX5_removeCrashed, cX5_removeCrashed, 5, some .int, 4, 0, 0)
theorem lbX5_removeCrashed : xlB MX5_removeCrashed 1 := ⟨(xt_in (List.mem_of_getElem? (i := 348) (by decide +kernel)) rfl), (xt_in (List.mem_of_getElem? (i := 48) (by decide +kernel)) rfl), ⟨by decide +kernel, by decide +kernel, by decide +kernel⟩, by decide +kernel⟩
abbrev MX5_renewFile : XM := (yX5_renewFile, cX5_renewFile, 5, some .int, 5, 0, 0)
theorem lbX5_renewFile : xlB MX5_renewFile 1 := ⟨(xt_in (List.mem_of_getElem? (i := 600) (by decide +kernel)) rfl), (xt_in (List.mem_of_getElem? (i := 48) (by decide +kernel)) rfl), ⟨by decide +kernel, by decide +kernel, by decide +kernel⟩, by decide +kernel⟩
abbrev MX5_renew : XM := (yX5_renew, cX5_renew, 4, some .boolean, 4, 0, 0)
theorem lbX5_renew : xlB MX5_renew 2 := ⟨(xt_in (List.mem_of_getElem? (i := 604) (by decide +kernel)) rfl), (xt_in (List.mem_of_getElem? (i := 48) (by decide +kernel)) rfl), ⟨by decide +kernel, by decide +kernel, by decide +kernel⟩, by decide +kernel⟩
abbrev MX5_oweReaders : XM := (yX5_oweReaders, cX5_oweReaders, 5, none, 3, 0, 0)
theorem lbX5_oweReaders : xlB MX5_oweReaders 1 := ⟨(xt_in (List.mem_of_getElem? (i := 608) (by decide +kernel)) rfl), (xt_in (List.mem_of_getElem? (i := 48) (by decide +kernel)) rfl), ⟨by decide +kernel, by decide +kernel, by decide +kernel⟩, by decide +kernel⟩
abbrev MX5_needsPeer : XM := (yX5_needsPeer, cX5_needsPeer, 3, some .boolean, 5, 0, 0)
theorem lbX5_needsPeer : xlB MX5_needsPeer 2 := ⟨(xt_in (List.mem_of_getElem? (i := 647) (by decide +kernel)) rfl), (xt_in (List.mem_of_getElem? (i := 48) (by decide +kernel)) rfl), ⟨by decide +kernel, by decide +kernel, by decide +kernel⟩, by decide +kernel⟩
abbrev MX5_bearsCrashes : XM := (yX5_bearsCrashes, cX5_bearsCrashes, 3, some .boolean, 5, 0, 0)
theorem lbX5_bearsCrashes : xlB MX5_bearsCrashes 1 := ⟨(xt_in (List.mem_of_getElem? (i := 632) (by decide +kernel)) rfl), (xt_in (List.mem_of_getElem? (i := 48) (by decide +kernel)) rfl), ⟨by decide +kernel, by decide +kernel, by decide +kernel⟩, by decide +kernel⟩
abbrev MX5_canBreak : XM := (yX5_canBreak, cX5_canBreak, 6, some .boolean, 4, 0, 0)
theorem lbX5_canBreak : xlB MX5_canBreak 2 := ⟨(xt_in (List.mem_of_getElem? (i := 637) (by decide +kernel)) rfl), (xt_in (List.mem_of_getElem? (i := 48) (by decide +kernel)) rfl), ⟨by decide +kernel, by decide +kernel, by decide +kernel⟩, by decide +kernel⟩
abbrev MX6_init : XM := (yX6_init, cX6_init, 1, none, 4, 126, 3877)
theorem lbX6_init : xlB MX6_init 0 := ⟨(xt_in (List.mem_of_getElem? (i := 63) (by decide +kernel)) rfl), (xt_in (List.mem_of_getElem? (i := 47) (by decide +kernel)) rfl), ⟨by decide +kernel, by decide +kernel, by decide +kernel⟩, by decide +kernel⟩
abbrev MX6_join : XM := (yX6_join, cX6_join, 3, some .int, 5, 0, 0)
theorem lbX6_join : xlB MX6_join 1 := ⟨(xt_in (List.mem_of_getElem? (i := 211) (by decide +kernel)) rfl), (xt_in (List.mem_of_getElem? (i := 47) (by decide +kernel)) rfl), ⟨by decide +kernel, by decide +kernel, by decide +kernel⟩, by decide +kernel⟩
abbrev MX6_leave : XM := (yX6_leave, cX6_leave, 2, some .int, 5, 0, 0)
theorem lbX6_leave : xlB MX6_leave 1 := ⟨(xt_in (List.mem_of_getElem? (i := 258) (by decide +kernel)) rfl), (xt_in (List.mem_of_getElem? (i := 47) (by decide +kernel)) rfl), ⟨by decide +kernel, by decide +kernel, by decide +kernel⟩, by decide +kernel⟩
abbrev MX6_crash : XM := (yX6_crash, cX6_crash, 2, some .int, 5, 0, 0)
theorem lbX6_crash : xlB MX6_crash 1 := ⟨(xt_in (List.mem_of_getElem? (i := 344) (by decide +kernel)) rfl), (xt_in (List.mem_of_getElem? (i := 47) (by decide +kernel)) rfl), ⟨by decide +kernel, by decide +kernel, by decide +kernel⟩, by decide +kernel⟩
abbrev MX6_setOnline : XM := (yX6_setOnline, cX6_setOnline, 4, some .int, 5, 0, 0)
theorem lbX6_setOnline : xlB MX6_setOnline 2 := ⟨(xt_in (List.mem_of_getElem? (i := 364) (by decide +kernel)) rfl), (xt_in (List.mem_of_getElem? (i := 47) (by decide +kernel)) rfl), ⟨by decide +kernel, by decide +kernel, by decide +kernel⟩, by decide +kernel⟩
abbrev MX6_pay : XM := (yX6_pay, cX6_pay, 4, some .int, 5, 0, 0)
theorem lbX6_pay : xlB MX6_pay 3 := ⟨(xt_in (List.mem_of_getElem? (i := 368) (by decide +kernel)) rfl), (xt_in (List.mem_of_getElem? (i := 47) (by decide +kernel)) rfl), ⟨by decide +kernel, by decide +kernel, by decide +kernel⟩, by decide +kernel⟩
abbrev MX6_peerInfo : XM := (yX6_peerInfo, cX6_peerInfo, 3, some .int, 4, 0, 0)
theorem lbX6_peerInfo : xlB MX6_peerInfo 2 := ⟨(xt_in (List.mem_of_getElem? (i := 382) (by decide +kernel)) rfl), (xt_in (List.mem_of_getElem? (i := 47) (by decide +kernel)) rfl), ⟨by decide +kernel, by decide +kernel, by decide +kernel⟩, by decide +kernel⟩
abbrev MX6_balance : XM := (yX6_balance, cX6_balance, 3, some .int, 3, 0, 0)
theorem lbX6_balance : xlB MX6_balance 2 := ⟨(xt_in (List.mem_of_getElem? (i := 393) (by decide +kernel)) rfl), (xt_in (List.mem_of_getElem? (i := 47) (by decide +kernel)) rfl), ⟨by decide +kernel, by decide +kernel, by decide +kernel⟩, by decide +kernel⟩
abbrev MX6_word : XM := (yX6_word, cX6_word, 2, some .int, 1, 0, 0)
theorem lbX6_word : xlB MX6_word 1 := ⟨(xt_in (List.mem_of_getElem? (i := 397) (by decide +kernel)) rfl), (xt_in (List.mem_of_getElem? (i := 47) (by decide +kernel)) rfl), ⟨by decide +kernel, by decide +kernel, by decide +kernel⟩, by decide +kernel⟩
abbrev MX6_store : XM := (yX6_store, cX6_store, 4, some .int, 5, 0, 0)
theorem lbX6_store : xlB MX6_store 2 := ⟨(xt_in (List.mem_of_getElem? (i := 405) (by decide +kernel)) rfl), (xt_in (List.mem_of_getElem? (i := 47) (by decide +kernel)) rfl), ⟨by decide +kernel, by decide +kernel, by decide +kernel⟩, by decide +kernel⟩
abbrev MX6_delete : XM := (yX6_delete, cX6_delete, 2, some .int, 5, 0, 0)
theorem lbX6_delete : xlB MX6_delete 1 := ⟨(xt_in (List.mem_of_getElem? (i := 429) (by decide +kernel)) rfl), (xt_in (List.mem_of_getElem? (i := 47) (by decide +kernel)) rfl), ⟨by decide +kernel, by decide +kernel, by decide +kernel⟩, by decide +kernel⟩
abbrev MX6_fileInfo : XM := (yX6_fileInfo, cX6_fileInfo, 3, some .int, 5, 0, 0)
theorem lbX6_fileInfo : xlB MX6_fileInfo 2 := ⟨(xt_in (List.mem_of_getElem? (i := 439) (by decide +kernel)) rfl), (xt_in (List.mem_of_getElem? (i := 47) (by decide +kernel)) rfl), ⟨by decide +kernel, by decide +kernel, by decide +kernel⟩, by decide +kernel⟩
abbrev MX6_fragment : XM := (yX6_fragment, cX6_fragment, 5, some .int, 3, 0, 0)
theorem lbX6_fragment : xlB MX6_fragment 3 := ⟨(xt_in (List.mem_of_getElem? (i := 476) (by decide +kernel)) rfl), (xt_in (List.mem_of_getElem? (i := 47) (by decide +kernel)) rfl), ⟨by decide +kernel, by decide +kernel, by decide +kernel⟩, by decide +kernel⟩
abbrev MX6_read : XM := (yX6_read, cX6_read, 3, some .int, 5, 0, 0)
theorem lbX6_read : xlB MX6_read 2 := ⟨(xt_in (List.mem_of_getElem? (i := 494) (by decide +kernel)) rfl), (xt_in (List.mem_of_getElem? (i := 47) (by decide +kernel)) rfl), ⟨by decide +kernel, by decide +kernel, by decide +kernel⟩, by decide +kernel⟩
abbrev MX6_decode : XM := (yX6_decode, cX6_decode, 4, some .int, 5, 0, 0)
theorem lbX6_decode : xlB MX6_decode 3 := ⟨(xt_in (List.mem_of_getElem? (i := 505) (by decide +kernel)) rfl), (xt_in (List.mem_of_getElem? (i := 47) (by decide +kernel)) rfl), ⟨by decide +kernel, by decide +kernel, by decide +kernel⟩, by decide +kernel⟩
abbrev MX6_spoil : XM := (yX6_spoil, cX6_spoil, 4, some .int, 5, 0, 0)
theorem lbX6_spoil : xlB MX6_spoil 3 := ⟨(xt_in (List.mem_of_getElem? (i := 554) (by decide +kernel)) rfl), (xt_in (List.mem_of_getElem? (i := 47) (by decide +kernel)) rfl), ⟨by decide +kernel, by decide +kernel, by decide +kernel⟩, by decide +kernel⟩
abbrev MX6_audit : XM := (yX6_audit, cX6_audit, 5, some .int, 5, 0, 0)
theorem lbX6_audit : xlB MX6_audit 3 := ⟨(xt_in (List.mem_of_getElem? (i := 563) (by decide +kernel)) rfl), (xt_in (List.mem_of_getElem? (i := 47) (by decide +kernel)) rfl), ⟨by decide +kernel, by decide +kernel, by decide +kernel⟩, by decide +kernel⟩
abbrev MX6_passingSeeds : XM := (yX6_passingSeeds, cX6_passingSeeds, 5, some .int, 3, 0, 0)
theorem lbX6_passingSeeds : xlB MX6_passingSeeds 2 := ⟨(xt_in (List.mem_of_getElem? (i := 592) (by decide +kernel)) rfl), (xt_in (List.mem_of_getElem? (i := 47) (by decide +kernel)) rfl), ⟨by decide +kernel, by decide +kernel, by decide +kernel⟩, by decide +kernel⟩
abbrev MX6_repair : XM := (yX6_repair, cX6_repair, 2, some .int, 6, 0, 0)
theorem lbX6_repair : xlB MX6_repair 1 := ⟨(xt_in (List.mem_of_getElem? (i := 596) (by decide +kernel)) rfl), (xt_in (List.mem_of_getElem? (i := 47) (by decide +kernel)) rfl), ⟨by decide +kernel, by decide +kernel, by decide +kernel⟩, by decide +kernel⟩
abbrev MX6_repairAll : XM := (yX6_repairAll, cX6_repairAll, 4, some .int, 6, 0, 0)
theorem lbX6_repairAll : xlB MX6_repairAll 1 := ⟨(xt_in (List.mem_of_getElem? (i := 612) (by decide +kernel)) rfl), (xt_in (List.mem_of_getElem? (i := 47) (by decide +kernel)) rfl), ⟨by decide +kernel, by decide +kernel, by decide +kernel⟩, by decide +kernel⟩
abbrev MX6_undo : XM := (yX6_undo, cX6_undo, 1, some .int, 5, 0, 0)
theorem lbX6_undo : xlB MX6_undo 0 := ⟨(xt_in (List.mem_of_getElem? (i := 616) (by decide +kernel)) rfl), (xt_in (List.mem_of_getElem? (i := 47) (by decide +kernel)) rfl), ⟨by decide +kernel, by decide +kernel, by decide +kernel⟩, by decide +kernel⟩
abbrev MX6_tolerance : XM := (yX6_tolerance, cX6_tolerance, 3, some .int, 6, 0, 0)
theorem lbX6_tolerance : xlB MX6_tolerance 0 := ⟨(xt_in (List.mem_of_getElem? (i := 624) (by decide +kernel)) rfl), (xt_in (List.mem_of_getElem? (i := 47) (by decide +kernel)) rfl), ⟨by decide +kernel, by decide +kernel, by decide +kernel⟩, by decide +kernel⟩
abbrev MX6_endangered : XM := (yX6_endangered, cX6_endangered, 4, some .int, 6, 0, 0)
theorem lbX6_endangered : xlB MX6_endangered 1 := ⟨(xt_in (List.mem_of_getElem? (i := 643) (by decide +kernel)) rfl), (xt_in (List.mem_of_getElem? (i := 47) (by decide +kernel)) rfl), ⟨by decide +kernel, by decide +kernel, by decide +kernel⟩, by decide +kernel⟩
abbrev MX6_leavers : XM := (yX6_leavers, cX6_leavers, 2, some .int, 6, 0, 0)
theorem lbX6_leavers : xlB MX6_leavers 0 := ⟨(xt_in (List.mem_of_getElem? (i := 652) (by decide +kernel)) rfl), (xt_in (List.mem_of_getElem? (i := 47) (by decide +kernel)) rfl), ⟨by decide +kernel, by decide +kernel, by decide +kernel⟩, by decide +kernel⟩
abbrev MX6_count : XM := (yX6_count, cX6_count, 2, some .int, 6, 0, 0)
theorem lbX6_count : xlB MX6_count 1 := ⟨(xt_in (List.mem_of_getElem? (i := 661) (by decide +kernel)) rfl), (xt_in (List.mem_of_getElem? (i := 47) (by decide +kernel)) rfl), ⟨by decide +kernel, by decide +kernel, by decide +kernel⟩, by decide +kernel⟩
abbrev MX6_planNextLeaver : XM := (yX6_planNextLeaver, cX6_planNextLeaver, 2, some .boolean, 5, 0, 0)
theorem lbX6_planNextLeaver : xlB MX6_planNextLeaver 0 := ⟨(xt_in (List.mem_of_getElem? (i := 657) (by decide +kernel)) rfl), (xt_in (List.mem_of_getElem? (i := 47) (by decide +kernel)) rfl), ⟨by decide +kernel, by decide +kernel, by decide +kernel⟩, by decide +kernel⟩
abbrev MX6_power : XM := (yX6_power, cX6_power, 5, some .int, 0, 0, 0)
theorem lbX6_power : xlB MX6_power 2 := ⟨(xt_in (List.mem_of_getElem? (i := 425) (by decide +kernel)) rfl), (xt_in (List.mem_of_getElem? (i := 47) (by decide +kernel)) rfl), ⟨by decide +kernel, by decide +kernel, by decide +kernel⟩, by decide +kernel⟩
abbrev MX6_copyRow : XM := (yX6_copyRow, cX6_copyRow, 2, none, 1, 0, 0)
theorem lbX6_copyRow : xlB MX6_copyRow 2 := ⟨(xt_in (List.mem_of_getElem? (i := 238) (by decide +kernel)) rfl), (xt_in (List.mem_of_getElem? (i := 47) (by decide +kernel)) rfl), ⟨by decide +kernel, by decide +kernel, by decide +kernel⟩, by decide +kernel⟩
abbrev MX7_init : XM := (yX7_init, cX7_init, 1, none, 1, 5, 3554)
theorem lbX7_init : xlB MX7_init 0 := ⟨(xt_in (List.mem_of_getElem? (i := 699) (by decide +kernel)) rfl), (xt_in (List.mem_of_getElem? (i := 55) (by decide +kernel)) rfl), ⟨by decide +kernel, by decide +kernel, by decide +kernel⟩, by decide +kernel⟩
abbrev MX7_in : XM := (yX7_in, cX7_in, 3, some .boolean, 0, 0, 0)
theorem lbX7_in : xlB MX7_in 3 := ⟨(xt_in (List.mem_of_getElem? (i := 726) (by decide +kernel)) rfl), (xt_in (List.mem_of_getElem? (i := 55) (by decide +kernel)) rfl), ⟨by decide +kernel, by decide +kernel, by decide +kernel⟩, by decide +kernel⟩
abbrev MX7_isPeer : XM := (yX7_isPeer, cX7_isPeer, 2, some .boolean, 1, 0, 0)
theorem lbX7_isPeer : xlB MX7_isPeer 1 := ⟨(xt_in (List.mem_of_getElem? (i := 730) (by decide +kernel)) rfl), (xt_in (List.mem_of_getElem? (i := 55) (by decide +kernel)) rfl), ⟨by decide +kernel, by decide +kernel, by decide +kernel⟩, by decide +kernel⟩
abbrev MX7_isFile : XM := (yX7_isFile, cX7_isFile, 2, some .boolean, 2, 0, 0)
theorem lbX7_isFile : xlB MX7_isFile 1 := ⟨(xt_in (List.mem_of_getElem? (i := 746) (by decide +kernel)) rfl), (xt_in (List.mem_of_getElem? (i := 55) (by decide +kernel)) rfl), ⟨by decide +kernel, by decide +kernel, by decide +kernel⟩, by decide +kernel⟩
abbrev MX7_at : XM := (yX7_at, cX7_at, 2, some .int, 0, 0, 0)
theorem lbX7_at : xlB MX7_at 2 := ⟨(xt_in (List.mem_of_getElem? (i := 753) (by decide +kernel)) rfl), (xt_in (List.mem_of_getElem? (i := 55) (by decide +kernel)) rfl), ⟨by decide +kernel, by decide +kernel, by decide +kernel⟩, by decide +kernel⟩
abbrev MX7_of : XM := (yX7_of, cX7_of, 3, some .int, 1, 0, 0)
theorem lbX7_of : xlB MX7_of 2 := ⟨(xt_in (List.mem_of_getElem? (i := 750) (by decide +kernel)) rfl), (xt_in (List.mem_of_getElem? (i := 55) (by decide +kernel)) rfl), ⟨by decide +kernel, by decide +kernel, by decide +kernel⟩, by decide +kernel⟩
abbrev MX7_fragments : XM := (yX7_fragments, cX7_fragments, 2, some .int, 2, 0, 0)
theorem lbX7_fragments : xlB MX7_fragments 1 := ⟨(xt_in (List.mem_of_getElem? (i := 765) (by decide +kernel)) rfl), (xt_in (List.mem_of_getElem? (i := 55) (by decide +kernel)) rfl), ⟨by decide +kernel, by decide +kernel, by decide +kernel⟩, by decide +kernel⟩
abbrev MX7_isOnline : XM := (yX7_isOnline, cX7_isOnline, 2, some .boolean, 0, 0, 0)
theorem lbX7_isOnline : xlB MX7_isOnline 1 := ⟨(xt_in (List.mem_of_getElem? (i := 757) (by decide +kernel)) rfl), (xt_in (List.mem_of_getElem? (i := 55) (by decide +kernel)) rfl), ⟨by decide +kernel, by decide +kernel, by decide +kernel⟩, by decide +kernel⟩
abbrev MX7_keeps : XM := (yX7_keeps, cX7_keeps, 2, none, 0, 0, 0)
theorem lbX7_keeps : xlB MX7_keeps 0 := ⟨(xt_in (List.mem_of_getElem? (i := 734) (by decide +kernel)) rfl), (xt_in (List.mem_of_getElem? (i := 55) (by decide +kernel)) rfl), ⟨by decide +kernel, by decide +kernel, by decide +kernel⟩, by decide +kernel⟩
abbrev MX7_balanceAt : XM := (yX7_balanceAt, cX7_balanceAt, 2, some .int, 0, 0, 0)
theorem lbX7_balanceAt : xlB MX7_balanceAt 2 := ⟨(xt_in (List.mem_of_getElem? (i := 784) (by decide +kernel)) rfl), (xt_in (List.mem_of_getElem? (i := 55) (by decide +kernel)) rfl), ⟨by decide +kernel, by decide +kernel, by decide +kernel⟩, by decide +kernel⟩
abbrev MX7_owes : XM := (yX7_owes, cX7_owes, 4, none, 1, 0, 0)
theorem lbX7_owes : xlB MX7_owes 3 := ⟨(xt_in (List.mem_of_getElem? (i := 781) (by decide +kernel)) rfl), (xt_in (List.mem_of_getElem? (i := 55) (by decide +kernel)) rfl), ⟨by decide +kernel, by decide +kernel, by decide +kernel⟩, by decide +kernel⟩
abbrev MX7_free : XM := (yX7_free, cX7_free, 5, some .int, 3, 0, 0)
theorem lbX7_free : xlB MX7_free 1 := ⟨(xt_in (List.mem_of_getElem? (i := 773) (by decide +kernel)) rfl), (xt_in (List.mem_of_getElem? (i := 55) (by decide +kernel)) rfl), ⟨by decide +kernel, by decide +kernel, by decide +kernel⟩, by decide +kernel⟩
abbrev MX7_stores : XM := (yX7_stores, cX7_stores, 5, some .boolean, 3, 0, 0)
theorem lbX7_stores : xlB MX7_stores 2 := ⟨(xt_in (List.mem_of_getElem? (i := 777) (by decide +kernel)) rfl), (xt_in (List.mem_of_getElem? (i := 55) (by decide +kernel)) rfl), ⟨by decide +kernel, by decide +kernel, by decide +kernel⟩, by decide +kernel⟩
abbrev MX7_isGood : XM := (yX7_isGood, cX7_isGood, 4, some .boolean, 2, 0, 0)
theorem lbX7_isGood : xlB MX7_isGood 2 := ⟨(xt_in (List.mem_of_getElem? (i := 844) (by decide +kernel)) rfl), (xt_in (List.mem_of_getElem? (i := 55) (by decide +kernel)) rfl), ⟨by decide +kernel, by decide +kernel, by decide +kernel⟩, by decide +kernel⟩
abbrev MX7_good : XM := (yX7_good, cX7_good, 4, some .int, 3, 0, 0)
theorem lbX7_good : xlB MX7_good 1 := ⟨(xt_in (List.mem_of_getElem? (i := 840) (by decide +kernel)) rfl), (xt_in (List.mem_of_getElem? (i := 55) (by decide +kernel)) rfl), ⟨by decide +kernel, by decide +kernel, by decide +kernel⟩, by decide +kernel⟩
abbrev MX7_isSafe : XM := (yX7_isSafe, cX7_isSafe, 2, some .boolean, 4, 0, 0)
theorem lbX7_isSafe : xlB MX7_isSafe 1 := ⟨(xt_in (List.mem_of_getElem? (i := 848) (by decide +kernel)) rfl), (xt_in (List.mem_of_getElem? (i := 55) (by decide +kernel)) rfl), ⟨by decide +kernel, by decide +kernel, by decide +kernel⟩, by decide +kernel⟩
abbrev MX7_power : XM := (yX7_power, cX7_power, 4, some .int, 0, 0, 0)
theorem lbX7_power : xlB MX7_power 2 := ⟨(xt_in (List.mem_of_getElem? (i := 867) (by decide +kernel)) rfl), (xt_in (List.mem_of_getElem? (i := 55) (by decide +kernel)) rfl), ⟨by decide +kernel, by decide +kernel, by decide +kernel⟩, by decide +kernel⟩
abbrev MX7_correct : XM := (yX7_correct, cX7_correct, 6, some .int, 2, 0, 0)
theorem lbX7_correct : xlB MX7_correct 2 := ⟨(xt_in (List.mem_of_getElem? (i := 864) (by decide +kernel)) rfl), (xt_in (List.mem_of_getElem? (i := 55) (by decide +kernel)) rfl), ⟨by decide +kernel, by decide +kernel, by decide +kernel⟩, by decide +kernel⟩
abbrev MX7_valueOf : XM := (yX7_valueOf, cX7_valueOf, 3, some .int, 3, 0, 0)
theorem lbX7_valueOf : xlB MX7_valueOf 2 := ⟨(xt_in (List.mem_of_getElem? (i := 860) (by decide +kernel)) rfl), (xt_in (List.mem_of_getElem? (i := 55) (by decide +kernel)) rfl), ⟨by decide +kernel, by decide +kernel, by decide +kernel⟩, by decide +kernel⟩
abbrev MX7_places : XM := (yX7_places, cX7_places, 7, some .boolean, 4, 0, 0)
theorem lbX7_places : xlB MX7_places 3 := ⟨(xt_in (List.mem_of_getElem? (i := 769) (by decide +kernel)) rfl), (xt_in (List.mem_of_getElem? (i := 55) (by decide +kernel)) rfl), ⟨by decide +kernel, by decide +kernel, by decide +kernel⟩, by decide +kernel⟩
abbrev MX7_join : XM := (yX7_join, cX7_join, 3, some .int, 2, 0, 0)
theorem lbX7_join : xlB MX7_join 1 := ⟨(xt_in (List.mem_of_getElem? (i := 723) (by decide +kernel)) rfl), (xt_in (List.mem_of_getElem? (i := 55) (by decide +kernel)) rfl), ⟨by decide +kernel, by decide +kernel, by decide +kernel⟩, by decide +kernel⟩
abbrev MX7_owned : XM := (yX7_owned, cX7_owned, 4, some .int, 3, 0, 0)
theorem lbX7_owned : xlB MX7_owned 1 := ⟨(xt_in (List.mem_of_getElem? (i := 742) (by decide +kernel)) rfl), (xt_in (List.mem_of_getElem? (i := 55) (by decide +kernel)) rfl), ⟨by decide +kernel, by decide +kernel, by decide +kernel⟩, by decide +kernel⟩
abbrev MX7_goes : XM := (yX7_goes, cX7_goes, 3, none, 1, 0, 0)
theorem lbX7_goes : xlB MX7_goes 1 := ⟨(xt_in (List.mem_of_getElem? (i := 788) (by decide +kernel)) rfl), (xt_in (List.mem_of_getElem? (i := 55) (by decide +kernel)) rfl), ⟨by decide +kernel, by decide +kernel, by decide +kernel⟩, by decide +kernel⟩
abbrev MX7_leaves : XM := (yX7_leaves, cX7_leaves, 6, some .int, 5, 0, 0)
theorem lbX7_leaves : xlB MX7_leaves 1 := ⟨(xt_in (List.mem_of_getElem? (i := 761) (by decide +kernel)) rfl), (xt_in (List.mem_of_getElem? (i := 55) (by decide +kernel)) rfl), ⟨by decide +kernel, by decide +kernel, by decide +kernel⟩, by decide +kernel⟩
abbrev MX7_leave : XM := (yX7_leave, cX7_leave, 2, some .int, 6, 0, 0)
theorem lbX7_leave : xlB MX7_leave 1 := ⟨(xt_in (List.mem_of_getElem? (i := 738) (by decide +kernel)) rfl), (xt_in (List.mem_of_getElem? (i := 55) (by decide +kernel)) rfl), ⟨by decide +kernel, by decide +kernel, by decide +kernel⟩, by decide +kernel⟩
abbrev MX7_deletes : XM := (yX7_deletes, cX7_deletes, 3, none, 1, 0, 0)
theorem lbX7_deletes : xlB MX7_deletes 1 := ⟨(xt_in (List.mem_of_getElem? (i := 796) (by decide +kernel)) rfl), (xt_in (List.mem_of_getElem? (i := 55) (by decide +kernel)) rfl), ⟨by decide +kernel, by decide +kernel, by decide +kernel⟩, by decide +kernel⟩
abbrev MX7_crash : XM := (yX7_crash, cX7_crash, 5, some .int, 3, 0, 0)
theorem lbX7_crash : xlB MX7_crash 1 := ⟨(xt_in (List.mem_of_getElem? (i := 792) (by decide +kernel)) rfl), (xt_in (List.mem_of_getElem? (i := 55) (by decide +kernel)) rfl), ⟨by decide +kernel, by decide +kernel, by decide +kernel⟩, by decide +kernel⟩
abbrev MX7_setOnline : XM := (yX7_setOnline, cX7_setOnline, 4, some .int, 2, 0, 0)
theorem lbX7_setOnline : xlB MX7_setOnline 2 := ⟨(xt_in (List.mem_of_getElem? (i := 800) (by decide +kernel)) rfl), (xt_in (List.mem_of_getElem? (i := 55) (by decide +kernel)) rfl), ⟨by decide +kernel, by decide +kernel, by decide +kernel⟩, by decide +kernel⟩
abbrev MX7_pay : XM := (yX7_pay, cX7_pay, 4, some .int, 2, 0, 0)
theorem lbX7_pay : xlB MX7_pay 3 := ⟨(xt_in (List.mem_of_getElem? (i := 804) (by decide +kernel)) rfl), (xt_in (List.mem_of_getElem? (i := 55) (by decide +kernel)) rfl), ⟨by decide +kernel, by decide +kernel, by decide +kernel⟩, by decide +kernel⟩
abbrev MX7_peerInfo : XM := (yX7_peerInfo, cX7_peerInfo, 5, some .int, 4, 0, 0)
theorem lbX7_peerInfo : xlB MX7_peerInfo 2 := ⟨(xt_in (List.mem_of_getElem? (i := 808) (by decide +kernel)) rfl), (xt_in (List.mem_of_getElem? (i := 55) (by decide +kernel)) rfl), ⟨by decide +kernel, by decide +kernel, by decide +kernel⟩, by decide +kernel⟩
abbrev MX7_balance : XM := (yX7_balance, cX7_balance, 3, some .int, 2, 0, 0)
theorem lbX7_balance : xlB MX7_balance 2 := ⟨(xt_in (List.mem_of_getElem? (i := 812) (by decide +kernel)) rfl), (xt_in (List.mem_of_getElem? (i := 55) (by decide +kernel)) rfl), ⟨by decide +kernel, by decide +kernel, by decide +kernel⟩, by decide +kernel⟩
abbrev MX7_word : XM := (yX7_word, cX7_word, 2, some .int, 1, 0, 0)
theorem lbX7_word : xlB MX7_word 1 := ⟨(xt_in (List.mem_of_getElem? (i := 816) (by decide +kernel)) rfl), (xt_in (List.mem_of_getElem? (i := 55) (by decide +kernel)) rfl), ⟨by decide +kernel, by decide +kernel, by decide +kernel⟩, by decide +kernel⟩
abbrev MX7_files : XM := (yX7_files, cX7_files, 3, some .int, 3, 0, 0)
theorem lbX7_files : xlB MX7_files 0 := ⟨(xt_in (List.mem_of_getElem? (i := 824) (by decide +kernel)) rfl), (xt_in (List.mem_of_getElem? (i := 55) (by decide +kernel)) rfl), ⟨by decide +kernel, by decide +kernel, by decide +kernel⟩, by decide +kernel⟩
abbrev MX7_store : XM := (yX7_store, cX7_store, 5, some .int, 5, 0, 0)
theorem lbX7_store : xlB MX7_store 2 := ⟨(xt_in (List.mem_of_getElem? (i := 820) (by decide +kernel)) rfl), (xt_in (List.mem_of_getElem? (i := 55) (by decide +kernel)) rfl), ⟨by decide +kernel, by decide +kernel, by decide +kernel⟩, by decide +kernel⟩
abbrev MX7_delete : XM := (yX7_delete, cX7_delete, 2, some .int, 4, 0, 0)
theorem lbX7_delete : xlB MX7_delete 1 := ⟨(xt_in (List.mem_of_getElem? (i := 828) (by decide +kernel)) rfl), (xt_in (List.mem_of_getElem? (i := 55) (by decide +kernel)) rfl), ⟨by decide +kernel, by decide +kernel, by decide +kernel⟩, by decide +kernel⟩
abbrev MX7_storedOf : XM := (yX7_storedOf, cX7_storedOf, 4, some .int, 3, 0, 0)
theorem lbX7_storedOf : xlB MX7_storedOf 1 := ⟨(xt_in (List.mem_of_getElem? (i := 836) (by decide +kernel)) rfl), (xt_in (List.mem_of_getElem? (i := 55) (by decide +kernel)) rfl), ⟨by decide +kernel, by decide +kernel, by decide +kernel⟩, by decide +kernel⟩
abbrev MX7_fileInfo : XM := (yX7_fileInfo, cX7_fileInfo, 3, some .int, 5, 0, 0)
theorem lbX7_fileInfo : xlB MX7_fileInfo 2 := ⟨(xt_in (List.mem_of_getElem? (i := 832) (by decide +kernel)) rfl), (xt_in (List.mem_of_getElem? (i := 55) (by decide +kernel)) rfl), ⟨by decide +kernel, by decide +kernel, by decide +kernel⟩, by decide +kernel⟩
abbrev MX7_isFragment : XM := (yX7_isFragment, cX7_isFragment, 3, some .boolean, 3, 0, 0)
theorem lbX7_isFragment : xlB MX7_isFragment 2 := ⟨(xt_in (List.mem_of_getElem? (i := 856) (by decide +kernel)) rfl), (xt_in (List.mem_of_getElem? (i := 55) (by decide +kernel)) rfl), ⟨by decide +kernel, by decide +kernel, by decide +kernel⟩, by decide +kernel⟩
abbrev MX7_fragment : XM := (yX7_fragment, cX7_fragment, 4, some .int, 4, 0, 0)
theorem lbX7_fragment : xlB MX7_fragment 3 := ⟨(xt_in (List.mem_of_getElem? (i := 852) (by decide +kernel)) rfl), (xt_in (List.mem_of_getElem? (i := 55) (by decide +kernel)) rfl), ⟨by decide +kernel, by decide +kernel, by decide +kernel⟩, by decide +kernel⟩
abbrev MX7_read : XM := (yX7_read, cX7_read, 3, some .int, 5, 0, 0)
theorem lbX7_read : xlB MX7_read 2 := ⟨(xt_in (List.mem_of_getElem? (i := 871) (by decide +kernel)) rfl), (xt_in (List.mem_of_getElem? (i := 55) (by decide +kernel)) rfl), ⟨by decide +kernel, by decide +kernel, by decide +kernel⟩, by decide +kernel⟩
abbrev MX7_solves : XM := (yX7_solves, cX7_solves, 8, none, 1, 0, 0)
theorem lbX7_solves : xlB MX7_solves 1 := ⟨(xt_in (List.mem_of_getElem? (i := 879) (by decide +kernel)) rfl), (xt_in (List.mem_of_getElem? (i := 55) (by decide +kernel)) rfl), ⟨by decide +kernel, by decide +kernel, by decide +kernel⟩, by decide +kernel⟩
abbrev MX7_decode : XM := (yX7_decode, cX7_decode, 10, some .int, 4, 0, 0)
theorem lbX7_decode : xlB MX7_decode 3 := ⟨(xt_in (List.mem_of_getElem? (i := 875) (by decide +kernel)) rfl), (xt_in (List.mem_of_getElem? (i := 55) (by decide +kernel)) rfl), ⟨by decide +kernel, by decide +kernel, by decide +kernel⟩, by decide +kernel⟩
abbrev MX7_spoil : XM := (yX7_spoil, cX7_spoil, 5, some .int, 4, 0, 0)
theorem lbX7_spoil : xlB MX7_spoil 3 := ⟨(xt_in (List.mem_of_getElem? (i := 883) (by decide +kernel)) rfl), (xt_in (List.mem_of_getElem? (i := 55) (by decide +kernel)) rfl), ⟨by decide +kernel, by decide +kernel, by decide +kernel⟩, by decide +kernel⟩
abbrev MX7_off : XM := (yX7_off, cX7_off, 9, some .int, 3, 0, 0)
theorem lbX7_off : xlB MX7_off 3 := ⟨(xt_in (List.mem_of_getElem? (i := 895) (by decide +kernel)) rfl), (xt_in (List.mem_of_getElem? (i := 55) (by decide +kernel)) rfl), ⟨by decide +kernel, by decide +kernel, by decide +kernel⟩, by decide +kernel⟩
abbrev MX7_arePeers : XM := (yX7_arePeers, cX7_arePeers, 3, some .boolean, 2, 0, 0)
theorem lbX7_arePeers : xlB MX7_arePeers 2 := ⟨(xt_in (List.mem_of_getElem? (i := 891) (by decide +kernel)) rfl), (xt_in (List.mem_of_getElem? (i := 55) (by decide +kernel)) rfl), ⟨by decide +kernel, by decide +kernel, by decide +kernel⟩, by decide +kernel⟩
abbrev MX7_audit : XM := (yX7_audit, cX7_audit, 6, some .int, 4, 0, 0)
theorem lbX7_audit : xlB MX7_audit 3 := ⟨(xt_in (List.mem_of_getElem? (i := 887) (by decide +kernel)) rfl), (xt_in (List.mem_of_getElem? (i := 55) (by decide +kernel)) rfl), ⟨by decide +kernel, by decide +kernel, by decide +kernel⟩, by decide +kernel⟩
abbrev MX7_passingSeeds : XM := (yX7_passingSeeds, cX7_passingSeeds, 5, some .int, 4, 0, 0)
theorem lbX7_passingSeeds : xlB MX7_passingSeeds 2 := ⟨(xt_in (List.mem_of_getElem? (i := 899) (by decide +kernel)) rfl), (xt_in (List.mem_of_getElem? (i := 55) (by decide +kernel)) rfl), ⟨by decide +kernel, by decide +kernel, by decide +kernel⟩, by decide +kernel⟩
abbrev MX7_sources : XM := (yX7_sources, cX7_sources, 5, some .int, 3, 0, 0)
theorem lbX7_sources : xlB MX7_sources 1 := ⟨(xt_in (List.mem_of_getElem? (i := 911) (by decide +kernel)) rfl), (xt_in (List.mem_of_getElem? (i := 55) (by decide +kernel)) rfl), ⟨by decide +kernel, by decide +kernel, by decide +kernel⟩, by decide +kernel⟩
abbrev MX7_repairs : XM := (yX7_repairs, cX7_repairs, 6, some .int, 5, 0, 0)
theorem lbX7_repairs : xlB MX7_repairs 1 := ⟨(xt_in (List.mem_of_getElem? (i := 907) (by decide +kernel)) rfl), (xt_in (List.mem_of_getElem? (i := 55) (by decide +kernel)) rfl), ⟨by decide +kernel, by decide +kernel, by decide +kernel⟩, by decide +kernel⟩
abbrev MX7_repair : XM := (yX7_repair, cX7_repair, 2, some .int, 6, 0, 0)
theorem lbX7_repair : xlB MX7_repair 1 := ⟨(xt_in (List.mem_of_getElem? (i := 903) (by decide +kernel)) rfl), (xt_in (List.mem_of_getElem? (i := 55) (by decide +kernel)) rfl), ⟨by decide +kernel, by decide +kernel, by decide +kernel⟩, by decide +kernel⟩
abbrev MX7_repairAll : XM := (yX7_repairAll, cX7_repairAll, 4, some .int, 6, 0, 0)
theorem lbX7_repairAll : xlB MX7_repairAll 1 := ⟨(xt_in (List.mem_of_getElem? (i := 915) (by decide +kernel)) rfl), (xt_in (List.mem_of_getElem? (i := 55) (by decide +kernel)) rfl), ⟨by decide +kernel, by decide +kernel, by decide +kernel⟩, by decide +kernel⟩
abbrev MX7_undo : XM := (yX7_undo, cX7_undo, 2, some .int, 0, 0, 0)
theorem lbX7_undo : xlB MX7_undo 0 := ⟨(xt_in (List.mem_of_getElem? (i := 919) (by decide +kernel)) rfl), (xt_in (List.mem_of_getElem? (i := 55) (by decide +kernel)) rfl), ⟨by decide +kernel, by decide +kernel, by decide +kernel⟩, by decide +kernel⟩
abbrev MX7_count1 : XM := (yX7_count1, cX7_count1, 3, some .int, 0, 0, 0)
theorem lbX7_count1 : xlB MX7_count1 1 := ⟨(xt_in (List.mem_of_getElem? (i := 930) (by decide +kernel)) rfl), (xt_in (List.mem_of_getElem? (i := 55) (by decide +kernel)) rfl), ⟨by decide +kernel, by decide +kernel, by decide +kernel⟩, by decide +kernel⟩
abbrev MX7_isHurt : XM := (yX7_isHurt, cX7_isHurt, 5, some .boolean, 5, 0, 0)
theorem lbX7_isHurt : xlB MX7_isHurt 2 := ⟨(xt_in (List.mem_of_getElem? (i := 938) (by decide +kernel)) rfl), (xt_in (List.mem_of_getElem? (i := 55) (by decide +kernel)) rfl), ⟨by decide +kernel, by decide +kernel, by decide +kernel⟩, by decide +kernel⟩
abbrev MX7_peerSet : XM := (yX7_peerSet, cX7_peerSet, 3, some .int, 2, 0, 0)
theorem lbX7_peerSet : xlB MX7_peerSet 0 := ⟨(xt_in (List.mem_of_getElem? (i := 927) (by decide +kernel)) rfl), (xt_in (List.mem_of_getElem? (i := 55) (by decide +kernel)) rfl), ⟨by decide +kernel, by decide +kernel, by decide +kernel⟩, by decide +kernel⟩
abbrev MX7_isBorne : XM := (yX7_isBorne, cX7_isBorne, 5, some .boolean, 6, 0, 0)
theorem lbX7_isBorne : xlB MX7_isBorne 1 := ⟨(xt_in (List.mem_of_getElem? (i := 934) (by decide +kernel)) rfl), (xt_in (List.mem_of_getElem? (i := 55) (by decide +kernel)) rfl), ⟨by decide +kernel, by decide +kernel, by decide +kernel⟩, by decide +kernel⟩
abbrev MX7_tolerance : XM := (yX7_tolerance, cX7_tolerance, 4, some .int, 7, 0, 0)
theorem lbX7_tolerance : xlB MX7_tolerance 0 := ⟨(xt_in (List.mem_of_getElem? (i := 923) (by decide +kernel)) rfl), (xt_in (List.mem_of_getElem? (i := 55) (by decide +kernel)) rfl), ⟨by decide +kernel, by decide +kernel, by decide +kernel⟩, by decide +kernel⟩
abbrev MX7_endangered : XM := (yX7_endangered, cX7_endangered, 6, some .int, 5, 0, 0)
theorem lbX7_endangered : xlB MX7_endangered 1 := ⟨(xt_in (List.mem_of_getElem? (i := 942) (by decide +kernel)) rfl), (xt_in (List.mem_of_getElem? (i := 55) (by decide +kernel)) rfl), ⟨by decide +kernel, by decide +kernel, by decide +kernel⟩, by decide +kernel⟩
abbrev MX7_puts : XM := (yX7_puts, cX7_puts, 3, none, 0, 0, 0)
theorem lbX7_puts : xlB MX7_puts 2 := ⟨(xt_in (List.mem_of_getElem? (i := 949) (by decide +kernel)) rfl), (xt_in (List.mem_of_getElem? (i := 55) (by decide +kernel)) rfl), ⟨by decide +kernel, by decide +kernel, by decide +kernel⟩, by decide +kernel⟩
abbrev MX7_canGo : XM := (yX7_canGo, cX7_canGo, 2, some .boolean, 6, 0, 0)
theorem lbX7_canGo : xlB MX7_canGo 1 := ⟨(xt_in (List.mem_of_getElem? (i := 953) (by decide +kernel)) rfl), (xt_in (List.mem_of_getElem? (i := 55) (by decide +kernel)) rfl), ⟨by decide +kernel, by decide +kernel, by decide +kernel⟩, by decide +kernel⟩
abbrev MX7_leavers : XM := (yX7_leavers, cX7_leavers, 4, some .int, 7, 0, 0)
theorem lbX7_leavers : xlB MX7_leavers 0 := ⟨(xt_in (List.mem_of_getElem? (i := 946) (by decide +kernel)) rfl), (xt_in (List.mem_of_getElem? (i := 55) (by decide +kernel)) rfl), ⟨by decide +kernel, by decide +kernel, by decide +kernel⟩, by decide +kernel⟩
abbrev MX7_count : XM := (yX7_count, cX7_count, 9, some .int, 5, 0, 0)
theorem lbX7_count : xlB MX7_count 1 := ⟨(xt_in (List.mem_of_getElem? (i := 957) (by decide +kernel)) rfl), (xt_in (List.mem_of_getElem? (i := 55) (by decide +kernel)) rfl), ⟨by decide +kernel, by decide +kernel, by decide +kernel⟩, by decide +kernel⟩
abbrev MJ6_bitCount_0f7a4 : XM := (yJ6_bitCount_0f7a4, cJ6_bitCount_0f7a4, 1, some .int, 0, 0, 0)
theorem lbJ6_bitCount_0f7a4 : xlB MJ6_bitCount_0f7a4 1 := ⟨(xt_in (List.mem_of_getElem? (i := 512) (by decide +kernel)) rfl), (xt_in (List.mem_of_getElem? (i := 58) (by decide +kernel)) rfl), ⟨by decide +kernel, by decide +kernel, by decide +kernel⟩, by decide +kernel⟩
abbrev MJ7_fill_53178 : XM := (yJ7_fill_53178, cJ7_fill_53178, 4, none, 0, 0, 0)
theorem lbJ7_fill_53178 : xlB MJ7_fill_53178 2 := ⟨(xt_in (List.mem_of_getElem? (i := 107) (by decide +kernel)) rfl), (xt_in (List.mem_of_getElem? (i := 51) (by decide +kernel)) rfl), ⟨by decide +kernel, by decide +kernel, by decide +kernel⟩, by decide +kernel⟩
theorem flX4_9 : xfl RX4 9 4 0 := ⟨_, rfl, by decide, (xt_in (List.mem_of_getElem? (i := 79) (by decide +kernel)) rfl)⟩
theorem flX6_91 : xfl RX6 91 4 0 := ⟨_, rfl, by decide, (xt_in (List.mem_of_getElem? (i := 80) (by decide +kernel)) rfl)⟩
theorem flX4_15 : xfl RX4 15 4 1 := ⟨_, rfl, by decide, (xt_in (List.mem_of_getElem? (i := 81) (by decide +kernel)) rfl)⟩
theorem flX6_75 : xfl RX6 75 4 1 := ⟨_, rfl, by decide, (xt_in (List.mem_of_getElem? (i := 82) (by decide +kernel)) rfl)⟩
theorem flX4_18 : xfl RX4 18 4 2 := ⟨_, rfl, by decide, (xt_in (List.mem_of_getElem? (i := 83) (by decide +kernel)) rfl)⟩
theorem flX6_97 : xfl RX6 97 4 2 := ⟨_, rfl, by decide, (xt_in (List.mem_of_getElem? (i := 84) (by decide +kernel)) rfl)⟩
theorem flX4_21 : xfl RX4 21 4 3 := ⟨_, rfl, by decide, (xt_in (List.mem_of_getElem? (i := 85) (by decide +kernel)) rfl)⟩
theorem flX4_24 : xfl RX4 24 4 4 := ⟨_, rfl, by decide, (xt_in (List.mem_of_getElem? (i := 86) (by decide +kernel)) rfl)⟩
theorem flX2_9 : xfl RX2 9 2 0 := ⟨_, rfl, by decide, (xt_in (List.mem_of_getElem? (i := 108) (by decide +kernel)) rfl)⟩
theorem flX2_15 : xfl RX2 15 2 1 := ⟨_, rfl, by decide, (xt_in (List.mem_of_getElem? (i := 109) (by decide +kernel)) rfl)⟩
theorem flX6_140 : xfl RX6 140 2 1 := ⟨_, rfl, by decide, (xt_in (List.mem_of_getElem? (i := 110) (by decide +kernel)) rfl)⟩
theorem flX2_18 : xfl RX2 18 2 2 := ⟨_, rfl, by decide, (xt_in (List.mem_of_getElem? (i := 111) (by decide +kernel)) rfl)⟩
theorem flX6_134 : xfl RX6 134 2 2 := ⟨_, rfl, by decide, (xt_in (List.mem_of_getElem? (i := 112) (by decide +kernel)) rfl)⟩
theorem flX2_21 : xfl RX2 21 2 3 := ⟨_, rfl, by decide, (xt_in (List.mem_of_getElem? (i := 113) (by decide +kernel)) rfl)⟩
theorem flX2_24 : xfl RX2 24 2 4 := ⟨_, rfl, by decide, (xt_in (List.mem_of_getElem? (i := 114) (by decide +kernel)) rfl)⟩
theorem flX2_27 : xfl RX2 27 2 5 := ⟨_, rfl, by decide, (xt_in (List.mem_of_getElem? (i := 115) (by decide +kernel)) rfl)⟩
theorem flX5_12 : xfl RX5 12 5 0 := ⟨_, rfl, by decide, (xt_in (List.mem_of_getElem? (i := 129) (by decide +kernel)) rfl)⟩
theorem flX6_43 : xfl RX6 43 5 0 := ⟨_, rfl, by decide, (xt_in (List.mem_of_getElem? (i := 130) (by decide +kernel)) rfl)⟩
theorem flX5_21 : xfl RX5 21 5 1 := ⟨_, rfl, by decide, (xt_in (List.mem_of_getElem? (i := 131) (by decide +kernel)) rfl)⟩
theorem flX6_100 : xfl RX6 100 5 1 := ⟨_, rfl, by decide, (xt_in (List.mem_of_getElem? (i := 132) (by decide +kernel)) rfl)⟩
theorem flX5_25 : xfl RX5 25 5 2 := ⟨_, rfl, by decide, (xt_in (List.mem_of_getElem? (i := 133) (by decide +kernel)) rfl)⟩
theorem flX5_40 : xfl RX5 40 5 3 := ⟨_, rfl, by decide, (xt_in (List.mem_of_getElem? (i := 134) (by decide +kernel)) rfl)⟩
theorem flX6_112 : xfl RX6 112 5 3 := ⟨_, rfl, by decide, (xt_in (List.mem_of_getElem? (i := 135) (by decide +kernel)) rfl)⟩
theorem flX3_11 : xfl RX3 11 3 0 := ⟨_, rfl, by decide, (xt_in (List.mem_of_getElem? (i := 154) (by decide +kernel)) rfl)⟩
theorem flX3_18 : xfl RX3 18 3 1 := ⟨_, rfl, by decide, (xt_in (List.mem_of_getElem? (i := 155) (by decide +kernel)) rfl)⟩
theorem flX6_207 : xfl RX6 207 3 1 := ⟨_, rfl, by decide, (xt_in (List.mem_of_getElem? (i := 156) (by decide +kernel)) rfl)⟩
theorem flX0_9 : xfl RX0 9 0 0 := ⟨_, rfl, by decide, (xt_in (List.mem_of_getElem? (i := 168) (by decide +kernel)) rfl)⟩
theorem flX0_15 : xfl RX0 15 0 1 := ⟨_, rfl, by decide, (xt_in (List.mem_of_getElem? (i := 169) (by decide +kernel)) rfl)⟩
theorem flX6_199 : xfl RX6 199 0 1 := ⟨_, rfl, by decide, (xt_in (List.mem_of_getElem? (i := 170) (by decide +kernel)) rfl)⟩
theorem flX1_11 : xfl RX1 11 1 0 := ⟨_, rfl, by decide, (xt_in (List.mem_of_getElem? (i := 182) (by decide +kernel)) rfl)⟩
theorem flX1_19 : xfl RX1 19 1 1 := ⟨_, rfl, by decide, (xt_in (List.mem_of_getElem? (i := 183) (by decide +kernel)) rfl)⟩
theorem flX6_12 : xfl RX6 12 6 0 := ⟨_, rfl, by decide, (xt_in (List.mem_of_getElem? (i := 189) (by decide +kernel)) rfl)⟩
theorem flX6_19 : xfl RX6 19 6 1 := ⟨_, rfl, by decide, (xt_in (List.mem_of_getElem? (i := 190) (by decide +kernel)) rfl)⟩
theorem flX6_26 : xfl RX6 26 6 2 := ⟨_, rfl, by decide, (xt_in (List.mem_of_getElem? (i := 191) (by decide +kernel)) rfl)⟩
theorem flX6_33 : xfl RX6 33 6 3 := ⟨_, rfl, by decide, (xt_in (List.mem_of_getElem? (i := 192) (by decide +kernel)) rfl)⟩
theorem flX6_37 : xfl RX6 37 6 4 := ⟨_, rfl, by decide, (xt_in (List.mem_of_getElem? (i := 193) (by decide +kernel)) rfl)⟩
theorem flX6_40 : xfl RX6 40 6 5 := ⟨_, rfl, by decide, (xt_in (List.mem_of_getElem? (i := 194) (by decide +kernel)) rfl)⟩
theorem flX7_7 : xfl RX7 7 7 0 := ⟨_, rfl, by decide, (xt_in (List.mem_of_getElem? (i := 701) (by decide +kernel)) rfl)⟩
theorem flX7_13 : xfl RX7 13 7 1 := ⟨_, rfl, by decide, (xt_in (List.mem_of_getElem? (i := 702) (by decide +kernel)) rfl)⟩
theorem flX7_16 : xfl RX7 16 7 2 := ⟨_, rfl, by decide, (xt_in (List.mem_of_getElem? (i := 703) (by decide +kernel)) rfl)⟩
theorem flX7_19 : xfl RX7 19 7 3 := ⟨_, rfl, by decide, (xt_in (List.mem_of_getElem? (i := 704) (by decide +kernel)) rfl)⟩
theorem flX7_36 : xfl RX7 36 7 4 := ⟨_, rfl, by decide, (xt_in (List.mem_of_getElem? (i := 705) (by decide +kernel)) rfl)⟩
theorem flX7_22 : xfl RX7 22 7 5 := ⟨_, rfl, by decide, (xt_in (List.mem_of_getElem? (i := 706) (by decide +kernel)) rfl)⟩
theorem mlX0_3 : Cond.methodLink RX0 3 Lib.objectInit ∈ xt := (xt_in (List.mem_of_getElem? (i := 167) (by decide +kernel)) rfl)
theorem mlX0_19 : xlV RX0 19 MX2_fragmentOn := ⟨(xt_in (List.mem_of_getElem? (i := 568) (by decide +kernel)) rfl), (xt_in (List.mem_of_getElem? (i := 285) (by decide +kernel)) rfl), (xt_in (List.mem_of_getElem? (i := 286) (by decide +kernel)) rfl)⟩
theorem mlX0_25 : xlV RX0 25 MX2_ownerOf := ⟨(xt_in (List.mem_of_getElem? (i := 569) (by decide +kernel)) rfl), (xt_in (List.mem_of_getElem? (i := 277) (by decide +kernel)) rfl), (xt_in (List.mem_of_getElem? (i := 278) (by decide +kernel)) rfl)⟩
theorem mlX0_29 : xlV RX0 29 MX2_errorOf := ⟨(xt_in (List.mem_of_getElem? (i := 570) (by decide +kernel)) rfl), (xt_in (List.mem_of_getElem? (i := 306) (by decide +kernel)) rfl), (xt_in (List.mem_of_getElem? (i := 307) (by decide +kernel)) rfl)⟩
theorem mlX0_32 : xlV RX0 32 MX0_append := ⟨(xt_in (List.mem_of_getElem? (i := 571) (by decide +kernel)) rfl), (xt_in (List.mem_of_getElem? (i := 573) (by decide +kernel)) rfl), (xt_in (List.mem_of_getElem? (i := 10) (by decide +kernel)) rfl)⟩
theorem mlX0_36 : Cond.methodLink RX0 36 Lib.Math.min.name ∈ xt := (xt_in (List.mem_of_getElem? (i := 579) (by decide +kernel)) rfl)
theorem mlX1_3 : Cond.methodLink RX1 3 Lib.objectInit ∈ xt := (xt_in (List.mem_of_getElem? (i := 181) (by decide +kernel)) rfl)
theorem mlX1_15 : xlV RX1 15 MX1_setUp := ⟨(xt_in (List.mem_of_getElem? (i := 524) (by decide +kernel)) rfl), (xt_in (List.mem_of_getElem? (i := 526) (by decide +kernel)) rfl), (xt_in (List.mem_of_getElem? (i := 5) (by decide +kernel)) rfl)⟩
theorem mlX1_23 : xlV RX1 23 MX1_eliminate := ⟨(xt_in (List.mem_of_getElem? (i := 535) (by decide +kernel)) rfl), (xt_in (List.mem_of_getElem? (i := 537) (by decide +kernel)) rfl), (xt_in (List.mem_of_getElem? (i := 6) (by decide +kernel)) rfl)⟩
theorem mlX1_27 : xlS RX1 27 MJ6_bitCount_0f7a4 := ⟨(xt_in (List.mem_of_getElem? (i := 528) (by decide +kernel)) rfl), (xt_in (List.mem_of_getElem? (i := 511) (by decide +kernel)) rfl)⟩
theorem mlX1_33 : Cond.methodLink RX1 33 Lib.Math.min.name ∈ xt := (xt_in (List.mem_of_getElem? (i := 529) (by decide +kernel)) rfl)
theorem mlX1_39 : xlS RX1 39 MX1_factor := ⟨(xt_in (List.mem_of_getElem? (i := 530) (by decide +kernel)) rfl), (xt_in (List.mem_of_getElem? (i := 531) (by decide +kernel)) rfl)⟩
theorem mlX1_43 : xlV RX1 43 MX2_storedValue := ⟨(xt_in (List.mem_of_getElem? (i := 534) (by decide +kernel)) rfl), (xt_in (List.mem_of_getElem? (i := 483) (by decide +kernel)) rfl), (xt_in (List.mem_of_getElem? (i := 484) (by decide +kernel)) rfl)⟩
theorem mlX1_48 : xlSN RX1 48 MX6_power := ⟨(List.mem_of_getElem? (i := 533) (by decide +kernel)), (xt_in (List.mem_of_getElem? (i := 424) (by decide +kernel)) rfl)⟩
theorem mlX1_51 : xlV RX1 51 MX1_swapRows := ⟨(xt_in (List.mem_of_getElem? (i := 539) (by decide +kernel)) rfl), (xt_in (List.mem_of_getElem? (i := 541) (by decide +kernel)) rfl), (xt_in (List.mem_of_getElem? (i := 7) (by decide +kernel)) rfl)⟩
theorem mlX1_55 : xlV RX1 55 MX1_scaleRow := ⟨(xt_in (List.mem_of_getElem? (i := 543) (by decide +kernel)) rfl), (xt_in (List.mem_of_getElem? (i := 545) (by decide +kernel)) rfl), (xt_in (List.mem_of_getElem? (i := 8) (by decide +kernel)) rfl)⟩
theorem mlX1_58 : xlV RX1 58 MX1_subtractRow := ⟨(xt_in (List.mem_of_getElem? (i := 547) (by decide +kernel)) rfl), (xt_in (List.mem_of_getElem? (i := 549) (by decide +kernel)) rfl), (xt_in (List.mem_of_getElem? (i := 9) (by decide +kernel)) rfl)⟩
theorem mlX2_3 : Cond.methodLink RX2 3 Lib.objectInit ∈ xt := (xt_in (List.mem_of_getElem? (i := 104) (by decide +kernel)) rfl)
theorem mlX2_30 : xlS RX2 30 MJ7_fill_53178 := ⟨(xt_in (List.mem_of_getElem? (i := 105) (by decide +kernel)) rfl), (xt_in (List.mem_of_getElem? (i := 106) (by decide +kernel)) rfl)⟩
theorem mlX2_36 : xlSN RX2 36 MX6_copyRow := ⟨(List.mem_of_getElem? (i := 249) (by decide +kernel)), (xt_in (List.mem_of_getElem? (i := 237) (by decide +kernel)) rfl)⟩
theorem mlX2_40 : xlV RX2 40 MX2_fragmentNumber := ⟨(xt_in (List.mem_of_getElem? (i := 448) (by decide +kernel)) rfl), (xt_in (List.mem_of_getElem? (i := 354) (by decide +kernel)) rfl), (xt_in (List.mem_of_getElem? (i := 355) (by decide +kernel)) rfl)⟩
theorem mlX2_44 : xlV RX2 44 MX2_dataOf := ⟨(xt_in (List.mem_of_getElem? (i := 499) (by decide +kernel)) rfl), (xt_in (List.mem_of_getElem? (i := 441) (by decide +kernel)) rfl), (xt_in (List.mem_of_getElem? (i := 442) (by decide +kernel)) rfl)⟩
theorem mlX2_47 : xlS RX2 47 MX2_isInRows := ⟨(xt_in (List.mem_of_getElem? (i := 309) (by decide +kernel)) rfl), (xt_in (List.mem_of_getElem? (i := 310) (by decide +kernel)) rfl)⟩
theorem mlX2_51 : xlV RX2 51 MX2_correctValue := ⟨(xt_in (List.mem_of_getElem? (i := 486) (by decide +kernel)) rfl), (xt_in (List.mem_of_getElem? (i := 487) (by decide +kernel)) rfl), (xt_in (List.mem_of_getElem? (i := 488) (by decide +kernel)) rfl)⟩
theorem mlX2_55 : xlV RX2 55 MX2_errorOf := ⟨(xt_in (List.mem_of_getElem? (i := 490) (by decide +kernel)) rfl), (xt_in (List.mem_of_getElem? (i := 306) (by decide +kernel)) rfl), (xt_in (List.mem_of_getElem? (i := 307) (by decide +kernel)) rfl)⟩
theorem mlX2_58 : xlV RX2 58 MX2_placeOf := ⟨(xt_in (List.mem_of_getElem? (i := 453) (by decide +kernel)) rfl), (xt_in (List.mem_of_getElem? (i := 317) (by decide +kernel)) rfl), (xt_in (List.mem_of_getElem? (i := 318) (by decide +kernel)) rfl)⟩
theorem mlX2_61 : xlV RX2 61 MX2_isStored := ⟨(xt_in (List.mem_of_getElem? (i := 449) (by decide +kernel)) rfl), (xt_in (List.mem_of_getElem? (i := 450) (by decide +kernel)) rfl), (xt_in (List.mem_of_getElem? (i := 451) (by decide +kernel)) rfl)⟩
theorem mlX2_64 : xlV RX2 64 MX2_exists := ⟨(xt_in (List.mem_of_getElem? (i := 272) (by decide +kernel)) rfl), (xt_in (List.mem_of_getElem? (i := 273) (by decide +kernel)) rfl), (xt_in (List.mem_of_getElem? (i := 274) (by decide +kernel)) rfl)⟩
theorem mlX2_68 : xlV RX2 68 MX2_ownerOf := ⟨(xt_in (List.mem_of_getElem? (i := 276) (by decide +kernel)) rfl), (xt_in (List.mem_of_getElem? (i := 277) (by decide +kernel)) rfl), (xt_in (List.mem_of_getElem? (i := 278) (by decide +kernel)) rfl)⟩
theorem mlX2_71 : xlV RX2 71 MX2_isSpoiled := ⟨(xt_in (List.mem_of_getElem? (i := 679) (by decide +kernel)) rfl), (xt_in (List.mem_of_getElem? (i := 680) (by decide +kernel)) rfl), (xt_in (List.mem_of_getElem? (i := 681) (by decide +kernel)) rfl)⟩
theorem mlX2_74 : xlV RX2 74 MX2_storedNumber := ⟨(xt_in (List.mem_of_getElem? (i := 670) (by decide +kernel)) rfl), (xt_in (List.mem_of_getElem? (i := 445) (by decide +kernel)) rfl), (xt_in (List.mem_of_getElem? (i := 446) (by decide +kernel)) rfl)⟩
theorem mlX2_77 : xlV RX2 77 MX2_spoiledNumber := ⟨(xt_in (List.mem_of_getElem? (i := 675) (by decide +kernel)) rfl), (xt_in (List.mem_of_getElem? (i := 676) (by decide +kernel)) rfl), (xt_in (List.mem_of_getElem? (i := 677) (by decide +kernel)) rfl)⟩
theorem mlX2_80 : xlS RX2 80 MJ6_bitCount_0f7a4 := ⟨(xt_in (List.mem_of_getElem? (i := 510) (by decide +kernel)) rfl), (xt_in (List.mem_of_getElem? (i := 511) (by decide +kernel)) rfl)⟩
theorem mlX2_85 : Cond.methodLink RX2 85 Lib.Math.min.name ∈ xt := (xt_in (List.mem_of_getElem? (i := 419) (by decide +kernel)) rfl)
theorem mlX2_90 : xlS RX2 90 MX2_parityWord := ⟨(xt_in (List.mem_of_getElem? (i := 420) (by decide +kernel)) rfl), (xt_in (List.mem_of_getElem? (i := 421) (by decide +kernel)) rfl)⟩
theorem mlX2_94 : xlSN RX2 94 MX6_power := ⟨(List.mem_of_getElem? (i := 423) (by decide +kernel)), (xt_in (List.mem_of_getElem? (i := 424) (by decide +kernel)) rfl)⟩
theorem mlX3_3 : Cond.methodLink RX3 3 Lib.objectInit ∈ xt := (xt_in (List.mem_of_getElem? (i := 150) (by decide +kernel)) rfl)
theorem mlX3_17 : xlIN RX3 17 MX5_init := ⟨(List.mem_of_getElem? (i := 153) (by decide +kernel)), (xt_in (List.mem_of_getElem? (i := 70) (by decide +kernel)) rfl), by decide +kernel, rfl⟩
theorem mlX3_22 : xlV RX3 22 MX3_dropOldest := ⟨(xt_in (List.mem_of_getElem? (i := 224) (by decide +kernel)) rfl), (xt_in (List.mem_of_getElem? (i := 226) (by decide +kernel)) rfl), (xt_in (List.mem_of_getElem? (i := 0) (by decide +kernel)) rfl)⟩
theorem mlX3_25 : xlV RX3 25 MX5_copyFrom := ⟨(xt_in (List.mem_of_getElem? (i := 228) (by decide +kernel)) rfl), (xt_in (List.mem_of_getElem? (i := 229) (by decide +kernel)) rfl), (xt_in (List.mem_of_getElem? (i := 230) (by decide +kernel)) rfl)⟩
theorem mlX4_3 : Cond.methodLink RX4 3 Lib.objectInit ∈ xt := (xt_in (List.mem_of_getElem? (i := 78) (by decide +kernel)) rfl)
theorem mlX4_27 : xlSN RX4 27 MX6_copyRow := ⟨(List.mem_of_getElem? (i := 236) (by decide +kernel)), (xt_in (List.mem_of_getElem? (i := 237) (by decide +kernel)) rfl)⟩
theorem mlX4_31 : xlV RX4 31 MX4_exists := ⟨(xt_in (List.mem_of_getElem? (i := 216) (by decide +kernel)) rfl), (xt_in (List.mem_of_getElem? (i := 217) (by decide +kernel)) rfl), (xt_in (List.mem_of_getElem? (i := 218) (by decide +kernel)) rfl)⟩
theorem mlX4_35 : xlV RX4 35 MX4_isOnline := ⟨(xt_in (List.mem_of_getElem? (i := 687) (by decide +kernel)) rfl), (xt_in (List.mem_of_getElem? (i := 265) (by decide +kernel)) rfl), (xt_in (List.mem_of_getElem? (i := 266) (by decide +kernel)) rfl)⟩
theorem mlX4_38 : xlV RX4 38 MX4_freeSpace := ⟨(xt_in (List.mem_of_getElem? (i := 304) (by decide +kernel)) rfl), (xt_in (List.mem_of_getElem? (i := 297) (by decide +kernel)) rfl), (xt_in (List.mem_of_getElem? (i := 298) (by decide +kernel)) rfl)⟩
theorem mlX4_42 : Cond.methodLink RX4 42 Lib.Math.min.name ∈ xt := (xt_in (List.mem_of_getElem? (i := 588) (by decide +kernel)) rfl)
theorem mlX4_48 : xlV RX4 48 MX4_areTwo := ⟨(xt_in (List.mem_of_getElem? (i := 377) (by decide +kernel)) rfl), (xt_in (List.mem_of_getElem? (i := 370) (by decide +kernel)) rfl), (xt_in (List.mem_of_getElem? (i := 371) (by decide +kernel)) rfl)⟩
theorem mlX4_52 : xlV RX4 52 MX4_owedBy := ⟨(xt_in (List.mem_of_getElem? (i := 389) (by decide +kernel)) rfl), (xt_in (List.mem_of_getElem? (i := 374) (by decide +kernel)) rfl), (xt_in (List.mem_of_getElem? (i := 375) (by decide +kernel)) rfl)⟩
theorem mlX4_55 : Cond.methodLink RX4 55 Lib.Math.max.name ∈ xt := (xt_in (List.mem_of_getElem? (i := 692) (by decide +kernel)) rfl)
theorem mlX5_3 : Cond.methodLink RX5 3 Lib.objectInit ∈ xt := (xt_in (List.mem_of_getElem? (i := 72) (by decide +kernel)) rfl)
theorem mlX5_11 : xlIN RX5 11 MX4_init := ⟨(List.mem_of_getElem? (i := 75) (by decide +kernel)), (xt_in (List.mem_of_getElem? (i := 76) (by decide +kernel)) rfl), by decide +kernel, rfl⟩
theorem mlX5_20 : xlI RX5 20 MX2_init := ⟨(xt_in (List.mem_of_getElem? (i := 101) (by decide +kernel)) rfl), (xt_in (List.mem_of_getElem? (i := 102) (by decide +kernel)) rfl), by decide +kernel, rfl⟩
theorem mlX5_29 : xlV RX5 29 MX4_copyFrom := ⟨(xt_in (List.mem_of_getElem? (i := 232) (by decide +kernel)) rfl), (xt_in (List.mem_of_getElem? (i := 233) (by decide +kernel)) rfl), (xt_in (List.mem_of_getElem? (i := 234) (by decide +kernel)) rfl)⟩
theorem mlX5_33 : xlV RX5 33 MX2_copyFrom := ⟨(xt_in (List.mem_of_getElem? (i := 245) (by decide +kernel)) rfl), (xt_in (List.mem_of_getElem? (i := 246) (by decide +kernel)) rfl), (xt_in (List.mem_of_getElem? (i := 247) (by decide +kernel)) rfl)⟩
theorem mlX5_36 : xlSN RX5 36 MX6_copyRow := ⟨(List.mem_of_getElem? (i := 250) (by decide +kernel)), (xt_in (List.mem_of_getElem? (i := 237) (by decide +kernel)) rfl)⟩
theorem mlX5_44 : xlV RX5 44 MX2_errorOf := ⟨(xt_in (List.mem_of_getElem? (i := 305) (by decide +kernel)) rfl), (xt_in (List.mem_of_getElem? (i := 306) (by decide +kernel)) rfl), (xt_in (List.mem_of_getElem? (i := 307) (by decide +kernel)) rfl)⟩
theorem mlX5_48 : xlV RX5 48 MX2_placeOf := ⟨(xt_in (List.mem_of_getElem? (i := 316) (by decide +kernel)) rfl), (xt_in (List.mem_of_getElem? (i := 317) (by decide +kernel)) rfl), (xt_in (List.mem_of_getElem? (i := 318) (by decide +kernel)) rfl)⟩
theorem mlX5_51 : xlV RX5 51 MX4_isOnline := ⟨(xt_in (List.mem_of_getElem? (i := 264) (by decide +kernel)) rfl), (xt_in (List.mem_of_getElem? (i := 265) (by decide +kernel)) rfl), (xt_in (List.mem_of_getElem? (i := 266) (by decide +kernel)) rfl)⟩
theorem mlX5_55 : xlV RX5 55 MX2_fragmentNumber := ⟨(xt_in (List.mem_of_getElem? (i := 353) (by decide +kernel)) rfl), (xt_in (List.mem_of_getElem? (i := 354) (by decide +kernel)) rfl), (xt_in (List.mem_of_getElem? (i := 355) (by decide +kernel)) rfl)⟩
theorem mlX5_59 : xlV RX5 59 MX5_isGood := ⟨(xt_in (List.mem_of_getElem? (i := 458) (by decide +kernel)) rfl), (xt_in (List.mem_of_getElem? (i := 459) (by decide +kernel)) rfl), (xt_in (List.mem_of_getElem? (i := 460) (by decide +kernel)) rfl)⟩
theorem mlX5_63 : xlV RX5 63 MX5_goodNumber := ⟨(xt_in (List.mem_of_getElem? (i := 467) (by decide +kernel)) rfl), (xt_in (List.mem_of_getElem? (i := 455) (by decide +kernel)) rfl), (xt_in (List.mem_of_getElem? (i := 456) (by decide +kernel)) rfl)⟩
theorem mlX5_66 : xlV RX5 66 MX2_dataOf := ⟨(xt_in (List.mem_of_getElem? (i := 468) (by decide +kernel)) rfl), (xt_in (List.mem_of_getElem? (i := 441) (by decide +kernel)) rfl), (xt_in (List.mem_of_getElem? (i := 442) (by decide +kernel)) rfl)⟩
theorem mlX5_69 : xlV RX5 69 MX2_exists := ⟨(xt_in (List.mem_of_getElem? (i := 466) (by decide +kernel)) rfl), (xt_in (List.mem_of_getElem? (i := 273) (by decide +kernel)) rfl), (xt_in (List.mem_of_getElem? (i := 274) (by decide +kernel)) rfl)⟩
theorem mlX5_72 : xlV RX5 72 MX5_isSafe := ⟨(xt_in (List.mem_of_getElem? (i := 633) (by decide +kernel)) rfl), (xt_in (List.mem_of_getElem? (i := 463) (by decide +kernel)) rfl), (xt_in (List.mem_of_getElem? (i := 464) (by decide +kernel)) rfl)⟩
theorem mlX5_75 : xlV RX5 75 MX4_freeSpace := ⟨(xt_in (List.mem_of_getElem? (i := 296) (by decide +kernel)) rfl), (xt_in (List.mem_of_getElem? (i := 297) (by decide +kernel)) rfl), (xt_in (List.mem_of_getElem? (i := 298) (by decide +kernel)) rfl)⟩
theorem mlX5_78 : xlV RX5 78 MX2_fragmentOn := ⟨(xt_in (List.mem_of_getElem? (i := 284) (by decide +kernel)) rfl), (xt_in (List.mem_of_getElem? (i := 285) (by decide +kernel)) rfl), (xt_in (List.mem_of_getElem? (i := 286) (by decide +kernel)) rfl)⟩
theorem mlX5_81 : xlV RX5 81 MX4_isBetterPlace := ⟨(xt_in (List.mem_of_getElem? (i := 300) (by decide +kernel)) rfl), (xt_in (List.mem_of_getElem? (i := 301) (by decide +kernel)) rfl), (xt_in (List.mem_of_getElem? (i := 302) (by decide +kernel)) rfl)⟩
theorem mlX5_84 : xlV RX5 84 MX2_setFragment := ⟨(xt_in (List.mem_of_getElem? (i := 324) (by decide +kernel)) rfl), (xt_in (List.mem_of_getElem? (i := 325) (by decide +kernel)) rfl), (xt_in (List.mem_of_getElem? (i := 326) (by decide +kernel)) rfl)⟩
theorem mlX5_88 : xlV RX5 88 MX4_addLoad := ⟨(xt_in (List.mem_of_getElem? (i := 320) (by decide +kernel)) rfl), (xt_in (List.mem_of_getElem? (i := 321) (by decide +kernel)) rfl), (xt_in (List.mem_of_getElem? (i := 322) (by decide +kernel)) rfl)⟩
theorem mlX5_92 : xlV RX5 92 MX2_ownerOf := ⟨(xt_in (List.mem_of_getElem? (i := 332) (by decide +kernel)) rfl), (xt_in (List.mem_of_getElem? (i := 277) (by decide +kernel)) rfl), (xt_in (List.mem_of_getElem? (i := 278) (by decide +kernel)) rfl)⟩
theorem mlX5_95 : xlV RX5 95 MX4_owe := ⟨(xt_in (List.mem_of_getElem? (i := 333) (by decide +kernel)) rfl), (xt_in (List.mem_of_getElem? (i := 334) (by decide +kernel)) rfl), (xt_in (List.mem_of_getElem? (i := 335) (by decide +kernel)) rfl)⟩
theorem mlX5_99 : xlV RX5 99 MX2_add := ⟨(xt_in (List.mem_of_getElem? (i := 415) (by decide +kernel)) rfl), (xt_in (List.mem_of_getElem? (i := 416) (by decide +kernel)) rfl), (xt_in (List.mem_of_getElem? (i := 417) (by decide +kernel)) rfl)⟩
theorem mlX5_103 : xlV RX5 103 MX5_findPlace := ⟨(xt_in (List.mem_of_getElem? (i := 292) (by decide +kernel)) rfl), (xt_in (List.mem_of_getElem? (i := 294) (by decide +kernel)) rfl), (xt_in (List.mem_of_getElem? (i := 2) (by decide +kernel)) rfl)⟩
theorem mlX5_106 : xlV RX5 106 MX5_putOn := ⟨(xt_in (List.mem_of_getElem? (i := 328) (by decide +kernel)) rfl), (xt_in (List.mem_of_getElem? (i := 330) (by decide +kernel)) rfl), (xt_in (List.mem_of_getElem? (i := 4) (by decide +kernel)) rfl)⟩
theorem mlX5_109 : xlV RX5 109 MX5_takeOff := ⟨(xt_in (List.mem_of_getElem? (i := 312) (by decide +kernel)) rfl), (xt_in (List.mem_of_getElem? (i := 314) (by decide +kernel)) rfl), (xt_in (List.mem_of_getElem? (i := 3) (by decide +kernel)) rfl)⟩
theorem mlX5_112 : xlV RX5 112 MX2_remove := ⟨(xt_in (List.mem_of_getElem? (i := 357) (by decide +kernel)) rfl), (xt_in (List.mem_of_getElem? (i := 358) (by decide +kernel)) rfl), (xt_in (List.mem_of_getElem? (i := 359) (by decide +kernel)) rfl)⟩
theorem mlX5_116 : xlV RX5 116 MX2_ownedBy := ⟨(xt_in (List.mem_of_getElem? (i := 268) (by decide +kernel)) rfl), (xt_in (List.mem_of_getElem? (i := 269) (by decide +kernel)) rfl), (xt_in (List.mem_of_getElem? (i := 270) (by decide +kernel)) rfl)⟩
theorem mlX5_119 : xlV RX5 119 MX5_move := ⟨(xt_in (List.mem_of_getElem? (i := 288) (by decide +kernel)) rfl), (xt_in (List.mem_of_getElem? (i := 290) (by decide +kernel)) rfl), (xt_in (List.mem_of_getElem? (i := 1) (by decide +kernel)) rfl)⟩
theorem mlX5_122 : xlV RX5 122 MX4_remove := ⟨(xt_in (List.mem_of_getElem? (i := 337) (by decide +kernel)) rfl), (xt_in (List.mem_of_getElem? (i := 338) (by decide +kernel)) rfl), (xt_in (List.mem_of_getElem? (i := 339) (by decide +kernel)) rfl)⟩
theorem mlX5_123 : xlV RX5 123 MX5_removeFile := ⟨(xt_in (List.mem_of_getElem? (i := 349) (by decide +kernel)) rfl), (xt_in (List.mem_of_getElem? (i := 350) (by decide +kernel)) rfl), (xt_in (List.mem_of_getElem? (i := 351) (by decide +kernel)) rfl)⟩
theorem mlX5_126 : xlV RX5 126 MX5_renew := ⟨(xt_in (List.mem_of_getElem? (i := 601) (by decide +kernel)) rfl), (xt_in (List.mem_of_getElem? (i := 603) (by decide +kernel)) rfl), (xt_in (List.mem_of_getElem? (i := 11) (by decide +kernel)) rfl)⟩
theorem mlX5_129 : xlV RX5 129 MX5_oweReaders := ⟨(xt_in (List.mem_of_getElem? (i := 605) (by decide +kernel)) rfl), (xt_in (List.mem_of_getElem? (i := 607) (by decide +kernel)) rfl), (xt_in (List.mem_of_getElem? (i := 12) (by decide +kernel)) rfl)⟩
theorem mlX5_132 : xlV RX5 132 MX5_reserveOf := ⟨(xt_in (List.mem_of_getElem? (i := 648) (by decide +kernel)) rfl), (xt_in (List.mem_of_getElem? (i := 470) (by decide +kernel)) rfl), (xt_in (List.mem_of_getElem? (i := 471) (by decide +kernel)) rfl)⟩
theorem mlX5_135 : xlV RX5 135 MX5_canBreak := ⟨(xt_in (List.mem_of_getElem? (i := 634) (by decide +kernel)) rfl), (xt_in (List.mem_of_getElem? (i := 636) (by decide +kernel)) rfl), (xt_in (List.mem_of_getElem? (i := 13) (by decide +kernel)) rfl)⟩
theorem mlX5_138 : xlV RX5 138 MX4_number := ⟨(xt_in (List.mem_of_getElem? (i := 638) (by decide +kernel)) rfl), (xt_in (List.mem_of_getElem? (i := 626) (by decide +kernel)) rfl), (xt_in (List.mem_of_getElem? (i := 627) (by decide +kernel)) rfl)⟩
theorem mlX5_142 : Cond.methodLink RX5 142 Lib.Math.min.name ∈ xt := (xt_in (List.mem_of_getElem? (i := 639) (by decide +kernel)) rfl)
theorem mlX6_3 : Cond.methodLink RX6 3 Lib.objectInit ∈ xt := (xt_in (List.mem_of_getElem? (i := 64) (by decide +kernel)) rfl)
theorem mlX6_11 : xlIN RX6 11 MX5_init := ⟨(List.mem_of_getElem? (i := 69) (by decide +kernel)), (xt_in (List.mem_of_getElem? (i := 70) (by decide +kernel)) rfl), by decide +kernel, rfl⟩
theorem mlX6_18 : xlI RX6 18 MX3_init := ⟨(xt_in (List.mem_of_getElem? (i := 147) (by decide +kernel)) rfl), (xt_in (List.mem_of_getElem? (i := 148) (by decide +kernel)) rfl), by decide +kernel, rfl⟩
theorem mlX6_25 : xlIN RX6 25 MX0_init := ⟨(List.mem_of_getElem? (i := 164) (by decide +kernel)), (xt_in (List.mem_of_getElem? (i := 165) (by decide +kernel)) rfl), by decide +kernel, rfl⟩
theorem mlX6_32 : xlIN RX6 32 MX1_init := ⟨(List.mem_of_getElem? (i := 178) (by decide +kernel)), (xt_in (List.mem_of_getElem? (i := 179) (by decide +kernel)) rfl), by decide +kernel, rfl⟩
theorem mlX6_47 : xlV RX6 47 MX4_lowestUnused := ⟨(xt_in (List.mem_of_getElem? (i := 212) (by decide +kernel)) rfl), (xt_in (List.mem_of_getElem? (i := 213) (by decide +kernel)) rfl), (xt_in (List.mem_of_getElem? (i := 214) (by decide +kernel)) rfl)⟩
theorem mlX6_53 : xlV RX6 53 MX3_record := ⟨(xt_in (List.mem_of_getElem? (i := 220) (by decide +kernel)) rfl), (xt_in (List.mem_of_getElem? (i := 221) (by decide +kernel)) rfl), (xt_in (List.mem_of_getElem? (i := 222) (by decide +kernel)) rfl)⟩
theorem mlX6_57 : xlV RX6 57 MX4_add := ⟨(xt_in (List.mem_of_getElem? (i := 251) (by decide +kernel)) rfl), (xt_in (List.mem_of_getElem? (i := 252) (by decide +kernel)) rfl), (xt_in (List.mem_of_getElem? (i := 253) (by decide +kernel)) rfl)⟩
theorem mlX6_61 : xlV RX6 61 MX4_exists := ⟨(xt_in (List.mem_of_getElem? (i := 259) (by decide +kernel)) rfl), (xt_in (List.mem_of_getElem? (i := 217) (by decide +kernel)) rfl), (xt_in (List.mem_of_getElem? (i := 218) (by decide +kernel)) rfl)⟩
theorem mlX6_65 : xlV RX6 65 MX5_mayLeave := ⟨(xt_in (List.mem_of_getElem? (i := 260) (by decide +kernel)) rfl), (xt_in (List.mem_of_getElem? (i := 261) (by decide +kernel)) rfl), (xt_in (List.mem_of_getElem? (i := 262) (by decide +kernel)) rfl)⟩
theorem mlX6_68 : xlV RX6 68 MX5_leaveInOrder := ⟨(xt_in (List.mem_of_getElem? (i := 280) (by decide +kernel)) rfl), (xt_in (List.mem_of_getElem? (i := 281) (by decide +kernel)) rfl), (xt_in (List.mem_of_getElem? (i := 282) (by decide +kernel)) rfl)⟩
theorem mlX6_72 : xlV RX6 72 MX5_removeCrashed := ⟨(xt_in (List.mem_of_getElem? (i := 345) (by decide +kernel)) rfl), (xt_in (List.mem_of_getElem? (i := 346) (by decide +kernel)) rfl), (xt_in (List.mem_of_getElem? (i := 347) (by decide +kernel)) rfl)⟩
theorem mlX6_79 : xlV RX6 79 MX4_areTwo := ⟨(xt_in (List.mem_of_getElem? (i := 369) (by decide +kernel)) rfl), (xt_in (List.mem_of_getElem? (i := 370) (by decide +kernel)) rfl), (xt_in (List.mem_of_getElem? (i := 371) (by decide +kernel)) rfl)⟩
theorem mlX6_83 : xlV RX6 83 MX4_owedBy := ⟨(xt_in (List.mem_of_getElem? (i := 373) (by decide +kernel)) rfl), (xt_in (List.mem_of_getElem? (i := 374) (by decide +kernel)) rfl), (xt_in (List.mem_of_getElem? (i := 375) (by decide +kernel)) rfl)⟩
theorem mlX6_87 : xlV RX6 87 MX4_owe := ⟨(xt_in (List.mem_of_getElem? (i := 378) (by decide +kernel)) rfl), (xt_in (List.mem_of_getElem? (i := 334) (by decide +kernel)) rfl), (xt_in (List.mem_of_getElem? (i := 335) (by decide +kernel)) rfl)⟩
theorem mlX6_94 : xlV RX6 94 MX4_freeSpace := ⟨(xt_in (List.mem_of_getElem? (i := 383) (by decide +kernel)) rfl), (xt_in (List.mem_of_getElem? (i := 297) (by decide +kernel)) rfl), (xt_in (List.mem_of_getElem? (i := 298) (by decide +kernel)) rfl)⟩
theorem mlX6_104 : xlV RX6 104 MX2_ownedBy := ⟨(xt_in (List.mem_of_getElem? (i := 384) (by decide +kernel)) rfl), (xt_in (List.mem_of_getElem? (i := 269) (by decide +kernel)) rfl), (xt_in (List.mem_of_getElem? (i := 270) (by decide +kernel)) rfl)⟩
theorem mlX6_109 : xlV RX6 109 MX4_sumOwedBy := ⟨(xt_in (List.mem_of_getElem? (i := 385) (by decide +kernel)) rfl), (xt_in (List.mem_of_getElem? (i := 386) (by decide +kernel)) rfl), (xt_in (List.mem_of_getElem? (i := 387) (by decide +kernel)) rfl)⟩
theorem mlX6_116 : xlV RX6 116 MX5_addWaiting := ⟨(xt_in (List.mem_of_getElem? (i := 398) (by decide +kernel)) rfl), (xt_in (List.mem_of_getElem? (i := 399) (by decide +kernel)) rfl), (xt_in (List.mem_of_getElem? (i := 400) (by decide +kernel)) rfl)⟩
theorem mlX6_119 : xlV RX6 119 MX4_isOnline := ⟨(xt_in (List.mem_of_getElem? (i := 406) (by decide +kernel)) rfl), (xt_in (List.mem_of_getElem? (i := 265) (by decide +kernel)) rfl), (xt_in (List.mem_of_getElem? (i := 266) (by decide +kernel)) rfl)⟩
theorem mlX6_122 : xlV RX6 122 MX2_lowestUnused := ⟨(xt_in (List.mem_of_getElem? (i := 407) (by decide +kernel)) rfl), (xt_in (List.mem_of_getElem? (i := 408) (by decide +kernel)) rfl), (xt_in (List.mem_of_getElem? (i := 409) (by decide +kernel)) rfl)⟩
theorem mlX6_123 : xlV RX6 123 MX5_makeFile := ⟨(xt_in (List.mem_of_getElem? (i := 411) (by decide +kernel)) rfl), (xt_in (List.mem_of_getElem? (i := 412) (by decide +kernel)) rfl), (xt_in (List.mem_of_getElem? (i := 413) (by decide +kernel)) rfl)⟩
theorem mlX6_126 : xlV RX6 126 MX2_exists := ⟨(xt_in (List.mem_of_getElem? (i := 430) (by decide +kernel)) rfl), (xt_in (List.mem_of_getElem? (i := 273) (by decide +kernel)) rfl), (xt_in (List.mem_of_getElem? (i := 274) (by decide +kernel)) rfl)⟩
theorem mlX6_127 : xlV RX6 127 MX5_removeFile := ⟨(xt_in (List.mem_of_getElem? (i := 431) (by decide +kernel)) rfl), (xt_in (List.mem_of_getElem? (i := 350) (by decide +kernel)) rfl), (xt_in (List.mem_of_getElem? (i := 351) (by decide +kernel)) rfl)⟩
theorem mlX6_131 : xlV RX6 131 MX2_number := ⟨(xt_in (List.mem_of_getElem? (i := 432) (by decide +kernel)) rfl), (xt_in (List.mem_of_getElem? (i := 433) (by decide +kernel)) rfl), (xt_in (List.mem_of_getElem? (i := 434) (by decide +kernel)) rfl)⟩
theorem mlX6_137 : xlV RX6 137 MX2_dataOf := ⟨(xt_in (List.mem_of_getElem? (i := 440) (by decide +kernel)) rfl), (xt_in (List.mem_of_getElem? (i := 441) (by decide +kernel)) rfl), (xt_in (List.mem_of_getElem? (i := 442) (by decide +kernel)) rfl)⟩
theorem mlX6_143 : xlV RX6 143 MX2_storedNumber := ⟨(xt_in (List.mem_of_getElem? (i := 444) (by decide +kernel)) rfl), (xt_in (List.mem_of_getElem? (i := 445) (by decide +kernel)) rfl), (xt_in (List.mem_of_getElem? (i := 446) (by decide +kernel)) rfl)⟩
theorem mlX6_146 : xlV RX6 146 MX5_goodNumber := ⟨(xt_in (List.mem_of_getElem? (i := 454) (by decide +kernel)) rfl), (xt_in (List.mem_of_getElem? (i := 455) (by decide +kernel)) rfl), (xt_in (List.mem_of_getElem? (i := 456) (by decide +kernel)) rfl)⟩
theorem mlX6_149 : xlV RX6 149 MX5_isSafe := ⟨(xt_in (List.mem_of_getElem? (i := 462) (by decide +kernel)) rfl), (xt_in (List.mem_of_getElem? (i := 463) (by decide +kernel)) rfl), (xt_in (List.mem_of_getElem? (i := 464) (by decide +kernel)) rfl)⟩
theorem mlX6_152 : xlV RX6 152 MX5_reserveOf := ⟨(xt_in (List.mem_of_getElem? (i := 469) (by decide +kernel)) rfl), (xt_in (List.mem_of_getElem? (i := 470) (by decide +kernel)) rfl), (xt_in (List.mem_of_getElem? (i := 471) (by decide +kernel)) rfl)⟩
theorem mlX6_155 : xlV RX6 155 MX2_hasFragment := ⟨(xt_in (List.mem_of_getElem? (i := 477) (by decide +kernel)) rfl), (xt_in (List.mem_of_getElem? (i := 478) (by decide +kernel)) rfl), (xt_in (List.mem_of_getElem? (i := 479) (by decide +kernel)) rfl)⟩
theorem mlX6_158 : xlV RX6 158 MX2_placeOf := ⟨(xt_in (List.mem_of_getElem? (i := 481) (by decide +kernel)) rfl), (xt_in (List.mem_of_getElem? (i := 317) (by decide +kernel)) rfl), (xt_in (List.mem_of_getElem? (i := 318) (by decide +kernel)) rfl)⟩
theorem mlX6_161 : xlV RX6 161 MX2_storedValue := ⟨(xt_in (List.mem_of_getElem? (i := 482) (by decide +kernel)) rfl), (xt_in (List.mem_of_getElem? (i := 483) (by decide +kernel)) rfl), (xt_in (List.mem_of_getElem? (i := 484) (by decide +kernel)) rfl)⟩
theorem mlX6_164 : xlV RX6 164 MX2_hasData := ⟨(xt_in (List.mem_of_getElem? (i := 495) (by decide +kernel)) rfl), (xt_in (List.mem_of_getElem? (i := 496) (by decide +kernel)) rfl), (xt_in (List.mem_of_getElem? (i := 497) (by decide +kernel)) rfl)⟩
theorem mlX6_167 : xlV RX6 167 MX5_isGood := ⟨(xt_in (List.mem_of_getElem? (i := 500) (by decide +kernel)) rfl), (xt_in (List.mem_of_getElem? (i := 459) (by decide +kernel)) rfl), (xt_in (List.mem_of_getElem? (i := 460) (by decide +kernel)) rfl)⟩
theorem mlX6_170 : xlV RX6 170 MX2_correctValue := ⟨(xt_in (List.mem_of_getElem? (i := 501) (by decide +kernel)) rfl), (xt_in (List.mem_of_getElem? (i := 487) (by decide +kernel)) rfl), (xt_in (List.mem_of_getElem? (i := 488) (by decide +kernel)) rfl)⟩
theorem mlX6_173 : xlV RX6 173 MX2_isDecodingSet := ⟨(xt_in (List.mem_of_getElem? (i := 506) (by decide +kernel)) rfl), (xt_in (List.mem_of_getElem? (i := 507) (by decide +kernel)) rfl), (xt_in (List.mem_of_getElem? (i := 508) (by decide +kernel)) rfl)⟩
theorem mlX6_176 : xlV RX6 176 MX2_isStoredSet := ⟨(xt_in (List.mem_of_getElem? (i := 516) (by decide +kernel)) rfl), (xt_in (List.mem_of_getElem? (i := 517) (by decide +kernel)) rfl), (xt_in (List.mem_of_getElem? (i := 518) (by decide +kernel)) rfl)⟩
theorem mlX6_179 : xlV RX6 179 MX1_dataWord := ⟨(xt_in (List.mem_of_getElem? (i := 520) (by decide +kernel)) rfl), (xt_in (List.mem_of_getElem? (i := 521) (by decide +kernel)) rfl), (xt_in (List.mem_of_getElem? (i := 522) (by decide +kernel)) rfl)⟩
theorem mlX6_183 : xlV RX6 183 MX2_addError := ⟨(xt_in (List.mem_of_getElem? (i := 555) (by decide +kernel)) rfl), (xt_in (List.mem_of_getElem? (i := 556) (by decide +kernel)) rfl), (xt_in (List.mem_of_getElem? (i := 557) (by decide +kernel)) rfl)⟩
theorem mlX6_186 : xlV RX6 186 MX2_errorOf := ⟨(xt_in (List.mem_of_getElem? (i := 559) (by decide +kernel)) rfl), (xt_in (List.mem_of_getElem? (i := 306) (by decide +kernel)) rfl), (xt_in (List.mem_of_getElem? (i := 307) (by decide +kernel)) rfl)⟩
theorem mlX6_189 : xlV RX6 189 MX0_lookAt := ⟨(xt_in (List.mem_of_getElem? (i := 564) (by decide +kernel)) rfl), (xt_in (List.mem_of_getElem? (i := 565) (by decide +kernel)) rfl), (xt_in (List.mem_of_getElem? (i := 566) (by decide +kernel)) rfl)⟩
theorem mlX6_193 : xlV RX6 193 MX0_isPassedWith := ⟨(xt_in (List.mem_of_getElem? (i := 575) (by decide +kernel)) rfl), (xt_in (List.mem_of_getElem? (i := 576) (by decide +kernel)) rfl), (xt_in (List.mem_of_getElem? (i := 577) (by decide +kernel)) rfl)⟩
theorem mlX6_196 : xlV RX6 196 MX4_halveTrust := ⟨(xt_in (List.mem_of_getElem? (i := 580) (by decide +kernel)) rfl), (xt_in (List.mem_of_getElem? (i := 581) (by decide +kernel)) rfl), (xt_in (List.mem_of_getElem? (i := 582) (by decide +kernel)) rfl)⟩
theorem mlX6_201 : xlV RX6 201 MX4_raiseTrust := ⟨(xt_in (List.mem_of_getElem? (i := 584) (by decide +kernel)) rfl), (xt_in (List.mem_of_getElem? (i := 585) (by decide +kernel)) rfl), (xt_in (List.mem_of_getElem? (i := 586) (by decide +kernel)) rfl)⟩
theorem mlX6_204 : xlV RX6 204 MX5_renewFile := ⟨(xt_in (List.mem_of_getElem? (i := 597) (by decide +kernel)) rfl), (xt_in (List.mem_of_getElem? (i := 598) (by decide +kernel)) rfl), (xt_in (List.mem_of_getElem? (i := 599) (by decide +kernel)) rfl)⟩
theorem mlX6_208 : xlV RX6 208 MX3_restoreLatest := ⟨(xt_in (List.mem_of_getElem? (i := 617) (by decide +kernel)) rfl), (xt_in (List.mem_of_getElem? (i := 618) (by decide +kernel)) rfl), (xt_in (List.mem_of_getElem? (i := 619) (by decide +kernel)) rfl)⟩
theorem mlX6_211 : xlV RX6 211 MX4_number := ⟨(xt_in (List.mem_of_getElem? (i := 625) (by decide +kernel)) rfl), (xt_in (List.mem_of_getElem? (i := 626) (by decide +kernel)) rfl), (xt_in (List.mem_of_getElem? (i := 627) (by decide +kernel)) rfl)⟩
theorem mlX6_212 : Cond.methodLink RX6 212 Lib.Math.min.name ∈ xt := (xt_in (List.mem_of_getElem? (i := 239) (by decide +kernel)) rfl)
theorem mlX6_217 : xlV RX6 217 MX5_bearsCrashes := ⟨(xt_in (List.mem_of_getElem? (i := 629) (by decide +kernel)) rfl), (xt_in (List.mem_of_getElem? (i := 630) (by decide +kernel)) rfl), (xt_in (List.mem_of_getElem? (i := 631) (by decide +kernel)) rfl)⟩
theorem mlX6_220 : xlV RX6 220 MX5_needsPeer := ⟨(xt_in (List.mem_of_getElem? (i := 644) (by decide +kernel)) rfl), (xt_in (List.mem_of_getElem? (i := 645) (by decide +kernel)) rfl), (xt_in (List.mem_of_getElem? (i := 646) (by decide +kernel)) rfl)⟩
theorem mlX6_223 : xlV RX6 223 MX5_copyFrom := ⟨(xt_in (List.mem_of_getElem? (i := 653) (by decide +kernel)) rfl), (xt_in (List.mem_of_getElem? (i := 229) (by decide +kernel)) rfl), (xt_in (List.mem_of_getElem? (i := 230) (by decide +kernel)) rfl)⟩
theorem mlX6_226 : xlV RX6 226 MX6_planNextLeaver := ⟨(xt_in (List.mem_of_getElem? (i := 654) (by decide +kernel)) rfl), (xt_in (List.mem_of_getElem? (i := 656) (by decide +kernel)) rfl), (xt_in (List.mem_of_getElem? (i := 14) (by decide +kernel)) rfl)⟩
theorem mlX6_230 : xlV RX6 230 MX5_safeNumber := ⟨(xt_in (List.mem_of_getElem? (i := 662) (by decide +kernel)) rfl), (xt_in (List.mem_of_getElem? (i := 663) (by decide +kernel)) rfl), (xt_in (List.mem_of_getElem? (i := 664) (by decide +kernel)) rfl)⟩
theorem mlX6_233 : xlV RX6 233 MX2_allStored := ⟨(xt_in (List.mem_of_getElem? (i := 666) (by decide +kernel)) rfl), (xt_in (List.mem_of_getElem? (i := 667) (by decide +kernel)) rfl), (xt_in (List.mem_of_getElem? (i := 668) (by decide +kernel)) rfl)⟩
theorem mlX6_236 : xlV RX6 236 MX2_allSpoiled := ⟨(xt_in (List.mem_of_getElem? (i := 671) (by decide +kernel)) rfl), (xt_in (List.mem_of_getElem? (i := 672) (by decide +kernel)) rfl), (xt_in (List.mem_of_getElem? (i := 673) (by decide +kernel)) rfl)⟩
theorem mlX6_239 : xlV RX6 239 MX4_onlineFreeSpace := ⟨(xt_in (List.mem_of_getElem? (i := 683) (by decide +kernel)) rfl), (xt_in (List.mem_of_getElem? (i := 684) (by decide +kernel)) rfl), (xt_in (List.mem_of_getElem? (i := 685) (by decide +kernel)) rfl)⟩
theorem mlX6_242 : xlV RX6 242 MX4_sumOfDebts := ⟨(xt_in (List.mem_of_getElem? (i := 688) (by decide +kernel)) rfl), (xt_in (List.mem_of_getElem? (i := 689) (by decide +kernel)) rfl), (xt_in (List.mem_of_getElem? (i := 690) (by decide +kernel)) rfl)⟩
theorem mlX6_245 : Cond.methodLink RX6 245 arraycopyName ∈ xt := (xt_in (List.mem_of_getElem? (i := 242) (by decide +kernel)) rfl)
theorem mlX7_1 : Cond.methodLink RX7 1 Lib.objectInit ∈ xt := (xt_in (List.mem_of_getElem? (i := 700) (by decide +kernel)) rfl)
theorem mlX7_25 : xlS RX7 25 MX7_in := ⟨(xt_in (List.mem_of_getElem? (i := 724) (by decide +kernel)) rfl), (xt_in (List.mem_of_getElem? (i := 725) (by decide +kernel)) rfl)⟩
theorem mlX7_29 : xlV RX7 29 MX7_of := ⟨(xt_in (List.mem_of_getElem? (i := 747) (by decide +kernel)) rfl), (xt_in (List.mem_of_getElem? (i := 749) (by decide +kernel)) rfl), (xt_in (List.mem_of_getElem? (i := 19) (by decide +kernel)) rfl)⟩
theorem mlX7_33 : xlS RX7 33 MX7_at := ⟨(xt_in (List.mem_of_getElem? (i := 751) (by decide +kernel)) rfl), (xt_in (List.mem_of_getElem? (i := 752) (by decide +kernel)) rfl)⟩
theorem mlX7_40 : xlS RX7 40 MX7_balanceAt := ⟨(xt_in (List.mem_of_getElem? (i := 782) (by decide +kernel)) rfl), (xt_in (List.mem_of_getElem? (i := 783) (by decide +kernel)) rfl)⟩
theorem mlX7_43 : xlV RX7 43 MX7_isFile := ⟨(xt_in (List.mem_of_getElem? (i := 743) (by decide +kernel)) rfl), (xt_in (List.mem_of_getElem? (i := 745) (by decide +kernel)) rfl), (xt_in (List.mem_of_getElem? (i := 18) (by decide +kernel)) rfl)⟩
theorem mlX7_47 : xlV RX7 47 MX7_fragments := ⟨(xt_in (List.mem_of_getElem? (i := 762) (by decide +kernel)) rfl), (xt_in (List.mem_of_getElem? (i := 764) (by decide +kernel)) rfl), (xt_in (List.mem_of_getElem? (i := 22) (by decide +kernel)) rfl)⟩
theorem mlX7_51 : xlV RX7 51 MX7_isOnline := ⟨(xt_in (List.mem_of_getElem? (i := 754) (by decide +kernel)) rfl), (xt_in (List.mem_of_getElem? (i := 756) (by decide +kernel)) rfl), (xt_in (List.mem_of_getElem? (i := 20) (by decide +kernel)) rfl)⟩
theorem mlX7_54 : xlV RX7 54 MX7_isGood := ⟨(xt_in (List.mem_of_getElem? (i := 841) (by decide +kernel)) rfl), (xt_in (List.mem_of_getElem? (i := 843) (by decide +kernel)) rfl), (xt_in (List.mem_of_getElem? (i := 32) (by decide +kernel)) rfl)⟩
theorem mlX7_58 : xlV RX7 58 MX7_good := ⟨(xt_in (List.mem_of_getElem? (i := 837) (by decide +kernel)) rfl), (xt_in (List.mem_of_getElem? (i := 839) (by decide +kernel)) rfl), (xt_in (List.mem_of_getElem? (i := 31) (by decide +kernel)) rfl)⟩
theorem mlX7_61 : xlS RX7 61 MX7_power := ⟨(xt_in (List.mem_of_getElem? (i := 865) (by decide +kernel)) rfl), (xt_in (List.mem_of_getElem? (i := 866) (by decide +kernel)) rfl)⟩
theorem mlX7_64 : xlV RX7 64 MX7_correct := ⟨(xt_in (List.mem_of_getElem? (i := 861) (by decide +kernel)) rfl), (xt_in (List.mem_of_getElem? (i := 863) (by decide +kernel)) rfl), (xt_in (List.mem_of_getElem? (i := 36) (by decide +kernel)) rfl)⟩
theorem mlX7_67 : xlV RX7 67 MX7_isPeer := ⟨(xt_in (List.mem_of_getElem? (i := 727) (by decide +kernel)) rfl), (xt_in (List.mem_of_getElem? (i := 729) (by decide +kernel)) rfl), (xt_in (List.mem_of_getElem? (i := 15) (by decide +kernel)) rfl)⟩
theorem mlX7_70 : xlV RX7 70 MX7_free := ⟨(xt_in (List.mem_of_getElem? (i := 770) (by decide +kernel)) rfl), (xt_in (List.mem_of_getElem? (i := 772) (by decide +kernel)) rfl), (xt_in (List.mem_of_getElem? (i := 24) (by decide +kernel)) rfl)⟩
theorem mlX7_73 : xlV RX7 73 MX7_stores := ⟨(xt_in (List.mem_of_getElem? (i := 774) (by decide +kernel)) rfl), (xt_in (List.mem_of_getElem? (i := 776) (by decide +kernel)) rfl), (xt_in (List.mem_of_getElem? (i := 25) (by decide +kernel)) rfl)⟩
theorem mlX7_76 : xlV RX7 76 MX7_owes := ⟨(xt_in (List.mem_of_getElem? (i := 778) (by decide +kernel)) rfl), (xt_in (List.mem_of_getElem? (i := 780) (by decide +kernel)) rfl), (xt_in (List.mem_of_getElem? (i := 26) (by decide +kernel)) rfl)⟩
theorem mlX7_80 : xlV RX7 80 MX7_keeps := ⟨(xt_in (List.mem_of_getElem? (i := 731) (by decide +kernel)) rfl), (xt_in (List.mem_of_getElem? (i := 733) (by decide +kernel)) rfl), (xt_in (List.mem_of_getElem? (i := 16) (by decide +kernel)) rfl)⟩
theorem mlX7_83 : xlV RX7 83 MX7_places := ⟨(xt_in (List.mem_of_getElem? (i := 766) (by decide +kernel)) rfl), (xt_in (List.mem_of_getElem? (i := 768) (by decide +kernel)) rfl), (xt_in (List.mem_of_getElem? (i := 23) (by decide +kernel)) rfl)⟩
theorem mlX7_86 : xlV RX7 86 MX7_goes := ⟨(xt_in (List.mem_of_getElem? (i := 785) (by decide +kernel)) rfl), (xt_in (List.mem_of_getElem? (i := 787) (by decide +kernel)) rfl), (xt_in (List.mem_of_getElem? (i := 27) (by decide +kernel)) rfl)⟩
theorem mlX7_90 : xlV RX7 90 MX7_owned := ⟨(xt_in (List.mem_of_getElem? (i := 739) (by decide +kernel)) rfl), (xt_in (List.mem_of_getElem? (i := 741) (by decide +kernel)) rfl), (xt_in (List.mem_of_getElem? (i := 17) (by decide +kernel)) rfl)⟩
theorem mlX7_93 : xlV RX7 93 MX7_leaves := ⟨(xt_in (List.mem_of_getElem? (i := 758) (by decide +kernel)) rfl), (xt_in (List.mem_of_getElem? (i := 760) (by decide +kernel)) rfl), (xt_in (List.mem_of_getElem? (i := 21) (by decide +kernel)) rfl)⟩
theorem mlX7_96 : xlV RX7 96 MX7_deletes := ⟨(xt_in (List.mem_of_getElem? (i := 793) (by decide +kernel)) rfl), (xt_in (List.mem_of_getElem? (i := 795) (by decide +kernel)) rfl), (xt_in (List.mem_of_getElem? (i := 28) (by decide +kernel)) rfl)⟩
theorem mlX7_99 : xlV RX7 99 MX7_files := ⟨(xt_in (List.mem_of_getElem? (i := 821) (by decide +kernel)) rfl), (xt_in (List.mem_of_getElem? (i := 823) (by decide +kernel)) rfl), (xt_in (List.mem_of_getElem? (i := 29) (by decide +kernel)) rfl)⟩
theorem mlX7_103 : xlV RX7 103 MX7_storedOf := ⟨(xt_in (List.mem_of_getElem? (i := 833) (by decide +kernel)) rfl), (xt_in (List.mem_of_getElem? (i := 835) (by decide +kernel)) rfl), (xt_in (List.mem_of_getElem? (i := 30) (by decide +kernel)) rfl)⟩
theorem mlX7_106 : xlV RX7 106 MX7_isSafe := ⟨(xt_in (List.mem_of_getElem? (i := 845) (by decide +kernel)) rfl), (xt_in (List.mem_of_getElem? (i := 847) (by decide +kernel)) rfl), (xt_in (List.mem_of_getElem? (i := 33) (by decide +kernel)) rfl)⟩
theorem mlX7_109 : xlV RX7 109 MX7_isFragment := ⟨(xt_in (List.mem_of_getElem? (i := 853) (by decide +kernel)) rfl), (xt_in (List.mem_of_getElem? (i := 855) (by decide +kernel)) rfl), (xt_in (List.mem_of_getElem? (i := 34) (by decide +kernel)) rfl)⟩
theorem mlX7_112 : xlV RX7 112 MX7_valueOf := ⟨(xt_in (List.mem_of_getElem? (i := 857) (by decide +kernel)) rfl), (xt_in (List.mem_of_getElem? (i := 859) (by decide +kernel)) rfl), (xt_in (List.mem_of_getElem? (i := 35) (by decide +kernel)) rfl)⟩
theorem mlX7_115 : xlV RX7 115 MX7_solves := ⟨(xt_in (List.mem_of_getElem? (i := 876) (by decide +kernel)) rfl), (xt_in (List.mem_of_getElem? (i := 878) (by decide +kernel)) rfl), (xt_in (List.mem_of_getElem? (i := 37) (by decide +kernel)) rfl)⟩
theorem mlX7_118 : xlV RX7 118 MX7_arePeers := ⟨(xt_in (List.mem_of_getElem? (i := 888) (by decide +kernel)) rfl), (xt_in (List.mem_of_getElem? (i := 890) (by decide +kernel)) rfl), (xt_in (List.mem_of_getElem? (i := 38) (by decide +kernel)) rfl)⟩
theorem mlX7_121 : xlV RX7 121 MX7_off := ⟨(xt_in (List.mem_of_getElem? (i := 892) (by decide +kernel)) rfl), (xt_in (List.mem_of_getElem? (i := 894) (by decide +kernel)) rfl), (xt_in (List.mem_of_getElem? (i := 39) (by decide +kernel)) rfl)⟩
theorem mlX7_125 : xlV RX7 125 MX7_sources := ⟨(xt_in (List.mem_of_getElem? (i := 908) (by decide +kernel)) rfl), (xt_in (List.mem_of_getElem? (i := 910) (by decide +kernel)) rfl), (xt_in (List.mem_of_getElem? (i := 41) (by decide +kernel)) rfl)⟩
theorem mlX7_128 : xlV RX7 128 MX7_repairs := ⟨(xt_in (List.mem_of_getElem? (i := 904) (by decide +kernel)) rfl), (xt_in (List.mem_of_getElem? (i := 906) (by decide +kernel)) rfl), (xt_in (List.mem_of_getElem? (i := 40) (by decide +kernel)) rfl)⟩
theorem mlX7_131 : xlV RX7 131 MX7_peerSet := ⟨(xt_in (List.mem_of_getElem? (i := 924) (by decide +kernel)) rfl), (xt_in (List.mem_of_getElem? (i := 926) (by decide +kernel)) rfl), (xt_in (List.mem_of_getElem? (i := 42) (by decide +kernel)) rfl)⟩
theorem mlX7_134 : xlS RX7 134 MX7_count1 := ⟨(xt_in (List.mem_of_getElem? (i := 928) (by decide +kernel)) rfl), (xt_in (List.mem_of_getElem? (i := 929) (by decide +kernel)) rfl)⟩
theorem mlX7_137 : xlV RX7 137 MX7_isHurt := ⟨(xt_in (List.mem_of_getElem? (i := 935) (by decide +kernel)) rfl), (xt_in (List.mem_of_getElem? (i := 937) (by decide +kernel)) rfl), (xt_in (List.mem_of_getElem? (i := 44) (by decide +kernel)) rfl)⟩
theorem mlX7_140 : xlV RX7 140 MX7_isBorne := ⟨(xt_in (List.mem_of_getElem? (i := 931) (by decide +kernel)) rfl), (xt_in (List.mem_of_getElem? (i := 933) (by decide +kernel)) rfl), (xt_in (List.mem_of_getElem? (i := 43) (by decide +kernel)) rfl)⟩
theorem mlX7_143 : xlS RX7 143 MX7_puts := ⟨(xt_in (List.mem_of_getElem? (i := 947) (by decide +kernel)) rfl), (xt_in (List.mem_of_getElem? (i := 948) (by decide +kernel)) rfl)⟩
theorem mlX7_147 : xlV RX7 147 MX7_canGo := ⟨(xt_in (List.mem_of_getElem? (i := 950) (by decide +kernel)) rfl), (xt_in (List.mem_of_getElem? (i := 952) (by decide +kernel)) rfl), (xt_in (List.mem_of_getElem? (i := 45) (by decide +kernel)) rfl)⟩
theorem mlL_9 : xlI RL 9 MX6_init := ⟨(xt_in (List.mem_of_getElem? (i := 61) (by decide +kernel)) rfl), (xt_in (List.mem_of_getElem? (i := 62) (by decide +kernel)) rfl), by decide +kernel, rfl⟩
theorem mlL_12 : xlI RL 12 MX7_init := ⟨(xt_in (List.mem_of_getElem? (i := 697) (by decide +kernel)) rfl), (xt_in (List.mem_of_getElem? (i := 698) (by decide +kernel)) rfl), by decide +kernel, rfl⟩
theorem mlL_13 : xlV RL 13 MX6_join := ⟨(xt_in (List.mem_of_getElem? (i := 208) (by decide +kernel)) rfl), (xt_in (List.mem_of_getElem? (i := 209) (by decide +kernel)) rfl), (xt_in (List.mem_of_getElem? (i := 210) (by decide +kernel)) rfl)⟩
theorem mlL_17 : xlV RL 17 MX7_join := ⟨(xt_in (List.mem_of_getElem? (i := 720) (by decide +kernel)) rfl), (xt_in (List.mem_of_getElem? (i := 721) (by decide +kernel)) rfl), (xt_in (List.mem_of_getElem? (i := 722) (by decide +kernel)) rfl)⟩
theorem mlL_18 : xlV RL 18 MX6_leave := ⟨(xt_in (List.mem_of_getElem? (i := 255) (by decide +kernel)) rfl), (xt_in (List.mem_of_getElem? (i := 256) (by decide +kernel)) rfl), (xt_in (List.mem_of_getElem? (i := 257) (by decide +kernel)) rfl)⟩
theorem mlL_21 : xlV RL 21 MX7_leave := ⟨(xt_in (List.mem_of_getElem? (i := 735) (by decide +kernel)) rfl), (xt_in (List.mem_of_getElem? (i := 736) (by decide +kernel)) rfl), (xt_in (List.mem_of_getElem? (i := 737) (by decide +kernel)) rfl)⟩
theorem mlL_22 : xlV RL 22 MX6_crash := ⟨(xt_in (List.mem_of_getElem? (i := 341) (by decide +kernel)) rfl), (xt_in (List.mem_of_getElem? (i := 342) (by decide +kernel)) rfl), (xt_in (List.mem_of_getElem? (i := 343) (by decide +kernel)) rfl)⟩
theorem mlL_25 : xlV RL 25 MX7_crash := ⟨(xt_in (List.mem_of_getElem? (i := 789) (by decide +kernel)) rfl), (xt_in (List.mem_of_getElem? (i := 790) (by decide +kernel)) rfl), (xt_in (List.mem_of_getElem? (i := 791) (by decide +kernel)) rfl)⟩
theorem mlL_26 : xlV RL 26 MX6_setOnline := ⟨(xt_in (List.mem_of_getElem? (i := 361) (by decide +kernel)) rfl), (xt_in (List.mem_of_getElem? (i := 362) (by decide +kernel)) rfl), (xt_in (List.mem_of_getElem? (i := 363) (by decide +kernel)) rfl)⟩
theorem mlL_30 : xlV RL 30 MX7_setOnline := ⟨(xt_in (List.mem_of_getElem? (i := 797) (by decide +kernel)) rfl), (xt_in (List.mem_of_getElem? (i := 798) (by decide +kernel)) rfl), (xt_in (List.mem_of_getElem? (i := 799) (by decide +kernel)) rfl)⟩
theorem mlL_31 : xlV RL 31 MX6_pay := ⟨(xt_in (List.mem_of_getElem? (i := 365) (by decide +kernel)) rfl), (xt_in (List.mem_of_getElem? (i := 366) (by decide +kernel)) rfl), (xt_in (List.mem_of_getElem? (i := 367) (by decide +kernel)) rfl)⟩
theorem mlL_35 : xlV RL 35 MX7_pay := ⟨(xt_in (List.mem_of_getElem? (i := 801) (by decide +kernel)) rfl), (xt_in (List.mem_of_getElem? (i := 802) (by decide +kernel)) rfl), (xt_in (List.mem_of_getElem? (i := 803) (by decide +kernel)) rfl)⟩
theorem mlL_36 : xlV RL 36 MX6_peerInfo := ⟨(xt_in (List.mem_of_getElem? (i := 379) (by decide +kernel)) rfl), (xt_in (List.mem_of_getElem? (i := 380) (by decide +kernel)) rfl), (xt_in (List.mem_of_getElem? (i := 381) (by decide +kernel)) rfl)⟩
theorem mlL_39 : xlV RL 39 MX7_peerInfo := ⟨(xt_in (List.mem_of_getElem? (i := 805) (by decide +kernel)) rfl), (xt_in (List.mem_of_getElem? (i := 806) (by decide +kernel)) rfl), (xt_in (List.mem_of_getElem? (i := 807) (by decide +kernel)) rfl)⟩
theorem mlL_40 : xlV RL 40 MX6_balance := ⟨(xt_in (List.mem_of_getElem? (i := 390) (by decide +kernel)) rfl), (xt_in (List.mem_of_getElem? (i := 391) (by decide +kernel)) rfl), (xt_in (List.mem_of_getElem? (i := 392) (by decide +kernel)) rfl)⟩
theorem mlL_43 : xlV RL 43 MX7_balance := ⟨(xt_in (List.mem_of_getElem? (i := 809) (by decide +kernel)) rfl), (xt_in (List.mem_of_getElem? (i := 810) (by decide +kernel)) rfl), (xt_in (List.mem_of_getElem? (i := 811) (by decide +kernel)) rfl)⟩
theorem mlL_44 : xlV RL 44 MX6_word := ⟨(xt_in (List.mem_of_getElem? (i := 394) (by decide +kernel)) rfl), (xt_in (List.mem_of_getElem? (i := 395) (by decide +kernel)) rfl), (xt_in (List.mem_of_getElem? (i := 396) (by decide +kernel)) rfl)⟩
theorem mlL_47 : xlV RL 47 MX7_word := ⟨(xt_in (List.mem_of_getElem? (i := 813) (by decide +kernel)) rfl), (xt_in (List.mem_of_getElem? (i := 814) (by decide +kernel)) rfl), (xt_in (List.mem_of_getElem? (i := 815) (by decide +kernel)) rfl)⟩
theorem mlL_48 : xlV RL 48 MX6_store := ⟨(xt_in (List.mem_of_getElem? (i := 402) (by decide +kernel)) rfl), (xt_in (List.mem_of_getElem? (i := 403) (by decide +kernel)) rfl), (xt_in (List.mem_of_getElem? (i := 404) (by decide +kernel)) rfl)⟩
theorem mlL_51 : xlV RL 51 MX7_store := ⟨(xt_in (List.mem_of_getElem? (i := 817) (by decide +kernel)) rfl), (xt_in (List.mem_of_getElem? (i := 818) (by decide +kernel)) rfl), (xt_in (List.mem_of_getElem? (i := 819) (by decide +kernel)) rfl)⟩
theorem mlL_52 : xlV RL 52 MX6_delete := ⟨(xt_in (List.mem_of_getElem? (i := 426) (by decide +kernel)) rfl), (xt_in (List.mem_of_getElem? (i := 427) (by decide +kernel)) rfl), (xt_in (List.mem_of_getElem? (i := 428) (by decide +kernel)) rfl)⟩
theorem mlL_55 : xlV RL 55 MX7_delete := ⟨(xt_in (List.mem_of_getElem? (i := 825) (by decide +kernel)) rfl), (xt_in (List.mem_of_getElem? (i := 826) (by decide +kernel)) rfl), (xt_in (List.mem_of_getElem? (i := 827) (by decide +kernel)) rfl)⟩
theorem mlL_56 : xlV RL 56 MX6_fileInfo := ⟨(xt_in (List.mem_of_getElem? (i := 436) (by decide +kernel)) rfl), (xt_in (List.mem_of_getElem? (i := 437) (by decide +kernel)) rfl), (xt_in (List.mem_of_getElem? (i := 438) (by decide +kernel)) rfl)⟩
theorem mlL_59 : xlV RL 59 MX7_fileInfo := ⟨(xt_in (List.mem_of_getElem? (i := 829) (by decide +kernel)) rfl), (xt_in (List.mem_of_getElem? (i := 830) (by decide +kernel)) rfl), (xt_in (List.mem_of_getElem? (i := 831) (by decide +kernel)) rfl)⟩
theorem mlL_60 : xlV RL 60 MX6_fragment := ⟨(xt_in (List.mem_of_getElem? (i := 473) (by decide +kernel)) rfl), (xt_in (List.mem_of_getElem? (i := 474) (by decide +kernel)) rfl), (xt_in (List.mem_of_getElem? (i := 475) (by decide +kernel)) rfl)⟩
theorem mlL_63 : xlV RL 63 MX7_fragment := ⟨(xt_in (List.mem_of_getElem? (i := 849) (by decide +kernel)) rfl), (xt_in (List.mem_of_getElem? (i := 850) (by decide +kernel)) rfl), (xt_in (List.mem_of_getElem? (i := 851) (by decide +kernel)) rfl)⟩
theorem mlL_64 : xlV RL 64 MX6_read := ⟨(xt_in (List.mem_of_getElem? (i := 491) (by decide +kernel)) rfl), (xt_in (List.mem_of_getElem? (i := 492) (by decide +kernel)) rfl), (xt_in (List.mem_of_getElem? (i := 493) (by decide +kernel)) rfl)⟩
theorem mlL_67 : xlV RL 67 MX7_read := ⟨(xt_in (List.mem_of_getElem? (i := 868) (by decide +kernel)) rfl), (xt_in (List.mem_of_getElem? (i := 869) (by decide +kernel)) rfl), (xt_in (List.mem_of_getElem? (i := 870) (by decide +kernel)) rfl)⟩
theorem mlL_68 : xlV RL 68 MX6_decode := ⟨(xt_in (List.mem_of_getElem? (i := 502) (by decide +kernel)) rfl), (xt_in (List.mem_of_getElem? (i := 503) (by decide +kernel)) rfl), (xt_in (List.mem_of_getElem? (i := 504) (by decide +kernel)) rfl)⟩
theorem mlL_71 : xlV RL 71 MX7_decode := ⟨(xt_in (List.mem_of_getElem? (i := 872) (by decide +kernel)) rfl), (xt_in (List.mem_of_getElem? (i := 873) (by decide +kernel)) rfl), (xt_in (List.mem_of_getElem? (i := 874) (by decide +kernel)) rfl)⟩
theorem mlL_72 : xlV RL 72 MX6_spoil := ⟨(xt_in (List.mem_of_getElem? (i := 551) (by decide +kernel)) rfl), (xt_in (List.mem_of_getElem? (i := 552) (by decide +kernel)) rfl), (xt_in (List.mem_of_getElem? (i := 553) (by decide +kernel)) rfl)⟩
theorem mlL_75 : xlV RL 75 MX7_spoil := ⟨(xt_in (List.mem_of_getElem? (i := 880) (by decide +kernel)) rfl), (xt_in (List.mem_of_getElem? (i := 881) (by decide +kernel)) rfl), (xt_in (List.mem_of_getElem? (i := 882) (by decide +kernel)) rfl)⟩
theorem mlL_76 : xlV RL 76 MX6_audit := ⟨(xt_in (List.mem_of_getElem? (i := 560) (by decide +kernel)) rfl), (xt_in (List.mem_of_getElem? (i := 561) (by decide +kernel)) rfl), (xt_in (List.mem_of_getElem? (i := 562) (by decide +kernel)) rfl)⟩
theorem mlL_79 : xlV RL 79 MX7_audit := ⟨(xt_in (List.mem_of_getElem? (i := 884) (by decide +kernel)) rfl), (xt_in (List.mem_of_getElem? (i := 885) (by decide +kernel)) rfl), (xt_in (List.mem_of_getElem? (i := 886) (by decide +kernel)) rfl)⟩
theorem mlL_80 : xlV RL 80 MX6_passingSeeds := ⟨(xt_in (List.mem_of_getElem? (i := 589) (by decide +kernel)) rfl), (xt_in (List.mem_of_getElem? (i := 590) (by decide +kernel)) rfl), (xt_in (List.mem_of_getElem? (i := 591) (by decide +kernel)) rfl)⟩
theorem mlL_83 : xlV RL 83 MX7_passingSeeds := ⟨(xt_in (List.mem_of_getElem? (i := 896) (by decide +kernel)) rfl), (xt_in (List.mem_of_getElem? (i := 897) (by decide +kernel)) rfl), (xt_in (List.mem_of_getElem? (i := 898) (by decide +kernel)) rfl)⟩
theorem mlL_84 : xlV RL 84 MX6_repair := ⟨(xt_in (List.mem_of_getElem? (i := 593) (by decide +kernel)) rfl), (xt_in (List.mem_of_getElem? (i := 594) (by decide +kernel)) rfl), (xt_in (List.mem_of_getElem? (i := 595) (by decide +kernel)) rfl)⟩
theorem mlL_87 : xlV RL 87 MX7_repair := ⟨(xt_in (List.mem_of_getElem? (i := 900) (by decide +kernel)) rfl), (xt_in (List.mem_of_getElem? (i := 901) (by decide +kernel)) rfl), (xt_in (List.mem_of_getElem? (i := 902) (by decide +kernel)) rfl)⟩
theorem mlL_88 : xlV RL 88 MX6_repairAll := ⟨(xt_in (List.mem_of_getElem? (i := 609) (by decide +kernel)) rfl), (xt_in (List.mem_of_getElem? (i := 610) (by decide +kernel)) rfl), (xt_in (List.mem_of_getElem? (i := 611) (by decide +kernel)) rfl)⟩
theorem mlL_91 : xlV RL 91 MX7_repairAll := ⟨(xt_in (List.mem_of_getElem? (i := 912) (by decide +kernel)) rfl), (xt_in (List.mem_of_getElem? (i := 913) (by decide +kernel)) rfl), (xt_in (List.mem_of_getElem? (i := 914) (by decide +kernel)) rfl)⟩
theorem mlL_92 : xlV RL 92 MX6_undo := ⟨(xt_in (List.mem_of_getElem? (i := 613) (by decide +kernel)) rfl), (xt_in (List.mem_of_getElem? (i := 614) (by decide +kernel)) rfl), (xt_in (List.mem_of_getElem? (i := 615) (by decide +kernel)) rfl)⟩
theorem mlL_96 : xlV RL 96 MX7_undo := ⟨(xt_in (List.mem_of_getElem? (i := 916) (by decide +kernel)) rfl), (xt_in (List.mem_of_getElem? (i := 917) (by decide +kernel)) rfl), (xt_in (List.mem_of_getElem? (i := 918) (by decide +kernel)) rfl)⟩
theorem mlL_97 : xlV RL 97 MX6_tolerance := ⟨(xt_in (List.mem_of_getElem? (i := 621) (by decide +kernel)) rfl), (xt_in (List.mem_of_getElem? (i := 622) (by decide +kernel)) rfl), (xt_in (List.mem_of_getElem? (i := 623) (by decide +kernel)) rfl)⟩
theorem mlL_100 : xlV RL 100 MX7_tolerance := ⟨(xt_in (List.mem_of_getElem? (i := 920) (by decide +kernel)) rfl), (xt_in (List.mem_of_getElem? (i := 921) (by decide +kernel)) rfl), (xt_in (List.mem_of_getElem? (i := 922) (by decide +kernel)) rfl)⟩
theorem mlL_101 : xlV RL 101 MX6_endangered := ⟨(xt_in (List.mem_of_getElem? (i := 640) (by decide +kernel)) rfl), (xt_in (List.mem_of_getElem? (i := 641) (by decide +kernel)) rfl), (xt_in (List.mem_of_getElem? (i := 642) (by decide +kernel)) rfl)⟩
theorem mlL_104 : xlV RL 104 MX7_endangered := ⟨(xt_in (List.mem_of_getElem? (i := 939) (by decide +kernel)) rfl), (xt_in (List.mem_of_getElem? (i := 940) (by decide +kernel)) rfl), (xt_in (List.mem_of_getElem? (i := 941) (by decide +kernel)) rfl)⟩
theorem mlL_105 : xlV RL 105 MX6_leavers := ⟨(xt_in (List.mem_of_getElem? (i := 649) (by decide +kernel)) rfl), (xt_in (List.mem_of_getElem? (i := 650) (by decide +kernel)) rfl), (xt_in (List.mem_of_getElem? (i := 651) (by decide +kernel)) rfl)⟩
theorem mlL_108 : xlV RL 108 MX7_leavers := ⟨(xt_in (List.mem_of_getElem? (i := 943) (by decide +kernel)) rfl), (xt_in (List.mem_of_getElem? (i := 944) (by decide +kernel)) rfl), (xt_in (List.mem_of_getElem? (i := 945) (by decide +kernel)) rfl)⟩
theorem mlL_109 : xlV RL 109 MX6_count := ⟨(xt_in (List.mem_of_getElem? (i := 658) (by decide +kernel)) rfl), (xt_in (List.mem_of_getElem? (i := 659) (by decide +kernel)) rfl), (xt_in (List.mem_of_getElem? (i := 660) (by decide +kernel)) rfl)⟩
theorem mlL_112 : xlV RL 112 MX7_count := ⟨(xt_in (List.mem_of_getElem? (i := 954) (by decide +kernel)) rfl), (xt_in (List.mem_of_getElem? (i := 955) (by decide +kernel)) rfl), (xt_in (List.mem_of_getElem? (i := 956) (by decide +kernel)) rfl)⟩
theorem clL_7 : Cond.classLink RL 7 "PeerStorage" ∈ xt := (xt_in (List.mem_of_getElem? (i := 59) (by decide +kernel)) rfl)
theorem clX6_9 : Cond.classLink RX6 9 "PeerStorage$State" ∈ xt := (xt_in (List.mem_of_getElem? (i := 67) (by decide +kernel)) rfl)
theorem clX5_9 : Cond.classLink RX5 9 "PeerStorage$Peers" ∈ xt := (xt_in (List.mem_of_getElem? (i := 73) (by decide +kernel)) rfl)
theorem clX5_18 : Cond.classLink RX5 18 "PeerStorage$Files" ∈ xt := (xt_in (List.mem_of_getElem? (i := 99) (by decide +kernel)) rfl)
theorem clX6_16 : Cond.classLink RX6 16 "PeerStorage$History" ∈ xt := (xt_in (List.mem_of_getElem? (i := 145) (by decide +kernel)) rfl)
theorem clX3_9 : Cond.classLink RX3 9 "PeerStorage$State" ∈ xt := (xt_in (List.mem_of_getElem? (i := 151) (by decide +kernel)) rfl)
theorem clX6_23 : Cond.classLink RX6 23 "PeerStorage$Challenge" ∈ xt := (xt_in (List.mem_of_getElem? (i := 162) (by decide +kernel)) rfl)
theorem clX6_30 : Cond.classLink RX6 30 "PeerStorage$Decoder" ∈ xt := (xt_in (List.mem_of_getElem? (i := 176) (by decide +kernel)) rfl)
theorem clL_10 : Cond.classLink RL 10 "PeerStorageModel" ∈ xt := (xt_in (List.mem_of_getElem? (i := 695) (by decide +kernel)) rfl)
theorem w_oi1 : Cond.instanceMethod Lib.objectInit ∈ xt := (xt_in (List.mem_of_getElem? (i := 65) (by decide +kernel)) rfl)
theorem w_oi2 : Cond.code Lib.objectInit ⟨#[0xb1]⟩ 1 none ∈ xt := (xt_in (List.mem_of_getElem? (i := 66) (by decide +kernel)) rfl)
theorem w_max1 : Cond.static Lib.Math.max.name ∈ xt := (xt_in (List.mem_of_getElem? (i := 693) (by decide +kernel)) rfl)
theorem w_max3 : Cond.code Lib.Math.max.name Lib.Math.max.code 2 (some .int) ∈ xt := (xt_in (List.mem_of_getElem? (i := 694) (by decide +kernel)) rfl)
theorem w_min1 : Cond.static Lib.Math.min.name ∈ xt := (xt_in (List.mem_of_getElem? (i := 240) (by decide +kernel)) rfl)
theorem w_min3 : Cond.code Lib.Math.min.name Lib.Math.min.code 2 (some .int) ∈ xt := (xt_in (List.mem_of_getElem? (i := 241) (by decide +kernel)) rfl)
theorem w_math : Cond.initialized "java/lang/Math" ∈ xt := (xt_in (List.mem_of_getElem? (i := 56) (by decide +kernel)) rfl)
theorem w_sys : Cond.initialized "java/lang/System" ∈ xt := (xt_in (List.mem_of_getElem? (i := 57) (by decide +kernel)) rfl)
theorem w_cp1 : Cond.native arraycopyName ∈ xt := (xt_in (List.mem_of_getElem? (i := 244) (by decide +kernel)) rfl)
theorem w_cp2 : Cond.static arraycopyName ∈ xt := (xt_in (List.mem_of_getElem? (i := 243) (by decide +kernel)) rfl)
theorem w_ia : Cond.arrayClass .int ∈ xt := (xt_in (List.mem_of_getElem? (i := 98) (by decide +kernel)) rfl)
theorem w_c265 : Cond.constant RJ6 265 (1431655765) ∈ xt := (xt_in (List.mem_of_getElem? (i := 513) (by decide +kernel)) rfl)
theorem w_c266 : Cond.constant RJ6 266 (858993459) ∈ xt := (xt_in (List.mem_of_getElem? (i := 514) (by decide +kernel)) rfl)
theorem w_c267 : Cond.constant RJ6 267 (252645135) ∈ xt := (xt_in (List.mem_of_getElem? (i := 515) (by decide +kernel)) rfl)
end
section
/-! ===== pictures: the rows of a state by their numbers ===== -/
theorem row_ex : ∃ r : Nat → (Nat → Int32) → List Int32, ∀ n f, r n f = (List.range n).map f := ⟨fun n f => (List.range n).map f, fun _ _ => rfl⟩
/-- a row of n numbers (by choice, so that nothing unfolds it) -/
noncomputable def row : Nat → (Nat → Int32) → List Int32 := row_ex.choose
theorem row_def (n : Nat) (f : Nat → Int32) : row n f = (List.range n).map f := row_ex.choose_spec n f
theorem row_len (n : Nat) (f : Nat → Int32) : (row n f).length = n := by simp [row_def]
theorem row_get {n k : Nat} {f : Nat → Int32} (h : k < n) : (row n f).getD k 0 = f k := by
  simp [row_def, List.getD_eq_getElem?_getD, List.getElem?_range, h]
theorem row_congr {n : Nat} {f f' : Nat → Int32} (h : ∀ k, k < n → f k = f' k) : row n f = row n f' := by rw [row_def, row_def]; exact List.map_congr_left (fun k hk => h k (List.mem_range.mp hk))
theorem row_set {n k : Nat} {f : Nat → Int32} {x : Int32} : (row n f).set k x = row n (upd f k x) := by
  apply List.ext_getElem?
  intro i
  simp only [row_def, List.getElem?_set, List.getElem?_map, List.length_map, List.length_range, List.getElem?_range]
  by_cases hi : i < n
  · by_cases hk : k = i
    · subst hk; simp [hi, upd]
    · simp [hi, hk, upd, Ne.symm hk]
  · simp [hi]
    intro h1; omega
theorem row_rep (n : Nat) : List.replicate n (0 : Int32) = row n (fun _ => 0) := by
  apply List.ext_getElem?
  intro i
  simp only [row_def, List.getElem?_map, List.getElem?_range, List.getElem?_replicate]
  by_cases hi : i < n <;> simp [hi]
/-- the state of storage: row t at place k -/
abbrev MS : Type := Nat → Nat → Int32
def us (S : MS) (t k : Nat) (v : Int32) : MS := fun t' => if t' = t then upd (S t) k v else S t'
noncomputable abbrev wP (S : MS) : XW := [.inr (.inr (4, [.ref 1, .ref 2, .ref 3, .ref 4, .ref 5])), .inl (row 12 (S 0)), .inl (row 12 (S 1)), .inl (row 12 (S 2)), .inl (row 12 (S 3)), .inl (row 144 (S 4))]
noncomputable abbrev wF (S : MS) : XW := [.inr (.inr (2, [.ref 1, .ref 2, .ref 3, .ref 4, .ref 5, .ref 6])), .inl (row 8 (S 5)), .inl (row 8 (S 6)), .inl (row 8 (S 7)), .inl (row 80 (S 8)), .inl (row 80 (S 9)), .inl (row 80 (S 10))]
noncomputable abbrev wS (S : MS) : XW := [.inr (.inr (5, [.ref 1, .ref 7, .ref 14, .int (S 12 0)])), .inr (.inr (4, [.ref 2, .ref 3, .ref 4, .ref 5, .ref 6])), .inl (row 12 (S 0)), .inl (row 12 (S 1)), .inl (row 12 (S 2)), .inl (row 12 (S 3)), .inl (row 144 (S 4)),
  .inr (.inr (2, [.ref 8, .ref 9, .ref 10, .ref 11, .ref 12, .ref 13])), .inl (row 8 (S 5)), .inl (row 8 (S 6)), .inl (row 8 (S 7)), .inl (row 80 (S 8)), .inl (row 80 (S 9)), .inl (row 80 (S 10)), .inl (row 6 (S 11))]
/-! numbers -/
abbrev cl (p : Int32) : Nat := p.toNatClampNeg
def b2i (b : Bool) : Int32 := if b then 1 else 0
theorem b2i_t : b2i true = 1 := rfl
theorem b2i_f : b2i false = 0 := rfl
theorem b2i_narrow (b : Bool) : narrow .boolean (.int (b2i b)) = .int (b2i b) := by cases b <;> rfl
theorem b2i_eq0 (b : Bool) : (b2i b = 0) ↔ b = false := by cases b <;> decide
theorem b2i_ne0 (b : Bool) : (¬ b2i b = 0) ↔ b = true := by cases b <;> decide
/-- i is the place k of a row of n -/
def ix (i : Int32) (k n : Nat) : Prop := vp_in i n ∧ cl i = k
theorem toInt_cl {i : Int32} (h : ¬ i < 0) : i.toInt = (cl i : Int) := by
  have : (0 : Int) ≤ i.toInt := by simpa using Int32.le_iff_toInt_le.mp (Int32.not_lt.mp h)
  show i.toInt = ((i.toInt.toNat : Nat) : Int)
  omega
theorem nI_cl {i : Int32} (h : ¬ i < 0) : i = nI (cl i) := by
  apply Int32.toInt_inj.mp
  rw [toInt_cl h, nI_toInt]
  have := Int32.toInt_lt i
  have := toInt_cl h
  omega
theorem vin_iff {i : Int32} {n : Nat} : vp_in i n ↔ ¬ i < 0 ∧ cl i < n := by
  unfold vp_in; constructor
  · intro h; exact ⟨fun z => h (Or.inl z), Nat.not_le.mp fun z => h (Or.inr z)⟩
  · rintro ⟨h1, h2⟩ (h | h)
    · exact h1 h
    · exact absurd h (Nat.not_le.mpr h2)
theorem vin_of {i c : Int32} (n : Nat) (hn : n < 2 ^ 31) (hc : c = nI n) (h0 : ¬ i < 0) (h1 : ¬ c ≤ i) : vp_in i n := by
  subst hc
  rw [vin_iff]
  refine ⟨h0, ?_⟩
  have h2 : ¬ (nI n).toInt ≤ i.toInt := fun z => h1 (Int32.le_iff_toInt_le.mpr z)
  rw [nI_toInt hn, toInt_cl h0] at h2
  omega
theorem vin_lt {i c : Int32} (n : Nat) (hn : n < 2 ^ 31) (hc : c = nI n) (h0 : ¬ i < 0) (h1 : i < c) : vp_in i n := vin_of n hn hc h0 (Int32.not_le.mpr h1)
theorem vin_not0 {i : Int32} {n : Nat} (h : i < 0) : ¬ vp_in i n := fun z => z (Or.inl h)
theorem vin_not1 {i c : Int32} {n : Nat} (hn : n < 2 ^ 31) (hc : c = nI n) (h : c ≤ i) : ¬ vp_in i n := by
  subst hc
  intro z
  rw [vin_iff] at z
  have h2 := Int32.le_iff_toInt_le.mp h
  rw [nI_toInt hn, toInt_cl z.1] at h2
  omega
theorem vin_nI {k n : Nat} (hn : n < 2 ^ 31) : k < n → vp_in (nI k) n := fun h => vp_in_nI h hn
theorem cl_nI {k : Nat} (h : k < 2 ^ 31) : cl (nI k) = k := nI_clamp h
theorem vin_nI_iff {k n : Nat} (hk : k < 2 ^ 31) : vp_in (nI k) n ↔ k < n := by
  rw [vin_iff, cl_nI hk]
  exact ⟨fun h => h.2, fun h => ⟨nI_pos hk, h⟩⟩
theorem ix_of {i : Int32} {n : Nat} (h : vp_in i n) : ix i (cl i) n := ⟨h, rfl⟩
theorem ix_nI {k n : Nat} (h : k < n) (hn : n < 2 ^ 31) : ix (nI k) k n := ⟨vp_in_nI h hn, nI_clamp (by omega)⟩
theorem ix_2 {i j : Int32} (a b m : Nat) {c : Int32} (hc : c = nI b) (hm : m = a * b) (hlt : m < 2 ^ 31) (hi : vp_in i a) (hj : vp_in j b) : ix (i * c + j) (b * cl i + cl j) m := by
  obtain ⟨i0, i1⟩ := vin_iff.mp hi
  obtain ⟨j0, j1⟩ := vin_iff.mp hj
  subst hc; subst hm
  have h1 : b * cl i + cl j < a * b := by
    have : b * cl i + b ≤ b * a := by rw [← Nat.mul_succ]; exact Nat.mul_le_mul_left b i1
    rw [Nat.mul_comm a b]; omega
  have e1 : i * nI b + j = nI (b * cl i + cl j) := by
    conv => lhs; rw [nI_cl i0, nI_cl j0, pk_mul, nI_add, Nat.mul_comm]
  rw [e1]
  exact ix_nI h1 hlt
section XPIC
variable {l : Launch} {g : XG} {M : XM} {Q : Option Value → XW → Prop} {pc : Nat} {lv : List (Option Value)} {st : List Value} {w : XW} {kc ks : Nat}
theorem x_iar {a n k : Nat} {f : Nat → Int32} {i : Int32} (hd : decode M.2.1 pc = .ok (.iaload, 1)) (hw : w[a]? = some (.inl (row n f))) (hi : ix i k n) (h : XA l g M Q (pc + 1) lv (.int (f k) :: st) w kc ks) : XA l g M Q pc lv (.int i :: .ref a :: st) w kc ks := by
  obtain ⟨h1, rfl⟩ := hi
  refine x_iald hd hw (by rw [row_len]; exact h1) ?_
  rw [row_get (vin_iff.mp h1).2]
  exact h
theorem x_iaw {a n k : Nat} {f : Nat → Int32} {i x : Int32} (hd : decode M.2.1 pc = .ok (.iastore, 1)) (hw : w[a]? = some (.inl (row n f))) (hi : ix i k n) (h : XA l g M Q (pc + 1) lv st (w.set a (.inl (row n (upd f k x)))) kc ks) : XA l g M Q pc lv (.int x :: .int i :: .ref a :: st) w kc ks := by
  obtain ⟨h1, rfl⟩ := hi
  refine x_iast hd hw (by rw [row_len]; exact h1) ?_
  rw [row_set]
  exact h
theorem x_if_eq_t {x : Int32} {off : Int} {tgt : Nat} (hd : decode M.2.1 pc = .ok (.ifCond .eq off, 3)) (ht : (pc : Int) + off = (tgt : Int)) (hc : x = 0) (kt : XA l g M Q tgt lv st w kc ks) : XA l g M Q pc lv (.int x :: st) w kc ks := x_if_eq hd ht (fun _ => kt) (fun z => absurd hc (z))
theorem x_if_eq_f {x : Int32} {off : Int} (hd : decode M.2.1 pc = .ok (.ifCond .eq off, 3)) {tgt : Nat} (ht : (pc : Int) + off = (tgt : Int)) (hc : ¬ x = 0) (kf : XA l g M Q (pc + 3) lv st w kc ks) : XA l g M Q pc lv (.int x :: st) w kc ks := x_if_eq hd ht (fun z => absurd z hc) (fun _ => kf)
theorem x_if_ne_t {x : Int32} {off : Int} {tgt : Nat} (hd : decode M.2.1 pc = .ok (.ifCond .ne off, 3)) (ht : (pc : Int) + off = (tgt : Int)) (hc : ¬ x = 0) (kt : XA l g M Q tgt lv st w kc ks) : XA l g M Q pc lv (.int x :: st) w kc ks := x_if_ne hd ht (fun _ => kt) (fun z => absurd hc (fun y => y z))
theorem x_if_ne_f {x : Int32} {off : Int} (hd : decode M.2.1 pc = .ok (.ifCond .ne off, 3)) {tgt : Nat} (ht : (pc : Int) + off = (tgt : Int)) (hc : x = 0) (kf : XA l g M Q (pc + 3) lv st w kc ks) : XA l g M Q pc lv (.int x :: st) w kc ks := x_if_ne hd ht (fun z => (z hc).elim) (fun _ => kf)
theorem x_if_lt_t {x : Int32} {off : Int} {tgt : Nat} (hd : decode M.2.1 pc = .ok (.ifCond .lt off, 3)) (ht : (pc : Int) + off = (tgt : Int)) (hc : x < 0) (kt : XA l g M Q tgt lv st w kc ks) : XA l g M Q pc lv (.int x :: st) w kc ks := x_if_lt hd ht (fun _ => kt) (fun z => absurd hc (z))
theorem x_if_lt_f {x : Int32} {off : Int} (hd : decode M.2.1 pc = .ok (.ifCond .lt off, 3)) {tgt : Nat} (ht : (pc : Int) + off = (tgt : Int)) (hc : ¬ x < 0) (kf : XA l g M Q (pc + 3) lv st w kc ks) : XA l g M Q pc lv (.int x :: st) w kc ks := x_if_lt hd ht (fun z => absurd z hc) (fun _ => kf)
theorem x_if_ge_t {x : Int32} {off : Int} {tgt : Nat} (hd : decode M.2.1 pc = .ok (.ifCond .ge off, 3)) (ht : (pc : Int) + off = (tgt : Int)) (hc : 0 ≤ x) (kt : XA l g M Q tgt lv st w kc ks) : XA l g M Q pc lv (.int x :: st) w kc ks := x_if_ge hd ht (fun _ => kt) (fun z => absurd hc (z))
theorem x_if_ge_f {x : Int32} {off : Int} (hd : decode M.2.1 pc = .ok (.ifCond .ge off, 3)) {tgt : Nat} (ht : (pc : Int) + off = (tgt : Int)) (hc : ¬ 0 ≤ x) (kf : XA l g M Q (pc + 3) lv st w kc ks) : XA l g M Q pc lv (.int x :: st) w kc ks := x_if_ge hd ht (fun z => absurd z hc) (fun _ => kf)
theorem x_if_gt_t {x : Int32} {off : Int} {tgt : Nat} (hd : decode M.2.1 pc = .ok (.ifCond .gt off, 3)) (ht : (pc : Int) + off = (tgt : Int)) (hc : 0 < x) (kt : XA l g M Q tgt lv st w kc ks) : XA l g M Q pc lv (.int x :: st) w kc ks := x_if_gt hd ht (fun _ => kt) (fun z => absurd hc (z))
theorem x_if_gt_f {x : Int32} {off : Int} (hd : decode M.2.1 pc = .ok (.ifCond .gt off, 3)) {tgt : Nat} (ht : (pc : Int) + off = (tgt : Int)) (hc : ¬ 0 < x) (kf : XA l g M Q (pc + 3) lv st w kc ks) : XA l g M Q pc lv (.int x :: st) w kc ks := x_if_gt hd ht (fun z => absurd z hc) (fun _ => kf)
theorem x_if_le_t {x : Int32} {off : Int} {tgt : Nat} (hd : decode M.2.1 pc = .ok (.ifCond .le off, 3)) (ht : (pc : Int) + off = (tgt : Int)) (hc : x ≤ 0) (kt : XA l g M Q tgt lv st w kc ks) : XA l g M Q pc lv (.int x :: st) w kc ks := x_if_le hd ht (fun _ => kt) (fun z => absurd hc (z))
theorem x_if_le_f {x : Int32} {off : Int} (hd : decode M.2.1 pc = .ok (.ifCond .le off, 3)) {tgt : Nat} (ht : (pc : Int) + off = (tgt : Int)) (hc : ¬ x ≤ 0) (kf : XA l g M Q (pc + 3) lv st w kc ks) : XA l g M Q pc lv (.int x :: st) w kc ks := x_if_le hd ht (fun z => absurd z hc) (fun _ => kf)
theorem x_icmp_eq_t {x y : Int32} {off : Int} {tgt : Nat} (hd : decode M.2.1 pc = .ok (.if_icmp .eq off, 3)) (ht : (pc : Int) + off = (tgt : Int)) (hc : x = y) (kt : XA l g M Q tgt lv st w kc ks) : XA l g M Q pc lv (.int y :: .int x :: st) w kc ks := x_icmp_eq hd ht (fun _ => kt) (fun z => absurd hc (z))
theorem x_icmp_eq_f {x y : Int32} {off : Int} (hd : decode M.2.1 pc = .ok (.if_icmp .eq off, 3)) {tgt : Nat} (ht : (pc : Int) + off = (tgt : Int)) (hc : ¬ x = y) (kf : XA l g M Q (pc + 3) lv st w kc ks) : XA l g M Q pc lv (.int y :: .int x :: st) w kc ks := x_icmp_eq hd ht (fun z => absurd z hc) (fun _ => kf)
theorem x_icmp_ne_t {x y : Int32} {off : Int} {tgt : Nat} (hd : decode M.2.1 pc = .ok (.if_icmp .ne off, 3)) (ht : (pc : Int) + off = (tgt : Int)) (hc : ¬ x = y) (kt : XA l g M Q tgt lv st w kc ks) : XA l g M Q pc lv (.int y :: .int x :: st) w kc ks := x_icmp_ne hd ht (fun _ => kt) (fun z => absurd hc (fun y => y z))
theorem x_icmp_ne_f {x y : Int32} {off : Int} (hd : decode M.2.1 pc = .ok (.if_icmp .ne off, 3)) {tgt : Nat} (ht : (pc : Int) + off = (tgt : Int)) (hc : x = y) (kf : XA l g M Q (pc + 3) lv st w kc ks) : XA l g M Q pc lv (.int y :: .int x :: st) w kc ks := x_icmp_ne hd ht (fun z => (z hc).elim) (fun _ => kf)
theorem x_icmp_lt_t {x y : Int32} {off : Int} {tgt : Nat} (hd : decode M.2.1 pc = .ok (.if_icmp .lt off, 3)) (ht : (pc : Int) + off = (tgt : Int)) (hc : x < y) (kt : XA l g M Q tgt lv st w kc ks) : XA l g M Q pc lv (.int y :: .int x :: st) w kc ks := x_icmp_lt hd ht (fun _ => kt) (fun z => absurd hc (z))
theorem x_icmp_lt_f {x y : Int32} {off : Int} (hd : decode M.2.1 pc = .ok (.if_icmp .lt off, 3)) {tgt : Nat} (ht : (pc : Int) + off = (tgt : Int)) (hc : ¬ x < y) (kf : XA l g M Q (pc + 3) lv st w kc ks) : XA l g M Q pc lv (.int y :: .int x :: st) w kc ks := x_icmp_lt hd ht (fun z => absurd z hc) (fun _ => kf)
theorem x_icmp_ge_t {x y : Int32} {off : Int} {tgt : Nat} (hd : decode M.2.1 pc = .ok (.if_icmp .ge off, 3)) (ht : (pc : Int) + off = (tgt : Int)) (hc : y ≤ x) (kt : XA l g M Q tgt lv st w kc ks) : XA l g M Q pc lv (.int y :: .int x :: st) w kc ks := x_icmp_ge hd ht (fun _ => kt) (fun z => absurd hc (z))
theorem x_icmp_ge_f {x y : Int32} {off : Int} (hd : decode M.2.1 pc = .ok (.if_icmp .ge off, 3)) {tgt : Nat} (ht : (pc : Int) + off = (tgt : Int)) (hc : ¬ y ≤ x) (kf : XA l g M Q (pc + 3) lv st w kc ks) : XA l g M Q pc lv (.int y :: .int x :: st) w kc ks := x_icmp_ge hd ht (fun z => absurd z hc) (fun _ => kf)
theorem x_icmp_gt_t {x y : Int32} {off : Int} {tgt : Nat} (hd : decode M.2.1 pc = .ok (.if_icmp .gt off, 3)) (ht : (pc : Int) + off = (tgt : Int)) (hc : y < x) (kt : XA l g M Q tgt lv st w kc ks) : XA l g M Q pc lv (.int y :: .int x :: st) w kc ks := x_icmp_gt hd ht (fun _ => kt) (fun z => absurd hc (z))
theorem x_icmp_gt_f {x y : Int32} {off : Int} (hd : decode M.2.1 pc = .ok (.if_icmp .gt off, 3)) {tgt : Nat} (ht : (pc : Int) + off = (tgt : Int)) (hc : ¬ y < x) (kf : XA l g M Q (pc + 3) lv st w kc ks) : XA l g M Q pc lv (.int y :: .int x :: st) w kc ks := x_icmp_gt hd ht (fun z => absurd z hc) (fun _ => kf)
theorem x_icmp_le_t {x y : Int32} {off : Int} {tgt : Nat} (hd : decode M.2.1 pc = .ok (.if_icmp .le off, 3)) (ht : (pc : Int) + off = (tgt : Int)) (hc : x ≤ y) (kt : XA l g M Q tgt lv st w kc ks) : XA l g M Q pc lv (.int y :: .int x :: st) w kc ks := x_icmp_le hd ht (fun _ => kt) (fun z => absurd hc (z))
theorem x_icmp_le_f {x y : Int32} {off : Int} (hd : decode M.2.1 pc = .ok (.if_icmp .le off, 3)) {tgt : Nat} (ht : (pc : Int) + off = (tgt : Int)) (hc : ¬ x ≤ y) (kf : XA l g M Q (pc + 3) lv st w kc ks) : XA l g M Q pc lv (.int y :: .int x :: st) w kc ks := x_icmp_le hd ht (fun z => absurd z hc) (fun _ => kf)
end XPIC
end
section
theorem nI_inc (i : Nat) : nI i + Int32.ofInt 1 = nI (i + 1) := nI_1 i
theorem inc_1 (x : Int32) : x + Int32.ofInt 1 = x + 1 := rfl
theorem nI_dec (i : Nat) : nI (i + 1) + Int32.ofInt (-1) = nI i := pk_m1 i
def lvle : List (Option Value) → List (Option Value) → Prop
  | [], _ => True
  | none :: a, _ :: b => lvle a b
  | some v :: a, o :: b => o = some v ∧ lvle a b
  | _ :: _, [] => False
theorem lvle_get : ∀ (a b : List (Option Value)), lvle a b → ∀ (k : Nat) (v : Value), a[k]? = some (some v) → b[k]? = some (some v)
  | [], _, _, k, v, h => by simp at h
  | none :: a, _ :: b, hl, k, v, h => by
    cases k with
    | zero => simp at h
    | succ k => simpa using lvle_get a b hl k v (by simpa using h)
  | some u :: a, o :: b, hl, k, v, h => by
    cases k with
    | zero => simp at h; subst h; simpa using hl.1
    | succ k => simpa using lvle_get a b hl.2 k v (by simpa using h)
  | none :: _, [], hl, _, _, _ => hl.elim
  | some _ :: _, [], hl, _, _, _ => hl.elim
section XLOOP
variable {l : Launch} {g : XG} {M : XM} {Q : Option Value → XW → Prop} {pc : Nat} {lv : List (Option Value)} {st : List Value} {w : XW} {kc ks : Nat}
theorem x_eq {lv' : List (Option Value)} {st' : List Value} {w' : XW} (h : XA l g M Q pc lv' st' w' kc ks) (h1 : lv = lv') (h2 : st = st') (h3 : w = w') : XA l g M Q pc lv st w kc ks := by
  subst h1; subst h2; subst h3; exact h
/-- to another list of locals, of which less is said -/
theorem x_le {lv' : List (Option Value)} (h : XA l g M Q pc lv' st w kc ks) (hl : lvle lv' lv) : XA l g M Q pc lv st w kc ks := x_drop (lvle_get lv' lv hl) h
theorem x_alr {a n : Nat} {f : Nat → Int32} (hd : decode M.2.1 pc = .ok (.arraylength, 1)) (hw : w[a]? = some (.inl (row n f))) (h : XA l g M Q (pc + 1) lv (.int (nI n) :: st) w kc ks) : XA l g M Q pc lv (.ref a :: st) w kc ks := x_alen hd hw (by rw [row_len]; rfl) h
/-- a loop that counts up to N -/
theorem x_for (N : Nat) (P : Nat → Prop) (lF : Nat → List (Option Value)) (sF : Nat → List Value) (wF : Nat → XW) (h0 : P 0) (hs : ∀ i, i < N → P i → (P (i + 1) → XA l g M Q pc (lF (i + 1)) (sF (i + 1)) (wF (i + 1)) kc ks) → XA l g M Q pc (lF i) (sF i) (wF i) kc ks) (he : P N → XA l g M Q pc (lF N) (sF N) (wF N) kc ks) : XA l g M Q pc (lF 0) (sF 0) (wF 0) kc ks := by
  have key : ∀ n i, i ≤ N → N - i = n → P i → XA l g M Q pc (lF i) (sF i) (wF i) kc ks := by
    intro n
    induction n with
    | zero =>
      intro i h1 h2 hp
      have : i = N := by omega
      subst this
      exact he hp
    | succ n ih =>
      intro i h1 h2 hp
      exact hs i (by omega) hp (fun hp' => ih (i + 1) (by omega) (by omega) hp')
  exact key N 0 (Nat.zero_le _) rfl h0
end XLOOP
/-! counts and sums -/
def cntB (f : Nat → Bool) : Nat → Nat
  | 0 => 0
  | n + 1 => cntB f n + (if f n then 1 else 0)
theorem cntB_le (f : Nat → Bool) : ∀ n, cntB f n ≤ n
  | 0 => Nat.le_refl _
  | n + 1 => by
    have := cntB_le f n
    simp only [cntB]
    split <;> omega
theorem cntB_t {f : Nat → Bool} {n : Nat} (h : f n = true) : cntB f (n + 1) = cntB f n + 1 := by simp [cntB, h]
theorem cntB_f {f : Nat → Bool} {n : Nat} (h : f n = false) : cntB f (n + 1) = cntB f n := by simp [cntB, h]
theorem cntB_congr {f f' : Nat → Bool} : ∀ {n : Nat}, (∀ k, k < n → f k = f' k) → cntB f n = cntB f' n
  | 0, _ => rfl
  | n + 1, h => by simp only [cntB]; rw [cntB_congr (fun k hk => h k (by omega)), h n (by omega)]
def sumI (f : Nat → Int32) : Nat → Int32
  | 0 => 0
  | n + 1 => sumI f n + f n
theorem sumI_congr {f f' : Nat → Int32} : ∀ {n : Nat}, (∀ k, k < n → f k = f' k) → sumI f n = sumI f' n
  | 0, _ => rfl
  | n + 1, h => by simp only [sumI]; rw [sumI_congr (fun k hk => h k (by omega)), h n (by omega)]
/-- the first place below N where f is false, else -1 -/
def fstF (f : Nat → Bool) : Nat → Nat → Int32
  | _, 0 => -1
  | i, n + 1 => if f i then fstF f (i + 1) n else nI i
theorem fstF_at {f : Nat → Bool} {i n : Nat} (h : f i = false) : fstF f i (n + 1) = nI i := by simp [fstF, h]
theorem fstF_go {f : Nat → Bool} {i n : Nat} (h : f i = true) : fstF f i (n + 1) = fstF f (i + 1) n := by simp [fstF, h]
theorem nI_lt_iff {a b : Nat} {c : Int32} (hc : c = nI b) (ha : a < 2 ^ 31) (hb : b < 2 ^ 31) : c ≤ nI a ↔ b ≤ a := by subst hc; exact nI_leI hb ha
theorem nI_nle_of {a b : Nat} {c : Int32} (hc : c = nI b) (hb : b < 2 ^ 31) (h : a < b) : ¬ c ≤ nI a := by subst hc; exact nI_ge h hb
theorem nI_le_of {a b : Nat} {c : Int32} (hc : c = nI b) (ha : a < 2 ^ 31) (h : b ≤ a) : c ≤ nI a := by subst hc; exact nI_le h ha
theorem b2i_f' {b : Bool} (h : b2i b = 0) : b = false := (b2i_eq0 b).mp h
theorem b2i_t' {b : Bool} (h : ¬ b2i b = 0) : b = true := (b2i_ne0 b).mp h
end
section
/-! ===== the peers ===== -/
def inB (p n : Int32) : Bool := decide (¬ p < 0) && decide (¬ n ≤ p)
def exB (S : MS) (p : Int32) : Bool := inB p 12 && decide (¬ S 0 (cl p) ≤ 0)
def onB (S : MS) (p : Int32) : Bool := inB p 12 && decide (S 1 (cl p) = 1)
def twoB (S : MS) (p q : Int32) : Bool := decide (¬ p = q) && exB S p && exB S q
def frI (S : MS) (p : Int32) : Int32 := if inB p 12 then S 0 (cl p) - S 3 (cl p) else 0
def owI (S : MS) (p q : Int32) : Int32 := if twoB S p q then S 4 (12 * cl p + cl q) else 0
def betB (S : MS) (p t : Int32) : Bool := if exB S t then (if exB S p then (if S 2 (cl p) = S 2 (cl t) then decide (frI S t < frI S p) else decide (S 2 (cl t) < S 2 (cl p))) else false) else true
theorem exB_in {S : MS} {p : Int32} (h : exB S p = true) : vp_in p 12 := by
  simp only [exB, inB, Bool.and_eq_true, decide_eq_true_eq] at h
  exact vin_of 12 (by decide) rfl h.1.1 h.1.2
def sAdd (S : MS) (p u : Int32) : MS := cond (inB p 12) (us (us (us S 0 (cl p) u) 1 (cl p) 1) 2 (cl p) 50) S
def sLoad (S : MS) (p n : Int32) : MS := cond (exB S p) (us S 3 (cl p) (S 3 (cl p) + n)) S
def cap100 (x : Int32) : Int32 := if 100 < x then 100 else x
def sRaise (S : MS) (p : Int32) : MS := cond (exB S p) (us S 2 (cl p) (cap100 (S 2 (cl p) + 5))) S
def sHalve (S : MS) (p : Int32) : MS := cond (exB S p) (us S 2 (cl p) (S 2 (cl p) / 2)) S
def sOwe (S : MS) (d c a : Int32) : MS := cond (decide (¬ d = c) && exB S d && exB S c) (us (us S 4 (12 * cl d + cl c) (S 4 (12 * cl d + cl c) + a)) 4 (12 * cl c + cl d) ((us S 4 (12 * cl d + cl c) (S 4 (12 * cl d + cl c) + a)) 4 (12 * cl c + cl d) - a)) S

set_option maxRecDepth 100000 in
set_option maxHeartbeats 4000000 in
theorem kX4_exists (l : Launch) (g : XG) (S : MS) (p : Int32) : Ct l g MX4_exists [.ref 0, .int p] (wP S) (Qp (b2i (exB S p)) (wP S)) := by
  refine Ct_of (by decide) (by simp [Value.category]) (Nat.le_of_ble_eq_true rfl) ?_
  refine x_iload_n dX4_exists_0 rfl ?_
  refine x_if_lt (tgt := 23) dX4_exists_1 (by decide) (fun c_1 => ?_) (fun c_1 => ?_)
  · refine x_iconst (v := 0) dX4_exists_23 (by decide) ?_
    exact x_retz dX4_exists_24 rfl (rfl) rfl rfl (⟨by (try simp only [b2i_eq0, b2i_ne0] at *); simp [exB, inB, b2i, *], rfl⟩)
  · refine x_iload_n dX4_exists_4 rfl ?_
    refine x_bipush (v := 12) dX4_exists_5 (by decide) ?_
    refine x_icmp_ge (tgt := 23) dX4_exists_7 (by decide) (fun c_7 => ?_) (fun c_7 => ?_)
    · refine x_iconst (v := 0) dX4_exists_23 (by decide) ?_
      exact x_retz dX4_exists_24 rfl (rfl) rfl rfl (⟨by (try simp only [b2i_eq0, b2i_ne0] at *); simp [exB, inB, b2i, *], rfl⟩)
    · refine x_aload_n dX4_exists_10 rfl ?_
      refine x_getf dX4_exists_11 flX4_9 rfl rfl ?_
      refine x_iload_n dX4_exists_14 rfl ?_
      refine x_iar dX4_exists_15 rfl (ix_of (vin_of 12 (by decide) rfl (by assumption) (by assumption))) ?_
      refine x_if_le (tgt := 23) dX4_exists_16 (by decide) (fun c_16 => ?_) (fun c_16 => ?_)
      · refine x_iconst (v := 0) dX4_exists_23 (by decide) ?_
        exact x_retz dX4_exists_24 rfl (rfl) rfl rfl (⟨by (try simp only [b2i_eq0, b2i_ne0] at *); simp [exB, inB, b2i, *], rfl⟩)
      · refine x_iconst (v := 1) dX4_exists_19 (by decide) ?_
        refine x_goto (tgt := 24) dX4_exists_20 (by decide) ?_
        exact x_retz dX4_exists_24 rfl (rfl) rfl rfl (⟨by (try simp only [b2i_eq0, b2i_ne0] at *); simp [exB, inB, b2i, *], rfl⟩)

set_option maxRecDepth 100000 in
set_option maxHeartbeats 4000000 in
theorem kX4_isOnline (l : Launch) (g : XG) (S : MS) (p : Int32) : Ct l g MX4_isOnline [.ref 0, .int p] (wP S) (Qp (b2i (onB S p)) (wP S)) := by
  refine Ct_of (by decide) (by simp [Value.category]) (Nat.le_of_ble_eq_true rfl) ?_
  refine x_iload_n dX4_isOnline_0 rfl ?_
  refine x_if_lt (tgt := 24) dX4_isOnline_1 (by decide) (fun c_1 => ?_) (fun c_1 => ?_)
  · refine x_iconst (v := 0) dX4_isOnline_24 (by decide) ?_
    exact x_retz dX4_isOnline_25 rfl (rfl) rfl rfl (⟨by (try simp only [b2i_eq0, b2i_ne0] at *); simp [onB, inB, b2i, *], rfl⟩)
  · refine x_iload_n dX4_isOnline_4 rfl ?_
    refine x_bipush (v := 12) dX4_isOnline_5 (by decide) ?_
    refine x_icmp_ge (tgt := 24) dX4_isOnline_7 (by decide) (fun c_7 => ?_) (fun c_7 => ?_)
    · refine x_iconst (v := 0) dX4_isOnline_24 (by decide) ?_
      exact x_retz dX4_isOnline_25 rfl (rfl) rfl rfl (⟨by (try simp only [b2i_eq0, b2i_ne0] at *); simp [onB, inB, b2i, *], rfl⟩)
    · refine x_aload_n dX4_isOnline_10 rfl ?_
      refine x_getf dX4_isOnline_11 flX4_15 rfl rfl ?_
      refine x_iload_n dX4_isOnline_14 rfl ?_
      refine x_iar dX4_isOnline_15 rfl (ix_of (vin_of 12 (by decide) rfl (by assumption) (by assumption))) ?_
      refine x_iconst (v := 1) dX4_isOnline_16 (by decide) ?_
      refine x_icmp_ne (tgt := 24) dX4_isOnline_17 (by decide) (fun c_17 => ?_) (fun c_17 => ?_)
      · refine x_iconst (v := 0) dX4_isOnline_24 (by decide) ?_
        exact x_retz dX4_isOnline_25 rfl (rfl) rfl rfl (⟨by (try simp only [b2i_eq0, b2i_ne0] at *); simp [onB, inB, b2i, *], rfl⟩)
      · refine x_iconst (v := 1) dX4_isOnline_20 (by decide) ?_
        refine x_goto (tgt := 25) dX4_isOnline_21 (by decide) ?_
        exact x_retz dX4_isOnline_25 rfl (rfl) rfl rfl (⟨by (try simp only [b2i_eq0, b2i_ne0] at *); simp [onB, inB, b2i, *], rfl⟩)

set_option maxRecDepth 100000 in
set_option maxHeartbeats 4000000 in
theorem kX4_freeSpace (l : Launch) (g : XG) (S : MS) (p : Int32) : Ct l g MX4_freeSpace [.ref 0, .int p] (wP S) (Qp (frI S p) (wP S)) := by
  refine Ct_of (by decide) (by simp [Value.category]) (Nat.le_of_ble_eq_true rfl) ?_
  refine x_iload_n dX4_freeSpace_0 rfl ?_
  refine x_if_lt (tgt := 26) dX4_freeSpace_1 (by decide) (fun c_1 => ?_) (fun c_1 => ?_)
  · refine x_iconst (v := 0) dX4_freeSpace_26 (by decide) ?_
    exact x_reti dX4_freeSpace_27 rfl rfl rfl (⟨by (try simp only [b2i_eq0, b2i_ne0] at *); simp [frI, inB, b2i, *], rfl⟩)
  · refine x_iload_n dX4_freeSpace_4 rfl ?_
    refine x_bipush (v := 12) dX4_freeSpace_5 (by decide) ?_
    refine x_icmp_ge (tgt := 26) dX4_freeSpace_7 (by decide) (fun c_7 => ?_) (fun c_7 => ?_)
    · refine x_iconst (v := 0) dX4_freeSpace_26 (by decide) ?_
      exact x_reti dX4_freeSpace_27 rfl rfl rfl (⟨by (try simp only [b2i_eq0, b2i_ne0] at *); simp [frI, inB, b2i, *], rfl⟩)
    · refine x_aload_n dX4_freeSpace_10 rfl ?_
      refine x_getf dX4_freeSpace_11 flX4_9 rfl rfl ?_
      refine x_iload_n dX4_freeSpace_14 rfl ?_
      refine x_iar dX4_freeSpace_15 rfl (ix_of (vin_of 12 (by decide) rfl (by assumption) (by assumption))) ?_
      refine x_aload_n dX4_freeSpace_16 rfl ?_
      refine x_getf dX4_freeSpace_17 flX4_21 rfl rfl ?_
      refine x_iload_n dX4_freeSpace_20 rfl ?_
      refine x_iar dX4_freeSpace_21 rfl (ix_of (vin_of 12 (by decide) rfl (by assumption) (by assumption))) ?_
      refine x_isub dX4_freeSpace_22 ?_
      refine x_goto (tgt := 27) dX4_freeSpace_23 (by decide) ?_
      exact x_reti dX4_freeSpace_27 rfl rfl rfl (⟨by (try simp only [b2i_eq0, b2i_ne0] at *); simp [frI, inB, b2i, *], rfl⟩)

set_option maxRecDepth 100000 in
set_option maxHeartbeats 4000000 in
theorem kX4_areTwo (l : Launch) (g : XG) (S : MS) (p q : Int32) : Ct l g MX4_areTwo [.ref 0, .int p, .int q] (wP S) (Qp (b2i (twoB S p q)) (wP S)) := by
  refine Ct_of (by decide) (by simp [Value.category]) (Nat.le_of_ble_eq_true rfl) ?_
  refine x_iload_n dX4_areTwo_0 rfl ?_
  refine x_iload_n dX4_areTwo_1 rfl ?_
  refine x_icmp_eq (tgt := 25) dX4_areTwo_2 (by decide) (fun c_2 => ?_) (fun c_2 => ?_)
  · refine x_iconst (v := 0) dX4_areTwo_25 (by decide) ?_
    exact x_retz dX4_areTwo_26 rfl (rfl) rfl rfl (⟨by (try simp only [b2i_eq0, b2i_ne0] at *); simp [twoB, b2i, *], rfl⟩)
  · refine x_aload_n dX4_areTwo_5 rfl ?_
    refine x_iload_n dX4_areTwo_6 rfl ?_
    refine x_callp [0, 1, 2, 3, 4, 5] (x_iV dX4_areTwo_7 mlX4_31 lbX4_exists rfl rfl rfl rfl) (kX4_exists l g S _) (by decide) rfl rfl (by decide) (by decide) (by simp [Value.category]) rfl rfl rfl ?_
    refine x_if_eq (tgt := 25) dX4_areTwo_10 (by decide) (fun c_10 => ?_) (fun c_10 => ?_)
    · refine x_iconst (v := 0) dX4_areTwo_25 (by decide) ?_
      exact x_retz dX4_areTwo_26 rfl (rfl) rfl rfl (⟨by (try simp only [b2i_eq0, b2i_ne0] at *); simp [twoB, b2i, *], rfl⟩)
    · refine x_aload_n dX4_areTwo_13 rfl ?_
      refine x_iload_n dX4_areTwo_14 rfl ?_
      refine x_callp [0, 1, 2, 3, 4, 5] (x_iV dX4_areTwo_15 mlX4_31 lbX4_exists rfl rfl rfl rfl) (kX4_exists l g S _) (by decide) rfl rfl (by decide) (by decide) (by simp [Value.category]) rfl rfl rfl ?_
      refine x_if_eq (tgt := 25) dX4_areTwo_18 (by decide) (fun c_18 => ?_) (fun c_18 => ?_)
      · refine x_iconst (v := 0) dX4_areTwo_25 (by decide) ?_
        exact x_retz dX4_areTwo_26 rfl (rfl) rfl rfl (⟨by (try simp only [b2i_eq0, b2i_ne0] at *); simp [twoB, b2i, *], rfl⟩)
      · refine x_iconst (v := 1) dX4_areTwo_21 (by decide) ?_
        refine x_goto (tgt := 26) dX4_areTwo_22 (by decide) ?_
        exact x_retz dX4_areTwo_26 rfl (rfl) rfl rfl (⟨by (try simp only [b2i_eq0, b2i_ne0] at *); simp [twoB, b2i, *], rfl⟩)

set_option maxRecDepth 100000 in
set_option maxHeartbeats 4000000 in
theorem lpX4_number (l : Launch) (g : XG) (S : MS)  : XA l g MX4_number (Qp (nI (cntB (fun p => exB S (nI p)) 12)) (wP S)) 4 ((fun i => [some (.ref 0), some (.int (nI (cntB (fun p => exB S (nI p)) i))), some (.int (nI i))]) 0) ((fun _ => []) 0) ((fun _ => wP S) 0) 0 0 := by
  refine x_for 12 (fun _ => True) (fun i => [some (.ref 0), some (.int (nI (cntB (fun p => exB S (nI p)) i))), some (.int (nI i))]) (fun _ => []) (fun _ => wP S) trivial (fun i hi hp ih => ?_) (fun hp => ?_)
  · refine x_iload_n dX4_number_4 rfl ?_
    refine x_bipush (v := 12) dX4_number_5 (by decide) ?_
    refine x_icmp_ge_f (tgt := 27) dX4_number_7 (by decide) (nI_nle_of rfl (by decide) hi) ?_
    refine x_aload_n dX4_number_10 rfl ?_
    refine x_iload_n dX4_number_11 rfl ?_
    refine x_callp [0, 1, 2, 3, 4, 5] (x_iV dX4_number_12 mlX4_31 lbX4_exists rfl rfl rfl rfl) (kX4_exists l g S _) (by decide) rfl rfl (by decide) (by decide) (by simp [Value.category]) rfl rfl rfl ?_
    refine x_if_eq (tgt := 21) dX4_number_15 (by decide) (fun c_15 => ?_) (fun c_15 => ?_)
    · first | refine x_iinc dX4_number_21 (by decide) rfl (nI_inc _) ?_ | refine x_iinc dX4_number_21 (by decide) rfl (inc_1 _) ?_
      refine x_goto (tgt := 4) dX4_number_24 (by decide) ?_
      (try simp only [b2i_eq0, b2i_ne0] at *)
      exact x_eq (ih trivial) (by simp [cntB, *]) rfl rfl
    · first | refine x_iinc dX4_number_18 (by decide) rfl (nI_inc _) ?_ | refine x_iinc dX4_number_18 (by decide) rfl (inc_1 _) ?_
      first | refine x_iinc dX4_number_21 (by decide) rfl (nI_inc _) ?_ | refine x_iinc dX4_number_21 (by decide) rfl (inc_1 _) ?_
      refine x_goto (tgt := 4) dX4_number_24 (by decide) ?_
      (try simp only [b2i_eq0, b2i_ne0] at *)
      exact x_eq (ih trivial) (by simp [cntB, *]) rfl rfl
  · refine x_iload_n dX4_number_4 rfl ?_
    refine x_bipush (v := 12) dX4_number_5 (by decide) ?_
    refine x_icmp_ge_t (tgt := 27) dX4_number_7 (by decide) (nI_le_of rfl (by decide) (Nat.le_refl _)) ?_
    refine x_iload_n dX4_number_27 rfl ?_
    exact x_reti dX4_number_28 rfl rfl rfl (⟨rfl, rfl⟩)

set_option maxRecDepth 100000 in
set_option maxHeartbeats 4000000 in
theorem kX4_number (l : Launch) (g : XG) (S : MS) : Ct l g MX4_number [.ref 0] (wP S) (Qp (nI (cntB (fun p => exB S (nI p)) 12)) (wP S)) := by
  refine Ct_of (by decide) (by simp [Value.category]) (Nat.le_of_ble_eq_true rfl) ?_
  refine x_iconst (v := 0) dX4_number_0 (by decide) ?_
  refine x_istore_n dX4_number_1 (by decide) ?_
  refine x_iconst (v := 0) dX4_number_2 (by decide) ?_
  refine x_istore_n dX4_number_3 (by decide) ?_
  exact lpX4_number l g S

set_option maxRecDepth 100000 in
set_option maxHeartbeats 4000000 in
theorem lpX4_lowestUnused (l : Launch) (g : XG) (S : MS)  : XA l g MX4_lowestUnused (Qp (fstF (fun p => exB S (nI p)) 0 12) (wP S)) 2 ((fun i => [some (.ref 0), some (.int (nI i))]) 0) ((fun _ => []) 0) ((fun _ => wP S) 0) 0 0 := by
  refine x_for 12 (fun i => fstF (fun p => exB S (nI p)) 0 12 = fstF (fun p => exB S (nI p)) i (12 - i)) (fun i => [some (.ref 0), some (.int (nI i))]) (fun _ => []) (fun _ => wP S) rfl (fun i hi hp ih => ?_) (fun hp => ?_)
  · refine x_iload_n dX4_lowestUnused_2 rfl ?_
    refine x_bipush (v := 12) dX4_lowestUnused_3 (by decide) ?_
    refine x_icmp_ge_f (tgt := 24) dX4_lowestUnused_5 (by decide) (nI_nle_of rfl (by decide) hi) ?_
    refine x_aload_n dX4_lowestUnused_8 rfl ?_
    refine x_iload_n dX4_lowestUnused_9 rfl ?_
    refine x_callp [0, 1, 2, 3, 4, 5] (x_iV dX4_lowestUnused_10 mlX4_31 lbX4_exists rfl rfl rfl rfl) (kX4_exists l g S _) (by decide) rfl rfl (by decide) (by decide) (by simp [Value.category]) rfl rfl rfl ?_
    refine x_if_ne (tgt := 18) dX4_lowestUnused_13 (by decide) (fun c_13 => ?_) (fun c_13 => ?_)
    · first | refine x_iinc dX4_lowestUnused_18 (by decide) rfl (nI_inc _) ?_ | refine x_iinc dX4_lowestUnused_18 (by decide) rfl (inc_1 _) ?_
      refine x_goto (tgt := 2) dX4_lowestUnused_21 (by decide) ?_
      (try simp only [b2i_eq0, b2i_ne0] at *)
      exact ih (by rw [hp, show 12 - i = (12 - (i + 1)) + 1 by omega]; exact fstF_go (by simp [*]))
    · (try simp only [b2i_eq0, b2i_ne0] at *)
      refine x_iload_n dX4_lowestUnused_16 rfl ?_
      exact x_reti dX4_lowestUnused_17 rfl rfl rfl (⟨by rw [hp, show 12 - i = (12 - (i + 1)) + 1 by omega, fstF_at (by simp [*])], rfl⟩)
  · refine x_iload_n dX4_lowestUnused_2 rfl ?_
    refine x_bipush (v := 12) dX4_lowestUnused_3 (by decide) ?_
    refine x_icmp_ge_t (tgt := 24) dX4_lowestUnused_5 (by decide) (nI_le_of rfl (by decide) (Nat.le_refl _)) ?_
    refine x_iconst (v := -1) dX4_lowestUnused_24 (by decide) ?_
    exact x_reti dX4_lowestUnused_25 rfl rfl rfl (⟨by rw [hp]; rfl, rfl⟩)

set_option maxRecDepth 100000 in
set_option maxHeartbeats 4000000 in
theorem kX4_lowestUnused (l : Launch) (g : XG) (S : MS) : Ct l g MX4_lowestUnused [.ref 0] (wP S) (Qp (fstF (fun p => exB S (nI p)) 0 12) (wP S)) := by
  refine Ct_of (by decide) (by simp [Value.category]) (Nat.le_of_ble_eq_true rfl) ?_
  refine x_iconst (v := 0) dX4_lowestUnused_0 (by decide) ?_
  refine x_istore_n dX4_lowestUnused_1 (by decide) ?_
  exact lpX4_lowestUnused l g S

set_option maxRecDepth 100000 in
set_option maxHeartbeats 4000000 in
theorem lpX4_onlineFreeSpace (l : Launch) (g : XG) (S : MS)  : XA l g MX4_onlineFreeSpace (Qp (sumI (fun p => if onB S (nI p) then frI S (nI p) else 0) 12) (wP S)) 4 ((fun i => [some (.ref 0), some (.int (sumI (fun p => if onB S (nI p) then frI S (nI p) else 0) i)), some (.int (nI i))]) 0) ((fun _ => []) 0) ((fun _ => wP S) 0) 0 0 := by
  refine x_for 12 (fun _ => True) (fun i => [some (.ref 0), some (.int (sumI (fun p => if onB S (nI p) then frI S (nI p) else 0) i)), some (.int (nI i))]) (fun _ => []) (fun _ => wP S) trivial (fun i hi hp ih => ?_) (fun hp => ?_)
  · refine x_iload_n dX4_onlineFreeSpace_4 rfl ?_
    refine x_bipush (v := 12) dX4_onlineFreeSpace_5 (by decide) ?_
    refine x_icmp_ge_f (tgt := 32) dX4_onlineFreeSpace_7 (by decide) (nI_nle_of rfl (by decide) hi) ?_
    refine x_aload_n dX4_onlineFreeSpace_10 rfl ?_
    refine x_iload_n dX4_onlineFreeSpace_11 rfl ?_
    refine x_callp [0, 1, 2, 3, 4, 5] (x_iV dX4_onlineFreeSpace_12 mlX4_35 lbX4_isOnline rfl rfl rfl rfl) (kX4_isOnline l g S _) (by decide) rfl rfl (by decide) (by decide) (by simp [Value.category]) rfl rfl rfl ?_
    refine x_if_eq (tgt := 26) dX4_onlineFreeSpace_15 (by decide) (fun c_15 => ?_) (fun c_15 => ?_)
    · first | refine x_iinc dX4_onlineFreeSpace_26 (by decide) rfl (nI_inc _) ?_ | refine x_iinc dX4_onlineFreeSpace_26 (by decide) rfl (inc_1 _) ?_
      refine x_goto (tgt := 4) dX4_onlineFreeSpace_29 (by decide) ?_
      (try simp only [b2i_eq0, b2i_ne0] at *)
      exact x_eq (ih trivial) (by simp [sumI, *]) rfl rfl
    · refine x_iload_n dX4_onlineFreeSpace_18 rfl ?_
      refine x_aload_n dX4_onlineFreeSpace_19 rfl ?_
      refine x_iload_n dX4_onlineFreeSpace_20 rfl ?_
      refine x_callp [0, 1, 2, 3, 4, 5] (x_iV dX4_onlineFreeSpace_21 mlX4_38 lbX4_freeSpace rfl rfl rfl rfl) (kX4_freeSpace l g S _) (by decide) rfl rfl (by decide) (by decide) (by simp [Value.category]) rfl rfl rfl ?_
      refine x_iadd dX4_onlineFreeSpace_24 ?_
      refine x_istore_n dX4_onlineFreeSpace_25 (by decide) ?_
      first | refine x_iinc dX4_onlineFreeSpace_26 (by decide) rfl (nI_inc _) ?_ | refine x_iinc dX4_onlineFreeSpace_26 (by decide) rfl (inc_1 _) ?_
      refine x_goto (tgt := 4) dX4_onlineFreeSpace_29 (by decide) ?_
      (try simp only [b2i_eq0, b2i_ne0] at *)
      exact x_eq (ih trivial) (by simp [sumI, *]) rfl rfl
  · refine x_iload_n dX4_onlineFreeSpace_4 rfl ?_
    refine x_bipush (v := 12) dX4_onlineFreeSpace_5 (by decide) ?_
    refine x_icmp_ge_t (tgt := 32) dX4_onlineFreeSpace_7 (by decide) (nI_le_of rfl (by decide) (Nat.le_refl _)) ?_
    refine x_iload_n dX4_onlineFreeSpace_32 rfl ?_
    exact x_reti dX4_onlineFreeSpace_33 rfl rfl rfl (⟨rfl, rfl⟩)

set_option maxRecDepth 100000 in
set_option maxHeartbeats 4000000 in
theorem kX4_onlineFreeSpace (l : Launch) (g : XG) (S : MS) : Ct l g MX4_onlineFreeSpace [.ref 0] (wP S) (Qp (sumI (fun p => if onB S (nI p) then frI S (nI p) else 0) 12) (wP S)) := by
  refine Ct_of (by decide) (by simp [Value.category]) (Nat.le_of_ble_eq_true rfl) ?_
  refine x_iconst (v := 0) dX4_onlineFreeSpace_0 (by decide) ?_
  refine x_istore_n dX4_onlineFreeSpace_1 (by decide) ?_
  refine x_iconst (v := 0) dX4_onlineFreeSpace_2 (by decide) ?_
  refine x_istore_n dX4_onlineFreeSpace_3 (by decide) ?_
  exact lpX4_onlineFreeSpace l g S

set_option maxRecDepth 100000 in
set_option maxHeartbeats 4000000 in
theorem kX4_add (l : Launch) (g : XG) (S : MS) (p u : Int32) : Ct l g MX4_add [.ref 0, .int p, .int u] (wP S) (Qv (fun w1 => w1 = wP (sAdd S p u))) := by
  refine Ct_of (by decide) (by simp [Value.category]) (Nat.le_of_ble_eq_true rfl) ?_
  refine x_iload_n dX4_add_0 rfl ?_
  refine x_if_lt (tgt := 10) dX4_add_1 (by decide) (fun c_1 => ?_) (fun c_1 => ?_)
  · exact x_retv dX4_add_10 rfl rfl rfl (⟨rfl, by (try simp only [b2i_eq0, b2i_ne0] at *); first | (rw [sAdd, show (inB p 12) = true by simp [inB, *]] <;> rfl) | (rw [sAdd, show (inB p 12) = false by simp [inB, *]] <;> rfl)⟩)
  · refine x_iload_n dX4_add_4 rfl ?_
    refine x_bipush (v := 12) dX4_add_5 (by decide) ?_
    refine x_icmp_lt (tgt := 11) dX4_add_7 (by decide) (fun c_7 => ?_) (fun c_7 => ?_)
    · refine x_aload_n dX4_add_11 rfl ?_
      refine x_getf dX4_add_12 flX4_9 rfl rfl ?_
      refine x_iload_n dX4_add_15 rfl ?_
      refine x_iload_n dX4_add_16 rfl ?_
      refine x_iaw dX4_add_17 rfl (ix_of (vin_lt 12 (by decide) rfl (by assumption) (by assumption))) ?_
      refine x_aload_n dX4_add_18 rfl ?_
      refine x_getf dX4_add_19 flX4_15 rfl rfl ?_
      refine x_iload_n dX4_add_22 rfl ?_
      refine x_iconst (v := 1) dX4_add_23 (by decide) ?_
      refine x_iaw dX4_add_24 rfl (ix_of (vin_lt 12 (by decide) rfl (by assumption) (by assumption))) ?_
      refine x_aload_n dX4_add_25 rfl ?_
      refine x_getf dX4_add_26 flX4_18 rfl rfl ?_
      refine x_iload_n dX4_add_29 rfl ?_
      refine x_bipush (v := 50) dX4_add_30 (by decide) ?_
      refine x_iaw dX4_add_32 rfl (ix_of (vin_lt 12 (by decide) rfl (by assumption) (by assumption))) ?_
      exact x_retv dX4_add_33 rfl rfl rfl (⟨rfl, by (try simp only [b2i_eq0, b2i_ne0] at *); first | (rw [sAdd, show (inB p 12) = true by simp [inB, *]] <;> rfl) | (rw [sAdd, show (inB p 12) = false by simp [inB, *]] <;> rfl)⟩)
    · exact x_retv dX4_add_10 rfl rfl rfl (⟨rfl, by (try simp only [b2i_eq0, b2i_ne0] at *); first | (rw [sAdd, show (inB p 12) = true by simp [inB, *]] <;> rfl) | (rw [sAdd, show (inB p 12) = false by simp [inB, *]] <;> rfl)⟩)

set_option maxRecDepth 100000 in
set_option maxHeartbeats 4000000 in
theorem kX4_addLoad (l : Launch) (g : XG) (S : MS) (p n : Int32) : Ct l g MX4_addLoad [.ref 0, .int p, .int n] (wP S) (Qv (fun w1 => w1 = wP (sLoad S p n))) := by
  refine Ct_of (by decide) (by simp [Value.category]) (Nat.le_of_ble_eq_true rfl) ?_
  refine x_aload_n dX4_addLoad_0 rfl ?_
  refine x_iload_n dX4_addLoad_1 rfl ?_
  refine x_callp [0, 1, 2, 3, 4, 5] (x_iV dX4_addLoad_2 mlX4_31 lbX4_exists rfl rfl rfl rfl) (kX4_exists l g S _) (by decide) rfl rfl (by decide) (by decide) (by simp [Value.category]) rfl rfl rfl ?_
  refine x_if_eq (tgt := 18) dX4_addLoad_5 (by decide) (fun c_5 => ?_) (fun c_5 => ?_)
  · exact x_retv dX4_addLoad_18 rfl rfl rfl (⟨rfl, by (try simp only [b2i_eq0, b2i_ne0] at *); first | (rw [sLoad, show (exB S p) = true by simp [inB, *]] <;> rfl) | (rw [sLoad, show (exB S p) = false by simp [inB, *]] <;> rfl)⟩)
  · refine x_aload_n dX4_addLoad_8 rfl ?_
    refine x_getf dX4_addLoad_9 flX4_21 rfl rfl ?_
    refine x_iload_n dX4_addLoad_12 rfl ?_
    refine x_dup2 dX4_addLoad_13 rfl rfl ?_
    refine x_iar dX4_addLoad_14 rfl (ix_of (exB_in (b2i_t' (by assumption)))) ?_
    refine x_iload_n dX4_addLoad_15 rfl ?_
    refine x_iadd dX4_addLoad_16 ?_
    refine x_iaw dX4_addLoad_17 rfl (ix_of (exB_in (b2i_t' (by assumption)))) ?_
    exact x_retv dX4_addLoad_18 rfl rfl rfl (⟨rfl, by (try simp only [b2i_eq0, b2i_ne0] at *); first | (rw [sLoad, show (exB S p) = true by simp [inB, *]] <;> rfl) | (rw [sLoad, show (exB S p) = false by simp [inB, *]] <;> rfl)⟩)

set_option maxRecDepth 100000 in
set_option maxHeartbeats 4000000 in
theorem kX4_raiseTrust (l : Launch) (g : XG) (S : MS) (p : Int32) : Ct l g MX4_raiseTrust [.ref 0, .int p] (wP S) (Qv (fun w1 => w1 = wP (sRaise S p))) := by
  refine Ct_of (by decide) (by simp [Value.category]) (Nat.le_of_ble_eq_true rfl) ?_
  refine x_aload_n dX4_raiseTrust_0 rfl ?_
  refine x_iload_n dX4_raiseTrust_1 rfl ?_
  refine x_callp [0, 1, 2, 3, 4, 5] (x_iV dX4_raiseTrust_2 mlX4_31 lbX4_exists rfl rfl rfl rfl) (kX4_exists l g S _) (by decide) rfl rfl (by decide) (by decide) (by simp [Value.category]) rfl rfl rfl ?_
  refine x_if_eq (tgt := 27) dX4_raiseTrust_5 (by decide) (fun c_5 => ?_) (fun c_5 => ?_)
  · exact x_retv dX4_raiseTrust_27 rfl rfl rfl (⟨rfl, by (try simp only [b2i_eq0, b2i_ne0] at *); first | (rw [sRaise, show (exB S p) = true by simp [inB, *]] <;> rfl) | (rw [sRaise, show (exB S p) = false by simp [inB, *]] <;> rfl)⟩)
  · refine x_aload_n dX4_raiseTrust_8 rfl ?_
    refine x_getf dX4_raiseTrust_9 flX4_18 rfl rfl ?_
    refine x_iload_n dX4_raiseTrust_12 rfl ?_
    refine x_aload_n dX4_raiseTrust_13 rfl ?_
    refine x_getf dX4_raiseTrust_14 flX4_18 rfl rfl ?_
    refine x_iload_n dX4_raiseTrust_17 rfl ?_
    refine x_iar dX4_raiseTrust_18 rfl (ix_of (exB_in (b2i_t' (by assumption)))) ?_
    refine x_iconst (v := 5) dX4_raiseTrust_19 (by decide) ?_
    refine x_iadd dX4_raiseTrust_20 ?_
    refine x_bipush (v := 100) dX4_raiseTrust_21 (by decide) ?_
    refine x_min dX4_raiseTrust_23 mlX4_42 w_min1 w_math w_min3 (by decide) (by decide) (by decide) (by simp [Value.category]) ?_
    refine x_iaw dX4_raiseTrust_26 rfl (ix_of (exB_in (b2i_t' (by assumption)))) ?_
    exact x_retv dX4_raiseTrust_27 rfl rfl rfl (⟨rfl, by (try simp only [b2i_eq0, b2i_ne0] at *); first | (rw [sRaise, show (exB S p) = true by simp [inB, *]] <;> rfl) | (rw [sRaise, show (exB S p) = false by simp [inB, *]] <;> rfl)⟩)

set_option maxRecDepth 100000 in
set_option maxHeartbeats 4000000 in
theorem kX4_halveTrust (l : Launch) (g : XG) (S : MS) (p : Int32) : Ct l g MX4_halveTrust [.ref 0, .int p] (wP S) (Qv (fun w1 => w1 = wP (sHalve S p))) := by
  refine Ct_of (by decide) (by simp [Value.category]) (Nat.le_of_ble_eq_true rfl) ?_
  refine x_aload_n dX4_halveTrust_0 rfl ?_
  refine x_iload_n dX4_halveTrust_1 rfl ?_
  refine x_callp [0, 1, 2, 3, 4, 5] (x_iV dX4_halveTrust_2 mlX4_31 lbX4_exists rfl rfl rfl rfl) (kX4_exists l g S _) (by decide) rfl rfl (by decide) (by decide) (by simp [Value.category]) rfl rfl rfl ?_
  refine x_if_eq (tgt := 22) dX4_halveTrust_5 (by decide) (fun c_5 => ?_) (fun c_5 => ?_)
  · exact x_retv dX4_halveTrust_22 rfl rfl rfl (⟨rfl, by (try simp only [b2i_eq0, b2i_ne0] at *); first | (rw [sHalve, show (exB S p) = true by simp [inB, *]] <;> rfl) | (rw [sHalve, show (exB S p) = false by simp [inB, *]] <;> rfl)⟩)
  · refine x_aload_n dX4_halveTrust_8 rfl ?_
    refine x_getf dX4_halveTrust_9 flX4_18 rfl rfl ?_
    refine x_iload_n dX4_halveTrust_12 rfl ?_
    refine x_aload_n dX4_halveTrust_13 rfl ?_
    refine x_getf dX4_halveTrust_14 flX4_18 rfl rfl ?_
    refine x_iload_n dX4_halveTrust_17 rfl ?_
    refine x_iar dX4_halveTrust_18 rfl (ix_of (exB_in (b2i_t' (by assumption)))) ?_
    refine x_iconst (v := 2) dX4_halveTrust_19 (by decide) ?_
    refine x_idiv dX4_halveTrust_20 (by decide) ?_
    refine x_iaw dX4_halveTrust_21 rfl (ix_of (exB_in (b2i_t' (by assumption)))) ?_
    exact x_retv dX4_halveTrust_22 rfl rfl rfl (⟨rfl, by (try simp only [b2i_eq0, b2i_ne0] at *); first | (rw [sHalve, show (exB S p) = true by simp [inB, *]] <;> rfl) | (rw [sHalve, show (exB S p) = false by simp [inB, *]] <;> rfl)⟩)

theorem twoB_1 {S : MS} {p q : Int32} (h : twoB S p q = true) : vp_in p 12 := exB_in (S := S) (by simp only [twoB, Bool.and_eq_true] at h; exact h.1.2)
theorem twoB_2 {S : MS} {p q : Int32} (h : twoB S p q = true) : vp_in q 12 := exB_in (S := S) (by simp only [twoB, Bool.and_eq_true] at h; exact h.2)
theorem oddI {n : Nat} (h : n < 2 ^ 31) : (if nI n < nI n then nI n else nI n) = nI n := by split <;> rfl
/-- row p and column p of the debts, as far as i, are 0 -/
def zRC (f : Nat → Int32) (p i : Nat) : Nat → Int32 := fun k => if (k / 12 = p ∧ k % 12 < i) ∨ (k % 12 = p ∧ k / 12 < i) then 0 else f k
theorem zRC_0 (f : Nat → Int32) (p : Nat) : row 144 (zRC f p 0) = row 144 f := row_congr fun k hk => by
  simp only [zRC]; rw [if_neg]; omega
theorem zRC_s (f : Nat → Int32) {p i : Nat} (hp : p < 12) (hi : i < 12) : row 144 (upd (upd (zRC f p i) (12 * p + i) 0) (12 * i + p) 0) = row 144 (zRC f p (i + 1)) := row_congr fun k hk => by
  simp only [upd, zRC]
  by_cases h1 : k = 12 * i + p
  · rw [if_pos h1, if_pos (by omega)]
  · by_cases h2 : k = 12 * p + i
    · rw [if_neg h1, if_pos h2, if_pos (by omega)]
    · rw [if_neg h1, if_neg h2]
      by_cases h3 : (k / 12 = p ∧ k % 12 < i) ∨ (k % 12 = p ∧ k / 12 < i)
      · rw [if_pos h3, if_pos (by omega)]
      · rw [if_neg h3, if_neg (by omega)]
def sRem (S : MS) (p : Int32) : MS := cond (exB S p) (fun t => if t = 4 then zRC (S 4) (cl p) 12 else if t < 4 then upd (S t) (cl p) 0 else S t) S

set_option maxRecDepth 100000 in
set_option maxHeartbeats 4000000 in
theorem kX4_owe (l : Launch) (g : XG) (S : MS) (d c a : Int32) : Ct l g MX4_owe [.ref 0, .int d, .int c, .int a] (wP S) (Qv (fun w1 => w1 = wP (sOwe S d c a))) := by
  refine Ct_of (by decide) (by simp [Value.category]) (Nat.le_of_ble_eq_true rfl) ?_
  refine x_iload_n dX4_owe_0 rfl ?_
  refine x_iload_n dX4_owe_1 rfl ?_
  refine x_icmp_eq (tgt := 51) dX4_owe_2 (by decide) (fun c_2 => ?_) (fun c_2 => ?_)
  · exact x_retv dX4_owe_51 rfl rfl rfl (⟨rfl, by (try simp only [b2i_eq0, b2i_ne0] at *); first | (rw [sOwe, show (decide (¬ d = c) && exB S d && exB S c) = true by simp [inB, *]] <;> rfl) | (rw [sOwe, show (decide (¬ d = c) && exB S d && exB S c) = false by simp [inB, *]] <;> rfl)⟩)
  · refine x_aload_n dX4_owe_5 rfl ?_
    refine x_iload_n dX4_owe_6 rfl ?_
    refine x_callp [0, 1, 2, 3, 4, 5] (x_iV dX4_owe_7 mlX4_31 lbX4_exists rfl rfl rfl rfl) (kX4_exists l g S _) (by decide) rfl rfl (by decide) (by decide) (by simp [Value.category]) rfl rfl rfl ?_
    refine x_if_eq (tgt := 51) dX4_owe_10 (by decide) (fun c_10 => ?_) (fun c_10 => ?_)
    · exact x_retv dX4_owe_51 rfl rfl rfl (⟨rfl, by (try simp only [b2i_eq0, b2i_ne0] at *); first | (rw [sOwe, show (decide (¬ d = c) && exB S d && exB S c) = true by simp [inB, *]] <;> rfl) | (rw [sOwe, show (decide (¬ d = c) && exB S d && exB S c) = false by simp [inB, *]] <;> rfl)⟩)
    · refine x_aload_n dX4_owe_13 rfl ?_
      refine x_iload_n dX4_owe_14 rfl ?_
      refine x_callp [0, 1, 2, 3, 4, 5] (x_iV dX4_owe_15 mlX4_31 lbX4_exists rfl rfl rfl rfl) (kX4_exists l g S _) (by decide) rfl rfl (by decide) (by decide) (by simp [Value.category]) rfl rfl rfl ?_
      refine x_if_eq (tgt := 51) dX4_owe_18 (by decide) (fun c_18 => ?_) (fun c_18 => ?_)
      · exact x_retv dX4_owe_51 rfl rfl rfl (⟨rfl, by (try simp only [b2i_eq0, b2i_ne0] at *); first | (rw [sOwe, show (decide (¬ d = c) && exB S d && exB S c) = true by simp [inB, *]] <;> rfl) | (rw [sOwe, show (decide (¬ d = c) && exB S d && exB S c) = false by simp [inB, *]] <;> rfl)⟩)
      · refine x_aload_n dX4_owe_21 rfl ?_
        refine x_getf dX4_owe_22 flX4_24 rfl rfl ?_
        refine x_iload_n dX4_owe_25 rfl ?_
        refine x_bipush (v := 12) dX4_owe_26 (by decide) ?_
        refine x_imul dX4_owe_28 ?_
        refine x_iload_n dX4_owe_29 rfl ?_
        refine x_iadd dX4_owe_30 ?_
        refine x_dup2 dX4_owe_31 rfl rfl ?_
        refine x_iar dX4_owe_32 rfl ((ix_2 12 12 144 rfl rfl (by decide) (exB_in (b2i_t' c_10)) (exB_in (b2i_t' c_18)))) ?_
        refine x_iload_n dX4_owe_33 rfl ?_
        refine x_iadd dX4_owe_34 ?_
        refine x_iaw dX4_owe_35 rfl ((ix_2 12 12 144 rfl rfl (by decide) (exB_in (b2i_t' c_10)) (exB_in (b2i_t' c_18)))) ?_
        refine x_aload_n dX4_owe_36 rfl ?_
        refine x_getf dX4_owe_37 flX4_24 rfl rfl ?_
        refine x_iload_n dX4_owe_40 rfl ?_
        refine x_bipush (v := 12) dX4_owe_41 (by decide) ?_
        refine x_imul dX4_owe_43 ?_
        refine x_iload_n dX4_owe_44 rfl ?_
        refine x_iadd dX4_owe_45 ?_
        refine x_dup2 dX4_owe_46 rfl rfl ?_
        refine x_iar dX4_owe_47 rfl ((ix_2 12 12 144 rfl rfl (by decide) (exB_in (b2i_t' c_18)) (exB_in (b2i_t' c_10)))) ?_
        refine x_iload_n dX4_owe_48 rfl ?_
        refine x_isub dX4_owe_49 ?_
        refine x_iaw dX4_owe_50 rfl ((ix_2 12 12 144 rfl rfl (by decide) (exB_in (b2i_t' c_18)) (exB_in (b2i_t' c_10)))) ?_
        exact x_retv dX4_owe_51 rfl rfl rfl (⟨rfl, by (try simp only [b2i_eq0, b2i_ne0] at *); first | (rw [sOwe, show (decide (¬ d = c) && exB S d && exB S c) = true by simp [inB, *]] <;> rfl) | (rw [sOwe, show (decide (¬ d = c) && exB S d && exB S c) = false by simp [inB, *]] <;> rfl)⟩)

set_option maxRecDepth 100000 in
set_option maxHeartbeats 4000000 in
theorem kX4_owedBy (l : Launch) (g : XG) (S : MS) (p q : Int32) : Ct l g MX4_owedBy [.ref 0, .int p, .int q] (wP S) (Qp (owI S p q) (wP S)) := by
  refine Ct_of (by decide) (by simp [Value.category]) (Nat.le_of_ble_eq_true rfl) ?_
  refine x_aload_n dX4_owedBy_0 rfl ?_
  refine x_iload_n dX4_owedBy_1 rfl ?_
  refine x_iload_n dX4_owedBy_2 rfl ?_
  refine x_callp [0, 1, 2, 3, 4, 5] (x_iV dX4_owedBy_3 mlX4_48 lbX4_areTwo rfl rfl rfl rfl) (kX4_areTwo l g S _ _) (by decide) rfl rfl (by decide) (by decide) (by simp [Value.category]) rfl rfl rfl ?_
  refine x_if_eq (tgt := 23) dX4_owedBy_6 (by decide) (fun c_6 => ?_) (fun c_6 => ?_)
  · refine x_iconst (v := 0) dX4_owedBy_23 (by decide) ?_
    exact x_reti dX4_owedBy_24 rfl rfl rfl (⟨by (try simp only [b2i_eq0, b2i_ne0] at *); simp [owI, b2i, *], rfl⟩)
  · refine x_aload_n dX4_owedBy_9 rfl ?_
    refine x_getf dX4_owedBy_10 flX4_24 rfl rfl ?_
    refine x_iload_n dX4_owedBy_13 rfl ?_
    refine x_bipush (v := 12) dX4_owedBy_14 (by decide) ?_
    refine x_imul dX4_owedBy_16 ?_
    refine x_iload_n dX4_owedBy_17 rfl ?_
    refine x_iadd dX4_owedBy_18 ?_
    refine x_iar dX4_owedBy_19 rfl ((ix_2 12 12 144 rfl rfl (by decide) (twoB_1 (b2i_t' c_6)) (twoB_2 (b2i_t' c_6)))) ?_
    refine x_goto (tgt := 24) dX4_owedBy_20 (by decide) ?_
    exact x_reti dX4_owedBy_24 rfl rfl rfl (⟨by (try simp only [b2i_eq0, b2i_ne0] at *); simp [owI, b2i, *], rfl⟩)

set_option maxRecDepth 100000 in
set_option maxHeartbeats 4000000 in
theorem kX4_isBetterPlace (l : Launch) (g : XG) (S : MS) (p t : Int32) : Ct l g MX4_isBetterPlace [.ref 0, .int p, .int t] (wP S) (Qp (b2i (betB S p t)) (wP S)) := by
  refine Ct_of (by decide) (by simp [Value.category]) (Nat.le_of_ble_eq_true rfl) ?_
  refine x_aload_n dX4_isBetterPlace_0 rfl ?_
  refine x_iload_n dX4_isBetterPlace_1 rfl ?_
  refine x_callp [0, 1, 2, 3, 4, 5] (x_iV dX4_isBetterPlace_2 mlX4_31 lbX4_exists rfl rfl rfl rfl) (kX4_exists l g S _) (by decide) rfl rfl (by decide) (by decide) (by simp [Value.category]) rfl rfl rfl ?_
  refine x_if_ne (tgt := 10) dX4_isBetterPlace_5 (by decide) (fun c_5 => ?_) (fun c_5 => ?_)
  · refine x_aload_n dX4_isBetterPlace_10 rfl ?_
    refine x_iload_n dX4_isBetterPlace_11 rfl ?_
    refine x_callp [0, 1, 2, 3, 4, 5] (x_iV dX4_isBetterPlace_12 mlX4_31 lbX4_exists rfl rfl rfl rfl) (kX4_exists l g S _) (by decide) rfl rfl (by decide) (by decide) (by simp [Value.category]) rfl rfl rfl ?_
    refine x_if_ne (tgt := 20) dX4_isBetterPlace_15 (by decide) (fun c_15 => ?_) (fun c_15 => ?_)
    · refine x_aload_n dX4_isBetterPlace_20 rfl ?_
      refine x_getf dX4_isBetterPlace_21 flX4_18 rfl rfl ?_
      refine x_iload_n dX4_isBetterPlace_24 rfl ?_
      refine x_iar dX4_isBetterPlace_25 rfl (ix_of (exB_in (b2i_t' c_15))) ?_
      refine x_aload_n dX4_isBetterPlace_26 rfl ?_
      refine x_getf dX4_isBetterPlace_27 flX4_18 rfl rfl ?_
      refine x_iload_n dX4_isBetterPlace_30 rfl ?_
      refine x_iar dX4_isBetterPlace_31 rfl (ix_of (exB_in (b2i_t' c_5))) ?_
      refine x_icmp_eq (tgt := 56) dX4_isBetterPlace_32 (by decide) (fun c_32 => ?_) (fun c_32 => ?_)
      · refine x_aload_n dX4_isBetterPlace_56 rfl ?_
        refine x_iload_n dX4_isBetterPlace_57 rfl ?_
        refine x_callp [0, 1, 2, 3, 4, 5] (x_iV dX4_isBetterPlace_58 mlX4_38 lbX4_freeSpace rfl rfl rfl rfl) (kX4_freeSpace l g S _) (by decide) rfl rfl (by decide) (by decide) (by simp [Value.category]) rfl rfl rfl ?_
        refine x_aload_n dX4_isBetterPlace_61 rfl ?_
        refine x_iload_n dX4_isBetterPlace_62 rfl ?_
        refine x_callp [0, 1, 2, 3, 4, 5] (x_iV dX4_isBetterPlace_63 mlX4_38 lbX4_freeSpace rfl rfl rfl rfl) (kX4_freeSpace l g S _) (by decide) rfl rfl (by decide) (by decide) (by simp [Value.category]) rfl rfl rfl ?_
        refine x_icmp_le (tgt := 73) dX4_isBetterPlace_66 (by decide) (fun c_66 => ?_) (fun c_66 => ?_)
        · refine x_iconst (v := 0) dX4_isBetterPlace_73 (by decide) ?_
          exact x_retz dX4_isBetterPlace_74 rfl (rfl) rfl rfl (⟨by (try simp only [b2i_eq0, b2i_ne0] at *); simp [betB, b2i, *], rfl⟩)
        · refine x_iconst (v := 1) dX4_isBetterPlace_69 (by decide) ?_
          refine x_goto (tgt := 74) dX4_isBetterPlace_70 (by decide) ?_
          exact x_retz dX4_isBetterPlace_74 rfl (rfl) rfl rfl (⟨by (try simp only [b2i_eq0, b2i_ne0] at *); simp [betB, b2i, *], rfl⟩)
      · refine x_aload_n dX4_isBetterPlace_35 rfl ?_
        refine x_getf dX4_isBetterPlace_36 flX4_18 rfl rfl ?_
        refine x_iload_n dX4_isBetterPlace_39 rfl ?_
        refine x_iar dX4_isBetterPlace_40 rfl (ix_of (exB_in (b2i_t' c_15))) ?_
        refine x_aload_n dX4_isBetterPlace_41 rfl ?_
        refine x_getf dX4_isBetterPlace_42 flX4_18 rfl rfl ?_
        refine x_iload_n dX4_isBetterPlace_45 rfl ?_
        refine x_iar dX4_isBetterPlace_46 rfl (ix_of (exB_in (b2i_t' c_5))) ?_
        refine x_icmp_le (tgt := 54) dX4_isBetterPlace_47 (by decide) (fun c_47 => ?_) (fun c_47 => ?_)
        · refine x_iconst (v := 0) dX4_isBetterPlace_54 (by decide) ?_
          exact x_retz dX4_isBetterPlace_55 rfl (rfl) rfl rfl (⟨by (try simp only [b2i_eq0, b2i_ne0] at *); simp [betB, b2i, *], rfl⟩)
        · refine x_iconst (v := 1) dX4_isBetterPlace_50 (by decide) ?_
          refine x_goto (tgt := 55) dX4_isBetterPlace_51 (by decide) ?_
          exact x_retz dX4_isBetterPlace_55 rfl (rfl) rfl rfl (⟨by (try simp only [b2i_eq0, b2i_ne0] at *); simp [betB, b2i, *], rfl⟩)
    · refine x_iconst (v := 0) dX4_isBetterPlace_18 (by decide) ?_
      exact x_retz dX4_isBetterPlace_19 rfl (rfl) rfl rfl (⟨by (try simp only [b2i_eq0, b2i_ne0] at *); simp [betB, b2i, *], rfl⟩)
  · refine x_iconst (v := 1) dX4_isBetterPlace_8 (by decide) ?_
    exact x_retz dX4_isBetterPlace_9 rfl (rfl) rfl rfl (⟨by (try simp only [b2i_eq0, b2i_ne0] at *); simp [betB, b2i, *], rfl⟩)

set_option maxRecDepth 100000 in
set_option maxHeartbeats 4000000 in
theorem lpX4_sumOwedBy (l : Launch) (g : XG) (S : MS) (d : Int32)  : XA l g MX4_sumOwedBy (Qp (sumI (fun q => owI S d (nI q)) 12) (wP S)) 4 ((fun i => [some (.ref 0), some (.int d), some (.int (sumI (fun q => owI S d (nI q)) i)), some (.int (nI i))]) 0) ((fun _ => []) 0) ((fun _ => wP S) 0) 0 0 := by
  refine x_for 12 (fun _ => True) (fun i => [some (.ref 0), some (.int d), some (.int (sumI (fun q => owI S d (nI q)) i)), some (.int (nI i))]) (fun _ => []) (fun _ => wP S) trivial (fun i hi hp ih => ?_) (fun hp => ?_)
  · refine x_iload_n dX4_sumOwedBy_4 rfl ?_
    refine x_bipush (v := 12) dX4_sumOwedBy_5 (by decide) ?_
    refine x_icmp_ge_f (tgt := 25) dX4_sumOwedBy_7 (by decide) (nI_nle_of rfl (by decide) hi) ?_
    refine x_iload_n dX4_sumOwedBy_10 rfl ?_
    refine x_aload_n dX4_sumOwedBy_11 rfl ?_
    refine x_iload_n dX4_sumOwedBy_12 rfl ?_
    refine x_iload_n dX4_sumOwedBy_13 rfl ?_
    refine x_callp [0, 1, 2, 3, 4, 5] (x_iV dX4_sumOwedBy_14 mlX4_52 lbX4_owedBy rfl rfl rfl rfl) (kX4_owedBy l g S _ _) (by decide) rfl rfl (by decide) (by decide) (by simp [Value.category]) rfl rfl rfl ?_
    refine x_iadd dX4_sumOwedBy_17 ?_
    refine x_istore_n dX4_sumOwedBy_18 (by decide) ?_
    first | refine x_iinc dX4_sumOwedBy_19 (by decide) rfl (nI_inc _) ?_ | refine x_iinc dX4_sumOwedBy_19 (by decide) rfl (inc_1 _) ?_
    refine x_goto (tgt := 4) dX4_sumOwedBy_22 (by decide) ?_
    exact x_eq (ih trivial) (by simp [sumI]) rfl rfl
  · refine x_iload_n dX4_sumOwedBy_4 rfl ?_
    refine x_bipush (v := 12) dX4_sumOwedBy_5 (by decide) ?_
    refine x_icmp_ge_t (tgt := 25) dX4_sumOwedBy_7 (by decide) (nI_le_of rfl (by decide) (Nat.le_refl _)) ?_
    refine x_iload_n dX4_sumOwedBy_25 rfl ?_
    exact x_reti dX4_sumOwedBy_26 rfl rfl rfl (⟨rfl, rfl⟩)

set_option maxRecDepth 100000 in
set_option maxHeartbeats 4000000 in
theorem kX4_sumOwedBy (l : Launch) (g : XG) (S : MS) (d : Int32) : Ct l g MX4_sumOwedBy [.ref 0, .int d] (wP S) (Qp (sumI (fun q => owI S d (nI q)) 12) (wP S)) := by
  refine Ct_of (by decide) (by simp [Value.category]) (Nat.le_of_ble_eq_true rfl) ?_
  refine x_iconst (v := 0) dX4_sumOwedBy_0 (by decide) ?_
  refine x_istore_n dX4_sumOwedBy_1 (by decide) ?_
  refine x_iconst (v := 0) dX4_sumOwedBy_2 (by decide) ?_
  refine x_istore_n dX4_sumOwedBy_3 (by decide) ?_
  exact lpX4_sumOwedBy l g S d

set_option maxRecDepth 100000 in
set_option maxHeartbeats 4000000 in
theorem lpX4_sumOfDebts (l : Launch) (g : XG) (S : MS)  : XA l g MX4_sumOfDebts (Qp (sumI (fun k => if S 4 k < 0 then 0 else S 4 k) 144) (wP S)) 4 ((fun i => [some (.ref 0), some (.int (sumI (fun k => if S 4 k < 0 then 0 else S 4 k) i)), some (.int (nI i))]) 0) ((fun _ => []) 0) ((fun _ => wP S) 0) 0 0 := by
  refine x_for 144 (fun _ => True) (fun i => [some (.ref 0), some (.int (sumI (fun k => if S 4 k < 0 then 0 else S 4 k) i)), some (.int (nI i))]) (fun _ => []) (fun _ => wP S) trivial (fun i hi hp ih => ?_) (fun hp => ?_)
  · refine x_iload_n dX4_sumOfDebts_4 rfl ?_
    refine x_sipush (v := 144) dX4_sumOfDebts_5 (by decide) ?_
    refine x_icmp_ge_f (tgt := 30) dX4_sumOfDebts_8 (by decide) (nI_nle_of rfl (by decide) hi) ?_
    refine x_iload_n dX4_sumOfDebts_11 rfl ?_
    refine x_aload_n dX4_sumOfDebts_12 rfl ?_
    refine x_getf dX4_sumOfDebts_13 flX4_24 rfl rfl ?_
    refine x_iload_n dX4_sumOfDebts_16 rfl ?_
    refine x_iar dX4_sumOfDebts_17 rfl (ix_nI hi (by decide)) ?_
    refine x_iconst (v := 0) dX4_sumOfDebts_18 (by decide) ?_
    refine x_max dX4_sumOfDebts_19 mlX4_55 w_max1 w_math w_max3 (by decide) (by decide) (by decide) (by simp [Value.category]) ?_
    refine x_iadd dX4_sumOfDebts_22 ?_
    refine x_istore_n dX4_sumOfDebts_23 (by decide) ?_
    first | refine x_iinc dX4_sumOfDebts_24 (by decide) rfl (nI_inc _) ?_ | refine x_iinc dX4_sumOfDebts_24 (by decide) rfl (inc_1 _) ?_
    refine x_goto (tgt := 4) dX4_sumOfDebts_27 (by decide) ?_
    exact x_eq (ih trivial) (by simp [sumI]) rfl rfl
  · refine x_iload_n dX4_sumOfDebts_4 rfl ?_
    refine x_sipush (v := 144) dX4_sumOfDebts_5 (by decide) ?_
    refine x_icmp_ge_t (tgt := 30) dX4_sumOfDebts_8 (by decide) (nI_le_of rfl (by decide) (Nat.le_refl _)) ?_
    refine x_iload_n dX4_sumOfDebts_30 rfl ?_
    exact x_reti dX4_sumOfDebts_31 rfl rfl rfl (⟨rfl, rfl⟩)

set_option maxRecDepth 100000 in
set_option maxHeartbeats 4000000 in
theorem kX4_sumOfDebts (l : Launch) (g : XG) (S : MS) : Ct l g MX4_sumOfDebts [.ref 0] (wP S) (Qp (sumI (fun k => if S 4 k < 0 then 0 else S 4 k) 144) (wP S)) := by
  refine Ct_of (by decide) (by simp [Value.category]) (Nat.le_of_ble_eq_true rfl) ?_
  refine x_iconst (v := 0) dX4_sumOfDebts_0 (by decide) ?_
  refine x_istore_n dX4_sumOfDebts_1 (by decide) ?_
  refine x_iconst (v := 0) dX4_sumOfDebts_2 (by decide) ?_
  refine x_istore_n dX4_sumOfDebts_3 (by decide) ?_
  exact lpX4_sumOfDebts l g S

set_option maxRecDepth 100000 in
set_option maxHeartbeats 4000000 in
theorem lpX4_remove (l : Launch) (g : XG) (S : MS) (p : Int32) (hx : exB S p = true) : XA l g MX4_remove (Qv (fun w1 => w1 = wP (sRem S p))) 11 ((fun i => [some (.ref 0), some (.int p), some (.int (nI i))]) 0) ((fun _ => []) 0) ((fun i => [.inr (.inr (4, [.ref 1, .ref 2, .ref 3, .ref 4, .ref 5])), .inl (row 12 (S 0)), .inl (row 12 (S 1)), .inl (row 12 (S 2)), .inl (row 12 (S 3)), .inl (row 144 (zRC (S 4) (cl p) i))]) 0) 0 0 := by
  refine x_for 12 (fun _ => True) (fun i => [some (.ref 0), some (.int p), some (.int (nI i))]) (fun _ => []) (fun i => [.inr (.inr (4, [.ref 1, .ref 2, .ref 3, .ref 4, .ref 5])), .inl (row 12 (S 0)), .inl (row 12 (S 1)), .inl (row 12 (S 2)), .inl (row 12 (S 3)), .inl (row 144 (zRC (S 4) (cl p) i))]) trivial (fun i hi hp ih => ?_) (fun hp => ?_)
  · refine x_iload_n dX4_remove_11 rfl ?_
    refine x_bipush (v := 12) dX4_remove_12 (by decide) ?_
    refine x_icmp_ge_f (tgt := 47) dX4_remove_14 (by decide) (nI_nle_of rfl (by decide) hi) ?_
    refine x_aload_n dX4_remove_17 rfl ?_
    refine x_getf dX4_remove_18 flX4_24 rfl rfl ?_
    refine x_iload_n dX4_remove_21 rfl ?_
    refine x_bipush (v := 12) dX4_remove_22 (by decide) ?_
    refine x_imul dX4_remove_24 ?_
    refine x_iload_n dX4_remove_25 rfl ?_
    refine x_iadd dX4_remove_26 ?_
    refine x_iconst (v := 0) dX4_remove_27 (by decide) ?_
    refine x_iaw dX4_remove_28 rfl ((ix_2 12 12 144 rfl rfl (by decide) (exB_in hx) (vin_nI (by decide) hi))) ?_
    refine x_aload_n dX4_remove_29 rfl ?_
    refine x_getf dX4_remove_30 flX4_24 rfl rfl ?_
    refine x_iload_n dX4_remove_33 rfl ?_
    refine x_bipush (v := 12) dX4_remove_34 (by decide) ?_
    refine x_imul dX4_remove_36 ?_
    refine x_iload_n dX4_remove_37 rfl ?_
    refine x_iadd dX4_remove_38 ?_
    refine x_iconst (v := 0) dX4_remove_39 (by decide) ?_
    refine x_iaw dX4_remove_40 rfl ((ix_2 12 12 144 rfl rfl (by decide) (vin_nI (by decide) hi) (exB_in hx))) ?_
    first | refine x_iinc dX4_remove_41 (by decide) rfl (nI_inc _) ?_ | refine x_iinc dX4_remove_41 (by decide) rfl (inc_1 _) ?_
    refine x_goto (tgt := 11) dX4_remove_44 (by decide) ?_
    refine x_eq (ih trivial) rfl rfl ?_
    rw [show cl (nI i) = i from nI_clamp (by omega)]
    exact congrArg (fun z => [Sum.inr (Sum.inr (4, [Value.ref 1, .ref 2, .ref 3, .ref 4, .ref 5])), .inl (row 12 (S 0)), .inl (row 12 (S 1)), .inl (row 12 (S 2)), .inl (row 12 (S 3)), Sum.inl z]) (zRC_s (S 4) (vin_iff.mp (exB_in hx)).2 hi)
  · refine x_iload_n dX4_remove_11 rfl ?_
    refine x_bipush (v := 12) dX4_remove_12 (by decide) ?_
    refine x_icmp_ge_t (tgt := 47) dX4_remove_14 (by decide) (nI_le_of rfl (by decide) (Nat.le_refl _)) ?_
    refine x_aload_n dX4_remove_47 rfl ?_
    refine x_getf dX4_remove_48 flX4_9 rfl rfl ?_
    refine x_iload_n dX4_remove_51 rfl ?_
    refine x_iconst (v := 0) dX4_remove_52 (by decide) ?_
    refine x_iaw dX4_remove_53 rfl (ix_of (exB_in hx)) ?_
    refine x_aload_n dX4_remove_54 rfl ?_
    refine x_getf dX4_remove_55 flX4_15 rfl rfl ?_
    refine x_iload_n dX4_remove_58 rfl ?_
    refine x_iconst (v := 0) dX4_remove_59 (by decide) ?_
    refine x_iaw dX4_remove_60 rfl (ix_of (exB_in hx)) ?_
    refine x_aload_n dX4_remove_61 rfl ?_
    refine x_getf dX4_remove_62 flX4_18 rfl rfl ?_
    refine x_iload_n dX4_remove_65 rfl ?_
    refine x_iconst (v := 0) dX4_remove_66 (by decide) ?_
    refine x_iaw dX4_remove_67 rfl (ix_of (exB_in hx)) ?_
    refine x_aload_n dX4_remove_68 rfl ?_
    refine x_getf dX4_remove_69 flX4_21 rfl rfl ?_
    refine x_iload_n dX4_remove_72 rfl ?_
    refine x_iconst (v := 0) dX4_remove_73 (by decide) ?_
    refine x_iaw dX4_remove_74 rfl (ix_of (exB_in hx)) ?_
    exact x_retv dX4_remove_75 rfl rfl rfl (⟨rfl, by rw [sRem, hx] <;> rfl⟩)

set_option maxRecDepth 100000 in
set_option maxHeartbeats 4000000 in
theorem kX4_remove (l : Launch) (g : XG) (S : MS) (p : Int32) : Ct l g MX4_remove [.ref 0, .int p] (wP S) (Qv (fun w1 => w1 = wP (sRem S p))) := by
  refine Ct_of (by decide) (by simp [Value.category]) (Nat.le_of_ble_eq_true rfl) ?_
  refine x_aload_n dX4_remove_0 rfl ?_
  refine x_iload_n dX4_remove_1 rfl ?_
  refine x_callp [0, 1, 2, 3, 4, 5] (x_iV dX4_remove_2 mlX4_31 lbX4_exists rfl rfl rfl rfl) (kX4_exists l g S _) (by decide) rfl rfl (by decide) (by decide) (by simp [Value.category]) rfl rfl rfl ?_
  refine x_if_ne (tgt := 9) dX4_remove_5 (by decide) (fun c_5 => ?_) (fun c_5 => ?_)
  · refine x_iconst (v := 0) dX4_remove_9 (by decide) ?_
    refine x_istore_n dX4_remove_10 (by decide) ?_
    refine x_eq (lpX4_remove l g S p (b2i_t' (by assumption))) rfl rfl ?_
    show _ = [_, _, _, _, _, Sum.inl (row 144 (zRC (S 4) (cl p) 0))]
    rw [zRC_0]
  · exact x_retv dX4_remove_8 rfl rfl rfl (⟨rfl, by rw [sRem, b2i_f' c_5] <;> rfl⟩)

set_option maxRecDepth 100000 in
set_option maxHeartbeats 4000000 in
theorem kX6_copyRow (l : Launch) (g : XG) (n : Nat) (hn : n < 2 ^ 31) (f f2 : Nat → Int32) : Ct l g MX6_copyRow [.ref 0, .ref 1] ([.inl (row n f), .inl (row n f2)]) (Qv (fun w1 => w1 = [.inl (row n f), .inl (row n f)])) := by
  refine Ct_of (by decide) (by simp [Value.category]) (Nat.le_of_ble_eq_true rfl) ?_
  refine x_aload_n dX6_copyRow_0 rfl ?_
  refine x_iconst (v := 0) dX6_copyRow_1 (by decide) ?_
  refine x_aload_n dX6_copyRow_2 rfl ?_
  refine x_iconst (v := 0) dX6_copyRow_3 (by decide) ?_
  refine x_aload_n dX6_copyRow_4 rfl ?_
  refine x_alr dX6_copyRow_5 rfl ?_
  refine x_aload_n dX6_copyRow_6 rfl ?_
  refine x_alr dX6_copyRow_7 rfl ?_
  refine x_min dX6_copyRow_8 mlX6_212 w_min1 w_math w_min3 (by decide) (by decide) (by decide) (by simp [Value.category]) ?_
  refine x_copy dX6_copyRow_11 mlX6_245 w_cp1 w_cp2 w_sys (by decide) rfl rfl (by rw [oddI hn]; exact nI_pos hn) (by rw [oddI hn, row_len]; exact nI_clamp hn) (by rw [row_len, row_len]) (by simp [Value.category]) ?_
  exact x_retv dX6_copyRow_14 rfl rfl rfl (⟨rfl, rfl⟩)

set_option maxRecDepth 100000 in
set_option maxHeartbeats 4000000 in
theorem kX4_copyFrom (l : Launch) (g : XG) (S S2 : MS) : Ct l g MX4_copyFrom [.ref 0, .ref 6] (wP S ++ [.inr (.inr (4, [.ref 7, .ref 8, .ref 9, .ref 10, .ref 11])), .inl (row 12 (S2 0)), .inl (row 12 (S2 1)), .inl (row 12 (S2 2)), .inl (row 12 (S2 3)), .inl (row 144 (S2 4))]) (Qv (fun w1 => w1 = wP S2 ++ [.inr (.inr (4, [.ref 7, .ref 8, .ref 9, .ref 10, .ref 11])), .inl (row 12 (S2 0)), .inl (row 12 (S2 1)), .inl (row 12 (S2 2)), .inl (row 12 (S2 3)), .inl (row 144 (S2 4))])) := by
  refine Ct_of (by decide) (by simp [Value.category]) (Nat.le_of_ble_eq_true rfl) ?_
  refine x_aload_n dX4_copyFrom_0 rfl ?_
  refine x_getf dX4_copyFrom_1 flX4_9 rfl rfl ?_
  refine x_aload_n dX4_copyFrom_4 rfl ?_
  refine x_getf dX4_copyFrom_5 flX4_9 rfl rfl ?_
  refine x_callv [7, 1] (x_iSN dX4_copyFrom_8 mlX4_27 lbX6_copyRow rfl) (kX6_copyRow l g 12 (by decide) (S2 0) (S 0)) (by decide) (by decide) (by decide) (by simp [Value.category]) rfl rfl rfl (fun w1 h1 => ?_)
  obtain rfl := h1
  show XA _ _ _ _ _ _ _ ([.inr (.inr (4, [.ref 1, .ref 2, .ref 3, .ref 4, .ref 5])), .inl (row 12 (S2 0)), .inl (row 12 (S 1)), .inl (row 12 (S 2)), .inl (row 12 (S 3)), .inl (row 144 (S 4))] ++ [.inr (.inr (4, [.ref 7, .ref 8, .ref 9, .ref 10, .ref 11])), .inl (row 12 (S2 0)), .inl (row 12 (S2 1)), .inl (row 12 (S2 2)), .inl (row 12 (S2 3)), .inl (row 144 (S2 4))]) _ _
  refine x_aload_n dX4_copyFrom_11 rfl ?_
  refine x_getf dX4_copyFrom_12 flX4_15 rfl rfl ?_
  refine x_aload_n dX4_copyFrom_15 rfl ?_
  refine x_getf dX4_copyFrom_16 flX4_15 rfl rfl ?_
  refine x_callv [8, 2] (x_iSN dX4_copyFrom_19 mlX4_27 lbX6_copyRow rfl) (kX6_copyRow l g 12 (by decide) (S2 1) (S 1)) (by decide) (by decide) (by decide) (by simp [Value.category]) rfl rfl rfl (fun w1 h1 => ?_)
  obtain rfl := h1
  show XA _ _ _ _ _ _ _ ([.inr (.inr (4, [.ref 1, .ref 2, .ref 3, .ref 4, .ref 5])), .inl (row 12 (S2 0)), .inl (row 12 (S2 1)), .inl (row 12 (S 2)), .inl (row 12 (S 3)), .inl (row 144 (S 4))] ++ [.inr (.inr (4, [.ref 7, .ref 8, .ref 9, .ref 10, .ref 11])), .inl (row 12 (S2 0)), .inl (row 12 (S2 1)), .inl (row 12 (S2 2)), .inl (row 12 (S2 3)), .inl (row 144 (S2 4))]) _ _
  refine x_aload_n dX4_copyFrom_22 rfl ?_
  refine x_getf dX4_copyFrom_23 flX4_18 rfl rfl ?_
  refine x_aload_n dX4_copyFrom_26 rfl ?_
  refine x_getf dX4_copyFrom_27 flX4_18 rfl rfl ?_
  refine x_callv [9, 3] (x_iSN dX4_copyFrom_30 mlX4_27 lbX6_copyRow rfl) (kX6_copyRow l g 12 (by decide) (S2 2) (S 2)) (by decide) (by decide) (by decide) (by simp [Value.category]) rfl rfl rfl (fun w1 h1 => ?_)
  obtain rfl := h1
  show XA _ _ _ _ _ _ _ ([.inr (.inr (4, [.ref 1, .ref 2, .ref 3, .ref 4, .ref 5])), .inl (row 12 (S2 0)), .inl (row 12 (S2 1)), .inl (row 12 (S2 2)), .inl (row 12 (S 3)), .inl (row 144 (S 4))] ++ [.inr (.inr (4, [.ref 7, .ref 8, .ref 9, .ref 10, .ref 11])), .inl (row 12 (S2 0)), .inl (row 12 (S2 1)), .inl (row 12 (S2 2)), .inl (row 12 (S2 3)), .inl (row 144 (S2 4))]) _ _
  refine x_aload_n dX4_copyFrom_33 rfl ?_
  refine x_getf dX4_copyFrom_34 flX4_21 rfl rfl ?_
  refine x_aload_n dX4_copyFrom_37 rfl ?_
  refine x_getf dX4_copyFrom_38 flX4_21 rfl rfl ?_
  refine x_callv [10, 4] (x_iSN dX4_copyFrom_41 mlX4_27 lbX6_copyRow rfl) (kX6_copyRow l g 12 (by decide) (S2 3) (S 3)) (by decide) (by decide) (by decide) (by simp [Value.category]) rfl rfl rfl (fun w1 h1 => ?_)
  obtain rfl := h1
  show XA _ _ _ _ _ _ _ ([.inr (.inr (4, [.ref 1, .ref 2, .ref 3, .ref 4, .ref 5])), .inl (row 12 (S2 0)), .inl (row 12 (S2 1)), .inl (row 12 (S2 2)), .inl (row 12 (S2 3)), .inl (row 144 (S 4))] ++ [.inr (.inr (4, [.ref 7, .ref 8, .ref 9, .ref 10, .ref 11])), .inl (row 12 (S2 0)), .inl (row 12 (S2 1)), .inl (row 12 (S2 2)), .inl (row 12 (S2 3)), .inl (row 144 (S2 4))]) _ _
  refine x_aload_n dX4_copyFrom_44 rfl ?_
  refine x_getf dX4_copyFrom_45 flX4_24 rfl rfl ?_
  refine x_aload_n dX4_copyFrom_48 rfl ?_
  refine x_getf dX4_copyFrom_49 flX4_24 rfl rfl ?_
  refine x_callv [11, 5] (x_iSN dX4_copyFrom_52 mlX4_27 lbX6_copyRow rfl) (kX6_copyRow l g 144 (by decide) (S2 4) (S 4)) (by decide) (by decide) (by decide) (by simp [Value.category]) rfl rfl rfl (fun w1 h1 => ?_)
  obtain rfl := h1
  show XA _ _ _ _ _ _ _ ([.inr (.inr (4, [.ref 1, .ref 2, .ref 3, .ref 4, .ref 5])), .inl (row 12 (S2 0)), .inl (row 12 (S2 1)), .inl (row 12 (S2 2)), .inl (row 12 (S2 3)), .inl (row 144 (S2 4))] ++ [.inr (.inr (4, [.ref 7, .ref 8, .ref 9, .ref 10, .ref 11])), .inl (row 12 (S2 0)), .inl (row 12 (S2 1)), .inl (row 12 (S2 2)), .inl (row 12 (S2 3)), .inl (row 144 (S2 4))]) _ _
  exact x_retv dX4_copyFrom_55 rfl rfl rfl (⟨rfl, rfl⟩)
end
section
/-! ===== the files ===== -/
theorem nI_lt_cl {i : Nat} {x : Int32} (hi : i < 2 ^ 31) : nI i < x ↔ i < cl x := by
  rw [Int32.lt_iff_toInt_lt, nI_toInt hi]
  show (i : Int) < x.toInt ↔ i < x.toInt.toNat
  omega
theorem cl_lt (x : Int32) : cl x < 2 ^ 31 := by
  show x.toInt.toNat < 2 ^ 31
  have := Int32.toInt_lt x
  omega
theorem nge_cl {i : Nat} {x : Int32} (hi : i < cl x) : ¬ x ≤ nI i := Int32.not_le.mpr ((nI_lt_cl (by have := cl_lt x; omega)).mpr hi)
theorem ge_cl {x : Int32} : x ≤ nI (cl x) := Int32.not_lt.mp fun z => Nat.lt_irrefl _ ((nI_lt_cl (cl_lt x)).mp z)
def allB (f : Nat → Bool) : Nat → Bool
  | 0 => true
  | n + 1 => allB f n && f n
theorem allB_t {f : Nat → Bool} : ∀ {n : Nat}, allB f n = true ↔ ∀ k, k < n → f k = true
  | 0 => by simp [allB]
  | n + 1 => by
    rw [allB, Bool.and_eq_true, allB_t]
    constructor
    · rintro ⟨h1, h2⟩ k hk
      rcases Nat.lt_succ_iff_lt_or_eq.mp hk with h | h
      · exact h1 k h
      · rw [h]; exact h2
    · exact fun h => ⟨fun k hk => h k (by omega), h n (by omega)⟩
theorem allB_f {f : Nat → Bool} {n k : Nat} (hk : k < n) (h : f k = false) : allB f n = false := by
  cases ha : allB f n with
  | false => rfl
  | true => rw [allB_t.mp ha k hk] at h; cases h
def exF (S : MS) (f : Int32) : Bool := inB f 8 && decide (¬ S 5 (cl f) ≤ 0)
def daI (S : MS) (f : Int32) : Int32 := if inB f 8 then S 5 (cl f) else 0
def fnI (S : MS) (f : Int32) : Int32 := if inB f 8 then S 5 (cl f) + S 6 (cl f) else 0
def hfB (S : MS) (f i : Int32) : Bool := decide (¬ i < 0) && decide (¬ fnI S f ≤ i)
def hdB (S : MS) (f i : Int32) : Bool := decide (¬ i < 0) && decide (¬ daI S f ≤ i)
def foI (S : MS) (f : Int32) : Int32 := if inB f 8 then S 7 (cl f) else -1
def irB (f i : Int32) : Bool := inB f 8 && inB i 10
def plI (S : MS) (f i : Int32) : Int32 := if irB f i then S 9 (10 * cl f + cl i) else -1
def coI (S : MS) (f i : Int32) : Int32 := if irB f i then S 8 (10 * cl f + cl i) else 0
def erI (S : MS) (f i : Int32) : Int32 := if irB f i then S 10 (10 * cl f + cl i) else 0
def remI (x d : Int32) : Int32 := x - x / d * d
def svI (S : MS) (f i : Int32) : Int32 := remI (coI S f i + erI S f i) 257
def stB (S : MS) (f i : Int32) : Bool := decide (¬ plI S f i = -1)
def spB (S : MS) (f i : Int32) : Bool := stB S f i && decide (¬ erI S f i = 0)
theorem inB_v {p : Int32} {n : Nat} {c : Int32} (hc : c = nI n) (hn : n < 2 ^ 31) (h : inB p c = true) : vp_in p n := by
  simp only [inB, Bool.and_eq_true, decide_eq_true_eq] at h
  exact vin_of n hn hc h.1 h.2
theorem irB_1 {f i : Int32} (h : irB f i = true) : vp_in f 8 := inB_v rfl (by decide) (by simp only [irB, Bool.and_eq_true] at h; exact h.1)
theorem irB_2 {f i : Int32} (h : irB f i = true) : vp_in i 10 := inB_v rfl (by decide) (by simp only [irB, Bool.and_eq_true] at h; exact h.2)
theorem exF_in {S : MS} {f : Int32} (h : exF S f = true) : vp_in f 8 := inB_v rfl (by decide) (by simp only [exF, Bool.and_eq_true] at h; exact h.1)

set_option maxRecDepth 100000 in
set_option maxHeartbeats 4000000 in
theorem kX2_exists (l : Launch) (g : XG) (S : MS) (f : Int32) : Ct l g MX2_exists [.ref 0, .int f] (wF S) (Qp (b2i (exF S f)) (wF S)) := by
  refine Ct_of (by decide) (by simp [Value.category]) (Nat.le_of_ble_eq_true rfl) ?_
  refine x_iload_n dX2_exists_0 rfl ?_
  refine x_if_lt (tgt := 23) dX2_exists_1 (by decide) (fun c_1 => ?_) (fun c_1 => ?_)
  · refine x_iconst (v := 0) dX2_exists_23 (by decide) ?_
    exact x_retz dX2_exists_24 rfl (rfl) rfl rfl (⟨by (try simp only [b2i_eq0, b2i_ne0] at *); simp [exF, inB, b2i, *], rfl⟩)
  · refine x_iload_n dX2_exists_4 rfl ?_
    refine x_bipush (v := 8) dX2_exists_5 (by decide) ?_
    refine x_icmp_ge (tgt := 23) dX2_exists_7 (by decide) (fun c_7 => ?_) (fun c_7 => ?_)
    · refine x_iconst (v := 0) dX2_exists_23 (by decide) ?_
      exact x_retz dX2_exists_24 rfl (rfl) rfl rfl (⟨by (try simp only [b2i_eq0, b2i_ne0] at *); simp [exF, inB, b2i, *], rfl⟩)
    · refine x_aload_n dX2_exists_10 rfl ?_
      refine x_getf dX2_exists_11 flX2_9 rfl rfl ?_
      refine x_iload_n dX2_exists_14 rfl ?_
      refine x_iar dX2_exists_15 rfl (ix_of (vin_of 8 (by decide) rfl (by assumption) (by assumption))) ?_
      refine x_if_le (tgt := 23) dX2_exists_16 (by decide) (fun c_16 => ?_) (fun c_16 => ?_)
      · refine x_iconst (v := 0) dX2_exists_23 (by decide) ?_
        exact x_retz dX2_exists_24 rfl (rfl) rfl rfl (⟨by (try simp only [b2i_eq0, b2i_ne0] at *); simp [exF, inB, b2i, *], rfl⟩)
      · refine x_iconst (v := 1) dX2_exists_19 (by decide) ?_
        refine x_goto (tgt := 24) dX2_exists_20 (by decide) ?_
        exact x_retz dX2_exists_24 rfl (rfl) rfl rfl (⟨by (try simp only [b2i_eq0, b2i_ne0] at *); simp [exF, inB, b2i, *], rfl⟩)

set_option maxRecDepth 100000 in
set_option maxHeartbeats 4000000 in
theorem kX2_dataOf (l : Launch) (g : XG) (S : MS) (f : Int32) : Ct l g MX2_dataOf [.ref 0, .int f] (wF S) (Qp (daI S f) (wF S)) := by
  refine Ct_of (by decide) (by simp [Value.category]) (Nat.le_of_ble_eq_true rfl) ?_
  refine x_iload_n dX2_dataOf_0 rfl ?_
  refine x_if_lt (tgt := 19) dX2_dataOf_1 (by decide) (fun c_1 => ?_) (fun c_1 => ?_)
  · refine x_iconst (v := 0) dX2_dataOf_19 (by decide) ?_
    exact x_reti dX2_dataOf_20 rfl rfl rfl (⟨by (try simp only [b2i_eq0, b2i_ne0] at *); simp [daI, inB, b2i, *], rfl⟩)
  · refine x_iload_n dX2_dataOf_4 rfl ?_
    refine x_bipush (v := 8) dX2_dataOf_5 (by decide) ?_
    refine x_icmp_ge (tgt := 19) dX2_dataOf_7 (by decide) (fun c_7 => ?_) (fun c_7 => ?_)
    · refine x_iconst (v := 0) dX2_dataOf_19 (by decide) ?_
      exact x_reti dX2_dataOf_20 rfl rfl rfl (⟨by (try simp only [b2i_eq0, b2i_ne0] at *); simp [daI, inB, b2i, *], rfl⟩)
    · refine x_aload_n dX2_dataOf_10 rfl ?_
      refine x_getf dX2_dataOf_11 flX2_9 rfl rfl ?_
      refine x_iload_n dX2_dataOf_14 rfl ?_
      refine x_iar dX2_dataOf_15 rfl (ix_of (vin_of 8 (by decide) rfl (by assumption) (by assumption))) ?_
      refine x_goto (tgt := 20) dX2_dataOf_16 (by decide) ?_
      exact x_reti dX2_dataOf_20 rfl rfl rfl (⟨by (try simp only [b2i_eq0, b2i_ne0] at *); simp [daI, inB, b2i, *], rfl⟩)

set_option maxRecDepth 100000 in
set_option maxHeartbeats 4000000 in
theorem kX2_fragmentNumber (l : Launch) (g : XG) (S : MS) (f : Int32) : Ct l g MX2_fragmentNumber [.ref 0, .int f] (wF S) (Qp (fnI S f) (wF S)) := by
  refine Ct_of (by decide) (by simp [Value.category]) (Nat.le_of_ble_eq_true rfl) ?_
  refine x_iload_n dX2_fragmentNumber_0 rfl ?_
  refine x_if_lt (tgt := 26) dX2_fragmentNumber_1 (by decide) (fun c_1 => ?_) (fun c_1 => ?_)
  · refine x_iconst (v := 0) dX2_fragmentNumber_26 (by decide) ?_
    exact x_reti dX2_fragmentNumber_27 rfl rfl rfl (⟨by (try simp only [b2i_eq0, b2i_ne0] at *); simp [fnI, inB, b2i, *], rfl⟩)
  · refine x_iload_n dX2_fragmentNumber_4 rfl ?_
    refine x_bipush (v := 8) dX2_fragmentNumber_5 (by decide) ?_
    refine x_icmp_ge (tgt := 26) dX2_fragmentNumber_7 (by decide) (fun c_7 => ?_) (fun c_7 => ?_)
    · refine x_iconst (v := 0) dX2_fragmentNumber_26 (by decide) ?_
      exact x_reti dX2_fragmentNumber_27 rfl rfl rfl (⟨by (try simp only [b2i_eq0, b2i_ne0] at *); simp [fnI, inB, b2i, *], rfl⟩)
    · refine x_aload_n dX2_fragmentNumber_10 rfl ?_
      refine x_getf dX2_fragmentNumber_11 flX2_9 rfl rfl ?_
      refine x_iload_n dX2_fragmentNumber_14 rfl ?_
      refine x_iar dX2_fragmentNumber_15 rfl (ix_of (vin_of 8 (by decide) rfl (by assumption) (by assumption))) ?_
      refine x_aload_n dX2_fragmentNumber_16 rfl ?_
      refine x_getf dX2_fragmentNumber_17 flX2_15 rfl rfl ?_
      refine x_iload_n dX2_fragmentNumber_20 rfl ?_
      refine x_iar dX2_fragmentNumber_21 rfl (ix_of (vin_of 8 (by decide) rfl (by assumption) (by assumption))) ?_
      refine x_iadd dX2_fragmentNumber_22 ?_
      refine x_goto (tgt := 27) dX2_fragmentNumber_23 (by decide) ?_
      exact x_reti dX2_fragmentNumber_27 rfl rfl rfl (⟨by (try simp only [b2i_eq0, b2i_ne0] at *); simp [fnI, inB, b2i, *], rfl⟩)

set_option maxRecDepth 100000 in
set_option maxHeartbeats 4000000 in
theorem kX2_hasFragment (l : Launch) (g : XG) (S : MS) (f i : Int32) : Ct l g MX2_hasFragment [.ref 0, .int f, .int i] (wF S) (Qp (b2i (hfB S f i)) (wF S)) := by
  refine Ct_of (by decide) (by simp [Value.category]) (Nat.le_of_ble_eq_true rfl) ?_
  refine x_iload_n dX2_hasFragment_0 rfl ?_
  refine x_if_lt (tgt := 17) dX2_hasFragment_1 (by decide) (fun c_1 => ?_) (fun c_1 => ?_)
  · refine x_iconst (v := 0) dX2_hasFragment_17 (by decide) ?_
    exact x_retz dX2_hasFragment_18 rfl (rfl) rfl rfl (⟨by (try simp only [b2i_eq0, b2i_ne0] at *); simp [hfB, b2i, *], rfl⟩)
  · refine x_iload_n dX2_hasFragment_4 rfl ?_
    refine x_aload_n dX2_hasFragment_5 rfl ?_
    refine x_iload_n dX2_hasFragment_6 rfl ?_
    refine x_callp [0, 1, 2, 3, 4, 5, 6] (x_iV dX2_hasFragment_7 mlX2_40 lbX2_fragmentNumber rfl rfl rfl rfl) (kX2_fragmentNumber l g S _) (by decide) rfl rfl (by decide) (by decide) (by simp [Value.category]) rfl rfl rfl ?_
    refine x_icmp_ge (tgt := 17) dX2_hasFragment_10 (by decide) (fun c_10 => ?_) (fun c_10 => ?_)
    · refine x_iconst (v := 0) dX2_hasFragment_17 (by decide) ?_
      exact x_retz dX2_hasFragment_18 rfl (rfl) rfl rfl (⟨by (try simp only [b2i_eq0, b2i_ne0] at *); simp [hfB, b2i, *], rfl⟩)
    · refine x_iconst (v := 1) dX2_hasFragment_13 (by decide) ?_
      refine x_goto (tgt := 18) dX2_hasFragment_14 (by decide) ?_
      exact x_retz dX2_hasFragment_18 rfl (rfl) rfl rfl (⟨by (try simp only [b2i_eq0, b2i_ne0] at *); simp [hfB, b2i, *], rfl⟩)

set_option maxRecDepth 100000 in
set_option maxHeartbeats 4000000 in
theorem kX2_hasData (l : Launch) (g : XG) (S : MS) (f i : Int32) : Ct l g MX2_hasData [.ref 0, .int f, .int i] (wF S) (Qp (b2i (hdB S f i)) (wF S)) := by
  refine Ct_of (by decide) (by simp [Value.category]) (Nat.le_of_ble_eq_true rfl) ?_
  refine x_iload_n dX2_hasData_0 rfl ?_
  refine x_if_lt (tgt := 17) dX2_hasData_1 (by decide) (fun c_1 => ?_) (fun c_1 => ?_)
  · refine x_iconst (v := 0) dX2_hasData_17 (by decide) ?_
    exact x_retz dX2_hasData_18 rfl (rfl) rfl rfl (⟨by (try simp only [b2i_eq0, b2i_ne0] at *); simp [hdB, b2i, *], rfl⟩)
  · refine x_iload_n dX2_hasData_4 rfl ?_
    refine x_aload_n dX2_hasData_5 rfl ?_
    refine x_iload_n dX2_hasData_6 rfl ?_
    refine x_callp [0, 1, 2, 3, 4, 5, 6] (x_iV dX2_hasData_7 mlX2_44 lbX2_dataOf rfl rfl rfl rfl) (kX2_dataOf l g S _) (by decide) rfl rfl (by decide) (by decide) (by simp [Value.category]) rfl rfl rfl ?_
    refine x_icmp_ge (tgt := 17) dX2_hasData_10 (by decide) (fun c_10 => ?_) (fun c_10 => ?_)
    · refine x_iconst (v := 0) dX2_hasData_17 (by decide) ?_
      exact x_retz dX2_hasData_18 rfl (rfl) rfl rfl (⟨by (try simp only [b2i_eq0, b2i_ne0] at *); simp [hdB, b2i, *], rfl⟩)
    · refine x_iconst (v := 1) dX2_hasData_13 (by decide) ?_
      refine x_goto (tgt := 18) dX2_hasData_14 (by decide) ?_
      exact x_retz dX2_hasData_18 rfl (rfl) rfl rfl (⟨by (try simp only [b2i_eq0, b2i_ne0] at *); simp [hdB, b2i, *], rfl⟩)

set_option maxRecDepth 100000 in
set_option maxHeartbeats 4000000 in
theorem kX2_ownerOf (l : Launch) (g : XG) (S : MS) (f : Int32) : Ct l g MX2_ownerOf [.ref 0, .int f] (wF S) (Qp (foI S f) (wF S)) := by
  refine Ct_of (by decide) (by simp [Value.category]) (Nat.le_of_ble_eq_true rfl) ?_
  refine x_iload_n dX2_ownerOf_0 rfl ?_
  refine x_if_lt (tgt := 19) dX2_ownerOf_1 (by decide) (fun c_1 => ?_) (fun c_1 => ?_)
  · refine x_iconst (v := -1) dX2_ownerOf_19 (by decide) ?_
    exact x_reti dX2_ownerOf_20 rfl rfl rfl (⟨by (try simp only [b2i_eq0, b2i_ne0] at *); simp [foI, inB, b2i, *], rfl⟩)
  · refine x_iload_n dX2_ownerOf_4 rfl ?_
    refine x_bipush (v := 8) dX2_ownerOf_5 (by decide) ?_
    refine x_icmp_ge (tgt := 19) dX2_ownerOf_7 (by decide) (fun c_7 => ?_) (fun c_7 => ?_)
    · refine x_iconst (v := -1) dX2_ownerOf_19 (by decide) ?_
      exact x_reti dX2_ownerOf_20 rfl rfl rfl (⟨by (try simp only [b2i_eq0, b2i_ne0] at *); simp [foI, inB, b2i, *], rfl⟩)
    · refine x_aload_n dX2_ownerOf_10 rfl ?_
      refine x_getf dX2_ownerOf_11 flX2_18 rfl rfl ?_
      refine x_iload_n dX2_ownerOf_14 rfl ?_
      refine x_iar dX2_ownerOf_15 rfl (ix_of (vin_of 8 (by decide) rfl (by assumption) (by assumption))) ?_
      refine x_goto (tgt := 20) dX2_ownerOf_16 (by decide) ?_
      exact x_reti dX2_ownerOf_20 rfl rfl rfl (⟨by (try simp only [b2i_eq0, b2i_ne0] at *); simp [foI, inB, b2i, *], rfl⟩)

set_option maxRecDepth 100000 in
set_option maxHeartbeats 4000000 in
theorem kX2_isInRows (l : Launch) (g : XG) (f i : Int32) : Ct l g MX2_isInRows [.int f, .int i] ([]) (Qp (b2i (irB f i)) ([])) := by
  refine Ct_of (by decide) (by simp [Value.category]) (Nat.le_of_ble_eq_true rfl) ?_
  refine x_iload_n dX2_isInRows_0 rfl ?_
  refine x_if_lt (tgt := 24) dX2_isInRows_1 (by decide) (fun c_1 => ?_) (fun c_1 => ?_)
  · refine x_iconst (v := 0) dX2_isInRows_24 (by decide) ?_
    exact x_retz dX2_isInRows_25 rfl (rfl) rfl rfl (⟨by (try simp only [b2i_eq0, b2i_ne0] at *); simp [irB, inB, b2i, *], rfl⟩)
  · refine x_iload_n dX2_isInRows_4 rfl ?_
    refine x_bipush (v := 8) dX2_isInRows_5 (by decide) ?_
    refine x_icmp_ge (tgt := 24) dX2_isInRows_7 (by decide) (fun c_7 => ?_) (fun c_7 => ?_)
    · refine x_iconst (v := 0) dX2_isInRows_24 (by decide) ?_
      exact x_retz dX2_isInRows_25 rfl (rfl) rfl rfl (⟨by (try simp only [b2i_eq0, b2i_ne0] at *); simp [irB, inB, b2i, *], rfl⟩)
    · refine x_iload_n dX2_isInRows_10 rfl ?_
      refine x_if_lt (tgt := 24) dX2_isInRows_11 (by decide) (fun c_11 => ?_) (fun c_11 => ?_)
      · refine x_iconst (v := 0) dX2_isInRows_24 (by decide) ?_
        exact x_retz dX2_isInRows_25 rfl (rfl) rfl rfl (⟨by (try simp only [b2i_eq0, b2i_ne0] at *); simp [irB, inB, b2i, *], rfl⟩)
      · refine x_iload_n dX2_isInRows_14 rfl ?_
        refine x_bipush (v := 10) dX2_isInRows_15 (by decide) ?_
        refine x_icmp_ge (tgt := 24) dX2_isInRows_17 (by decide) (fun c_17 => ?_) (fun c_17 => ?_)
        · refine x_iconst (v := 0) dX2_isInRows_24 (by decide) ?_
          exact x_retz dX2_isInRows_25 rfl (rfl) rfl rfl (⟨by (try simp only [b2i_eq0, b2i_ne0] at *); simp [irB, inB, b2i, *], rfl⟩)
        · refine x_iconst (v := 1) dX2_isInRows_20 (by decide) ?_
          refine x_goto (tgt := 25) dX2_isInRows_21 (by decide) ?_
          exact x_retz dX2_isInRows_25 rfl (rfl) rfl rfl (⟨by (try simp only [b2i_eq0, b2i_ne0] at *); simp [irB, inB, b2i, *], rfl⟩)

set_option maxRecDepth 100000 in
set_option maxHeartbeats 4000000 in
theorem kX2_placeOf (l : Launch) (g : XG) (S : MS) (f i : Int32) : Ct l g MX2_placeOf [.ref 0, .int f, .int i] (wF S) (Qp (plI S f i) (wF S)) := by
  refine Ct_of (by decide) (by simp [Value.category]) (Nat.le_of_ble_eq_true rfl) ?_
  refine x_iload_n dX2_placeOf_0 rfl ?_
  refine x_iload_n dX2_placeOf_1 rfl ?_
  refine x_callp [] (x_iS dX2_placeOf_2 mlX2_47 lbX2_isInRows rfl) (kX2_isInRows l g _ _) (by decide) rfl rfl (by decide) (by decide) (by simp [Value.category]) rfl rfl rfl ?_
  refine x_if_eq (tgt := 22) dX2_placeOf_5 (by decide) (fun c_5 => ?_) (fun c_5 => ?_)
  · refine x_iconst (v := -1) dX2_placeOf_22 (by decide) ?_
    exact x_reti dX2_placeOf_23 rfl rfl rfl (⟨by (try simp only [b2i_eq0, b2i_ne0] at *); simp [plI, b2i, *], rfl⟩)
  · refine x_aload_n dX2_placeOf_8 rfl ?_
    refine x_getf dX2_placeOf_9 flX2_24 rfl rfl ?_
    refine x_iload_n dX2_placeOf_12 rfl ?_
    refine x_bipush (v := 10) dX2_placeOf_13 (by decide) ?_
    refine x_imul dX2_placeOf_15 ?_
    refine x_iload_n dX2_placeOf_16 rfl ?_
    refine x_iadd dX2_placeOf_17 ?_
    refine x_iar dX2_placeOf_18 rfl ((ix_2 8 10 80 rfl rfl (by decide) (irB_1 (b2i_t' c_5)) (irB_2 (b2i_t' c_5)))) ?_
    refine x_goto (tgt := 23) dX2_placeOf_19 (by decide) ?_
    exact x_reti dX2_placeOf_23 rfl rfl rfl (⟨by (try simp only [b2i_eq0, b2i_ne0] at *); simp [plI, b2i, *], rfl⟩)

set_option maxRecDepth 100000 in
set_option maxHeartbeats 4000000 in
theorem kX2_correctValue (l : Launch) (g : XG) (S : MS) (f i : Int32) : Ct l g MX2_correctValue [.ref 0, .int f, .int i] (wF S) (Qp (coI S f i) (wF S)) := by
  refine Ct_of (by decide) (by simp [Value.category]) (Nat.le_of_ble_eq_true rfl) ?_
  refine x_iload_n dX2_correctValue_0 rfl ?_
  refine x_iload_n dX2_correctValue_1 rfl ?_
  refine x_callp [] (x_iS dX2_correctValue_2 mlX2_47 lbX2_isInRows rfl) (kX2_isInRows l g _ _) (by decide) rfl rfl (by decide) (by decide) (by simp [Value.category]) rfl rfl rfl ?_
  refine x_if_eq (tgt := 22) dX2_correctValue_5 (by decide) (fun c_5 => ?_) (fun c_5 => ?_)
  · refine x_iconst (v := 0) dX2_correctValue_22 (by decide) ?_
    exact x_reti dX2_correctValue_23 rfl rfl rfl (⟨by (try simp only [b2i_eq0, b2i_ne0] at *); simp [coI, b2i, *], rfl⟩)
  · refine x_aload_n dX2_correctValue_8 rfl ?_
    refine x_getf dX2_correctValue_9 flX2_21 rfl rfl ?_
    refine x_iload_n dX2_correctValue_12 rfl ?_
    refine x_bipush (v := 10) dX2_correctValue_13 (by decide) ?_
    refine x_imul dX2_correctValue_15 ?_
    refine x_iload_n dX2_correctValue_16 rfl ?_
    refine x_iadd dX2_correctValue_17 ?_
    refine x_iar dX2_correctValue_18 rfl ((ix_2 8 10 80 rfl rfl (by decide) (irB_1 (b2i_t' c_5)) (irB_2 (b2i_t' c_5)))) ?_
    refine x_goto (tgt := 23) dX2_correctValue_19 (by decide) ?_
    exact x_reti dX2_correctValue_23 rfl rfl rfl (⟨by (try simp only [b2i_eq0, b2i_ne0] at *); simp [coI, b2i, *], rfl⟩)

set_option maxRecDepth 100000 in
set_option maxHeartbeats 4000000 in
theorem kX2_errorOf (l : Launch) (g : XG) (S : MS) (f i : Int32) : Ct l g MX2_errorOf [.ref 0, .int f, .int i] (wF S) (Qp (erI S f i) (wF S)) := by
  refine Ct_of (by decide) (by simp [Value.category]) (Nat.le_of_ble_eq_true rfl) ?_
  refine x_iload_n dX2_errorOf_0 rfl ?_
  refine x_iload_n dX2_errorOf_1 rfl ?_
  refine x_callp [] (x_iS dX2_errorOf_2 mlX2_47 lbX2_isInRows rfl) (kX2_isInRows l g _ _) (by decide) rfl rfl (by decide) (by decide) (by simp [Value.category]) rfl rfl rfl ?_
  refine x_if_eq (tgt := 22) dX2_errorOf_5 (by decide) (fun c_5 => ?_) (fun c_5 => ?_)
  · refine x_iconst (v := 0) dX2_errorOf_22 (by decide) ?_
    exact x_reti dX2_errorOf_23 rfl rfl rfl (⟨by (try simp only [b2i_eq0, b2i_ne0] at *); simp [erI, b2i, *], rfl⟩)
  · refine x_aload_n dX2_errorOf_8 rfl ?_
    refine x_getf dX2_errorOf_9 flX2_27 rfl rfl ?_
    refine x_iload_n dX2_errorOf_12 rfl ?_
    refine x_bipush (v := 10) dX2_errorOf_13 (by decide) ?_
    refine x_imul dX2_errorOf_15 ?_
    refine x_iload_n dX2_errorOf_16 rfl ?_
    refine x_iadd dX2_errorOf_17 ?_
    refine x_iar dX2_errorOf_18 rfl ((ix_2 8 10 80 rfl rfl (by decide) (irB_1 (b2i_t' c_5)) (irB_2 (b2i_t' c_5)))) ?_
    refine x_goto (tgt := 23) dX2_errorOf_19 (by decide) ?_
    exact x_reti dX2_errorOf_23 rfl rfl rfl (⟨by (try simp only [b2i_eq0, b2i_ne0] at *); simp [erI, b2i, *], rfl⟩)

set_option maxRecDepth 100000 in
set_option maxHeartbeats 4000000 in
theorem kX2_storedValue (l : Launch) (g : XG) (S : MS) (f i : Int32) : Ct l g MX2_storedValue [.ref 0, .int f, .int i] (wF S) (Qp (svI S f i) (wF S)) := by
  refine Ct_of (by decide) (by simp [Value.category]) (Nat.le_of_ble_eq_true rfl) ?_
  refine x_aload_n dX2_storedValue_0 rfl ?_
  refine x_iload_n dX2_storedValue_1 rfl ?_
  refine x_iload_n dX2_storedValue_2 rfl ?_
  refine x_callp [0, 1, 2, 3, 4, 5, 6] (x_iV dX2_storedValue_3 mlX2_51 lbX2_correctValue rfl rfl rfl rfl) (kX2_correctValue l g S _ _) (by decide) rfl rfl (by decide) (by decide) (by simp [Value.category]) rfl rfl rfl ?_
  refine x_aload_n dX2_storedValue_6 rfl ?_
  refine x_iload_n dX2_storedValue_7 rfl ?_
  refine x_iload_n dX2_storedValue_8 rfl ?_
  refine x_callp [0, 1, 2, 3, 4, 5, 6] (x_iV dX2_storedValue_9 mlX2_55 lbX2_errorOf rfl rfl rfl rfl) (kX2_errorOf l g S _ _) (by decide) rfl rfl (by decide) (by decide) (by simp [Value.category]) rfl rfl rfl ?_
  refine x_iadd dX2_storedValue_12 ?_
  refine x_sipush (v := 257) dX2_storedValue_13 (by decide) ?_
  refine x_irem dX2_storedValue_16 (by decide) ?_
  exact x_reti dX2_storedValue_17 rfl rfl rfl (⟨rfl, rfl⟩)

set_option maxRecDepth 100000 in
set_option maxHeartbeats 4000000 in
theorem kX2_isStored (l : Launch) (g : XG) (S : MS) (f i : Int32) : Ct l g MX2_isStored [.ref 0, .int f, .int i] (wF S) (Qp (b2i (stB S f i)) (wF S)) := by
  refine Ct_of (by decide) (by simp [Value.category]) (Nat.le_of_ble_eq_true rfl) ?_
  refine x_aload_n dX2_isStored_0 rfl ?_
  refine x_iload_n dX2_isStored_1 rfl ?_
  refine x_iload_n dX2_isStored_2 rfl ?_
  refine x_callp [0, 1, 2, 3, 4, 5, 6] (x_iV dX2_isStored_3 mlX2_58 lbX2_placeOf rfl rfl rfl rfl) (kX2_placeOf l g S _ _) (by decide) rfl rfl (by decide) (by decide) (by simp [Value.category]) rfl rfl rfl ?_
  refine x_iconst (v := -1) dX2_isStored_6 (by decide) ?_
  refine x_icmp_eq (tgt := 14) dX2_isStored_7 (by decide) (fun c_7 => ?_) (fun c_7 => ?_)
  · refine x_iconst (v := 0) dX2_isStored_14 (by decide) ?_
    exact x_retz dX2_isStored_15 rfl (rfl) rfl rfl (⟨by (try simp only [b2i_eq0, b2i_ne0] at *); simp [stB, b2i, *], rfl⟩)
  · refine x_iconst (v := 1) dX2_isStored_10 (by decide) ?_
    refine x_goto (tgt := 15) dX2_isStored_11 (by decide) ?_
    exact x_retz dX2_isStored_15 rfl (rfl) rfl rfl (⟨by (try simp only [b2i_eq0, b2i_ne0] at *); simp [stB, b2i, *], rfl⟩)

set_option maxRecDepth 100000 in
set_option maxHeartbeats 4000000 in
theorem kX2_isSpoiled (l : Launch) (g : XG) (S : MS) (f i : Int32) : Ct l g MX2_isSpoiled [.ref 0, .int f, .int i] (wF S) (Qp (b2i (spB S f i)) (wF S)) := by
  refine Ct_of (by decide) (by simp [Value.category]) (Nat.le_of_ble_eq_true rfl) ?_
  refine x_aload_n dX2_isSpoiled_0 rfl ?_
  refine x_iload_n dX2_isSpoiled_1 rfl ?_
  refine x_iload_n dX2_isSpoiled_2 rfl ?_
  refine x_callp [0, 1, 2, 3, 4, 5, 6] (x_iV dX2_isSpoiled_3 mlX2_61 lbX2_isStored rfl rfl rfl rfl) (kX2_isStored l g S _ _) (by decide) rfl rfl (by decide) (by decide) (by simp [Value.category]) rfl rfl rfl ?_
  refine x_if_eq (tgt := 22) dX2_isSpoiled_6 (by decide) (fun c_6 => ?_) (fun c_6 => ?_)
  · refine x_iconst (v := 0) dX2_isSpoiled_22 (by decide) ?_
    exact x_retz dX2_isSpoiled_23 rfl (rfl) rfl rfl (⟨by (try simp only [b2i_eq0, b2i_ne0] at *); simp [spB, b2i, *], rfl⟩)
  · refine x_aload_n dX2_isSpoiled_9 rfl ?_
    refine x_iload_n dX2_isSpoiled_10 rfl ?_
    refine x_iload_n dX2_isSpoiled_11 rfl ?_
    refine x_callp [0, 1, 2, 3, 4, 5, 6] (x_iV dX2_isSpoiled_12 mlX2_55 lbX2_errorOf rfl rfl rfl rfl) (kX2_errorOf l g S _ _) (by decide) rfl rfl (by decide) (by decide) (by simp [Value.category]) rfl rfl rfl ?_
    refine x_if_eq (tgt := 22) dX2_isSpoiled_15 (by decide) (fun c_15 => ?_) (fun c_15 => ?_)
    · refine x_iconst (v := 0) dX2_isSpoiled_22 (by decide) ?_
      exact x_retz dX2_isSpoiled_23 rfl (rfl) rfl rfl (⟨by (try simp only [b2i_eq0, b2i_ne0] at *); simp [spB, b2i, *], rfl⟩)
    · refine x_iconst (v := 1) dX2_isSpoiled_18 (by decide) ?_
      refine x_goto (tgt := 23) dX2_isSpoiled_19 (by decide) ?_
      exact x_retz dX2_isSpoiled_23 rfl (rfl) rfl rfl (⟨by (try simp only [b2i_eq0, b2i_ne0] at *); simp [spB, b2i, *], rfl⟩)
end
section
def fonI (S : MS) (f p : Int32) : Int32 := if inB f 8 && decide (¬ p = -1) then fstF (fun i => decide (¬ S 9 (10 * cl f + i) = p)) 0 10 else -1
def stN (S : MS) (f : Int32) : Int32 := nI (cntB (fun i => stB S f (nI i)) (cl (fnI S f)))
def spN (S : MS) (f : Int32) : Int32 := nI (cntB (fun i => spB S f (nI i)) (cl (fnI S f)))
theorem ix_fi {f i : Nat} (hf : f < 8) (hi : i < 10) : ix (nI f * 10 + nI i) (10 * f + i) 80 := by
  have := ix_2 8 10 80 (i := nI f) (j := nI i) (c := 10) rfl rfl (by decide) (vin_nI (by decide) hf) (vin_nI (by decide) hi)
  rwa [cl_nI (by omega), cl_nI (by omega)] at this
theorem ix_2' {i : Int32} {j : Nat} (hi : vp_in i 8) (hj : j < 10) : ix (i * 10 + nI j) (10 * cl i + j) 80 := by
  have := ix_2 8 10 80 (i := i) (j := nI j) (c := 10) rfl rfl (by decide) hi (vin_nI (by decide) hj)
  rwa [cl_nI (by omega)] at this
theorem not_inB0 {p c : Int32} (h : p < 0) : inB p c = false := by simp [inB, h]
theorem not_inB1 {p c : Int32} (h : c ≤ p) : inB p c = false := by simp [inB, h]
theorem is_inB {p c : Int32} (h : ¬ p < 0) (h2 : ¬ c ≤ p) : inB p c = true := by simp [inB, h, h2]

set_option maxRecDepth 100000 in
set_option maxHeartbeats 4000000 in
theorem lpX2_fragmentOn (l : Launch) (g : XG) (S : MS) (f p : Int32) (h1 : inB f 8 = true) (h2 : ¬ p = -1) : XA l g MX2_fragmentOn (Qp (fonI S f p) (wF S)) 25 ((fun i => [some (.ref 0), some (.int f), some (.int p), some (.int (f * 10)), some (.int (nI i))]) 0) ((fun _ => []) 0) ((fun _ => wF S) 0) 0 0 := by
  refine x_for 10 (fun i => fonI S f p = fstF (fun i => decide (¬ S 9 (10 * cl f + i) = p)) i (10 - i)) (fun i => [some (.ref 0), some (.int f), some (.int p), some (.int (f * 10)), some (.int (nI i))]) (fun _ => []) (fun _ => wF S) (by rw [fonI, if_pos (by rw [h1]; simp [h2])]) (fun i hi hp ih => ?_) (fun hp => ?_)
  · refine x_iload dX2_fragmentOn_25 rfl ?_
    refine x_bipush (v := 10) dX2_fragmentOn_27 (by decide) ?_
    refine x_icmp_ge_f (tgt := 54) dX2_fragmentOn_29 (by decide) (nI_nle_of rfl (by decide) hi) ?_
    refine x_aload_n dX2_fragmentOn_32 rfl ?_
    refine x_getf dX2_fragmentOn_33 flX2_24 rfl rfl ?_
    refine x_iload_n dX2_fragmentOn_36 rfl ?_
    refine x_iload dX2_fragmentOn_37 rfl ?_
    refine x_iadd dX2_fragmentOn_39 ?_
    refine x_iar dX2_fragmentOn_40 rfl (ix_2' (inB_v rfl (by decide) h1) hi) ?_
    refine x_iload_n dX2_fragmentOn_41 rfl ?_
    refine x_icmp_ne (tgt := 48) dX2_fragmentOn_42 (by decide) (fun c_42 => ?_) (fun c_42 => ?_)
    · first | refine x_iinc dX2_fragmentOn_48 (by decide) rfl (nI_inc _) ?_ | refine x_iinc dX2_fragmentOn_48 (by decide) rfl (inc_1 _) ?_
      refine x_goto (tgt := 25) dX2_fragmentOn_51 (by decide) ?_
      exact ih (by rw [hp, show 10 - i = (10 - (i + 1)) + 1 by omega]; exact fstF_go (by simp [*]))
    · refine x_iload dX2_fragmentOn_45 rfl ?_
      exact x_reti dX2_fragmentOn_47 rfl rfl rfl (⟨by rw [hp, show 10 - i = (10 - (i + 1)) + 1 by omega, fstF_at (by simp [*])], rfl⟩)
  · refine x_iload dX2_fragmentOn_25 rfl ?_
    refine x_bipush (v := 10) dX2_fragmentOn_27 (by decide) ?_
    refine x_icmp_ge_t (tgt := 54) dX2_fragmentOn_29 (by decide) (nI_le_of rfl (by decide) (Nat.le_refl _)) ?_
    refine x_iconst (v := -1) dX2_fragmentOn_54 (by decide) ?_
    exact x_reti dX2_fragmentOn_55 rfl rfl rfl (⟨by rw [hp]; rfl, rfl⟩)

set_option maxRecDepth 100000 in
set_option maxHeartbeats 4000000 in
theorem kX2_fragmentOn (l : Launch) (g : XG) (S : MS) (f p : Int32) : Ct l g MX2_fragmentOn [.ref 0, .int f, .int p] (wF S) (Qp (fonI S f p) (wF S)) := by
  refine Ct_of (by decide) (by simp [Value.category]) (Nat.le_of_ble_eq_true rfl) ?_
  refine x_iload_n dX2_fragmentOn_0 rfl ?_
  refine x_if_lt (tgt := 15) dX2_fragmentOn_1 (by decide) (fun c_1 => ?_) (fun c_1 => ?_)
  · refine x_iconst (v := -1) dX2_fragmentOn_15 (by decide) ?_
    exact x_reti dX2_fragmentOn_16 rfl rfl rfl (⟨by simp [fonI, inB, *], rfl⟩)
  · refine x_iload_n dX2_fragmentOn_4 rfl ?_
    refine x_bipush (v := 8) dX2_fragmentOn_5 (by decide) ?_
    refine x_icmp_ge (tgt := 15) dX2_fragmentOn_7 (by decide) (fun c_7 => ?_) (fun c_7 => ?_)
    · refine x_iconst (v := -1) dX2_fragmentOn_15 (by decide) ?_
      exact x_reti dX2_fragmentOn_16 rfl rfl rfl (⟨by simp [fonI, inB, *], rfl⟩)
    · refine x_iload_n dX2_fragmentOn_10 rfl ?_
      refine x_iconst (v := -1) dX2_fragmentOn_11 (by decide) ?_
      refine x_icmp_ne (tgt := 17) dX2_fragmentOn_12 (by decide) (fun c_12 => ?_) (fun c_12 => ?_)
      · refine x_iload_n dX2_fragmentOn_17 rfl ?_
        refine x_bipush (v := 10) dX2_fragmentOn_18 (by decide) ?_
        refine x_imul dX2_fragmentOn_20 ?_
        refine x_istore_n dX2_fragmentOn_21 (by decide) ?_
        refine x_iconst (v := 0) dX2_fragmentOn_22 (by decide) ?_
        refine x_istore dX2_fragmentOn_23 (by decide) ?_
        exact lpX2_fragmentOn l g S f p (is_inB c_1 c_7) c_12
      · refine x_iconst (v := -1) dX2_fragmentOn_15 (by decide) ?_
        exact x_reti dX2_fragmentOn_16 rfl rfl rfl (⟨by simp [fonI, inB, *], rfl⟩)

set_option maxRecDepth 100000 in
set_option maxHeartbeats 4000000 in
theorem lpX2_number (l : Launch) (g : XG) (S : MS)  : XA l g MX2_number (Qp (nI (cntB (fun f => exF S (nI f)) 8)) (wF S)) 4 ((fun i => [some (.ref 0), some (.int (nI (cntB (fun f => exF S (nI f)) i))), some (.int (nI i))]) 0) ((fun _ => []) 0) ((fun _ => wF S) 0) 0 0 := by
  refine x_for 8 (fun _ => True) (fun i => [some (.ref 0), some (.int (nI (cntB (fun f => exF S (nI f)) i))), some (.int (nI i))]) (fun _ => []) (fun _ => wF S) trivial (fun i hi hp ih => ?_) (fun hp => ?_)
  · refine x_iload_n dX2_number_4 rfl ?_
    refine x_bipush (v := 8) dX2_number_5 (by decide) ?_
    refine x_icmp_ge_f (tgt := 27) dX2_number_7 (by decide) (nI_nle_of rfl (by decide) hi) ?_
    refine x_aload_n dX2_number_10 rfl ?_
    refine x_iload_n dX2_number_11 rfl ?_
    refine x_callp [0, 1, 2, 3, 4, 5, 6] (x_iV dX2_number_12 mlX2_64 lbX2_exists rfl rfl rfl rfl) (kX2_exists l g S _) (by decide) rfl rfl (by decide) (by decide) (by simp [Value.category]) rfl rfl rfl ?_
    refine x_if_eq (tgt := 21) dX2_number_15 (by decide) (fun c_15 => ?_) (fun c_15 => ?_)
    · first | refine x_iinc dX2_number_21 (by decide) rfl (nI_inc _) ?_ | refine x_iinc dX2_number_21 (by decide) rfl (inc_1 _) ?_
      refine x_goto (tgt := 4) dX2_number_24 (by decide) ?_
      (try simp only [b2i_eq0, b2i_ne0] at *)
      exact x_eq (ih trivial) (by simp [cntB, *]) rfl rfl
    · first | refine x_iinc dX2_number_18 (by decide) rfl (nI_inc _) ?_ | refine x_iinc dX2_number_18 (by decide) rfl (inc_1 _) ?_
      first | refine x_iinc dX2_number_21 (by decide) rfl (nI_inc _) ?_ | refine x_iinc dX2_number_21 (by decide) rfl (inc_1 _) ?_
      refine x_goto (tgt := 4) dX2_number_24 (by decide) ?_
      (try simp only [b2i_eq0, b2i_ne0] at *)
      exact x_eq (ih trivial) (by simp [cntB, *]) rfl rfl
  · refine x_iload_n dX2_number_4 rfl ?_
    refine x_bipush (v := 8) dX2_number_5 (by decide) ?_
    refine x_icmp_ge_t (tgt := 27) dX2_number_7 (by decide) (nI_le_of rfl (by decide) (Nat.le_refl _)) ?_
    refine x_iload_n dX2_number_27 rfl ?_
    exact x_reti dX2_number_28 rfl rfl rfl (⟨rfl, rfl⟩)

set_option maxRecDepth 100000 in
set_option maxHeartbeats 4000000 in
theorem kX2_number (l : Launch) (g : XG) (S : MS) : Ct l g MX2_number [.ref 0] (wF S) (Qp (nI (cntB (fun f => exF S (nI f)) 8)) (wF S)) := by
  refine Ct_of (by decide) (by simp [Value.category]) (Nat.le_of_ble_eq_true rfl) ?_
  refine x_iconst (v := 0) dX2_number_0 (by decide) ?_
  refine x_istore_n dX2_number_1 (by decide) ?_
  refine x_iconst (v := 0) dX2_number_2 (by decide) ?_
  refine x_istore_n dX2_number_3 (by decide) ?_
  exact lpX2_number l g S

set_option maxRecDepth 100000 in
set_option maxHeartbeats 4000000 in
theorem lpX2_lowestUnused (l : Launch) (g : XG) (S : MS)  : XA l g MX2_lowestUnused (Qp (fstF (fun f => exF S (nI f)) 0 8) (wF S)) 2 ((fun i => [some (.ref 0), some (.int (nI i))]) 0) ((fun _ => []) 0) ((fun _ => wF S) 0) 0 0 := by
  refine x_for 8 (fun i => fstF (fun f => exF S (nI f)) 0 8 = fstF (fun f => exF S (nI f)) i (8 - i)) (fun i => [some (.ref 0), some (.int (nI i))]) (fun _ => []) (fun _ => wF S) rfl (fun i hi hp ih => ?_) (fun hp => ?_)
  · refine x_iload_n dX2_lowestUnused_2 rfl ?_
    refine x_bipush (v := 8) dX2_lowestUnused_3 (by decide) ?_
    refine x_icmp_ge_f (tgt := 24) dX2_lowestUnused_5 (by decide) (nI_nle_of rfl (by decide) hi) ?_
    refine x_aload_n dX2_lowestUnused_8 rfl ?_
    refine x_iload_n dX2_lowestUnused_9 rfl ?_
    refine x_callp [0, 1, 2, 3, 4, 5, 6] (x_iV dX2_lowestUnused_10 mlX2_64 lbX2_exists rfl rfl rfl rfl) (kX2_exists l g S _) (by decide) rfl rfl (by decide) (by decide) (by simp [Value.category]) rfl rfl rfl ?_
    refine x_if_ne (tgt := 18) dX2_lowestUnused_13 (by decide) (fun c_13 => ?_) (fun c_13 => ?_)
    · first | refine x_iinc dX2_lowestUnused_18 (by decide) rfl (nI_inc _) ?_ | refine x_iinc dX2_lowestUnused_18 (by decide) rfl (inc_1 _) ?_
      refine x_goto (tgt := 2) dX2_lowestUnused_21 (by decide) ?_
      (try simp only [b2i_eq0, b2i_ne0] at *)
      exact ih (by rw [hp, show 8 - i = (8 - (i + 1)) + 1 by omega]; exact fstF_go (by simp [*]))
    · (try simp only [b2i_eq0, b2i_ne0] at *)
      refine x_iload_n dX2_lowestUnused_16 rfl ?_
      exact x_reti dX2_lowestUnused_17 rfl rfl rfl (⟨by rw [hp, show 8 - i = (8 - (i + 1)) + 1 by omega, fstF_at (by simp [*])], rfl⟩)
  · refine x_iload_n dX2_lowestUnused_2 rfl ?_
    refine x_bipush (v := 8) dX2_lowestUnused_3 (by decide) ?_
    refine x_icmp_ge_t (tgt := 24) dX2_lowestUnused_5 (by decide) (nI_le_of rfl (by decide) (Nat.le_refl _)) ?_
    refine x_iconst (v := -1) dX2_lowestUnused_24 (by decide) ?_
    exact x_reti dX2_lowestUnused_25 rfl rfl rfl (⟨by rw [hp]; rfl, rfl⟩)

set_option maxRecDepth 100000 in
set_option maxHeartbeats 4000000 in
theorem kX2_lowestUnused (l : Launch) (g : XG) (S : MS) : Ct l g MX2_lowestUnused [.ref 0] (wF S) (Qp (fstF (fun f => exF S (nI f)) 0 8) (wF S)) := by
  refine Ct_of (by decide) (by simp [Value.category]) (Nat.le_of_ble_eq_true rfl) ?_
  refine x_iconst (v := 0) dX2_lowestUnused_0 (by decide) ?_
  refine x_istore_n dX2_lowestUnused_1 (by decide) ?_
  exact lpX2_lowestUnused l g S

set_option maxRecDepth 100000 in
set_option maxHeartbeats 4000000 in
theorem lpX2_ownedBy (l : Launch) (g : XG) (S : MS) (p : Int32)  : XA l g MX2_ownedBy (Qp (nI (cntB (fun f => exF S (nI f) && decide (foI S (nI f) = p)) 8)) (wF S)) 4 ((fun i => [some (.ref 0), some (.int p), some (.int (nI (cntB (fun f => exF S (nI f) && decide (foI S (nI f) = p)) i))), some (.int (nI i))]) 0) ((fun _ => []) 0) ((fun _ => wF S) 0) 0 0 := by
  refine x_for 8 (fun _ => True) (fun i => [some (.ref 0), some (.int p), some (.int (nI (cntB (fun f => exF S (nI f) && decide (foI S (nI f) = p)) i))), some (.int (nI i))]) (fun _ => []) (fun _ => wF S) trivial (fun i hi hp ih => ?_) (fun hp => ?_)
  · refine x_iload_n dX2_ownedBy_4 rfl ?_
    refine x_bipush (v := 8) dX2_ownedBy_5 (by decide) ?_
    refine x_icmp_ge_f (tgt := 36) dX2_ownedBy_7 (by decide) (nI_nle_of rfl (by decide) hi) ?_
    refine x_aload_n dX2_ownedBy_10 rfl ?_
    refine x_iload_n dX2_ownedBy_11 rfl ?_
    refine x_callp [0, 1, 2, 3, 4, 5, 6] (x_iV dX2_ownedBy_12 mlX2_64 lbX2_exists rfl rfl rfl rfl) (kX2_exists l g S _) (by decide) rfl rfl (by decide) (by decide) (by simp [Value.category]) rfl rfl rfl ?_
    refine x_if_eq (tgt := 30) dX2_ownedBy_15 (by decide) (fun c_15 => ?_) (fun c_15 => ?_)
    · first | refine x_iinc dX2_ownedBy_30 (by decide) rfl (nI_inc _) ?_ | refine x_iinc dX2_ownedBy_30 (by decide) rfl (inc_1 _) ?_
      refine x_goto (tgt := 4) dX2_ownedBy_33 (by decide) ?_
      (try simp only [b2i_eq0, b2i_ne0] at *)
      exact x_eq (ih trivial) (by simp [cntB, *]) rfl rfl
    · refine x_aload_n dX2_ownedBy_18 rfl ?_
      refine x_iload_n dX2_ownedBy_19 rfl ?_
      refine x_callp [0, 1, 2, 3, 4, 5, 6] (x_iV dX2_ownedBy_20 mlX2_68 lbX2_ownerOf rfl rfl rfl rfl) (kX2_ownerOf l g S _) (by decide) rfl rfl (by decide) (by decide) (by simp [Value.category]) rfl rfl rfl ?_
      refine x_iload_n dX2_ownedBy_23 rfl ?_
      refine x_icmp_ne (tgt := 30) dX2_ownedBy_24 (by decide) (fun c_24 => ?_) (fun c_24 => ?_)
      · first | refine x_iinc dX2_ownedBy_30 (by decide) rfl (nI_inc _) ?_ | refine x_iinc dX2_ownedBy_30 (by decide) rfl (inc_1 _) ?_
        refine x_goto (tgt := 4) dX2_ownedBy_33 (by decide) ?_
        (try simp only [b2i_eq0, b2i_ne0] at *)
        exact x_eq (ih trivial) (by simp [cntB, *]) rfl rfl
      · first | refine x_iinc dX2_ownedBy_27 (by decide) rfl (nI_inc _) ?_ | refine x_iinc dX2_ownedBy_27 (by decide) rfl (inc_1 _) ?_
        first | refine x_iinc dX2_ownedBy_30 (by decide) rfl (nI_inc _) ?_ | refine x_iinc dX2_ownedBy_30 (by decide) rfl (inc_1 _) ?_
        refine x_goto (tgt := 4) dX2_ownedBy_33 (by decide) ?_
        (try simp only [b2i_eq0, b2i_ne0] at *)
        exact x_eq (ih trivial) (by simp [cntB, *]) rfl rfl
  · refine x_iload_n dX2_ownedBy_4 rfl ?_
    refine x_bipush (v := 8) dX2_ownedBy_5 (by decide) ?_
    refine x_icmp_ge_t (tgt := 36) dX2_ownedBy_7 (by decide) (nI_le_of rfl (by decide) (Nat.le_refl _)) ?_
    refine x_iload_n dX2_ownedBy_36 rfl ?_
    exact x_reti dX2_ownedBy_37 rfl rfl rfl (⟨rfl, rfl⟩)

set_option maxRecDepth 100000 in
set_option maxHeartbeats 4000000 in
theorem kX2_ownedBy (l : Launch) (g : XG) (S : MS) (p : Int32) : Ct l g MX2_ownedBy [.ref 0, .int p] (wF S) (Qp (nI (cntB (fun f => exF S (nI f) && decide (foI S (nI f) = p)) 8)) (wF S)) := by
  refine Ct_of (by decide) (by simp [Value.category]) (Nat.le_of_ble_eq_true rfl) ?_
  refine x_iconst (v := 0) dX2_ownedBy_0 (by decide) ?_
  refine x_istore_n dX2_ownedBy_1 (by decide) ?_
  refine x_iconst (v := 0) dX2_ownedBy_2 (by decide) ?_
  refine x_istore_n dX2_ownedBy_3 (by decide) ?_
  exact lpX2_ownedBy l g S p

set_option maxRecDepth 100000 in
set_option maxHeartbeats 4000000 in
theorem lpX2_storedNumber (l : Launch) (g : XG) (S : MS) (f : Int32)  : XA l g MX2_storedNumber (Qp (stN S f) (wF S)) 11 ((fun i => [some (.ref 0), some (.int f), some (.int (nI (cntB (fun i => stB S f (nI i)) i))), some (.int (fnI S f)), some (.int (nI i))]) 0) ((fun _ => []) 0) ((fun _ => wF S) 0) 0 0 := by
  refine x_for (cl (fnI S f)) (fun _ => True) (fun i => [some (.ref 0), some (.int f), some (.int (nI (cntB (fun i => stB S f (nI i)) i))), some (.int (fnI S f)), some (.int (nI i))]) (fun _ => []) (fun _ => wF S) trivial (fun i hi hp ih => ?_) (fun hp => ?_)
  · refine x_iload dX2_storedNumber_11 rfl ?_
    refine x_iload_n dX2_storedNumber_13 rfl ?_
    refine x_icmp_ge_f (tgt := 36) dX2_storedNumber_14 (by decide) (nge_cl hi) ?_
    refine x_aload_n dX2_storedNumber_17 rfl ?_
    refine x_iload_n dX2_storedNumber_18 rfl ?_
    refine x_iload dX2_storedNumber_19 rfl ?_
    refine x_callp [0, 1, 2, 3, 4, 5, 6] (x_iV dX2_storedNumber_21 mlX2_61 lbX2_isStored rfl rfl rfl rfl) (kX2_isStored l g S _ _) (by decide) rfl rfl (by decide) (by decide) (by simp [Value.category]) rfl rfl rfl ?_
    refine x_if_eq (tgt := 30) dX2_storedNumber_24 (by decide) (fun c_24 => ?_) (fun c_24 => ?_)
    · first | refine x_iinc dX2_storedNumber_30 (by decide) rfl (nI_inc _) ?_ | refine x_iinc dX2_storedNumber_30 (by decide) rfl (inc_1 _) ?_
      refine x_goto (tgt := 11) dX2_storedNumber_33 (by decide) ?_
      (try simp only [b2i_eq0, b2i_ne0] at *)
      exact x_eq (ih trivial) (by simp [cntB, *]) rfl rfl
    · first | refine x_iinc dX2_storedNumber_27 (by decide) rfl (nI_inc _) ?_ | refine x_iinc dX2_storedNumber_27 (by decide) rfl (inc_1 _) ?_
      first | refine x_iinc dX2_storedNumber_30 (by decide) rfl (nI_inc _) ?_ | refine x_iinc dX2_storedNumber_30 (by decide) rfl (inc_1 _) ?_
      refine x_goto (tgt := 11) dX2_storedNumber_33 (by decide) ?_
      (try simp only [b2i_eq0, b2i_ne0] at *)
      exact x_eq (ih trivial) (by simp [cntB, *]) rfl rfl
  · refine x_iload dX2_storedNumber_11 rfl ?_
    refine x_iload_n dX2_storedNumber_13 rfl ?_
    refine x_icmp_ge_t (tgt := 36) dX2_storedNumber_14 (by decide) (ge_cl) ?_
    refine x_iload_n dX2_storedNumber_36 rfl ?_
    exact x_reti dX2_storedNumber_37 rfl rfl rfl (⟨rfl, rfl⟩)

set_option maxRecDepth 100000 in
set_option maxHeartbeats 4000000 in
theorem kX2_storedNumber (l : Launch) (g : XG) (S : MS) (f : Int32) : Ct l g MX2_storedNumber [.ref 0, .int f] (wF S) (Qp (stN S f) (wF S)) := by
  refine Ct_of (by decide) (by simp [Value.category]) (Nat.le_of_ble_eq_true rfl) ?_
  refine x_iconst (v := 0) dX2_storedNumber_0 (by decide) ?_
  refine x_istore_n dX2_storedNumber_1 (by decide) ?_
  refine x_aload_n dX2_storedNumber_2 rfl ?_
  refine x_iload_n dX2_storedNumber_3 rfl ?_
  refine x_callp [0, 1, 2, 3, 4, 5, 6] (x_iV dX2_storedNumber_4 mlX2_40 lbX2_fragmentNumber rfl rfl rfl rfl) (kX2_fragmentNumber l g S _) (by decide) rfl rfl (by decide) (by decide) (by simp [Value.category]) rfl rfl rfl ?_
  refine x_istore_n dX2_storedNumber_7 (by decide) ?_
  refine x_iconst (v := 0) dX2_storedNumber_8 (by decide) ?_
  refine x_istore dX2_storedNumber_9 (by decide) ?_
  exact lpX2_storedNumber l g S f

set_option maxRecDepth 100000 in
set_option maxHeartbeats 4000000 in
theorem lpX2_spoiledNumber (l : Launch) (g : XG) (S : MS) (f : Int32)  : XA l g MX2_spoiledNumber (Qp (spN S f) (wF S)) 11 ((fun i => [some (.ref 0), some (.int f), some (.int (nI (cntB (fun i => spB S f (nI i)) i))), some (.int (fnI S f)), some (.int (nI i))]) 0) ((fun _ => []) 0) ((fun _ => wF S) 0) 0 0 := by
  refine x_for (cl (fnI S f)) (fun _ => True) (fun i => [some (.ref 0), some (.int f), some (.int (nI (cntB (fun i => spB S f (nI i)) i))), some (.int (fnI S f)), some (.int (nI i))]) (fun _ => []) (fun _ => wF S) trivial (fun i hi hp ih => ?_) (fun hp => ?_)
  · refine x_iload dX2_spoiledNumber_11 rfl ?_
    refine x_iload_n dX2_spoiledNumber_13 rfl ?_
    refine x_icmp_ge_f (tgt := 36) dX2_spoiledNumber_14 (by decide) (nge_cl hi) ?_
    refine x_aload_n dX2_spoiledNumber_17 rfl ?_
    refine x_iload_n dX2_spoiledNumber_18 rfl ?_
    refine x_iload dX2_spoiledNumber_19 rfl ?_
    refine x_callp [0, 1, 2, 3, 4, 5, 6] (x_iV dX2_spoiledNumber_21 mlX2_71 lbX2_isSpoiled rfl rfl rfl rfl) (kX2_isSpoiled l g S _ _) (by decide) rfl rfl (by decide) (by decide) (by simp [Value.category]) rfl rfl rfl ?_
    refine x_if_eq (tgt := 30) dX2_spoiledNumber_24 (by decide) (fun c_24 => ?_) (fun c_24 => ?_)
    · first | refine x_iinc dX2_spoiledNumber_30 (by decide) rfl (nI_inc _) ?_ | refine x_iinc dX2_spoiledNumber_30 (by decide) rfl (inc_1 _) ?_
      refine x_goto (tgt := 11) dX2_spoiledNumber_33 (by decide) ?_
      (try simp only [b2i_eq0, b2i_ne0] at *)
      exact x_eq (ih trivial) (by simp [cntB, *]) rfl rfl
    · first | refine x_iinc dX2_spoiledNumber_27 (by decide) rfl (nI_inc _) ?_ | refine x_iinc dX2_spoiledNumber_27 (by decide) rfl (inc_1 _) ?_
      first | refine x_iinc dX2_spoiledNumber_30 (by decide) rfl (nI_inc _) ?_ | refine x_iinc dX2_spoiledNumber_30 (by decide) rfl (inc_1 _) ?_
      refine x_goto (tgt := 11) dX2_spoiledNumber_33 (by decide) ?_
      (try simp only [b2i_eq0, b2i_ne0] at *)
      exact x_eq (ih trivial) (by simp [cntB, *]) rfl rfl
  · refine x_iload dX2_spoiledNumber_11 rfl ?_
    refine x_iload_n dX2_spoiledNumber_13 rfl ?_
    refine x_icmp_ge_t (tgt := 36) dX2_spoiledNumber_14 (by decide) (ge_cl) ?_
    refine x_iload_n dX2_spoiledNumber_36 rfl ?_
    exact x_reti dX2_spoiledNumber_37 rfl rfl rfl (⟨rfl, rfl⟩)

set_option maxRecDepth 100000 in
set_option maxHeartbeats 4000000 in
theorem kX2_spoiledNumber (l : Launch) (g : XG) (S : MS) (f : Int32) : Ct l g MX2_spoiledNumber [.ref 0, .int f] (wF S) (Qp (spN S f) (wF S)) := by
  refine Ct_of (by decide) (by simp [Value.category]) (Nat.le_of_ble_eq_true rfl) ?_
  refine x_iconst (v := 0) dX2_spoiledNumber_0 (by decide) ?_
  refine x_istore_n dX2_spoiledNumber_1 (by decide) ?_
  refine x_aload_n dX2_spoiledNumber_2 rfl ?_
  refine x_iload_n dX2_spoiledNumber_3 rfl ?_
  refine x_callp [0, 1, 2, 3, 4, 5, 6] (x_iV dX2_spoiledNumber_4 mlX2_40 lbX2_fragmentNumber rfl rfl rfl rfl) (kX2_fragmentNumber l g S _) (by decide) rfl rfl (by decide) (by decide) (by simp [Value.category]) rfl rfl rfl ?_
  refine x_istore_n dX2_spoiledNumber_7 (by decide) ?_
  refine x_iconst (v := 0) dX2_spoiledNumber_8 (by decide) ?_
  refine x_istore dX2_spoiledNumber_9 (by decide) ?_
  exact lpX2_spoiledNumber l g S f

set_option maxRecDepth 100000 in
set_option maxHeartbeats 4000000 in
theorem lpX2_allStored (l : Launch) (g : XG) (S : MS)  : XA l g MX2_allStored (Qp (sumI (fun f => stN S (nI f)) 8) (wF S)) 4 ((fun i => [some (.ref 0), some (.int (sumI (fun f => stN S (nI f)) i)), some (.int (nI i))]) 0) ((fun _ => []) 0) ((fun _ => wF S) 0) 0 0 := by
  refine x_for 8 (fun _ => True) (fun i => [some (.ref 0), some (.int (sumI (fun f => stN S (nI f)) i)), some (.int (nI i))]) (fun _ => []) (fun _ => wF S) trivial (fun i hi hp ih => ?_) (fun hp => ?_)
  · refine x_iload_n dX2_allStored_4 rfl ?_
    refine x_bipush (v := 8) dX2_allStored_5 (by decide) ?_
    refine x_icmp_ge_f (tgt := 24) dX2_allStored_7 (by decide) (nI_nle_of rfl (by decide) hi) ?_
    refine x_iload_n dX2_allStored_10 rfl ?_
    refine x_aload_n dX2_allStored_11 rfl ?_
    refine x_iload_n dX2_allStored_12 rfl ?_
    refine x_callp [0, 1, 2, 3, 4, 5, 6] (x_iV dX2_allStored_13 mlX2_74 lbX2_storedNumber rfl rfl rfl rfl) (kX2_storedNumber l g S _) (by decide) rfl rfl (by decide) (by decide) (by simp [Value.category]) rfl rfl rfl ?_
    refine x_iadd dX2_allStored_16 ?_
    refine x_istore_n dX2_allStored_17 (by decide) ?_
    first | refine x_iinc dX2_allStored_18 (by decide) rfl (nI_inc _) ?_ | refine x_iinc dX2_allStored_18 (by decide) rfl (inc_1 _) ?_
    refine x_goto (tgt := 4) dX2_allStored_21 (by decide) ?_
    exact x_eq (ih trivial) (by simp [sumI]) rfl rfl
  · refine x_iload_n dX2_allStored_4 rfl ?_
    refine x_bipush (v := 8) dX2_allStored_5 (by decide) ?_
    refine x_icmp_ge_t (tgt := 24) dX2_allStored_7 (by decide) (nI_le_of rfl (by decide) (Nat.le_refl _)) ?_
    refine x_iload_n dX2_allStored_24 rfl ?_
    exact x_reti dX2_allStored_25 rfl rfl rfl (⟨rfl, rfl⟩)

set_option maxRecDepth 100000 in
set_option maxHeartbeats 4000000 in
theorem kX2_allStored (l : Launch) (g : XG) (S : MS) : Ct l g MX2_allStored [.ref 0] (wF S) (Qp (sumI (fun f => stN S (nI f)) 8) (wF S)) := by
  refine Ct_of (by decide) (by simp [Value.category]) (Nat.le_of_ble_eq_true rfl) ?_
  refine x_iconst (v := 0) dX2_allStored_0 (by decide) ?_
  refine x_istore_n dX2_allStored_1 (by decide) ?_
  refine x_iconst (v := 0) dX2_allStored_2 (by decide) ?_
  refine x_istore_n dX2_allStored_3 (by decide) ?_
  exact lpX2_allStored l g S

set_option maxRecDepth 100000 in
set_option maxHeartbeats 4000000 in
theorem lpX2_allSpoiled (l : Launch) (g : XG) (S : MS)  : XA l g MX2_allSpoiled (Qp (sumI (fun f => spN S (nI f)) 8) (wF S)) 4 ((fun i => [some (.ref 0), some (.int (sumI (fun f => spN S (nI f)) i)), some (.int (nI i))]) 0) ((fun _ => []) 0) ((fun _ => wF S) 0) 0 0 := by
  refine x_for 8 (fun _ => True) (fun i => [some (.ref 0), some (.int (sumI (fun f => spN S (nI f)) i)), some (.int (nI i))]) (fun _ => []) (fun _ => wF S) trivial (fun i hi hp ih => ?_) (fun hp => ?_)
  · refine x_iload_n dX2_allSpoiled_4 rfl ?_
    refine x_bipush (v := 8) dX2_allSpoiled_5 (by decide) ?_
    refine x_icmp_ge_f (tgt := 24) dX2_allSpoiled_7 (by decide) (nI_nle_of rfl (by decide) hi) ?_
    refine x_iload_n dX2_allSpoiled_10 rfl ?_
    refine x_aload_n dX2_allSpoiled_11 rfl ?_
    refine x_iload_n dX2_allSpoiled_12 rfl ?_
    refine x_callp [0, 1, 2, 3, 4, 5, 6] (x_iV dX2_allSpoiled_13 mlX2_77 lbX2_spoiledNumber rfl rfl rfl rfl) (kX2_spoiledNumber l g S _) (by decide) rfl rfl (by decide) (by decide) (by simp [Value.category]) rfl rfl rfl ?_
    refine x_iadd dX2_allSpoiled_16 ?_
    refine x_istore_n dX2_allSpoiled_17 (by decide) ?_
    first | refine x_iinc dX2_allSpoiled_18 (by decide) rfl (nI_inc _) ?_ | refine x_iinc dX2_allSpoiled_18 (by decide) rfl (inc_1 _) ?_
    refine x_goto (tgt := 4) dX2_allSpoiled_21 (by decide) ?_
    exact x_eq (ih trivial) (by simp [sumI]) rfl rfl
  · refine x_iload_n dX2_allSpoiled_4 rfl ?_
    refine x_bipush (v := 8) dX2_allSpoiled_5 (by decide) ?_
    refine x_icmp_ge_t (tgt := 24) dX2_allSpoiled_7 (by decide) (nI_le_of rfl (by decide) (Nat.le_refl _)) ?_
    refine x_iload_n dX2_allSpoiled_24 rfl ?_
    exact x_reti dX2_allSpoiled_25 rfl rfl rfl (⟨rfl, rfl⟩)

set_option maxRecDepth 100000 in
set_option maxHeartbeats 4000000 in
theorem kX2_allSpoiled (l : Launch) (g : XG) (S : MS) : Ct l g MX2_allSpoiled [.ref 0] (wF S) (Qp (sumI (fun f => spN S (nI f)) 8) (wF S)) := by
  refine Ct_of (by decide) (by simp [Value.category]) (Nat.le_of_ble_eq_true rfl) ?_
  refine x_iconst (v := 0) dX2_allSpoiled_0 (by decide) ?_
  refine x_istore_n dX2_allSpoiled_1 (by decide) ?_
  refine x_iconst (v := 0) dX2_allSpoiled_2 (by decide) ?_
  refine x_istore_n dX2_allSpoiled_3 (by decide) ?_
  exact lpX2_allSpoiled l g S

def ush (x : Int32) (y : Int32) : Int32 := (x.toUInt32 >>> (y.toUInt32 &&& Int32.toUInt32 31)).toInt32
def bc1 (x : Int32) : Int32 := x - (ush x 1 &&& 1431655765)
def bc2 (x : Int32) : Int32 := (bc1 x &&& 858993459) + (ush (bc1 x) 2 &&& 858993459)
def bc3 (x : Int32) : Int32 := (bc2 x + ush (bc2 x) 4) &&& 252645135
def bc4 (x : Int32) : Int32 := bc3 x + ush (bc3 x) 8
def bcI (x : Int32) : Int32 := (bc4 x + ush (bc4 x) 16) &&& 63

set_option maxRecDepth 100000 in
set_option maxHeartbeats 4000000 in
theorem kJ6_bitCount_0f7a4 (l : Launch) (g : XG) (x : Int32) : Ct l g MJ6_bitCount_0f7a4 [.int x] ([]) (Qp (bcI x) []) := by
  refine Ct_of (by decide) (by simp [Value.category]) (Nat.le_of_ble_eq_true rfl) ?_
  refine x_iload_n dJ6_bitCount_0f7a4_0 rfl ?_
  refine x_iload_n dJ6_bitCount_0f7a4_1 rfl ?_
  refine x_iconst (v := 1) dJ6_bitCount_0f7a4_2 (by decide) ?_
  refine x_iushr dJ6_bitCount_0f7a4_3 rfl ?_
  refine x_ldc_w dJ6_bitCount_0f7a4_4 w_c265 ?_
  refine x_iand dJ6_bitCount_0f7a4_7 ?_
  refine x_isub dJ6_bitCount_0f7a4_8 ?_
  refine x_istore_n dJ6_bitCount_0f7a4_9 (by decide) ?_
  refine x_iload_n dJ6_bitCount_0f7a4_10 rfl ?_
  refine x_ldc_w dJ6_bitCount_0f7a4_11 w_c266 ?_
  refine x_iand dJ6_bitCount_0f7a4_14 ?_
  refine x_iload_n dJ6_bitCount_0f7a4_15 rfl ?_
  refine x_iconst (v := 2) dJ6_bitCount_0f7a4_16 (by decide) ?_
  refine x_iushr dJ6_bitCount_0f7a4_17 rfl ?_
  refine x_ldc_w dJ6_bitCount_0f7a4_18 w_c266 ?_
  refine x_iand dJ6_bitCount_0f7a4_21 ?_
  refine x_iadd dJ6_bitCount_0f7a4_22 ?_
  refine x_istore_n dJ6_bitCount_0f7a4_23 (by decide) ?_
  refine x_iload_n dJ6_bitCount_0f7a4_24 rfl ?_
  refine x_iload_n dJ6_bitCount_0f7a4_25 rfl ?_
  refine x_iconst (v := 4) dJ6_bitCount_0f7a4_26 (by decide) ?_
  refine x_iushr dJ6_bitCount_0f7a4_27 rfl ?_
  refine x_iadd dJ6_bitCount_0f7a4_28 ?_
  refine x_ldc_w dJ6_bitCount_0f7a4_29 w_c267 ?_
  refine x_iand dJ6_bitCount_0f7a4_32 ?_
  refine x_istore_n dJ6_bitCount_0f7a4_33 (by decide) ?_
  refine x_iload_n dJ6_bitCount_0f7a4_34 rfl ?_
  refine x_iload_n dJ6_bitCount_0f7a4_35 rfl ?_
  refine x_bipush (v := 8) dJ6_bitCount_0f7a4_36 (by decide) ?_
  refine x_iushr dJ6_bitCount_0f7a4_38 rfl ?_
  refine x_iadd dJ6_bitCount_0f7a4_39 ?_
  refine x_istore_n dJ6_bitCount_0f7a4_40 (by decide) ?_
  refine x_iload_n dJ6_bitCount_0f7a4_41 rfl ?_
  refine x_iload_n dJ6_bitCount_0f7a4_42 rfl ?_
  refine x_bipush (v := 16) dJ6_bitCount_0f7a4_43 (by decide) ?_
  refine x_iushr dJ6_bitCount_0f7a4_45 rfl ?_
  refine x_iadd dJ6_bitCount_0f7a4_46 ?_
  refine x_istore_n dJ6_bitCount_0f7a4_47 (by decide) ?_
  refine x_iload_n dJ6_bitCount_0f7a4_48 rfl ?_
  refine x_bipush (v := 63) dJ6_bitCount_0f7a4_49 (by decide) ?_
  refine x_iand dJ6_bitCount_0f7a4_51 ?_
  exact x_reti dJ6_bitCount_0f7a4_52 rfl rfl rfl (⟨rfl, rfl⟩)

def dsB (S : MS) (f s : Int32) : Bool := exF S f && decide (¬ s < 0) && decide (¬ 1 <<< (fnI S f &&& 31) ≤ s) && decide (bcI s = daI S f)
def bitB (s : Int32) (i : Nat) : Bool := decide ((s >>> (nI i &&& 31)) &&& 1 = 1)
def ssB (S : MS) (f s : Int32) : Bool := allB (fun i => !(bitB s i && !stB S f (nI i))) (cl (fnI S f))

set_option maxRecDepth 100000 in
set_option maxHeartbeats 4000000 in
theorem kX2_isDecodingSet (l : Launch) (g : XG) (S : MS) (f s : Int32) : Ct l g MX2_isDecodingSet [.ref 0, .int f, .int s] (wF S) (Qp (b2i (dsB S f s)) (wF S)) := by
  refine Ct_of (by decide) (by simp [Value.category]) (Nat.le_of_ble_eq_true rfl) ?_
  refine x_aload_n dX2_isDecodingSet_0 rfl ?_
  refine x_iload_n dX2_isDecodingSet_1 rfl ?_
  refine x_callp [0, 1, 2, 3, 4, 5, 6] (x_iV dX2_isDecodingSet_2 mlX2_64 lbX2_exists rfl rfl rfl rfl) (kX2_exists l g S _) (by decide) rfl rfl (by decide) (by decide) (by simp [Value.category]) rfl rfl rfl ?_
  refine x_if_eq (tgt := 39) dX2_isDecodingSet_5 (by decide) (fun c_5 => ?_) (fun c_5 => ?_)
  · refine x_iconst (v := 0) dX2_isDecodingSet_39 (by decide) ?_
    exact x_retz dX2_isDecodingSet_40 rfl (rfl) rfl rfl (⟨by (try simp only [b2i_eq0, b2i_ne0] at *); simp [dsB, b2i, *], rfl⟩)
  · refine x_iload_n dX2_isDecodingSet_8 rfl ?_
    refine x_if_lt (tgt := 39) dX2_isDecodingSet_9 (by decide) (fun c_9 => ?_) (fun c_9 => ?_)
    · refine x_iconst (v := 0) dX2_isDecodingSet_39 (by decide) ?_
      exact x_retz dX2_isDecodingSet_40 rfl (rfl) rfl rfl (⟨by (try simp only [b2i_eq0, b2i_ne0] at *); simp [dsB, b2i, *], rfl⟩)
    · refine x_iload_n dX2_isDecodingSet_12 rfl ?_
      refine x_iconst (v := 1) dX2_isDecodingSet_13 (by decide) ?_
      refine x_aload_n dX2_isDecodingSet_14 rfl ?_
      refine x_iload_n dX2_isDecodingSet_15 rfl ?_
      refine x_callp [0, 1, 2, 3, 4, 5, 6] (x_iV dX2_isDecodingSet_16 mlX2_40 lbX2_fragmentNumber rfl rfl rfl rfl) (kX2_fragmentNumber l g S _) (by decide) rfl rfl (by decide) (by decide) (by simp [Value.category]) rfl rfl rfl ?_
      refine x_ishl dX2_isDecodingSet_19 ?_
      refine x_icmp_ge (tgt := 39) dX2_isDecodingSet_20 (by decide) (fun c_20 => ?_) (fun c_20 => ?_)
      · refine x_iconst (v := 0) dX2_isDecodingSet_39 (by decide) ?_
        exact x_retz dX2_isDecodingSet_40 rfl (rfl) rfl rfl (⟨by (try simp only [b2i_eq0, b2i_ne0] at *); simp [dsB, b2i, *], rfl⟩)
      · refine x_iload_n dX2_isDecodingSet_23 rfl ?_
        refine x_callp [] (x_iS dX2_isDecodingSet_24 mlX2_80 lbJ6_bitCount_0f7a4 rfl) (kJ6_bitCount_0f7a4 l g _) (by decide) rfl rfl (by decide) (by decide) (by simp [Value.category]) rfl rfl rfl ?_
        refine x_aload_n dX2_isDecodingSet_27 rfl ?_
        refine x_iload_n dX2_isDecodingSet_28 rfl ?_
        refine x_callp [0, 1, 2, 3, 4, 5, 6] (x_iV dX2_isDecodingSet_29 mlX2_44 lbX2_dataOf rfl rfl rfl rfl) (kX2_dataOf l g S _) (by decide) rfl rfl (by decide) (by decide) (by simp [Value.category]) rfl rfl rfl ?_
        refine x_icmp_ne (tgt := 39) dX2_isDecodingSet_32 (by decide) (fun c_32 => ?_) (fun c_32 => ?_)
        · refine x_iconst (v := 0) dX2_isDecodingSet_39 (by decide) ?_
          exact x_retz dX2_isDecodingSet_40 rfl (rfl) rfl rfl (⟨by (try simp only [b2i_eq0, b2i_ne0] at *); simp [dsB, b2i, *], rfl⟩)
        · refine x_iconst (v := 1) dX2_isDecodingSet_35 (by decide) ?_
          refine x_goto (tgt := 40) dX2_isDecodingSet_36 (by decide) ?_
          exact x_retz dX2_isDecodingSet_40 rfl (rfl) rfl rfl (⟨by (try simp only [b2i_eq0, b2i_ne0] at *); simp [dsB, b2i, *], rfl⟩)

set_option maxRecDepth 100000 in
set_option maxHeartbeats 4000000 in
theorem lpX2_isStoredSet (l : Launch) (g : XG) (S : MS) (f s : Int32)  : XA l g MX2_isStoredSet (Qp (b2i (ssB S f s)) (wF S)) 9 ((fun i => [some (.ref 0), some (.int f), some (.int s), some (.int (fnI S f)), some (.int (nI i))]) 0) ((fun _ => []) 0) ((fun _ => wF S) 0) 0 0 := by
  refine x_for (cl (fnI S f)) (fun i => allB (fun i => !(bitB s i && !stB S f (nI i))) i = true) (fun i => [some (.ref 0), some (.int f), some (.int s), some (.int (fnI S f)), some (.int (nI i))]) (fun _ => []) (fun _ => wF S) rfl (fun i hi hp ih => ?_) (fun hp => ?_)
  · refine x_iload dX2_isStoredSet_9 rfl ?_
    refine x_iload_n dX2_isStoredSet_11 rfl ?_
    refine x_icmp_ge_f (tgt := 43) dX2_isStoredSet_12 (by decide) (nge_cl hi) ?_
    refine x_iload_n dX2_isStoredSet_15 rfl ?_
    refine x_iload dX2_isStoredSet_16 rfl ?_
    refine x_ishr dX2_isStoredSet_18 ?_
    refine x_iconst (v := 1) dX2_isStoredSet_19 (by decide) ?_
    refine x_iand dX2_isStoredSet_20 ?_
    refine x_iconst (v := 1) dX2_isStoredSet_21 (by decide) ?_
    refine x_icmp_ne (tgt := 37) dX2_isStoredSet_22 (by decide) (fun c_22 => ?_) (fun c_22 => ?_)
    · first | refine x_iinc dX2_isStoredSet_37 (by decide) rfl (nI_inc _) ?_ | refine x_iinc dX2_isStoredSet_37 (by decide) rfl (inc_1 _) ?_
      refine x_goto (tgt := 9) dX2_isStoredSet_40 (by decide) ?_
      (try simp only [b2i_eq0, b2i_ne0] at *)
      exact ih (by rw [allB, hp]; simp [bitB, *])
    · refine x_aload_n dX2_isStoredSet_25 rfl ?_
      refine x_iload_n dX2_isStoredSet_26 rfl ?_
      refine x_iload dX2_isStoredSet_27 rfl ?_
      refine x_callp [0, 1, 2, 3, 4, 5, 6] (x_iV dX2_isStoredSet_29 mlX2_61 lbX2_isStored rfl rfl rfl rfl) (kX2_isStored l g S _ _) (by decide) rfl rfl (by decide) (by decide) (by simp [Value.category]) rfl rfl rfl ?_
      refine x_if_ne (tgt := 37) dX2_isStoredSet_32 (by decide) (fun c_32 => ?_) (fun c_32 => ?_)
      · first | refine x_iinc dX2_isStoredSet_37 (by decide) rfl (nI_inc _) ?_ | refine x_iinc dX2_isStoredSet_37 (by decide) rfl (inc_1 _) ?_
        refine x_goto (tgt := 9) dX2_isStoredSet_40 (by decide) ?_
        (try simp only [b2i_eq0, b2i_ne0] at *)
        exact ih (by rw [allB, hp]; simp [bitB, *])
      · (try simp only [b2i_eq0, b2i_ne0] at *)
        refine x_iconst (v := 0) dX2_isStoredSet_35 (by decide) ?_
        exact x_retz dX2_isStoredSet_36 rfl (rfl) rfl rfl (⟨by rw [ssB, allB_f hi (by simp [bitB, *])]; rfl, rfl⟩)
  · refine x_iload dX2_isStoredSet_9 rfl ?_
    refine x_iload_n dX2_isStoredSet_11 rfl ?_
    refine x_icmp_ge_t (tgt := 43) dX2_isStoredSet_12 (by decide) (ge_cl) ?_
    refine x_iconst (v := 1) dX2_isStoredSet_43 (by decide) ?_
    exact x_retz dX2_isStoredSet_44 rfl (rfl) rfl rfl (⟨by rw [ssB, hp]; rfl, rfl⟩)

set_option maxRecDepth 100000 in
set_option maxHeartbeats 4000000 in
theorem kX2_isStoredSet (l : Launch) (g : XG) (S : MS) (f s : Int32) : Ct l g MX2_isStoredSet [.ref 0, .int f, .int s] (wF S) (Qp (b2i (ssB S f s)) (wF S)) := by
  refine Ct_of (by decide) (by simp [Value.category]) (Nat.le_of_ble_eq_true rfl) ?_
  refine x_aload_n dX2_isStoredSet_0 rfl ?_
  refine x_iload_n dX2_isStoredSet_1 rfl ?_
  refine x_callp [0, 1, 2, 3, 4, 5, 6] (x_iV dX2_isStoredSet_2 mlX2_40 lbX2_fragmentNumber rfl rfl rfl rfl) (kX2_fragmentNumber l g S _) (by decide) rfl rfl (by decide) (by decide) (by simp [Value.category]) rfl rfl rfl ?_
  refine x_istore_n dX2_isStoredSet_5 (by decide) ?_
  refine x_iconst (v := 0) dX2_isStoredSet_6 (by decide) ?_
  refine x_istore dX2_isStoredSet_7 (by decide) ?_
  exact lpX2_isStoredSet l g S f s
end
section
theorem rem257 {a : Nat} (h : a < 2 ^ 31) : nI a - nI a / 257 * 257 = nI (a % 257) := pk_rem (d := 257) h (by decide) (by decide)
theorem sh31 : ∀ i : Fin 32, ((nI i.val &&& 31).toBitVec.smod 32).toNat = i.val := by decide
theorem shr_nI {e i : Nat} (he : e < 2 ^ 31) (hi : i < 32) : nI e >>> (nI i &&& 31) = nI (e / 2 ^ i) := pk_shrN he _ i (sh31 ⟨i, hi⟩)
theorem and1_nI {n : Nat} (h : n < 2 ^ 32) : nI n &&& 1 = nI (n % 2) := pk_andN h 1 (by decide)
theorem shr_bit {e i : Nat} (he : e < 2 ^ 31) (hi : i < 32) : (nI e >>> (nI i &&& 31)) &&& 1 = nI (e / 2 ^ i % 2) := by
  rw [shr_nI he hi, and1_nI (by have := Nat.div_le_self e (2 ^ i); omega)]
theorem nI_is1 {n : Nat} (h : n < 2 ^ 31) : nI n = 1 ↔ n = 1 := nI_eq h (by decide)
theorem mul257 {a b : Nat} (ha : a < 257) (hb : b < 257) : nI a * nI b - nI a * nI b / 257 * 257 = nI (a * b % 257) := by
  rw [pk_mul]
  refine rem257 ?_
  have : a * b ≤ 256 * 256 := Nat.mul_le_mul (by omega) (by omega)
  omega
theorem mod_bit1 {e i : Nat} (h : e / 2 ^ i % 2 = 1) : e % 2 ^ (i + 1) = e % 2 ^ i + 2 ^ i := by rw [Nat.pow_succ, Nat.mod_mul, h]; omega
theorem mod_bit0 {e i : Nat} (h : ¬ e / 2 ^ i % 2 = 1) : e % 2 ^ (i + 1) = e % 2 ^ i := by
  have : e / 2 ^ i % 2 = 0 := by omega
  rw [Nat.pow_succ, Nat.mod_mul, this]; omega

set_option maxRecDepth 100000 in
set_option maxHeartbeats 4000000 in
theorem lpX6_power (l : Launch) (g : XG) (b e : Nat) (hb : b < 257) (he : e < 256) : XA l g MX6_power (Qp (nI (b ^ e % 257)) []) 7 ((fun i => [some (.int (nI b)), some (.int (nI e)), some (.int (nI (b ^ (e % 2 ^ i) % 257))), some (.int (nI (b ^ (2 ^ i) % 257))), some (.int (nI i))]) 0) ((fun _ => []) 0) ((fun _ => []) 0) 0 0 := by
  refine x_for 8 (fun _ => True) (fun i => [some (.int (nI b)), some (.int (nI e)), some (.int (nI (b ^ (e % 2 ^ i) % 257))), some (.int (nI (b ^ (2 ^ i) % 257))), some (.int (nI i))]) (fun _ => []) (fun _ => []) trivial (fun i hi hp ih => ?_) (fun hp => ?_)
  · refine x_iload dX6_power_7 rfl ?_
    refine x_bipush (v := 8) dX6_power_9 (by decide) ?_
    refine x_icmp_ge_f (tgt := 46) dX6_power_11 (by decide) (nI_nle_of rfl (by decide) hi) ?_
    refine x_iload_n dX6_power_14 rfl ?_
    refine x_iload dX6_power_15 rfl ?_
    refine x_ishr dX6_power_17 ?_
    refine x_iconst (v := 1) dX6_power_18 (by decide) ?_
    refine x_iand dX6_power_19 ?_
    refine x_iconst (v := 1) dX6_power_20 (by decide) ?_
    rw [shr_bit (by omega) (by omega)]
    refine x_icmp_ne (tgt := 32) dX6_power_21 (by decide) (fun c_21 => ?_) (fun c_21 => ?_)
    · refine x_iload_n dX6_power_32 rfl ?_
      refine x_iload_n dX6_power_33 rfl ?_
      refine x_imul dX6_power_34 ?_
      refine x_sipush (v := 257) dX6_power_35 (by decide) ?_
      refine x_irem dX6_power_38 (by decide) ?_
      rw [mul257 (Nat.mod_lt _ (by decide)) (Nat.mod_lt _ (by decide))]
      refine x_istore_n dX6_power_39 (by decide) ?_
      first | refine x_iinc dX6_power_40 (by decide) rfl (nI_inc _) ?_ | refine x_iinc dX6_power_40 (by decide) rfl (inc_1 _) ?_
      refine x_goto (tgt := 7) dX6_power_43 (by decide) ?_
      refine x_eq (ih trivial) ?_ rfl rfl
      rw [nI_is1 (by omega)] at c_21
      first | rw [mod_bit1 c_21] | rw [mod_bit0 c_21]
      simp only [Nat.pow_add, Nat.pow_succ, Nat.mul_mod, Nat.mod_mod, Nat.pow_mul, Nat.pow_two, Nat.pow_one, Nat.pow_zero, Nat.one_mul, Nat.mul_two]
      rfl
    · refine x_iload_n dX6_power_24 rfl ?_
      refine x_iload_n dX6_power_25 rfl ?_
      refine x_imul dX6_power_26 ?_
      refine x_sipush (v := 257) dX6_power_27 (by decide) ?_
      refine x_irem dX6_power_30 (by decide) ?_
      rw [mul257 (Nat.mod_lt _ (by decide)) (Nat.mod_lt _ (by decide))]
      refine x_istore_n dX6_power_31 (by decide) ?_
      refine x_iload_n dX6_power_32 rfl ?_
      refine x_iload_n dX6_power_33 rfl ?_
      refine x_imul dX6_power_34 ?_
      refine x_sipush (v := 257) dX6_power_35 (by decide) ?_
      refine x_irem dX6_power_38 (by decide) ?_
      rw [mul257 (Nat.mod_lt _ (by decide)) (Nat.mod_lt _ (by decide))]
      refine x_istore_n dX6_power_39 (by decide) ?_
      first | refine x_iinc dX6_power_40 (by decide) rfl (nI_inc _) ?_ | refine x_iinc dX6_power_40 (by decide) rfl (inc_1 _) ?_
      refine x_goto (tgt := 7) dX6_power_43 (by decide) ?_
      refine x_eq (ih trivial) ?_ rfl rfl
      rw [nI_is1 (by omega)] at c_21
      first | rw [mod_bit1 c_21] | rw [mod_bit0 c_21]
      simp only [Nat.pow_add, Nat.pow_succ, Nat.mul_mod, Nat.mod_mod, Nat.pow_mul, Nat.pow_two, Nat.pow_one, Nat.pow_zero, Nat.one_mul, Nat.mul_two]
      rfl
  · refine x_iload dX6_power_7 rfl ?_
    refine x_bipush (v := 8) dX6_power_9 (by decide) ?_
    refine x_icmp_ge_t (tgt := 46) dX6_power_11 (by decide) (nI_le_of rfl (by decide) (Nat.le_refl _)) ?_
    refine x_iload_n dX6_power_46 rfl ?_
    exact x_reti dX6_power_47 rfl rfl rfl (⟨by rw [Nat.mod_eq_of_lt (show e < 2 ^ 8 from he)], rfl⟩)

set_option maxRecDepth 100000 in
set_option maxHeartbeats 4000000 in
theorem kX6_power (l : Launch) (g : XG) (b e : Nat) (hb : b < 257) (he : e < 256) : Ct l g MX6_power [.int (nI b), .int (nI e)] ([]) (Qp (nI (b ^ e % 257)) []) := by
  refine Ct_of (by decide) (by simp [Value.category]) (Nat.le_of_ble_eq_true rfl) ?_
  refine x_iconst (v := 1) dX6_power_0 (by decide) ?_
  refine x_istore_n dX6_power_1 (by decide) ?_
  refine x_iload_n dX6_power_2 rfl ?_
  refine x_istore_n dX6_power_3 (by decide) ?_
  refine x_iconst (v := 0) dX6_power_4 (by decide) ?_
  refine x_istore dX6_power_5 (by decide) ?_
  exact x_eq (lpX6_power l g b e hb he) (by simp [Nat.mod_one, Nat.mod_eq_of_lt hb, nI]; rfl) rfl rfl

def sumN (f : Nat → Nat) : Nat → Nat
  | 0 => 0
  | n + 1 => sumN f n + f n
theorem sumN_le {f : Nat → Nat} {c : Nat} : ∀ {n : Nat}, (∀ k, k < n → f k ≤ c) → sumN f n ≤ n * c
  | 0, _ => by simp [sumN]
  | n + 1, h => by
    have h1 := sumN_le (f := f) (c := c) (n := n) (fun k hk => h k (by omega))
    have h2 := h n (by omega)
    rw [sumN, Nat.succ_mul]; omega
theorem sumN_congr {f f' : Nat → Nat} : ∀ {n : Nat}, (∀ k, k < n → f k = f' k) → sumN f n = sumN f' n
  | 0, _ => rfl
  | n + 1, h => by simp only [sumN]; rw [sumN_congr (fun k hk => h k (by omega)), h n (by omega)]
/-- parity word j of k data words -/
def parS (wd : Nat → Nat) (j n : Nat) : Nat := sumN (fun d => wd d * ((d + 1) ^ j % 257)) n
def parW (wd : Nat → Nat) (k j : Nat) : Nat := parS wd j k % 257
theorem parS_le {wd : Nat → Nat} {j k n : Nat} (hk : k ≤ 6) (hw : ∀ d, d < k → wd d < 256) (hn : n ≤ k) : parS wd j n ≤ 6 * 65280 := by
  refine Nat.le_trans (sumN_le (c := 65280) (fun d hd => ?_)) (Nat.mul_le_mul_right _ (by omega))
  have h1 := hw d (by omega)
  have h2 := Nat.mod_lt ((d + 1) ^ j) (show 257 > 0 by decide)
  exact Nat.mul_le_mul (show wd d ≤ 255 by omega) (show _ ≤ 256 by omega)

set_option maxRecDepth 100000 in
set_option maxHeartbeats 4000000 in
theorem lpX2_parityWord (l : Launch) (g : XG) (wd : Nat → Nat) (k j : Nat) (hk : k ≤ 6) (hj : j < 256) (hw : ∀ d, d < k → wd d < 256) : XA l g MX2_parityWord (Qp (nI (parW wd k j)) [.inl (row 6 (fun d => nI (wd d)))]) 5 ((fun i => [some (.ref 0), some (.int (nI k)), some (.int (nI j)), some (.int (nI (parS wd j i))), some (.int (nI i))]) 0) ((fun _ => []) 0) ((fun _ => [.inl (row 6 (fun d => nI (wd d)))]) 0) 0 0 := by
  refine x_for k (fun _ => True) (fun i => [some (.ref 0), some (.int (nI k)), some (.int (nI j)), some (.int (nI (parS wd j i))), some (.int (nI i))]) (fun _ => []) (fun _ => [.inl (row 6 (fun d => nI (wd d)))]) trivial (fun i hi hp ih => ?_) (fun hp => ?_)
  · refine x_iload dX2_parityWord_5 rfl ?_
    refine x_iload_n dX2_parityWord_7 rfl ?_
    refine x_icmp_ge_f (tgt := 40) dX2_parityWord_8 (by decide) (nI_ge hi (by omega)) ?_
    refine x_iload dX2_parityWord_11 rfl ?_
    refine x_aload_n dX2_parityWord_13 rfl ?_
    refine x_alr dX2_parityWord_14 rfl ?_
    refine x_icmp_ge_f (tgt := 40) dX2_parityWord_15 (by decide) (nI_ge (show i < 6 by omega) (by decide)) ?_
    refine x_iload_n dX2_parityWord_18 rfl ?_
    refine x_aload_n dX2_parityWord_19 rfl ?_
    refine x_iload dX2_parityWord_20 rfl ?_
    refine x_iar dX2_parityWord_22 rfl (ix_nI (show i < 6 by omega) (by decide)) ?_
    refine x_iload dX2_parityWord_23 rfl ?_
    refine x_iconst (v := 1) dX2_parityWord_25 (by decide) ?_
    refine x_iadd dX2_parityWord_26 ?_
    rw [nI_1]
    refine x_iload_n dX2_parityWord_27 rfl ?_
    refine x_callp [] (x_iSN dX2_parityWord_28 mlX2_94 lbX6_power rfl) (kX6_power l g (i + 1) j (by omega) hj) (by decide) rfl rfl (by decide) (by decide) (by simp [Value.category]) rfl rfl rfl ?_
    refine x_imul dX2_parityWord_31 ?_
    rw [pk_mul]
    refine x_iadd dX2_parityWord_32 ?_
    rw [nI_add]
    refine x_istore_n dX2_parityWord_33 (by decide) ?_
    first | refine x_iinc dX2_parityWord_34 (by decide) rfl (nI_inc _) ?_ | refine x_iinc dX2_parityWord_34 (by decide) rfl (inc_1 _) ?_
    refine x_goto (tgt := 5) dX2_parityWord_37 (by decide) ?_
    exact ih trivial
  · refine x_iload dX2_parityWord_5 rfl ?_
    refine x_iload_n dX2_parityWord_7 rfl ?_
    refine x_icmp_ge_t (tgt := 40) dX2_parityWord_8 (by decide) (nI_le (Nat.le_refl _) (by omega)) ?_
    refine x_iload_n dX2_parityWord_40 rfl ?_
    refine x_sipush (v := 257) dX2_parityWord_41 (by decide) ?_
    refine x_irem dX2_parityWord_44 (by decide) ?_
    rw [rem257 (by have := parS_le (j := j) hk hw (Nat.le_refl _); omega)]
    exact x_reti dX2_parityWord_45 rfl rfl rfl (⟨rfl, rfl⟩)

set_option maxRecDepth 100000 in
set_option maxHeartbeats 4000000 in
theorem kX2_parityWord (l : Launch) (g : XG) (wd : Nat → Nat) (k j : Nat) (hk : k ≤ 6) (hj : j < 256) (hw : ∀ d, d < k → wd d < 256) : Ct l g MX2_parityWord [.ref 0, .int (nI k), .int (nI j)] ([.inl (row 6 (fun d => nI (wd d)))]) (Qp (nI (parW wd k j)) [.inl (row 6 (fun d => nI (wd d)))]) := by
  refine Ct_of (by decide) (by simp [Value.category]) (Nat.le_of_ble_eq_true rfl) ?_
  refine x_iconst (v := 0) dX2_parityWord_0 (by decide) ?_
  refine x_istore_n dX2_parityWord_1 (by decide) ?_
  refine x_iconst (v := 0) dX2_parityWord_2 (by decide) ?_
  refine x_istore dX2_parityWord_3 (by decide) ?_
  exact lpX2_parityWord l g wd k j hk hj hw

theorem min6 {k : Nat} (hk : k ≤ 6) : (if nI 6 < nI k then nI 6 else nI k) = nI k := if_neg (nI_nlt hk (by decide))
theorem min6l {k : Nat} (hk : k ≤ 6) : (if (6 : Int32) < nI k then 6 else nI k) = nI k := min6 hk
def coW (c : Nat → Int32) (wd : Nat → Nat) (f i : Nat) : Nat → Int32 := fun x => if 10 * f ≤ x ∧ x < 10 * f + i then nI (wd (x - 10 * f)) else c x
def coP (c : Nat → Int32) (wd : Nat → Nat) (f k i : Nat) : Nat → Int32 := fun x => if 10 * f + k ≤ x ∧ x < 10 * f + k + i then nI (parW wd k (x - (10 * f + k))) else c x
theorem coW_0 (c : Nat → Int32) (wd : Nat → Nat) (f : Nat) : row 80 c = row 80 (coW c wd f 0) := row_congr fun x _ => by simp only [coW]; rw [if_neg (by omega)]
theorem coP_0 (c : Nat → Int32) (wd : Nat → Nat) (f k : Nat) : row 80 c = row 80 (coP c wd f k 0) := row_congr fun x _ => by simp only [coP]; rw [if_neg (by omega)]
theorem coW_s (c : Nat → Int32) (wd : Nat → Nat) (f i : Nat) : row 80 (upd (coW c wd f i) (10 * f + i) (nI (wd i))) = row 80 (coW c wd f (i + 1)) := row_congr fun x _ => by
  simp only [upd, coW]
  by_cases h : x = 10 * f + i
  · rw [if_pos h, if_pos (by omega)]; subst h; simp
  · rw [if_neg h]
    by_cases h2 : 10 * f ≤ x ∧ x < 10 * f + i
    · rw [if_pos h2, if_pos (by omega)]
    · rw [if_neg h2, if_neg (by omega)]
theorem coP_s (c : Nat → Int32) (wd : Nat → Nat) (f k i : Nat) : row 80 (upd (coP c wd f k i) (10 * f + k + i) (nI (parW wd k i))) = row 80 (coP c wd f k (i + 1)) := row_congr fun x _ => by
  simp only [upd, coP]
  by_cases h : x = 10 * f + k + i
  · rw [if_pos h, if_pos (by omega)]; subst h; simp
  · rw [if_neg h]
    by_cases h2 : 10 * f + k ≤ x ∧ x < 10 * f + k + i
    · rw [if_pos h2, if_pos (by omega)]
    · rw [if_neg h2, if_neg (by omega)]
/-- the head of a new file, and its correct values c -/
def sFile (S : MS) (f : Nat) (o : Int32) (k m : Nat) (c : Nat → Int32) : MS := fun t => if t = 8 then c else us (us (us S 7 f o) 5 f (nI k)) 6 f (nI m) t
def sAddF (S : MS) (f : Nat) (o : Int32) (wd : Nat → Nat) (k m : Nat) : MS := sFile S f o k m (coP (coW (S 8) wd f k) wd f k m)

set_option maxRecDepth 100000 in
set_option maxHeartbeats 4000000 in
theorem lqX2_add (l : Launch) (g : XG) (S : MS) (f : Nat) (o : Int32) (wd : Nat → Nat) (k m : Nat) (hf : f < 8) (hk : k ≤ 6) (hm : m ≤ 4) (hw : ∀ d, d < k → wd d < 256) : XA l g MX2_add (Qv (fun w1 => w1 = wF (sAddF S f o wd k m) ++ [(Sum.inl (row 6 (fun d => nI (wd d))) : XC)])) 98 ((fun i => [some (.ref 0), some (.int (nI f)), some (.int o), some (.ref 7), some (.int (nI k)), some (.int (nI m)), some (.int (nI k)), some (.int (nI f * 10)), some (.int (nI i))]) 0) ((fun _ => []) 0) ((fun i => wF (sFile S f o k m (coP (coW (S 8) wd f k) wd f k i)) ++ [(Sum.inl (row 6 (fun d => nI (wd d))) : XC)]) 0) 0 0 := by
  refine x_for m (fun _ => True) (fun i => [some (.ref 0), some (.int (nI f)), some (.int o), some (.ref 7), some (.int (nI k)), some (.int (nI m)), some (.int (nI k)), some (.int (nI f * 10)), some (.int (nI i))]) (fun _ => []) (fun i => wF (sFile S f o k m (coP (coW (S 8) wd f k) wd f k i)) ++ [(Sum.inl (row 6 (fun d => nI (wd d))) : XC)]) trivial (fun i hi hp ih => ?_) (fun hp => ?_)
  · refine x_iload dX2_add_98 rfl ?_
    refine x_iload dX2_add_100 rfl ?_
    refine x_icmp_ge_f (tgt := 132) dX2_add_102 (by decide) (nI_ge hi (by omega)) ?_
    refine x_aload_n dX2_add_105 rfl ?_
    refine x_getf dX2_add_106 flX2_21 rfl rfl ?_
    refine x_iload dX2_add_109 rfl ?_
    refine x_iload dX2_add_111 rfl ?_
    refine x_iadd dX2_add_113 ?_
    refine x_iload dX2_add_114 rfl ?_
    refine x_iadd dX2_add_116 ?_
    refine x_aload_n dX2_add_117 rfl ?_
    refine x_iload dX2_add_118 rfl ?_
    refine x_iload dX2_add_120 rfl ?_
    refine x_callp [7] (x_iS dX2_add_122 mlX2_90 lbX2_parityWord rfl) (kX2_parityWord l g wd k i hk (by omega) hw) (by decide) rfl rfl (by decide) (by decide) (by simp [Value.category]) rfl rfl rfl ?_
    refine x_iaw dX2_add_125 rfl (show ix (nI f * 10 + nI k + nI i) (10 * f + k + i) 80 from by rw [show nI f * 10 = nI (f * 10) from pk_mul f 10, nI_add, nI_add, Nat.mul_comm f 10]; exact ix_nI (by omega) (by decide)) ?_
    first | refine x_iinc dX2_add_126 (by decide) rfl (nI_inc _) ?_ | refine x_iinc dX2_add_126 (by decide) rfl (inc_1 _) ?_
    refine x_goto (tgt := 98) dX2_add_129 (by decide) ?_
    refine x_eq (ih trivial) rfl rfl ?_
    exact congrArg (fun z => (wF (sFile S f o k m (coP (coW (S 8) wd f k) wd f k i)) ++ [(Sum.inl (row 6 (fun d => nI (wd d))) : XC)]).set 4 (Sum.inl z)) (coP_s (coW (S 8) wd f k) wd f k i)
  · refine x_iload dX2_add_98 rfl ?_
    refine x_iload dX2_add_100 rfl ?_
    refine x_icmp_ge_t (tgt := 132) dX2_add_102 (by decide) (nI_le (Nat.le_refl _) (by omega)) ?_
    exact x_retv dX2_add_132 rfl rfl rfl (⟨rfl, rfl⟩)

set_option maxRecDepth 100000 in
set_option maxHeartbeats 4000000 in
theorem lpX2_add (l : Launch) (g : XG) (S : MS) (f : Nat) (o : Int32) (wd : Nat → Nat) (k m : Nat) (hf : f < 8) (hk : k ≤ 6) (hm : m ≤ 4) (hw : ∀ d, d < k → wd d < 256) : XA l g MX2_add (Qv (fun w1 => w1 = wF (sAddF S f o wd k m) ++ [(Sum.inl (row 6 (fun d => nI (wd d))) : XC)])) 68 ((fun i => [some (.ref 0), some (.int (nI f)), some (.int o), some (.ref 7), some (.int (nI k)), some (.int (nI m)), some (.int (nI k)), some (.int (nI f * 10)), some (.int (nI i))]) 0) ((fun _ => []) 0) ((fun i => wF (sFile S f o k m (coW (S 8) wd f i)) ++ [(Sum.inl (row 6 (fun d => nI (wd d))) : XC)]) 0) 0 0 := by
  refine x_for k (fun _ => True) (fun i => [some (.ref 0), some (.int (nI f)), some (.int o), some (.ref 7), some (.int (nI k)), some (.int (nI m)), some (.int (nI k)), some (.int (nI f * 10)), some (.int (nI i))]) (fun _ => []) (fun i => wF (sFile S f o k m (coW (S 8) wd f i)) ++ [(Sum.inl (row 6 (fun d => nI (wd d))) : XC)]) trivial (fun i hi hp ih => ?_) (fun hp => ?_)
  · refine x_iload dX2_add_68 rfl ?_
    refine x_iload dX2_add_70 rfl ?_
    refine x_icmp_ge_f (tgt := 95) dX2_add_72 (by decide) (nI_ge hi (by omega)) ?_
    refine x_aload_n dX2_add_75 rfl ?_
    refine x_getf dX2_add_76 flX2_21 rfl rfl ?_
    refine x_iload dX2_add_79 rfl ?_
    refine x_iload dX2_add_81 rfl ?_
    refine x_iadd dX2_add_83 ?_
    refine x_aload_n dX2_add_84 rfl ?_
    refine x_iload dX2_add_85 rfl ?_
    refine x_iar dX2_add_87 rfl (ix_nI (show i < 6 by omega) (by decide)) ?_
    refine x_iaw dX2_add_88 rfl (show ix (nI f * 10 + nI i) (10 * f + i) 80 from ix_fi hf (by omega)) ?_
    first | refine x_iinc dX2_add_89 (by decide) rfl (nI_inc _) ?_ | refine x_iinc dX2_add_89 (by decide) rfl (inc_1 _) ?_
    refine x_goto (tgt := 68) dX2_add_92 (by decide) ?_
    refine x_eq (ih trivial) rfl rfl ?_
    exact congrArg (fun z => (wF (sFile S f o k m (coW (S 8) wd f i)) ++ [(Sum.inl (row 6 (fun d => nI (wd d))) : XC)]).set 4 (Sum.inl z)) (coW_s (S 8) wd f i)
  · refine x_iload dX2_add_68 rfl ?_
    refine x_iload dX2_add_70 rfl ?_
    refine x_icmp_ge_t (tgt := 95) dX2_add_72 (by decide) (nI_le (Nat.le_refl _) (by omega)) ?_
    refine x_iconst (v := 0) dX2_add_95 (by decide) ?_
    refine x_istore dX2_add_96 (by decide) ?_
    refine x_eq (lqX2_add l g S f o wd k m hf hk hm hw) rfl rfl ?_
    exact congrArg (fun z => (wF (sFile S f o k m (coW (S 8) wd f k)) ++ [(Sum.inl (row 6 (fun d => nI (wd d))) : XC)]).set 4 (Sum.inl z)) (coP_0 (coW (S 8) wd f k) wd f k)

set_option maxRecDepth 100000 in
set_option maxHeartbeats 4000000 in
theorem kX2_add (l : Launch) (g : XG) (S : MS) (f : Nat) (o : Int32) (wd : Nat → Nat) (k m : Nat) (hf : f < 8) (hk : k ≤ 6) (hm : m ≤ 4) (hw : ∀ d, d < k → wd d < 256) : Ct l g MX2_add [.ref 0, .int (nI f), .int o, .ref 7, .int (nI k), .int (nI m)] (wF S ++ [(Sum.inl (row 6 (fun d => nI (wd d))) : XC)]) (Qv (fun w1 => w1 = wF (sAddF S f o wd k m) ++ [(Sum.inl (row 6 (fun d => nI (wd d))) : XC)])) := by
  refine Ct_of (by decide) (by simp [Value.category]) (Nat.le_of_ble_eq_true rfl) ?_
  refine x_iload dX2_add_0 rfl ?_
  refine x_aload_n dX2_add_2 rfl ?_
  refine x_alr dX2_add_3 rfl ?_
  refine x_min dX2_add_4 mlX2_85 w_min1 w_math w_min3 (by decide) (by decide) (by decide) (by simp [Value.category]) ?_
  rw [min6 hk]
  refine x_bipush (v := 6) dX2_add_7 (by decide) ?_
  refine x_min dX2_add_9 mlX2_85 w_min1 w_math w_min3 (by decide) (by decide) (by decide) (by simp [Value.category]) ?_
  rw [min6l hk]
  refine x_istore dX2_add_12 (by decide) ?_
  refine x_iload_n dX2_add_14 rfl ?_
  refine x_if_lt_f (tgt := 35) dX2_add_15 (by decide) (nI_pos (by omega)) ?_
  refine x_iload_n dX2_add_18 rfl ?_
  refine x_bipush (v := 8) dX2_add_19 (by decide) ?_
  refine x_icmp_ge_f (tgt := 35) dX2_add_21 (by decide) (nI_ge hf (by decide)) ?_
  refine x_iload dX2_add_24 rfl ?_
  refine x_if_lt_f (tgt := 35) dX2_add_26 (by decide) (nI_pos (by omega)) ?_
  refine x_iload dX2_add_29 rfl ?_
  refine x_iconst (v := 4) dX2_add_31 (by decide) ?_
  refine x_icmp_le_t (tgt := 36) dX2_add_32 (by decide) (nI_le hm (by decide)) ?_
  refine x_aload_n dX2_add_36 rfl ?_
  refine x_getf dX2_add_37 flX2_18 rfl rfl ?_
  refine x_iload_n dX2_add_40 rfl ?_
  refine x_iload_n dX2_add_41 rfl ?_
  refine x_iaw dX2_add_42 rfl (ix_nI hf (by decide)) ?_
  refine x_aload_n dX2_add_43 rfl ?_
  refine x_getf dX2_add_44 flX2_9 rfl rfl ?_
  refine x_iload_n dX2_add_47 rfl ?_
  refine x_iload dX2_add_48 rfl ?_
  refine x_iaw dX2_add_50 rfl (ix_nI hf (by decide)) ?_
  refine x_aload_n dX2_add_51 rfl ?_
  refine x_getf dX2_add_52 flX2_15 rfl rfl ?_
  refine x_iload_n dX2_add_55 rfl ?_
  refine x_iload dX2_add_56 rfl ?_
  refine x_iaw dX2_add_58 rfl (ix_nI hf (by decide)) ?_
  refine x_iload_n dX2_add_59 rfl ?_
  refine x_bipush (v := 10) dX2_add_60 (by decide) ?_
  refine x_imul dX2_add_62 ?_
  refine x_istore dX2_add_63 (by decide) ?_
  refine x_iconst (v := 0) dX2_add_65 (by decide) ?_
  refine x_istore dX2_add_66 (by decide) ?_
  refine x_eq (lpX2_add l g S f o wd k m hf hk hm hw) rfl rfl ?_
  exact congrArg (fun z => (wF (sFile S f o k m (S 8)) ++ [(Sum.inl (row 6 (fun d => nI (wd d))) : XC)]).set 4 (Sum.inl z)) (coW_0 (S 8) wd f)

def sRemF (S : MS) (f : Int32) : MS := cond (exF S f) (us (us (us S 5 (cl f) 0) 6 (cl f) 0) 7 (cl f) (-1)) S
def sSet (S : MS) (f i p e : Int32) : MS := cond (irB f i) (us (us S 9 (10 * cl f + cl i) p) 10 (10 * cl f + cl i) e) S
def sErr (S : MS) (f i a : Int32) : MS := cond (irB f i) (us S 10 (10 * cl f + cl i) (remI (S 10 (10 * cl f + cl i) + a) 257)) S

set_option maxRecDepth 100000 in
set_option maxHeartbeats 4000000 in
theorem kX2_remove (l : Launch) (g : XG) (S : MS) (f : Int32) : Ct l g MX2_remove [.ref 0, .int f] (wF S) (Qv (fun w1 => w1 = wF (sRemF S f))) := by
  refine Ct_of (by decide) (by simp [Value.category]) (Nat.le_of_ble_eq_true rfl) ?_
  refine x_aload_n dX2_remove_0 rfl ?_
  refine x_iload_n dX2_remove_1 rfl ?_
  refine x_callp [0, 1, 2, 3, 4, 5, 6] (x_iV dX2_remove_2 mlX2_64 lbX2_exists rfl rfl rfl rfl) (kX2_exists l g S _) (by decide) rfl rfl (by decide) (by decide) (by simp [Value.category]) rfl rfl rfl ?_
  refine x_if_eq (tgt := 29) dX2_remove_5 (by decide) (fun c_5 => ?_) (fun c_5 => ?_)
  · exact x_retv dX2_remove_29 rfl rfl rfl (⟨rfl, by (try simp only [b2i_eq0, b2i_ne0] at *); first | (rw [sRemF, show (exF S f) = true by simp [*]] <;> rfl) | (rw [sRemF, show (exF S f) = false by simp [*]] <;> rfl)⟩)
  · refine x_aload_n dX2_remove_8 rfl ?_
    refine x_getf dX2_remove_9 flX2_9 rfl rfl ?_
    refine x_iload_n dX2_remove_12 rfl ?_
    refine x_iconst (v := 0) dX2_remove_13 (by decide) ?_
    refine x_iaw dX2_remove_14 rfl (ix_of (exF_in (b2i_t' c_5))) ?_
    refine x_aload_n dX2_remove_15 rfl ?_
    refine x_getf dX2_remove_16 flX2_15 rfl rfl ?_
    refine x_iload_n dX2_remove_19 rfl ?_
    refine x_iconst (v := 0) dX2_remove_20 (by decide) ?_
    refine x_iaw dX2_remove_21 rfl (ix_of (exF_in (b2i_t' c_5))) ?_
    refine x_aload_n dX2_remove_22 rfl ?_
    refine x_getf dX2_remove_23 flX2_18 rfl rfl ?_
    refine x_iload_n dX2_remove_26 rfl ?_
    refine x_iconst (v := -1) dX2_remove_27 (by decide) ?_
    refine x_iaw dX2_remove_28 rfl (ix_of (exF_in (b2i_t' c_5))) ?_
    exact x_retv dX2_remove_29 rfl rfl rfl (⟨rfl, by (try simp only [b2i_eq0, b2i_ne0] at *); first | (rw [sRemF, show (exF S f) = true by simp [*]] <;> rfl) | (rw [sRemF, show (exF S f) = false by simp [*]] <;> rfl)⟩)

set_option maxRecDepth 100000 in
set_option maxHeartbeats 4000000 in
theorem kX2_setFragment (l : Launch) (g : XG) (S : MS) (f i p e : Int32) : Ct l g MX2_setFragment [.ref 0, .int f, .int i, .int p, .int e] (wF S) (Qv (fun w1 => w1 = wF (sSet S f i p e))) := by
  refine Ct_of (by decide) (by simp [Value.category]) (Nat.le_of_ble_eq_true rfl) ?_
  refine x_iload_n dX2_setFragment_0 rfl ?_
  refine x_iload_n dX2_setFragment_1 rfl ?_
  refine x_callp [] (x_iS dX2_setFragment_2 mlX2_47 lbX2_isInRows rfl) (kX2_isInRows l g _ _) (by decide) rfl rfl (by decide) (by decide) (by simp [Value.category]) rfl rfl rfl ?_
  refine x_if_eq (tgt := 33) dX2_setFragment_5 (by decide) (fun c_5 => ?_) (fun c_5 => ?_)
  · exact x_retv dX2_setFragment_33 rfl rfl rfl (⟨rfl, by (try simp only [b2i_eq0, b2i_ne0] at *); first | (rw [sSet, show (irB f i) = true by simp [*]] <;> rfl) | (rw [sSet, show (irB f i) = false by simp [*]] <;> rfl)⟩)
  · refine x_aload_n dX2_setFragment_8 rfl ?_
    refine x_getf dX2_setFragment_9 flX2_24 rfl rfl ?_
    refine x_iload_n dX2_setFragment_12 rfl ?_
    refine x_bipush (v := 10) dX2_setFragment_13 (by decide) ?_
    refine x_imul dX2_setFragment_15 ?_
    refine x_iload_n dX2_setFragment_16 rfl ?_
    refine x_iadd dX2_setFragment_17 ?_
    refine x_iload_n dX2_setFragment_18 rfl ?_
    refine x_iaw dX2_setFragment_19 rfl ((ix_2 8 10 80 rfl rfl (by decide) (irB_1 (b2i_t' c_5)) (irB_2 (b2i_t' c_5)))) ?_
    refine x_aload_n dX2_setFragment_20 rfl ?_
    refine x_getf dX2_setFragment_21 flX2_27 rfl rfl ?_
    refine x_iload_n dX2_setFragment_24 rfl ?_
    refine x_bipush (v := 10) dX2_setFragment_25 (by decide) ?_
    refine x_imul dX2_setFragment_27 ?_
    refine x_iload_n dX2_setFragment_28 rfl ?_
    refine x_iadd dX2_setFragment_29 ?_
    refine x_iload dX2_setFragment_30 rfl ?_
    refine x_iaw dX2_setFragment_32 rfl ((ix_2 8 10 80 rfl rfl (by decide) (irB_1 (b2i_t' c_5)) (irB_2 (b2i_t' c_5)))) ?_
    exact x_retv dX2_setFragment_33 rfl rfl rfl (⟨rfl, by (try simp only [b2i_eq0, b2i_ne0] at *); first | (rw [sSet, show (irB f i) = true by simp [*]] <;> rfl) | (rw [sSet, show (irB f i) = false by simp [*]] <;> rfl)⟩)

set_option maxRecDepth 100000 in
set_option maxHeartbeats 4000000 in
theorem kX2_addError (l : Launch) (g : XG) (S : MS) (f i a : Int32) : Ct l g MX2_addError [.ref 0, .int f, .int i, .int a] (wF S) (Qv (fun w1 => w1 = wF (sErr S f i a))) := by
  refine Ct_of (by decide) (by simp [Value.category]) (Nat.le_of_ble_eq_true rfl) ?_
  refine x_iload_n dX2_addError_0 rfl ?_
  refine x_iload_n dX2_addError_1 rfl ?_
  refine x_callp [] (x_iS dX2_addError_2 mlX2_47 lbX2_isInRows rfl) (kX2_isInRows l g _ _) (by decide) rfl rfl (by decide) (by decide) (by simp [Value.category]) rfl rfl rfl ?_
  refine x_if_eq (tgt := 36) dX2_addError_5 (by decide) (fun c_5 => ?_) (fun c_5 => ?_)
  · exact x_retv dX2_addError_36 rfl rfl rfl (⟨rfl, by (try simp only [b2i_eq0, b2i_ne0] at *); first | (rw [sErr, show (irB f i) = true by simp [*]] <;> rfl) | (rw [sErr, show (irB f i) = false by simp [*]] <;> rfl)⟩)
  · refine x_iload_n dX2_addError_8 rfl ?_
    refine x_bipush (v := 10) dX2_addError_9 (by decide) ?_
    refine x_imul dX2_addError_11 ?_
    refine x_iload_n dX2_addError_12 rfl ?_
    refine x_iadd dX2_addError_13 ?_
    refine x_istore dX2_addError_14 (by decide) ?_
    refine x_aload_n dX2_addError_16 rfl ?_
    refine x_getf dX2_addError_17 flX2_27 rfl rfl ?_
    refine x_iload dX2_addError_20 rfl ?_
    refine x_aload_n dX2_addError_22 rfl ?_
    refine x_getf dX2_addError_23 flX2_27 rfl rfl ?_
    refine x_iload dX2_addError_26 rfl ?_
    refine x_iar dX2_addError_28 rfl ((ix_2 8 10 80 rfl rfl (by decide) (irB_1 (b2i_t' c_5)) (irB_2 (b2i_t' c_5)))) ?_
    refine x_iload_n dX2_addError_29 rfl ?_
    refine x_iadd dX2_addError_30 ?_
    refine x_sipush (v := 257) dX2_addError_31 (by decide) ?_
    refine x_irem dX2_addError_34 (by decide) ?_
    refine x_iaw dX2_addError_35 rfl ((ix_2 8 10 80 rfl rfl (by decide) (irB_1 (b2i_t' c_5)) (irB_2 (b2i_t' c_5)))) ?_
    exact x_retv dX2_addError_36 rfl rfl rfl (⟨rfl, by (try simp only [b2i_eq0, b2i_ne0] at *); first | (rw [sErr, show (irB f i) = true by simp [*]] <;> rfl) | (rw [sErr, show (irB f i) = false by simp [*]] <;> rfl)⟩)

set_option maxRecDepth 100000 in
set_option maxHeartbeats 4000000 in
theorem kX2_copyFrom (l : Launch) (g : XG) (S S2 : MS) : Ct l g MX2_copyFrom [.ref 0, .ref 7] (wF S ++ [.inr (.inr (2, [.ref 8, .ref 9, .ref 10, .ref 11, .ref 12, .ref 13])), .inl (row 8 (S2 5)), .inl (row 8 (S2 6)), .inl (row 8 (S2 7)), .inl (row 80 (S2 8)), .inl (row 80 (S2 9)), .inl (row 80 (S2 10))]) (Qv (fun w1 => w1 = wF S2 ++ [.inr (.inr (2, [.ref 8, .ref 9, .ref 10, .ref 11, .ref 12, .ref 13])), .inl (row 8 (S2 5)), .inl (row 8 (S2 6)), .inl (row 8 (S2 7)), .inl (row 80 (S2 8)), .inl (row 80 (S2 9)), .inl (row 80 (S2 10))])) := by
  refine Ct_of (by decide) (by simp [Value.category]) (Nat.le_of_ble_eq_true rfl) ?_
  refine x_aload_n dX2_copyFrom_0 rfl ?_
  refine x_getf dX2_copyFrom_1 flX2_9 rfl rfl ?_
  refine x_aload_n dX2_copyFrom_4 rfl ?_
  refine x_getf dX2_copyFrom_5 flX2_9 rfl rfl ?_
  refine x_callv [8, 1] (x_iSN dX2_copyFrom_8 mlX2_36 lbX6_copyRow rfl) (kX6_copyRow l g 8 (by decide) (S2 5) (S 5)) (by decide) (by decide) (by decide) (by simp [Value.category]) rfl rfl rfl (fun w1 h1 => ?_)
  obtain rfl := h1
  show XA _ _ _ _ _ _ _ ([.inr (.inr (2, [.ref 1, .ref 2, .ref 3, .ref 4, .ref 5, .ref 6])), .inl (row 8 (S2 5)), .inl (row 8 (S 6)), .inl (row 8 (S 7)), .inl (row 80 (S 8)), .inl (row 80 (S 9)), .inl (row 80 (S 10))] ++ [.inr (.inr (2, [.ref 8, .ref 9, .ref 10, .ref 11, .ref 12, .ref 13])), .inl (row 8 (S2 5)), .inl (row 8 (S2 6)), .inl (row 8 (S2 7)), .inl (row 80 (S2 8)), .inl (row 80 (S2 9)), .inl (row 80 (S2 10))]) _ _
  refine x_aload_n dX2_copyFrom_11 rfl ?_
  refine x_getf dX2_copyFrom_12 flX2_15 rfl rfl ?_
  refine x_aload_n dX2_copyFrom_15 rfl ?_
  refine x_getf dX2_copyFrom_16 flX2_15 rfl rfl ?_
  refine x_callv [9, 2] (x_iSN dX2_copyFrom_19 mlX2_36 lbX6_copyRow rfl) (kX6_copyRow l g 8 (by decide) (S2 6) (S 6)) (by decide) (by decide) (by decide) (by simp [Value.category]) rfl rfl rfl (fun w1 h1 => ?_)
  obtain rfl := h1
  show XA _ _ _ _ _ _ _ ([.inr (.inr (2, [.ref 1, .ref 2, .ref 3, .ref 4, .ref 5, .ref 6])), .inl (row 8 (S2 5)), .inl (row 8 (S2 6)), .inl (row 8 (S 7)), .inl (row 80 (S 8)), .inl (row 80 (S 9)), .inl (row 80 (S 10))] ++ [.inr (.inr (2, [.ref 8, .ref 9, .ref 10, .ref 11, .ref 12, .ref 13])), .inl (row 8 (S2 5)), .inl (row 8 (S2 6)), .inl (row 8 (S2 7)), .inl (row 80 (S2 8)), .inl (row 80 (S2 9)), .inl (row 80 (S2 10))]) _ _
  refine x_aload_n dX2_copyFrom_22 rfl ?_
  refine x_getf dX2_copyFrom_23 flX2_18 rfl rfl ?_
  refine x_aload_n dX2_copyFrom_26 rfl ?_
  refine x_getf dX2_copyFrom_27 flX2_18 rfl rfl ?_
  refine x_callv [10, 3] (x_iSN dX2_copyFrom_30 mlX2_36 lbX6_copyRow rfl) (kX6_copyRow l g 8 (by decide) (S2 7) (S 7)) (by decide) (by decide) (by decide) (by simp [Value.category]) rfl rfl rfl (fun w1 h1 => ?_)
  obtain rfl := h1
  show XA _ _ _ _ _ _ _ ([.inr (.inr (2, [.ref 1, .ref 2, .ref 3, .ref 4, .ref 5, .ref 6])), .inl (row 8 (S2 5)), .inl (row 8 (S2 6)), .inl (row 8 (S2 7)), .inl (row 80 (S 8)), .inl (row 80 (S 9)), .inl (row 80 (S 10))] ++ [.inr (.inr (2, [.ref 8, .ref 9, .ref 10, .ref 11, .ref 12, .ref 13])), .inl (row 8 (S2 5)), .inl (row 8 (S2 6)), .inl (row 8 (S2 7)), .inl (row 80 (S2 8)), .inl (row 80 (S2 9)), .inl (row 80 (S2 10))]) _ _
  refine x_aload_n dX2_copyFrom_33 rfl ?_
  refine x_getf dX2_copyFrom_34 flX2_21 rfl rfl ?_
  refine x_aload_n dX2_copyFrom_37 rfl ?_
  refine x_getf dX2_copyFrom_38 flX2_21 rfl rfl ?_
  refine x_callv [11, 4] (x_iSN dX2_copyFrom_41 mlX2_36 lbX6_copyRow rfl) (kX6_copyRow l g 80 (by decide) (S2 8) (S 8)) (by decide) (by decide) (by decide) (by simp [Value.category]) rfl rfl rfl (fun w1 h1 => ?_)
  obtain rfl := h1
  show XA _ _ _ _ _ _ _ ([.inr (.inr (2, [.ref 1, .ref 2, .ref 3, .ref 4, .ref 5, .ref 6])), .inl (row 8 (S2 5)), .inl (row 8 (S2 6)), .inl (row 8 (S2 7)), .inl (row 80 (S2 8)), .inl (row 80 (S 9)), .inl (row 80 (S 10))] ++ [.inr (.inr (2, [.ref 8, .ref 9, .ref 10, .ref 11, .ref 12, .ref 13])), .inl (row 8 (S2 5)), .inl (row 8 (S2 6)), .inl (row 8 (S2 7)), .inl (row 80 (S2 8)), .inl (row 80 (S2 9)), .inl (row 80 (S2 10))]) _ _
  refine x_aload_n dX2_copyFrom_44 rfl ?_
  refine x_getf dX2_copyFrom_45 flX2_24 rfl rfl ?_
  refine x_aload_n dX2_copyFrom_48 rfl ?_
  refine x_getf dX2_copyFrom_49 flX2_24 rfl rfl ?_
  refine x_callv [12, 5] (x_iSN dX2_copyFrom_52 mlX2_36 lbX6_copyRow rfl) (kX6_copyRow l g 80 (by decide) (S2 9) (S 9)) (by decide) (by decide) (by decide) (by simp [Value.category]) rfl rfl rfl (fun w1 h1 => ?_)
  obtain rfl := h1
  show XA _ _ _ _ _ _ _ ([.inr (.inr (2, [.ref 1, .ref 2, .ref 3, .ref 4, .ref 5, .ref 6])), .inl (row 8 (S2 5)), .inl (row 8 (S2 6)), .inl (row 8 (S2 7)), .inl (row 80 (S2 8)), .inl (row 80 (S2 9)), .inl (row 80 (S 10))] ++ [.inr (.inr (2, [.ref 8, .ref 9, .ref 10, .ref 11, .ref 12, .ref 13])), .inl (row 8 (S2 5)), .inl (row 8 (S2 6)), .inl (row 8 (S2 7)), .inl (row 80 (S2 8)), .inl (row 80 (S2 9)), .inl (row 80 (S2 10))]) _ _
  refine x_aload_n dX2_copyFrom_55 rfl ?_
  refine x_getf dX2_copyFrom_56 flX2_27 rfl rfl ?_
  refine x_aload_n dX2_copyFrom_59 rfl ?_
  refine x_getf dX2_copyFrom_60 flX2_27 rfl rfl ?_
  refine x_callv [13, 6] (x_iSN dX2_copyFrom_63 mlX2_36 lbX6_copyRow rfl) (kX6_copyRow l g 80 (by decide) (S2 10) (S 10)) (by decide) (by decide) (by decide) (by simp [Value.category]) rfl rfl rfl (fun w1 h1 => ?_)
  obtain rfl := h1
  show XA _ _ _ _ _ _ _ ([.inr (.inr (2, [.ref 1, .ref 2, .ref 3, .ref 4, .ref 5, .ref 6])), .inl (row 8 (S2 5)), .inl (row 8 (S2 6)), .inl (row 8 (S2 7)), .inl (row 80 (S2 8)), .inl (row 80 (S2 9)), .inl (row 80 (S2 10))] ++ [.inr (.inr (2, [.ref 8, .ref 9, .ref 10, .ref 11, .ref 12, .ref 13])), .inl (row 8 (S2 5)), .inl (row 8 (S2 6)), .inl (row 8 (S2 7)), .inl (row 80 (S2 8)), .inl (row 80 (S2 9)), .inl (row 80 (S2 10))]) _ _
  exact x_retv dX2_copyFrom_66 rfl rfl rfl (⟨rfl, rfl⟩)
end
