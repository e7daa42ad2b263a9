section
-- ===== PART A: goes FIRST, ahead of the names: the tables' words, and 'selects' of the private methods out of them =====
/-- a private method of a class that the tables say can be made, by its rows of tables_1 -/
def lw_okq (q : MethodName × Nat) : Prop := (q.1.cls ≠ "java/lang/invoke/MethodHandle" ∧ q.1.cls ≠ "java/lang/invoke/VarHandle") ∧ Cond.instantiable q.1.cls q.2 ∈ tables_1 ∧ Cond.privateMethod q.1 ∈ tables_1 ∧ Cond.instanceMethod q.1 ∈ tables_1
theorem lw_p0 : lw_okq (⟨"java/lang/Throwable", "fillInStackTrace", "(I)Ljava/lang/Throwable;"⟩, 6) := ⟨⟨by decide +kernel, by decide +kernel⟩, List.mem_of_getElem? (i := 224) (by decide +kernel), List.mem_of_getElem? (i := 222) (by decide +kernel), List.mem_of_getElem? (i := 223) (by decide +kernel)⟩
theorem lw_p1 : lw_okq (⟨"java/util/ArrayList", "add", "(Ljava/lang/Object;[Ljava/lang/Object;I)V"⟩, 3) := ⟨⟨by decide +kernel, by decide +kernel⟩, List.mem_of_getElem? (i := 48) (by decide +kernel), List.mem_of_getElem? (i := 309) (by decide +kernel), List.mem_of_getElem? (i := 310) (by decide +kernel)⟩
theorem lw_p2 : lw_okq (⟨"java/util/ArrayList", "grow", "()[Ljava/lang/Object;"⟩, 3) := ⟨⟨by decide +kernel, by decide +kernel⟩, List.mem_of_getElem? (i := 48) (by decide +kernel), List.mem_of_getElem? (i := 313) (by decide +kernel), List.mem_of_getElem? (i := 314) (by decide +kernel)⟩
theorem lw_p3 : lw_okq (⟨"java/util/ArrayList", "grow", "(I)[Ljava/lang/Object;"⟩, 3) := ⟨⟨by decide +kernel, by decide +kernel⟩, List.mem_of_getElem? (i := 48) (by decide +kernel), List.mem_of_getElem? (i := 317) (by decide +kernel), List.mem_of_getElem? (i := 318) (by decide +kernel)⟩
theorem lw_p4 : lw_okq (⟨"GraveyardReader", "takeClusters", "(LGraveyardReader$ClusterRow;II)V"⟩, 5) := ⟨⟨by decide +kernel, by decide +kernel⟩, List.mem_of_getElem? (i := 23) (by decide +kernel), List.mem_of_getElem? (i := 362) (by decide +kernel), List.mem_of_getElem? (i := 363) (by decide +kernel)⟩
theorem lw_p5 : lw_okq (⟨"GraveyardReader", "writeByRule", "(LGraveyardReader$DiskFile;I)V"⟩, 5) := ⟨⟨by decide +kernel, by decide +kernel⟩, List.mem_of_getElem? (i := 23) (by decide +kernel), List.mem_of_getElem? (i := 374) (by decide +kernel), List.mem_of_getElem? (i := 375) (by decide +kernel)⟩
theorem lw_p6 : lw_okq (⟨"GraveyardReader", "readClaims", "()V"⟩, 5) := ⟨⟨by decide +kernel, by decide +kernel⟩, List.mem_of_getElem? (i := 23) (by decide +kernel), List.mem_of_getElem? (i := 393) (by decide +kernel), List.mem_of_getElem? (i := 394) (by decide +kernel)⟩
theorem lw_p7 : lw_okq (⟨"GraveyardReader", "readClaim", "(LGraveyardReader$DiskFile;)V"⟩, 5) := ⟨⟨by decide +kernel, by decide +kernel⟩, List.mem_of_getElem? (i := 23) (by decide +kernel), List.mem_of_getElem? (i := 397) (by decide +kernel), List.mem_of_getElem? (i := 398) (by decide +kernel)⟩
theorem lw_p8 : lw_okq (⟨"GraveyardReader", "trustIn", "(LGraveyardReader$DiskFile;)I"⟩, 5) := ⟨⟨by decide +kernel, by decide +kernel⟩, List.mem_of_getElem? (i := 23) (by decide +kernel), List.mem_of_getElem? (i := 410) (by decide +kernel), List.mem_of_getElem? (i := 411) (by decide +kernel)⟩
theorem lw_p9 : lw_okq (⟨"GraveyardReader", "livingFile", "(I)LGraveyardReader$DiskFile;"⟩, 5) := ⟨⟨by decide +kernel, by decide +kernel⟩, List.mem_of_getElem? (i := 23) (by decide +kernel), List.mem_of_getElem? (i := 435) (by decide +kernel), List.mem_of_getElem? (i := 436) (by decide +kernel)⟩
theorem lw_p10 : lw_okq (⟨"GraveyardReader", "knownFile", "(I)LGraveyardReader$DiskFile;"⟩, 5) := ⟨⟨by decide +kernel, by decide +kernel⟩, List.mem_of_getElem? (i := 23) (by decide +kernel), List.mem_of_getElem? (i := 439) (by decide +kernel), List.mem_of_getElem? (i := 440) (by decide +kernel)⟩
theorem lw_p11 : lw_okq (⟨"GraveyardReader", "thrownFile", "(I)LGraveyardReader$DiskFile;"⟩, 5) := ⟨⟨by decide +kernel, by decide +kernel⟩, List.mem_of_getElem? (i := 23) (by decide +kernel), List.mem_of_getElem? (i := 537) (by decide +kernel), List.mem_of_getElem? (i := 538) (by decide +kernel)⟩
theorem lw_p12 : lw_okq (⟨"GraveyardReader", "strongestClaimant", "(I)I"⟩, 5) := ⟨⟨by decide +kernel, by decide +kernel⟩, List.mem_of_getElem? (i := 23) (by decide +kernel), List.mem_of_getElem? (i := 564) (by decide +kernel), List.mem_of_getElem? (i := 565) (by decide +kernel)⟩
theorem lw_p13 : lw_okq (⟨"GraveyardReader$JoinSearch", "weigh", "(LGraveyardReader$Disk;I)V"⟩, 8) := ⟨⟨by decide +kernel, by decide +kernel⟩, List.mem_of_getElem? (i := 74) (by decide +kernel), List.mem_of_getElem? (i := 593) (by decide +kernel), List.mem_of_getElem? (i := 594) (by decide +kernel)⟩
theorem lw_p14 : lw_okq (⟨"GraveyardReader$JoinSearch", "fill", "(II)Z"⟩, 8) := ⟨⟨by decide +kernel, by decide +kernel⟩, List.mem_of_getElem? (i := 74) (by decide +kernel), List.mem_of_getElem? (i := 598) (by decide +kernel), List.mem_of_getElem? (i := 599) (by decide +kernel)⟩
theorem lw_p15 : lw_okq (⟨"GraveyardReader$JoinSearch", "goesOn", "(III)Z"⟩, 8) := ⟨⟨by decide +kernel, by decide +kernel⟩, List.mem_of_getElem? (i := 74) (by decide +kernel), List.mem_of_getElem? (i := 602) (by decide +kernel), List.mem_of_getElem? (i := 603) (by decide +kernel)⟩
def lw_privs_1 : List (MethodName × Nat) := [(⟨"java/lang/Throwable", "fillInStackTrace", "(I)Ljava/lang/Throwable;"⟩, 6), (⟨"java/util/ArrayList", "add", "(Ljava/lang/Object;[Ljava/lang/Object;I)V"⟩, 3), (⟨"java/util/ArrayList", "grow", "()[Ljava/lang/Object;"⟩, 3), (⟨"java/util/ArrayList", "grow", "(I)[Ljava/lang/Object;"⟩, 3), (⟨"GraveyardReader", "takeClusters", "(LGraveyardReader$ClusterRow;II)V"⟩, 5), (⟨"GraveyardReader", "writeByRule", "(LGraveyardReader$DiskFile;I)V"⟩, 5), (⟨"GraveyardReader", "readClaims", "()V"⟩, 5), (⟨"GraveyardReader", "readClaim", "(LGraveyardReader$DiskFile;)V"⟩, 5), (⟨"GraveyardReader", "trustIn", "(LGraveyardReader$DiskFile;)I"⟩, 5), (⟨"GraveyardReader", "livingFile", "(I)LGraveyardReader$DiskFile;"⟩, 5), (⟨"GraveyardReader", "knownFile", "(I)LGraveyardReader$DiskFile;"⟩, 5), (⟨"GraveyardReader", "thrownFile", "(I)LGraveyardReader$DiskFile;"⟩, 5), (⟨"GraveyardReader", "strongestClaimant", "(I)I"⟩, 5), (⟨"GraveyardReader$JoinSearch", "weigh", "(LGraveyardReader$Disk;I)V"⟩, 8), (⟨"GraveyardReader$JoinSearch", "fill", "(II)Z"⟩, 8), (⟨"GraveyardReader$JoinSearch", "goesOn", "(III)Z"⟩, 8)]
theorem lw_r1 : ∀ q ∈ lw_privs_1, lw_okq q := List.forall_mem_cons.mpr ⟨lw_p0, List.forall_mem_cons.mpr ⟨lw_p1, List.forall_mem_cons.mpr ⟨lw_p2, List.forall_mem_cons.mpr ⟨lw_p3, List.forall_mem_cons.mpr ⟨lw_p4, List.forall_mem_cons.mpr ⟨lw_p5, List.forall_mem_cons.mpr ⟨lw_p6, List.forall_mem_cons.mpr ⟨lw_p7, List.forall_mem_cons.mpr ⟨lw_p8, List.forall_mem_cons.mpr ⟨lw_p9, List.forall_mem_cons.mpr ⟨lw_p10, List.forall_mem_cons.mpr ⟨lw_p11, List.forall_mem_cons.mpr ⟨lw_p12, List.forall_mem_cons.mpr ⟨lw_p13, List.forall_mem_cons.mpr ⟨lw_p14, List.forall_mem_cons.mpr ⟨lw_p15, fun _ h => absurd h List.not_mem_nil⟩⟩⟩⟩⟩⟩⟩⟩⟩⟩⟩⟩⟩⟩⟩⟩
theorem lw_p16 : lw_okq (⟨"GraveyardReaderModel", "frees", "()I"⟩, 13) := ⟨⟨by decide +kernel, by decide +kernel⟩, List.mem_of_getElem? (i := 618) (by decide +kernel), List.mem_of_getElem? (i := 675) (by decide +kernel), List.mem_of_getElem? (i := 676) (by decide +kernel)⟩
theorem lw_p17 : lw_okq (⟨"GraveyardReaderModel", "goes", "(ZZZ)Z"⟩, 13) := ⟨⟨by decide +kernel, by decide +kernel⟩, List.mem_of_getElem? (i := 618) (by decide +kernel), List.mem_of_getElem? (i := 679) (by decide +kernel), List.mem_of_getElem? (i := 680) (by decide +kernel)⟩
theorem lw_p18 : lw_okq (⟨"GraveyardReaderModel", "takes", "(I)I"⟩, 13) := ⟨⟨by decide +kernel, by decide +kernel⟩, List.mem_of_getElem? (i := 618) (by decide +kernel), List.mem_of_getElem? (i := 683) (by decide +kernel), List.mem_of_getElem? (i := 684) (by decide +kernel)⟩
theorem lw_p19 : lw_okq (⟨"GraveyardReaderModel", "place", "(II)I"⟩, 13) := ⟨⟨by decide +kernel, by decide +kernel⟩, List.mem_of_getElem? (i := 618) (by decide +kernel), List.mem_of_getElem? (i := 687) (by decide +kernel), List.mem_of_getElem? (i := 688) (by decide +kernel)⟩
theorem lw_p20 : lw_okq (⟨"GraveyardReaderModel", "byRule", "(II)I"⟩, 13) := ⟨⟨by decide +kernel, by decide +kernel⟩, List.mem_of_getElem? (i := 618) (by decide +kernel), List.mem_of_getElem? (i := 691) (by decide +kernel), List.mem_of_getElem? (i := 692) (by decide +kernel)⟩
theorem lw_p21 : lw_okq (⟨"GraveyardReaderModel", "isFile", "(I)Z"⟩, 13) := ⟨⟨by decide +kernel, by decide +kernel⟩, List.mem_of_getElem? (i := 618) (by decide +kernel), List.mem_of_getElem? (i := 699) (by decide +kernel), List.mem_of_getElem? (i := 700) (by decide +kernel)⟩
theorem lw_p22 : lw_okq (⟨"GraveyardReaderModel", "isGone", "(I)Z"⟩, 13) := ⟨⟨by decide +kernel, by decide +kernel⟩, List.mem_of_getElem? (i := 618) (by decide +kernel), List.mem_of_getElem? (i := 703) (by decide +kernel), List.mem_of_getElem? (i := 704) (by decide +kernel)⟩
theorem lw_p23 : lw_okq (⟨"GraveyardReaderModel", "checksumOf", "(I)I"⟩, 13) := ⟨⟨by decide +kernel, by decide +kernel⟩, List.mem_of_getElem? (i := 618) (by decide +kernel), List.mem_of_getElem? (i := 715) (by decide +kernel), List.mem_of_getElem? (i := 716) (by decide +kernel)⟩
theorem lw_p24 : lw_okq (⟨"GraveyardReaderModel", "told", "(I)I"⟩, 13) := ⟨⟨by decide +kernel, by decide +kernel⟩, List.mem_of_getElem? (i := 618) (by decide +kernel), List.mem_of_getElem? (i := 723) (by decide +kernel), List.mem_of_getElem? (i := 724) (by decide +kernel)⟩
theorem lw_p25 : lw_okq (⟨"GraveyardReaderModel", "asks", "(I)Z"⟩, 13) := ⟨⟨by decide +kernel, by decide +kernel⟩, List.mem_of_getElem? (i := 618) (by decide +kernel), List.mem_of_getElem? (i := 758) (by decide +kernel), List.mem_of_getElem? (i := 759) (by decide +kernel)⟩
theorem lw_p26 : lw_okq (⟨"GraveyardReaderModel", "claims", "(I)I"⟩, 13) := ⟨⟨by decide +kernel, by decide +kernel⟩, List.mem_of_getElem? (i := 618) (by decide +kernel), List.mem_of_getElem? (i := 762) (by decide +kernel), List.mem_of_getElem? (i := 763) (by decide +kernel)⟩
theorem lw_p27 : lw_okq (⟨"GraveyardReaderModel", "asks", "(IZ)Z"⟩, 13) := ⟨⟨by decide +kernel, by decide +kernel⟩, List.mem_of_getElem? (i := 618) (by decide +kernel), List.mem_of_getElem? (i := 770) (by decide +kernel), List.mem_of_getElem? (i := 771) (by decide +kernel)⟩
theorem lw_p28 : lw_okq (⟨"GraveyardReaderModel", "confidenceOf", "(I)I"⟩, 13) := ⟨⟨by decide +kernel, by decide +kernel⟩, List.mem_of_getElem? (i := 618) (by decide +kernel), List.mem_of_getElem? (i := 778) (by decide +kernel), List.mem_of_getElem? (i := 779) (by decide +kernel)⟩
theorem lw_p29 : lw_okq (⟨"GraveyardReaderModel", "claimant", "(I)I"⟩, 13) := ⟨⟨by decide +kernel, by decide +kernel⟩, List.mem_of_getElem? (i := 618) (by decide +kernel), List.mem_of_getElem? (i := 786) (by decide +kernel), List.mem_of_getElem? (i := 787) (by decide +kernel)⟩
theorem lw_p30 : lw_okq (⟨"GraveyardReaderModel", "joins", "(I)Z"⟩, 13) := ⟨⟨by decide +kernel, by decide +kernel⟩, List.mem_of_getElem? (i := 618) (by decide +kernel), List.mem_of_getElem? (i := 802) (by decide +kernel), List.mem_of_getElem? (i := 803) (by decide +kernel)⟩
theorem lw_p31 : lw_okq (⟨"GraveyardReaderModel", "isJoin", "(I)Z"⟩, 13) := ⟨⟨by decide +kernel, by decide +kernel⟩, List.mem_of_getElem? (i := 618) (by decide +kernel), List.mem_of_getElem? (i := 806) (by decide +kernel), List.mem_of_getElem? (i := 807) (by decide +kernel)⟩
def lw_privs_2 : List (MethodName × Nat) := [(⟨"GraveyardReaderModel", "frees", "()I"⟩, 13), (⟨"GraveyardReaderModel", "goes", "(ZZZ)Z"⟩, 13), (⟨"GraveyardReaderModel", "takes", "(I)I"⟩, 13), (⟨"GraveyardReaderModel", "place", "(II)I"⟩, 13), (⟨"GraveyardReaderModel", "byRule", "(II)I"⟩, 13), (⟨"GraveyardReaderModel", "isFile", "(I)Z"⟩, 13), (⟨"GraveyardReaderModel", "isGone", "(I)Z"⟩, 13), (⟨"GraveyardReaderModel", "checksumOf", "(I)I"⟩, 13), (⟨"GraveyardReaderModel", "told", "(I)I"⟩, 13), (⟨"GraveyardReaderModel", "asks", "(I)Z"⟩, 13), (⟨"GraveyardReaderModel", "claims", "(I)I"⟩, 13), (⟨"GraveyardReaderModel", "asks", "(IZ)Z"⟩, 13), (⟨"GraveyardReaderModel", "confidenceOf", "(I)I"⟩, 13), (⟨"GraveyardReaderModel", "claimant", "(I)I"⟩, 13), (⟨"GraveyardReaderModel", "joins", "(I)Z"⟩, 13), (⟨"GraveyardReaderModel", "isJoin", "(I)Z"⟩, 13)]
theorem lw_r2 : ∀ q ∈ lw_privs_2, lw_okq q := List.forall_mem_cons.mpr ⟨lw_p16, List.forall_mem_cons.mpr ⟨lw_p17, List.forall_mem_cons.mpr ⟨lw_p18, List.forall_mem_cons.mpr ⟨lw_p19, List.forall_mem_cons.mpr ⟨lw_p20, List.forall_mem_cons.mpr ⟨lw_p21, List.forall_mem_cons.mpr ⟨lw_p22, List.forall_mem_cons.mpr ⟨lw_p23, List.forall_mem_cons.mpr ⟨lw_p24, List.forall_mem_cons.mpr ⟨lw_p25, List.forall_mem_cons.mpr ⟨lw_p26, List.forall_mem_cons.mpr ⟨lw_p27, List.forall_mem_cons.mpr ⟨lw_p28, List.forall_mem_cons.mpr ⟨lw_p29, List.forall_mem_cons.mpr ⟨lw_p30, List.forall_mem_cons.mpr ⟨lw_p31, fun _ h => absurd h List.not_mem_nil⟩⟩⟩⟩⟩⟩⟩⟩⟩⟩⟩⟩⟩⟩⟩⟩
theorem lw_p32 : lw_okq (⟨"GraveyardReaderModel", "part", "(II)I"⟩, 13) := ⟨⟨by decide +kernel, by decide +kernel⟩, List.mem_of_getElem? (i := 618) (by decide +kernel), List.mem_of_getElem? (i := 810) (by decide +kernel), List.mem_of_getElem? (i := 811) (by decide +kernel)⟩
theorem lw_p33 : lw_okq (⟨"GraveyardReaderModel", "fits", "(I)Z"⟩, 13) := ⟨⟨by decide +kernel, by decide +kernel⟩, List.mem_of_getElem? (i := 618) (by decide +kernel), List.mem_of_getElem? (i := 814) (by decide +kernel), List.mem_of_getElem? (i := 815) (by decide +kernel)⟩
def lw_privs_3 : List (MethodName × Nat) := [(⟨"GraveyardReaderModel", "part", "(II)I"⟩, 13), (⟨"GraveyardReaderModel", "fits", "(I)Z"⟩, 13)]
theorem lw_r3 : ∀ q ∈ lw_privs_3, lw_okq q := List.forall_mem_cons.mpr ⟨lw_p32, List.forall_mem_cons.mpr ⟨lw_p33, fun _ h => absurd h List.not_mem_nil⟩⟩
def lw_privs : List (MethodName × Nat) := lw_privs_1 ++ (lw_privs_2 ++ (lw_privs_3))
def lw_tbl : List Cond := k2_sels lw_privs ++ tables_1
theorem lw_privs_ok : ∀ q ∈ lw_privs, lw_okq q := by
  show ∀ q ∈ lw_privs_1 ++ (lw_privs_2 ++ (lw_privs_3)), lw_okq q
  exact List.forall_mem_append.mpr ⟨lw_r1, List.forall_mem_append.mpr ⟨lw_r2, lw_r3⟩⟩
end
section
/-! ===== BEGIN words of one list among another's, by their places ===== -/
theorem goodIn_r {big : List Cond} (ws : List Cond) (ps : List Nat) (hp : ws = ps.filterMap (fun i => big[i]?)) (h : ws.all goodWord = true) : GoodIn big ws := by
  intro w hw
  have h1 := List.all_eq_true.mp h w hw
  rw [hp] at hw
  obtain ⟨i, -, hi⟩ := List.mem_filterMap.mp hw
  have hm : w ∈ big := by first | exact List.mem_of_getElem? hi | exact List.getElem?_mem hi
  exact ⟨hm, good_of_word h1⟩
theorem goodIn_app {big a b : List Cond} (ha : GoodIn big a) (hb : GoodIn big b) : GoodIn big (a ++ b) := fun w h => (List.mem_append.mp h).elim (ha w) (hb w)
theorem goodIn_ca {big a b : List Cond} {c : Cond} (ha : GoodIn big (c :: a)) (hb : GoodIn big b) : GoodIn big (c :: (a ++ b)) := fun w h => (List.mem_cons.mp h).elim (fun e => ha w (List.mem_cons.mpr (Or.inl e))) (fun h => (List.mem_append.mp h).elim (fun h => ha w (List.mem_cons.mpr (Or.inr h))) (hb w))
theorem goodIn_sub {big ws : List Cond} (hm : ∀ w ∈ ws, w ∈ big) (h : ws.all goodWord = true) : GoodIn big ws := fun w hw => ⟨hm w hw, good_of_word (List.all_eq_true.mp h w hw)⟩
/-! ===== END ===== -/

/-! ===== BEGIN exceptions that leave a method, and their catching by the caller (launches without stack traces) ===== -/
section VXA
/-! The laws vx_back, vx_callV, vx_callS, vx_callSW, vx_throw0, vx_throwS follow proofs of the library, with one case more: JvmDerived/Free/Laws.lean (Back.of_free), Shelf42/LK1.lean (callV, callS), Shelf/KitTraced.lean (throwNew0V, throwNewS). -/
/-- where a method has thrown q: the class by its name, the cell, what was written, the world -/
def vx_T (XC : String → State → State → Prop) (st : State) (q : Addr) (t : State) (mc ms : Nat) (free : Addr → Prop) : Prop :=
  ∃ (E : String) (ce : Cell) (L : List Loc), XC E st t ∧ t.heap[q]? = some ce ∧ ce.vm = .none ∧ st.vm.findClass E = some ce.cls ∧ st.WarmedH t.vm ∧ st.sameButNew ({ t with vm := st.vm } : State) L mc ms ∧ ∀ z ∈ L, free z.base
def vx_Q (Qc : Array Value → State → Outcome → State → Prop) (XC : String → State → State → Prop) (mc ms : Nat) (free : Addr → Prop) : Array Value → State → Outcome → State → Prop := fun a st o t =>
  (Qc a st o t ∧ ∃ L, FrameEnd st o t L mc ms ∧ ∀ q ∈ L, free q.base) ∨ ∃ q, o = .threw q ∧ vx_T XC st q t mc ms free
/-- a callee that returns or throws -/
def vx_Met (l : Launch) (y : MethodName) (ws : List Cond) (rm : Room) (Pc : Array Value → State → Prop) (Qc : Array Value → State → Outcome → State → Prop) (XC : String → State → State → Prop) (mc ms : Nat) (free : Addr → Prop) : Prop :=
  MetFree l y (headSpec ws rm) Pc (fun _ _ _ _ _ => True) (vx_Q Qc XC mc ms free)
def vx_Post (XC : String → State → State → Prop) (mc ms : Nat) (free : Addr → Prop) : Pt → Array Value → Addr → Pt → Prop := fun A a q B =>
  ∃ (g : JFrame) (mk : MethodId) (t : State) (L : List Loc) (E : String) (ce : Cell), B.U.heap = t.heap ∧ B.U.vm = t.vm ∧ XC E (A.U.calling g mk a) t ∧ t.heap[q]? = some ce ∧ ce.vm = .none ∧ A.U.vm.findClass E = some ce.cls ∧ B.locs = A.locs ++ L ∧ (∀ z ∈ L, free z.base) ∧ B.cells = A.cells + mc ∧ B.slots = A.slots + ms
def vx_Back (l : Launch) (R : Room) (p : Program) (e : Env) (below : List Frame) (s : State) (sargs : Array Value) (y : MethodName) (len W9 : Nat)
    (Pre : Pt → Array Value → Prop) (Post : Pt → Array Value → Option Value → Pt → Prop) (PostX : Pt → Array Value → Addr → Pt → Prop) : Prop :=
  ∀ (m : MethodId) (meth : Method) (c : Code) (A : Pt) (g : JFrame) (ig : Instr) (mk : MethodId) (a : Array Value),
    Stand p l e R s m sargs below meth c A.U A.locs A.cells A.slots → g.method = m → g.locals.size = c.maxLocals → decode c.code g.pc = .ok (ig, len) →
    2 * g.monitorRoom + (g.stack.map fun v => v.category).sum ≤ W9 → A.U.methodNamed? y = some mk → Pre A a →
    (∃ (v : Option Value) (B : Pt), Stand p l e R s m sargs below meth c B.U B.locs B.cells B.slots ∧ Post A a v B ∧
      Steps p.tables e below (doInvoke e (A.U.setTop g) [] mk a).1 (B.U.setTop { g with pc := g.pc + len, stack := v.toList ++ g.stack })) ∨
    (∃ (q : Addr) (B : Pt), Stand p l e R s m sargs below meth c B.U B.locs B.cells B.slots ∧ PostX A a q B ∧
      Steps p.tables e below (doInvoke e (A.U.setTop g) [] mk a).1 ((B.U.setTop g).pushFrame (.throwing q)))
section Payer
variable {l : Launch} {R : Room} {p : Program} {e : Env} {below : List Frame} {s : State} {sargs : Array Value} {y : MethodName} {len W9 : Nat}
theorem vx_back {ws : List Cond} {rm : Room} {Pc : Array Value → State → Prop} {Qc : Array Value → State → Outcome → State → Prop} {XC : String → State → State → Prop} {mc ms : Nat} {free : Addr → Prop} {bytes : ByteArray} {maxL : Nat} {ret : Option FieldType}
    (hM : vx_Met l y ws rm Pc Qc XC mc ms free) (hblind : FrameBlind Pc) (hrc : rm.cells = mc) (hrs : rm.slots = ms)
    (hframes : rm.frames + 1 ≤ R.frames) (hlocals : W9 + (maxL + 11) + rm.locals ≤ R.locals)
    (hws : ∀ w ∈ ws, ∀ a' U, s.WarmedH U.vm → w.before a' U = true) (hcode : Cond.code y bytes maxL ret ∈ ws) (hinit : ∀ a' U, s.WarmedH U.vm → (Cond.initialized y.cls).before a' U = true) :
    vx_Back l R p e below s sargs y len W9 (PreOf R mc ms Pc) (PostOf Qc mc ms free) (vx_Post XC mc ms free) := by
  intro m meth c A g ig mk a X hg hsize hdg hW hn hp
  have h1 : (headSpec ws rm).pre.before a A.U = true := atoms_intro fun w hw => hws w hw _ _ X.warmed
  have h2 : (Cond.code y bytes maxL ret).before a A.U = true := hws _ hcode _ _ X.warmed
  have h3 : (Cond.initialized y.cls).before a A.U = true := hinit _ _ X.warmed
  have h4 : A.cells + (headSpec ws rm).room.cells ≤ R.cells := by rw [show (headSpec ws rm).room.cells = mc from hrc]; exact hp.1
  have h5 : A.slots + (headSpec ws rm).room.slots ≤ R.slots := by rw [show (headSpec ws rm).room.slots = ms from hrs]; exact hp.2.1
  have hPc : Pc a (A.U.calling g mk a) := hblind _ _ _ _ hp.2.2
  obtain ⟨U, Ls, c0, s0⟩ := A
  dsimp only [Pt.U, Pt.locs, Pt.cells, Pt.slots] at h1 h2 h3 h4 h5 X hn hPc ⊢
  obtain ⟨methY, cY, hmY, hcY, -, hlY, -, -, -, -⟩ := Cond.code_spec hn h2
  obtain ⟨kY, hkY, -⟩ := className_of_methodNamed hn
  have hinitY : kY.init = .initialized := Cond.initialized_spec (findClass_of_methodNamed hn) hkY h3
  have h : At U g.method c below := by rw [hg]; exact X.here
  have hlocals9 : W9 + (maxL + 11) + (headSpec ws rm).room.locals ≤ R.locals := hlocals
  have happ : (headSpec ws rm).appliesLoose y e.platform (U.calling g mk a) = true :=
    Spec.appliesLoose_calling (g := g) h hdg hn hkY hinitY
      (X.room_calling (g := g) (R' := (headSpec ws rm).room) hsize hmY hcY hframes (by rw [hlY]; omega) h4 h5) h1
  obtain ⟨mid, hmid⟩ := h.above
  have hfr : (U.setTop g).frames = (.java g :: mid) ++ below := by rw [State.frames_setTop' g h.top, hmid]; rfl
  obtain ⟨o, s₂, hsteps, -, hend, hq⟩ := Steps.callFree hM p X.admits X.cas X.clock (acts := []) hfr happ hPc trivial
  have hq' : vx_Q Qc XC mc ms free a (U.calling g mk a) o s₂ := hq
  rw [State.frames_setTop' g h.top] at hend
  obtain ⟨g₀, hg0⟩ := Option.isSome_iff_exists.mp h.top
  obtain ⟨r, hr⟩ := State.topJava?_eq_some.mp hg0
  have hr' : (({ U with heap := s₂.heap, slotsUsed := s₂.slotsUsed } : State).setVm s₂.vm).frames = .java g₀ :: r := hr
  rcases hq' with ⟨hqc, L, hfe, hL⟩ | ⟨q, rfl, E, ce, L, hx, hce, hcv, hcl, hW₂, hsm, hL⟩
  · obtain ⟨⟨v, rfl⟩, hW₂, e2, q2, q3, q4, q5, q6⟩ := id hfe
    have e3 : s₂ = ({ (U.calling g mk a).setFrames s₂.frames with heap := s₂.heap, slotsUsed := s₂.slotsUsed } : State).setVm s₂.vm := by
      have : s₂ = ({ s₂ with vm := (U.calling g mk a).vm } : State).setVm s₂.vm := rfl
      rw [e2] at this
      exact this
    obtain ⟨c₂, i₂, len₂, hc₂, hd₂, hf₂⟩ := hend
    have hW' : U.WarmedH s₂.vm := hW₂
    have hcc : c₂ = c := by
      have h1 : s₂.code? g.method = U.code? g.method := by
        rw [State.code?_eq, State.code?_eq, hW'.alike.method?]
      exact Option.some.inj (hc₂.symm.trans (h1.trans h.code))
    subst hcc
    have hlen : len₂ = len := by rw [hdg] at hd₂; cases hd₂; rfl
    subst hlen
    have hs₂ : s₂ = (({ U with heap := s₂.heap, slotsUsed := s₂.slotsUsed } : State).setVm s₂.vm).setTop { g with pc := g.pc + len₂, stack := v.toList ++ g.stack } := by
      refine e3.trans ?_
      rw [hf₂, State.calling_eq h.top, State.setFrames_setFrames, State.setTop_of_frames _ hr', hr]
      rfl
    have hsame : U.sameButNew ({ U with heap := s₂.heap, slotsUsed := s₂.slotsUsed } : State) L mc ms := by
      refine ⟨?_, q2, q3, q4, q5, q6⟩
      obtain ⟨t, ht, -⟩ := State.frames_cons hr
      show ({ U with heap := s₂.heap, slotsUsed := s₂.slotsUsed } : State) = { U.setFrames U.frames with heap := s₂.heap, slotsUsed := s₂.slotsUsed }
      rw [State.setFrames_self ht]
    subst hg
    refine Or.inl ⟨v, ⟨(({ U with heap := s₂.heap, slotsUsed := s₂.slotsUsed } : State).setVm s₂.vm), Ls ++ L, c0 + mc, s0 + ms⟩,
      ⟨X.admits, X.cas, X.clock, X.frames, X.room, X.hears, X.method, X.code, (X.here.setHeapUsed s₂.heap s₂.slotsUsed).setVm hW'.alike, X.tail, State.WarmedH.trans X.warmed hW', X.limits, X.bytes, X.same.trans (hsame.setVm s.vm)⟩,
      ⟨g, mk, s₂, L, rfl, rfl, hqc, rfl, hL, rfl, rfl⟩, ?_⟩
    show Steps p.tables e below _ ((({ U with heap := s₂.heap, slotsUsed := s₂.slotsUsed } : State).setVm s₂.vm).setTop { g with pc := g.pc + len₂, stack := v.toList ++ g.stack })
    rw [← hs₂]
    exact hsteps
  · obtain ⟨e2, q2, q3, q4, q5, q6⟩ := id hsm
    have e3 : s₂ = ({ (U.calling g mk a).setFrames s₂.frames with heap := s₂.heap, slotsUsed := s₂.slotsUsed } : State).setVm s₂.vm := by
      have : s₂ = ({ s₂ with vm := (U.calling g mk a).vm } : State).setVm s₂.vm := rfl
      rw [e2] at this
      exact this
    have hf₂ : s₂.frames = .throwing q :: .java g :: U.frames.tail := hend
    have hW' : U.WarmedH s₂.vm := hW₂
    have hs₂ : s₂ = ((({ U with heap := s₂.heap, slotsUsed := s₂.slotsUsed } : State).setVm s₂.vm).setTop g).pushFrame (.throwing q) := by
      refine e3.trans ?_
      rw [hf₂, State.calling_eq h.top, State.setFrames_setFrames, State.pushFrame, State.frames_setTop _ hr', State.setTop_of_frames _ hr', State.setFrames_setFrames, hr]
      rfl
    have hsame : U.sameButNew ({ U with heap := s₂.heap, slotsUsed := s₂.slotsUsed } : State) L mc ms := by
      refine ⟨?_, q2, q3, q4, q5, q6⟩
      obtain ⟨t, ht, -⟩ := State.frames_cons hr
      show ({ U with heap := s₂.heap, slotsUsed := s₂.slotsUsed } : State) = { U.setFrames U.frames with heap := s₂.heap, slotsUsed := s₂.slotsUsed }
      rw [State.setFrames_self ht]
    subst hg
    refine Or.inr ⟨q, ⟨(({ U with heap := s₂.heap, slotsUsed := s₂.slotsUsed } : State).setVm s₂.vm), Ls ++ L, c0 + mc, s0 + ms⟩,
      ⟨X.admits, X.cas, X.clock, X.frames, X.room, X.hears, X.method, X.code, (X.here.setHeapUsed s₂.heap s₂.slotsUsed).setVm hW'.alike, X.tail, State.WarmedH.trans X.warmed hW', X.limits, X.bytes, X.same.trans (hsame.setVm s.vm)⟩,
      ⟨g, mk, s₂, L, E, ce, rfl, rfl, hx, hce, hcv, hcl, rfl, hL, rfl, rfl⟩, ?_⟩
    show Steps p.tables e below _ (((({ U with heap := s₂.heap, slotsUsed := s₂.slotsUsed } : State).setVm s₂.vm).setTop g).pushFrame (.throwing q))
    rw [← hs₂]
    exact hsteps
end Payer
section Calls
variable {p : Program} {l : Launch} {e : Env} {R : Room} {s : State} {m : MethodId} {args : Array Value} {below : List Frame} {meth : Method} {c : Code} {T : State} {locs : List Loc} {cells slots : Nat}
theorem vx_callV (X : Stand p l e R s m args below meth c T locs cells slots) (hexec : p.tables.exec = Jvm.exec) {own C : String} {index : Nat} {y : MethodName} {bytes : ByteArray} {maxL : Nat} {ret : Option FieldType}
    (hown : s.vm.findClass own = some m.cls) (hlink : (Cond.methodLink own index y).before args s = true) (hinst : (Cond.instanceMethod y).before args s = true) (hsel : (Cond.selects C y y).before args s = true)
    (hcode : (Cond.code y bytes maxL ret).before args s = true) (hy : y.cls ≠ "java/lang/invoke/MethodHandle" ∧ y.cls ≠ "java/lang/invoke/VarHandle")
    {W9 : Nat} {Pre : Pt → Array Value → Prop} {Post : Pt → Array Value → Option Value → Pt → Prop} {PostX : Pt → Array Value → Addr → Pt → Prop} (hK : vx_Back l R p e below s args y 3 W9 Pre Post PostX)
    {b : Addr} {cellB : Cell} (hcell : T.heap[b]? = some cellB) (hobj : cellB.vm.isStatics = false) (hcls : s.vm.findClass C = some cellB.cls)
    {g : JFrame} (hg : g.method = m) (hsize : g.locals.size = c.maxLocals) {argsL rest : List Value} (hlen : ∀ sig, parseMethodDescriptor y.desc = some sig → argsL.length = sig.parameters.length)
    (hstack : g.stack = argsL.reverse ++ .ref b :: rest) (hW : 2 * g.monitorRoom + (rest.map fun v => v.category).sum ≤ W9) (hdg : decode c.code g.pc = .ok (.invokevirtual index, 3))
    (hpre : ∀ vm₁, s.WarmedH vm₁ → Pre ⟨T.setVm vm₁, locs, cells, slots⟩ (Value.ref b :: argsL).toArray) :
    (∃ (v : Option Value) (vm₁ : Vm) (B : Pt), s.WarmedH vm₁ ∧ Stand p l e R s m args below meth c B.U B.locs B.cells B.slots ∧ Post ⟨T.setVm vm₁, locs, cells, slots⟩ (Value.ref b :: argsL).toArray v B ∧
      ∀ target, Steps p.tables e below (B.U.setTop { g with pc := g.pc + 3, stack := v.toList ++ rest }) target → Steps p.tables e below (T.setTop g) target) ∨
    (∃ (q : Addr) (vm₁ : Vm) (B : Pt), s.WarmedH vm₁ ∧ Stand p l e R s m args below meth c B.U B.locs B.cells B.slots ∧ PostX ⟨T.setVm vm₁, locs, cells, slots⟩ (Value.ref b :: argsL).toArray q B ∧
      Steps p.tables e below (T.setTop g) ((B.U.setTop { g with stack := rest }).pushFrame (.throwing q))) := by
  obtain ⟨mk, methM, hnamed, hmethM, hstM, habM⟩ := Cond.instanceMethod_spec hinst
  obtain ⟨methM', cM, hmethM', -, -, -, -, -, -, hsigM⟩ := Cond.code_spec hnamed hcode
  cases hmethM.symm.trans hmethM'
  obtain ⟨c2, r2, m2, q1, q2, q3, q4, kP, hkP, hkPi⟩ := Cond.selects_spec hsel
  cases hcls.symm.trans q1
  cases (State.methodFound?_of_named hnamed hy).symm.trans q2
  cases hnamed.symm.trans q3
  have hselP : selectMethod e.platform s.vm cellB.cls mk = .method mk := by rw [Launch.admits_selectMethod X.admits]; exact q4
  obtain ⟨vm₁, X₁, hstep₁⟩ := X.invokevirtual hexec hown hlink hnamed hmethM hstM hkP hkPi hy (a := b) (cell := cellB) hcell
    (fun z h => by rw [h] at hobj; cases hobj) hselP hmethM habM hkP hkPi (g := g) hg (argsL := argsL) (rest := rest) (hlen _ hsigM) hstack hdg
  rcases hK m meth c ⟨T.setVm vm₁, locs, cells, slots⟩ { g with stack := rest } (.invokevirtual index) mk (Value.ref b :: argsL).toArray X₁ hg hsize hdg hW (X₁.named hnamed) (hpre vm₁ X₁.warmed) with ⟨v, B, X', hpost, hsteps⟩ | ⟨q, B, X', hpost, hsteps⟩
  · exact Or.inl ⟨v, vm₁, B, X₁.warmed, X', hpost, fun target h => hstep₁ _ fun acts => by rw [doInvoke_state]; exact hsteps.trans h⟩
  · exact Or.inr ⟨q, vm₁, B, X₁.warmed, X', hpost, hstep₁ _ fun acts => by rw [doInvoke_state]; exact hsteps⟩
theorem vx_callS (X : Stand p l e R s m args below meth c T locs cells slots) (hexec : p.tables.exec = Jvm.exec) {own : String} {index : Nat} {y : MethodName} {bytes : ByteArray} {maxL : Nat} {ret : Option FieldType}
    (hown : s.vm.findClass own = some m.cls) (hlink : (Cond.methodLink own index y).before args s = true) (hstat : (Cond.static y).before args s = true) (hinit : (Cond.initialized y.cls).before args s = true)
    (hcode : (Cond.code y bytes maxL ret).before args s = true) (hy : y.cls ≠ "java/lang/invoke/MethodHandle" ∧ y.cls ≠ "java/lang/invoke/VarHandle")
    {W9 : Nat} {Pre : Pt → Array Value → Prop} {Post : Pt → Array Value → Option Value → Pt → Prop} {PostX : Pt → Array Value → Addr → Pt → Prop} (hK : vx_Back l R p e below s args y 3 W9 Pre Post PostX)
    {g : JFrame} (hg : g.method = m) (hsize : g.locals.size = c.maxLocals) {argsL rest : List Value} (hlen : ∀ sig, parseMethodDescriptor y.desc = some sig → argsL.length = sig.parameters.length)
    (hstack : g.stack = argsL.reverse ++ rest) (hW : 2 * g.monitorRoom + (rest.map fun v => v.category).sum ≤ W9) (hdg : decode c.code g.pc = .ok (.invokestatic index, 3))
    (hpre : ∀ vm₁, s.WarmedH vm₁ → Pre ⟨T.setVm vm₁, locs, cells, slots⟩ argsL.toArray) :
    (∃ (v : Option Value) (vm₁ : Vm) (B : Pt), s.WarmedH vm₁ ∧ Stand p l e R s m args below meth c B.U B.locs B.cells B.slots ∧ Post ⟨T.setVm vm₁, locs, cells, slots⟩ argsL.toArray v B ∧
      ∀ target, Steps p.tables e below (B.U.setTop { g with pc := g.pc + 3, stack := v.toList ++ rest }) target → Steps p.tables e below (T.setTop g) target) ∨
    (∃ (q : Addr) (vm₁ : Vm) (B : Pt), s.WarmedH vm₁ ∧ Stand p l e R s m args below meth c B.U B.locs B.cells B.slots ∧ PostX ⟨T.setVm vm₁, locs, cells, slots⟩ argsL.toArray q B ∧
      Steps p.tables e below (T.setTop g) ((B.U.setTop { g with stack := rest }).pushFrame (.throwing q))) := by
  obtain ⟨mk, hnamed⟩ := Cond.code_named hcode
  obtain ⟨methM, cM, hmethM, -, -, -, -, -, -, hsigM⟩ := Cond.code_spec hnamed hcode
  have hstatic : methM.isStatic = true := Cond.static_spec hnamed hmethM hstat
  obtain ⟨kP, hkP, -⟩ := className_of_methodNamed hnamed
  have hinitP : kP.init = .initialized := Cond.initialized_spec (findClass_of_methodNamed hnamed) hkP hinit
  obtain ⟨vm₁, X₁, hstep₁⟩ := X.invokestatic hexec hown hlink hnamed hmethM hstatic hkP hinitP hy (g := g) hg (argsL := argsL) (rest := rest) (hlen _ hsigM) hstack hdg
  rcases hK m meth c ⟨T.setVm vm₁, locs, cells, slots⟩ { g with stack := rest } (.invokestatic index) mk argsL.toArray X₁ hg hsize hdg hW (X₁.named hnamed) (hpre vm₁ X₁.warmed) with ⟨v, B, X', hpost, hsteps⟩ | ⟨q, B, X', hpost, hsteps⟩
  · exact Or.inl ⟨v, vm₁, B, X₁.warmed, X', hpost, fun target h => hstep₁ _ fun acts => by rw [doInvoke_state]; exact hsteps.trans h⟩
  · exact Or.inr ⟨q, vm₁, B, X₁.warmed, X', hpost, hstep₁ _ fun acts => by rw [doInvoke_state]; exact hsteps⟩
end Calls
theorem vx_cls {s : State} {T : State} {vm₁ : Vm} {E : String} {k : ClassId} (hW : s.WarmedH vm₁) (h : (T.setVm vm₁).vm.findClass E = some k) : s.vm.findClass E = some k := by
  have h1 : vm₁.findClass E = some k := h
  rw [hW.alike.findClass] at h1
  exact h1
/-- the method's frame g, with q thrown over it -/
def vx_W (p : Program) (l : Launch) (e : Env) (R : Room) (s : State) (m : MethodId) (args : Array Value) (below : List Frame) (meth : Method) (c : Code) (H : Heap) (locs : List Loc) (cells slots : Nat) (Q : State → Prop) (g : JFrame) (q : Addr) : Prop :=
  ∀ T : State, T.heap = H → Stand p l e R s m args below meth c T locs cells slots → ∃ t, Steps p.tables e below ((T.setTop g).pushFrame (.throwing q)) t ∧ Q t
def vx_Run (p : Program) (l : Launch) (e : Env) (R : Room) (s : State) (m : MethodId) (args : Array Value) (below : List Frame) (meth : Method) (c : Code) (H : Heap) (locs : List Loc) (cells slots mc ms : Nat) (g : JFrame) (rest : List Value) (Qa : State → Outcome → State → Prop) (XC : String → State → State → Prop) (free : Addr → Prop) : Prop :=
  ∀ T : State, T.heap = H → Stand p l e R s m args below meth c T locs cells slots →
    (∃ (v : Option Value) (st₀ t T' : State) (L : List Loc), st₀.heap = H ∧ Stand p l e R s m args below meth c T' (locs ++ L) (cells + mc) (slots + ms) ∧ (∀ q ∈ L, free q.base) ∧ T'.heap = t.heap ∧ T'.vm = t.vm ∧ Qa st₀ (.returned v) t ∧
      Goes p e below T g T' { g with pc := g.pc + 3, stack := v.toList ++ rest }) ∨
    (∃ (q : Addr) (st₀ t T' : State) (L : List Loc) (E : String) (ce : Cell), st₀.heap = H ∧ Stand p l e R s m args below meth c T' (locs ++ L) (cells + mc) (slots + ms) ∧ (∀ z ∈ L, free z.base) ∧ T'.heap = t.heap ∧ T'.vm = t.vm ∧ XC E st₀ t ∧ t.heap[q]? = some ce ∧ ce.vm = .none ∧ s.vm.findClass E = some ce.cls ∧
      Steps p.tables e below (T.setTop g) ((T'.setTop { g with stack := rest }).pushFrame (.throwing q)))
def vx_X {S : Type} (px : S → Prop) (B : String → S → State → Prop) (A : Nat → Prop) : String → State → State → Prop := fun E st t => ∃ u : S, px u ∧ B E u t ∧ va_F A st t
section Runs
variable {p : Program} {l : Launch} {e : Env} {R : Room} {s : State} {m : MethodId} {args : Array Value} {below : List Frame} {meth : Method} {c : Code} {H : Heap} {locs : List Loc} {cells slots : Nat}
variable {y : MethodName} {bytes cc : ByteArray} {maxL nL mc ms n index : Nat} {ret : Option FieldType} {ws : List Cond} {rm : Room} {Pc : Array Value → State → Prop} {Qc : Array Value → State → Outcome → State → Prop} {XC : String → State → State → Prop} {free : Addr → Prop} {Ts : List Cond} {own C : String} {b : Addr} {As rest : List Value} {g : JFrame}
theorem vx_callBack (cb : CallB R s args own index y bytes maxL ret ws rm mc ms n) (hM : vx_Met l y ws rm Pc Qc XC mc ms free) (hbl : FrameBlind Pc) : vx_Back l R p e below s args y 3 8 (PreOf R mc ms Pc) (PostOf Qc mc ms free) (vx_Post XC mc ms free) := by
  obtain ⟨hrc, hrs, hfr, hlo, hws, hcw, -, hini, -⟩ := cb
  exact vx_back (bytes := bytes) (maxL := maxL) (ret := ret) hM hbl hrc hrs hfr hlo hws hcw (fun a' U hW => word_at hW (Or.inl (by first | rfl | simp [Cond.onTables, Cond.keeps, Cond.steady])) hini)
theorem vx_runV (S : CallFix p m c cc nL s args Ts own) (hM : vx_Met l y ws rm Pc Qc XC mc ms free) (cw : CallW R s args own C index y bytes maxL ret ws rm mc ms n) (hp : PreV s H C b Pc As)
    (hg : g.method = m) (hn : As.length = n) (hsize : g.locals.size = nL) (hstack : g.stack = As.reverse ++ .ref b :: rest) (hW : 2 * g.monitorRoom + (rest.map fun v => v.category).sum ≤ 8) (hdg : decode cc g.pc = .ok (.invokevirtual index, 3)) (hf : cells + mc ≤ R.cells ∧ slots + ms ≤ R.slots) :
    vx_Run p l e R s m args below meth c H locs cells slots mc ms g rest (Qc (Value.ref b :: As).toArray) XC free := by
  have hK : vx_Back l R p e below s args y 3 8 (PreOf R mc ms Pc) (PostOf Qc mc ms free) (vx_Post XC mc ms free) := vx_callBack cw.1 hM hp.1
  obtain ⟨⟨-, -, -, -, -, -, hcode, -, hy, hlen, hl⟩, hin, hse⟩ := cw
  obtain ⟨hx, hb, hml, ho, -⟩ := S
  obtain ⟨-, ⟨cellB, hcB, hoB, hclB⟩, hPc⟩ := hp
  intro T hT X
  rcases vx_callV X hx (C := C) (bytes := bytes) (maxL := maxL) (ret := ret) ho hl hin hse hcode hy hK (by rw [hT]; exact hcB) hoB hclB hg (hsize.trans hml.symm) (argsL := As) (rest := rest) (fun sig h => hn.trans (hlen sig h)) hstack hW (by rw [hb]; exact hdg)
    (fun vm₁ hW₁ => ⟨hf.1, hf.2, hPc (T.setVm vm₁) hT hW₁⟩) with ⟨v, vm₁, ⟨U', l2, c2, s2⟩, hW₁, X', ⟨g', mk, t, L, e1, e2, hq, h1, hL, h2, h3⟩, st⟩ | ⟨q, vm₁, ⟨U', l2, c2, s2⟩, hW₁, X', ⟨g', mk, t, L, E, ce, e1, e2, hq, hce, hcv, hcl, h1, hL, h2, h3⟩, st⟩
  · dsimp only [Pt.U, Pt.locs, Pt.cells, Pt.slots] at X' e1 e2 h1 h2 h3 st
    subst h1; subst h2; subst h3
    exact Or.inl ⟨v, (T.setVm vm₁).calling g' mk (Value.ref b :: As).toArray, t, U', L, hT, X', hL, e1, e2, hq, st⟩
  · dsimp only [Pt.U, Pt.locs, Pt.cells, Pt.slots] at X' e1 e2 h1 h2 h3 st hcl
    subst h1; subst h2; subst h3
    exact Or.inr ⟨q, (T.setVm vm₁).calling g' mk (Value.ref b :: As).toArray, t, U', L, E, ce, hT, X', hL, e1, e2, hq, hce, hcv, vx_cls hW₁ hcl, st⟩
theorem vx_runS (S : CallFix p m c cc nL s args Ts own) (hM : vx_Met l y ws rm Pc Qc XC mc ms free) (cw : CallB R s args own index y bytes maxL ret ws rm mc ms n ∧ (Cond.static y).before args s = true) (hp : PreS s H Pc As)
    (hg : g.method = m) (hn : As.length = n) (hsize : g.locals.size = nL) (hstack : g.stack = As.reverse ++ rest) (hW : 2 * g.monitorRoom + (rest.map fun v => v.category).sum ≤ 8) (hdg : decode cc g.pc = .ok (.invokestatic index, 3)) (hf : cells + mc ≤ R.cells ∧ slots + ms ≤ R.slots) :
    vx_Run p l e R s m args below meth c H locs cells slots mc ms g rest (Qc As.toArray) XC free := by
  have hK : vx_Back l R p e below s args y 3 8 (PreOf R mc ms Pc) (PostOf Qc mc ms free) (vx_Post XC mc ms free) := vx_callBack cw.1 hM hp.1
  obtain ⟨⟨-, -, -, -, -, -, hcode, hini, hy, hlen, hl⟩, hstt⟩ := cw
  obtain ⟨hx, hb, hml, ho, -⟩ := S
  intro T hT X
  rcases vx_callS X hx (bytes := bytes) (maxL := maxL) (ret := ret) ho hl hstt hini hcode hy hK hg (hsize.trans hml.symm) (argsL := As) (rest := rest) (fun sig h => hn.trans (hlen sig h)) hstack hW (by rw [hb]; exact hdg)
    (fun vm₁ hW₁ => ⟨hf.1, hf.2, hp.2 (T.setVm vm₁) hT hW₁⟩) with ⟨v, vm₁, ⟨U', l2, c2, s2⟩, hW₁, X', ⟨g', mk, t, L, e1, e2, hq, h1, hL, h2, h3⟩, st⟩ | ⟨q, vm₁, ⟨U', l2, c2, s2⟩, hW₁, X', ⟨g', mk, t, L, E, ce, e1, e2, hq, hce, hcv, hcl, h1, hL, h2, h3⟩, st⟩
  · dsimp only [Pt.U, Pt.locs, Pt.cells, Pt.slots] at X' e1 e2 h1 h2 h3 st
    subst h1; subst h2; subst h3
    exact Or.inl ⟨v, (T.setVm vm₁).calling g' mk As.toArray, t, U', L, hT, X', hL, e1, e2, hq, st⟩
  · dsimp only [Pt.U, Pt.locs, Pt.cells, Pt.slots] at X' e1 e2 h1 h2 h3 st hcl
    subst h1; subst h2; subst h3
    exact Or.inr ⟨q, (T.setVm vm₁).calling g' mk As.toArray, t, U', L, E, ce, hT, X', hL, e1, e2, hq, hce, hcv, vx_cls hW₁ hcl, st⟩
end Runs
section Rows
variable {p : Program} {l : Launch} {e : Env} {R : Room} {s : State} {m : MethodId} {args : Array Value} {below : List Frame} {meth : Method} {c : Code} {H : Heap} {locs : List Loc} {cells slots : Nat} {Q : State → Prop}
variable {mc ms : Nat} {free : Addr → Prop} {A0 A1 : Nat → Prop} {H0 : Heap} {a : Array Value} {pc : Nat} {ls : Array Slot} {st0 rest : List Value}
theorem vx_keep {st₀ t T' : State} {L : List Loc} (h0 : st₀.heap = H) (e1 : T'.heap = t.heap) (hS : va_S A0 H0 H locs) (hA : ∀ q, q < H.size → A1 q → A0 q) (hf : ∀ q, free q → A0 q) (hL : ∀ q ∈ L, free q.base) (hF : va_F A1 st₀ t) :
    H.size ≤ T'.heap.size ∧ (∀ q : Nat, q < H.size → ¬ A1 q → T'.heap[q]? = H[q]?) ∧ va_S A0 H0 T'.heap (locs ++ L) := by
  obtain ⟨hz, hk⟩ := hF
  rw [h0] at hz hk
  exact ⟨by rw [e1]; exact hz, fun q h1 h2 => by rw [e1]; exact hk q h1 h2,
    ⟨Nat.le_trans hS.1 (by rw [e1]; exact hz), fun q h1 h2 => by rw [e1, hk q (Nat.lt_of_lt_of_le h1 hS.1) (fun z => h2 (hA q (Nat.lt_of_lt_of_le h1 hS.1) z))]; exact hS.2.1 q h1 h2, fun q hq => by
      rcases List.mem_append.mp hq with h | h
      · exact hS.2.2 q h
      · exact hf _ (hL q h)⟩⟩
theorem vx_calli {S SX : Type} {post : Int32 → S → Prop} {px : SX → Prop} {B : S → State → Prop} {BX : String → SX → State → Prop} {AX : Nat → Prop} (hr : vx_Run p l e R s m args below meth c H locs cells slots mc ms (F0 m pc ls st0) rest (va_Qi post B A1 a) (vx_X px BX AX) free) (hS : va_S A0 H0 H locs) (hA : ∀ q, q < H.size → A1 q → A0 q) (hf : ∀ q, free q → A0 q) (hAX : ∀ q, q < H.size → AX q → A0 q)
    (kx : ∀ (E : String) (ce : Cell) (q9 : Addr) (u : SX) (t : State) (H1 : Heap) (locs1 : List Loc), t.heap = H1 → s.vm.Alike t.vm → px u → BX E u t → H.size ≤ H1.size → (∀ q : Nat, q < H.size → ¬ AX q → H1[q]? = H[q]?) → va_S A0 H0 H1 locs1 → H1[q9]? = some ce → ce.vm = .none → s.vm.findClass E = some ce.cls → vx_W p l e R s m args below meth c H1 locs1 (cells + mc) (slots + ms) Q (F0 m pc ls rest) q9)
    (kk : ∀ (r : Int32) (u : S) (t : State) (H1 : Heap) (locs1 : List Loc), t.heap = H1 → s.vm.Alike t.vm → post r u → B u t → H.size ≤ H1.size → (∀ q : Nat, q < H.size → ¬ A1 q → H1[q]? = H[q]?) → va_S A0 H0 H1 locs1 → W p l e R s m args below meth c H1 locs1 (cells + mc) (slots + ms) Q (F0 m (pc + 3) ls (.int r :: rest))) : W p l e R s m args below meth c H locs cells slots Q (F0 m pc ls st0) := by
  intro T hT X
  rcases hr T hT X with ⟨v, st₀, t, T', L, h0, X', hL, e1, e2, ⟨⟨r, u, hv, hp, hb⟩, hF⟩, st⟩ | ⟨q, st₀, t, T', L, E, ce, h0, X', hL, e1, e2, ⟨u, hp, hb, hF⟩, hce, hcv, hcl, st⟩
  · cases hv
    obtain ⟨k1, k2, k3⟩ := vx_keep h0 e1 hS hA hf hL hF
    obtain ⟨t2, a1, b1⟩ := kk r u t T'.heap (locs ++ L) e1.symm (by rw [← e2]; exact X'.warmed.alike) hp hb k1 k2 k3 T' rfl X'
    exact ⟨t2, st t2 a1, b1⟩
  · obtain ⟨k1, k2, k3⟩ := vx_keep h0 e1 hS hAX hf hL hF
    obtain ⟨t2, a1, b1⟩ := kx E ce q u t T'.heap (locs ++ L) e1.symm (by rw [← e2]; exact X'.warmed.alike) hp hb k1 k2 k3 (by rw [e1]; exact hce) hcv hcl T' rfl X'
    exact ⟨t2, st.trans a1, b1⟩
theorem vx_calll {S SX : Type} {post : Int64 → S → Prop} {px : SX → Prop} {B : S → State → Prop} {BX : String → SX → State → Prop} {AX : Nat → Prop} (hr : vx_Run p l e R s m args below meth c H locs cells slots mc ms (F0 m pc ls st0) rest (va_Ql post B A1 a) (vx_X px BX AX) free) (hS : va_S A0 H0 H locs) (hA : ∀ q, q < H.size → A1 q → A0 q) (hf : ∀ q, free q → A0 q) (hAX : ∀ q, q < H.size → AX q → A0 q)
    (kx : ∀ (E : String) (ce : Cell) (q9 : Addr) (u : SX) (t : State) (H1 : Heap) (locs1 : List Loc), t.heap = H1 → s.vm.Alike t.vm → px u → BX E u t → H.size ≤ H1.size → (∀ q : Nat, q < H.size → ¬ AX q → H1[q]? = H[q]?) → va_S A0 H0 H1 locs1 → H1[q9]? = some ce → ce.vm = .none → s.vm.findClass E = some ce.cls → vx_W p l e R s m args below meth c H1 locs1 (cells + mc) (slots + ms) Q (F0 m pc ls rest) q9)
    (kk : ∀ (r : Int64) (u : S) (t : State) (H1 : Heap) (locs1 : List Loc), t.heap = H1 → s.vm.Alike t.vm → post r u → B u t → H.size ≤ H1.size → (∀ q : Nat, q < H.size → ¬ A1 q → H1[q]? = H[q]?) → va_S A0 H0 H1 locs1 → W p l e R s m args below meth c H1 locs1 (cells + mc) (slots + ms) Q (F0 m (pc + 3) ls (.long r :: rest))) : W p l e R s m args below meth c H locs cells slots Q (F0 m pc ls st0) := by
  intro T hT X
  rcases hr T hT X with ⟨v, st₀, t, T', L, h0, X', hL, e1, e2, ⟨⟨r, u, hv, hp, hb⟩, hF⟩, st⟩ | ⟨q, st₀, t, T', L, E, ce, h0, X', hL, e1, e2, ⟨u, hp, hb, hF⟩, hce, hcv, hcl, st⟩
  · cases hv
    obtain ⟨k1, k2, k3⟩ := vx_keep h0 e1 hS hA hf hL hF
    obtain ⟨t2, a1, b1⟩ := kk r u t T'.heap (locs ++ L) e1.symm (by rw [← e2]; exact X'.warmed.alike) hp hb k1 k2 k3 T' rfl X'
    exact ⟨t2, st t2 a1, b1⟩
  · obtain ⟨k1, k2, k3⟩ := vx_keep h0 e1 hS hAX hf hL hF
    obtain ⟨t2, a1, b1⟩ := kx E ce q u t T'.heap (locs ++ L) e1.symm (by rw [← e2]; exact X'.warmed.alike) hp hb k1 k2 k3 (by rw [e1]; exact hce) hcv hcl T' rfl X'
    exact ⟨t2, st.trans a1, b1⟩
theorem vx_callf {S SX : Type} {post : UInt32 → S → Prop} {px : SX → Prop} {B : S → State → Prop} {BX : String → SX → State → Prop} {AX : Nat → Prop} (hr : vx_Run p l e R s m args below meth c H locs cells slots mc ms (F0 m pc ls st0) rest (va_Qf post B A1 a) (vx_X px BX AX) free) (hS : va_S A0 H0 H locs) (hA : ∀ q, q < H.size → A1 q → A0 q) (hf : ∀ q, free q → A0 q) (hAX : ∀ q, q < H.size → AX q → A0 q)
    (kx : ∀ (E : String) (ce : Cell) (q9 : Addr) (u : SX) (t : State) (H1 : Heap) (locs1 : List Loc), t.heap = H1 → s.vm.Alike t.vm → px u → BX E u t → H.size ≤ H1.size → (∀ q : Nat, q < H.size → ¬ AX q → H1[q]? = H[q]?) → va_S A0 H0 H1 locs1 → H1[q9]? = some ce → ce.vm = .none → s.vm.findClass E = some ce.cls → vx_W p l e R s m args below meth c H1 locs1 (cells + mc) (slots + ms) Q (F0 m pc ls rest) q9)
    (kk : ∀ (r : UInt32) (u : S) (t : State) (H1 : Heap) (locs1 : List Loc), t.heap = H1 → s.vm.Alike t.vm → post r u → B u t → H.size ≤ H1.size → (∀ q : Nat, q < H.size → ¬ A1 q → H1[q]? = H[q]?) → va_S A0 H0 H1 locs1 → W p l e R s m args below meth c H1 locs1 (cells + mc) (slots + ms) Q (F0 m (pc + 3) ls (.float r :: rest))) : W p l e R s m args below meth c H locs cells slots Q (F0 m pc ls st0) := by
  intro T hT X
  rcases hr T hT X with ⟨v, st₀, t, T', L, h0, X', hL, e1, e2, ⟨⟨r, u, hv, hp, hb⟩, hF⟩, st⟩ | ⟨q, st₀, t, T', L, E, ce, h0, X', hL, e1, e2, ⟨u, hp, hb, hF⟩, hce, hcv, hcl, st⟩
  · cases hv
    obtain ⟨k1, k2, k3⟩ := vx_keep h0 e1 hS hA hf hL hF
    obtain ⟨t2, a1, b1⟩ := kk r u t T'.heap (locs ++ L) e1.symm (by rw [← e2]; exact X'.warmed.alike) hp hb k1 k2 k3 T' rfl X'
    exact ⟨t2, st t2 a1, b1⟩
  · obtain ⟨k1, k2, k3⟩ := vx_keep h0 e1 hS hAX hf hL hF
    obtain ⟨t2, a1, b1⟩ := kx E ce q u t T'.heap (locs ++ L) e1.symm (by rw [← e2]; exact X'.warmed.alike) hp hb k1 k2 k3 (by rw [e1]; exact hce) hcv hcl T' rfl X'
    exact ⟨t2, st.trans a1, b1⟩
theorem vx_calld {S SX : Type} {post : UInt64 → S → Prop} {px : SX → Prop} {B : S → State → Prop} {BX : String → SX → State → Prop} {AX : Nat → Prop} (hr : vx_Run p l e R s m args below meth c H locs cells slots mc ms (F0 m pc ls st0) rest (va_Qd post B A1 a) (vx_X px BX AX) free) (hS : va_S A0 H0 H locs) (hA : ∀ q, q < H.size → A1 q → A0 q) (hf : ∀ q, free q → A0 q) (hAX : ∀ q, q < H.size → AX q → A0 q)
    (kx : ∀ (E : String) (ce : Cell) (q9 : Addr) (u : SX) (t : State) (H1 : Heap) (locs1 : List Loc), t.heap = H1 → s.vm.Alike t.vm → px u → BX E u t → H.size ≤ H1.size → (∀ q : Nat, q < H.size → ¬ AX q → H1[q]? = H[q]?) → va_S A0 H0 H1 locs1 → H1[q9]? = some ce → ce.vm = .none → s.vm.findClass E = some ce.cls → vx_W p l e R s m args below meth c H1 locs1 (cells + mc) (slots + ms) Q (F0 m pc ls rest) q9)
    (kk : ∀ (r : UInt64) (u : S) (t : State) (H1 : Heap) (locs1 : List Loc), t.heap = H1 → s.vm.Alike t.vm → post r u → B u t → H.size ≤ H1.size → (∀ q : Nat, q < H.size → ¬ A1 q → H1[q]? = H[q]?) → va_S A0 H0 H1 locs1 → W p l e R s m args below meth c H1 locs1 (cells + mc) (slots + ms) Q (F0 m (pc + 3) ls (.double r :: rest))) : W p l e R s m args below meth c H locs cells slots Q (F0 m pc ls st0) := by
  intro T hT X
  rcases hr T hT X with ⟨v, st₀, t, T', L, h0, X', hL, e1, e2, ⟨⟨r, u, hv, hp, hb⟩, hF⟩, st⟩ | ⟨q, st₀, t, T', L, E, ce, h0, X', hL, e1, e2, ⟨u, hp, hb, hF⟩, hce, hcv, hcl, st⟩
  · cases hv
    obtain ⟨k1, k2, k3⟩ := vx_keep h0 e1 hS hA hf hL hF
    obtain ⟨t2, a1, b1⟩ := kk r u t T'.heap (locs ++ L) e1.symm (by rw [← e2]; exact X'.warmed.alike) hp hb k1 k2 k3 T' rfl X'
    exact ⟨t2, st t2 a1, b1⟩
  · obtain ⟨k1, k2, k3⟩ := vx_keep h0 e1 hS hAX hf hL hF
    obtain ⟨t2, a1, b1⟩ := kx E ce q u t T'.heap (locs ++ L) e1.symm (by rw [← e2]; exact X'.warmed.alike) hp hb k1 k2 k3 (by rw [e1]; exact hce) hcv hcl T' rfl X'
    exact ⟨t2, st.trans a1, b1⟩
theorem vx_callv {S SX : Type} {post : S → Prop} {px : SX → Prop} {B : S → State → Prop} {BX : String → SX → State → Prop} {AX : Nat → Prop} (hr : vx_Run p l e R s m args below meth c H locs cells slots mc ms (F0 m pc ls st0) rest (va_Qv post B A1 a) (vx_X px BX AX) free) (hS : va_S A0 H0 H locs) (hA : ∀ q, q < H.size → A1 q → A0 q) (hf : ∀ q, free q → A0 q) (hAX : ∀ q, q < H.size → AX q → A0 q)
    (kx : ∀ (E : String) (ce : Cell) (q9 : Addr) (u : SX) (t : State) (H1 : Heap) (locs1 : List Loc), t.heap = H1 → s.vm.Alike t.vm → px u → BX E u t → H.size ≤ H1.size → (∀ q : Nat, q < H.size → ¬ AX q → H1[q]? = H[q]?) → va_S A0 H0 H1 locs1 → H1[q9]? = some ce → ce.vm = .none → s.vm.findClass E = some ce.cls → vx_W p l e R s m args below meth c H1 locs1 (cells + mc) (slots + ms) Q (F0 m pc ls rest) q9)
    (kk : ∀ (u : S) (t : State) (H1 : Heap) (locs1 : List Loc), t.heap = H1 → s.vm.Alike t.vm → post u → B u t → H.size ≤ H1.size → (∀ q : Nat, q < H.size → ¬ A1 q → H1[q]? = H[q]?) → va_S A0 H0 H1 locs1 → W p l e R s m args below meth c H1 locs1 (cells + mc) (slots + ms) Q (F0 m (pc + 3) ls (rest))) : W p l e R s m args below meth c H locs cells slots Q (F0 m pc ls st0) := by
  intro T hT X
  rcases hr T hT X with ⟨v, st₀, t, T', L, h0, X', hL, e1, e2, ⟨⟨u, hv, hp, hb⟩, hF⟩, st⟩ | ⟨q, st₀, t, T', L, E, ce, h0, X', hL, e1, e2, ⟨u, hp, hb, hF⟩, hce, hcv, hcl, st⟩
  · cases hv
    obtain ⟨k1, k2, k3⟩ := vx_keep h0 e1 hS hA hf hL hF
    obtain ⟨t2, a1, b1⟩ := kk u t T'.heap (locs ++ L) e1.symm (by rw [← e2]; exact X'.warmed.alike) hp hb k1 k2 k3 T' rfl X'
    exact ⟨t2, st t2 a1, b1⟩
  · obtain ⟨k1, k2, k3⟩ := vx_keep h0 e1 hS hAX hf hL hF
    obtain ⟨t2, a1, b1⟩ := kx E ce q u t T'.heap (locs ++ L) e1.symm (by rw [← e2]; exact X'.warmed.alike) hp hb k1 k2 k3 (by rw [e1]; exact hce) hcv hcl T' rfl X'
    exact ⟨t2, st.trans a1, b1⟩
/-- caught by the row x of this method's table; the rows ahead don't take it -/
theorem vx_catch {own name : String} {E : String} {ce : Cell} {q : Addr} (hown : s.vm.findClass own = some m.cls) (pre : List ExceptionTableEntry) (x : ExceptionTableEntry) (suf : List ExceptionTableEntry) (hsplit : c.exceptionTable.toList = pre ++ x :: suf)
    (hpass : ∀ z ∈ pre, covers z pc = false ∨ (z.catchType ≠ 0 ∧ ∃ nm : String, (Cond.classLink own z.catchType nm).before args s = true ∧ va_Nc E nm s)) (hx : covers x pc = true) (h0 : x.catchType ≠ 0)
    (hlink : (Cond.classLink own x.catchType name).before args s = true) (hcast : (Cond.castable E name).before args s = true) (hcell : H[q]? = some ce) (hv : ce.vm = .none) (hcl : s.vm.findClass E = some ce.cls)
    (kk : W p l e R s m args below meth c H locs cells slots Q (F0 m x.handlerPc ls [.ref q])) : vx_W p l e R s m args below meth c H locs cells slots Q (F0 m pc ls rest) q := by
  intro T hT X
  have hpl : e.platform.magicAccessors = ({} : Platform).magicAccessors := by rw [X.admits.platform]
  obtain ⟨c3, c4, hc3, hc4, hasg⟩ := Cond.castable_spec hcast
  cases Option.some.inj (hc3.symm.trans hcl)
  obtain ⟨c5, hc5, hcl5⟩ := Cond.classLink_spec hown hlink e.platform hpl
  cases Option.some.inj (hc4.symm.trans hc5)
  obtain ⟨vm', X', st⟩ := X.thenCaughtThrough q (g := F0 m pc ls rest) rfl (Steps.refl _) (by rw [hT]; exact hcell) (by rw [hv]; rfl) (by obtain ⟨k9, h9, -⟩ := Vm.findClass_spec hcl; exact ⟨k9, h9⟩) pre x suf hsplit
    (fun z hz => by
      rcases hpass z hz with h | ⟨hz0, nm, hl1, hn1⟩
      · exact Or.inl h
      · obtain ⟨c6, hc6, hcl6⟩ := Cond.classLink_spec hown hl1 e.platform hpl
        obtain ⟨a8, b8, h1, h2, h3⟩ := hn1
        cases Option.some.inj (h1.symm.trans hcl)
        cases Option.some.inj (h2.symm.trans hc6)
        exact Or.inr ⟨hz0, _, hcl6, h3⟩) hx (Or.inr ⟨h0, c4, hcl5, hasg⟩)
  obtain ⟨t, a1, b1⟩ := kk (T.setVm vm') hT X'
  exact ⟨t, st.trans a1, b1⟩
end Rows
section Ends
variable {p : Program} {l : Launch} {e : Env} {R : Room} {s : State} {m : MethodId} {args : Array Value} {below : List Frame} {meth : Method} {c : Code} {H : Heap} {locs : List Loc} {cells slots : Nat} {Q : State → Prop}
variable {mc ms : Nat} {free : Addr → Prop} {A0 A1 : Nat → Prop} {H0 : Heap} {a : Array Value} {ls : Array Slot} {st0 rest : List Value}
variable {Qc : Array Value → State → Outcome → State → Prop} {XC : String → State → State → Prop}
/-- what a body that may throw owes at its end -/
def vx_MQ (below : List Frame) (Qc : Array Value → State → Outcome → State → Prop) (XC : String → State → State → Prop) (a : Array Value) (s : State) (mc ms : Nat) (free : Addr → Prop) : State → Prop := fun t =>
  ∃ o, t.status = .running ∧ Ended t below o ∧ vx_Q Qc XC mc ms free a s o t
theorem vx_ret {g : JFrame} {mc ms : Nat} (k : W p l e R s m args below meth c H locs cells slots (MQ below Qc args s mc ms free) g) : W p l e R s m args below meth c H locs cells slots (vx_MQ below Qc XC args s mc ms free) g := by
  intro T hT X
  obtain ⟨t, a1, o, b1, b2, b3, b4⟩ := k T hT X
  exact ⟨t, a1, o, b1, b2, Or.inl ⟨b3, b4⟩⟩
/-- not caught here: it goes on to the caller -/
theorem vx_widen {g : JFrame} {q : Addr} {k n : Nat} (h1 : cells ≤ k) (h2 : slots ≤ n) (kk : vx_W p l e R s m args below meth c H locs k n Q g q) : vx_W p l e R s m args below meth c H locs cells slots Q g q := fun T hT X => kk T hT (stand_widen X h1 h2)
theorem vx_out {pc : Nat} {E : String} {ce : Cell} {q : Addr} {mc ms : Nat} (hout : ∀ x ∈ c.exceptionTable.toList, covers x pc = false) (hlocks : meth.locks = false) (hcell : H[q]? = some ce) (hv : ce.vm = .none) (hcl : s.vm.findClass E = some ce.cls)
    (hx : ∀ t : State, t.heap = H → s.vm.Alike t.vm → XC E s t) (hf : ∀ z ∈ locs, free z.base) (hc : cells ≤ mc) (hs : slots ≤ ms) :
    vx_W p l e R s m args below meth c H locs cells slots (vx_MQ below Qc XC args s mc ms free) (F0 m pc ls rest) q := by
  intro T hT X
  obtain ⟨st1, hrun, hend, hW, hsm⟩ := X.leaveThrown q (g := F0 m pc ls rest) rfl rfl rfl hout hlocks
  have hcell9 : (T.setFrames (.throwing q :: below)).heap[q]? = some ce := by
    show T.heap[q]? = some ce
    rw [hT]; exact hcell
  exact ⟨_, st1, .threw q, hrun, hend, Or.inr ⟨q, rfl, E, ce, locs, hx _ hT hW.alike, hcell9, hv, hcl, hW, hsm.mono hc hs, hf⟩⟩
theorem vx_frame {U : State} {k n : Nat} (h : s.sameButNew ({ U with vm := s.vm } : State) locs k n) : s.heap.size ≤ U.heap.size ∧ ∀ q : Nat, q < s.heap.size → (∀ z ∈ locs, z.base ≠ q) → U.heap[q]? = s.heap[q]? := by
  obtain ⟨-, h2, -, -, -, h6⟩ := h
  refine ⟨h2, fun q hq hz => ?_⟩
  obtain ⟨c9, e1, e2, e3, e4⟩ := h6 q _ (Array.getElem?_eq_getElem hq)
  have hs : c9.slots = (s.heap[q]).slots := Array.ext_getElem? fun i => e4 i fun hm => hz _ hm rfl
  have h9 : c9 = s.heap[q] := by
    rw [hs] at e2
    exact e2
  have e5 : U.heap[q]? = some c9 := e1
  rw [e5, h9, Array.getElem?_eq_getElem hq]
/-- the words of a throw but the four that speak of the heap -/
def vx_no (w : Cond) : Bool := decide (w ≠ .isRef (.static Bundle.tN "UNASSIGNED_STACK" Bundle.steD)) && decide (w ≠ .isRef (.static Bundle.tN "SUPPRESSED_SENTINEL" Bundle.listD)) && decide (w ≠ .laysStatic Bundle.tN "UNASSIGNED_STACK" Bundle.steD) && decide (w ≠ .laysStatic Bundle.tN "SUPPRESSED_SENTINEL" Bundle.listD)
def vx_at0 (own : String) (ic : Nat) (X : String) (names : List String) : List Cond := (Bundle.ownAtoms0 own ic X names).filter vx_no
def vx_atS (own : String) (ic : Nat) (X : String) (names : List String) : List Cond := (Bundle.ownAtoms own ic X names).filter vx_no
/-- a word that the tables alone decide, or a good one -/
def vx_ot (w : Cond) : Bool := w.onTables || goodWord w
theorem vx_ot_at {args a' : Array Value} {s U : State} {w : Cond} (hW : s.WarmedH U.vm) (hvm : s.vm = U.vm) (hg : vx_ot w = true) (h : w.before args s = true) : w.before a' U = true := by
  simp only [vx_ot, Bool.or_eq_true] at hg
  rcases hg with hg | hg
  · exact va_tabs hg hvm h
  · exact word_at hW (good_of_word hg) h
/-- a list's words: the good ones out of the method's own list, the others by premises of their own -/
theorem vx_hat {args : Array Value} {s : State} {L B : List Cond} (h1 : ∀ w ∈ L.filter goodWord, w.before args s = true) (h2 : ∀ w ∈ L.filter (fun w => !goodWord w), w ∈ B) (h3 : ∀ w ∈ B, w.before args s = true) : ∀ w ∈ L, w.before args s = true := by
  intro w hw
  by_cases g : goodWord w = true
  · exact h1 w (List.mem_filter.mpr ⟨hw, g⟩)
  · refine h3 w (h2 w (List.mem_filter.mpr ⟨hw, ?_⟩))
    show (!goodWord w) = true
    cases hgw : goodWord w
    · rfl
    · exact absurd hgw g
theorem vx_c {args : Array Value} {s : State} {w : Cond} {B : List Cond} (h : w.before args s = true) (t : ∀ w ∈ B, w.before args s = true) : ∀ w' ∈ w :: B, w'.before args s = true := fun w' h' => (List.mem_cons.mp h').elim (fun e => by rw [e]; exact h) (t w')
theorem vx_n {args : Array Value} {s : State} : ∀ w ∈ ([] : List Cond), w.before args s = true := fun _ h => nomatch h
theorem vx_own {args : Array Value} {s : State} {L : List Cond} (h1 : ∀ w ∈ L.filter vx_no, w.before args s = true)
    (hU : (Cond.isRef (.static Bundle.tN "UNASSIGNED_STACK" Bundle.steD)).before args s = true) (hN : (Cond.isRef (.static Bundle.tN "SUPPRESSED_SENTINEL" Bundle.listD)).before args s = true)
    (lU : (Cond.laysStatic Bundle.tN "UNASSIGNED_STACK" Bundle.steD).before args s = true) (lN : (Cond.laysStatic Bundle.tN "SUPPRESSED_SENTINEL" Bundle.listD).before args s = true) : ∀ w ∈ L, w.before args s = true := by
  intro w hw
  by_cases e1 : w = .isRef (.static Bundle.tN "UNASSIGNED_STACK" Bundle.steD)
  · rw [e1]; exact hU
  · by_cases e2 : w = .isRef (.static Bundle.tN "SUPPRESSED_SENTINEL" Bundle.listD)
    · rw [e2]; exact hN
    · by_cases e3 : w = .laysStatic Bundle.tN "UNASSIGNED_STACK" Bundle.steD
      · rw [e3]; exact lU
      · by_cases e4 : w = .laysStatic Bundle.tN "SUPPRESSED_SENTINEL" Bundle.listD
        · rw [e4]; exact lN
        · exact h1 w (List.mem_filter.mpr ⟨hw, by unfold vx_no; rw [decide_eq_true e1, decide_eq_true e2, decide_eq_true e3, decide_eq_true e4]; rfl⟩)
/-- where a static field lies, its class's statics cell in H -/
def vx_L (C n d : String) (A : Nat → Prop) (U : State) (H : Heap) : Prop := ∃ (c : ClassId) (k : Class) (i : Nat) (f : Field) (a : Nat) (cell : Cell), U.vm.findClass C = some c ∧ U.fieldFound? C n d = some (c, k, i, f) ∧ f.isStatic = true ∧ k.statics = some a ∧ H[a]? = some cell ∧ cell.vm.isStatics = true ∧ cell.cls = c ∧ f.slot < cell.slots.size ∧ k.staticTypes[f.slot]? = some f.type ∧ ¬ A a
theorem vx_L.moved {C n d : String} {A : Nat → Prop} {u U : State} {H : Heap} (hvm : u.vm.Alike U.vm) (h : vx_L C n d A u H) : vx_L C n d A U H := by
  obtain ⟨c, k, i, f, a, cell, h1, h2, h3, h4, h5, h6, h7, h8, h9, h10⟩ := h
  obtain ⟨k', hi', he⟩ := State.fieldFound?_setVm hvm h2
  exact ⟨c, k', i, f, a, cell, by rw [hvm.findClass]; exact h1, hi', h3, by rw [he]; exact h4, h5, h6, h7, h8, by rw [he]; exact h9, h10⟩
theorem vx_L.kept {C n d : String} {A : Nat → Prop} {U : State} {H H1 : Heap} (h : vx_L C n d A U H) (hq : ∀ a : Nat, a < H.size → ¬ A a → H1[a]? = H[a]?) : vx_L C n d A U H1 := by
  obtain ⟨c, k, i, f, a, cell, h1, h2, h3, h4, h5, h6, h7, h8, h9, h10⟩ := h
  exact ⟨c, k, i, f, a, cell, h1, h2, h3, h4, by rw [hq a (Array.getElem?_eq_some_iff.mp h5).1 h10]; exact h5, h6, h7, h8, h9, h10⟩
theorem vx_L.narrow {C n d : String} {A B : Nat → Prop} {U : State} {H : Heap} (h : vx_L C n d A U H) (hAB : ∀ q, B q → A q) : vx_L C n d B U H := by
  obtain ⟨c, k, i, f, a, cell, h1, h2, h3, h4, h5, h6, h7, h8, h9, h10⟩ := h
  exact ⟨c, k, i, f, a, cell, h1, h2, h3, h4, h5, h6, h7, h8, h9, fun z => h10 (hAB _ z)⟩
theorem vx_L.word {C n d : String} {A : Nat → Prop} {s : State} {args : Array Value} (h : vx_L C n d A s s.heap) : (Cond.laysStatic C n d).before args s = true := by
  obtain ⟨c, k, i, f, a, cell, h1, h2, h3, h4, h5, h6, h7, h8, h9, -⟩ := h
  show (Cond.laysStatic C n d).holds args s none s [] = true
  exact Cond.laysStatic_of h1 h2 h3 h4 h5 h6 h7 h8 h9
/-- .. and what it holds: null or some reference -/
def vx_Zq (C n d : String) (A : Nat → Prop) (U : State) (H : Heap) : Prop := va_Zq C n d A U H ∧ vx_L C n d A U H
theorem vx_Zq.moved {C n d : String} {A : Nat → Prop} {u U : State} {H : Heap} (hvm : u.vm.Alike U.vm) (h : vx_Zq C n d A u H) : vx_Zq C n d A U H := ⟨va_Zq.moved hvm h.1, vx_L.moved hvm h.2⟩
theorem vx_Zq.kept {C n d : String} {A : Nat → Prop} {U : State} {H H1 : Heap} (h : vx_Zq C n d A U H) (hq : ∀ a : Nat, a < H.size → ¬ A a → H1[a]? = H[a]?) : vx_Zq C n d A U H1 := ⟨va_Zq.kept h.1 hq, vx_L.kept h.2 hq⟩
theorem vx_Zq.narrow {C n d : String} {A B : Nat → Prop} {U : State} {H : Heap} (h : vx_Zq C n d A U H) (hAB : ∀ q, B q → A q) : vx_Zq C n d B U H := ⟨va_Zq.narrow h.1 hAB, vx_L.narrow h.2 hAB⟩
theorem vx_Zqof {args : Array Value} {s : State} {C n d : String} {A : Nat → Prop} (hl : (Cond.laysStatic C n d).before args s = true) (hini : (Cond.initialized C).before args s = true) (h : (Cond.isRef (.static C n d)).before args s = true) (hA : ∀ a : Nat, a < s.heap.size → ¬ A a) : vx_Zq C n d A s s.heap := by
  refine ⟨va_Zqof hl hini h hA, ?_⟩
  obtain ⟨c, k, i, f, a, cell, h1, h2, h3, h4, h5, h6, h7, h8, h9⟩ := Cond.laysStatic_spec hl
  exact ⟨c, k, i, f, a, cell, h1, h2, h3, h4, h5, h6, h7, h8, h9, hA a (Array.getElem?_eq_some_iff.mp h5).1⟩
theorem vx_isRef {C n d : String} {v : Value} {A : Nat → Prop} {s : State} {args : Array Value} (h : va_Z C n d v A s s.heap) (hv : v.isRef = true) : (Cond.isRef (.static C n d)).before args s = true := by
  obtain ⟨cf, kf, fi, f, a, cell, h1, h2, h3, h4, h5, h6, h7, -⟩ := h
  have he : (Term.static C n d).eval args s none [] s = some v := by
    simp [Term.eval, State.fieldNamed?, h1, h2, h4, h5, h6, h7]
  simp only [Cond.before, Cond.holds, Cond.value, he]
  cases v <;> simp_all [Value.isRef]
theorem vx_isRefq {C n d : String} {A : Nat → Prop} {s : State} {args : Array Value} (h : va_Zq C n d A s s.heap) : (Cond.isRef (.static C n d)).before args s = true := by
  rcases h with h | ⟨t, h⟩
  · exact vx_isRef h rfl
  · exact vx_isRef h rfl
/-- the same frame, seen from here: as if the method were called anew in this heap -/
theorem vx_rebase {T : State} (X : Stand p l e R s m args below meth c T locs cells slots) {R' : Room} (hf : R'.frames ≤ R.frames) (hl : R'.locals ≤ R.locals) (hc : cells + R'.cells ≤ R.cells) (hs : slots + R'.slots ≤ R.slots) :
    Stand p l e R' ((T.setVm s.vm).setFrames (.invoking m args :: below)) m args below meth c T [] 0 0 := by
  have htop : (T.setVm s.vm).topJava?.isSome := X.here.top
  have hF : ((T.setVm s.vm).setFrames (.invoking m args :: below)).frames = .invoking m args :: below := State.frames_setFrames _ (State.cur_lt_of_top htop)
  obtain ⟨g₀, hg0⟩ := Option.isSome_iff_exists.mp htop
  obtain ⟨r, hr⟩ := State.topJava?_eq_some.mp hg0
  have hl9 : e.platform.stackLimits (T.setVm s.vm).me = e.platform.stackLimits s.me := X.limits
  have hb9 : (T.setVm s.vm).me.stackBytes = s.me.stackBytes := X.bytes
  refine ⟨X.admits, X.cas, X.clock, hF, ?_, X.hears, X.method, X.code, X.here, X.tail, X.warmed, ?_, ?_, ?_⟩
  · have h := X.room
    have hU : ((T.setVm s.vm).setFrames (.invoking m args :: below)).localsInUse = s.localsInUse := by
      rw [State.localsInUse_invoking hF (meth := meth) (c := c) X.method X.code, State.localsInUse_invoking X.frames X.method X.code]
    simp only [State.hasRoom, Bool.and_eq_true, decide_eq_true_eq] at h ⊢
    obtain ⟨⟨⟨⟨h1, h2, h3, h4, h5, h6⟩, h7⟩, h8⟩, h9⟩ := h
    rw [X.frames, List.length_cons] at h2 h3
    have q1 := X.heapSize
    have q2 := X.used
    simp only [hF, hU, List.length_cons, State.stackLimits_setFrames, State.stackBytes_setFrames, hl9, hb9]
    refine ⟨⟨⟨⟨by omega, by omega, by omega, by omega, by omega, h6⟩, ?_⟩, ?_⟩, X.book⟩
    · show T.heap.size + R'.cells ≤ e.platform.maxCells
      omega
    · show T.slotsUsed + R'.slots ≤ e.platform.maxSlots
      omega
  · rw [State.stackLimits_setFrames]; rfl
  · rw [State.stackBytes_setFrames]; rfl
  · refine ⟨?_, Nat.le_refl _, Nat.le_refl _, ?_, ?_, fun a c9 h9 => ⟨c9, h9, rfl, rfl, fun _ _ => rfl⟩⟩
    · obtain ⟨t, ht, -⟩ := State.frames_cons hr
      show T.setVm s.vm = { ((T.setVm s.vm).setFrames (.invoking m args :: below)).setFrames (T.setVm s.vm).frames with heap := T.heap, slotsUsed := T.slotsUsed }
      rw [State.setFrames_setFrames, State.setFrames_self ht]
      rfl
    · show T.slotsUsed = T.slotsUsed + ((T.heap.toList.drop T.heap.size).map (·.slots.size)).sum
      rw [List.drop_eq_nil_of_le (Nat.le_of_eq Array.length_toList)]
      rfl
    · show ((T.heap.toList.drop T.heap.size).map (·.slots.size)).sum ≤ 0
      rw [List.drop_eq_nil_of_le (Nat.le_of_eq Array.length_toList)]
      exact Nat.le_refl _
/-- 'throw new E()': new; dup; invokespecial; athrow -/
theorem vx_throw0 {cc : ByteArray} {pc : Nat} (hexec : p.tables.exec = Jvm.exec) (hb : c.code = cc) (hl : l.stackTraces = false) {own cls : String} {names : List String} {ik ic mc ms : Nat} {A : Nat → Prop}
    (hown : s.vm.findClass own = some m.cls) (hcls : Bundle.fit cls = true) (hnames : ∀ n ∈ names, Bundle.fit n = true)
    (hk : (Cond.classLink own ik cls).before args s = true) (hini : (Cond.initialized cls).before args s = true) (hat : ∀ w ∈ vx_at0 own ic cls names, w.before args s = true)
    (hgood : ∀ w ∈ Cond.classLink own ik cls :: Cond.initialized cls :: vx_at0 own ic cls names, vx_ot w = true)
    (hU : vx_Zq Bundle.tN "UNASSIGNED_STACK" Bundle.steD A s s.heap) (hN : vx_Zq Bundle.tN "SUPPRESSED_SENTINEL" Bundle.listD A s s.heap) (hS : va_S A s.heap H locs) (hsize : ls.size = c.maxLocals)
    (d0 : decode cc pc = .ok (.new ik, 3)) (d3 : decode cc (pc + 3) = .ok (.dup, 1)) (d4 : decode cc (pc + 4) = .ok (.invokespecial ic, 3)) (d7 : decode cc (pc + 7) = .ok (.athrow, 1))
    (hout : ∀ x ∈ c.exceptionTable.toList, covers x (pc + 7) = false)
    (hRframes : names.length + 3 < R.frames) (hRlocals : (rest.map fun v => v.category).sum + (13 * (names.length + 1) + 42) ≤ R.locals) (hRcells : cells + 1 ≤ R.cells) (hRslots : slots + 6 ≤ R.slots) (hlocks : meth.locks = false)
    (hx : ∀ t : State, s.vm.Alike t.vm → H.size ≤ t.heap.size → (∀ q : Nat, q < H.size → t.heap[q]? = H[q]?) → XC cls s t)
    (hf : ∀ z ∈ locs, free z.base) (hc : cells + 1 ≤ mc) (hs : slots + 6 ≤ ms) :
    W p l e R s m args below meth c H locs cells slots (vx_MQ below Qc XC args s mc ms free) (F0 m pc ls rest) := by
  intro T hT X
  have htr : e.platform.stackTraces = false := (show e.platform.stackTraces = l.stackTraces by rw [X.admits.platform]).trans hl
  have Y := vx_rebase X (R' := { frames := R.frames, locals := R.locals, cells := 1, slots := 6 }) (Nat.le_refl _) (Nat.le_refl _) hRcells hRslots
  obtain ⟨s', hA⟩ : ∃ z, z = (T.setVm s.vm).setFrames (.invoking m args :: below) := ⟨_, rfl⟩
  rw [← hA] at Y
  have hvm : s'.vm = s.vm := by rw [hA]; rfl
  have hhp : s'.heap = H := by rw [hA]; exact hT
  have hW0 : s.WarmedH s'.vm := by rw [hvm]; exact State.WarmedH.refl s
  have hat' : ∀ w ∈ vx_at0 own ic cls names, w.before args s' = true := fun w hw => vx_ot_at hW0 hvm.symm (hgood w (List.mem_cons_of_mem _ (List.mem_cons_of_mem _ hw))) (hat w hw)
  have hk' : (Cond.classLink own ik cls).before args s' = true := vx_ot_at hW0 hvm.symm (hgood _ List.mem_cons_self) hk
  have hini' : (Cond.initialized cls).before args s' = true := vx_ot_at hW0 hvm.symm (hgood _ (List.mem_cons_of_mem _ List.mem_cons_self)) hini
  have hU' : vx_Zq Bundle.tN "UNASSIGNED_STACK" Bundle.steD A s' s'.heap := by rw [hhp]; exact vx_Zq.moved hW0.alike (hU.kept hS.2.1)
  have hN' : vx_Zq Bundle.tN "SUPPRESSED_SENTINEL" Bundle.listD A s' s'.heap := by rw [hhp]; exact vx_Zq.moved hW0.alike (hN.kept hS.2.1)
  have h : ∀ w ∈ Bundle.ownAtoms0 own ic cls names, w.before args s' = true := vx_own hat' (vx_isRefq hU'.1) (vx_isRefq hN'.1) hU'.2.word hN'.2.word
  have hown' : s'.vm.findClass own = some m.cls := by rw [hvm]; exact hown
  have hins : (Cond.instantiable cls 6).before args s' = true := h _ (by simp [Bundle.ownAtoms0])
  obtain ⟨vm₁, cX, kX, hfX, hkX, -, -, X₁, st1⟩ := Y.newCold hexec (own := own) (C := cls) (index := ik) (n := 6) hown' hk' hins hini'
    (g := F0 m pc ls rest) rfl (by rw [hb]; exact d0) (Nat.le_refl _) (Nat.le_refl _)
  generalize hT1 : (T.setVm vm₁).pushCell { cls := cX, slots := kX.instanceTypes.map defaultValue, vm := .none } = T1 at X₁ st1
  have hcat : (Value.ref T.heap.size).category = 1 := rfl
  have hcellA : T1.heap[T.heap.size]? = some (freshCell cX kX) := by rw [← hT1]; exact State.heap_pushCell_size _ _
  have d3' : decode c.code (pc + 3) = .ok (.dup, 1) := by rw [hb]; exact d3
  obtain ⟨U, hsteps, hrun, hend, hW, hsame, ce, hce, hO⟩ := X₁.ctorThrow0 hexec htr (own := own) (cls := cls) (names := names) (ic := ic) hown' hcls hnames h (fun x hx => nomatch hx) hfX hkX hcellA (by rw [hhp, hT]; exact Nat.le_refl _)
    (g := { method := m, pc := pc + 4, locals := ls, stack := .ref T.heap.size :: .ref T.heap.size :: rest, locked := none }) rfl hsize rfl rfl (rest := rest) rfl
    (by rw [hb]; exact d4) (by rw [hb]; exact d7) hout hRframes (by simp only [List.map_cons, List.sum_cons, hcat]; omega) hlocks
  obtain ⟨f1, f2⟩ := vx_frame hsame
  rw [hhp] at f1 f2
  have hWs : s.WarmedH U.vm := State.WarmedH.trans hW0 hW
  have hcl : s.vm.findClass cls = some ce.cls := by
    have h9 := hO.cls
    rw [hvm] at h9
    exact h9
  have hall : s.sameButNew ({ U with vm := s.vm } : State) locs mc ms := by
    subst hA
    obtain ⟨e1, e2⟩ := hsame
    rw [State.setFrames_setFrames] at e1
    have h2 : (T.setVm s.vm).sameButNew ({ U with vm := s.vm } : State) [] (0 + 1) (0 + 6) := ⟨e1, e2⟩
    have h3 := X.same.trans h2
    rw [List.append_nil] at h3
    exact h3.mono hc hs
  refine ⟨U, ?_, .threw T.heap.size, hrun, hend, Or.inr ⟨T.heap.size, rfl, cls, ce, locs, hx U hWs.alike f1 (fun q hq => f2 q hq (fun z hz => nomatch hz)), hce, hO.vm, hcl, hWs, hall, hf⟩⟩
  refine st1 _ ?_
  show Steps p.tables e below (T1.setTop { method := m, pc := pc + 3, locals := ls, stack := .ref T.heap.size :: rest, locked := none }) _
  jvm_step X₁.here [X₁.here.top, hexec, d3', Value.category]
  exact hsteps
/-- 'throw new E("text")': new; dup; ldc; invokespecial; athrow -/
theorem vx_throwS {cc : ByteArray} {pc : Nat} (hexec : p.tables.exec = Jvm.exec) (hb : c.code = cc) (hl : l.stackTraces = false) {own cls text : String} {names : List String} {ik is ic mc ms sa : Nat} {A : Nat → Prop}
    (hown : s.vm.findClass own = some m.cls) (hcls : Bundle.fit cls = true) (hnames : ∀ n ∈ names, Bundle.fit n = true)
    (hk : (Cond.classLink own ik cls).before args s = true) (hini : (Cond.initialized cls).before args s = true) (hstr : vk_R own is text sa s) (hat : ∀ w ∈ vx_atS own ic cls names, w.before args s = true)
    (hgood : ∀ w ∈ Cond.classLink own ik cls :: Cond.initialized cls :: vx_atS own ic cls names, vx_ot w = true)
    (hU : vx_Zq Bundle.tN "UNASSIGNED_STACK" Bundle.steD A s s.heap) (hN : vx_Zq Bundle.tN "SUPPRESSED_SENTINEL" Bundle.listD A s s.heap) (hS : va_S A s.heap H locs) (hsize : ls.size = c.maxLocals)
    (d0 : decode cc pc = .ok (.new ik, 3)) (d3 : decode cc (pc + 3) = .ok (.dup, 1)) (d4 : decode cc (pc + 4) = .ok (.ldc is, 2)) (d6 : decode cc (pc + 6) = .ok (.invokespecial ic, 3)) (d9 : decode cc (pc + 9) = .ok (.athrow, 1))
    (hout : ∀ x ∈ c.exceptionTable.toList, covers x (pc + 9) = false)
    (hRframes : names.length + 3 < R.frames) (hRlocals : (rest.map fun v => v.category).sum + (13 * (names.length + 1) + 43) ≤ R.locals) (hRcells : cells + 1 ≤ R.cells) (hRslots : slots + 6 ≤ R.slots) (hlocks : meth.locks = false)
    (hx : ∀ t : State, s.vm.Alike t.vm → H.size ≤ t.heap.size → (∀ q : Nat, q < H.size → t.heap[q]? = H[q]?) → XC cls s t)
    (hf : ∀ z ∈ locs, free z.base) (hc : cells + 1 ≤ mc) (hs : slots + 6 ≤ ms) :
    W p l e R s m args below meth c H locs cells slots (vx_MQ below Qc XC args s mc ms free) (F0 m pc ls rest) := by
  intro T hT X
  have htr : e.platform.stackTraces = false := (show e.platform.stackTraces = l.stackTraces by rw [X.admits.platform]).trans hl
  have Y := vx_rebase X (R' := { frames := R.frames, locals := R.locals, cells := 1, slots := 6 }) (Nat.le_refl _) (Nat.le_refl _) hRcells hRslots
  obtain ⟨s', hA⟩ : ∃ z, z = (T.setVm s.vm).setFrames (.invoking m args :: below) := ⟨_, rfl⟩
  rw [← hA] at Y
  have hvm : s'.vm = s.vm := by rw [hA]; rfl
  have hhp : s'.heap = H := by rw [hA]; exact hT
  have hW0 : s.WarmedH s'.vm := by rw [hvm]; exact State.WarmedH.refl s
  have hat' : ∀ w ∈ vx_atS own ic cls names, w.before args s' = true := fun w hw => vx_ot_at hW0 hvm.symm (hgood w (List.mem_cons_of_mem _ (List.mem_cons_of_mem _ hw))) (hat w hw)
  have hk' : (Cond.classLink own ik cls).before args s' = true := vx_ot_at hW0 hvm.symm (hgood _ List.mem_cons_self) hk
  have hini' : (Cond.initialized cls).before args s' = true := vx_ot_at hW0 hvm.symm (hgood _ (List.mem_cons_of_mem _ List.mem_cons_self)) hini
  have hU' : vx_Zq Bundle.tN "UNASSIGNED_STACK" Bundle.steD A s' s'.heap := by rw [hhp]; exact vx_Zq.moved hW0.alike (hU.kept hS.2.1)
  have hN' : vx_Zq Bundle.tN "SUPPRESSED_SENTINEL" Bundle.listD A s' s'.heap := by rw [hhp]; exact vx_Zq.moved hW0.alike (hN.kept hS.2.1)
  have h : ∀ w ∈ Bundle.ownAtoms own ic cls names, w.before args s' = true := vx_own hat' (vx_isRefq hU'.1) (vx_isRefq hN'.1) hU'.2.word hN'.2.word
  have hown' : s'.vm.findClass own = some m.cls := by rw [hvm]; exact hown
  have hins : (Cond.instantiable cls 6).before args s' = true := h _ (by simp [Bundle.ownAtoms])
  obtain ⟨vm₁, cX, kX, hfX, hkX, -, -, X₁, st1⟩ := Y.newCold hexec (own := own) (C := cls) (index := ik) (n := 6) hown' hk' hins hini'
    (g := F0 m pc ls rest) rfl (by rw [hb]; exact d0) (Nat.le_refl _) (Nat.le_refl _)
  generalize hT1 : (T.setVm vm₁).pushCell { cls := cX, slots := kX.instanceTypes.map defaultValue, vm := .none } = T1 at X₁ st1
  have hcat : (Value.ref T.heap.size).category = 1 := rfl
  have hcellA : T1.heap[T.heap.size]? = some (freshCell cX kX) := by rw [← hT1]; exact State.heap_pushCell_size _ _
  have d3' : decode c.code (pc + 3) = .ok (.dup, 1) := by rw [hb]; exact d3
  have d4' : decode c.code (pc + 4) = .ok (.ldc is, 2) := by rw [hb]; exact d4
  have hstr' : vk_R own is text sa s' := vk_R.warm hW0 hstr
  obtain ⟨U, hsteps, hrun, hend, hW, hsame, ce, hce, hO⟩ := X₁.ctorThrowS hexec htr (own := own) (cls := cls) (names := names) (ic := ic) hown' hcls hnames h (fun x hx => nomatch hx) hfX hkX hcellA (by rw [hhp, hT]; exact Nat.le_refl _) (msg := .ref sa) rfl
    (g := { method := m, pc := pc + 6, locals := ls, stack := .ref sa :: .ref T.heap.size :: .ref T.heap.size :: rest, locked := none }) rfl hsize rfl rfl (rest := rest) rfl
    (by rw [hb]; exact d6) (by rw [hb]; exact d9) hout hRframes (by simp only [List.map_cons, List.sum_cons, hcat]; omega) hlocks
  obtain ⟨f1, f2⟩ := vx_frame hsame
  rw [hhp] at f1 f2
  have hWs : s.WarmedH U.vm := State.WarmedH.trans hW0 hW
  have hcl : s.vm.findClass cls = some ce.cls := by
    have h9 := hO.cls
    rw [hvm] at h9
    exact h9
  have hall : s.sameButNew ({ U with vm := s.vm } : State) locs mc ms := by
    subst hA
    obtain ⟨e1, e2⟩ := hsame
    rw [State.setFrames_setFrames] at e1
    have h2 : (T.setVm s.vm).sameButNew ({ U with vm := s.vm } : State) [] (0 + 1) (0 + 6) := ⟨e1, e2⟩
    have h3 := X.same.trans h2
    rw [List.append_nil] at h3
    exact h3.mono hc hs
  refine ⟨U, ?_, .threw T.heap.size, hrun, hend, Or.inr ⟨T.heap.size, rfl, cls, ce, locs, hx U hWs.alike f1 (fun q hq => f2 q hq (fun z hz => nomatch hz)), hce, hO.vm, hcl, hWs, hall, hf⟩⟩
  refine st1 _ ?_
  show Steps p.tables e below (T1.setTop { method := m, pc := pc + 3, locals := ls, stack := .ref T.heap.size :: rest, locked := none }) _
  jvm_step X₁.here [X₁.here.top, hexec, d3', Value.category]
  exact X₁.ldcString hexec (own := own) (text := text) (index := is) (a := sa) hown' hstr'.1 hstr'.2
    (g := { method := m, pc := pc + 4, locals := ls, stack := .ref T.heap.size :: .ref T.heap.size :: rest, locked := none }) rfl d4' _ hsteps
/-- 'throw new E("text")', the text by a wide index -/
theorem vx_throwSW {cc : ByteArray} {pc : Nat} (hexec : p.tables.exec = Jvm.exec) (hb : c.code = cc) (hl : l.stackTraces = false) {own cls text : String} {names : List String} {ik is ic mc ms sa : Nat} {A : Nat → Prop}
    (hown : s.vm.findClass own = some m.cls) (hcls : Bundle.fit cls = true) (hnames : ∀ n ∈ names, Bundle.fit n = true)
    (hk : (Cond.classLink own ik cls).before args s = true) (hini : (Cond.initialized cls).before args s = true) (hstr : vk_R own is text sa s) (hat : ∀ w ∈ vx_atS own ic cls names, w.before args s = true)
    (hgood : ∀ w ∈ Cond.classLink own ik cls :: Cond.initialized cls :: vx_atS own ic cls names, vx_ot w = true)
    (hU : vx_Zq Bundle.tN "UNASSIGNED_STACK" Bundle.steD A s s.heap) (hN : vx_Zq Bundle.tN "SUPPRESSED_SENTINEL" Bundle.listD A s s.heap) (hS : va_S A s.heap H locs) (hsize : ls.size = c.maxLocals)
    (d0 : decode cc pc = .ok (.new ik, 3)) (d3 : decode cc (pc + 3) = .ok (.dup, 1)) (d4 : decode cc (pc + 4) = .ok (.ldc_w is, 3)) (d7 : decode cc (pc + 7) = .ok (.invokespecial ic, 3)) (d10 : decode cc (pc + 10) = .ok (.athrow, 1))
    (hout : ∀ x ∈ c.exceptionTable.toList, covers x (pc + 10) = false)
    (hRframes : names.length + 3 < R.frames) (hRlocals : (rest.map fun v => v.category).sum + (13 * (names.length + 1) + 43) ≤ R.locals) (hRcells : cells + 1 ≤ R.cells) (hRslots : slots + 6 ≤ R.slots) (hlocks : meth.locks = false)
    (hx : ∀ t : State, s.vm.Alike t.vm → H.size ≤ t.heap.size → (∀ q : Nat, q < H.size → t.heap[q]? = H[q]?) → XC cls s t)
    (hf : ∀ z ∈ locs, free z.base) (hc : cells + 1 ≤ mc) (hs : slots + 6 ≤ ms) :
    W p l e R s m args below meth c H locs cells slots (vx_MQ below Qc XC args s mc ms free) (F0 m pc ls rest) := by
  intro T hT X
  have htr : e.platform.stackTraces = false := (show e.platform.stackTraces = l.stackTraces by rw [X.admits.platform]).trans hl
  have Y := vx_rebase X (R' := { frames := R.frames, locals := R.locals, cells := 1, slots := 6 }) (Nat.le_refl _) (Nat.le_refl _) hRcells hRslots
  obtain ⟨s', hA⟩ : ∃ z, z = (T.setVm s.vm).setFrames (.invoking m args :: below) := ⟨_, rfl⟩
  rw [← hA] at Y
  have hvm : s'.vm = s.vm := by rw [hA]; rfl
  have hhp : s'.heap = H := by rw [hA]; exact hT
  have hW0 : s.WarmedH s'.vm := by rw [hvm]; exact State.WarmedH.refl s
  have hat' : ∀ w ∈ vx_atS own ic cls names, w.before args s' = true := fun w hw => vx_ot_at hW0 hvm.symm (hgood w (List.mem_cons_of_mem _ (List.mem_cons_of_mem _ hw))) (hat w hw)
  have hk' : (Cond.classLink own ik cls).before args s' = true := vx_ot_at hW0 hvm.symm (hgood _ List.mem_cons_self) hk
  have hini' : (Cond.initialized cls).before args s' = true := vx_ot_at hW0 hvm.symm (hgood _ (List.mem_cons_of_mem _ List.mem_cons_self)) hini
  have hU' : vx_Zq Bundle.tN "UNASSIGNED_STACK" Bundle.steD A s' s'.heap := by rw [hhp]; exact vx_Zq.moved hW0.alike (hU.kept hS.2.1)
  have hN' : vx_Zq Bundle.tN "SUPPRESSED_SENTINEL" Bundle.listD A s' s'.heap := by rw [hhp]; exact vx_Zq.moved hW0.alike (hN.kept hS.2.1)
  have h : ∀ w ∈ Bundle.ownAtoms own ic cls names, w.before args s' = true := vx_own hat' (vx_isRefq hU'.1) (vx_isRefq hN'.1) hU'.2.word hN'.2.word
  have hown' : s'.vm.findClass own = some m.cls := by rw [hvm]; exact hown
  have hins : (Cond.instantiable cls 6).before args s' = true := h _ (by simp [Bundle.ownAtoms])
  obtain ⟨vm₁, cX, kX, hfX, hkX, -, -, X₁, st1⟩ := Y.newCold hexec (own := own) (C := cls) (index := ik) (n := 6) hown' hk' hins hini'
    (g := F0 m pc ls rest) rfl (by rw [hb]; exact d0) (Nat.le_refl _) (Nat.le_refl _)
  generalize hT1 : (T.setVm vm₁).pushCell { cls := cX, slots := kX.instanceTypes.map defaultValue, vm := .none } = T1 at X₁ st1
  have hcat : (Value.ref T.heap.size).category = 1 := rfl
  have hcellA : T1.heap[T.heap.size]? = some (freshCell cX kX) := by rw [← hT1]; exact State.heap_pushCell_size _ _
  have d3' : decode c.code (pc + 3) = .ok (.dup, 1) := by rw [hb]; exact d3
  have d4' : decode c.code (pc + 4) = .ok (.ldc_w is, 3) := by rw [hb]; exact d4
  have hstr' : vk_R own is text sa s' := vk_R.warm hW0 hstr
  obtain ⟨U, hsteps, hrun, hend, hW, hsame, ce, hce, hO⟩ := X₁.ctorThrowS hexec htr (own := own) (cls := cls) (names := names) (ic := ic) hown' hcls hnames h (fun x hx => nomatch hx) hfX hkX hcellA (by rw [hhp, hT]; exact Nat.le_refl _) (msg := .ref sa) rfl
    (g := { method := m, pc := pc + 7, locals := ls, stack := .ref sa :: .ref T.heap.size :: .ref T.heap.size :: rest, locked := none }) rfl hsize rfl rfl (rest := rest) rfl
    (by rw [hb]; exact d7) (by rw [hb]; exact d10) hout hRframes (by simp only [List.map_cons, List.sum_cons, hcat]; omega) hlocks
  obtain ⟨f1, f2⟩ := vx_frame hsame
  rw [hhp] at f1 f2
  have hWs : s.WarmedH U.vm := State.WarmedH.trans hW0 hW
  have hcl : s.vm.findClass cls = some ce.cls := by
    have h9 := hO.cls
    rw [hvm] at h9
    exact h9
  have hall : s.sameButNew ({ U with vm := s.vm } : State) locs mc ms := by
    subst hA
    obtain ⟨e1, e2⟩ := hsame
    rw [State.setFrames_setFrames] at e1
    have h2 : (T.setVm s.vm).sameButNew ({ U with vm := s.vm } : State) [] (0 + 1) (0 + 6) := ⟨e1, e2⟩
    have h3 := X.same.trans h2
    rw [List.append_nil] at h3
    exact h3.mono hc hs
  refine ⟨U, ?_, .threw T.heap.size, hrun, hend, Or.inr ⟨T.heap.size, rfl, cls, ce, locs, hx U hWs.alike f1 (fun q hq => f2 q hq (fun z hz => nomatch hz)), hce, hO.vm, hcl, hWs, hall, hf⟩⟩
  refine st1 _ ?_
  show Steps p.tables e below (T1.setTop { method := m, pc := pc + 3, locals := ls, stack := .ref T.heap.size :: rest, locked := none }) _
  jvm_step X₁.here [X₁.here.top, hexec, d3', Value.category]
  exact X₁.ldcStringW hexec (own := own) (text := text) (index := is) (a := sa) hown' hstr'.1 hstr'.2
    (g := { method := m, pc := pc + 4, locals := ls, stack := .ref T.heap.size :: .ref T.heap.size :: rest, locked := none }) rfl d4' _ hsteps
end Ends
section Bodies
variable {l : Launch}
theorem vx_ofW {y : MethodName} {ws ws' : List Cond} {rm : Room} {Pc : Array Value → State → Prop} {Qc : Array Value → State → Outcome → State → Prop} {XC : String → State → State → Prop} {mc ms : Nat} {free : Addr → Prop} {cc : ByteArray} {maxL : Nat} {ret : Option FieldType}
    (hy : plainName y.cls = true) (hw : ws = Cond.code y cc maxL ret :: ws')
    (body : ∀ p e s m args below meth c s₁, BodyLoose p l y (headSpec ws rm) cc maxL ret e s m args below meth c s₁ → c.maxLocals = maxL → (∀ x ∈ c.exceptionTable.toList, False) → Pc args s →
      W p l e (headSpec ws rm).room s m args below meth c s.heap [] 0 0 (vx_MQ below Qc XC args s mc ms free) (entryFrame m args maxL)) : vx_Met l y ws rm Pc Qc XC mc ms free := by
  refine MetFree.of_bodyS (code := cc) (maxLocals := maxL) (ret := ret) hy ?_ ?_
  · intro args s m h hn
    obtain ⟨meth, c, h1, h2, h3, h4, h5, h6, -, -⟩ := Cond.code_spec hn (atoms_spec (ws := ws) h _ (by rw [hw]; exact List.mem_cons_self))
    exact ⟨meth, c, h1, h2, h3, h4, h5, h6⟩
  · intro p e s m args below meth c s₁ B hml hP _
    have hh0 : s₁.heap = s.heap := by rw [B.state]; rfl
    have ht : ∀ x ∈ c.exceptionTable.toList, False := by
      obtain ⟨meth9, c9, h1, h2, -, -, -, -, h7, -⟩ := Cond.code_spec B.named (atoms_spec (ws := ws) B.pre _ (by rw [hw]; exact List.mem_cons_self))
      cases Option.some.inj (h1.symm.trans B.method)
      cases Option.some.inj (h2.symm.trans (Stand.of_body B).code)
      intro x hx
      rw [Array.isEmpty_iff.mp h7] at hx
      cases hx
    obtain ⟨t, a1, o, b1, b2, b3⟩ := body p e s m args below meth c s₁ B hml ht hP s₁ hh0 (Stand.of_body B)
    exact ⟨t, o, a1, b1, b2, b3⟩
/-- the table of a body with handlers -/
theorem vx_table {p : Program} {x y : MethodName} {S : Spec} {cc bytes : ByteArray} {maxL maxL' : Nat} {ret ret' : Option FieldType} {e : Env} {s s₁ : State} {m : MethodId} {args : Array Value} {below : List Frame} {meth : Method} {c : Code} {hh : List (Nat × Nat × Nat × Nat)}
    (B : BodyLoose p l y S cc maxL ret e s m args below meth c s₁) (h : (Cond.codeWith y bytes maxL' ret' hh).before args s = true) : c.exceptionTable.toList = tableOf hh := by
  obtain ⟨m9, meth9, c9, hn9, h1, h2, -, -, h6, -⟩ := Cond.codeWith_spec h
  cases Option.some.inj (hn9.symm.trans B.named)
  cases Option.some.inj (h1.symm.trans B.method)
  cases Option.some.inj (h2.symm.trans (Stand.of_body B).code)
  rw [← h6, table_eq]
end Bodies
end VXA
/-! ===== END ===== -/
/-! ===== BEGIN a static call of a method with an exception table ===== -/
section VXS
variable {p : Program} {l : Launch} {e : Env} {R : Room} {s : State} {m : MethodId} {args : Array Value} {below : List Frame} {meth : Method} {c : Code} {T : State} {H : Heap} {locs : List Loc} {cells slots : Nat}
abbrev vx_CSW (R : Room) (s : State) (args : Array Value) (own : String) (index : Nat) (y : MethodName) (bytes : ByteArray) (maxL : Nat) (ret : Option FieldType) (hh : List (Nat × Nat × Nat × Nat)) (ws : List Cond) (rm : Room) (mc ms n : Nat) : Prop :=
  (rm.cells = mc ∧ rm.slots = ms ∧ rm.frames + 1 ≤ R.frames ∧ 8 + (maxL + 11) + rm.locals ≤ R.locals ∧ (∀ w ∈ ws, ∀ (a' : Array Value) (U : State), s.WarmedH U.vm → w.before a' U = true) ∧ Cond.codeWith y bytes maxL ret hh ∈ ws) ∧
  (Cond.codeWith y bytes maxL ret hh).before args s = true ∧ (Cond.initialized y.cls).before args s = true ∧ (y.cls ≠ "java/lang/invoke/MethodHandle" ∧ y.cls ≠ "java/lang/invoke/VarHandle") ∧
  (∀ sig, parseMethodDescriptor y.desc = some sig → n = sig.parameters.length) ∧ (Cond.methodLink own index y).before args s = true ∧ (Cond.static y).before args s = true
theorem vx_cwSW {own : String} {index maxL mc ms : Nat} {y : MethodName} {bytes : ByteArray} {ret : Option FieldType} {hh : List (Nat × Nat × Nat × Nat)} {Ts ws ws' : List Cond} {rm : Room} (n : Nat) (ht : ∀ w ∈ Ts, w.before args s = true) (hT : GoodIn Ts (va_wsS own index y ws)) (hw : ws = Cond.codeWith y bytes maxL ret hh :: ws') (hrc : rm.cells = mc) (hrs : rm.slots = ms)
    (hd : y.cls ≠ "java/lang/invoke/MethodHandle" ∧ y.cls ≠ "java/lang/invoke/VarHandle" ∧ (parseMethodDescriptor y.desc).map (fun d => d.parameters.length) = some n) (hR : rm.frames + 1 ≤ R.frames ∧ 8 + (maxL + 11) + rm.locals ≤ R.locals) :
    vx_CSW R s args own index y bytes maxL ret hh ws rm mc ms n := by
  have ok : ∀ w ∈ va_wsS own index y ws, w.before args s = true := fun w h => ht w (hT w h).1
  have hG : GoodIn Ts ws := fun w h => hT w (by unfold va_wsS; exact List.mem_append_right _ h)
  have hc : Cond.codeWith y bytes maxL ret hh ∈ ws := by rw [hw]; exact List.mem_cons_self
  refine ⟨⟨hrc, hrs, hR.1, hR.2, pay_in ht hG, hc⟩, ht _ (hG _ hc).1, ok _ (by simp [va_wsS]), ⟨hd.1, hd.2.1⟩, fun sig h => ?_, ok _ (by simp [va_wsS]), ok _ (by simp [va_wsS])⟩
  have h2 := hd.2.2
  rw [h] at h2
  exact (Option.some.inj h2).symm
theorem vx_callSW (X : Stand p l e R s m args below meth c T locs cells slots) (hexec : p.tables.exec = Jvm.exec) {own : String} {index : Nat} {y : MethodName} {bytes : ByteArray} {maxL : Nat} {ret : Option FieldType} {hh : List (Nat × Nat × Nat × Nat)}
    (hown : s.vm.findClass own = some m.cls) (hlink : (Cond.methodLink own index y).before args s = true) (hstat : (Cond.static y).before args s = true) (hinit : (Cond.initialized y.cls).before args s = true)
    (hcode : (Cond.codeWith y bytes maxL ret hh).before args s = true) (hy : y.cls ≠ "java/lang/invoke/MethodHandle" ∧ y.cls ≠ "java/lang/invoke/VarHandle")
    {W9 : Nat} {Pre : Pt → Array Value → Prop} {Post : Pt → Array Value → Option Value → Pt → Prop} (hK : Back l R p e below s args y 3 W9 Pre Post)
    {g : JFrame} (hg : g.method = m) (hsize : g.locals.size = c.maxLocals) {argsL rest : List Value} (hlen : ∀ sig, parseMethodDescriptor y.desc = some sig → argsL.length = sig.parameters.length)
    (hstack : g.stack = argsL.reverse ++ rest) (hW : 2 * g.monitorRoom + (rest.map fun v => v.category).sum ≤ W9) (hdg : decode c.code g.pc = .ok (.invokestatic index, 3))
    (hpre : ∀ vm₁, s.WarmedH vm₁ → Pre ⟨T.setVm vm₁, locs, cells, slots⟩ argsL.toArray) :
    ∃ (v : Option Value) (vm₁ : Vm) (B : Pt), s.WarmedH vm₁ ∧ Stand p l e R s m args below meth c B.U B.locs B.cells B.slots ∧ Post ⟨T.setVm vm₁, locs, cells, slots⟩ argsL.toArray v B ∧
      ∀ target, Steps p.tables e below (B.U.setTop { g with pc := g.pc + 3, stack := v.toList ++ rest }) target → Steps p.tables e below (T.setTop g) target := by
  obtain ⟨mk, methM, cM, hnamed, hmethM, -, -, -, -, -, -, hsigM⟩ := Cond.codeWith_spec hcode
  have hstatic : methM.isStatic = true := Cond.static_spec hnamed hmethM hstat
  obtain ⟨kP, hkP, -⟩ := className_of_methodNamed hnamed
  have hinitP : kP.init = .initialized := Cond.initialized_spec (findClass_of_methodNamed hnamed) hkP hinit
  obtain ⟨vm₁, X₁, hstep₁⟩ := X.invokestatic hexec hown hlink hnamed hmethM hstatic hkP hinitP hy (g := g) hg (argsL := argsL) (rest := rest) (hlen _ hsigM) hstack hdg
  obtain ⟨v, B, X', hpost, hsteps⟩ := hK m meth c ⟨T.setVm vm₁, locs, cells, slots⟩ { g with stack := rest } (.invokestatic index) mk argsL.toArray X₁ hg hsize hdg hW (X₁.named hnamed) (hpre vm₁ X₁.warmed)
  exact ⟨v, vm₁, B, X₁.warmed, X', hpost, fun target h => hstep₁ _ fun acts => by rw [doInvoke_state]; exact hsteps.trans h⟩
theorem vx_runSW {y : MethodName} {bytes cc : ByteArray} {maxL nL mc ms n index : Nat} {ret : Option FieldType} {hh : List (Nat × Nat × Nat × Nat)} {ws : List Cond} {rm : Room} {Pc : Array Value → State → Prop} {Qc : Array Value → State → Outcome → State → Prop} {free : Addr → Prop} {Ts : List Cond} {own : String} {As rest : List Value} {g : JFrame}
    (S : CallFix p m c cc nL s args Ts own) (hM : Met l y ws rm Pc Qc mc ms free) (cw : vx_CSW R s args own index y bytes maxL ret hh ws rm mc ms n) (hp : PreS s H Pc As)
    (hg : g.method = m) (hn : As.length = n) (hsize : g.locals.size = nL) (hstack : g.stack = As.reverse ++ rest) (hW : 2 * g.monitorRoom + (rest.map fun v => v.category).sum ≤ 8) (hdg : decode cc g.pc = .ok (.invokestatic index, 3)) (hf : cells + mc ≤ R.cells ∧ slots + ms ≤ R.slots) :
    va_Run p l e R s m args below meth c H locs cells slots mc ms g rest (Qc As.toArray) (free) := by
  obtain ⟨⟨hrc, hrs, hfr, hlo, hws, hcw⟩, hcode, hini, hy, hlen, hl, hstt⟩ := cw
  have hK : Back l R p e below s args y 3 8 (PreOf R mc ms Pc) (PostOf Qc mc ms free) := va_backW (hh := hh) (bytes := bytes) (maxL := maxL) (ret := ret) hM hp.1 hrc hrs hfr hlo hws hcw (fun a' U hW => word_at hW (Or.inl (by first | rfl | simp [Cond.onTables, Cond.keeps, Cond.steady])) hini)
  obtain ⟨hx, hb, hml, ho, -⟩ := S
  intro T hT X
  obtain ⟨v, vm₁, ⟨U', l2, c2, s2⟩, hW₁, X', ⟨g', mk, t, L, e1, e2, hq, h1, hL, h2, h3⟩, st⟩ := vx_callSW X hx (hh := hh) (bytes := bytes) (maxL := maxL) (ret := ret) ho hl hstt hini hcode hy hK hg (hsize.trans hml.symm) (argsL := As) (rest := rest) (fun sig h => hn.trans (hlen sig h)) hstack hW (by rw [hb]; exact hdg)
    (fun vm₁ hW₁ => ⟨hf.1, hf.2, hp.2 (T.setVm vm₁) hT hW₁⟩)
  dsimp only [Pt.U, Pt.locs, Pt.cells, Pt.slots] at X' e1 e2 h1 h2 h3 st
  subst h1; subst h2; subst h3
  exact ⟨v, (T.setVm vm₁).calling g' mk As.toArray, t, U', L, hT, X', hL, e1, e2, hq, st⟩
/-- not caught here, past rows that name other classes: it goes on to the caller -/
theorem vx_outP {p : Program} {l : Launch} {e : Env} {R : Room} {s : State} {m : MethodId} {args : Array Value} {below : List Frame} {meth : Method} {c : Code} {H : Heap} {locs : List Loc} {cells slots : Nat} {free : Addr → Prop} {ls : Array Slot} {rest : List Value} {Qc : Array Value → State → Outcome → State → Prop} {XC : String → State → State → Prop}
    {pc : Nat} {own E : String} {ce : Cell} {q : Addr} {mc ms : Nat} (hown : s.vm.findClass own = some m.cls) (hlocks : meth.locks = false)
    (hpass : ∀ z ∈ c.exceptionTable.toList, covers z pc = false ∨ (z.catchType ≠ 0 ∧ ∃ nm : String, (Cond.classLink own z.catchType nm).before args s = true ∧ va_Nc E nm s)) (hcell : H[q]? = some ce) (hv : ce.vm = .none) (hcl : s.vm.findClass E = some ce.cls)
    (hx : ∀ t : State, t.heap = H → s.vm.Alike t.vm → XC E s t) (hf : ∀ z ∈ locs, free z.base) (hc : cells ≤ mc) (hs : slots ≤ ms) :
    vx_W p l e R s m args below meth c H locs cells slots (vx_MQ below Qc XC args s mc ms free) (F0 m pc ls rest) q := by
  intro T hT X
  have hpl : e.platform.magicAccessors = ({} : Platform).magicAccessors := by rw [X.admits.platform]
  obtain ⟨vm', hW', X', st⟩ := X.outThrough hlocks q (g := F0 m pc ls rest) rfl rfl rfl (cell := ce) (by rw [hT]; exact hcell) (by rw [hv]; rfl)
    (by obtain ⟨k9, h9, -⟩ := Vm.findClass_spec hcl; exact ⟨k9, h9⟩) (fun z hz => by
      rcases hpass z hz with h | ⟨hz0, nm, hl1, hn1⟩
      · exact Or.inl h
      · obtain ⟨c6, hc6, hcl6⟩ := Cond.classLink_spec hown hl1 e.platform hpl
        obtain ⟨a8, b8, h1, h2, h3⟩ := hn1
        cases Option.some.inj (h1.symm.trans hcl)
        cases Option.some.inj (h2.symm.trans hc6)
        exact Or.inr ⟨hz0, _, hcl6, h3⟩)
  obtain ⟨g₀, hfr⟩ := X'.frames_eq
  have hcell9 : ((T.setVm vm').setFrames (.throwing q :: below)).heap[q]? = some ce := by
    show T.heap[q]? = some ce
    rw [hT]; exact hcell
  have hend : Ended ((T.setVm vm').setFrames (.throwing q :: below)) below (.threw q) := State.frames_setFrames _ (State.cur_lt_of_frames hfr)
  refine ⟨(T.setVm vm').setFrames (.throwing q :: below), ?_, .threw q, X'.here.running, hend, Or.inr ⟨q, rfl, E, ce, locs, hx _ hT (X'.ends _).1.alike, hcell9, hv, hcl, (X'.ends _).1, (X'.ends _).2.mono hc hs, hf⟩⟩
  rw [X.pushThrowing_eq]
  exact st
/-- a thing of a world lies in the heap -/
theorem vx_lt {D : va_G} {cl : List vw_C} {ws : va_W} {H1 : Heap} (h : va_P D cl ws H1) {k : Nat} {q : Nat × va_E} (hk : ws[k]? = some q) : q.1 < H1.size := (h k q hk).lt
end VXS
/-! ===== END ===== -/
/-! ===== BEGIN methods with a table of their own: called by a name, returning or throwing ===== -/
section VXH
/-! vx_backW, vx_callVX, vx_callSX, vx_callVW, vx_runVW, vx_runVX, vx_runSX, vx_ofWH follow the same proofs as their sisters above (Free/Laws.lean, Shelf42/LK1.lean); vx_outP calls Shelf42/NT130.lean (outThrough). -/
section
variable {l : Launch} {R : Room} {p : Program} {e : Env} {below : List Frame} {s : State} {sargs : Array Value} {y : MethodName} {len W9 : Nat}
theorem vx_backW {ws : List Cond} {rm : Room} {Pc : Array Value → State → Prop} {Qc : Array Value → State → Outcome → State → Prop} {XC : String → State → State → Prop} {mc ms : Nat} {free : Addr → Prop} {bytes : ByteArray} {maxL : Nat} {ret : Option FieldType} {hh : List (Nat × Nat × Nat × Nat)}
    (hM : vx_Met l y ws rm Pc Qc XC mc ms free) (hblind : FrameBlind Pc) (hrc : rm.cells = mc) (hrs : rm.slots = ms)
    (hframes : rm.frames + 1 ≤ R.frames) (hlocals : W9 + (maxL + 11) + rm.locals ≤ R.locals)
    (hws : ∀ w ∈ ws, ∀ a' U, s.WarmedH U.vm → w.before a' U = true) (hcode : Cond.codeWith y bytes maxL ret hh ∈ ws) (hinit : ∀ a' U, s.WarmedH U.vm → (Cond.initialized y.cls).before a' U = true) :
    vx_Back l R p e below s sargs y len W9 (PreOf R mc ms Pc) (PostOf Qc mc ms free) (vx_Post XC mc ms free) := by
  intro m meth c A g ig mk a X hg hsize hdg hW hn hp
  have h1 : (headSpec ws rm).pre.before a A.U = true := atoms_intro fun w hw => hws w hw _ _ X.warmed
  have h2 : (Cond.codeWith y bytes maxL ret hh).before a A.U = true := hws _ hcode _ _ X.warmed
  have h3 : (Cond.initialized y.cls).before a A.U = true := hinit _ _ X.warmed
  have h4 : A.cells + (headSpec ws rm).room.cells ≤ R.cells := by rw [show (headSpec ws rm).room.cells = mc from hrc]; exact hp.1
  have h5 : A.slots + (headSpec ws rm).room.slots ≤ R.slots := by rw [show (headSpec ws rm).room.slots = ms from hrs]; exact hp.2.1
  have hPc : Pc a (A.U.calling g mk a) := hblind _ _ _ _ hp.2.2
  obtain ⟨U, Ls, c0, s0⟩ := A
  dsimp only [Pt.U, Pt.locs, Pt.cells, Pt.slots] at h1 h2 h3 h4 h5 X hn hPc ⊢
  obtain ⟨m9, methY, cY, hn9, hmY, hcY, -, hlY, -⟩ := Cond.codeWith_spec h2
  cases Option.some.inj (hn9.symm.trans hn)
  obtain ⟨kY, hkY, -⟩ := className_of_methodNamed hn
  have hinitY : kY.init = .initialized := Cond.initialized_spec (findClass_of_methodNamed hn) hkY h3
  have h : At U g.method c below := by rw [hg]; exact X.here
  have hlocals9 : W9 + (maxL + 11) + (headSpec ws rm).room.locals ≤ R.locals := hlocals
  have happ : (headSpec ws rm).appliesLoose y e.platform (U.calling g mk a) = true :=
    Spec.appliesLoose_calling (g := g) h hdg hn hkY hinitY
      (X.room_calling (g := g) (R' := (headSpec ws rm).room) hsize hmY hcY hframes (by rw [hlY]; omega) h4 h5) h1
  obtain ⟨mid, hmid⟩ := h.above
  have hfr : (U.setTop g).frames = (.java g :: mid) ++ below := by rw [State.frames_setTop' g h.top, hmid]; rfl
  obtain ⟨o, s₂, hsteps, -, hend, hq⟩ := Steps.callFree hM p X.admits X.cas X.clock (acts := []) hfr happ hPc trivial
  have hq' : vx_Q Qc XC mc ms free a (U.calling g mk a) o s₂ := hq
  rw [State.frames_setTop' g h.top] at hend
  obtain ⟨g₀, hg0⟩ := Option.isSome_iff_exists.mp h.top
  obtain ⟨r, hr⟩ := State.topJava?_eq_some.mp hg0
  have hr' : (({ U with heap := s₂.heap, slotsUsed := s₂.slotsUsed } : State).setVm s₂.vm).frames = .java g₀ :: r := hr
  rcases hq' with ⟨hqc, L, hfe, hL⟩ | ⟨q, rfl, E, ce, L, hx, hce, hcv, hcl, hW₂, hsm, hL⟩
  · obtain ⟨⟨v, rfl⟩, hW₂, e2, q2, q3, q4, q5, q6⟩ := id hfe
    have e3 : s₂ = ({ (U.calling g mk a).setFrames s₂.frames with heap := s₂.heap, slotsUsed := s₂.slotsUsed } : State).setVm s₂.vm := by
      have : s₂ = ({ s₂ with vm := (U.calling g mk a).vm } : State).setVm s₂.vm := rfl
      rw [e2] at this
      exact this
    obtain ⟨c₂, i₂, len₂, hc₂, hd₂, hf₂⟩ := hend
    have hW' : U.WarmedH s₂.vm := hW₂
    have hcc : c₂ = c := by
      have h1 : s₂.code? g.method = U.code? g.method := by
        rw [State.code?_eq, State.code?_eq, hW'.alike.method?]
      exact Option.some.inj (hc₂.symm.trans (h1.trans h.code))
    subst hcc
    have hlen : len₂ = len := by rw [hdg] at hd₂; cases hd₂; rfl
    subst hlen
    have hs₂ : s₂ = (({ U with heap := s₂.heap, slotsUsed := s₂.slotsUsed } : State).setVm s₂.vm).setTop { g with pc := g.pc + len₂, stack := v.toList ++ g.stack } := by
      refine e3.trans ?_
      rw [hf₂, State.calling_eq h.top, State.setFrames_setFrames, State.setTop_of_frames _ hr', hr]
      rfl
    have hsame : U.sameButNew ({ U with heap := s₂.heap, slotsUsed := s₂.slotsUsed } : State) L mc ms := by
      refine ⟨?_, q2, q3, q4, q5, q6⟩
      obtain ⟨t, ht, -⟩ := State.frames_cons hr
      show ({ U with heap := s₂.heap, slotsUsed := s₂.slotsUsed } : State) = { U.setFrames U.frames with heap := s₂.heap, slotsUsed := s₂.slotsUsed }
      rw [State.setFrames_self ht]
    subst hg
    refine Or.inl ⟨v, ⟨(({ U with heap := s₂.heap, slotsUsed := s₂.slotsUsed } : State).setVm s₂.vm), Ls ++ L, c0 + mc, s0 + ms⟩,
      ⟨X.admits, X.cas, X.clock, X.frames, X.room, X.hears, X.method, X.code, (X.here.setHeapUsed s₂.heap s₂.slotsUsed).setVm hW'.alike, X.tail, State.WarmedH.trans X.warmed hW', X.limits, X.bytes, X.same.trans (hsame.setVm s.vm)⟩,
      ⟨g, mk, s₂, L, rfl, rfl, hqc, rfl, hL, rfl, rfl⟩, ?_⟩
    show Steps p.tables e below _ ((({ U with heap := s₂.heap, slotsUsed := s₂.slotsUsed } : State).setVm s₂.vm).setTop { g with pc := g.pc + len₂, stack := v.toList ++ g.stack })
    rw [← hs₂]
    exact hsteps
  · obtain ⟨e2, q2, q3, q4, q5, q6⟩ := id hsm
    have e3 : s₂ = ({ (U.calling g mk a).setFrames s₂.frames with heap := s₂.heap, slotsUsed := s₂.slotsUsed } : State).setVm s₂.vm := by
      have : s₂ = ({ s₂ with vm := (U.calling g mk a).vm } : State).setVm s₂.vm := rfl
      rw [e2] at this
      exact this
    have hf₂ : s₂.frames = .throwing q :: .java g :: U.frames.tail := hend
    have hW' : U.WarmedH s₂.vm := hW₂
    have hs₂ : s₂ = ((({ U with heap := s₂.heap, slotsUsed := s₂.slotsUsed } : State).setVm s₂.vm).setTop g).pushFrame (.throwing q) := by
      refine e3.trans ?_
      rw [hf₂, State.calling_eq h.top, State.setFrames_setFrames, State.pushFrame, State.frames_setTop _ hr', State.setTop_of_frames _ hr', State.setFrames_setFrames, hr]
      rfl
    have hsame : U.sameButNew ({ U with heap := s₂.heap, slotsUsed := s₂.slotsUsed } : State) L mc ms := by
      refine ⟨?_, q2, q3, q4, q5, q6⟩
      obtain ⟨t, ht, -⟩ := State.frames_cons hr
      show ({ U with heap := s₂.heap, slotsUsed := s₂.slotsUsed } : State) = { U.setFrames U.frames with heap := s₂.heap, slotsUsed := s₂.slotsUsed }
      rw [State.setFrames_self ht]
    subst hg
    refine Or.inr ⟨q, ⟨(({ U with heap := s₂.heap, slotsUsed := s₂.slotsUsed } : State).setVm s₂.vm), Ls ++ L, c0 + mc, s0 + ms⟩,
      ⟨X.admits, X.cas, X.clock, X.frames, X.room, X.hears, X.method, X.code, (X.here.setHeapUsed s₂.heap s₂.slotsUsed).setVm hW'.alike, X.tail, State.WarmedH.trans X.warmed hW', X.limits, X.bytes, X.same.trans (hsame.setVm s.vm)⟩,
      ⟨g, mk, s₂, L, E, ce, rfl, rfl, hx, hce, hcv, hcl, rfl, hL, rfl, rfl⟩, ?_⟩
    show Steps p.tables e below _ (((({ U with heap := s₂.heap, slotsUsed := s₂.slotsUsed } : State).setVm s₂.vm).setTop g).pushFrame (.throwing q))
    rw [← hs₂]
    exact hsteps
end
variable {p : Program} {l : Launch} {e : Env} {R : Room} {s : State} {m : MethodId} {args : Array Value} {below : List Frame} {meth : Method} {c : Code} {T : State} {H : Heap} {locs : List Loc} {cells slots : Nat}
theorem vx_callVX (X : Stand p l e R s m args below meth c T locs cells slots) (hexec : p.tables.exec = Jvm.exec) {own C : String} {index : Nat} {y : MethodName} {bytes : ByteArray} {maxL : Nat} {ret : Option FieldType} {hh : List (Nat × Nat × Nat × Nat)}
    (hown : s.vm.findClass own = some m.cls) (hlink : (Cond.methodLink own index y).before args s = true) (hinst : (Cond.instanceMethod y).before args s = true) (hsel : (Cond.selects C y y).before args s = true)
    (hcode : (Cond.codeWith y bytes maxL ret hh).before args s = true) (hy : y.cls ≠ "java/lang/invoke/MethodHandle" ∧ y.cls ≠ "java/lang/invoke/VarHandle")
    {W9 : Nat} {Pre : Pt → Array Value → Prop} {Post : Pt → Array Value → Option Value → Pt → Prop} {PostX : Pt → Array Value → Addr → Pt → Prop} (hK : vx_Back l R p e below s args y 3 W9 Pre Post PostX)
    {b : Addr} {cellB : Cell} (hcell : T.heap[b]? = some cellB) (hobj : cellB.vm.isStatics = false) (hcls : s.vm.findClass C = some cellB.cls)
    {g : JFrame} (hg : g.method = m) (hsize : g.locals.size = c.maxLocals) {argsL rest : List Value} (hlen : ∀ sig, parseMethodDescriptor y.desc = some sig → argsL.length = sig.parameters.length)
    (hstack : g.stack = argsL.reverse ++ .ref b :: rest) (hW : 2 * g.monitorRoom + (rest.map fun v => v.category).sum ≤ W9) (hdg : decode c.code g.pc = .ok (.invokevirtual index, 3))
    (hpre : ∀ vm₁, s.WarmedH vm₁ → Pre ⟨T.setVm vm₁, locs, cells, slots⟩ (Value.ref b :: argsL).toArray) :
    (∃ (v : Option Value) (vm₁ : Vm) (B : Pt), s.WarmedH vm₁ ∧ Stand p l e R s m args below meth c B.U B.locs B.cells B.slots ∧ Post ⟨T.setVm vm₁, locs, cells, slots⟩ (Value.ref b :: argsL).toArray v B ∧
      ∀ target, Steps p.tables e below (B.U.setTop { g with pc := g.pc + 3, stack := v.toList ++ rest }) target → Steps p.tables e below (T.setTop g) target) ∨
    (∃ (q : Addr) (vm₁ : Vm) (B : Pt), s.WarmedH vm₁ ∧ Stand p l e R s m args below meth c B.U B.locs B.cells B.slots ∧ PostX ⟨T.setVm vm₁, locs, cells, slots⟩ (Value.ref b :: argsL).toArray q B ∧
      Steps p.tables e below (T.setTop g) ((B.U.setTop { g with stack := rest }).pushFrame (.throwing q))) := by
  obtain ⟨mk, methM, hnamed, hmethM, hstM, habM⟩ := Cond.instanceMethod_spec hinst
  obtain ⟨m8, methM', cM, hn8, hmethM', -, -, -, -, -, -, hsigM⟩ := Cond.codeWith_spec hcode
  cases Option.some.inj (hn8.symm.trans hnamed)
  cases hmethM.symm.trans hmethM'
  obtain ⟨c2, r2, m2, q1, q2, q3, q4, kP, hkP, hkPi⟩ := Cond.selects_spec hsel
  cases hcls.symm.trans q1
  cases (State.methodFound?_of_named hnamed hy).symm.trans q2
  cases hnamed.symm.trans q3
  have hselP : selectMethod e.platform s.vm cellB.cls mk = .method mk := by rw [Launch.admits_selectMethod X.admits]; exact q4
  obtain ⟨vm₁, X₁, hstep₁⟩ := X.invokevirtual hexec hown hlink hnamed hmethM hstM hkP hkPi hy (a := b) (cell := cellB) hcell
    (fun z h => by rw [h] at hobj; cases hobj) hselP hmethM habM hkP hkPi (g := g) hg (argsL := argsL) (rest := rest) (hlen _ hsigM) hstack hdg
  rcases hK m meth c ⟨T.setVm vm₁, locs, cells, slots⟩ { g with stack := rest } (.invokevirtual index) mk (Value.ref b :: argsL).toArray X₁ hg hsize hdg hW (X₁.named hnamed) (hpre vm₁ X₁.warmed) with ⟨v, B, X', hpost, hsteps⟩ | ⟨q, B, X', hpost, hsteps⟩
  · exact Or.inl ⟨v, vm₁, B, X₁.warmed, X', hpost, fun target h => hstep₁ _ fun acts => by rw [doInvoke_state]; exact hsteps.trans h⟩
  · exact Or.inr ⟨q, vm₁, B, X₁.warmed, X', hpost, hstep₁ _ fun acts => by rw [doInvoke_state]; exact hsteps⟩
theorem vx_callSX (X : Stand p l e R s m args below meth c T locs cells slots) (hexec : p.tables.exec = Jvm.exec) {own : String} {index : Nat} {y : MethodName} {bytes : ByteArray} {maxL : Nat} {ret : Option FieldType} {hh : List (Nat × Nat × Nat × Nat)}
    (hown : s.vm.findClass own = some m.cls) (hlink : (Cond.methodLink own index y).before args s = true) (hstat : (Cond.static y).before args s = true) (hinit : (Cond.initialized y.cls).before args s = true)
    (hcode : (Cond.codeWith y bytes maxL ret hh).before args s = true) (hy : y.cls ≠ "java/lang/invoke/MethodHandle" ∧ y.cls ≠ "java/lang/invoke/VarHandle")
    {W9 : Nat} {Pre : Pt → Array Value → Prop} {Post : Pt → Array Value → Option Value → Pt → Prop} {PostX : Pt → Array Value → Addr → Pt → Prop} (hK : vx_Back l R p e below s args y 3 W9 Pre Post PostX)
    {g : JFrame} (hg : g.method = m) (hsize : g.locals.size = c.maxLocals) {argsL rest : List Value} (hlen : ∀ sig, parseMethodDescriptor y.desc = some sig → argsL.length = sig.parameters.length)
    (hstack : g.stack = argsL.reverse ++ rest) (hW : 2 * g.monitorRoom + (rest.map fun v => v.category).sum ≤ W9) (hdg : decode c.code g.pc = .ok (.invokestatic index, 3))
    (hpre : ∀ vm₁, s.WarmedH vm₁ → Pre ⟨T.setVm vm₁, locs, cells, slots⟩ argsL.toArray) :
    (∃ (v : Option Value) (vm₁ : Vm) (B : Pt), s.WarmedH vm₁ ∧ Stand p l e R s m args below meth c B.U B.locs B.cells B.slots ∧ Post ⟨T.setVm vm₁, locs, cells, slots⟩ argsL.toArray v B ∧
      ∀ target, Steps p.tables e below (B.U.setTop { g with pc := g.pc + 3, stack := v.toList ++ rest }) target → Steps p.tables e below (T.setTop g) target) ∨
    (∃ (q : Addr) (vm₁ : Vm) (B : Pt), s.WarmedH vm₁ ∧ Stand p l e R s m args below meth c B.U B.locs B.cells B.slots ∧ PostX ⟨T.setVm vm₁, locs, cells, slots⟩ argsL.toArray q B ∧
      Steps p.tables e below (T.setTop g) ((B.U.setTop { g with stack := rest }).pushFrame (.throwing q))) := by
  obtain ⟨mk, methM, cM, hnamed, hmethM, -, -, -, -, -, -, hsigM⟩ := Cond.codeWith_spec hcode
  have hstatic : methM.isStatic = true := Cond.static_spec hnamed hmethM hstat
  obtain ⟨kP, hkP, -⟩ := className_of_methodNamed hnamed
  have hinitP : kP.init = .initialized := Cond.initialized_spec (findClass_of_methodNamed hnamed) hkP hinit
  obtain ⟨vm₁, X₁, hstep₁⟩ := X.invokestatic hexec hown hlink hnamed hmethM hstatic hkP hinitP hy (g := g) hg (argsL := argsL) (rest := rest) (hlen _ hsigM) hstack hdg
  rcases hK m meth c ⟨T.setVm vm₁, locs, cells, slots⟩ { g with stack := rest } (.invokestatic index) mk argsL.toArray X₁ hg hsize hdg hW (X₁.named hnamed) (hpre vm₁ X₁.warmed) with ⟨v, B, X', hpost, hsteps⟩ | ⟨q, B, X', hpost, hsteps⟩
  · exact Or.inl ⟨v, vm₁, B, X₁.warmed, X', hpost, fun target h => hstep₁ _ fun acts => by rw [doInvoke_state]; exact hsteps.trans h⟩
  · exact Or.inr ⟨q, vm₁, B, X₁.warmed, X', hpost, hstep₁ _ fun acts => by rw [doInvoke_state]; exact hsteps⟩
theorem vx_callVW (X : Stand p l e R s m args below meth c T locs cells slots) (hexec : p.tables.exec = Jvm.exec) {own C : String} {index : Nat} {y : MethodName} {bytes : ByteArray} {maxL : Nat} {ret : Option FieldType} {hh : List (Nat × Nat × Nat × Nat)}
    (hown : s.vm.findClass own = some m.cls) (hlink : (Cond.methodLink own index y).before args s = true) (hinst : (Cond.instanceMethod y).before args s = true) (hsel : (Cond.selects C y y).before args s = true)
    (hcode : (Cond.codeWith y bytes maxL ret hh).before args s = true) (hy : y.cls ≠ "java/lang/invoke/MethodHandle" ∧ y.cls ≠ "java/lang/invoke/VarHandle")
    {W9 : Nat} {Pre : Pt → Array Value → Prop} {Post : Pt → Array Value → Option Value → Pt → Prop} (hK : Back l R p e below s args y 3 W9 Pre Post)
    {b : Addr} {cellB : Cell} (hcell : T.heap[b]? = some cellB) (hobj : cellB.vm.isStatics = false) (hcls : s.vm.findClass C = some cellB.cls)
    {g : JFrame} (hg : g.method = m) (hsize : g.locals.size = c.maxLocals) {argsL rest : List Value} (hlen : ∀ sig, parseMethodDescriptor y.desc = some sig → argsL.length = sig.parameters.length)
    (hstack : g.stack = argsL.reverse ++ .ref b :: rest) (hW : 2 * g.monitorRoom + (rest.map fun v => v.category).sum ≤ W9) (hdg : decode c.code g.pc = .ok (.invokevirtual index, 3))
    (hpre : ∀ vm₁, s.WarmedH vm₁ → Pre ⟨T.setVm vm₁, locs, cells, slots⟩ (Value.ref b :: argsL).toArray) :
    ∃ (v : Option Value) (vm₁ : Vm) (B : Pt), s.WarmedH vm₁ ∧ Stand p l e R s m args below meth c B.U B.locs B.cells B.slots ∧ Post ⟨T.setVm vm₁, locs, cells, slots⟩ (Value.ref b :: argsL).toArray v B ∧
      ∀ target, Steps p.tables e below (B.U.setTop { g with pc := g.pc + 3, stack := v.toList ++ rest }) target → Steps p.tables e below (T.setTop g) target := by
  obtain ⟨mk, methM, hnamed, hmethM, hstM, habM⟩ := Cond.instanceMethod_spec hinst
  obtain ⟨m8, methM', cM, hn8, hmethM', -, -, -, -, -, -, hsigM⟩ := Cond.codeWith_spec hcode
  cases Option.some.inj (hn8.symm.trans hnamed)
  cases hmethM.symm.trans hmethM'
  obtain ⟨c2, r2, m2, q1, q2, q3, q4, kP, hkP, hkPi⟩ := Cond.selects_spec hsel
  cases hcls.symm.trans q1
  cases (State.methodFound?_of_named hnamed hy).symm.trans q2
  cases hnamed.symm.trans q3
  have hselP : selectMethod e.platform s.vm cellB.cls mk = .method mk := by rw [Launch.admits_selectMethod X.admits]; exact q4
  obtain ⟨vm₁, X₁, hstep₁⟩ := X.invokevirtual hexec hown hlink hnamed hmethM hstM hkP hkPi hy (a := b) (cell := cellB) hcell
    (fun z h => by rw [h] at hobj; cases hobj) hselP hmethM habM hkP hkPi (g := g) hg (argsL := argsL) (rest := rest) (hlen _ hsigM) hstack hdg
  obtain ⟨v, B, X', hpost, hsteps⟩ := hK m meth c ⟨T.setVm vm₁, locs, cells, slots⟩ { g with stack := rest } (.invokevirtual index) mk (Value.ref b :: argsL).toArray X₁ hg hsize hdg hW (X₁.named hnamed) (hpre vm₁ X₁.warmed)
  exact ⟨v, vm₁, B, X₁.warmed, X', hpost, fun target h => hstep₁ _ fun acts => by rw [doInvoke_state]; exact hsteps.trans h⟩
abbrev vx_CVW (R : Room) (s : State) (args : Array Value) (own C : String) (index : Nat) (y : MethodName) (bytes : ByteArray) (maxL : Nat) (ret : Option FieldType) (hh : List (Nat × Nat × Nat × Nat)) (ws : List Cond) (rm : Room) (mc ms n : Nat) : Prop :=
  (rm.cells = mc ∧ rm.slots = ms ∧ rm.frames + 1 ≤ R.frames ∧ 8 + (maxL + 11) + rm.locals ≤ R.locals ∧ (∀ w ∈ ws, ∀ (a' : Array Value) (U : State), s.WarmedH U.vm → w.before a' U = true) ∧ Cond.codeWith y bytes maxL ret hh ∈ ws) ∧
  (Cond.codeWith y bytes maxL ret hh).before args s = true ∧ (Cond.initialized y.cls).before args s = true ∧ (y.cls ≠ "java/lang/invoke/MethodHandle" ∧ y.cls ≠ "java/lang/invoke/VarHandle") ∧
  (∀ sig, parseMethodDescriptor y.desc = some sig → n = sig.parameters.length) ∧ (Cond.methodLink own index y).before args s = true ∧ (Cond.instanceMethod y).before args s = true ∧ (Cond.selects C y y).before args s = true
theorem vx_cwVW {own C : String} {index maxL mc ms : Nat} {y : MethodName} {bytes : ByteArray} {ret : Option FieldType} {hh : List (Nat × Nat × Nat × Nat)} {Ts ws ws' : List Cond} {rm : Room} (n : Nat) (ht : ∀ w ∈ Ts, w.before args s = true) (hT : GoodIn Ts (wsV own index C y ws)) (hw : ws = Cond.codeWith y bytes maxL ret hh :: ws') (hrc : rm.cells = mc) (hrs : rm.slots = ms)
    (hd : y.cls = C ∧ y.cls ≠ "java/lang/invoke/MethodHandle" ∧ y.cls ≠ "java/lang/invoke/VarHandle" ∧ (parseMethodDescriptor y.desc).map (fun d => d.parameters.length) = some n) (hR : rm.frames + 1 ≤ R.frames ∧ 8 + (maxL + 11) + rm.locals ≤ R.locals) :
    vx_CVW R s args own C index y bytes maxL ret hh ws rm mc ms n := by
  obtain ⟨hC, hd⟩ := hd
  subst hC
  have ok : ∀ w ∈ wsV own index y.cls y ws, w.before args s = true := fun w h => ht w (hT w h).1
  have hG : GoodIn Ts ws := fun w h => hT w (by unfold wsV; exact List.mem_append_right _ h)
  have hc : Cond.codeWith y bytes maxL ret hh ∈ ws := by rw [hw]; exact List.mem_cons_self
  refine ⟨⟨hrc, hrs, hR.1, hR.2, pay_in ht hG, hc⟩, ht _ (hG _ hc).1, ok _ (by simp [wsV]), ⟨hd.1, hd.2.1⟩, fun sig h => ?_, ok _ (by simp [wsV]), ok _ (by simp [wsV]), ok _ (by simp [wsV])⟩
  have h2 := hd.2.2
  rw [h] at h2
  exact (Option.some.inj h2).symm
theorem vx_runVW {y : MethodName} {bytes cc : ByteArray} {maxL nL mc ms n index : Nat} {ret : Option FieldType} {hh : List (Nat × Nat × Nat × Nat)} {ws : List Cond} {rm : Room} {Pc : Array Value → State → Prop} {Qc : Array Value → State → Outcome → State → Prop} {free : Addr → Prop} {Ts : List Cond} {own C : String} {b : Addr} {As rest : List Value} {g : JFrame}
    (S : CallFix p m c cc nL s args Ts own) (hM : Met l y ws rm Pc Qc mc ms free) (cw : vx_CVW R s args own C index y bytes maxL ret hh ws rm mc ms n) (hp : PreV s H C b Pc As)
    (hg : g.method = m) (hn : As.length = n) (hsize : g.locals.size = nL) (hstack : g.stack = As.reverse ++ .ref b :: rest) (hW : 2 * g.monitorRoom + (rest.map fun v => v.category).sum ≤ 8) (hdg : decode cc g.pc = .ok (.invokevirtual index, 3)) (hf : cells + mc ≤ R.cells ∧ slots + ms ≤ R.slots) :
    va_Run p l e R s m args below meth c H locs cells slots mc ms g rest (Qc (Value.ref b :: As).toArray) free := by
  obtain ⟨⟨hrc, hrs, hfr, hlo, hws, hcw⟩, hcode, hini, hy, hlen, hl, hin, hse⟩ := cw
  have hK : Back l R p e below s args y 3 8 (PreOf R mc ms Pc) (PostOf Qc mc ms free) := va_backW (hh := hh) (bytes := bytes) (maxL := maxL) (ret := ret) hM hp.1 hrc hrs hfr hlo hws hcw (fun a' U hW => word_at hW (Or.inl (by first | rfl | simp [Cond.onTables, Cond.keeps, Cond.steady])) hini)
  obtain ⟨hx, hb, hml, ho, -⟩ := S
  obtain ⟨-, ⟨cellB, hcB, hoB, hclB⟩, hPc⟩ := hp
  intro T hT X
  obtain ⟨v, vm₁, ⟨U', l2, c2, s2⟩, hW₁, X', ⟨g', mk, t, L, e1, e2, hq, h1, hL, h2, h3⟩, st⟩ := vx_callVW X hx (C := C) (hh := hh) (bytes := bytes) (maxL := maxL) (ret := ret) ho hl hin hse hcode hy hK (by rw [hT]; exact hcB) hoB hclB hg (hsize.trans hml.symm) (argsL := As) (rest := rest) (fun sig h => hn.trans (hlen sig h)) hstack hW (by rw [hb]; exact hdg)
    (fun vm₁ hW₁ => ⟨hf.1, hf.2, hPc (T.setVm vm₁) hT hW₁⟩)
  dsimp only [Pt.U, Pt.locs, Pt.cells, Pt.slots] at X' e1 e2 h1 h2 h3 st
  subst h1; subst h2; subst h3
  exact ⟨v, (T.setVm vm₁).calling g' mk (Value.ref b :: As).toArray, t, U', L, hT, X', hL, e1, e2, hq, st⟩
section
variable {y : MethodName} {bytes cc : ByteArray} {maxL nL mc ms n index : Nat} {ret : Option FieldType} {ws : List Cond} {rm : Room} {Pc : Array Value → State → Prop} {Qc : Array Value → State → Outcome → State → Prop} {XC : String → State → State → Prop} {free : Addr → Prop} {Ts : List Cond} {own C : String} {b : Addr} {As rest : List Value} {g : JFrame}
theorem vx_runVX {hh : List (Nat × Nat × Nat × Nat)} (S : CallFix p m c cc nL s args Ts own) (hM : vx_Met l y ws rm Pc Qc XC mc ms free) (cw : vx_CVW R s args own C index y bytes maxL ret hh ws rm mc ms n) (hp : PreV s H C b Pc As)
    (hg : g.method = m) (hn : As.length = n) (hsize : g.locals.size = nL) (hstack : g.stack = As.reverse ++ .ref b :: rest) (hW : 2 * g.monitorRoom + (rest.map fun v => v.category).sum ≤ 8) (hdg : decode cc g.pc = .ok (.invokevirtual index, 3)) (hf : cells + mc ≤ R.cells ∧ slots + ms ≤ R.slots) :
    vx_Run p l e R s m args below meth c H locs cells slots mc ms g rest (Qc (Value.ref b :: As).toArray) XC free := by
  obtain ⟨⟨hrc, hrs, hfr, hlo, hws, hcw⟩, hcode, hini, hy, hlen, hl, hin, hse⟩ := cw
  have hK : vx_Back l R p e below s args y 3 8 (PreOf R mc ms Pc) (PostOf Qc mc ms free) (vx_Post XC mc ms free) := vx_backW (hh := hh) (bytes := bytes) (maxL := maxL) (ret := ret) hM hp.1 hrc hrs hfr hlo hws hcw (fun a' U hW => word_at hW (Or.inl (by first | rfl | simp [Cond.onTables, Cond.keeps, Cond.steady])) hini)
  obtain ⟨hx, hb, hml, ho, -⟩ := S
  obtain ⟨-, ⟨cellB, hcB, hoB, hclB⟩, hPc⟩ := hp
  intro T hT X
  rcases vx_callVX X hx (C := C) (hh := hh) (bytes := bytes) (maxL := maxL) (ret := ret) ho hl hin hse hcode hy hK (by rw [hT]; exact hcB) hoB hclB hg (hsize.trans hml.symm) (argsL := As) (rest := rest) (fun sig h => hn.trans (hlen sig h)) hstack hW (by rw [hb]; exact hdg)
    (fun vm₁ hW₁ => ⟨hf.1, hf.2, hPc (T.setVm vm₁) hT hW₁⟩) with ⟨v, vm₁, ⟨U', l2, c2, s2⟩, hW₁, X', ⟨g', mk, t, L, e1, e2, hq, h1, hL, h2, h3⟩, st⟩ | ⟨q, vm₁, ⟨U', l2, c2, s2⟩, hW₁, X', ⟨g', mk, t, L, E, ce, e1, e2, hq, hce, hcv, hcl, h1, hL, h2, h3⟩, st⟩
  · dsimp only [Pt.U, Pt.locs, Pt.cells, Pt.slots] at X' e1 e2 h1 h2 h3 st
    subst h1; subst h2; subst h3
    exact Or.inl ⟨v, (T.setVm vm₁).calling g' mk (Value.ref b :: As).toArray, t, U', L, hT, X', hL, e1, e2, hq, st⟩
  · dsimp only [Pt.U, Pt.locs, Pt.cells, Pt.slots] at X' e1 e2 h1 h2 h3 st hcl
    subst h1; subst h2; subst h3
    exact Or.inr ⟨q, (T.setVm vm₁).calling g' mk (Value.ref b :: As).toArray, t, U', L, E, ce, hT, X', hL, e1, e2, hq, hce, hcv, vx_cls hW₁ hcl, st⟩
theorem vx_runSX {hh : List (Nat × Nat × Nat × Nat)} (S : CallFix p m c cc nL s args Ts own) (hM : vx_Met l y ws rm Pc Qc XC mc ms free) (cw : vx_CSW R s args own index y bytes maxL ret hh ws rm mc ms n) (hp : PreS s H Pc As)
    (hg : g.method = m) (hn : As.length = n) (hsize : g.locals.size = nL) (hstack : g.stack = As.reverse ++ rest) (hW : 2 * g.monitorRoom + (rest.map fun v => v.category).sum ≤ 8) (hdg : decode cc g.pc = .ok (.invokestatic index, 3)) (hf : cells + mc ≤ R.cells ∧ slots + ms ≤ R.slots) :
    vx_Run p l e R s m args below meth c H locs cells slots mc ms g rest (Qc As.toArray) XC free := by
  obtain ⟨⟨hrc, hrs, hfr, hlo, hws, hcw⟩, hcode, hini, hy, hlen, hl, hstt⟩ := cw
  have hK : vx_Back l R p e below s args y 3 8 (PreOf R mc ms Pc) (PostOf Qc mc ms free) (vx_Post XC mc ms free) := vx_backW (hh := hh) (bytes := bytes) (maxL := maxL) (ret := ret) hM hp.1 hrc hrs hfr hlo hws hcw (fun a' U hW => word_at hW (Or.inl (by first | rfl | simp [Cond.onTables, Cond.keeps, Cond.steady])) hini)
  obtain ⟨hx, hb, hml, ho, -⟩ := S
  intro T hT X
  rcases vx_callSX X hx (hh := hh) (bytes := bytes) (maxL := maxL) (ret := ret) ho hl hstt hini hcode hy hK hg (hsize.trans hml.symm) (argsL := As) (rest := rest) (fun sig h => hn.trans (hlen sig h)) hstack hW (by rw [hb]; exact hdg)
    (fun vm₁ hW₁ => ⟨hf.1, hf.2, hp.2 (T.setVm vm₁) hT hW₁⟩) with ⟨v, vm₁, ⟨U', l2, c2, s2⟩, hW₁, X', ⟨g', mk, t, L, e1, e2, hq, h1, hL, h2, h3⟩, st⟩ | ⟨q, vm₁, ⟨U', l2, c2, s2⟩, hW₁, X', ⟨g', mk, t, L, E, ce, e1, e2, hq, hce, hcv, hcl, h1, hL, h2, h3⟩, st⟩
  · dsimp only [Pt.U, Pt.locs, Pt.cells, Pt.slots] at X' e1 e2 h1 h2 h3 st
    subst h1; subst h2; subst h3
    exact Or.inl ⟨v, (T.setVm vm₁).calling g' mk As.toArray, t, U', L, hT, X', hL, e1, e2, hq, st⟩
  · dsimp only [Pt.U, Pt.locs, Pt.cells, Pt.slots] at X' e1 e2 h1 h2 h3 st hcl
    subst h1; subst h2; subst h3
    exact Or.inr ⟨q, (T.setVm vm₁).calling g' mk As.toArray, t, U', L, E, ce, hT, X', hL, e1, e2, hq, hce, hcv, vx_cls hW₁ hcl, st⟩
end
end VXH
theorem vx_ofWH {l : Launch} {y : MethodName} {ws ws' : List Cond} {rm : Room} {Pc : Array Value → State → Prop} {Qc : Array Value → State → Outcome → State → Prop} {XC : String → State → State → Prop} {mc ms : Nat} {free : Addr → Prop} {cc : ByteArray} {maxL : Nat} {ret : Option FieldType} {hh : List (Nat × Nat × Nat × Nat)}
    (hy : plainName y.cls = true) (hw : ws = Cond.codeWith y cc maxL ret hh :: ws')
    (body : ∀ p e s m args below meth c s₁, BodyLoose p l y (headSpec ws rm) cc maxL ret e s m args below meth c s₁ → c.maxLocals = maxL → Pc args s →
      W p l e (headSpec ws rm).room s m args below meth c s.heap [] 0 0 (vx_MQ below Qc XC args s mc ms free) (entryFrame m args maxL)) : vx_Met l y ws rm Pc Qc XC mc ms free := by
  refine MetFree.of_bodyS (code := cc) (maxLocals := maxL) (ret := ret) hy ?_ ?_
  · intro args s m h hn
    obtain ⟨m9, meth, c, hn9, h1, h2, h3, h4, -, h5, h6, -⟩ := Cond.codeWith_spec (atoms_spec (ws := ws) h _ (by rw [hw]; exact List.mem_cons_self))
    cases hn.symm.trans hn9
    exact ⟨meth, c, h1, h2, h3, h4, h5, h6⟩
  · intro p e s m args below meth c s₁ B hml hP _
    have hh0 : s₁.heap = s.heap := by rw [B.state]; rfl
    obtain ⟨t, a1, o, b1, b2, b3⟩ := body p e s m args below meth c s₁ B hml hP s₁ hh0 (Stand.of_body B)
    exact ⟨t, o, a1, b1, b2, b3⟩
/-! ===== END ===== -/
end
section
/-! ===== BEGIN printed: names, fields, word lists, decode rows ===== -/
def RX0 : String := "GraveyardReader$ClusterRow"
def TX0 : u_T := fun k => match k with
  | 0 => ("GraveyardReader$ClusterRow", "row", "[I", true)
  | _ => ("GraveyardReader$ClusterRow", "size", "I", false)
def tyX0 : Nat → FieldType := fun k => match k with
  | 0 => .array .int
  | _ => .int
abbrev wsX00 : List Cond := u_ws RX0 TX0 2
theorem nmX0 : ∀ a, a < 2 → ∀ b, b < 2 → a ≠ b → (TX0 a).2.1 ≠ (TX0 b).2.1 := by decide +kernel
theorem tyX0_ok : ∀ k, k < 2 → parseFieldDescriptor (TX0 k).2.2.1 = some (tyX0 k) := by decide +kernel
abbrev cX0_init : ByteArray := prog_2_method_1_code
def yX0_init : MethodName := ⟨RX0, "<init>", "()V"⟩
abbrev cX0_clear : ByteArray := prog_2_method_2_code
def yX0_clear : MethodName := ⟨RX0, "clear", "()V"⟩
abbrev cX0_add : ByteArray := prog_2_method_3_code
def yX0_add : MethodName := ⟨RX0, "add", "(I)V"⟩
abbrev cX0_at : ByteArray := prog_2_method_4_code
def yX0_at : MethodName := ⟨RX0, "at", "(I)I"⟩
abbrev cX0_holds : ByteArray := prog_2_method_5_code
def yX0_holds : MethodName := ⟨RX0, "holds", "(I)Z"⟩
def RX1 : String := "GraveyardReader$Disk"
def TX1 : u_T := fun k => match k with
  | 0 => ("GraveyardReader$Disk", "numbers", "[I", true)
  | _ => ("GraveyardReader$Disk", "holders", "[I", true)
def tyX1 : Nat → FieldType := fun k => match k with
  | 0 => .array .int
  | _ => .array .int
abbrev wsX10 : List Cond := u_ws RX1 TX1 2
theorem nmX1 : ∀ a, a < 2 → ∀ b, b < 2 → a ≠ b → (TX1 a).2.1 ≠ (TX1 b).2.1 := by decide +kernel
theorem tyX1_ok : ∀ k, k < 2 → parseFieldDescriptor (TX1 k).2.2.1 = some (tyX1 k) := by decide +kernel
abbrev cX1_init : ByteArray := prog_3_method_1_code
def yX1_init : MethodName := ⟨RX1, "<init>", "()V"⟩
abbrev cX1_isFree : ByteArray := prog_3_method_2_code
def yX1_isFree : MethodName := ⟨RX1, "isFree", "(I)Z"⟩
abbrev cX1_holderOf : ByteArray := prog_3_method_3_code
def yX1_holderOf : MethodName := ⟨RX1, "holderOf", "(I)I"⟩
abbrev cX1_countFree : ByteArray := prog_3_method_4_code
def yX1_countFree : MethodName := ⟨RX1, "countFree", "()I"⟩
abbrev cX1_takeLowest : ByteArray := prog_3_method_5_code
def yX1_takeLowest : MethodName := ⟨RX1, "takeLowest", "(I)I"⟩
abbrev cX1_release : ByteArray := prog_3_method_6_code
def yX1_release : MethodName := ⟨RX1, "release", "(LGraveyardReader$ClusterRow;)V"⟩
abbrev cX1_read : ByteArray := prog_3_method_7_code
def yX1_read : MethodName := ⟨RX1, "read", "(II)I"⟩
abbrev cX1_readAlong : ByteArray := prog_3_method_8_code
def yX1_readAlong : MethodName := ⟨RX1, "readAlong", "(LGraveyardReader$ClusterRow;I)I"⟩
abbrev cX1_writeAlong : ByteArray := prog_3_method_9_code
def yX1_writeAlong : MethodName := ⟨RX1, "writeAlong", "(LGraveyardReader$ClusterRow;II)V"⟩
abbrev cX1_sumOf : ByteArray := prog_3_method_10_code
def yX1_sumOf : MethodName := ⟨RX1, "sumOf", "(LGraveyardReader$ClusterRow;)I"⟩
def RX2 : String := "GraveyardReader$DiskFile"
def TX2 : u_T := fun k => match k with
  | 0 => ("GraveyardReader$DiskFile", "seed", "I", true)
  | 1 => ("GraveyardReader$DiskFile", "chain", "LGraveyardReader$ClusterRow;", false)
  | 2 => ("GraveyardReader$DiskFile", "entrySum", "I", false)
  | 3 => ("GraveyardReader$DiskFile", "thrownAs", "I", false)
  | 4 => ("GraveyardReader$DiskFile", "claim", "LGraveyardReader$ClusterRow;", true)
  | _ => ("GraveyardReader$DiskFile", "trust", "I", false)
def tyX2 : Nat → FieldType := fun k => match k with
  | 0 => .int
  | 1 => .object "GraveyardReader$ClusterRow"
  | 2 => .int
  | 3 => .int
  | 4 => .object "GraveyardReader$ClusterRow"
  | _ => .int
abbrev wsX20 : List Cond := u_ws RX2 TX2 6
theorem nmX2 : ∀ a, a < 6 → ∀ b, b < 6 → a ≠ b → (TX2 a).2.1 ≠ (TX2 b).2.1 := by decide +kernel
theorem tyX2_ok : ∀ k, k < 6 → parseFieldDescriptor (TX2 k).2.2.1 = some (tyX2 k) := by decide +kernel
abbrev cX2_init : ByteArray := prog_4_method_1_code
def yX2_init : MethodName := ⟨RX2, "<init>", "(I)V"⟩
abbrev cX2_isThrown : ByteArray := prog_4_method_2_code
def yX2_isThrown : MethodName := ⟨RX2, "isThrown", "()Z"⟩
abbrev cX2_numberByRule : ByteArray := prog_4_method_3_code
def yX2_numberByRule : MethodName := ⟨RX2, "numberByRule", "(I)I"⟩
def RX3 : String := "GraveyardReader$JoinSearch"
def TX3 : u_T := fun k => match k with
  | 0 => ("GraveyardReader$JoinSearch", "plain", "[I", true)
  | 1 => ("GraveyardReader$JoinSearch", "weighed", "[I", true)
  | 2 => ("GraveyardReader$JoinSearch", "open", "[Z", true)
  | 3 => ("GraveyardReader$JoinSearch", "ends", "[Z", true)
  | 4 => ("GraveyardReader$JoinSearch", "found", "[I", true)
  | 5 => ("GraveyardReader$JoinSearch", "length", "I", false)
  | 6 => ("GraveyardReader$JoinSearch", "first", "I", false)
  | _ => ("GraveyardReader$JoinSearch", "wantedSum", "I", false)
def tyX3 : Nat → FieldType := fun k => match k with
  | 0 => .array .int
  | 1 => .array .int
  | 2 => .array .boolean
  | 3 => .array .boolean
  | 4 => .array .int
  | 5 => .int
  | 6 => .int
  | _ => .int
abbrev wsX30 : List Cond := u_ws RX3 TX3 8
theorem nmX3 : ∀ a, a < 8 → ∀ b, b < 8 → a ≠ b → (TX3 a).2.1 ≠ (TX3 b).2.1 := by decide +kernel
theorem tyX3_ok : ∀ k, k < 8 → parseFieldDescriptor (TX3 k).2.2.1 = some (tyX3 k) := by decide +kernel
abbrev cX3_init : ByteArray := prog_5_method_1_code
def yX3_init : MethodName := ⟨RX3, "<init>", "()V"⟩
abbrev cX3_find : ByteArray := prog_5_method_2_code
def yX3_find : MethodName := ⟨RX3, "find", "(LGraveyardReader$Disk;LGraveyardReader$DiskFile;)Z"⟩
abbrev cX3_clusterFoundAt : ByteArray := prog_5_method_3_code
def yX3_clusterFoundAt : MethodName := ⟨RX3, "clusterFoundAt", "(I)I"⟩
abbrev cX3_weigh : ByteArray := prog_5_method_4_code
def yX3_weigh : MethodName := ⟨RX3, "weigh", "(LGraveyardReader$Disk;I)V"⟩
abbrev cX3_fill : ByteArray := prog_5_method_5_code
def yX3_fill : MethodName := ⟨RX3, "fill", "(II)Z"⟩
abbrev cX3_goesOn : ByteArray := prog_5_method_6_code
def yX3_goesOn : MethodName := ⟨RX3, "goesOn", "(III)Z"⟩
def RX4 : String := "GraveyardReader"
def TX4 : u_T := fun k => match k with
  | 0 => ("GraveyardReader", "disk", "LGraveyardReader$Disk;", true)
  | 1 => ("GraveyardReader", "made", "Ljava/util/ArrayList;", true)
  | 2 => ("GraveyardReader", "joins", "LGraveyardReader$JoinSearch;", true)
  | 3 => ("GraveyardReader", "spareChain", "LGraveyardReader$ClusterRow;", false)
  | _ => ("GraveyardReader", "thrownCount", "I", false)
def tyX4 : Nat → FieldType := fun k => match k with
  | 0 => .object "GraveyardReader$Disk"
  | 1 => .object "java/util/ArrayList"
  | 2 => .object "GraveyardReader$JoinSearch"
  | 3 => .object "GraveyardReader$ClusterRow"
  | _ => .int
abbrev wsX40 : List Cond := u_ws RX4 TX4 5
theorem nmX4 : ∀ a, a < 5 → ∀ b, b < 5 → a ≠ b → (TX4 a).2.1 ≠ (TX4 b).2.1 := by decide +kernel
theorem tyX4_ok : ∀ k, k < 5 → parseFieldDescriptor (TX4 k).2.2.1 = some (tyX4 k) := by decide +kernel
abbrev cX4_init : ByteArray := prog_1_method_1_code
def yX4_init : MethodName := ⟨RX4, "<init>", "()V"⟩
abbrev cX4_make : ByteArray := prog_1_method_2_code
def yX4_make : MethodName := ⟨RX4, "make", "(II)I"⟩
abbrev cX4_grow : ByteArray := prog_1_method_3_code
def yX4_grow : MethodName := ⟨RX4, "grow", "(I)I"⟩
abbrev cX4_move : ByteArray := prog_1_method_4_code
def yX4_move : MethodName := ⟨RX4, "move", "(I)I"⟩
abbrev cX4_throwAway : ByteArray := prog_1_method_5_code
def yX4_throwAway : MethodName := ⟨RX4, "throwAway", "(I)I"⟩
abbrev cX4_files : ByteArray := prog_1_method_6_code
def yX4_files : MethodName := ⟨RX4, "files", "()I"⟩
abbrev cX4_free : ByteArray := prog_1_method_7_code
def yX4_free : MethodName := ⟨RX4, "free", "()I"⟩
abbrev cX4_number : ByteArray := prog_1_method_8_code
def yX4_number : MethodName := ⟨RX4, "number", "(II)I"⟩
abbrev cX4_fileOf : ByteArray := prog_1_method_9_code
def yX4_fileOf : MethodName := ⟨RX4, "fileOf", "(I)I"⟩
abbrev cX4_clusters : ByteArray := prog_1_method_10_code
def yX4_clusters : MethodName := ⟨RX4, "clusters", "(I)I"⟩
abbrev cX4_clusterAt : ByteArray := prog_1_method_11_code
def yX4_clusterAt : MethodName := ⟨RX4, "clusterAt", "(II)I"⟩
abbrev cX4_checksum : ByteArray := prog_1_method_12_code
def yX4_checksum : MethodName := ⟨RX4, "checksum", "(I)I"⟩
abbrev cX4_claimed : ByteArray := prog_1_method_13_code
def yX4_claimed : MethodName := ⟨RX4, "claimed", "(I)I"⟩
abbrev cX4_claimAt : ByteArray := prog_1_method_14_code
def yX4_claimAt : MethodName := ⟨RX4, "claimAt", "(II)I"⟩
abbrev cX4_confidence : ByteArray := prog_1_method_15_code
def yX4_confidence : MethodName := ⟨RX4, "confidence", "(I)I"⟩
abbrev cX4_ownerOf : ByteArray := prog_1_method_16_code
def yX4_ownerOf : MethodName := ⟨RX4, "ownerOf", "(I)I"⟩
abbrev cX4_owned : ByteArray := prog_1_method_17_code
def yX4_owned : MethodName := ⟨RX4, "owned", "(I)I"⟩
abbrev cX4_sure : ByteArray := prog_1_method_18_code
def yX4_sure : MethodName := ⟨RX4, "sure", "()I"⟩
abbrev cX4_hasJoin : ByteArray := prog_1_method_19_code
def yX4_hasJoin : MethodName := ⟨RX4, "hasJoin", "(I)Z"⟩
abbrev cX4_joinAt : ByteArray := prog_1_method_20_code
def yX4_joinAt : MethodName := ⟨RX4, "joinAt", "(II)I"⟩
abbrev cX4_knownFile : ByteArray := prog_1_method_21_code
def yX4_knownFile : MethodName := ⟨RX4, "knownFile", "(I)LGraveyardReader$DiskFile;"⟩
abbrev cX4_livingFile : ByteArray := prog_1_method_22_code
def yX4_livingFile : MethodName := ⟨RX4, "livingFile", "(I)LGraveyardReader$DiskFile;"⟩
abbrev cX4_thrownFile : ByteArray := prog_1_method_23_code
def yX4_thrownFile : MethodName := ⟨RX4, "thrownFile", "(I)LGraveyardReader$DiskFile;"⟩
abbrev cX4_requireCluster : ByteArray := prog_1_method_24_code
def yX4_requireCluster : MethodName := ⟨RX4, "requireCluster", "(I)V"⟩
abbrev cX4_requirePlaceInChain : ByteArray := prog_1_method_25_code
def yX4_requirePlaceInChain : MethodName := ⟨RX4, "requirePlaceInChain", "(LGraveyardReader$DiskFile;I)V"⟩
abbrev cX4_lastPlace : ByteArray := prog_1_method_26_code
def yX4_lastPlace : MethodName := ⟨RX4, "lastPlace", "(LGraveyardReader$DiskFile;)I"⟩
abbrev cX4_takeClusters : ByteArray := prog_1_method_27_code
def yX4_takeClusters : MethodName := ⟨RX4, "takeClusters", "(LGraveyardReader$ClusterRow;II)V"⟩
abbrev cX4_writeByRule : ByteArray := prog_1_method_28_code
def yX4_writeByRule : MethodName := ⟨RX4, "writeByRule", "(LGraveyardReader$DiskFile;I)V"⟩
abbrev cX4_readClaims : ByteArray := prog_1_method_29_code
def yX4_readClaims : MethodName := ⟨RX4, "readClaims", "()V"⟩
abbrev cX4_readClaim : ByteArray := prog_1_method_30_code
def yX4_readClaim : MethodName := ⟨RX4, "readClaim", "(LGraveyardReader$DiskFile;)V"⟩
abbrev cX4_trustIn : ByteArray := prog_1_method_31_code
def yX4_trustIn : MethodName := ⟨RX4, "trustIn", "(LGraveyardReader$DiskFile;)I"⟩
abbrev cX4_strongestClaimant : ByteArray := prog_1_method_32_code
def yX4_strongestClaimant : MethodName := ⟨RX4, "strongestClaimant", "(I)I"⟩
def RX5 : String := "GraveyardReaderModel"
def TX5 : u_T := fun k => match k with
  | 0 => ("GraveyardReaderModel", "numbers", "[I", true)
  | 1 => ("GraveyardReaderModel", "owner", "[I", true)
  | 2 => ("GraveyardReaderModel", "files", "I", false)
  | 3 => ("GraveyardReaderModel", "seed", "[I", true)
  | 4 => ("GraveyardReaderModel", "many", "[I", true)
  | 5 => ("GraveyardReaderModel", "gone", "[I", true)
  | 6 => ("GraveyardReaderModel", "first", "[I", true)
  | 7 => ("GraveyardReaderModel", "sum", "[I", true)
  | 8 => ("GraveyardReaderModel", "chain", "[I", true)
  | 9 => ("GraveyardReaderModel", "throwings", "I", false)
  | 10 => ("GraveyardReaderModel", "claim", "[I", true)
  | 11 => ("GraveyardReaderModel", "join", "[I", true)
  | _ => ("GraveyardReaderModel", "thrown", "I", false)
def tyX5 : Nat → FieldType := fun k => match k with
  | 0 => .array .int
  | 1 => .array .int
  | 2 => .int
  | 3 => .array .int
  | 4 => .array .int
  | 5 => .array .int
  | 6 => .array .int
  | 7 => .array .int
  | 8 => .array .int
  | 9 => .int
  | 10 => .array .int
  | 11 => .array .int
  | _ => .int
abbrev wsX50 : List Cond := u_ws RX5 TX5 13
theorem nmX5 : ∀ a, a < 13 → ∀ b, b < 13 → a ≠ b → (TX5 a).2.1 ≠ (TX5 b).2.1 := by decide +kernel
theorem tyX5_ok : ∀ k, k < 13 → parseFieldDescriptor (TX5 k).2.2.1 = some (tyX5 k) := by decide +kernel
abbrev cX5_init : ByteArray := prog_7_method_1_code
def yX5_init : MethodName := ⟨RX5, "<init>", "()V"⟩
abbrev cX5_thrown : ByteArray := prog_7_method_2_code
def yX5_thrown : MethodName := ⟨RX5, "thrown", "()I"⟩
abbrev cX5_in : ByteArray := prog_7_method_3_code
def yX5_in : MethodName := ⟨RX5, "in", "(III)Z"⟩
abbrev cX5_goes : ByteArray := prog_7_method_4_code
def yX5_goes : MethodName := ⟨RX5, "goes", "(ZZZ)Z"⟩
abbrev cX5_told : ByteArray := prog_7_method_5_code
def yX5_told : MethodName := ⟨RX5, "told", "(I)I"⟩
abbrev cX5_isFile : ByteArray := prog_7_method_6_code
def yX5_isFile : MethodName := ⟨RX5, "isFile", "(I)Z"⟩
abbrev cX5_isCluster : ByteArray := prog_7_method_7_code
def yX5_isCluster : MethodName := ⟨RX5, "isCluster", "(I)Z"⟩
abbrev cX5_isGone : ByteArray := prog_7_method_8_code
def yX5_isGone : MethodName := ⟨RX5, "isGone", "(I)Z"⟩
abbrev cX5_frees : ByteArray := prog_7_method_9_code
def yX5_frees : MethodName := ⟨RX5, "frees", "()I"⟩
abbrev cX5_takes : ByteArray := prog_7_method_10_code
def yX5_takes : MethodName := ⟨RX5, "takes", "(I)I"⟩
abbrev cX5_byRule : ByteArray := prog_7_method_11_code
def yX5_byRule : MethodName := ⟨RX5, "byRule", "(II)I"⟩
abbrev cX5_place : ByteArray := prog_7_method_12_code
def yX5_place : MethodName := ⟨RX5, "place", "(II)I"⟩
abbrev cX5_make : ByteArray := prog_7_method_13_code
def yX5_make : MethodName := ⟨RX5, "make", "(II)I"⟩
abbrev cX5_grow : ByteArray := prog_7_method_14_code
def yX5_grow : MethodName := ⟨RX5, "grow", "(I)I"⟩
abbrev cX5_move : ByteArray := prog_7_method_15_code
def yX5_move : MethodName := ⟨RX5, "move", "(I)I"⟩
abbrev cX5_checksumOf : ByteArray := prog_7_method_16_code
def yX5_checksumOf : MethodName := ⟨RX5, "checksumOf", "(I)I"⟩
abbrev cX5_throwAway : ByteArray := prog_7_method_17_code
def yX5_throwAway : MethodName := ⟨RX5, "throwAway", "(I)I"⟩
abbrev cX5_files : ByteArray := prog_7_method_18_code
def yX5_files : MethodName := ⟨RX5, "files", "()I"⟩
abbrev cX5_free : ByteArray := prog_7_method_19_code
def yX5_free : MethodName := ⟨RX5, "free", "()I"⟩
abbrev cX5_number : ByteArray := prog_7_method_20_code
def yX5_number : MethodName := ⟨RX5, "number", "(II)I"⟩
abbrev cX5_fileOf : ByteArray := prog_7_method_21_code
def yX5_fileOf : MethodName := ⟨RX5, "fileOf", "(I)I"⟩
abbrev cX5_clusters : ByteArray := prog_7_method_22_code
def yX5_clusters : MethodName := ⟨RX5, "clusters", "(I)I"⟩
abbrev cX5_clusterAt : ByteArray := prog_7_method_23_code
def yX5_clusterAt : MethodName := ⟨RX5, "clusterAt", "(II)I"⟩
abbrev cX5_checksum : ByteArray := prog_7_method_24_code
def yX5_checksum : MethodName := ⟨RX5, "checksum", "(I)I"⟩
abbrev cX5_claims : ByteArray := prog_7_method_25_code
def yX5_claims : MethodName := ⟨RX5, "claims", "(I)I"⟩
abbrev cX5_confidenceOf : ByteArray := prog_7_method_26_code
def yX5_confidenceOf : MethodName := ⟨RX5, "confidenceOf", "(I)I"⟩
abbrev cX5_claimant : ByteArray := prog_7_method_27_code
def yX5_claimant : MethodName := ⟨RX5, "claimant", "(I)I"⟩
abbrev cX5_asks : ByteArray := prog_7_method_28_code
def yX5_asks : MethodName := ⟨RX5, "asks", "(IZ)Z"⟩
abbrev cX5_asks_ : ByteArray := prog_7_method_29_code
def yX5_asks_ : MethodName := ⟨RX5, "asks", "(I)Z"⟩
abbrev cX5_claimed : ByteArray := prog_7_method_30_code
def yX5_claimed : MethodName := ⟨RX5, "claimed", "(I)I"⟩
abbrev cX5_claimAt : ByteArray := prog_7_method_31_code
def yX5_claimAt : MethodName := ⟨RX5, "claimAt", "(II)I"⟩
abbrev cX5_confidence : ByteArray := prog_7_method_32_code
def yX5_confidence : MethodName := ⟨RX5, "confidence", "(I)I"⟩
abbrev cX5_ownerOf : ByteArray := prog_7_method_33_code
def yX5_ownerOf : MethodName := ⟨RX5, "ownerOf", "(I)I"⟩
abbrev cX5_owned : ByteArray := prog_7_method_34_code
def yX5_owned : MethodName := ⟨RX5, "owned", "(I)I"⟩
abbrev cX5_sure : ByteArray := prog_7_method_35_code
def yX5_sure : MethodName := ⟨RX5, "sure", "()I"⟩
abbrev cX5_part : ByteArray := prog_7_method_36_code
def yX5_part : MethodName := ⟨RX5, "part", "(II)I"⟩
abbrev cX5_joins : ByteArray := prog_7_method_37_code
def yX5_joins : MethodName := ⟨RX5, "joins", "(I)Z"⟩
abbrev cX5_fits : ByteArray := prog_7_method_38_code
def yX5_fits : MethodName := ⟨RX5, "fits", "(I)Z"⟩
abbrev cX5_isJoin : ByteArray := prog_7_method_39_code
def yX5_isJoin : MethodName := ⟨RX5, "isJoin", "(I)Z"⟩
abbrev cX5_hasJoin : ByteArray := prog_7_method_40_code
def yX5_hasJoin : MethodName := ⟨RX5, "hasJoin", "(I)Z"⟩
abbrev cX5_joinAt : ByteArray := prog_7_method_41_code
def yX5_joinAt : MethodName := ⟨RX5, "joinAt", "(II)I"⟩
def RJx145de : String := "java/io/Serializable"
def TJx145de : u_T := fun k => match k with
  | _ => ("", "", "", false)
def tyJx145de : Nat → FieldType := fun k => match k with
  | _ => .int
abbrev wsJx145de0 : List Cond := u_ws RJx145de TJx145de 0
theorem nmJx145de : ∀ a, a < 0 → ∀ b, b < 0 → a ≠ b → (TJx145de a).2.1 ≠ (TJx145de b).2.1 := by decide +kernel
theorem tyJx145de_ok : ∀ k, k < 0 → parseFieldDescriptor (TJx145de k).2.2.1 = some (tyJx145de k) := by decide +kernel
def RJx8e188 : String := "java/lang/Cloneable"
def TJx8e188 : u_T := fun k => match k with
  | _ => ("", "", "", false)
def tyJx8e188 : Nat → FieldType := fun k => match k with
  | _ => .int
abbrev wsJx8e1880 : List Cond := u_ws RJx8e188 TJx8e188 0
theorem nmJx8e188 : ∀ a, a < 0 → ∀ b, b < 0 → a ≠ b → (TJx8e188 a).2.1 ≠ (TJx8e188 b).2.1 := by decide +kernel
theorem tyJx8e188_ok : ∀ k, k < 0 → parseFieldDescriptor (TJx8e188 k).2.2.1 = some (tyJx8e188 k) := by decide +kernel
def RJxab1ab : String := "java/lang/Iterable"
def TJxab1ab : u_T := fun k => match k with
  | _ => ("", "", "", false)
def tyJxab1ab : Nat → FieldType := fun k => match k with
  | _ => .int
abbrev wsJxab1ab0 : List Cond := u_ws RJxab1ab TJxab1ab 0
theorem nmJxab1ab : ∀ a, a < 0 → ∀ b, b < 0 → a ≠ b → (TJxab1ab a).2.1 ≠ (TJxab1ab b).2.1 := by decide +kernel
theorem tyJxab1ab_ok : ∀ k, k < 0 → parseFieldDescriptor (TJxab1ab k).2.2.1 = some (tyJxab1ab k) := by decide +kernel
def RJ9 : String := "java/lang/Math"
def TJ9 : u_T := fun k => match k with
  | _ => ("", "", "", false)
def tyJ9 : Nat → FieldType := fun k => match k with
  | _ => .int
abbrev wsJ90 : List Cond := u_ws RJ9 TJ9 0
theorem nmJ9 : ∀ a, a < 0 → ∀ b, b < 0 → a ≠ b → (TJ9 a).2.1 ≠ (TJ9 b).2.1 := by decide +kernel
theorem tyJ9_ok : ∀ k, k < 0 → parseFieldDescriptor (TJ9 k).2.2.1 = some (tyJ9 k) := by decide +kernel
abbrev cJ9_max_7cf53 : ByteArray := prog_15_method_65_code
def yJ9_max_7cf53 : MethodName := ⟨RJ9, "max", "(II)I"⟩
abbrev cJ9_min_7cf53 : ByteArray := prog_15_method_69_code
def yJ9_min_7cf53 : MethodName := ⟨RJ9, "min", "(II)I"⟩
def RJ0 : String := "java/lang/String"
def TJ0 : u_T := fun k => match k with
  | _ => ("", "", "", false)
def tyJ0 : Nat → FieldType := fun k => match k with
  | _ => .int
abbrev wsJ00 : List Cond := u_ws RJ0 TJ0 0
theorem nmJ0 : ∀ a, a < 0 → ∀ b, b < 0 → a ≠ b → (TJ0 a).2.1 ≠ (TJ0 b).2.1 := by decide +kernel
theorem tyJ0_ok : ∀ k, k < 0 → parseFieldDescriptor (TJ0 k).2.2.1 = some (tyJ0 k) := by decide +kernel
def RJ10 : String := "java/lang/System"
def TJ10 : u_T := fun k => match k with
  | _ => ("", "", "", false)
def tyJ10 : Nat → FieldType := fun k => match k with
  | _ => .int
abbrev wsJ100 : List Cond := u_ws RJ10 TJ10 0
theorem nmJ10 : ∀ a, a < 0 → ∀ b, b < 0 → a ≠ b → (TJ10 a).2.1 ≠ (TJ10 b).2.1 := by decide +kernel
theorem tyJ10_ok : ∀ k, k < 0 → parseFieldDescriptor (TJ10 k).2.2.1 = some (tyJ10 k) := by decide +kernel
def RJxa1e45 : String := "java/util/AbstractCollection"
def TJxa1e45 : u_T := fun k => match k with
  | _ => ("", "", "", false)
def tyJxa1e45 : Nat → FieldType := fun k => match k with
  | _ => .int
abbrev wsJxa1e450 : List Cond := u_ws RJxa1e45 TJxa1e45 0
theorem nmJxa1e45 : ∀ a, a < 0 → ∀ b, b < 0 → a ≠ b → (TJxa1e45 a).2.1 ≠ (TJxa1e45 b).2.1 := by decide +kernel
theorem tyJxa1e45_ok : ∀ k, k < 0 → parseFieldDescriptor (TJxa1e45 k).2.2.1 = some (tyJxa1e45 k) := by decide +kernel
abbrev cJxa1e45_init_da8c8 : ByteArray := prog_20_method_1_code
def yJxa1e45_init_da8c8 : MethodName := ⟨RJxa1e45, "<init>", "()V"⟩
def RJxc12de : String := "java/util/AbstractList"
def TJxc12de : u_T := fun k => match k with
  | _ => ("", "", "", false)
def tyJxc12de : Nat → FieldType := fun k => match k with
  | _ => .int
abbrev wsJxc12de0 : List Cond := u_ws RJxc12de TJxc12de 0
theorem nmJxc12de : ∀ a, a < 0 → ∀ b, b < 0 → a ≠ b → (TJxc12de a).2.1 ≠ (TJxc12de b).2.1 := by decide +kernel
theorem tyJxc12de_ok : ∀ k, k < 0 → parseFieldDescriptor (TJxc12de k).2.2.1 = some (tyJxc12de k) := by decide +kernel
abbrev cJxc12de_init_da8c8 : ByteArray := prog_21_method_1_code
def yJxc12de_init_da8c8 : MethodName := ⟨RJxc12de, "<init>", "()V"⟩
def RJx4a65c : String := "java/util/ArrayList"
def TJx4a65c : u_T := fun k => match k with
  | 0 => ("java/util/AbstractList", "modCount", "I", false)
  | 1 => ("java/util/ArrayList", "elementData", "[Ljava/lang/Object;", false)
  | _ => ("java/util/ArrayList", "size", "I", false)
def tyJx4a65c : Nat → FieldType := fun k => match k with
  | 0 => .int
  | 1 => .array (.object "java/lang/Object")
  | _ => .int
abbrev wsJx4a65c0 : List Cond := u_ws RJx4a65c TJx4a65c 3
theorem nmJx4a65c : ∀ a, a < 3 → ∀ b, b < 3 → a ≠ b → (TJx4a65c a).2.1 ≠ (TJx4a65c b).2.1 := by decide +kernel
theorem tyJx4a65c_ok : ∀ k, k < 3 → parseFieldDescriptor (TJx4a65c k).2.2.1 = some (tyJx4a65c k) := by decide +kernel
abbrev cJx4a65c_init_da8c8 : ByteArray := prog_22_method_2_code
def yJx4a65c_init_da8c8 : MethodName := ⟨RJx4a65c, "<init>", "()V"⟩
abbrev cJx4a65c_grow_92f84 : ByteArray := prog_22_method_6_code
def yJx4a65c_grow_92f84 : MethodName := ⟨RJx4a65c, "grow", "(I)[Ljava/lang/Object;"⟩
abbrev cJx4a65c_grow_d5877 : ByteArray := prog_22_method_7_code
def yJx4a65c_grow_d5877 : MethodName := ⟨RJx4a65c, "grow", "()[Ljava/lang/Object;"⟩
abbrev cJx4a65c_size_8abf5 : ByteArray := prog_22_method_8_code
def yJx4a65c_size_8abf5 : MethodName := ⟨RJx4a65c, "size", "()I"⟩
abbrev cJx4a65c_elementData_915e3 : ByteArray := prog_22_method_18_code
def yJx4a65c_elementData_915e3 : MethodName := ⟨RJx4a65c, "elementData", "(I)Ljava/lang/Object;"⟩
abbrev cJx4a65c_get_915e3 : ByteArray := prog_22_method_20_code
def yJx4a65c_get_915e3 : MethodName := ⟨RJx4a65c, "get", "(I)Ljava/lang/Object;"⟩
abbrev cJx4a65c_add_72be8 : ByteArray := prog_22_method_24_code
def yJx4a65c_add_72be8 : MethodName := ⟨RJx4a65c, "add", "(Ljava/lang/Object;[Ljava/lang/Object;I)V"⟩
abbrev cJx4a65c_add_9ea2d : ByteArray := prog_22_method_25_code
def yJx4a65c_add_9ea2d : MethodName := ⟨RJx4a65c, "add", "(Ljava/lang/Object;)Z"⟩
def RJ7 : String := "java/util/Arrays"
def TJ7 : u_T := fun k => match k with
  | _ => ("", "", "", false)
def tyJ7 : Nat → FieldType := fun k => match k with
  | _ => .int
abbrev wsJ70 : List Cond := u_ws RJ7 TJ7 0
theorem nmJ7 : ∀ a, a < 0 → ∀ b, b < 0 → a ≠ b → (TJ7 a).2.1 ≠ (TJ7 b).2.1 := by decide +kernel
theorem tyJ7_ok : ∀ k, k < 0 → parseFieldDescriptor (TJ7 k).2.2.1 = some (tyJ7 k) := by decide +kernel
abbrev cJ7_fill_53178 : ByteArray := prog_23_method_103_code
def yJ7_fill_53178 : MethodName := ⟨RJ7, "fill", "([II)V"⟩
abbrev cJ7_copyOf_1904c : ByteArray := prog_23_method_119_code
def yJ7_copyOf_1904c : MethodName := ⟨RJ7, "copyOf", "([Ljava/lang/Object;I)[Ljava/lang/Object;"⟩
abbrev cJ7_copyOf_6403c : ByteArray := prog_23_method_120_code
def yJ7_copyOf_6403c : MethodName := ⟨RJ7, "copyOf", "([Ljava/lang/Object;ILjava/lang/Class;)[Ljava/lang/Object;"⟩
def RJx5ef63 : String := "java/util/Collection"
def TJx5ef63 : u_T := fun k => match k with
  | _ => ("", "", "", false)
def tyJx5ef63 : Nat → FieldType := fun k => match k with
  | _ => .int
abbrev wsJx5ef630 : List Cond := u_ws RJx5ef63 TJx5ef63 0
theorem nmJx5ef63 : ∀ a, a < 0 → ∀ b, b < 0 → a ≠ b → (TJx5ef63 a).2.1 ≠ (TJx5ef63 b).2.1 := by decide +kernel
theorem tyJx5ef63_ok : ∀ k, k < 0 → parseFieldDescriptor (TJx5ef63 k).2.2.1 = some (tyJx5ef63 k) := by decide +kernel
def RJxbd725 : String := "java/util/List"
def TJxbd725 : u_T := fun k => match k with
  | _ => ("", "", "", false)
def tyJxbd725 : Nat → FieldType := fun k => match k with
  | _ => .int
abbrev wsJxbd7250 : List Cond := u_ws RJxbd725 TJxbd725 0
theorem nmJxbd725 : ∀ a, a < 0 → ∀ b, b < 0 → a ≠ b → (TJxbd725 a).2.1 ≠ (TJxbd725 b).2.1 := by decide +kernel
theorem tyJxbd725_ok : ∀ k, k < 0 → parseFieldDescriptor (TJxbd725 k).2.2.1 = some (tyJxbd725 k) := by decide +kernel
def RJ15 : String := "java/util/Objects"
def TJ15 : u_T := fun k => match k with
  | _ => ("", "", "", false)
def tyJ15 : Nat → FieldType := fun k => match k with
  | _ => .int
abbrev wsJ150 : List Cond := u_ws RJ15 TJ15 0
theorem nmJ15 : ∀ a, a < 0 → ∀ b, b < 0 → a ≠ b → (TJ15 a).2.1 ≠ (TJ15 b).2.1 := by decide +kernel
theorem tyJ15_ok : ∀ k, k < 0 → parseFieldDescriptor (TJ15 k).2.2.1 = some (tyJ15 k) := by decide +kernel
abbrev cJ15_checkIndex_7cf53 : ByteArray := prog_26_method_17_code
def yJ15_checkIndex_7cf53 : MethodName := ⟨RJ15, "checkIndex", "(II)I"⟩
def RJxf0a74 : String := "java/util/RandomAccess"
def TJxf0a74 : u_T := fun k => match k with
  | _ => ("", "", "", false)
def tyJxf0a74 : Nat → FieldType := fun k => match k with
  | _ => .int
abbrev wsJxf0a740 : List Cond := u_ws RJxf0a74 TJxf0a74 0
theorem nmJxf0a74 : ∀ a, a < 0 → ∀ b, b < 0 → a ≠ b → (TJxf0a74 a).2.1 ≠ (TJxf0a74 b).2.1 := by decide +kernel
theorem tyJxf0a74_ok : ∀ k, k < 0 → parseFieldDescriptor (TJxf0a74 k).2.2.1 = some (tyJxf0a74 k) := by decide +kernel
def RJxa66e6 : String := "java/util/SequencedCollection"
def TJxa66e6 : u_T := fun k => match k with
  | _ => ("", "", "", false)
def tyJxa66e6 : Nat → FieldType := fun k => match k with
  | _ => .int
abbrev wsJxa66e60 : List Cond := u_ws RJxa66e6 TJxa66e6 0
theorem nmJxa66e6 : ∀ a, a < 0 → ∀ b, b < 0 → a ≠ b → (TJxa66e6 a).2.1 ≠ (TJxa66e6 b).2.1 := by decide +kernel
theorem tyJxa66e6_ok : ∀ k, k < 0 → parseFieldDescriptor (TJxa66e6 k).2.2.1 = some (tyJxa66e6 k) := by decide +kernel
def RJ8 : String := "jdk/internal/util/ArraysSupport"
def TJ8 : u_T := fun k => match k with
  | _ => ("", "", "", false)
def tyJ8 : Nat → FieldType := fun k => match k with
  | _ => .int
abbrev wsJ80 : List Cond := u_ws RJ8 TJ8 0
theorem nmJ8 : ∀ a, a < 0 → ∀ b, b < 0 → a ≠ b → (TJ8 a).2.1 ≠ (TJ8 b).2.1 := by decide +kernel
theorem tyJ8_ok : ∀ k, k < 0 → parseFieldDescriptor (TJ8 k).2.2.1 = some (tyJ8 k) := by decide +kernel
abbrev cJ8_newLength_cabcc : ByteArray := prog_29_method_27_code
def yJ8_newLength_cabcc : MethodName := ⟨RJ8, "newLength", "(III)I"⟩
abbrev cJ8_hugeLength_7cf53 : ByteArray := prog_29_method_28_code
def yJ8_hugeLength_7cf53 : MethodName := ⟨RJ8, "hugeLength", "(II)I"⟩
def RJ3 : String := "jdk/internal/util/Preconditions"
def TJ3 : u_T := fun k => match k with
  | _ => ("", "", "", false)
def tyJ3 : Nat → FieldType := fun k => match k with
  | _ => .int
abbrev wsJ30 : List Cond := u_ws RJ3 TJ3 0
theorem nmJ3 : ∀ a, a < 0 → ∀ b, b < 0 → a ≠ b → (TJ3 a).2.1 ≠ (TJ3 b).2.1 := by decide +kernel
theorem tyJ3_ok : ∀ k, k < 0 → parseFieldDescriptor (TJ3 k).2.2.1 = some (tyJ3 k) := by decide +kernel
abbrev cJ3_checkIndex_8e157 : ByteArray := prog_30_method_11_code
def yJ3_checkIndex_8e157 : MethodName := ⟨RJ3, "checkIndex", "(IILjava/util/function/BiFunction;)I"⟩
def RL : String := "GraveyardReaderLaw"
abbrev cL_make : ByteArray := method_3_code
def yL_make : MethodName := ⟨RL, "make", "(LGraveyardReader;II[J)I"⟩
abbrev cL_grow : ByteArray := method_4_code
def yL_grow : MethodName := ⟨RL, "grow", "(LGraveyardReader;I[J)I"⟩
abbrev cL_move : ByteArray := method_5_code
def yL_move : MethodName := ⟨RL, "move", "(LGraveyardReader;I[J)I"⟩
abbrev cL_throwAway : ByteArray := method_6_code
def yL_throwAway : MethodName := ⟨RL, "throwAway", "(LGraveyardReader;I[J)I"⟩
abbrev cL_number : ByteArray := method_7_code
def yL_number : MethodName := ⟨RL, "number", "(LGraveyardReader;II[J)I"⟩
abbrev cL_fileOf : ByteArray := method_8_code
def yL_fileOf : MethodName := ⟨RL, "fileOf", "(LGraveyardReader;I[J)I"⟩
abbrev cL_clusters : ByteArray := method_9_code
def yL_clusters : MethodName := ⟨RL, "clusters", "(LGraveyardReader;I[J)I"⟩
abbrev cL_clusterAt : ByteArray := method_10_code
def yL_clusterAt : MethodName := ⟨RL, "clusterAt", "(LGraveyardReader;II[J)I"⟩
abbrev cL_checksum : ByteArray := method_11_code
def yL_checksum : MethodName := ⟨RL, "checksum", "(LGraveyardReader;I[J)I"⟩
abbrev cL_claimed : ByteArray := method_12_code
def yL_claimed : MethodName := ⟨RL, "claimed", "(LGraveyardReader;I[J)I"⟩
abbrev cL_claimAt : ByteArray := method_13_code
def yL_claimAt : MethodName := ⟨RL, "claimAt", "(LGraveyardReader;II[J)I"⟩
abbrev cL_confidence : ByteArray := method_14_code
def yL_confidence : MethodName := ⟨RL, "confidence", "(LGraveyardReader;I[J)I"⟩
abbrev cL_ownerOf : ByteArray := method_15_code
def yL_ownerOf : MethodName := ⟨RL, "ownerOf", "(LGraveyardReader;I[J)I"⟩
abbrev cL_owned : ByteArray := method_16_code
def yL_owned : MethodName := ⟨RL, "owned", "(LGraveyardReader;I[J)I"⟩
abbrev cL_hasJoin : ByteArray := method_17_code
def yL_hasJoin : MethodName := ⟨RL, "hasJoin", "(LGraveyardReader;I[J)I"⟩
abbrev cL_joinAt : ByteArray := method_18_code
def yL_joinAt : MethodName := ⟨RL, "joinAt", "(LGraveyardReader;II[J)I"⟩
abbrev cL_law : ByteArray := code
def yL_law : MethodName := ⟨RL, "law", "([I)Z"⟩
def wsX0_init : List Cond := .code yX0_init cX0_init 1 none :: ([.methodLink RX0 3 objectInit, .instanceMethod objectInit, .code objectInit ⟨#[0xb1]⟩ 1 none, .arrayClass .int, .fieldLink RX0 9 "GraveyardReader$ClusterRow" "row" "[I", .fieldLink RX0 15 "GraveyardReader$ClusterRow" "size" "I"] ++ wsX00)
def wsX0_clear : List Cond := .code yX0_clear cX0_clear 1 none :: ([.fieldLink RX0 15 "GraveyardReader$ClusterRow" "size" "I"] ++ wsX00)
def wsX0_add : List Cond := .code yX0_add cX0_add 2 none :: ([.fieldLink RX0 15 "GraveyardReader$ClusterRow" "size" "I", .fieldLink RX0 9 "GraveyardReader$ClusterRow" "row" "[I"] ++ wsX00)
def wsX0_at : List Cond := .code yX0_at cX0_at 2 (some .int) :: ([.fieldLink RX0 15 "GraveyardReader$ClusterRow" "size" "I", .fieldLink RX0 9 "GraveyardReader$ClusterRow" "row" "[I"] ++ wsX00)
def wsX0_holds : List Cond := .code yX0_holds cX0_holds 3 (some .boolean) :: ([.fieldLink RX0 15 "GraveyardReader$ClusterRow" "size" "I", .methodLink RX0 19 yX0_at, .instanceMethod yX0_at, .selects RX0 yX0_at yX0_at, .initialized RX0, .code yX0_at cX0_at 2 (some .int), .fieldLink RX0 9 "GraveyardReader$ClusterRow" "row" "[I"] ++ wsX00)
def wsJ7_fill_53178 : List Cond := .code yJ7_fill_53178 cJ7_fill_53178 4 none :: ([])
def wsX1_init : List Cond := .code yX1_init cX1_init 1 none :: ([.methodLink RX1 3 objectInit, .instanceMethod objectInit, .code objectInit ⟨#[0xb1]⟩ 1 none, .arrayClass .int, .fieldLink RX1 9 "GraveyardReader$Disk" "numbers" "[I", .fieldLink RX1 15 "GraveyardReader$Disk" "holders" "[I", .methodLink RX1 18 yJ7_fill_53178, .static yJ7_fill_53178, .initialized RJ7, .code yJ7_fill_53178 cJ7_fill_53178 4 none] ++ wsX10)
def wsX1_isFree : List Cond := .code yX1_isFree cX1_isFree 2 (some .boolean) :: ([.fieldLink RX1 15 "GraveyardReader$Disk" "holders" "[I"] ++ wsX10)
def wsX1_holderOf : List Cond := .code yX1_holderOf cX1_holderOf 2 (some .int) :: ([.fieldLink RX1 15 "GraveyardReader$Disk" "holders" "[I"] ++ wsX10)
def wsX1_countFree : List Cond := .code yX1_countFree cX1_countFree 3 (some .int) :: ([.fieldLink RX1 15 "GraveyardReader$Disk" "holders" "[I"] ++ wsX10)
def wsX1_takeLowest : List Cond := .code yX1_takeLowest cX1_takeLowest 3 (some .int) :: ([.fieldLink RX1 15 "GraveyardReader$Disk" "holders" "[I"] ++ wsX10)
def wsX1_release : List Cond := .code yX1_release cX1_release 4 none :: ([.fieldLink RX1 15 "GraveyardReader$Disk" "holders" "[I", .methodLink RX1 30 yX0_at, .instanceMethod yX0_at, .selects RX0 yX0_at yX0_at, .initialized RX0, .code yX0_at cX0_at 2 (some .int), .fieldLink RX0 15 "GraveyardReader$ClusterRow" "size" "I", .fieldLink RX0 9 "GraveyardReader$ClusterRow" "row" "[I"] ++ wsX00 ++ wsX10)
def wsX1_read : List Cond := .code yX1_read cX1_read 4 (some .int) :: ([.fieldLink RX1 9 "GraveyardReader$Disk" "numbers" "[I"] ++ wsX10)
def wsX1_readAlong : List Cond := .code yX1_readAlong cX1_readAlong 3 (some .int) :: ([.methodLink RX1 30 yX0_at, .instanceMethod yX0_at, .selects RX0 yX0_at yX0_at, .initialized RX0, .code yX0_at cX0_at 2 (some .int), .fieldLink RX0 15 "GraveyardReader$ClusterRow" "size" "I", .fieldLink RX0 9 "GraveyardReader$ClusterRow" "row" "[I", .methodLink RX1 34 yX1_read, .instanceMethod yX1_read, .selects RX1 yX1_read yX1_read, .initialized RX1, .code yX1_read cX1_read 4 (some .int), .fieldLink RX1 9 "GraveyardReader$Disk" "numbers" "[I"] ++ wsX00 ++ wsX10)
def wsX1_writeAlong : List Cond := .code yX1_writeAlong cX1_writeAlong 5 none :: ([.fieldLink RX1 9 "GraveyardReader$Disk" "numbers" "[I", .methodLink RX1 30 yX0_at, .instanceMethod yX0_at, .selects RX0 yX0_at yX0_at, .initialized RX0, .code yX0_at cX0_at 2 (some .int), .fieldLink RX0 15 "GraveyardReader$ClusterRow" "size" "I", .fieldLink RX0 9 "GraveyardReader$ClusterRow" "row" "[I"] ++ wsX10 ++ wsX00)
def wsX1_sumOf : List Cond := .code yX1_sumOf cX1_sumOf 4 (some .int) :: ([.methodLink RX1 38 yX1_readAlong, .instanceMethod yX1_readAlong, .selects RX1 yX1_readAlong yX1_readAlong, .initialized RX1, .code yX1_readAlong cX1_readAlong 3 (some .int), .methodLink RX1 30 yX0_at, .instanceMethod yX0_at, .selects RX0 yX0_at yX0_at, .initialized RX0, .code yX0_at cX0_at 2 (some .int), .fieldLink RX0 15 "GraveyardReader$ClusterRow" "size" "I", .fieldLink RX0 9 "GraveyardReader$ClusterRow" "row" "[I", .methodLink RX1 34 yX1_read, .instanceMethod yX1_read, .selects RX1 yX1_read yX1_read, .code yX1_read cX1_read 4 (some .int), .fieldLink RX1 9 "GraveyardReader$Disk" "numbers" "[I"] ++ wsX00 ++ wsX10)
def wsX2_init : List Cond := .code yX2_init cX2_init 2 none :: ([.methodLink RX2 3 objectInit, .instanceMethod objectInit, .code objectInit ⟨#[0xb1]⟩ 1 none, .classLink RX2 9 RX0, .instantiable RX0 2, .initialized RX0, .fieldLink RX2 12 "GraveyardReader$DiskFile" "chain" "LGraveyardReader$ClusterRow;", .fieldLink RX2 18 "GraveyardReader$DiskFile" "entrySum" "I", .fieldLink RX2 22 "GraveyardReader$DiskFile" "thrownAs" "I", .fieldLink RX2 25 "GraveyardReader$DiskFile" "claim" "LGraveyardReader$ClusterRow;", .fieldLink RX2 28 "GraveyardReader$DiskFile" "trust" "I", .fieldLink RX2 31 "GraveyardReader$DiskFile" "seed" "I", .instanceMethod yX0_init, .code yX0_init cX0_init 1 none, .methodLink RX0 3 objectInit, .arrayClass .int, .fieldLink RX0 9 "GraveyardReader$ClusterRow" "row" "[I", .fieldLink RX0 15 "GraveyardReader$ClusterRow" "size" "I"] ++ wsX00 ++ wsX20)
def wsX2_isThrown : List Cond := .code yX2_isThrown cX2_isThrown 1 (some .boolean) :: ([.fieldLink RX2 22 "GraveyardReader$DiskFile" "thrownAs" "I"] ++ wsX20)
def wsX2_numberByRule : List Cond := .code yX2_numberByRule cX2_numberByRule 2 (some .int) :: ([.fieldLink RX2 31 "GraveyardReader$DiskFile" "seed" "I"] ++ wsX20)
def wsX3_init : List Cond := .code yX3_init cX3_init 1 none :: ([.methodLink RX3 3 objectInit, .instanceMethod objectInit, .code objectInit ⟨#[0xb1]⟩ 1 none, .arrayClass .int, .fieldLink RX3 9 "GraveyardReader$JoinSearch" "plain" "[I", .fieldLink RX3 15 "GraveyardReader$JoinSearch" "weighed" "[I", .arrayClass .boolean, .fieldLink RX3 18 "GraveyardReader$JoinSearch" "open" "[Z", .fieldLink RX3 22 "GraveyardReader$JoinSearch" "ends" "[Z", .fieldLink RX3 25 "GraveyardReader$JoinSearch" "found" "[I", .fieldLink RX3 28 "GraveyardReader$JoinSearch" "length" "I", .fieldLink RX3 32 "GraveyardReader$JoinSearch" "first" "I", .fieldLink RX3 35 "GraveyardReader$JoinSearch" "wantedSum" "I"] ++ wsX30)
def wsX3_weigh : List Cond := .code yX3_weigh cX3_weigh 7 none :: ([.fieldLink RX3 9 "GraveyardReader$JoinSearch" "plain" "[I", .fieldLink RX3 15 "GraveyardReader$JoinSearch" "weighed" "[I", .fieldLink RX3 18 "GraveyardReader$JoinSearch" "open" "[Z", .fieldLink RX3 22 "GraveyardReader$JoinSearch" "ends" "[Z", .methodLink RX3 70 yX1_read, .instanceMethod yX1_read, .selects RX1 yX1_read yX1_read, .initialized RX1, .code yX1_read cX1_read 4 (some .int), .fieldLink RX1 9 "GraveyardReader$Disk" "numbers" "[I", .methodLink RX3 56 yX1_isFree, .instanceMethod yX1_isFree, .selects RX1 yX1_isFree yX1_isFree, .code yX1_isFree cX1_isFree 2 (some .boolean), .fieldLink RX1 15 "GraveyardReader$Disk" "holders" "[I"] ++ wsX30 ++ wsX10)
def wsX3_fill : List Cond := .code yX3_fill cX3_fill 6 (some .boolean) :: ([.fieldLink RX3 28 "GraveyardReader$JoinSearch" "length" "I", .fieldLink RX3 18 "GraveyardReader$JoinSearch" "open" "[Z", .fieldLink RX3 32 "GraveyardReader$JoinSearch" "first" "I", .fieldLink RX3 22 "GraveyardReader$JoinSearch" "ends" "[Z", .fieldLink RX3 25 "GraveyardReader$JoinSearch" "found" "[I", .fieldLink RX3 15 "GraveyardReader$JoinSearch" "weighed" "[I", .fieldLink RX3 9 "GraveyardReader$JoinSearch" "plain" "[I", .fieldLink RX3 35 "GraveyardReader$JoinSearch" "wantedSum" "I", .methodLink RX3 74 yX3_goesOn, .instanceMethod yX3_goesOn, .selects RX3 yX3_goesOn yX3_goesOn, .initialized RX3, .code yX3_goesOn cX3_goesOn 5 (some .boolean), .methodLink RX3 66 yX3_fill, .instanceMethod yX3_fill, .selects RX3 yX3_fill yX3_fill] ++ wsX30)
def wsX3_goesOn : List Cond := .code yX3_goesOn cX3_goesOn 5 (some .boolean) :: ([.fieldLink RX3 18 "GraveyardReader$JoinSearch" "open" "[Z", .methodLink RX3 66 yX3_fill, .instanceMethod yX3_fill, .selects RX3 yX3_fill yX3_fill, .initialized RX3, .code yX3_fill cX3_fill 6 (some .boolean), .fieldLink RX3 28 "GraveyardReader$JoinSearch" "length" "I", .fieldLink RX3 32 "GraveyardReader$JoinSearch" "first" "I", .fieldLink RX3 22 "GraveyardReader$JoinSearch" "ends" "[Z", .fieldLink RX3 25 "GraveyardReader$JoinSearch" "found" "[I", .fieldLink RX3 15 "GraveyardReader$JoinSearch" "weighed" "[I", .fieldLink RX3 9 "GraveyardReader$JoinSearch" "plain" "[I", .fieldLink RX3 35 "GraveyardReader$JoinSearch" "wantedSum" "I", .methodLink RX3 74 yX3_goesOn, .instanceMethod yX3_goesOn, .selects RX3 yX3_goesOn yX3_goesOn] ++ wsX30)
def wsX3_find_r1 : List Cond := [Cond.fieldLink RX3 28 "GraveyardReader$JoinSearch" "length" "I", Cond.fieldLink RX3 32 "GraveyardReader$JoinSearch" "first" "I", Cond.fieldLink RX3 35 "GraveyardReader$JoinSearch" "wantedSum" "I", Cond.methodLink RX3 49 yX0_at, Cond.instanceMethod yX0_at, Cond.selects RX0 yX0_at yX0_at, Cond.initialized RX0, Cond.code yX0_at cX0_at 2 (some .int), Cond.fieldLink RX0 15 "GraveyardReader$ClusterRow" "size" "I", Cond.fieldLink RX0 9 "GraveyardReader$ClusterRow" "row" "[I", Cond.methodLink RX3 56 yX1_isFree, Cond.instanceMethod yX1_isFree, Cond.selects RX1 yX1_isFree yX1_isFree, Cond.initialized RX1, Cond.code yX1_isFree cX1_isFree 2 (some .boolean), Cond.fieldLink RX1 15 "GraveyardReader$Disk" "holders" "[I", Cond.methodLink RX3 62 yX3_weigh, Cond.instanceMethod yX3_weigh, Cond.selects RX3 yX3_weigh yX3_weigh, Cond.initialized RX3, Cond.code yX3_weigh cX3_weigh 7 none, Cond.fieldLink RX3 9 "GraveyardReader$JoinSearch" "plain" "[I", Cond.fieldLink RX3 15 "GraveyardReader$JoinSearch" "weighed" "[I", Cond.fieldLink RX3 18 "GraveyardReader$JoinSearch" "open" "[Z"]
def wsX3_find_r2 : List Cond := [Cond.fieldLink RX3 22 "GraveyardReader$JoinSearch" "ends" "[Z", Cond.methodLink RX3 70 yX1_read, Cond.instanceMethod yX1_read, Cond.selects RX1 yX1_read yX1_read, Cond.code yX1_read cX1_read 4 (some .int), Cond.fieldLink RX1 9 "GraveyardReader$Disk" "numbers" "[I", Cond.methodLink RX3 66 yX3_fill, Cond.instanceMethod yX3_fill, Cond.selects RX3 yX3_fill yX3_fill, Cond.code yX3_fill cX3_fill 6 (some .boolean), Cond.fieldLink RX3 25 "GraveyardReader$JoinSearch" "found" "[I", Cond.methodLink RX3 74 yX3_goesOn, Cond.instanceMethod yX3_goesOn, Cond.selects RX3 yX3_goesOn yX3_goesOn, Cond.code yX3_goesOn cX3_goesOn 5 (some .boolean)]
def wsX3_find : List Cond := .code yX3_find cX3_find 4 (some .boolean) :: ((wsX3_find_r1 ++ wsX3_find_r2) ++ wsX20 ++ wsX00 ++ wsX30 ++ wsX10)
def wsX3_clusterFoundAt : List Cond := .code yX3_clusterFoundAt cX3_clusterFoundAt 2 (some .int) :: ([.fieldLink RX3 25 "GraveyardReader$JoinSearch" "found" "[I"] ++ wsX30)
def wsJxa1e45_init_da8c8 : List Cond := .code yJxa1e45_init_da8c8 cJxa1e45_init_da8c8 1 none :: ([.methodLink RJxa1e45 1 objectInit, .instanceMethod objectInit, .code objectInit ⟨#[0xb1]⟩ 1 none])
def wsJxc12de_init_da8c8 : List Cond := .code yJxc12de_init_da8c8 cJxc12de_init_da8c8 1 none :: ([.fieldLink RJxc12de 7 "java/util/AbstractList" "modCount" "I", .methodLink RJxc12de 1 yJxa1e45_init_da8c8, .instanceMethod yJxa1e45_init_da8c8, .initialized RJxa1e45, .code yJxa1e45_init_da8c8 cJxa1e45_init_da8c8 1 none, .methodLink RJxa1e45 1 objectInit, .instanceMethod objectInit, .code objectInit ⟨#[0xb1]⟩ 1 none] ++ wsJx4a65c0)
def wsJx4a65c_init_da8c8 : List Cond := .code yJx4a65c_init_da8c8 cJx4a65c_init_da8c8 1 none :: ([.fieldLink RJx4a65c 39 "java/util/ArrayList" "DEFAULTCAPACITY_EMPTY_ELEMENTDATA" "[Ljava/lang/Object;", .fieldLink RJx4a65c 9 "java/util/ArrayList" "elementData" "[Ljava/lang/Object;", .methodLink RJx4a65c 1 yJxc12de_init_da8c8, .instanceMethod yJxc12de_init_da8c8, .initialized RJxc12de, .code yJxc12de_init_da8c8 cJxc12de_init_da8c8 1 none, .fieldLink RJxc12de 7 "java/util/AbstractList" "modCount" "I", .methodLink RJxc12de 1 yJxa1e45_init_da8c8, .instanceMethod yJxa1e45_init_da8c8, .initialized RJxa1e45, .code yJxa1e45_init_da8c8 cJxa1e45_init_da8c8 1 none, .methodLink RJxa1e45 1 objectInit, .instanceMethod objectInit, .code objectInit ⟨#[0xb1]⟩ 1 none] ++ wsJx4a65c0)
def wsX4_init_r1 : List Cond := [Cond.methodLink RX4 1 objectInit, Cond.instanceMethod objectInit, Cond.code objectInit ⟨#[0xb1]⟩ 1 none, Cond.classLink RX4 7 RX1, Cond.instantiable RX1 2, Cond.initialized RX1, Cond.fieldLink RX4 10 "GraveyardReader" "disk" "LGraveyardReader$Disk;", Cond.classLink RX4 16 RJx4a65c, Cond.instantiable RJx4a65c 3, Cond.initialized RJx4a65c, Cond.fieldLink RX4 19 "GraveyardReader" "made" "Ljava/util/ArrayList;", Cond.classLink RX4 23 RX3, Cond.instantiable RX3 8, Cond.initialized RX3, Cond.fieldLink RX4 26 "GraveyardReader" "joins" "LGraveyardReader$JoinSearch;", Cond.classLink RX4 30 RX0, Cond.instantiable RX0 2, Cond.initialized RX0, Cond.fieldLink RX4 33 "GraveyardReader" "spareChain" "LGraveyardReader$ClusterRow;", Cond.fieldLink RX4 37 "GraveyardReader" "thrownCount" "I", Cond.methodLink RX4 9 yX1_init, Cond.instanceMethod yX1_init, Cond.code yX1_init cX1_init 1 none, Cond.methodLink RX1 3 objectInit]
def wsX4_init_r2 : List Cond := [Cond.arrayClass .int, Cond.fieldLink RX1 9 "GraveyardReader$Disk" "numbers" "[I", Cond.fieldLink RX1 15 "GraveyardReader$Disk" "holders" "[I", Cond.methodLink RX1 18 yJ7_fill_53178, Cond.static yJ7_fill_53178, Cond.initialized RJ7, Cond.code yJ7_fill_53178 cJ7_fill_53178 4 none, Cond.methodLink RX4 18 yJx4a65c_init_da8c8, Cond.instanceMethod yJx4a65c_init_da8c8, Cond.code yJx4a65c_init_da8c8 cJx4a65c_init_da8c8 1 none, Cond.fieldLink RJx4a65c 39 "java/util/ArrayList" "DEFAULTCAPACITY_EMPTY_ELEMENTDATA" "[Ljava/lang/Object;", Cond.fieldLink RJx4a65c 9 "java/util/ArrayList" "elementData" "[Ljava/lang/Object;", Cond.methodLink RJx4a65c 1 yJxc12de_init_da8c8, Cond.instanceMethod yJxc12de_init_da8c8, Cond.initialized RJxc12de, Cond.code yJxc12de_init_da8c8 cJxc12de_init_da8c8 1 none, Cond.fieldLink RJxc12de 7 "java/util/AbstractList" "modCount" "I", Cond.methodLink RJxc12de 1 yJxa1e45_init_da8c8, Cond.instanceMethod yJxa1e45_init_da8c8, Cond.initialized RJxa1e45, Cond.code yJxa1e45_init_da8c8 cJxa1e45_init_da8c8 1 none, Cond.methodLink RJxa1e45 1 objectInit, Cond.instanceMethod yX3_init, Cond.code yX3_init cX3_init 1 none]
def wsX4_init_r3 : List Cond := [Cond.methodLink RX3 3 objectInit, Cond.fieldLink RX3 9 "GraveyardReader$JoinSearch" "plain" "[I", Cond.fieldLink RX3 15 "GraveyardReader$JoinSearch" "weighed" "[I", Cond.arrayClass .boolean, Cond.fieldLink RX3 18 "GraveyardReader$JoinSearch" "open" "[Z", Cond.fieldLink RX3 22 "GraveyardReader$JoinSearch" "ends" "[Z", Cond.fieldLink RX3 25 "GraveyardReader$JoinSearch" "found" "[I", Cond.fieldLink RX3 28 "GraveyardReader$JoinSearch" "length" "I", Cond.fieldLink RX3 32 "GraveyardReader$JoinSearch" "first" "I", Cond.fieldLink RX3 35 "GraveyardReader$JoinSearch" "wantedSum" "I", Cond.instanceMethod yX0_init, Cond.code yX0_init cX0_init 1 none, Cond.methodLink RX0 3 objectInit, Cond.fieldLink RX0 9 "GraveyardReader$ClusterRow" "row" "[I", Cond.fieldLink RX0 15 "GraveyardReader$ClusterRow" "size" "I"]
def wsX4_init : List Cond := .code yX4_init cX4_init 1 none :: ((wsX4_init_r1 ++ (wsX4_init_r2 ++ wsX4_init_r3)) ++ wsX10 ++ wsX40 ++ wsJx4a65c0 ++ wsX30 ++ wsX00)
def wsJx4a65c_size_8abf5 : List Cond := .code yJx4a65c_size_8abf5 cJx4a65c_size_8abf5 1 (some .int) :: ([.fieldLink RJx4a65c 48 "java/util/ArrayList" "size" "I"] ++ wsJx4a65c0)
def wsJ8_hugeLength_7cf53 : List Cond := .code yJ8_hugeLength_7cf53 cJ8_hugeLength_7cf53 3 (some .int) :: ([.constant RJ8 200 (2147483639)])
def wsJ8_newLength_cabcc : List Cond := .code yJ8_newLength_cabcc cJ8_newLength_cabcc 4 (some .int) :: ([.methodLink RJ8 194 Lib.Math.max.name, .static Lib.Math.max.name, .initialized "java/lang/Math", .code Lib.Math.max.name Lib.Math.max.code 2 (some .int), .constant RJ8 200 (2147483639), .methodLink RJ8 201 yJ8_hugeLength_7cf53, .static yJ8_hugeLength_7cf53, .initialized RJ8, .code yJ8_hugeLength_7cf53 cJ8_hugeLength_7cf53 3 (some .int)])
def wsJ7_copyOf_6403c : List Cond := .code yJ7_copyOf_6403c cJ7_copyOf_6403c 4 (some (.array (.object "java/lang/Object"))) :: ([.classLink RJ7 110 "[Ljava/lang/Object;", .classLink RJ7 2 "java/lang/Object", .methodLink RJ7 304 Lib.Math.min.name, .static Lib.Math.min.name, .initialized "java/lang/Math", .code Lib.Math.min.name Lib.Math.min.code 2 (some .int), .methodLink RJ7 150 arraycopyName, .native arraycopyName, .static arraycopyName, .initialized "java/lang/System"])
def wsJ7_copyOf_1904c : List Cond := .code yJ7_copyOf_1904c cJ7_copyOf_1904c 2 (some (.array (.object "java/lang/Object"))) :: ([.methodLink RJ7 86 ⟨"java/lang/Object", "getClass", "()Ljava/lang/Class;"⟩, .selects "[Ljava/lang/Object;" ⟨"java/lang/Object", "getClass", "()Ljava/lang/Class;"⟩ ⟨"java/lang/Object", "getClass", "()Ljava/lang/Class;"⟩, .instanceMethod ⟨"java/lang/Object", "getClass", "()Ljava/lang/Class;"⟩, .native ⟨"java/lang/Object", "getClass", "()Ljava/lang/Class;"⟩, .methodLink RJ7 300 yJ7_copyOf_6403c, .static yJ7_copyOf_6403c, .initialized RJ7, .code yJ7_copyOf_6403c cJ7_copyOf_6403c 4 (some (.array (.object "java/lang/Object"))), .classLink RJ7 110 "[Ljava/lang/Object;", .classLink RJ7 2 "java/lang/Object", .methodLink RJ7 304 Lib.Math.min.name, .static Lib.Math.min.name, .initialized "java/lang/Math", .code Lib.Math.min.name Lib.Math.min.code 2 (some .int), .methodLink RJ7 150 arraycopyName, .native arraycopyName, .static arraycopyName, .initialized "java/lang/System"])
def wsJx4a65c_grow_92f84_r1 : List Cond := [Cond.fieldLink RJx4a65c 9 "java/util/ArrayList" "elementData" "[Ljava/lang/Object;", Cond.fieldLink RJx4a65c 39 "java/util/ArrayList" "DEFAULTCAPACITY_EMPTY_ELEMENTDATA" "[Ljava/lang/Object;", Cond.methodLink RJx4a65c 79 Lib.Math.max.name, Cond.static Lib.Math.max.name, Cond.initialized "java/lang/Math", Cond.code Lib.Math.max.name Lib.Math.max.code 2 (some .int), Cond.classLink RJx4a65c 7 "java/lang/Object", Cond.methodLink RJx4a65c 73 yJ8_newLength_cabcc, Cond.static yJ8_newLength_cabcc, Cond.initialized RJ8, Cond.code yJ8_newLength_cabcc cJ8_newLength_cabcc 4 (some .int), Cond.methodLink RJ8 194 Lib.Math.max.name, Cond.constant RJ8 200 (2147483639), Cond.methodLink RJ8 201 yJ8_hugeLength_7cf53, Cond.static yJ8_hugeLength_7cf53, Cond.code yJ8_hugeLength_7cf53 cJ8_hugeLength_7cf53 3 (some .int), Cond.methodLink RJx4a65c 66 yJ7_copyOf_1904c, Cond.static yJ7_copyOf_1904c, Cond.initialized RJ7, Cond.code yJ7_copyOf_1904c cJ7_copyOf_1904c 2 (some (.array (.object "java/lang/Object"))), Cond.methodLink RJ7 86 ⟨"java/lang/Object", "getClass", "()Ljava/lang/Class;"⟩, Cond.selects "[Ljava/lang/Object;" ⟨"java/lang/Object", "getClass", "()Ljava/lang/Class;"⟩ ⟨"java/lang/Object", "getClass", "()Ljava/lang/Class;"⟩, Cond.instanceMethod ⟨"java/lang/Object", "getClass", "()Ljava/lang/Class;"⟩, Cond.native ⟨"java/lang/Object", "getClass", "()Ljava/lang/Class;"⟩]
def wsJx4a65c_grow_92f84_r2 : List Cond := [Cond.methodLink RJ7 300 yJ7_copyOf_6403c, Cond.static yJ7_copyOf_6403c, Cond.code yJ7_copyOf_6403c cJ7_copyOf_6403c 4 (some (.array (.object "java/lang/Object"))), Cond.classLink RJ7 110 "[Ljava/lang/Object;", Cond.classLink RJ7 2 "java/lang/Object", Cond.methodLink RJ7 304 Lib.Math.min.name, Cond.static Lib.Math.min.name, Cond.code Lib.Math.min.name Lib.Math.min.code 2 (some .int), Cond.methodLink RJ7 150 arraycopyName, Cond.native arraycopyName, Cond.static arraycopyName, Cond.initialized "java/lang/System"]
def wsJx4a65c_grow_92f84 : List Cond := .code yJx4a65c_grow_92f84 cJx4a65c_grow_92f84 4 (some (.array (.object "java/lang/Object"))) :: ((wsJx4a65c_grow_92f84_r1 ++ wsJx4a65c_grow_92f84_r2) ++ wsJx4a65c0)
def wsJx4a65c_grow_d5877_r1 : List Cond := [Cond.fieldLink RJx4a65c 48 "java/util/ArrayList" "size" "I", Cond.methodLink RJx4a65c 69 yJx4a65c_grow_92f84, Cond.instanceMethod yJx4a65c_grow_92f84, Cond.selects RJx4a65c yJx4a65c_grow_92f84 yJx4a65c_grow_92f84, Cond.initialized RJx4a65c, Cond.code yJx4a65c_grow_92f84 cJx4a65c_grow_92f84 4 (some (.array (.object "java/lang/Object"))), Cond.fieldLink RJx4a65c 9 "java/util/ArrayList" "elementData" "[Ljava/lang/Object;", Cond.fieldLink RJx4a65c 39 "java/util/ArrayList" "DEFAULTCAPACITY_EMPTY_ELEMENTDATA" "[Ljava/lang/Object;", Cond.methodLink RJx4a65c 79 Lib.Math.max.name, Cond.static Lib.Math.max.name, Cond.initialized "java/lang/Math", Cond.code Lib.Math.max.name Lib.Math.max.code 2 (some .int), Cond.classLink RJx4a65c 7 "java/lang/Object", Cond.methodLink RJx4a65c 73 yJ8_newLength_cabcc, Cond.static yJ8_newLength_cabcc, Cond.initialized RJ8, Cond.code yJ8_newLength_cabcc cJ8_newLength_cabcc 4 (some .int), Cond.methodLink RJ8 194 Lib.Math.max.name, Cond.constant RJ8 200 (2147483639), Cond.methodLink RJ8 201 yJ8_hugeLength_7cf53, Cond.static yJ8_hugeLength_7cf53, Cond.code yJ8_hugeLength_7cf53 cJ8_hugeLength_7cf53 3 (some .int), Cond.methodLink RJx4a65c 66 yJ7_copyOf_1904c, Cond.static yJ7_copyOf_1904c]
def wsJx4a65c_grow_d5877_r2 : List Cond := [Cond.initialized RJ7, Cond.code yJ7_copyOf_1904c cJ7_copyOf_1904c 2 (some (.array (.object "java/lang/Object"))), Cond.methodLink RJ7 86 ⟨"java/lang/Object", "getClass", "()Ljava/lang/Class;"⟩, Cond.selects "[Ljava/lang/Object;" ⟨"java/lang/Object", "getClass", "()Ljava/lang/Class;"⟩ ⟨"java/lang/Object", "getClass", "()Ljava/lang/Class;"⟩, Cond.instanceMethod ⟨"java/lang/Object", "getClass", "()Ljava/lang/Class;"⟩, Cond.native ⟨"java/lang/Object", "getClass", "()Ljava/lang/Class;"⟩, Cond.methodLink RJ7 300 yJ7_copyOf_6403c, Cond.static yJ7_copyOf_6403c, Cond.code yJ7_copyOf_6403c cJ7_copyOf_6403c 4 (some (.array (.object "java/lang/Object"))), Cond.classLink RJ7 110 "[Ljava/lang/Object;", Cond.classLink RJ7 2 "java/lang/Object", Cond.methodLink RJ7 304 Lib.Math.min.name, Cond.static Lib.Math.min.name, Cond.code Lib.Math.min.name Lib.Math.min.code 2 (some .int), Cond.methodLink RJ7 150 arraycopyName, Cond.native arraycopyName, Cond.static arraycopyName, Cond.initialized "java/lang/System"]
def wsJx4a65c_grow_d5877 : List Cond := .code yJx4a65c_grow_d5877 cJx4a65c_grow_d5877 1 (some (.array (.object "java/lang/Object"))) :: ((wsJx4a65c_grow_d5877_r1 ++ wsJx4a65c_grow_d5877_r2) ++ wsJx4a65c0)
def wsJx4a65c_add_72be8_r1 : List Cond := [Cond.fieldLink RJx4a65c 48 "java/util/ArrayList" "size" "I", Cond.methodLink RJx4a65c 129 yJx4a65c_grow_d5877, Cond.instanceMethod yJx4a65c_grow_d5877, Cond.selects RJx4a65c yJx4a65c_grow_d5877 yJx4a65c_grow_d5877, Cond.initialized RJx4a65c, Cond.code yJx4a65c_grow_d5877 cJx4a65c_grow_d5877 1 (some (.array (.object "java/lang/Object"))), Cond.methodLink RJx4a65c 69 yJx4a65c_grow_92f84, Cond.instanceMethod yJx4a65c_grow_92f84, Cond.selects RJx4a65c yJx4a65c_grow_92f84 yJx4a65c_grow_92f84, Cond.code yJx4a65c_grow_92f84 cJx4a65c_grow_92f84 4 (some (.array (.object "java/lang/Object"))), Cond.fieldLink RJx4a65c 9 "java/util/ArrayList" "elementData" "[Ljava/lang/Object;", Cond.fieldLink RJx4a65c 39 "java/util/ArrayList" "DEFAULTCAPACITY_EMPTY_ELEMENTDATA" "[Ljava/lang/Object;", Cond.methodLink RJx4a65c 79 Lib.Math.max.name, Cond.static Lib.Math.max.name, Cond.initialized "java/lang/Math", Cond.code Lib.Math.max.name Lib.Math.max.code 2 (some .int), Cond.classLink RJx4a65c 7 "java/lang/Object", Cond.methodLink RJx4a65c 73 yJ8_newLength_cabcc, Cond.static yJ8_newLength_cabcc, Cond.initialized RJ8, Cond.code yJ8_newLength_cabcc cJ8_newLength_cabcc 4 (some .int), Cond.methodLink RJ8 194 Lib.Math.max.name, Cond.constant RJ8 200 (2147483639), Cond.methodLink RJ8 201 yJ8_hugeLength_7cf53]
def wsJx4a65c_add_72be8_r2 : List Cond := [Cond.static yJ8_hugeLength_7cf53, Cond.code yJ8_hugeLength_7cf53 cJ8_hugeLength_7cf53 3 (some .int), Cond.methodLink RJx4a65c 66 yJ7_copyOf_1904c, Cond.static yJ7_copyOf_1904c, Cond.initialized RJ7, Cond.code yJ7_copyOf_1904c cJ7_copyOf_1904c 2 (some (.array (.object "java/lang/Object"))), Cond.methodLink RJ7 86 ⟨"java/lang/Object", "getClass", "()Ljava/lang/Class;"⟩, Cond.selects "[Ljava/lang/Object;" ⟨"java/lang/Object", "getClass", "()Ljava/lang/Class;"⟩ ⟨"java/lang/Object", "getClass", "()Ljava/lang/Class;"⟩, Cond.instanceMethod ⟨"java/lang/Object", "getClass", "()Ljava/lang/Class;"⟩, Cond.native ⟨"java/lang/Object", "getClass", "()Ljava/lang/Class;"⟩, Cond.methodLink RJ7 300 yJ7_copyOf_6403c, Cond.static yJ7_copyOf_6403c, Cond.code yJ7_copyOf_6403c cJ7_copyOf_6403c 4 (some (.array (.object "java/lang/Object"))), Cond.classLink RJ7 110 "[Ljava/lang/Object;", Cond.classLink RJ7 2 "java/lang/Object", Cond.methodLink RJ7 304 Lib.Math.min.name, Cond.static Lib.Math.min.name, Cond.code Lib.Math.min.name Lib.Math.min.code 2 (some .int), Cond.methodLink RJ7 150 arraycopyName, Cond.native arraycopyName, Cond.static arraycopyName, Cond.initialized "java/lang/System"]
def wsJx4a65c_add_72be8 : List Cond := .code yJx4a65c_add_72be8 cJx4a65c_add_72be8 4 none :: ((wsJx4a65c_add_72be8_r1 ++ wsJx4a65c_add_72be8_r2) ++ wsJx4a65c0)
def wsJx4a65c_add_9ea2d_r1 : List Cond := [Cond.fieldLink RJx4a65c 63 "java/util/ArrayList" "modCount" "I", Cond.sameField "java/util/ArrayList" "java/util/AbstractList" "modCount" "I", Cond.fieldLink RJx4a65c 9 "java/util/ArrayList" "elementData" "[Ljava/lang/Object;", Cond.fieldLink RJx4a65c 48 "java/util/ArrayList" "size" "I", Cond.methodLink RJx4a65c 131 yJx4a65c_add_72be8, Cond.instanceMethod yJx4a65c_add_72be8, Cond.selects RJx4a65c yJx4a65c_add_72be8 yJx4a65c_add_72be8, Cond.initialized RJx4a65c, Cond.code yJx4a65c_add_72be8 cJx4a65c_add_72be8 4 none, Cond.methodLink RJx4a65c 129 yJx4a65c_grow_d5877, Cond.instanceMethod yJx4a65c_grow_d5877, Cond.selects RJx4a65c yJx4a65c_grow_d5877 yJx4a65c_grow_d5877, Cond.code yJx4a65c_grow_d5877 cJx4a65c_grow_d5877 1 (some (.array (.object "java/lang/Object"))), Cond.methodLink RJx4a65c 69 yJx4a65c_grow_92f84, Cond.instanceMethod yJx4a65c_grow_92f84, Cond.selects RJx4a65c yJx4a65c_grow_92f84 yJx4a65c_grow_92f84, Cond.code yJx4a65c_grow_92f84 cJx4a65c_grow_92f84 4 (some (.array (.object "java/lang/Object"))), Cond.fieldLink RJx4a65c 39 "java/util/ArrayList" "DEFAULTCAPACITY_EMPTY_ELEMENTDATA" "[Ljava/lang/Object;", Cond.methodLink RJx4a65c 79 Lib.Math.max.name, Cond.static Lib.Math.max.name, Cond.initialized "java/lang/Math", Cond.code Lib.Math.max.name Lib.Math.max.code 2 (some .int), Cond.classLink RJx4a65c 7 "java/lang/Object", Cond.methodLink RJx4a65c 73 yJ8_newLength_cabcc]
def wsJx4a65c_add_9ea2d_r2 : List Cond := [Cond.static yJ8_newLength_cabcc, Cond.initialized RJ8, Cond.code yJ8_newLength_cabcc cJ8_newLength_cabcc 4 (some .int), Cond.methodLink RJ8 194 Lib.Math.max.name, Cond.constant RJ8 200 (2147483639), Cond.methodLink RJ8 201 yJ8_hugeLength_7cf53, Cond.static yJ8_hugeLength_7cf53, Cond.code yJ8_hugeLength_7cf53 cJ8_hugeLength_7cf53 3 (some .int), Cond.methodLink RJx4a65c 66 yJ7_copyOf_1904c, Cond.static yJ7_copyOf_1904c, Cond.initialized RJ7, Cond.code yJ7_copyOf_1904c cJ7_copyOf_1904c 2 (some (.array (.object "java/lang/Object"))), Cond.methodLink RJ7 86 ⟨"java/lang/Object", "getClass", "()Ljava/lang/Class;"⟩, Cond.selects "[Ljava/lang/Object;" ⟨"java/lang/Object", "getClass", "()Ljava/lang/Class;"⟩ ⟨"java/lang/Object", "getClass", "()Ljava/lang/Class;"⟩, Cond.instanceMethod ⟨"java/lang/Object", "getClass", "()Ljava/lang/Class;"⟩, Cond.native ⟨"java/lang/Object", "getClass", "()Ljava/lang/Class;"⟩, Cond.methodLink RJ7 300 yJ7_copyOf_6403c, Cond.static yJ7_copyOf_6403c, Cond.code yJ7_copyOf_6403c cJ7_copyOf_6403c 4 (some (.array (.object "java/lang/Object"))), Cond.classLink RJ7 110 "[Ljava/lang/Object;", Cond.classLink RJ7 2 "java/lang/Object", Cond.methodLink RJ7 304 Lib.Math.min.name, Cond.static Lib.Math.min.name, Cond.code Lib.Math.min.name Lib.Math.min.code 2 (some .int)]
def wsJx4a65c_add_9ea2d_r3 : List Cond := [Cond.methodLink RJ7 150 arraycopyName, Cond.native arraycopyName, Cond.static arraycopyName, Cond.initialized "java/lang/System"]
def wsJx4a65c_add_9ea2d : List Cond := .code yJx4a65c_add_9ea2d cJx4a65c_add_9ea2d 2 (some .boolean) :: ((wsJx4a65c_add_9ea2d_r1 ++ (wsJx4a65c_add_9ea2d_r2 ++ wsJx4a65c_add_9ea2d_r3)) ++ wsJx4a65c0)
def wsX4_takeClusters : List Cond := .code yX4_takeClusters cX4_takeClusters 5 none :: ([.fieldLink RX4 10 "GraveyardReader" "disk" "LGraveyardReader$Disk;", .methodLink RX4 193 yX1_takeLowest, .instanceMethod yX1_takeLowest, .selects RX1 yX1_takeLowest yX1_takeLowest, .initialized RX1, .code yX1_takeLowest cX1_takeLowest 3 (some .int), .fieldLink RX1 15 "GraveyardReader$Disk" "holders" "[I", .methodLink RX4 196 yX0_add, .instanceMethod yX0_add, .selects RX0 yX0_add yX0_add, .initialized RX0, .code yX0_add cX0_add 2 none, .fieldLink RX0 15 "GraveyardReader$ClusterRow" "size" "I", .fieldLink RX0 9 "GraveyardReader$ClusterRow" "row" "[I"] ++ wsX40 ++ wsX10 ++ wsX00)
def wsX4_lastPlace : List Cond := .code yX4_lastPlace cX4_lastPlace 1 (some .int) :: ([] ++ wsX20 ++ wsX00)
def wsX4_writeByRule : List Cond := .code yX4_writeByRule cX4_writeByRule 4 none :: ([.fieldLink RX4 10 "GraveyardReader" "disk" "LGraveyardReader$Disk;", .methodLink RX4 87 yX4_lastPlace, .static yX4_lastPlace, .initialized RX4, .code yX4_lastPlace cX4_lastPlace 1 (some .int), .methodLink RX4 198 yX2_numberByRule, .instanceMethod yX2_numberByRule, .selects RX2 yX2_numberByRule yX2_numberByRule, .initialized RX2, .code yX2_numberByRule cX2_numberByRule 2 (some .int), .fieldLink RX2 31 "GraveyardReader$DiskFile" "seed" "I", .methodLink RX4 84 yX1_writeAlong, .instanceMethod yX1_writeAlong, .selects RX1 yX1_writeAlong yX1_writeAlong, .initialized RX1, .code yX1_writeAlong cX1_writeAlong 5 none, .fieldLink RX1 9 "GraveyardReader$Disk" "numbers" "[I", .methodLink RX1 30 yX0_at, .instanceMethod yX0_at, .selects RX0 yX0_at yX0_at, .initialized RX0, .code yX0_at cX0_at 2 (some .int), .fieldLink RX0 15 "GraveyardReader$ClusterRow" "size" "I", .fieldLink RX0 9 "GraveyardReader$ClusterRow" "row" "[I"] ++ wsX40 ++ wsX20 ++ wsX00 ++ wsX10)
def wsJ3_checkIndex_8e157 : List Cond := .code yJ3_checkIndex_8e157 cJ3_checkIndex_8e157 3 (some .int) :: ([])
def wsJ15_checkIndex_7cf53 : List Cond := .code yJ15_checkIndex_7cf53 cJ15_checkIndex_7cf53 2 (some .int) :: ([.methodLink RJ15 105 yJ3_checkIndex_8e157, .static yJ3_checkIndex_8e157, .initialized RJ3, .code yJ3_checkIndex_8e157 cJ3_checkIndex_8e157 3 (some .int)])
def wsJx4a65c_elementData_915e3 : List Cond := .code yJx4a65c_elementData_915e3 cJx4a65c_elementData_915e3 2 (some (.object "java/lang/Object")) :: ([.fieldLink RJx4a65c 9 "java/util/ArrayList" "elementData" "[Ljava/lang/Object;"] ++ wsJx4a65c0)
def wsJx4a65c_get_915e3 : List Cond := .code yJx4a65c_get_915e3 cJx4a65c_get_915e3 2 (some (.object "java/lang/Object")) :: ([.fieldLink RJx4a65c 48 "java/util/ArrayList" "size" "I", .methodLink RJx4a65c 118 yJ15_checkIndex_7cf53, .static yJ15_checkIndex_7cf53, .initialized RJ15, .code yJ15_checkIndex_7cf53 cJ15_checkIndex_7cf53 2 (some .int), .methodLink RJ15 105 yJ3_checkIndex_8e157, .static yJ3_checkIndex_8e157, .initialized RJ3, .code yJ3_checkIndex_8e157 cJ3_checkIndex_8e157 3 (some .int), .methodLink RJx4a65c 123 yJx4a65c_elementData_915e3, .instanceMethod yJx4a65c_elementData_915e3, .selects RJx4a65c yJx4a65c_elementData_915e3 yJx4a65c_elementData_915e3, .initialized RJx4a65c, .code yJx4a65c_elementData_915e3 cJx4a65c_elementData_915e3 2 (some (.object "java/lang/Object")), .fieldLink RJx4a65c 9 "java/util/ArrayList" "elementData" "[Ljava/lang/Object;"] ++ wsJx4a65c0)
def wsX4_trustIn : List Cond := .code yX4_trustIn cX4_trustIn 5 (some .int) :: ([.fieldLink RX4 10 "GraveyardReader" "disk" "LGraveyardReader$Disk;", .methodLink RX4 121 yX1_sumOf, .instanceMethod yX1_sumOf, .selects RX1 yX1_sumOf yX1_sumOf, .initialized RX1, .code yX1_sumOf cX1_sumOf 4 (some .int), .methodLink RX1 38 yX1_readAlong, .instanceMethod yX1_readAlong, .selects RX1 yX1_readAlong yX1_readAlong, .code yX1_readAlong cX1_readAlong 3 (some .int), .methodLink RX1 30 yX0_at, .instanceMethod yX0_at, .selects RX0 yX0_at yX0_at, .initialized RX0, .code yX0_at cX0_at 2 (some .int), .fieldLink RX0 15 "GraveyardReader$ClusterRow" "size" "I", .fieldLink RX0 9 "GraveyardReader$ClusterRow" "row" "[I", .methodLink RX1 34 yX1_read, .instanceMethod yX1_read, .selects RX1 yX1_read yX1_read, .code yX1_read cX1_read 4 (some .int), .fieldLink RX1 9 "GraveyardReader$Disk" "numbers" "[I", .methodLink RX4 113 yX1_readAlong] ++ wsX20 ++ wsX00 ++ wsX40 ++ wsX10)
def wsX4_readClaim_r1 : List Cond := [Cond.fieldLink RX4 10 "GraveyardReader" "disk" "LGraveyardReader$Disk;", Cond.methodLink RX4 104 yX0_at, Cond.instanceMethod yX0_at, Cond.selects RX0 yX0_at yX0_at, Cond.initialized RX0, Cond.code yX0_at cX0_at 2 (some .int), Cond.fieldLink RX0 15 "GraveyardReader$ClusterRow" "size" "I", Cond.fieldLink RX0 9 "GraveyardReader$ClusterRow" "row" "[I", Cond.methodLink RX4 110 yX0_clear, Cond.instanceMethod yX0_clear, Cond.selects RX0 yX0_clear yX0_clear, Cond.code yX0_clear cX0_clear 1 none, Cond.methodLink RX4 205 yX1_isFree, Cond.instanceMethod yX1_isFree, Cond.selects RX1 yX1_isFree yX1_isFree, Cond.initialized RX1, Cond.code yX1_isFree cX1_isFree 2 (some .boolean), Cond.fieldLink RX1 15 "GraveyardReader$Disk" "holders" "[I", Cond.methodLink RX4 196 yX0_add, Cond.instanceMethod yX0_add, Cond.selects RX0 yX0_add yX0_add, Cond.code yX0_add cX0_add 2 none, Cond.methodLink RX4 209 yX4_trustIn, Cond.instanceMethod yX4_trustIn]
def wsX4_readClaim_r2 : List Cond := [Cond.selects RX4 yX4_trustIn yX4_trustIn, Cond.initialized RX4, Cond.code yX4_trustIn cX4_trustIn 5 (some .int), Cond.methodLink RX4 121 yX1_sumOf, Cond.instanceMethod yX1_sumOf, Cond.selects RX1 yX1_sumOf yX1_sumOf, Cond.code yX1_sumOf cX1_sumOf 4 (some .int), Cond.methodLink RX1 38 yX1_readAlong, Cond.instanceMethod yX1_readAlong, Cond.selects RX1 yX1_readAlong yX1_readAlong, Cond.code yX1_readAlong cX1_readAlong 3 (some .int), Cond.methodLink RX1 30 yX0_at, Cond.methodLink RX1 34 yX1_read, Cond.instanceMethod yX1_read, Cond.selects RX1 yX1_read yX1_read, Cond.code yX1_read cX1_read 4 (some .int), Cond.fieldLink RX1 9 "GraveyardReader$Disk" "numbers" "[I", Cond.methodLink RX4 113 yX1_readAlong]
def wsX4_readClaim : List Cond := .code yX4_readClaim cX4_readClaim 5 none :: ((wsX4_readClaim_r1 ++ wsX4_readClaim_r2) ++ wsX20 ++ wsX00 ++ wsX40 ++ wsX10)
def wsX4_readClaims_r1 : List Cond := [Cond.fieldLink RX4 19 "GraveyardReader" "made" "Ljava/util/ArrayList;", Cond.classLink RX4 64 "GraveyardReader$DiskFile", Cond.methodLink RX4 50 yJx4a65c_size_8abf5, Cond.instanceMethod yJx4a65c_size_8abf5, Cond.selects RJx4a65c yJx4a65c_size_8abf5 yJx4a65c_size_8abf5, Cond.initialized RJx4a65c, Cond.code yJx4a65c_size_8abf5 cJx4a65c_size_8abf5 1 (some .int), Cond.fieldLink RJx4a65c 48 "java/util/ArrayList" "size" "I", Cond.methodLink RX4 167 yJx4a65c_get_915e3, Cond.instanceMethod yJx4a65c_get_915e3, Cond.selects RJx4a65c yJx4a65c_get_915e3 yJx4a65c_get_915e3, Cond.code yJx4a65c_get_915e3 cJx4a65c_get_915e3 2 (some (.object "java/lang/Object")), Cond.methodLink RJx4a65c 118 yJ15_checkIndex_7cf53, Cond.static yJ15_checkIndex_7cf53, Cond.initialized RJ15, Cond.code yJ15_checkIndex_7cf53 cJ15_checkIndex_7cf53 2 (some .int), Cond.methodLink RJ15 105 yJ3_checkIndex_8e157, Cond.static yJ3_checkIndex_8e157, Cond.initialized RJ3, Cond.code yJ3_checkIndex_8e157 cJ3_checkIndex_8e157 3 (some .int), Cond.methodLink RJx4a65c 123 yJx4a65c_elementData_915e3, Cond.instanceMethod yJx4a65c_elementData_915e3, Cond.selects RJx4a65c yJx4a65c_elementData_915e3 yJx4a65c_elementData_915e3, Cond.code yJx4a65c_elementData_915e3 cJx4a65c_elementData_915e3 2 (some (.object "java/lang/Object"))]
def wsX4_readClaims_r2 : List Cond := [Cond.fieldLink RJx4a65c 9 "java/util/ArrayList" "elementData" "[Ljava/lang/Object;", Cond.methodLink RX4 149 yX2_isThrown, Cond.instanceMethod yX2_isThrown, Cond.selects RX2 yX2_isThrown yX2_isThrown, Cond.initialized RX2, Cond.code yX2_isThrown cX2_isThrown 1 (some .boolean), Cond.fieldLink RX2 22 "GraveyardReader$DiskFile" "thrownAs" "I", Cond.methodLink RX4 201 yX4_readClaim, Cond.instanceMethod yX4_readClaim, Cond.selects RX4 yX4_readClaim yX4_readClaim, Cond.initialized RX4, Cond.code yX4_readClaim cX4_readClaim 5 none, Cond.fieldLink RX4 10 "GraveyardReader" "disk" "LGraveyardReader$Disk;", Cond.methodLink RX4 104 yX0_at, Cond.instanceMethod yX0_at, Cond.selects RX0 yX0_at yX0_at, Cond.initialized RX0, Cond.code yX0_at cX0_at 2 (some .int), Cond.fieldLink RX0 15 "GraveyardReader$ClusterRow" "size" "I", Cond.fieldLink RX0 9 "GraveyardReader$ClusterRow" "row" "[I", Cond.methodLink RX4 110 yX0_clear, Cond.instanceMethod yX0_clear, Cond.selects RX0 yX0_clear yX0_clear, Cond.code yX0_clear cX0_clear 1 none]
def wsX4_readClaims_r3 : List Cond := [Cond.methodLink RX4 205 yX1_isFree, Cond.instanceMethod yX1_isFree, Cond.selects RX1 yX1_isFree yX1_isFree, Cond.initialized RX1, Cond.code yX1_isFree cX1_isFree 2 (some .boolean), Cond.fieldLink RX1 15 "GraveyardReader$Disk" "holders" "[I", Cond.methodLink RX4 196 yX0_add, Cond.instanceMethod yX0_add, Cond.selects RX0 yX0_add yX0_add, Cond.code yX0_add cX0_add 2 none, Cond.methodLink RX4 209 yX4_trustIn, Cond.instanceMethod yX4_trustIn, Cond.selects RX4 yX4_trustIn yX4_trustIn, Cond.code yX4_trustIn cX4_trustIn 5 (some .int), Cond.methodLink RX4 121 yX1_sumOf, Cond.instanceMethod yX1_sumOf, Cond.selects RX1 yX1_sumOf yX1_sumOf, Cond.code yX1_sumOf cX1_sumOf 4 (some .int), Cond.methodLink RX1 38 yX1_readAlong, Cond.instanceMethod yX1_readAlong, Cond.selects RX1 yX1_readAlong yX1_readAlong, Cond.code yX1_readAlong cX1_readAlong 3 (some .int), Cond.methodLink RX1 30 yX0_at, Cond.methodLink RX1 34 yX1_read]
def wsX4_readClaims_r4 : List Cond := [Cond.instanceMethod yX1_read, Cond.selects RX1 yX1_read yX1_read, Cond.code yX1_read cX1_read 4 (some .int), Cond.fieldLink RX1 9 "GraveyardReader$Disk" "numbers" "[I", Cond.methodLink RX4 113 yX1_readAlong]
def wsX4_readClaims : List Cond := .code yX4_readClaims cX4_readClaims 3 none :: ((wsX4_readClaims_r1 ++ (wsX4_readClaims_r2 ++ (wsX4_readClaims_r3 ++ wsX4_readClaims_r4))) ++ wsX40 ++ wsJx4a65c0 ++ wsX20 ++ wsX00 ++ wsX10)
def wsX4_make_r1 : List Cond := [Cond.classLink RX4 41 "java/lang/IllegalArgumentException", Cond.initialized "java/lang/IllegalArgumentException", Cond.classLink RX4 54 "java/lang/IllegalStateException", Cond.initialized "java/lang/IllegalStateException", Cond.fieldLink RX4 19 "GraveyardReader" "made" "Ljava/util/ArrayList;", Cond.fieldLink RX4 10 "GraveyardReader" "disk" "LGraveyardReader$Disk;", Cond.classLink RX4 64 RX2, Cond.instantiable RX2 6, Cond.initialized RX2, Cond.methodLink RX4 50 yJx4a65c_size_8abf5, Cond.instanceMethod yJx4a65c_size_8abf5, Cond.selects RJx4a65c yJx4a65c_size_8abf5 yJx4a65c_size_8abf5, Cond.initialized RJx4a65c, Cond.code yJx4a65c_size_8abf5 cJx4a65c_size_8abf5 1 (some .int), Cond.fieldLink RJx4a65c 48 "java/util/ArrayList" "size" "I", Cond.methodLink RX4 59 yX1_countFree, Cond.instanceMethod yX1_countFree, Cond.selects RX1 yX1_countFree yX1_countFree, Cond.initialized RX1, Cond.code yX1_countFree cX1_countFree 3 (some .int), Cond.fieldLink RX1 15 "GraveyardReader$Disk" "holders" "[I", Cond.methodLink RX4 66 yX2_init, Cond.instanceMethod yX2_init, Cond.code yX2_init cX2_init 2 none]
def wsX4_make_r2 : List Cond := [Cond.methodLink RX2 3 objectInit, Cond.instanceMethod objectInit, Cond.code objectInit ⟨#[0xb1]⟩ 1 none, Cond.classLink RX2 9 RX0, Cond.instantiable RX0 2, Cond.initialized RX0, Cond.fieldLink RX2 12 "GraveyardReader$DiskFile" "chain" "LGraveyardReader$ClusterRow;", Cond.fieldLink RX2 18 "GraveyardReader$DiskFile" "entrySum" "I", Cond.fieldLink RX2 22 "GraveyardReader$DiskFile" "thrownAs" "I", Cond.fieldLink RX2 25 "GraveyardReader$DiskFile" "claim" "LGraveyardReader$ClusterRow;", Cond.fieldLink RX2 28 "GraveyardReader$DiskFile" "trust" "I", Cond.fieldLink RX2 31 "GraveyardReader$DiskFile" "seed" "I", Cond.instanceMethod yX0_init, Cond.code yX0_init cX0_init 1 none, Cond.methodLink RX0 3 objectInit, Cond.arrayClass .int, Cond.fieldLink RX0 9 "GraveyardReader$ClusterRow" "row" "[I", Cond.fieldLink RX0 15 "GraveyardReader$ClusterRow" "size" "I", Cond.methodLink RX4 69 yJx4a65c_add_9ea2d, Cond.instanceMethod yJx4a65c_add_9ea2d, Cond.selects RJx4a65c yJx4a65c_add_9ea2d yJx4a65c_add_9ea2d, Cond.code yJx4a65c_add_9ea2d cJx4a65c_add_9ea2d 2 (some .boolean), Cond.fieldLink RJx4a65c 63 "java/util/ArrayList" "modCount" "I", Cond.sameField "java/util/ArrayList" "java/util/AbstractList" "modCount" "I"]
def wsX4_make_r3 : List Cond := [Cond.fieldLink RJx4a65c 9 "java/util/ArrayList" "elementData" "[Ljava/lang/Object;", Cond.methodLink RJx4a65c 131 yJx4a65c_add_72be8, Cond.instanceMethod yJx4a65c_add_72be8, Cond.selects RJx4a65c yJx4a65c_add_72be8 yJx4a65c_add_72be8, Cond.code yJx4a65c_add_72be8 cJx4a65c_add_72be8 4 none, Cond.methodLink RJx4a65c 129 yJx4a65c_grow_d5877, Cond.instanceMethod yJx4a65c_grow_d5877, Cond.selects RJx4a65c yJx4a65c_grow_d5877 yJx4a65c_grow_d5877, Cond.code yJx4a65c_grow_d5877 cJx4a65c_grow_d5877 1 (some (.array (.object "java/lang/Object"))), Cond.methodLink RJx4a65c 69 yJx4a65c_grow_92f84, Cond.instanceMethod yJx4a65c_grow_92f84, Cond.selects RJx4a65c yJx4a65c_grow_92f84 yJx4a65c_grow_92f84, Cond.code yJx4a65c_grow_92f84 cJx4a65c_grow_92f84 4 (some (.array (.object "java/lang/Object"))), Cond.fieldLink RJx4a65c 39 "java/util/ArrayList" "DEFAULTCAPACITY_EMPTY_ELEMENTDATA" "[Ljava/lang/Object;", Cond.methodLink RJx4a65c 79 Lib.Math.max.name, Cond.static Lib.Math.max.name, Cond.initialized "java/lang/Math", Cond.code Lib.Math.max.name Lib.Math.max.code 2 (some .int), Cond.classLink RJx4a65c 7 "java/lang/Object", Cond.methodLink RJx4a65c 73 yJ8_newLength_cabcc, Cond.static yJ8_newLength_cabcc, Cond.initialized RJ8, Cond.code yJ8_newLength_cabcc cJ8_newLength_cabcc 4 (some .int), Cond.methodLink RJ8 194 Lib.Math.max.name]
def wsX4_make_r4 : List Cond := [Cond.constant RJ8 200 (2147483639), Cond.methodLink RJ8 201 yJ8_hugeLength_7cf53, Cond.static yJ8_hugeLength_7cf53, Cond.code yJ8_hugeLength_7cf53 cJ8_hugeLength_7cf53 3 (some .int), Cond.methodLink RJx4a65c 66 yJ7_copyOf_1904c, Cond.static yJ7_copyOf_1904c, Cond.initialized RJ7, Cond.code yJ7_copyOf_1904c cJ7_copyOf_1904c 2 (some (.array (.object "java/lang/Object"))), Cond.methodLink RJ7 86 ⟨"java/lang/Object", "getClass", "()Ljava/lang/Class;"⟩, Cond.selects "[Ljava/lang/Object;" ⟨"java/lang/Object", "getClass", "()Ljava/lang/Class;"⟩ ⟨"java/lang/Object", "getClass", "()Ljava/lang/Class;"⟩, Cond.instanceMethod ⟨"java/lang/Object", "getClass", "()Ljava/lang/Class;"⟩, Cond.native ⟨"java/lang/Object", "getClass", "()Ljava/lang/Class;"⟩, Cond.methodLink RJ7 300 yJ7_copyOf_6403c, Cond.static yJ7_copyOf_6403c, Cond.code yJ7_copyOf_6403c cJ7_copyOf_6403c 4 (some (.array (.object "java/lang/Object"))), Cond.classLink RJ7 110 "[Ljava/lang/Object;", Cond.classLink RJ7 2 "java/lang/Object", Cond.methodLink RJ7 304 Lib.Math.min.name, Cond.static Lib.Math.min.name, Cond.code Lib.Math.min.name Lib.Math.min.code 2 (some .int), Cond.methodLink RJ7 150 arraycopyName, Cond.native arraycopyName, Cond.static arraycopyName, Cond.initialized "java/lang/System"]
def wsX4_make_r5 : List Cond := [Cond.methodLink RX4 76 yX4_takeClusters, Cond.instanceMethod yX4_takeClusters, Cond.selects RX4 yX4_takeClusters yX4_takeClusters, Cond.initialized RX4, Cond.code yX4_takeClusters cX4_takeClusters 5 none, Cond.methodLink RX4 193 yX1_takeLowest, Cond.instanceMethod yX1_takeLowest, Cond.selects RX1 yX1_takeLowest yX1_takeLowest, Cond.code yX1_takeLowest cX1_takeLowest 3 (some .int), Cond.methodLink RX4 196 yX0_add, Cond.instanceMethod yX0_add, Cond.selects RX0 yX0_add yX0_add, Cond.code yX0_add cX0_add 2 none, Cond.methodLink RX4 80 yX4_writeByRule, Cond.instanceMethod yX4_writeByRule, Cond.selects RX4 yX4_writeByRule yX4_writeByRule, Cond.code yX4_writeByRule cX4_writeByRule 4 none, Cond.methodLink RX4 87 yX4_lastPlace, Cond.static yX4_lastPlace, Cond.code yX4_lastPlace cX4_lastPlace 1 (some .int), Cond.methodLink RX4 198 yX2_numberByRule, Cond.instanceMethod yX2_numberByRule, Cond.selects RX2 yX2_numberByRule yX2_numberByRule, Cond.code yX2_numberByRule cX2_numberByRule 2 (some .int)]
def wsX4_make_r6 : List Cond := [Cond.methodLink RX4 84 yX1_writeAlong, Cond.instanceMethod yX1_writeAlong, Cond.selects RX1 yX1_writeAlong yX1_writeAlong, Cond.code yX1_writeAlong cX1_writeAlong 5 none, Cond.fieldLink RX1 9 "GraveyardReader$Disk" "numbers" "[I", Cond.methodLink RX1 30 yX0_at, Cond.instanceMethod yX0_at, Cond.selects RX0 yX0_at yX0_at, Cond.code yX0_at cX0_at 2 (some .int), Cond.methodLink RX4 91 yX4_readClaims, Cond.instanceMethod yX4_readClaims, Cond.selects RX4 yX4_readClaims yX4_readClaims, Cond.code yX4_readClaims cX4_readClaims 3 none, Cond.classLink RX4 64 "GraveyardReader$DiskFile", Cond.methodLink RX4 167 yJx4a65c_get_915e3, Cond.instanceMethod yJx4a65c_get_915e3, Cond.selects RJx4a65c yJx4a65c_get_915e3 yJx4a65c_get_915e3, Cond.code yJx4a65c_get_915e3 cJx4a65c_get_915e3 2 (some (.object "java/lang/Object")), Cond.methodLink RJx4a65c 118 yJ15_checkIndex_7cf53, Cond.static yJ15_checkIndex_7cf53, Cond.initialized RJ15, Cond.code yJ15_checkIndex_7cf53 cJ15_checkIndex_7cf53 2 (some .int), Cond.methodLink RJ15 105 yJ3_checkIndex_8e157, Cond.static yJ3_checkIndex_8e157]
def wsX4_make_r7 : List Cond := [Cond.initialized RJ3, Cond.code yJ3_checkIndex_8e157 cJ3_checkIndex_8e157 3 (some .int), Cond.methodLink RJx4a65c 123 yJx4a65c_elementData_915e3, Cond.instanceMethod yJx4a65c_elementData_915e3, Cond.selects RJx4a65c yJx4a65c_elementData_915e3 yJx4a65c_elementData_915e3, Cond.code yJx4a65c_elementData_915e3 cJx4a65c_elementData_915e3 2 (some (.object "java/lang/Object")), Cond.methodLink RX4 149 yX2_isThrown, Cond.instanceMethod yX2_isThrown, Cond.selects RX2 yX2_isThrown yX2_isThrown, Cond.code yX2_isThrown cX2_isThrown 1 (some .boolean), Cond.methodLink RX4 201 yX4_readClaim, Cond.instanceMethod yX4_readClaim, Cond.selects RX4 yX4_readClaim yX4_readClaim, Cond.code yX4_readClaim cX4_readClaim 5 none, Cond.methodLink RX4 104 yX0_at, Cond.methodLink RX4 110 yX0_clear, Cond.instanceMethod yX0_clear, Cond.selects RX0 yX0_clear yX0_clear, Cond.code yX0_clear cX0_clear 1 none, Cond.methodLink RX4 205 yX1_isFree, Cond.instanceMethod yX1_isFree, Cond.selects RX1 yX1_isFree yX1_isFree, Cond.code yX1_isFree cX1_isFree 2 (some .boolean), Cond.methodLink RX4 209 yX4_trustIn]
def wsX4_make_r8 : List Cond := [Cond.instanceMethod yX4_trustIn, Cond.selects RX4 yX4_trustIn yX4_trustIn, Cond.code yX4_trustIn cX4_trustIn 5 (some .int), Cond.methodLink RX4 121 yX1_sumOf, Cond.instanceMethod yX1_sumOf, Cond.selects RX1 yX1_sumOf yX1_sumOf, Cond.code yX1_sumOf cX1_sumOf 4 (some .int), Cond.methodLink RX1 38 yX1_readAlong, Cond.instanceMethod yX1_readAlong, Cond.selects RX1 yX1_readAlong yX1_readAlong, Cond.code yX1_readAlong cX1_readAlong 3 (some .int), Cond.methodLink RX1 34 yX1_read, Cond.instanceMethod yX1_read, Cond.selects RX1 yX1_read yX1_read, Cond.code yX1_read cX1_read 4 (some .int), Cond.methodLink RX4 113 yX1_readAlong]
def wsX4_make : List Cond := .code yX4_make cX4_make 5 (some .int) :: ((wsX4_make_r1 ++ (wsX4_make_r2 ++ (wsX4_make_r3 ++ (wsX4_make_r4 ++ (wsX4_make_r5 ++ (wsX4_make_r6 ++ (wsX4_make_r7 ++ wsX4_make_r8))))))) ++ wsX40 ++ wsX20 ++ wsJx4a65c0 ++ wsX10 ++ wsX00 ++ (vx_atS RX4 45 "java/lang/IllegalArgumentException" ["java/lang/RuntimeException", "java/lang/Exception"]).filter goodWord ++ (vx_atS RX4 58 "java/lang/IllegalStateException" ["java/lang/RuntimeException", "java/lang/Exception"]).filter goodWord)
def wsX4_knownFile_r1 : List Cond := [Cond.classLink RX4 180 "java/lang/IndexOutOfBoundsException", Cond.initialized "java/lang/IndexOutOfBoundsException", Cond.fieldLink RX4 19 "GraveyardReader" "made" "Ljava/util/ArrayList;", Cond.classLink RX4 64 "GraveyardReader$DiskFile", Cond.methodLink RX4 50 yJx4a65c_size_8abf5, Cond.instanceMethod yJx4a65c_size_8abf5, Cond.selects RJx4a65c yJx4a65c_size_8abf5 yJx4a65c_size_8abf5, Cond.initialized RJx4a65c, Cond.code yJx4a65c_size_8abf5 cJx4a65c_size_8abf5 1 (some .int), Cond.fieldLink RJx4a65c 48 "java/util/ArrayList" "size" "I", Cond.methodLink RX4 167 yJx4a65c_get_915e3, Cond.instanceMethod yJx4a65c_get_915e3, Cond.selects RJx4a65c yJx4a65c_get_915e3 yJx4a65c_get_915e3, Cond.code yJx4a65c_get_915e3 cJx4a65c_get_915e3 2 (some (.object "java/lang/Object")), Cond.methodLink RJx4a65c 118 yJ15_checkIndex_7cf53, Cond.static yJ15_checkIndex_7cf53, Cond.initialized RJ15, Cond.code yJ15_checkIndex_7cf53 cJ15_checkIndex_7cf53 2 (some .int), Cond.methodLink RJ15 105 yJ3_checkIndex_8e157, Cond.static yJ3_checkIndex_8e157, Cond.initialized RJ3, Cond.code yJ3_checkIndex_8e157 cJ3_checkIndex_8e157 3 (some .int), Cond.methodLink RJx4a65c 123 yJx4a65c_elementData_915e3, Cond.instanceMethod yJx4a65c_elementData_915e3]
def wsX4_knownFile_r2 : List Cond := [Cond.selects RJx4a65c yJx4a65c_elementData_915e3 yJx4a65c_elementData_915e3, Cond.code yJx4a65c_elementData_915e3 cJx4a65c_elementData_915e3 2 (some (.object "java/lang/Object")), Cond.fieldLink RJx4a65c 9 "java/util/ArrayList" "elementData" "[Ljava/lang/Object;"]
def wsX4_knownFile : List Cond := .code yX4_knownFile cX4_knownFile 2 (some (.object "GraveyardReader$DiskFile")) :: ((wsX4_knownFile_r1 ++ wsX4_knownFile_r2) ++ wsX40 ++ wsJx4a65c0 ++ (vx_atS RX4 184 "java/lang/IndexOutOfBoundsException" ["java/lang/RuntimeException", "java/lang/Exception"]).filter goodWord)
def wsX4_livingFile_r1 : List Cond := [Cond.classLink RX4 54 "java/lang/IllegalStateException", Cond.initialized "java/lang/IllegalStateException", Cond.methodLink RX4 143 yX4_knownFile, Cond.instanceMethod yX4_knownFile, Cond.selects RX4 yX4_knownFile yX4_knownFile, Cond.initialized RX4, Cond.code yX4_knownFile cX4_knownFile 2 (some (.object "GraveyardReader$DiskFile")), Cond.classLink RX4 180 "java/lang/IndexOutOfBoundsException", Cond.initialized "java/lang/IndexOutOfBoundsException", Cond.fieldLink RX4 19 "GraveyardReader" "made" "Ljava/util/ArrayList;", Cond.classLink RX4 64 "GraveyardReader$DiskFile", Cond.methodLink RX4 50 yJx4a65c_size_8abf5, Cond.instanceMethod yJx4a65c_size_8abf5, Cond.selects RJx4a65c yJx4a65c_size_8abf5 yJx4a65c_size_8abf5, Cond.initialized RJx4a65c, Cond.code yJx4a65c_size_8abf5 cJx4a65c_size_8abf5 1 (some .int), Cond.fieldLink RJx4a65c 48 "java/util/ArrayList" "size" "I", Cond.methodLink RX4 167 yJx4a65c_get_915e3, Cond.instanceMethod yJx4a65c_get_915e3, Cond.selects RJx4a65c yJx4a65c_get_915e3 yJx4a65c_get_915e3, Cond.code yJx4a65c_get_915e3 cJx4a65c_get_915e3 2 (some (.object "java/lang/Object")), Cond.methodLink RJx4a65c 118 yJ15_checkIndex_7cf53, Cond.static yJ15_checkIndex_7cf53, Cond.initialized RJ15]
def wsX4_livingFile_r2 : List Cond := [Cond.code yJ15_checkIndex_7cf53 cJ15_checkIndex_7cf53 2 (some .int), Cond.methodLink RJ15 105 yJ3_checkIndex_8e157, Cond.static yJ3_checkIndex_8e157, Cond.initialized RJ3, Cond.code yJ3_checkIndex_8e157 cJ3_checkIndex_8e157 3 (some .int), Cond.methodLink RJx4a65c 123 yJx4a65c_elementData_915e3, Cond.instanceMethod yJx4a65c_elementData_915e3, Cond.selects RJx4a65c yJx4a65c_elementData_915e3 yJx4a65c_elementData_915e3, Cond.code yJx4a65c_elementData_915e3 cJx4a65c_elementData_915e3 2 (some (.object "java/lang/Object")), Cond.fieldLink RJx4a65c 9 "java/util/ArrayList" "elementData" "[Ljava/lang/Object;", Cond.methodLink RX4 149 yX2_isThrown, Cond.instanceMethod yX2_isThrown, Cond.selects RX2 yX2_isThrown yX2_isThrown, Cond.initialized RX2, Cond.code yX2_isThrown cX2_isThrown 1 (some .boolean), Cond.fieldLink RX2 22 "GraveyardReader$DiskFile" "thrownAs" "I"]
def wsX4_livingFile : List Cond := .code yX4_livingFile cX4_livingFile 3 (some (.object "GraveyardReader$DiskFile")) :: ((wsX4_livingFile_r1 ++ wsX4_livingFile_r2) ++ wsX40 ++ wsJx4a65c0 ++ wsX20 ++ (vx_atS RX4 58 "java/lang/IllegalStateException" ["java/lang/RuntimeException", "java/lang/Exception"]).filter goodWord ++ (vx_atS RX4 184 "java/lang/IndexOutOfBoundsException" ["java/lang/RuntimeException", "java/lang/Exception"]).filter goodWord)
def wsX4_grow_r1 : List Cond := [Cond.classLink RX4 54 "java/lang/IllegalStateException", Cond.initialized "java/lang/IllegalStateException", Cond.fieldLink RX4 10 "GraveyardReader" "disk" "LGraveyardReader$Disk;", Cond.methodLink RX4 94 yX4_livingFile, Cond.instanceMethod yX4_livingFile, Cond.selects RX4 yX4_livingFile yX4_livingFile, Cond.initialized RX4, Cond.code yX4_livingFile cX4_livingFile 3 (some (.object "GraveyardReader$DiskFile")), Cond.methodLink RX4 143 yX4_knownFile, Cond.instanceMethod yX4_knownFile, Cond.selects RX4 yX4_knownFile yX4_knownFile, Cond.code yX4_knownFile cX4_knownFile 2 (some (.object "GraveyardReader$DiskFile")), Cond.classLink RX4 180 "java/lang/IndexOutOfBoundsException", Cond.initialized "java/lang/IndexOutOfBoundsException", Cond.fieldLink RX4 19 "GraveyardReader" "made" "Ljava/util/ArrayList;", Cond.classLink RX4 64 "GraveyardReader$DiskFile", Cond.methodLink RX4 50 yJx4a65c_size_8abf5, Cond.instanceMethod yJx4a65c_size_8abf5, Cond.selects RJx4a65c yJx4a65c_size_8abf5 yJx4a65c_size_8abf5, Cond.initialized RJx4a65c, Cond.code yJx4a65c_size_8abf5 cJx4a65c_size_8abf5 1 (some .int), Cond.fieldLink RJx4a65c 48 "java/util/ArrayList" "size" "I", Cond.methodLink RX4 167 yJx4a65c_get_915e3, Cond.instanceMethod yJx4a65c_get_915e3]
def wsX4_grow_r2 : List Cond := [Cond.selects RJx4a65c yJx4a65c_get_915e3 yJx4a65c_get_915e3, Cond.code yJx4a65c_get_915e3 cJx4a65c_get_915e3 2 (some (.object "java/lang/Object")), Cond.methodLink RJx4a65c 118 yJ15_checkIndex_7cf53, Cond.static yJ15_checkIndex_7cf53, Cond.initialized RJ15, Cond.code yJ15_checkIndex_7cf53 cJ15_checkIndex_7cf53 2 (some .int), Cond.methodLink RJ15 105 yJ3_checkIndex_8e157, Cond.static yJ3_checkIndex_8e157, Cond.initialized RJ3, Cond.code yJ3_checkIndex_8e157 cJ3_checkIndex_8e157 3 (some .int), Cond.methodLink RJx4a65c 123 yJx4a65c_elementData_915e3, Cond.instanceMethod yJx4a65c_elementData_915e3, Cond.selects RJx4a65c yJx4a65c_elementData_915e3 yJx4a65c_elementData_915e3, Cond.code yJx4a65c_elementData_915e3 cJx4a65c_elementData_915e3 2 (some (.object "java/lang/Object")), Cond.fieldLink RJx4a65c 9 "java/util/ArrayList" "elementData" "[Ljava/lang/Object;", Cond.methodLink RX4 149 yX2_isThrown, Cond.instanceMethod yX2_isThrown, Cond.selects RX2 yX2_isThrown yX2_isThrown, Cond.initialized RX2, Cond.code yX2_isThrown cX2_isThrown 1 (some .boolean), Cond.fieldLink RX2 22 "GraveyardReader$DiskFile" "thrownAs" "I", Cond.methodLink RX4 59 yX1_countFree, Cond.instanceMethod yX1_countFree, Cond.selects RX1 yX1_countFree yX1_countFree]
def wsX4_grow_r3 : List Cond := [Cond.initialized RX1, Cond.code yX1_countFree cX1_countFree 3 (some .int), Cond.fieldLink RX1 15 "GraveyardReader$Disk" "holders" "[I", Cond.methodLink RX4 87 yX4_lastPlace, Cond.static yX4_lastPlace, Cond.code yX4_lastPlace cX4_lastPlace 1 (some .int), Cond.methodLink RX4 76 yX4_takeClusters, Cond.instanceMethod yX4_takeClusters, Cond.selects RX4 yX4_takeClusters yX4_takeClusters, Cond.code yX4_takeClusters cX4_takeClusters 5 none, Cond.methodLink RX4 193 yX1_takeLowest, Cond.instanceMethod yX1_takeLowest, Cond.selects RX1 yX1_takeLowest yX1_takeLowest, Cond.code yX1_takeLowest cX1_takeLowest 3 (some .int), Cond.methodLink RX4 196 yX0_add, Cond.instanceMethod yX0_add, Cond.selects RX0 yX0_add yX0_add, Cond.initialized RX0, Cond.code yX0_add cX0_add 2 none, Cond.fieldLink RX0 15 "GraveyardReader$ClusterRow" "size" "I", Cond.fieldLink RX0 9 "GraveyardReader$ClusterRow" "row" "[I", Cond.methodLink RX4 80 yX4_writeByRule, Cond.instanceMethod yX4_writeByRule, Cond.selects RX4 yX4_writeByRule yX4_writeByRule]
def wsX4_grow_r4 : List Cond := [Cond.code yX4_writeByRule cX4_writeByRule 4 none, Cond.methodLink RX4 198 yX2_numberByRule, Cond.instanceMethod yX2_numberByRule, Cond.selects RX2 yX2_numberByRule yX2_numberByRule, Cond.code yX2_numberByRule cX2_numberByRule 2 (some .int), Cond.fieldLink RX2 31 "GraveyardReader$DiskFile" "seed" "I", Cond.methodLink RX4 84 yX1_writeAlong, Cond.instanceMethod yX1_writeAlong, Cond.selects RX1 yX1_writeAlong yX1_writeAlong, Cond.code yX1_writeAlong cX1_writeAlong 5 none, Cond.fieldLink RX1 9 "GraveyardReader$Disk" "numbers" "[I", Cond.methodLink RX1 30 yX0_at, Cond.instanceMethod yX0_at, Cond.selects RX0 yX0_at yX0_at, Cond.code yX0_at cX0_at 2 (some .int), Cond.methodLink RX4 91 yX4_readClaims, Cond.instanceMethod yX4_readClaims, Cond.selects RX4 yX4_readClaims yX4_readClaims, Cond.code yX4_readClaims cX4_readClaims 3 none, Cond.methodLink RX4 201 yX4_readClaim, Cond.instanceMethod yX4_readClaim, Cond.selects RX4 yX4_readClaim yX4_readClaim, Cond.code yX4_readClaim cX4_readClaim 5 none, Cond.methodLink RX4 104 yX0_at]
def wsX4_grow_r5 : List Cond := [Cond.methodLink RX4 110 yX0_clear, Cond.instanceMethod yX0_clear, Cond.selects RX0 yX0_clear yX0_clear, Cond.code yX0_clear cX0_clear 1 none, Cond.methodLink RX4 205 yX1_isFree, Cond.instanceMethod yX1_isFree, Cond.selects RX1 yX1_isFree yX1_isFree, Cond.code yX1_isFree cX1_isFree 2 (some .boolean), Cond.methodLink RX4 209 yX4_trustIn, Cond.instanceMethod yX4_trustIn, Cond.selects RX4 yX4_trustIn yX4_trustIn, Cond.code yX4_trustIn cX4_trustIn 5 (some .int), Cond.methodLink RX4 121 yX1_sumOf, Cond.instanceMethod yX1_sumOf, Cond.selects RX1 yX1_sumOf yX1_sumOf, Cond.code yX1_sumOf cX1_sumOf 4 (some .int), Cond.methodLink RX1 38 yX1_readAlong, Cond.instanceMethod yX1_readAlong, Cond.selects RX1 yX1_readAlong yX1_readAlong, Cond.code yX1_readAlong cX1_readAlong 3 (some .int), Cond.methodLink RX1 34 yX1_read, Cond.instanceMethod yX1_read, Cond.selects RX1 yX1_read yX1_read, Cond.code yX1_read cX1_read 4 (some .int)]
def wsX4_grow_r6 : List Cond := [Cond.methodLink RX4 113 yX1_readAlong]
def wsX4_grow : List Cond := .code yX4_grow cX4_grow 4 (some .int) :: ((wsX4_grow_r1 ++ (wsX4_grow_r2 ++ (wsX4_grow_r3 ++ (wsX4_grow_r4 ++ (wsX4_grow_r5 ++ wsX4_grow_r6))))) ++ wsX20 ++ wsX00 ++ wsX40 ++ wsJx4a65c0 ++ wsX10 ++ (vx_atS RX4 58 "java/lang/IllegalStateException" ["java/lang/RuntimeException", "java/lang/Exception"]).filter goodWord ++ (vx_atS RX4 184 "java/lang/IndexOutOfBoundsException" ["java/lang/RuntimeException", "java/lang/Exception"]).filter goodWord)
def wsX4_move_r1 : List Cond := [Cond.classLink RX4 54 "java/lang/IllegalStateException", Cond.initialized "java/lang/IllegalStateException", Cond.fieldLink RX4 10 "GraveyardReader" "disk" "LGraveyardReader$Disk;", Cond.fieldLink RX4 33 "GraveyardReader" "spareChain" "LGraveyardReader$ClusterRow;", Cond.methodLink RX4 94 yX4_livingFile, Cond.instanceMethod yX4_livingFile, Cond.selects RX4 yX4_livingFile yX4_livingFile, Cond.initialized RX4, Cond.code yX4_livingFile cX4_livingFile 3 (some (.object "GraveyardReader$DiskFile")), Cond.methodLink RX4 143 yX4_knownFile, Cond.instanceMethod yX4_knownFile, Cond.selects RX4 yX4_knownFile yX4_knownFile, Cond.code yX4_knownFile cX4_knownFile 2 (some (.object "GraveyardReader$DiskFile")), Cond.classLink RX4 180 "java/lang/IndexOutOfBoundsException", Cond.initialized "java/lang/IndexOutOfBoundsException", Cond.fieldLink RX4 19 "GraveyardReader" "made" "Ljava/util/ArrayList;", Cond.classLink RX4 64 "GraveyardReader$DiskFile", Cond.methodLink RX4 50 yJx4a65c_size_8abf5, Cond.instanceMethod yJx4a65c_size_8abf5, Cond.selects RJx4a65c yJx4a65c_size_8abf5 yJx4a65c_size_8abf5, Cond.initialized RJx4a65c, Cond.code yJx4a65c_size_8abf5 cJx4a65c_size_8abf5 1 (some .int), Cond.fieldLink RJx4a65c 48 "java/util/ArrayList" "size" "I", Cond.methodLink RX4 167 yJx4a65c_get_915e3]
def wsX4_move_r2 : List Cond := [Cond.instanceMethod yJx4a65c_get_915e3, Cond.selects RJx4a65c yJx4a65c_get_915e3 yJx4a65c_get_915e3, Cond.code yJx4a65c_get_915e3 cJx4a65c_get_915e3 2 (some (.object "java/lang/Object")), Cond.methodLink RJx4a65c 118 yJ15_checkIndex_7cf53, Cond.static yJ15_checkIndex_7cf53, Cond.initialized RJ15, Cond.code yJ15_checkIndex_7cf53 cJ15_checkIndex_7cf53 2 (some .int), Cond.methodLink RJ15 105 yJ3_checkIndex_8e157, Cond.static yJ3_checkIndex_8e157, Cond.initialized RJ3, Cond.code yJ3_checkIndex_8e157 cJ3_checkIndex_8e157 3 (some .int), Cond.methodLink RJx4a65c 123 yJx4a65c_elementData_915e3, Cond.instanceMethod yJx4a65c_elementData_915e3, Cond.selects RJx4a65c yJx4a65c_elementData_915e3 yJx4a65c_elementData_915e3, Cond.code yJx4a65c_elementData_915e3 cJx4a65c_elementData_915e3 2 (some (.object "java/lang/Object")), Cond.fieldLink RJx4a65c 9 "java/util/ArrayList" "elementData" "[Ljava/lang/Object;", Cond.methodLink RX4 149 yX2_isThrown, Cond.instanceMethod yX2_isThrown, Cond.selects RX2 yX2_isThrown yX2_isThrown, Cond.initialized RX2, Cond.code yX2_isThrown cX2_isThrown 1 (some .boolean), Cond.fieldLink RX2 22 "GraveyardReader$DiskFile" "thrownAs" "I", Cond.methodLink RX4 59 yX1_countFree, Cond.instanceMethod yX1_countFree]
def wsX4_move_r3 : List Cond := [Cond.selects RX1 yX1_countFree yX1_countFree, Cond.initialized RX1, Cond.code yX1_countFree cX1_countFree 3 (some .int), Cond.fieldLink RX1 15 "GraveyardReader$Disk" "holders" "[I", Cond.methodLink RX4 110 yX0_clear, Cond.instanceMethod yX0_clear, Cond.selects RX0 yX0_clear yX0_clear, Cond.initialized RX0, Cond.code yX0_clear cX0_clear 1 none, Cond.fieldLink RX0 15 "GraveyardReader$ClusterRow" "size" "I", Cond.methodLink RX4 76 yX4_takeClusters, Cond.instanceMethod yX4_takeClusters, Cond.selects RX4 yX4_takeClusters yX4_takeClusters, Cond.code yX4_takeClusters cX4_takeClusters 5 none, Cond.methodLink RX4 193 yX1_takeLowest, Cond.instanceMethod yX1_takeLowest, Cond.selects RX1 yX1_takeLowest yX1_takeLowest, Cond.code yX1_takeLowest cX1_takeLowest 3 (some .int), Cond.methodLink RX4 196 yX0_add, Cond.instanceMethod yX0_add, Cond.selects RX0 yX0_add yX0_add, Cond.code yX0_add cX0_add 2 none, Cond.fieldLink RX0 9 "GraveyardReader$ClusterRow" "row" "[I", Cond.methodLink RX4 113 yX1_readAlong]
def wsX4_move_r4 : List Cond := [Cond.instanceMethod yX1_readAlong, Cond.selects RX1 yX1_readAlong yX1_readAlong, Cond.code yX1_readAlong cX1_readAlong 3 (some .int), Cond.methodLink RX1 30 yX0_at, Cond.instanceMethod yX0_at, Cond.selects RX0 yX0_at yX0_at, Cond.code yX0_at cX0_at 2 (some .int), Cond.methodLink RX1 34 yX1_read, Cond.instanceMethod yX1_read, Cond.selects RX1 yX1_read yX1_read, Cond.code yX1_read cX1_read 4 (some .int), Cond.fieldLink RX1 9 "GraveyardReader$Disk" "numbers" "[I", Cond.methodLink RX4 84 yX1_writeAlong, Cond.instanceMethod yX1_writeAlong, Cond.selects RX1 yX1_writeAlong yX1_writeAlong, Cond.code yX1_writeAlong cX1_writeAlong 5 none, Cond.methodLink RX4 117 yX1_release, Cond.instanceMethod yX1_release, Cond.selects RX1 yX1_release yX1_release, Cond.code yX1_release cX1_release 4 none, Cond.methodLink RX4 91 yX4_readClaims, Cond.instanceMethod yX4_readClaims, Cond.selects RX4 yX4_readClaims yX4_readClaims, Cond.code yX4_readClaims cX4_readClaims 3 none]
def wsX4_move_r5 : List Cond := [Cond.methodLink RX4 201 yX4_readClaim, Cond.instanceMethod yX4_readClaim, Cond.selects RX4 yX4_readClaim yX4_readClaim, Cond.code yX4_readClaim cX4_readClaim 5 none, Cond.methodLink RX4 104 yX0_at, Cond.methodLink RX4 205 yX1_isFree, Cond.instanceMethod yX1_isFree, Cond.selects RX1 yX1_isFree yX1_isFree, Cond.code yX1_isFree cX1_isFree 2 (some .boolean), Cond.methodLink RX4 209 yX4_trustIn, Cond.instanceMethod yX4_trustIn, Cond.selects RX4 yX4_trustIn yX4_trustIn, Cond.code yX4_trustIn cX4_trustIn 5 (some .int), Cond.methodLink RX4 121 yX1_sumOf, Cond.instanceMethod yX1_sumOf, Cond.selects RX1 yX1_sumOf yX1_sumOf, Cond.code yX1_sumOf cX1_sumOf 4 (some .int), Cond.methodLink RX1 38 yX1_readAlong]
def wsX4_move : List Cond := .code yX4_move cX4_move 6 (some .int) :: ((wsX4_move_r1 ++ (wsX4_move_r2 ++ (wsX4_move_r3 ++ (wsX4_move_r4 ++ wsX4_move_r5)))) ++ wsX20 ++ wsX40 ++ wsX00 ++ wsJx4a65c0 ++ wsX10 ++ (vx_atS RX4 58 "java/lang/IllegalStateException" ["java/lang/RuntimeException", "java/lang/Exception"]).filter goodWord ++ (vx_atS RX4 184 "java/lang/IndexOutOfBoundsException" ["java/lang/RuntimeException", "java/lang/Exception"]).filter goodWord)
def wsX4_throwAway_r1 : List Cond := [Cond.fieldLink RX4 10 "GraveyardReader" "disk" "LGraveyardReader$Disk;", Cond.fieldLink RX4 37 "GraveyardReader" "thrownCount" "I", Cond.methodLink RX4 94 yX4_livingFile, Cond.instanceMethod yX4_livingFile, Cond.selects RX4 yX4_livingFile yX4_livingFile, Cond.initialized RX4, Cond.code yX4_livingFile cX4_livingFile 3 (some (.object "GraveyardReader$DiskFile")), Cond.classLink RX4 54 "java/lang/IllegalStateException", Cond.initialized "java/lang/IllegalStateException", Cond.methodLink RX4 143 yX4_knownFile, Cond.instanceMethod yX4_knownFile, Cond.selects RX4 yX4_knownFile yX4_knownFile, Cond.code yX4_knownFile cX4_knownFile 2 (some (.object "GraveyardReader$DiskFile")), Cond.classLink RX4 180 "java/lang/IndexOutOfBoundsException", Cond.initialized "java/lang/IndexOutOfBoundsException", Cond.fieldLink RX4 19 "GraveyardReader" "made" "Ljava/util/ArrayList;", Cond.classLink RX4 64 "GraveyardReader$DiskFile", Cond.methodLink RX4 50 yJx4a65c_size_8abf5, Cond.instanceMethod yJx4a65c_size_8abf5, Cond.selects RJx4a65c yJx4a65c_size_8abf5 yJx4a65c_size_8abf5, Cond.initialized RJx4a65c, Cond.code yJx4a65c_size_8abf5 cJx4a65c_size_8abf5 1 (some .int), Cond.fieldLink RJx4a65c 48 "java/util/ArrayList" "size" "I", Cond.methodLink RX4 167 yJx4a65c_get_915e3]
def wsX4_throwAway_r2 : List Cond := [Cond.instanceMethod yJx4a65c_get_915e3, Cond.selects RJx4a65c yJx4a65c_get_915e3 yJx4a65c_get_915e3, Cond.code yJx4a65c_get_915e3 cJx4a65c_get_915e3 2 (some (.object "java/lang/Object")), Cond.methodLink RJx4a65c 118 yJ15_checkIndex_7cf53, Cond.static yJ15_checkIndex_7cf53, Cond.initialized RJ15, Cond.code yJ15_checkIndex_7cf53 cJ15_checkIndex_7cf53 2 (some .int), Cond.methodLink RJ15 105 yJ3_checkIndex_8e157, Cond.static yJ3_checkIndex_8e157, Cond.initialized RJ3, Cond.code yJ3_checkIndex_8e157 cJ3_checkIndex_8e157 3 (some .int), Cond.methodLink RJx4a65c 123 yJx4a65c_elementData_915e3, Cond.instanceMethod yJx4a65c_elementData_915e3, Cond.selects RJx4a65c yJx4a65c_elementData_915e3 yJx4a65c_elementData_915e3, Cond.code yJx4a65c_elementData_915e3 cJx4a65c_elementData_915e3 2 (some (.object "java/lang/Object")), Cond.fieldLink RJx4a65c 9 "java/util/ArrayList" "elementData" "[Ljava/lang/Object;", Cond.methodLink RX4 149 yX2_isThrown, Cond.instanceMethod yX2_isThrown, Cond.selects RX2 yX2_isThrown yX2_isThrown, Cond.initialized RX2, Cond.code yX2_isThrown cX2_isThrown 1 (some .boolean), Cond.fieldLink RX2 22 "GraveyardReader$DiskFile" "thrownAs" "I", Cond.methodLink RX4 121 yX1_sumOf, Cond.instanceMethod yX1_sumOf]
def wsX4_throwAway_r3 : List Cond := [Cond.selects RX1 yX1_sumOf yX1_sumOf, Cond.initialized RX1, Cond.code yX1_sumOf cX1_sumOf 4 (some .int), Cond.methodLink RX1 38 yX1_readAlong, Cond.instanceMethod yX1_readAlong, Cond.selects RX1 yX1_readAlong yX1_readAlong, Cond.code yX1_readAlong cX1_readAlong 3 (some .int), Cond.methodLink RX1 30 yX0_at, Cond.instanceMethod yX0_at, Cond.selects RX0 yX0_at yX0_at, Cond.initialized RX0, Cond.code yX0_at cX0_at 2 (some .int), Cond.fieldLink RX0 15 "GraveyardReader$ClusterRow" "size" "I", Cond.fieldLink RX0 9 "GraveyardReader$ClusterRow" "row" "[I", Cond.methodLink RX1 34 yX1_read, Cond.instanceMethod yX1_read, Cond.selects RX1 yX1_read yX1_read, Cond.code yX1_read cX1_read 4 (some .int), Cond.fieldLink RX1 9 "GraveyardReader$Disk" "numbers" "[I", Cond.methodLink RX4 117 yX1_release, Cond.instanceMethod yX1_release, Cond.selects RX1 yX1_release yX1_release, Cond.code yX1_release cX1_release 4 none, Cond.fieldLink RX1 15 "GraveyardReader$Disk" "holders" "[I"]
def wsX4_throwAway_r4 : List Cond := [Cond.methodLink RX4 91 yX4_readClaims, Cond.instanceMethod yX4_readClaims, Cond.selects RX4 yX4_readClaims yX4_readClaims, Cond.code yX4_readClaims cX4_readClaims 3 none, Cond.methodLink RX4 201 yX4_readClaim, Cond.instanceMethod yX4_readClaim, Cond.selects RX4 yX4_readClaim yX4_readClaim, Cond.code yX4_readClaim cX4_readClaim 5 none, Cond.methodLink RX4 104 yX0_at, Cond.methodLink RX4 110 yX0_clear, Cond.instanceMethod yX0_clear, Cond.selects RX0 yX0_clear yX0_clear, Cond.code yX0_clear cX0_clear 1 none, Cond.methodLink RX4 205 yX1_isFree, Cond.instanceMethod yX1_isFree, Cond.selects RX1 yX1_isFree yX1_isFree, Cond.code yX1_isFree cX1_isFree 2 (some .boolean), Cond.methodLink RX4 196 yX0_add, Cond.instanceMethod yX0_add, Cond.selects RX0 yX0_add yX0_add, Cond.code yX0_add cX0_add 2 none, Cond.methodLink RX4 209 yX4_trustIn, Cond.instanceMethod yX4_trustIn, Cond.selects RX4 yX4_trustIn yX4_trustIn]
def wsX4_throwAway_r5 : List Cond := [Cond.code yX4_trustIn cX4_trustIn 5 (some .int), Cond.methodLink RX4 113 yX1_readAlong, Cond.methodLink RX4 59 yX1_countFree, Cond.instanceMethod yX1_countFree, Cond.selects RX1 yX1_countFree yX1_countFree, Cond.code yX1_countFree cX1_countFree 3 (some .int)]
def wsX4_throwAway : List Cond := .code yX4_throwAway cX4_throwAway 3 (some .int) :: ((wsX4_throwAway_r1 ++ (wsX4_throwAway_r2 ++ (wsX4_throwAway_r3 ++ (wsX4_throwAway_r4 ++ wsX4_throwAway_r5)))) ++ wsX40 ++ wsX20 ++ wsJx4a65c0 ++ wsX00 ++ wsX10 ++ (vx_atS RX4 58 "java/lang/IllegalStateException" ["java/lang/RuntimeException", "java/lang/Exception"]).filter goodWord ++ (vx_atS RX4 184 "java/lang/IndexOutOfBoundsException" ["java/lang/RuntimeException", "java/lang/Exception"]).filter goodWord)
def wsX4_files : List Cond := .code yX4_files cX4_files 1 (some .int) :: ([.fieldLink RX4 19 "GraveyardReader" "made" "Ljava/util/ArrayList;", .methodLink RX4 50 yJx4a65c_size_8abf5, .instanceMethod yJx4a65c_size_8abf5, .selects RJx4a65c yJx4a65c_size_8abf5 yJx4a65c_size_8abf5, .initialized RJx4a65c, .code yJx4a65c_size_8abf5 cJx4a65c_size_8abf5 1 (some .int), .fieldLink RJx4a65c 48 "java/util/ArrayList" "size" "I"] ++ wsX40 ++ wsJx4a65c0)
def wsX4_free : List Cond := .code yX4_free cX4_free 1 (some .int) :: ([.fieldLink RX4 10 "GraveyardReader" "disk" "LGraveyardReader$Disk;", .methodLink RX4 59 yX1_countFree, .instanceMethod yX1_countFree, .selects RX1 yX1_countFree yX1_countFree, .initialized RX1, .code yX1_countFree cX1_countFree 3 (some .int), .fieldLink RX1 15 "GraveyardReader$Disk" "holders" "[I"] ++ wsX40 ++ wsX10)
def wsX4_requireCluster : List Cond := .code yX4_requireCluster cX4_requireCluster 1 none :: ([.classLink RX4 180 "java/lang/IndexOutOfBoundsException", .initialized "java/lang/IndexOutOfBoundsException"] ++ (vx_atS RX4 184 "java/lang/IndexOutOfBoundsException" ["java/lang/RuntimeException", "java/lang/Exception"]).filter goodWord)
def wsX4_number : List Cond := .code yX4_number cX4_number 3 (some .int) :: ([.classLink RX4 41 "java/lang/IllegalArgumentException", .initialized "java/lang/IllegalArgumentException", .fieldLink RX4 10 "GraveyardReader" "disk" "LGraveyardReader$Disk;", .methodLink RX4 131 yX4_requireCluster, .static yX4_requireCluster, .initialized RX4, .code yX4_requireCluster cX4_requireCluster 1 none, .classLink RX4 180 "java/lang/IndexOutOfBoundsException", .initialized "java/lang/IndexOutOfBoundsException", .methodLink RX4 136 yX1_read, .instanceMethod yX1_read, .selects RX1 yX1_read yX1_read, .initialized RX1, .code yX1_read cX1_read 4 (some .int), .fieldLink RX1 9 "GraveyardReader$Disk" "numbers" "[I"] ++ wsX40 ++ wsX10 ++ (vx_atS RX4 45 "java/lang/IllegalArgumentException" ["java/lang/RuntimeException", "java/lang/Exception"]).filter goodWord ++ (vx_atS RX4 184 "java/lang/IndexOutOfBoundsException" ["java/lang/RuntimeException", "java/lang/Exception"]).filter goodWord)
def wsX4_fileOf : List Cond := .code yX4_fileOf cX4_fileOf 2 (some .int) :: ([.fieldLink RX4 10 "GraveyardReader" "disk" "LGraveyardReader$Disk;", .methodLink RX4 131 yX4_requireCluster, .static yX4_requireCluster, .initialized RX4, .code yX4_requireCluster cX4_requireCluster 1 none, .classLink RX4 180 "java/lang/IndexOutOfBoundsException", .initialized "java/lang/IndexOutOfBoundsException", .methodLink RX4 140 yX1_holderOf, .instanceMethod yX1_holderOf, .selects RX1 yX1_holderOf yX1_holderOf, .initialized RX1, .code yX1_holderOf cX1_holderOf 2 (some .int), .fieldLink RX1 15 "GraveyardReader$Disk" "holders" "[I"] ++ wsX40 ++ wsX10 ++ (vx_atS RX4 184 "java/lang/IndexOutOfBoundsException" ["java/lang/RuntimeException", "java/lang/Exception"]).filter goodWord)
def wsX4_clusters_r1 : List Cond := [Cond.methodLink RX4 143 yX4_knownFile, Cond.instanceMethod yX4_knownFile, Cond.selects RX4 yX4_knownFile yX4_knownFile, Cond.initialized RX4, Cond.code yX4_knownFile cX4_knownFile 2 (some (.object "GraveyardReader$DiskFile")), Cond.classLink RX4 180 "java/lang/IndexOutOfBoundsException", Cond.initialized "java/lang/IndexOutOfBoundsException", Cond.fieldLink RX4 19 "GraveyardReader" "made" "Ljava/util/ArrayList;", Cond.classLink RX4 64 "GraveyardReader$DiskFile", Cond.methodLink RX4 50 yJx4a65c_size_8abf5, Cond.instanceMethod yJx4a65c_size_8abf5, Cond.selects RJx4a65c yJx4a65c_size_8abf5 yJx4a65c_size_8abf5, Cond.initialized RJx4a65c, Cond.code yJx4a65c_size_8abf5 cJx4a65c_size_8abf5 1 (some .int), Cond.fieldLink RJx4a65c 48 "java/util/ArrayList" "size" "I", Cond.methodLink RX4 167 yJx4a65c_get_915e3, Cond.instanceMethod yJx4a65c_get_915e3, Cond.selects RJx4a65c yJx4a65c_get_915e3 yJx4a65c_get_915e3, Cond.code yJx4a65c_get_915e3 cJx4a65c_get_915e3 2 (some (.object "java/lang/Object")), Cond.methodLink RJx4a65c 118 yJ15_checkIndex_7cf53, Cond.static yJ15_checkIndex_7cf53, Cond.initialized RJ15, Cond.code yJ15_checkIndex_7cf53 cJ15_checkIndex_7cf53 2 (some .int), Cond.methodLink RJ15 105 yJ3_checkIndex_8e157]
def wsX4_clusters_r2 : List Cond := [Cond.static yJ3_checkIndex_8e157, Cond.initialized RJ3, Cond.code yJ3_checkIndex_8e157 cJ3_checkIndex_8e157 3 (some .int), Cond.methodLink RJx4a65c 123 yJx4a65c_elementData_915e3, Cond.instanceMethod yJx4a65c_elementData_915e3, Cond.selects RJx4a65c yJx4a65c_elementData_915e3 yJx4a65c_elementData_915e3, Cond.code yJx4a65c_elementData_915e3 cJx4a65c_elementData_915e3 2 (some (.object "java/lang/Object")), Cond.fieldLink RJx4a65c 9 "java/util/ArrayList" "elementData" "[Ljava/lang/Object;"]
def wsX4_clusters : List Cond := .code yX4_clusters cX4_clusters 2 (some .int) :: ((wsX4_clusters_r1 ++ wsX4_clusters_r2) ++ wsX20 ++ wsX00 ++ wsX40 ++ wsJx4a65c0 ++ (vx_atS RX4 184 "java/lang/IndexOutOfBoundsException" ["java/lang/RuntimeException", "java/lang/Exception"]).filter goodWord)
def wsX4_requirePlaceInChain : List Cond := .code yX4_requirePlaceInChain cX4_requirePlaceInChain 2 none :: ([.classLink RX4 41 "java/lang/IllegalArgumentException", .initialized "java/lang/IllegalArgumentException"] ++ wsX20 ++ wsX00 ++ (vx_atS RX4 45 "java/lang/IllegalArgumentException" ["java/lang/RuntimeException", "java/lang/Exception"]).filter goodWord)
def wsX4_clusterAt_r1 : List Cond := [Cond.methodLink RX4 143 yX4_knownFile, Cond.instanceMethod yX4_knownFile, Cond.selects RX4 yX4_knownFile yX4_knownFile, Cond.initialized RX4, Cond.code yX4_knownFile cX4_knownFile 2 (some (.object "GraveyardReader$DiskFile")), Cond.classLink RX4 180 "java/lang/IndexOutOfBoundsException", Cond.initialized "java/lang/IndexOutOfBoundsException", Cond.fieldLink RX4 19 "GraveyardReader" "made" "Ljava/util/ArrayList;", Cond.classLink RX4 64 "GraveyardReader$DiskFile", Cond.methodLink RX4 50 yJx4a65c_size_8abf5, Cond.instanceMethod yJx4a65c_size_8abf5, Cond.selects RJx4a65c yJx4a65c_size_8abf5 yJx4a65c_size_8abf5, Cond.initialized RJx4a65c, Cond.code yJx4a65c_size_8abf5 cJx4a65c_size_8abf5 1 (some .int), Cond.fieldLink RJx4a65c 48 "java/util/ArrayList" "size" "I", Cond.methodLink RX4 167 yJx4a65c_get_915e3, Cond.instanceMethod yJx4a65c_get_915e3, Cond.selects RJx4a65c yJx4a65c_get_915e3 yJx4a65c_get_915e3, Cond.code yJx4a65c_get_915e3 cJx4a65c_get_915e3 2 (some (.object "java/lang/Object")), Cond.methodLink RJx4a65c 118 yJ15_checkIndex_7cf53, Cond.static yJ15_checkIndex_7cf53, Cond.initialized RJ15, Cond.code yJ15_checkIndex_7cf53 cJ15_checkIndex_7cf53 2 (some .int), Cond.methodLink RJ15 105 yJ3_checkIndex_8e157]
def wsX4_clusterAt_r2 : List Cond := [Cond.static yJ3_checkIndex_8e157, Cond.initialized RJ3, Cond.code yJ3_checkIndex_8e157 cJ3_checkIndex_8e157 3 (some .int), Cond.methodLink RJx4a65c 123 yJx4a65c_elementData_915e3, Cond.instanceMethod yJx4a65c_elementData_915e3, Cond.selects RJx4a65c yJx4a65c_elementData_915e3 yJx4a65c_elementData_915e3, Cond.code yJx4a65c_elementData_915e3 cJx4a65c_elementData_915e3 2 (some (.object "java/lang/Object")), Cond.fieldLink RJx4a65c 9 "java/util/ArrayList" "elementData" "[Ljava/lang/Object;", Cond.methodLink RX4 146 yX4_requirePlaceInChain, Cond.static yX4_requirePlaceInChain, Cond.code yX4_requirePlaceInChain cX4_requirePlaceInChain 2 none, Cond.classLink RX4 41 "java/lang/IllegalArgumentException", Cond.initialized "java/lang/IllegalArgumentException", Cond.methodLink RX4 94 yX4_livingFile, Cond.instanceMethod yX4_livingFile, Cond.selects RX4 yX4_livingFile yX4_livingFile, Cond.code yX4_livingFile cX4_livingFile 3 (some (.object "GraveyardReader$DiskFile")), Cond.classLink RX4 54 "java/lang/IllegalStateException", Cond.initialized "java/lang/IllegalStateException", Cond.methodLink RX4 149 yX2_isThrown, Cond.instanceMethod yX2_isThrown, Cond.selects RX2 yX2_isThrown yX2_isThrown, Cond.initialized RX2, Cond.code yX2_isThrown cX2_isThrown 1 (some .boolean)]
def wsX4_clusterAt_r3 : List Cond := [Cond.fieldLink RX2 22 "GraveyardReader$DiskFile" "thrownAs" "I", Cond.methodLink RX4 104 yX0_at, Cond.instanceMethod yX0_at, Cond.selects RX0 yX0_at yX0_at, Cond.initialized RX0, Cond.code yX0_at cX0_at 2 (some .int), Cond.fieldLink RX0 15 "GraveyardReader$ClusterRow" "size" "I", Cond.fieldLink RX0 9 "GraveyardReader$ClusterRow" "row" "[I"]
def wsX4_clusterAt : List Cond := .code yX4_clusterAt cX4_clusterAt 4 (some .int) :: ((wsX4_clusterAt_r1 ++ (wsX4_clusterAt_r2 ++ wsX4_clusterAt_r3)) ++ wsX20 ++ wsX40 ++ wsJx4a65c0 ++ wsX00 ++ (vx_atS RX4 184 "java/lang/IndexOutOfBoundsException" ["java/lang/RuntimeException", "java/lang/Exception"]).filter goodWord ++ (vx_atS RX4 45 "java/lang/IllegalArgumentException" ["java/lang/RuntimeException", "java/lang/Exception"]).filter goodWord ++ (vx_atS RX4 58 "java/lang/IllegalStateException" ["java/lang/RuntimeException", "java/lang/Exception"]).filter goodWord)
def wsX4_checksum_r1 : List Cond := [Cond.fieldLink RX4 10 "GraveyardReader" "disk" "LGraveyardReader$Disk;", Cond.methodLink RX4 143 yX4_knownFile, Cond.instanceMethod yX4_knownFile, Cond.selects RX4 yX4_knownFile yX4_knownFile, Cond.initialized RX4, Cond.code yX4_knownFile cX4_knownFile 2 (some (.object "GraveyardReader$DiskFile")), Cond.classLink RX4 180 "java/lang/IndexOutOfBoundsException", Cond.initialized "java/lang/IndexOutOfBoundsException", Cond.fieldLink RX4 19 "GraveyardReader" "made" "Ljava/util/ArrayList;", Cond.classLink RX4 64 "GraveyardReader$DiskFile", Cond.methodLink RX4 50 yJx4a65c_size_8abf5, Cond.instanceMethod yJx4a65c_size_8abf5, Cond.selects RJx4a65c yJx4a65c_size_8abf5 yJx4a65c_size_8abf5, Cond.initialized RJx4a65c, Cond.code yJx4a65c_size_8abf5 cJx4a65c_size_8abf5 1 (some .int), Cond.fieldLink RJx4a65c 48 "java/util/ArrayList" "size" "I", Cond.methodLink RX4 167 yJx4a65c_get_915e3, Cond.instanceMethod yJx4a65c_get_915e3, Cond.selects RJx4a65c yJx4a65c_get_915e3 yJx4a65c_get_915e3, Cond.code yJx4a65c_get_915e3 cJx4a65c_get_915e3 2 (some (.object "java/lang/Object")), Cond.methodLink RJx4a65c 118 yJ15_checkIndex_7cf53, Cond.static yJ15_checkIndex_7cf53, Cond.initialized RJ15, Cond.code yJ15_checkIndex_7cf53 cJ15_checkIndex_7cf53 2 (some .int)]
def wsX4_checksum_r2 : List Cond := [Cond.methodLink RJ15 105 yJ3_checkIndex_8e157, Cond.static yJ3_checkIndex_8e157, Cond.initialized RJ3, Cond.code yJ3_checkIndex_8e157 cJ3_checkIndex_8e157 3 (some .int), Cond.methodLink RJx4a65c 123 yJx4a65c_elementData_915e3, Cond.instanceMethod yJx4a65c_elementData_915e3, Cond.selects RJx4a65c yJx4a65c_elementData_915e3 yJx4a65c_elementData_915e3, Cond.code yJx4a65c_elementData_915e3 cJx4a65c_elementData_915e3 2 (some (.object "java/lang/Object")), Cond.fieldLink RJx4a65c 9 "java/util/ArrayList" "elementData" "[Ljava/lang/Object;", Cond.methodLink RX4 149 yX2_isThrown, Cond.instanceMethod yX2_isThrown, Cond.selects RX2 yX2_isThrown yX2_isThrown, Cond.initialized RX2, Cond.code yX2_isThrown cX2_isThrown 1 (some .boolean), Cond.fieldLink RX2 22 "GraveyardReader$DiskFile" "thrownAs" "I", Cond.methodLink RX4 121 yX1_sumOf, Cond.instanceMethod yX1_sumOf, Cond.selects RX1 yX1_sumOf yX1_sumOf, Cond.initialized RX1, Cond.code yX1_sumOf cX1_sumOf 4 (some .int), Cond.methodLink RX1 38 yX1_readAlong, Cond.instanceMethod yX1_readAlong, Cond.selects RX1 yX1_readAlong yX1_readAlong, Cond.code yX1_readAlong cX1_readAlong 3 (some .int)]
def wsX4_checksum_r3 : List Cond := [Cond.methodLink RX1 30 yX0_at, Cond.instanceMethod yX0_at, Cond.selects RX0 yX0_at yX0_at, Cond.initialized RX0, Cond.code yX0_at cX0_at 2 (some .int), Cond.fieldLink RX0 15 "GraveyardReader$ClusterRow" "size" "I", Cond.fieldLink RX0 9 "GraveyardReader$ClusterRow" "row" "[I", Cond.methodLink RX1 34 yX1_read, Cond.instanceMethod yX1_read, Cond.selects RX1 yX1_read yX1_read, Cond.code yX1_read cX1_read 4 (some .int), Cond.fieldLink RX1 9 "GraveyardReader$Disk" "numbers" "[I"]
def wsX4_checksum : List Cond := .code yX4_checksum cX4_checksum 3 (some .int) :: ((wsX4_checksum_r1 ++ (wsX4_checksum_r2 ++ wsX4_checksum_r3)) ++ wsX20 ++ wsX40 ++ wsJx4a65c0 ++ wsX00 ++ wsX10 ++ (vx_atS RX4 184 "java/lang/IndexOutOfBoundsException" ["java/lang/RuntimeException", "java/lang/Exception"]).filter goodWord)
def wsX4_thrownFile_r1 : List Cond := [Cond.classLink RX4 54 "java/lang/IllegalStateException", Cond.initialized "java/lang/IllegalStateException", Cond.methodLink RX4 143 yX4_knownFile, Cond.instanceMethod yX4_knownFile, Cond.selects RX4 yX4_knownFile yX4_knownFile, Cond.initialized RX4, Cond.code yX4_knownFile cX4_knownFile 2 (some (.object "GraveyardReader$DiskFile")), Cond.classLink RX4 180 "java/lang/IndexOutOfBoundsException", Cond.initialized "java/lang/IndexOutOfBoundsException", Cond.fieldLink RX4 19 "GraveyardReader" "made" "Ljava/util/ArrayList;", Cond.classLink RX4 64 "GraveyardReader$DiskFile", Cond.methodLink RX4 50 yJx4a65c_size_8abf5, Cond.instanceMethod yJx4a65c_size_8abf5, Cond.selects RJx4a65c yJx4a65c_size_8abf5 yJx4a65c_size_8abf5, Cond.initialized RJx4a65c, Cond.code yJx4a65c_size_8abf5 cJx4a65c_size_8abf5 1 (some .int), Cond.fieldLink RJx4a65c 48 "java/util/ArrayList" "size" "I", Cond.methodLink RX4 167 yJx4a65c_get_915e3, Cond.instanceMethod yJx4a65c_get_915e3, Cond.selects RJx4a65c yJx4a65c_get_915e3 yJx4a65c_get_915e3, Cond.code yJx4a65c_get_915e3 cJx4a65c_get_915e3 2 (some (.object "java/lang/Object")), Cond.methodLink RJx4a65c 118 yJ15_checkIndex_7cf53, Cond.static yJ15_checkIndex_7cf53, Cond.initialized RJ15]
def wsX4_thrownFile_r2 : List Cond := [Cond.code yJ15_checkIndex_7cf53 cJ15_checkIndex_7cf53 2 (some .int), Cond.methodLink RJ15 105 yJ3_checkIndex_8e157, Cond.static yJ3_checkIndex_8e157, Cond.initialized RJ3, Cond.code yJ3_checkIndex_8e157 cJ3_checkIndex_8e157 3 (some .int), Cond.methodLink RJx4a65c 123 yJx4a65c_elementData_915e3, Cond.instanceMethod yJx4a65c_elementData_915e3, Cond.selects RJx4a65c yJx4a65c_elementData_915e3 yJx4a65c_elementData_915e3, Cond.code yJx4a65c_elementData_915e3 cJx4a65c_elementData_915e3 2 (some (.object "java/lang/Object")), Cond.fieldLink RJx4a65c 9 "java/util/ArrayList" "elementData" "[Ljava/lang/Object;", Cond.methodLink RX4 149 yX2_isThrown, Cond.instanceMethod yX2_isThrown, Cond.selects RX2 yX2_isThrown yX2_isThrown, Cond.initialized RX2, Cond.code yX2_isThrown cX2_isThrown 1 (some .boolean), Cond.fieldLink RX2 22 "GraveyardReader$DiskFile" "thrownAs" "I"]
def wsX4_thrownFile : List Cond := .code yX4_thrownFile cX4_thrownFile 3 (some (.object "GraveyardReader$DiskFile")) :: ((wsX4_thrownFile_r1 ++ wsX4_thrownFile_r2) ++ wsX40 ++ wsJx4a65c0 ++ wsX20 ++ (vx_atS RX4 58 "java/lang/IllegalStateException" ["java/lang/RuntimeException", "java/lang/Exception"]).filter goodWord ++ (vx_atS RX4 184 "java/lang/IndexOutOfBoundsException" ["java/lang/RuntimeException", "java/lang/Exception"]).filter goodWord)
def wsX4_claimed_r1 : List Cond := [Cond.methodLink RX4 153 yX4_thrownFile, Cond.instanceMethod yX4_thrownFile, Cond.selects RX4 yX4_thrownFile yX4_thrownFile, Cond.initialized RX4, Cond.code yX4_thrownFile cX4_thrownFile 3 (some (.object "GraveyardReader$DiskFile")), Cond.classLink RX4 54 "java/lang/IllegalStateException", Cond.initialized "java/lang/IllegalStateException", Cond.methodLink RX4 143 yX4_knownFile, Cond.instanceMethod yX4_knownFile, Cond.selects RX4 yX4_knownFile yX4_knownFile, Cond.code yX4_knownFile cX4_knownFile 2 (some (.object "GraveyardReader$DiskFile")), Cond.classLink RX4 180 "java/lang/IndexOutOfBoundsException", Cond.initialized "java/lang/IndexOutOfBoundsException", Cond.fieldLink RX4 19 "GraveyardReader" "made" "Ljava/util/ArrayList;", Cond.classLink RX4 64 "GraveyardReader$DiskFile", Cond.methodLink RX4 50 yJx4a65c_size_8abf5, Cond.instanceMethod yJx4a65c_size_8abf5, Cond.selects RJx4a65c yJx4a65c_size_8abf5 yJx4a65c_size_8abf5, Cond.initialized RJx4a65c, Cond.code yJx4a65c_size_8abf5 cJx4a65c_size_8abf5 1 (some .int), Cond.fieldLink RJx4a65c 48 "java/util/ArrayList" "size" "I", Cond.methodLink RX4 167 yJx4a65c_get_915e3, Cond.instanceMethod yJx4a65c_get_915e3, Cond.selects RJx4a65c yJx4a65c_get_915e3 yJx4a65c_get_915e3]
def wsX4_claimed_r2 : List Cond := [Cond.code yJx4a65c_get_915e3 cJx4a65c_get_915e3 2 (some (.object "java/lang/Object")), Cond.methodLink RJx4a65c 118 yJ15_checkIndex_7cf53, Cond.static yJ15_checkIndex_7cf53, Cond.initialized RJ15, Cond.code yJ15_checkIndex_7cf53 cJ15_checkIndex_7cf53 2 (some .int), Cond.methodLink RJ15 105 yJ3_checkIndex_8e157, Cond.static yJ3_checkIndex_8e157, Cond.initialized RJ3, Cond.code yJ3_checkIndex_8e157 cJ3_checkIndex_8e157 3 (some .int), Cond.methodLink RJx4a65c 123 yJx4a65c_elementData_915e3, Cond.instanceMethod yJx4a65c_elementData_915e3, Cond.selects RJx4a65c yJx4a65c_elementData_915e3 yJx4a65c_elementData_915e3, Cond.code yJx4a65c_elementData_915e3 cJx4a65c_elementData_915e3 2 (some (.object "java/lang/Object")), Cond.fieldLink RJx4a65c 9 "java/util/ArrayList" "elementData" "[Ljava/lang/Object;", Cond.methodLink RX4 149 yX2_isThrown, Cond.instanceMethod yX2_isThrown, Cond.selects RX2 yX2_isThrown yX2_isThrown, Cond.initialized RX2, Cond.code yX2_isThrown cX2_isThrown 1 (some .boolean), Cond.fieldLink RX2 22 "GraveyardReader$DiskFile" "thrownAs" "I"]
def wsX4_claimed : List Cond := .code yX4_claimed cX4_claimed 2 (some .int) :: ((wsX4_claimed_r1 ++ wsX4_claimed_r2) ++ wsX20 ++ wsX00 ++ wsX40 ++ wsJx4a65c0 ++ (vx_atS RX4 58 "java/lang/IllegalStateException" ["java/lang/RuntimeException", "java/lang/Exception"]).filter goodWord ++ (vx_atS RX4 184 "java/lang/IndexOutOfBoundsException" ["java/lang/RuntimeException", "java/lang/Exception"]).filter goodWord)
def wsX4_claimAt_r1 : List Cond := [Cond.classLink RX4 41 "java/lang/IllegalArgumentException", Cond.initialized "java/lang/IllegalArgumentException", Cond.methodLink RX4 143 yX4_knownFile, Cond.instanceMethod yX4_knownFile, Cond.selects RX4 yX4_knownFile yX4_knownFile, Cond.initialized RX4, Cond.code yX4_knownFile cX4_knownFile 2 (some (.object "GraveyardReader$DiskFile")), Cond.classLink RX4 180 "java/lang/IndexOutOfBoundsException", Cond.initialized "java/lang/IndexOutOfBoundsException", Cond.fieldLink RX4 19 "GraveyardReader" "made" "Ljava/util/ArrayList;", Cond.classLink RX4 64 "GraveyardReader$DiskFile", Cond.methodLink RX4 50 yJx4a65c_size_8abf5, Cond.instanceMethod yJx4a65c_size_8abf5, Cond.selects RJx4a65c yJx4a65c_size_8abf5 yJx4a65c_size_8abf5, Cond.initialized RJx4a65c, Cond.code yJx4a65c_size_8abf5 cJx4a65c_size_8abf5 1 (some .int), Cond.fieldLink RJx4a65c 48 "java/util/ArrayList" "size" "I", Cond.methodLink RX4 167 yJx4a65c_get_915e3, Cond.instanceMethod yJx4a65c_get_915e3, Cond.selects RJx4a65c yJx4a65c_get_915e3 yJx4a65c_get_915e3, Cond.code yJx4a65c_get_915e3 cJx4a65c_get_915e3 2 (some (.object "java/lang/Object")), Cond.methodLink RJx4a65c 118 yJ15_checkIndex_7cf53, Cond.static yJ15_checkIndex_7cf53, Cond.initialized RJ15]
def wsX4_claimAt_r2 : List Cond := [Cond.code yJ15_checkIndex_7cf53 cJ15_checkIndex_7cf53 2 (some .int), Cond.methodLink RJ15 105 yJ3_checkIndex_8e157, Cond.static yJ3_checkIndex_8e157, Cond.initialized RJ3, Cond.code yJ3_checkIndex_8e157 cJ3_checkIndex_8e157 3 (some .int), Cond.methodLink RJx4a65c 123 yJx4a65c_elementData_915e3, Cond.instanceMethod yJx4a65c_elementData_915e3, Cond.selects RJx4a65c yJx4a65c_elementData_915e3 yJx4a65c_elementData_915e3, Cond.code yJx4a65c_elementData_915e3 cJx4a65c_elementData_915e3 2 (some (.object "java/lang/Object")), Cond.fieldLink RJx4a65c 9 "java/util/ArrayList" "elementData" "[Ljava/lang/Object;", Cond.methodLink RX4 153 yX4_thrownFile, Cond.instanceMethod yX4_thrownFile, Cond.selects RX4 yX4_thrownFile yX4_thrownFile, Cond.code yX4_thrownFile cX4_thrownFile 3 (some (.object "GraveyardReader$DiskFile")), Cond.classLink RX4 54 "java/lang/IllegalStateException", Cond.initialized "java/lang/IllegalStateException", Cond.methodLink RX4 149 yX2_isThrown, Cond.instanceMethod yX2_isThrown, Cond.selects RX2 yX2_isThrown yX2_isThrown, Cond.initialized RX2, Cond.code yX2_isThrown cX2_isThrown 1 (some .boolean), Cond.fieldLink RX2 22 "GraveyardReader$DiskFile" "thrownAs" "I", Cond.methodLink RX4 104 yX0_at, Cond.instanceMethod yX0_at]
def wsX4_claimAt_r3 : List Cond := [Cond.selects RX0 yX0_at yX0_at, Cond.initialized RX0, Cond.code yX0_at cX0_at 2 (some .int), Cond.fieldLink RX0 15 "GraveyardReader$ClusterRow" "size" "I", Cond.fieldLink RX0 9 "GraveyardReader$ClusterRow" "row" "[I"]
def wsX4_claimAt : List Cond := .code yX4_claimAt cX4_claimAt 3 (some .int) :: ((wsX4_claimAt_r1 ++ (wsX4_claimAt_r2 ++ wsX4_claimAt_r3)) ++ wsX20 ++ wsX40 ++ wsJx4a65c0 ++ wsX00 ++ (vx_atS RX4 45 "java/lang/IllegalArgumentException" ["java/lang/RuntimeException", "java/lang/Exception"]).filter goodWord ++ (vx_atS RX4 184 "java/lang/IndexOutOfBoundsException" ["java/lang/RuntimeException", "java/lang/Exception"]).filter goodWord ++ (vx_atS RX4 58 "java/lang/IllegalStateException" ["java/lang/RuntimeException", "java/lang/Exception"]).filter goodWord)
def wsX4_confidence_r1 : List Cond := [Cond.methodLink RX4 153 yX4_thrownFile, Cond.instanceMethod yX4_thrownFile, Cond.selects RX4 yX4_thrownFile yX4_thrownFile, Cond.initialized RX4, Cond.code yX4_thrownFile cX4_thrownFile 3 (some (.object "GraveyardReader$DiskFile")), Cond.classLink RX4 54 "java/lang/IllegalStateException", Cond.initialized "java/lang/IllegalStateException", Cond.methodLink RX4 143 yX4_knownFile, Cond.instanceMethod yX4_knownFile, Cond.selects RX4 yX4_knownFile yX4_knownFile, Cond.code yX4_knownFile cX4_knownFile 2 (some (.object "GraveyardReader$DiskFile")), Cond.classLink RX4 180 "java/lang/IndexOutOfBoundsException", Cond.initialized "java/lang/IndexOutOfBoundsException", Cond.fieldLink RX4 19 "GraveyardReader" "made" "Ljava/util/ArrayList;", Cond.classLink RX4 64 "GraveyardReader$DiskFile", Cond.methodLink RX4 50 yJx4a65c_size_8abf5, Cond.instanceMethod yJx4a65c_size_8abf5, Cond.selects RJx4a65c yJx4a65c_size_8abf5 yJx4a65c_size_8abf5, Cond.initialized RJx4a65c, Cond.code yJx4a65c_size_8abf5 cJx4a65c_size_8abf5 1 (some .int), Cond.fieldLink RJx4a65c 48 "java/util/ArrayList" "size" "I", Cond.methodLink RX4 167 yJx4a65c_get_915e3, Cond.instanceMethod yJx4a65c_get_915e3, Cond.selects RJx4a65c yJx4a65c_get_915e3 yJx4a65c_get_915e3]
def wsX4_confidence_r2 : List Cond := [Cond.code yJx4a65c_get_915e3 cJx4a65c_get_915e3 2 (some (.object "java/lang/Object")), Cond.methodLink RJx4a65c 118 yJ15_checkIndex_7cf53, Cond.static yJ15_checkIndex_7cf53, Cond.initialized RJ15, Cond.code yJ15_checkIndex_7cf53 cJ15_checkIndex_7cf53 2 (some .int), Cond.methodLink RJ15 105 yJ3_checkIndex_8e157, Cond.static yJ3_checkIndex_8e157, Cond.initialized RJ3, Cond.code yJ3_checkIndex_8e157 cJ3_checkIndex_8e157 3 (some .int), Cond.methodLink RJx4a65c 123 yJx4a65c_elementData_915e3, Cond.instanceMethod yJx4a65c_elementData_915e3, Cond.selects RJx4a65c yJx4a65c_elementData_915e3 yJx4a65c_elementData_915e3, Cond.code yJx4a65c_elementData_915e3 cJx4a65c_elementData_915e3 2 (some (.object "java/lang/Object")), Cond.fieldLink RJx4a65c 9 "java/util/ArrayList" "elementData" "[Ljava/lang/Object;", Cond.methodLink RX4 149 yX2_isThrown, Cond.instanceMethod yX2_isThrown, Cond.selects RX2 yX2_isThrown yX2_isThrown, Cond.initialized RX2, Cond.code yX2_isThrown cX2_isThrown 1 (some .boolean), Cond.fieldLink RX2 22 "GraveyardReader$DiskFile" "thrownAs" "I"]
def wsX4_confidence : List Cond := .code yX4_confidence cX4_confidence 2 (some .int) :: ((wsX4_confidence_r1 ++ wsX4_confidence_r2) ++ wsX20 ++ wsX40 ++ wsJx4a65c0 ++ (vx_atS RX4 58 "java/lang/IllegalStateException" ["java/lang/RuntimeException", "java/lang/Exception"]).filter goodWord ++ (vx_atS RX4 184 "java/lang/IndexOutOfBoundsException" ["java/lang/RuntimeException", "java/lang/Exception"]).filter goodWord)
def wsX4_strongestClaimant_r1 : List Cond := [Cond.fieldLink RX4 19 "GraveyardReader" "made" "Ljava/util/ArrayList;", Cond.classLink RX4 64 "GraveyardReader$DiskFile", Cond.methodLink RX4 50 yJx4a65c_size_8abf5, Cond.instanceMethod yJx4a65c_size_8abf5, Cond.selects RJx4a65c yJx4a65c_size_8abf5 yJx4a65c_size_8abf5, Cond.initialized RJx4a65c, Cond.code yJx4a65c_size_8abf5 cJx4a65c_size_8abf5 1 (some .int), Cond.fieldLink RJx4a65c 48 "java/util/ArrayList" "size" "I", Cond.methodLink RX4 167 yJx4a65c_get_915e3, Cond.instanceMethod yJx4a65c_get_915e3, Cond.selects RJx4a65c yJx4a65c_get_915e3 yJx4a65c_get_915e3, Cond.code yJx4a65c_get_915e3 cJx4a65c_get_915e3 2 (some (.object "java/lang/Object")), Cond.methodLink RJx4a65c 118 yJ15_checkIndex_7cf53, Cond.static yJ15_checkIndex_7cf53, Cond.initialized RJ15, Cond.code yJ15_checkIndex_7cf53 cJ15_checkIndex_7cf53 2 (some .int), Cond.methodLink RJ15 105 yJ3_checkIndex_8e157, Cond.static yJ3_checkIndex_8e157, Cond.initialized RJ3, Cond.code yJ3_checkIndex_8e157 cJ3_checkIndex_8e157 3 (some .int), Cond.methodLink RJx4a65c 123 yJx4a65c_elementData_915e3, Cond.instanceMethod yJx4a65c_elementData_915e3, Cond.selects RJx4a65c yJx4a65c_elementData_915e3 yJx4a65c_elementData_915e3, Cond.code yJx4a65c_elementData_915e3 cJx4a65c_elementData_915e3 2 (some (.object "java/lang/Object"))]
def wsX4_strongestClaimant_r2 : List Cond := [Cond.fieldLink RJx4a65c 9 "java/util/ArrayList" "elementData" "[Ljava/lang/Object;", Cond.methodLink RX4 149 yX2_isThrown, Cond.instanceMethod yX2_isThrown, Cond.selects RX2 yX2_isThrown yX2_isThrown, Cond.initialized RX2, Cond.code yX2_isThrown cX2_isThrown 1 (some .boolean), Cond.fieldLink RX2 22 "GraveyardReader$DiskFile" "thrownAs" "I", Cond.methodLink RX4 212 yX0_holds, Cond.instanceMethod yX0_holds, Cond.selects RX0 yX0_holds yX0_holds, Cond.initialized RX0, Cond.code yX0_holds cX0_holds 3 (some .boolean), Cond.fieldLink RX0 15 "GraveyardReader$ClusterRow" "size" "I", Cond.methodLink RX0 19 yX0_at, Cond.instanceMethod yX0_at, Cond.selects RX0 yX0_at yX0_at, Cond.code yX0_at cX0_at 2 (some .int), Cond.fieldLink RX0 9 "GraveyardReader$ClusterRow" "row" "[I"]
def wsX4_strongestClaimant : List Cond := .code yX4_strongestClaimant cX4_strongestClaimant 7 (some .int) :: ((wsX4_strongestClaimant_r1 ++ wsX4_strongestClaimant_r2) ++ wsX40 ++ wsX20 ++ wsJx4a65c0 ++ wsX00)
def wsX4_ownerOf_r1 : List Cond := [Cond.methodLink RX4 131 yX4_requireCluster, Cond.static yX4_requireCluster, Cond.initialized RX4, Cond.code yX4_requireCluster cX4_requireCluster 1 none, Cond.classLink RX4 180 "java/lang/IndexOutOfBoundsException", Cond.initialized "java/lang/IndexOutOfBoundsException", Cond.methodLink RX4 164 yX4_strongestClaimant, Cond.instanceMethod yX4_strongestClaimant, Cond.selects RX4 yX4_strongestClaimant yX4_strongestClaimant, Cond.code yX4_strongestClaimant cX4_strongestClaimant 7 (some .int), Cond.fieldLink RX4 19 "GraveyardReader" "made" "Ljava/util/ArrayList;", Cond.classLink RX4 64 "GraveyardReader$DiskFile", Cond.methodLink RX4 50 yJx4a65c_size_8abf5, Cond.instanceMethod yJx4a65c_size_8abf5, Cond.selects RJx4a65c yJx4a65c_size_8abf5 yJx4a65c_size_8abf5, Cond.initialized RJx4a65c, Cond.code yJx4a65c_size_8abf5 cJx4a65c_size_8abf5 1 (some .int), Cond.fieldLink RJx4a65c 48 "java/util/ArrayList" "size" "I", Cond.methodLink RX4 167 yJx4a65c_get_915e3, Cond.instanceMethod yJx4a65c_get_915e3, Cond.selects RJx4a65c yJx4a65c_get_915e3 yJx4a65c_get_915e3, Cond.code yJx4a65c_get_915e3 cJx4a65c_get_915e3 2 (some (.object "java/lang/Object")), Cond.methodLink RJx4a65c 118 yJ15_checkIndex_7cf53, Cond.static yJ15_checkIndex_7cf53]
def wsX4_ownerOf_r2 : List Cond := [Cond.initialized RJ15, Cond.code yJ15_checkIndex_7cf53 cJ15_checkIndex_7cf53 2 (some .int), Cond.methodLink RJ15 105 yJ3_checkIndex_8e157, Cond.static yJ3_checkIndex_8e157, Cond.initialized RJ3, Cond.code yJ3_checkIndex_8e157 cJ3_checkIndex_8e157 3 (some .int), Cond.methodLink RJx4a65c 123 yJx4a65c_elementData_915e3, Cond.instanceMethod yJx4a65c_elementData_915e3, Cond.selects RJx4a65c yJx4a65c_elementData_915e3 yJx4a65c_elementData_915e3, Cond.code yJx4a65c_elementData_915e3 cJx4a65c_elementData_915e3 2 (some (.object "java/lang/Object")), Cond.fieldLink RJx4a65c 9 "java/util/ArrayList" "elementData" "[Ljava/lang/Object;", Cond.methodLink RX4 149 yX2_isThrown, Cond.instanceMethod yX2_isThrown, Cond.selects RX2 yX2_isThrown yX2_isThrown, Cond.initialized RX2, Cond.code yX2_isThrown cX2_isThrown 1 (some .boolean), Cond.fieldLink RX2 22 "GraveyardReader$DiskFile" "thrownAs" "I", Cond.methodLink RX4 212 yX0_holds, Cond.instanceMethod yX0_holds, Cond.selects RX0 yX0_holds yX0_holds, Cond.initialized RX0, Cond.code yX0_holds cX0_holds 3 (some .boolean), Cond.fieldLink RX0 15 "GraveyardReader$ClusterRow" "size" "I", Cond.methodLink RX0 19 yX0_at]
def wsX4_ownerOf_r3 : List Cond := [Cond.instanceMethod yX0_at, Cond.selects RX0 yX0_at yX0_at, Cond.code yX0_at cX0_at 2 (some .int), Cond.fieldLink RX0 9 "GraveyardReader$ClusterRow" "row" "[I"]
def wsX4_ownerOf : List Cond := .code yX4_ownerOf cX4_ownerOf 2 (some .int) :: ((wsX4_ownerOf_r1 ++ (wsX4_ownerOf_r2 ++ wsX4_ownerOf_r3)) ++ wsX40 ++ wsX20 ++ wsJx4a65c0 ++ wsX00 ++ (vx_atS RX4 184 "java/lang/IndexOutOfBoundsException" ["java/lang/RuntimeException", "java/lang/Exception"]).filter goodWord)
def wsX4_owned_r1 : List Cond := [Cond.methodLink RX4 153 yX4_thrownFile, Cond.instanceMethod yX4_thrownFile, Cond.selects RX4 yX4_thrownFile yX4_thrownFile, Cond.initialized RX4, Cond.code yX4_thrownFile cX4_thrownFile 3 (some (.object "GraveyardReader$DiskFile")), Cond.classLink RX4 54 "java/lang/IllegalStateException", Cond.initialized "java/lang/IllegalStateException", Cond.methodLink RX4 143 yX4_knownFile, Cond.instanceMethod yX4_knownFile, Cond.selects RX4 yX4_knownFile yX4_knownFile, Cond.code yX4_knownFile cX4_knownFile 2 (some (.object "GraveyardReader$DiskFile")), Cond.classLink RX4 180 "java/lang/IndexOutOfBoundsException", Cond.initialized "java/lang/IndexOutOfBoundsException", Cond.fieldLink RX4 19 "GraveyardReader" "made" "Ljava/util/ArrayList;", Cond.classLink RX4 64 "GraveyardReader$DiskFile", Cond.methodLink RX4 50 yJx4a65c_size_8abf5, Cond.instanceMethod yJx4a65c_size_8abf5, Cond.selects RJx4a65c yJx4a65c_size_8abf5 yJx4a65c_size_8abf5, Cond.initialized RJx4a65c, Cond.code yJx4a65c_size_8abf5 cJx4a65c_size_8abf5 1 (some .int), Cond.fieldLink RJx4a65c 48 "java/util/ArrayList" "size" "I", Cond.methodLink RX4 167 yJx4a65c_get_915e3, Cond.instanceMethod yJx4a65c_get_915e3, Cond.selects RJx4a65c yJx4a65c_get_915e3 yJx4a65c_get_915e3]
def wsX4_owned_r2 : List Cond := [Cond.code yJx4a65c_get_915e3 cJx4a65c_get_915e3 2 (some (.object "java/lang/Object")), Cond.methodLink RJx4a65c 118 yJ15_checkIndex_7cf53, Cond.static yJ15_checkIndex_7cf53, Cond.initialized RJ15, Cond.code yJ15_checkIndex_7cf53 cJ15_checkIndex_7cf53 2 (some .int), Cond.methodLink RJ15 105 yJ3_checkIndex_8e157, Cond.static yJ3_checkIndex_8e157, Cond.initialized RJ3, Cond.code yJ3_checkIndex_8e157 cJ3_checkIndex_8e157 3 (some .int), Cond.methodLink RJx4a65c 123 yJx4a65c_elementData_915e3, Cond.instanceMethod yJx4a65c_elementData_915e3, Cond.selects RJx4a65c yJx4a65c_elementData_915e3 yJx4a65c_elementData_915e3, Cond.code yJx4a65c_elementData_915e3 cJx4a65c_elementData_915e3 2 (some (.object "java/lang/Object")), Cond.fieldLink RJx4a65c 9 "java/util/ArrayList" "elementData" "[Ljava/lang/Object;", Cond.methodLink RX4 149 yX2_isThrown, Cond.instanceMethod yX2_isThrown, Cond.selects RX2 yX2_isThrown yX2_isThrown, Cond.initialized RX2, Cond.code yX2_isThrown cX2_isThrown 1 (some .boolean), Cond.fieldLink RX2 22 "GraveyardReader$DiskFile" "thrownAs" "I", Cond.methodLink RX4 104 yX0_at, Cond.instanceMethod yX0_at, Cond.selects RX0 yX0_at yX0_at, Cond.initialized RX0]
def wsX4_owned_r3 : List Cond := [Cond.code yX0_at cX0_at 2 (some .int), Cond.fieldLink RX0 15 "GraveyardReader$ClusterRow" "size" "I", Cond.fieldLink RX0 9 "GraveyardReader$ClusterRow" "row" "[I", Cond.methodLink RX4 164 yX4_strongestClaimant, Cond.instanceMethod yX4_strongestClaimant, Cond.selects RX4 yX4_strongestClaimant yX4_strongestClaimant, Cond.code yX4_strongestClaimant cX4_strongestClaimant 7 (some .int), Cond.methodLink RX4 212 yX0_holds, Cond.instanceMethod yX0_holds, Cond.selects RX0 yX0_holds yX0_holds, Cond.code yX0_holds cX0_holds 3 (some .boolean), Cond.methodLink RX0 19 yX0_at]
def wsX4_owned : List Cond := .code yX4_owned cX4_owned 5 (some .int) :: ((wsX4_owned_r1 ++ (wsX4_owned_r2 ++ wsX4_owned_r3)) ++ wsX20 ++ wsX00 ++ wsX40 ++ wsJx4a65c0 ++ (vx_atS RX4 58 "java/lang/IllegalStateException" ["java/lang/RuntimeException", "java/lang/Exception"]).filter goodWord ++ (vx_atS RX4 184 "java/lang/IndexOutOfBoundsException" ["java/lang/RuntimeException", "java/lang/Exception"]).filter goodWord)
def wsX4_sure_r1 : List Cond := [Cond.fieldLink RX4 19 "GraveyardReader" "made" "Ljava/util/ArrayList;", Cond.classLink RX4 64 "GraveyardReader$DiskFile", Cond.methodLink RX4 50 yJx4a65c_size_8abf5, Cond.instanceMethod yJx4a65c_size_8abf5, Cond.selects RJx4a65c yJx4a65c_size_8abf5 yJx4a65c_size_8abf5, Cond.initialized RJx4a65c, Cond.code yJx4a65c_size_8abf5 cJx4a65c_size_8abf5 1 (some .int), Cond.fieldLink RJx4a65c 48 "java/util/ArrayList" "size" "I", Cond.methodLink RX4 167 yJx4a65c_get_915e3, Cond.instanceMethod yJx4a65c_get_915e3, Cond.selects RJx4a65c yJx4a65c_get_915e3 yJx4a65c_get_915e3, Cond.code yJx4a65c_get_915e3 cJx4a65c_get_915e3 2 (some (.object "java/lang/Object")), Cond.methodLink RJx4a65c 118 yJ15_checkIndex_7cf53, Cond.static yJ15_checkIndex_7cf53, Cond.initialized RJ15, Cond.code yJ15_checkIndex_7cf53 cJ15_checkIndex_7cf53 2 (some .int), Cond.methodLink RJ15 105 yJ3_checkIndex_8e157, Cond.static yJ3_checkIndex_8e157, Cond.initialized RJ3, Cond.code yJ3_checkIndex_8e157 cJ3_checkIndex_8e157 3 (some .int), Cond.methodLink RJx4a65c 123 yJx4a65c_elementData_915e3, Cond.instanceMethod yJx4a65c_elementData_915e3, Cond.selects RJx4a65c yJx4a65c_elementData_915e3 yJx4a65c_elementData_915e3, Cond.code yJx4a65c_elementData_915e3 cJx4a65c_elementData_915e3 2 (some (.object "java/lang/Object"))]
def wsX4_sure_r2 : List Cond := [Cond.fieldLink RJx4a65c 9 "java/util/ArrayList" "elementData" "[Ljava/lang/Object;", Cond.methodLink RX4 149 yX2_isThrown, Cond.instanceMethod yX2_isThrown, Cond.selects RX2 yX2_isThrown yX2_isThrown, Cond.initialized RX2, Cond.code yX2_isThrown cX2_isThrown 1 (some .boolean), Cond.fieldLink RX2 22 "GraveyardReader$DiskFile" "thrownAs" "I"]
def wsX4_sure : List Cond := .code yX4_sure cX4_sure 4 (some .int) :: ((wsX4_sure_r1 ++ wsX4_sure_r2) ++ wsX40 ++ wsX20 ++ wsJx4a65c0)
def wsX4_hasJoin_r1 : List Cond := [Cond.fieldLink RX4 26 "GraveyardReader" "joins" "LGraveyardReader$JoinSearch;", Cond.fieldLink RX4 10 "GraveyardReader" "disk" "LGraveyardReader$Disk;", Cond.methodLink RX4 153 yX4_thrownFile, Cond.instanceMethod yX4_thrownFile, Cond.selects RX4 yX4_thrownFile yX4_thrownFile, Cond.initialized RX4, Cond.code yX4_thrownFile cX4_thrownFile 3 (some (.object "GraveyardReader$DiskFile")), Cond.classLink RX4 54 "java/lang/IllegalStateException", Cond.initialized "java/lang/IllegalStateException", Cond.methodLink RX4 143 yX4_knownFile, Cond.instanceMethod yX4_knownFile, Cond.selects RX4 yX4_knownFile yX4_knownFile, Cond.code yX4_knownFile cX4_knownFile 2 (some (.object "GraveyardReader$DiskFile")), Cond.classLink RX4 180 "java/lang/IndexOutOfBoundsException", Cond.initialized "java/lang/IndexOutOfBoundsException", Cond.fieldLink RX4 19 "GraveyardReader" "made" "Ljava/util/ArrayList;", Cond.classLink RX4 64 "GraveyardReader$DiskFile", Cond.methodLink RX4 50 yJx4a65c_size_8abf5, Cond.instanceMethod yJx4a65c_size_8abf5, Cond.selects RJx4a65c yJx4a65c_size_8abf5 yJx4a65c_size_8abf5, Cond.initialized RJx4a65c, Cond.code yJx4a65c_size_8abf5 cJx4a65c_size_8abf5 1 (some .int), Cond.fieldLink RJx4a65c 48 "java/util/ArrayList" "size" "I", Cond.methodLink RX4 167 yJx4a65c_get_915e3]
def wsX4_hasJoin_r2 : List Cond := [Cond.instanceMethod yJx4a65c_get_915e3, Cond.selects RJx4a65c yJx4a65c_get_915e3 yJx4a65c_get_915e3, Cond.code yJx4a65c_get_915e3 cJx4a65c_get_915e3 2 (some (.object "java/lang/Object")), Cond.methodLink RJx4a65c 118 yJ15_checkIndex_7cf53, Cond.static yJ15_checkIndex_7cf53, Cond.initialized RJ15, Cond.code yJ15_checkIndex_7cf53 cJ15_checkIndex_7cf53 2 (some .int), Cond.methodLink RJ15 105 yJ3_checkIndex_8e157, Cond.static yJ3_checkIndex_8e157, Cond.initialized RJ3, Cond.code yJ3_checkIndex_8e157 cJ3_checkIndex_8e157 3 (some .int), Cond.methodLink RJx4a65c 123 yJx4a65c_elementData_915e3, Cond.instanceMethod yJx4a65c_elementData_915e3, Cond.selects RJx4a65c yJx4a65c_elementData_915e3 yJx4a65c_elementData_915e3, Cond.code yJx4a65c_elementData_915e3 cJx4a65c_elementData_915e3 2 (some (.object "java/lang/Object")), Cond.fieldLink RJx4a65c 9 "java/util/ArrayList" "elementData" "[Ljava/lang/Object;", Cond.methodLink RX4 149 yX2_isThrown, Cond.instanceMethod yX2_isThrown, Cond.selects RX2 yX2_isThrown yX2_isThrown, Cond.initialized RX2, Cond.code yX2_isThrown cX2_isThrown 1 (some .boolean), Cond.fieldLink RX2 22 "GraveyardReader$DiskFile" "thrownAs" "I", Cond.methodLink RX4 171 yX3_find, Cond.instanceMethod yX3_find]
def wsX4_hasJoin_r3 : List Cond := [Cond.selects RX3 yX3_find yX3_find, Cond.initialized RX3, Cond.code yX3_find cX3_find 4 (some .boolean), Cond.fieldLink RX3 28 "GraveyardReader$JoinSearch" "length" "I", Cond.fieldLink RX3 32 "GraveyardReader$JoinSearch" "first" "I", Cond.fieldLink RX3 35 "GraveyardReader$JoinSearch" "wantedSum" "I", Cond.methodLink RX3 49 yX0_at, Cond.instanceMethod yX0_at, Cond.selects RX0 yX0_at yX0_at, Cond.initialized RX0, Cond.code yX0_at cX0_at 2 (some .int), Cond.fieldLink RX0 15 "GraveyardReader$ClusterRow" "size" "I", Cond.fieldLink RX0 9 "GraveyardReader$ClusterRow" "row" "[I", Cond.methodLink RX3 56 yX1_isFree, Cond.instanceMethod yX1_isFree, Cond.selects RX1 yX1_isFree yX1_isFree, Cond.initialized RX1, Cond.code yX1_isFree cX1_isFree 2 (some .boolean), Cond.fieldLink RX1 15 "GraveyardReader$Disk" "holders" "[I", Cond.methodLink RX3 62 yX3_weigh, Cond.instanceMethod yX3_weigh, Cond.selects RX3 yX3_weigh yX3_weigh, Cond.code yX3_weigh cX3_weigh 7 none, Cond.fieldLink RX3 9 "GraveyardReader$JoinSearch" "plain" "[I"]
def wsX4_hasJoin_r4 : List Cond := [Cond.fieldLink RX3 15 "GraveyardReader$JoinSearch" "weighed" "[I", Cond.fieldLink RX3 18 "GraveyardReader$JoinSearch" "open" "[Z", Cond.fieldLink RX3 22 "GraveyardReader$JoinSearch" "ends" "[Z", Cond.methodLink RX3 70 yX1_read, Cond.instanceMethod yX1_read, Cond.selects RX1 yX1_read yX1_read, Cond.code yX1_read cX1_read 4 (some .int), Cond.fieldLink RX1 9 "GraveyardReader$Disk" "numbers" "[I", Cond.methodLink RX3 66 yX3_fill, Cond.instanceMethod yX3_fill, Cond.selects RX3 yX3_fill yX3_fill, Cond.code yX3_fill cX3_fill 6 (some .boolean), Cond.fieldLink RX3 25 "GraveyardReader$JoinSearch" "found" "[I", Cond.methodLink RX3 74 yX3_goesOn, Cond.instanceMethod yX3_goesOn, Cond.selects RX3 yX3_goesOn yX3_goesOn, Cond.code yX3_goesOn cX3_goesOn 5 (some .boolean)]
def wsX4_hasJoin : List Cond := .code yX4_hasJoin cX4_hasJoin 2 (some .boolean) :: ((wsX4_hasJoin_r1 ++ (wsX4_hasJoin_r2 ++ (wsX4_hasJoin_r3 ++ wsX4_hasJoin_r4))) ++ wsX40 ++ wsJx4a65c0 ++ wsX20 ++ wsX00 ++ wsX30 ++ wsX10 ++ (vx_atS RX4 58 "java/lang/IllegalStateException" ["java/lang/RuntimeException", "java/lang/Exception"]).filter goodWord ++ (vx_atS RX4 184 "java/lang/IndexOutOfBoundsException" ["java/lang/RuntimeException", "java/lang/Exception"]).filter goodWord)
def wsX4_joinAt_r1 : List Cond := [Cond.classLink RX4 54 "java/lang/IllegalStateException", Cond.initialized "java/lang/IllegalStateException", Cond.fieldLink RX4 26 "GraveyardReader" "joins" "LGraveyardReader$JoinSearch;", Cond.fieldLink RX4 10 "GraveyardReader" "disk" "LGraveyardReader$Disk;", Cond.methodLink RX4 143 yX4_knownFile, Cond.instanceMethod yX4_knownFile, Cond.selects RX4 yX4_knownFile yX4_knownFile, Cond.initialized RX4, Cond.code yX4_knownFile cX4_knownFile 2 (some (.object "GraveyardReader$DiskFile")), Cond.classLink RX4 180 "java/lang/IndexOutOfBoundsException", Cond.initialized "java/lang/IndexOutOfBoundsException", Cond.fieldLink RX4 19 "GraveyardReader" "made" "Ljava/util/ArrayList;", Cond.classLink RX4 64 "GraveyardReader$DiskFile", Cond.methodLink RX4 50 yJx4a65c_size_8abf5, Cond.instanceMethod yJx4a65c_size_8abf5, Cond.selects RJx4a65c yJx4a65c_size_8abf5 yJx4a65c_size_8abf5, Cond.initialized RJx4a65c, Cond.code yJx4a65c_size_8abf5 cJx4a65c_size_8abf5 1 (some .int), Cond.fieldLink RJx4a65c 48 "java/util/ArrayList" "size" "I", Cond.methodLink RX4 167 yJx4a65c_get_915e3, Cond.instanceMethod yJx4a65c_get_915e3, Cond.selects RJx4a65c yJx4a65c_get_915e3 yJx4a65c_get_915e3, Cond.code yJx4a65c_get_915e3 cJx4a65c_get_915e3 2 (some (.object "java/lang/Object")), Cond.methodLink RJx4a65c 118 yJ15_checkIndex_7cf53]
def wsX4_joinAt_r2 : List Cond := [Cond.static yJ15_checkIndex_7cf53, Cond.initialized RJ15, Cond.code yJ15_checkIndex_7cf53 cJ15_checkIndex_7cf53 2 (some .int), Cond.methodLink RJ15 105 yJ3_checkIndex_8e157, Cond.static yJ3_checkIndex_8e157, Cond.initialized RJ3, Cond.code yJ3_checkIndex_8e157 cJ3_checkIndex_8e157 3 (some .int), Cond.methodLink RJx4a65c 123 yJx4a65c_elementData_915e3, Cond.instanceMethod yJx4a65c_elementData_915e3, Cond.selects RJx4a65c yJx4a65c_elementData_915e3 yJx4a65c_elementData_915e3, Cond.code yJx4a65c_elementData_915e3 cJx4a65c_elementData_915e3 2 (some (.object "java/lang/Object")), Cond.fieldLink RJx4a65c 9 "java/util/ArrayList" "elementData" "[Ljava/lang/Object;", Cond.methodLink RX4 146 yX4_requirePlaceInChain, Cond.static yX4_requirePlaceInChain, Cond.code yX4_requirePlaceInChain cX4_requirePlaceInChain 2 none, Cond.classLink RX4 41 "java/lang/IllegalArgumentException", Cond.initialized "java/lang/IllegalArgumentException", Cond.methodLink RX4 153 yX4_thrownFile, Cond.instanceMethod yX4_thrownFile, Cond.selects RX4 yX4_thrownFile yX4_thrownFile, Cond.code yX4_thrownFile cX4_thrownFile 3 (some (.object "GraveyardReader$DiskFile")), Cond.methodLink RX4 149 yX2_isThrown, Cond.instanceMethod yX2_isThrown, Cond.selects RX2 yX2_isThrown yX2_isThrown]
def wsX4_joinAt_r3 : List Cond := [Cond.initialized RX2, Cond.code yX2_isThrown cX2_isThrown 1 (some .boolean), Cond.fieldLink RX2 22 "GraveyardReader$DiskFile" "thrownAs" "I", Cond.methodLink RX4 171 yX3_find, Cond.instanceMethod yX3_find, Cond.selects RX3 yX3_find yX3_find, Cond.initialized RX3, Cond.code yX3_find cX3_find 4 (some .boolean), Cond.fieldLink RX3 28 "GraveyardReader$JoinSearch" "length" "I", Cond.fieldLink RX3 32 "GraveyardReader$JoinSearch" "first" "I", Cond.fieldLink RX3 35 "GraveyardReader$JoinSearch" "wantedSum" "I", Cond.methodLink RX3 49 yX0_at, Cond.instanceMethod yX0_at, Cond.selects RX0 yX0_at yX0_at, Cond.initialized RX0, Cond.code yX0_at cX0_at 2 (some .int), Cond.fieldLink RX0 15 "GraveyardReader$ClusterRow" "size" "I", Cond.fieldLink RX0 9 "GraveyardReader$ClusterRow" "row" "[I", Cond.methodLink RX3 56 yX1_isFree, Cond.instanceMethod yX1_isFree, Cond.selects RX1 yX1_isFree yX1_isFree, Cond.initialized RX1, Cond.code yX1_isFree cX1_isFree 2 (some .boolean), Cond.fieldLink RX1 15 "GraveyardReader$Disk" "holders" "[I"]
def wsX4_joinAt_r4 : List Cond := [Cond.methodLink RX3 62 yX3_weigh, Cond.instanceMethod yX3_weigh, Cond.selects RX3 yX3_weigh yX3_weigh, Cond.code yX3_weigh cX3_weigh 7 none, Cond.fieldLink RX3 9 "GraveyardReader$JoinSearch" "plain" "[I", Cond.fieldLink RX3 15 "GraveyardReader$JoinSearch" "weighed" "[I", Cond.fieldLink RX3 18 "GraveyardReader$JoinSearch" "open" "[Z", Cond.fieldLink RX3 22 "GraveyardReader$JoinSearch" "ends" "[Z", Cond.methodLink RX3 70 yX1_read, Cond.instanceMethod yX1_read, Cond.selects RX1 yX1_read yX1_read, Cond.code yX1_read cX1_read 4 (some .int), Cond.fieldLink RX1 9 "GraveyardReader$Disk" "numbers" "[I", Cond.methodLink RX3 66 yX3_fill, Cond.instanceMethod yX3_fill, Cond.selects RX3 yX3_fill yX3_fill, Cond.code yX3_fill cX3_fill 6 (some .boolean), Cond.fieldLink RX3 25 "GraveyardReader$JoinSearch" "found" "[I", Cond.methodLink RX3 74 yX3_goesOn, Cond.instanceMethod yX3_goesOn, Cond.selects RX3 yX3_goesOn yX3_goesOn, Cond.code yX3_goesOn cX3_goesOn 5 (some .boolean), Cond.methodLink RX4 177 yX3_clusterFoundAt, Cond.instanceMethod yX3_clusterFoundAt]
def wsX4_joinAt_r5 : List Cond := [Cond.selects RX3 yX3_clusterFoundAt yX3_clusterFoundAt, Cond.code yX3_clusterFoundAt cX3_clusterFoundAt 2 (some .int)]
def wsX4_joinAt : List Cond := .code yX4_joinAt cX4_joinAt 3 (some .int) :: ((wsX4_joinAt_r1 ++ (wsX4_joinAt_r2 ++ (wsX4_joinAt_r3 ++ (wsX4_joinAt_r4 ++ wsX4_joinAt_r5)))) ++ wsX40 ++ wsJx4a65c0 ++ wsX20 ++ wsX00 ++ wsX30 ++ wsX10 ++ (vx_atS RX4 58 "java/lang/IllegalStateException" ["java/lang/RuntimeException", "java/lang/Exception"]).filter goodWord ++ (vx_atS RX4 184 "java/lang/IndexOutOfBoundsException" ["java/lang/RuntimeException", "java/lang/Exception"]).filter goodWord ++ (vx_atS RX4 45 "java/lang/IllegalArgumentException" ["java/lang/RuntimeException", "java/lang/Exception"]).filter goodWord)
def wsX5_init : List Cond := .code yX5_init cX5_init 2 none :: ([.methodLink RX5 1 objectInit, .instanceMethod objectInit, .code objectInit ⟨#[0xb1]⟩ 1 none, .arrayClass .int, .fieldLink RX5 7 "GraveyardReaderModel" "numbers" "[I", .fieldLink RX5 13 "GraveyardReaderModel" "owner" "[I", .fieldLink RX5 16 "GraveyardReaderModel" "seed" "[I", .fieldLink RX5 19 "GraveyardReaderModel" "many" "[I", .fieldLink RX5 22 "GraveyardReaderModel" "gone" "[I", .fieldLink RX5 25 "GraveyardReaderModel" "first" "[I", .fieldLink RX5 28 "GraveyardReaderModel" "sum" "[I", .fieldLink RX5 31 "GraveyardReaderModel" "chain" "[I", .fieldLink RX5 34 "GraveyardReaderModel" "claim" "[I", .fieldLink RX5 37 "GraveyardReaderModel" "join" "[I"] ++ wsX50)
def wsX5_thrown : List Cond := .code yX5_thrown cX5_thrown 1 (some .int) :: ([.fieldLink RX5 40 "GraveyardReaderModel" "thrown" "I"] ++ wsX50)
def wsX5_in : List Cond := .code yX5_in cX5_in 3 (some .boolean) :: ([])
def wsX5_goes : List Cond := .code yX5_goes cX5_goes 4 (some .boolean) :: ([.fieldLink RX5 40 "GraveyardReaderModel" "thrown" "I"] ++ wsX50)
def wsX5_told : List Cond := .code yX5_told cX5_told 2 (some .int) :: ([.fieldLink RX5 40 "GraveyardReaderModel" "thrown" "I"] ++ wsX50)
def wsX5_isFile : List Cond := .code yX5_isFile cX5_isFile 2 (some .boolean) :: ([.fieldLink RX5 44 "GraveyardReaderModel" "files" "I", .methodLink RX5 47 yX5_in, .static yX5_in, .initialized RX5, .code yX5_in cX5_in 3 (some .boolean)] ++ wsX50)
def wsX5_isCluster : List Cond := .code yX5_isCluster cX5_isCluster 1 (some .boolean) :: ([.methodLink RX5 47 yX5_in, .static yX5_in, .initialized RX5, .code yX5_in cX5_in 3 (some .boolean)])
def wsX5_isGone : List Cond := .code yX5_isGone cX5_isGone 2 (some .boolean) :: ([.fieldLink RX5 22 "GraveyardReaderModel" "gone" "[I"] ++ wsX50)
def wsX5_frees : List Cond := .code yX5_frees cX5_frees 3 (some .int) :: ([.fieldLink RX5 13 "GraveyardReaderModel" "owner" "[I"] ++ wsX50)
def wsX5_takes : List Cond := .code yX5_takes cX5_takes 3 (some .int) :: ([.fieldLink RX5 13 "GraveyardReaderModel" "owner" "[I"] ++ wsX50)
def wsX5_byRule : List Cond := .code yX5_byRule cX5_byRule 3 (some .int) :: ([.fieldLink RX5 16 "GraveyardReaderModel" "seed" "[I"] ++ wsX50)
def wsX5_place : List Cond := .code yX5_place cX5_place 3 (some .int) :: ([.fieldLink RX5 31 "GraveyardReaderModel" "chain" "[I"] ++ wsX50)
def wsX5_make_r1 : List Cond := [Cond.fieldLink RX5 44 "GraveyardReaderModel" "files" "I", Cond.fieldLink RX5 16 "GraveyardReaderModel" "seed" "[I", Cond.fieldLink RX5 19 "GraveyardReaderModel" "many" "[I", Cond.fieldLink RX5 31 "GraveyardReaderModel" "chain" "[I", Cond.fieldLink RX5 7 "GraveyardReaderModel" "numbers" "[I", Cond.methodLink RX5 47 yX5_in, Cond.static yX5_in, Cond.initialized RX5, Cond.code yX5_in cX5_in 3 (some .boolean), Cond.methodLink RX5 51 yX5_frees, Cond.instanceMethod yX5_frees, Cond.selects RX5 yX5_frees yX5_frees, Cond.code yX5_frees cX5_frees 3 (some .int), Cond.fieldLink RX5 13 "GraveyardReaderModel" "owner" "[I", Cond.methodLink RX5 55 yX5_goes, Cond.instanceMethod yX5_goes, Cond.selects RX5 yX5_goes yX5_goes, Cond.code yX5_goes cX5_goes 4 (some .boolean), Cond.fieldLink RX5 40 "GraveyardReaderModel" "thrown" "I", Cond.methodLink RX5 59 yX5_takes, Cond.instanceMethod yX5_takes, Cond.selects RX5 yX5_takes yX5_takes, Cond.code yX5_takes cX5_takes 3 (some .int), Cond.methodLink RX5 63 yX5_place]
def wsX5_make_r2 : List Cond := [Cond.instanceMethod yX5_place, Cond.selects RX5 yX5_place yX5_place, Cond.code yX5_place cX5_place 3 (some .int), Cond.methodLink RX5 67 yX5_byRule, Cond.instanceMethod yX5_byRule, Cond.selects RX5 yX5_byRule yX5_byRule, Cond.code yX5_byRule cX5_byRule 3 (some .int)]
def wsX5_make : List Cond := .code yX5_make cX5_make 5 (some .int) :: ((wsX5_make_r1 ++ wsX5_make_r2) ++ wsX50)
def wsX5_grow_r1 : List Cond := [Cond.fieldLink RX5 19 "GraveyardReaderModel" "many" "[I", Cond.fieldLink RX5 31 "GraveyardReaderModel" "chain" "[I", Cond.fieldLink RX5 7 "GraveyardReaderModel" "numbers" "[I", Cond.methodLink RX5 70 yX5_isFile, Cond.instanceMethod yX5_isFile, Cond.selects RX5 yX5_isFile yX5_isFile, Cond.initialized RX5, Cond.code yX5_isFile cX5_isFile 2 (some .boolean), Cond.fieldLink RX5 44 "GraveyardReaderModel" "files" "I", Cond.methodLink RX5 47 yX5_in, Cond.static yX5_in, Cond.code yX5_in cX5_in 3 (some .boolean), Cond.methodLink RX5 74 yX5_isGone, Cond.instanceMethod yX5_isGone, Cond.selects RX5 yX5_isGone yX5_isGone, Cond.code yX5_isGone cX5_isGone 2 (some .boolean), Cond.fieldLink RX5 22 "GraveyardReaderModel" "gone" "[I", Cond.methodLink RX5 51 yX5_frees, Cond.instanceMethod yX5_frees, Cond.selects RX5 yX5_frees yX5_frees, Cond.code yX5_frees cX5_frees 3 (some .int), Cond.fieldLink RX5 13 "GraveyardReaderModel" "owner" "[I", Cond.methodLink RX5 55 yX5_goes, Cond.instanceMethod yX5_goes]
def wsX5_grow_r2 : List Cond := [Cond.selects RX5 yX5_goes yX5_goes, Cond.code yX5_goes cX5_goes 4 (some .boolean), Cond.fieldLink RX5 40 "GraveyardReaderModel" "thrown" "I", Cond.methodLink RX5 59 yX5_takes, Cond.instanceMethod yX5_takes, Cond.selects RX5 yX5_takes yX5_takes, Cond.code yX5_takes cX5_takes 3 (some .int), Cond.methodLink RX5 63 yX5_place, Cond.instanceMethod yX5_place, Cond.selects RX5 yX5_place yX5_place, Cond.code yX5_place cX5_place 3 (some .int), Cond.methodLink RX5 67 yX5_byRule, Cond.instanceMethod yX5_byRule, Cond.selects RX5 yX5_byRule yX5_byRule, Cond.code yX5_byRule cX5_byRule 3 (some .int), Cond.fieldLink RX5 16 "GraveyardReaderModel" "seed" "[I"]
def wsX5_grow : List Cond := .code yX5_grow cX5_grow 6 (some .int) :: ((wsX5_grow_r1 ++ wsX5_grow_r2) ++ wsX50)
def wsX5_move_r1 : List Cond := [Cond.fieldLink RX5 19 "GraveyardReaderModel" "many" "[I", Cond.fieldLink RX5 31 "GraveyardReaderModel" "chain" "[I", Cond.fieldLink RX5 7 "GraveyardReaderModel" "numbers" "[I", Cond.fieldLink RX5 13 "GraveyardReaderModel" "owner" "[I", Cond.methodLink RX5 70 yX5_isFile, Cond.instanceMethod yX5_isFile, Cond.selects RX5 yX5_isFile yX5_isFile, Cond.initialized RX5, Cond.code yX5_isFile cX5_isFile 2 (some .boolean), Cond.fieldLink RX5 44 "GraveyardReaderModel" "files" "I", Cond.methodLink RX5 47 yX5_in, Cond.static yX5_in, Cond.code yX5_in cX5_in 3 (some .boolean), Cond.methodLink RX5 74 yX5_isGone, Cond.instanceMethod yX5_isGone, Cond.selects RX5 yX5_isGone yX5_isGone, Cond.code yX5_isGone cX5_isGone 2 (some .boolean), Cond.fieldLink RX5 22 "GraveyardReaderModel" "gone" "[I", Cond.methodLink RX5 51 yX5_frees, Cond.instanceMethod yX5_frees, Cond.selects RX5 yX5_frees yX5_frees, Cond.code yX5_frees cX5_frees 3 (some .int), Cond.methodLink RX5 55 yX5_goes, Cond.instanceMethod yX5_goes]
def wsX5_move_r2 : List Cond := [Cond.selects RX5 yX5_goes yX5_goes, Cond.code yX5_goes cX5_goes 4 (some .boolean), Cond.fieldLink RX5 40 "GraveyardReaderModel" "thrown" "I", Cond.methodLink RX5 59 yX5_takes, Cond.instanceMethod yX5_takes, Cond.selects RX5 yX5_takes yX5_takes, Cond.code yX5_takes cX5_takes 3 (some .int)]
def wsX5_move : List Cond := .code yX5_move cX5_move 7 (some .int) :: ((wsX5_move_r1 ++ wsX5_move_r2) ++ wsX50)
def wsX5_checksumOf : List Cond := .code yX5_checksumOf cX5_checksumOf 4 (some .int) :: ([.fieldLink RX5 19 "GraveyardReaderModel" "many" "[I", .fieldLink RX5 7 "GraveyardReaderModel" "numbers" "[I", .methodLink RX5 63 yX5_place, .instanceMethod yX5_place, .selects RX5 yX5_place yX5_place, .initialized RX5, .code yX5_place cX5_place 3 (some .int), .fieldLink RX5 31 "GraveyardReaderModel" "chain" "[I"] ++ wsX50)
def wsX5_throwAway_r1 : List Cond := [Cond.fieldLink RX5 77 "GraveyardReaderModel" "throwings" "I", Cond.fieldLink RX5 28 "GraveyardReaderModel" "sum" "[I", Cond.fieldLink RX5 25 "GraveyardReaderModel" "first" "[I", Cond.fieldLink RX5 31 "GraveyardReaderModel" "chain" "[I", Cond.fieldLink RX5 22 "GraveyardReaderModel" "gone" "[I", Cond.fieldLink RX5 13 "GraveyardReaderModel" "owner" "[I", Cond.methodLink RX5 70 yX5_isFile, Cond.instanceMethod yX5_isFile, Cond.selects RX5 yX5_isFile yX5_isFile, Cond.initialized RX5, Cond.code yX5_isFile cX5_isFile 2 (some .boolean), Cond.fieldLink RX5 44 "GraveyardReaderModel" "files" "I", Cond.methodLink RX5 47 yX5_in, Cond.static yX5_in, Cond.code yX5_in cX5_in 3 (some .boolean), Cond.methodLink RX5 74 yX5_isGone, Cond.instanceMethod yX5_isGone, Cond.selects RX5 yX5_isGone yX5_isGone, Cond.code yX5_isGone cX5_isGone 2 (some .boolean), Cond.methodLink RX5 55 yX5_goes, Cond.instanceMethod yX5_goes, Cond.selects RX5 yX5_goes yX5_goes, Cond.code yX5_goes cX5_goes 4 (some .boolean), Cond.fieldLink RX5 40 "GraveyardReaderModel" "thrown" "I"]
def wsX5_throwAway_r2 : List Cond := [Cond.methodLink RX5 80 yX5_checksumOf, Cond.instanceMethod yX5_checksumOf, Cond.selects RX5 yX5_checksumOf yX5_checksumOf, Cond.code yX5_checksumOf cX5_checksumOf 4 (some .int), Cond.fieldLink RX5 19 "GraveyardReaderModel" "many" "[I", Cond.fieldLink RX5 7 "GraveyardReaderModel" "numbers" "[I", Cond.methodLink RX5 63 yX5_place, Cond.instanceMethod yX5_place, Cond.selects RX5 yX5_place yX5_place, Cond.code yX5_place cX5_place 3 (some .int), Cond.methodLink RX5 51 yX5_frees, Cond.instanceMethod yX5_frees, Cond.selects RX5 yX5_frees yX5_frees, Cond.code yX5_frees cX5_frees 3 (some .int)]
def wsX5_throwAway : List Cond := .code yX5_throwAway cX5_throwAway 4 (some .int) :: ((wsX5_throwAway_r1 ++ wsX5_throwAway_r2) ++ wsX50)
def wsX5_files : List Cond := .code yX5_files cX5_files 1 (some .int) :: ([.fieldLink RX5 44 "GraveyardReaderModel" "files" "I", .methodLink RX5 83 yX5_told, .instanceMethod yX5_told, .selects RX5 yX5_told yX5_told, .initialized RX5, .code yX5_told cX5_told 2 (some .int), .fieldLink RX5 40 "GraveyardReaderModel" "thrown" "I"] ++ wsX50)
def wsX5_free : List Cond := .code yX5_free cX5_free 1 (some .int) :: ([.methodLink RX5 51 yX5_frees, .instanceMethod yX5_frees, .selects RX5 yX5_frees yX5_frees, .initialized RX5, .code yX5_frees cX5_frees 3 (some .int), .fieldLink RX5 13 "GraveyardReaderModel" "owner" "[I", .methodLink RX5 83 yX5_told, .instanceMethod yX5_told, .selects RX5 yX5_told yX5_told, .code yX5_told cX5_told 2 (some .int), .fieldLink RX5 40 "GraveyardReaderModel" "thrown" "I"] ++ wsX50)
def wsX5_number : List Cond := .code yX5_number cX5_number 3 (some .int) :: ([.fieldLink RX5 7 "GraveyardReaderModel" "numbers" "[I", .methodLink RX5 86 yX5_isCluster, .static yX5_isCluster, .initialized RX5, .code yX5_isCluster cX5_isCluster 1 (some .boolean), .methodLink RX5 47 yX5_in, .static yX5_in, .code yX5_in cX5_in 3 (some .boolean), .methodLink RX5 55 yX5_goes, .instanceMethod yX5_goes, .selects RX5 yX5_goes yX5_goes, .code yX5_goes cX5_goes 4 (some .boolean), .fieldLink RX5 40 "GraveyardReaderModel" "thrown" "I"] ++ wsX50)
def wsX5_fileOf : List Cond := .code yX5_fileOf cX5_fileOf 2 (some .int) :: ([.fieldLink RX5 13 "GraveyardReaderModel" "owner" "[I", .methodLink RX5 86 yX5_isCluster, .static yX5_isCluster, .initialized RX5, .code yX5_isCluster cX5_isCluster 1 (some .boolean), .methodLink RX5 47 yX5_in, .static yX5_in, .code yX5_in cX5_in 3 (some .boolean), .methodLink RX5 55 yX5_goes, .instanceMethod yX5_goes, .selects RX5 yX5_goes yX5_goes, .code yX5_goes cX5_goes 4 (some .boolean), .fieldLink RX5 40 "GraveyardReaderModel" "thrown" "I"] ++ wsX50)
def wsX5_clusters : List Cond := .code yX5_clusters cX5_clusters 2 (some .int) :: ([.fieldLink RX5 19 "GraveyardReaderModel" "many" "[I", .methodLink RX5 70 yX5_isFile, .instanceMethod yX5_isFile, .selects RX5 yX5_isFile yX5_isFile, .initialized RX5, .code yX5_isFile cX5_isFile 2 (some .boolean), .fieldLink RX5 44 "GraveyardReaderModel" "files" "I", .methodLink RX5 47 yX5_in, .static yX5_in, .code yX5_in cX5_in 3 (some .boolean), .methodLink RX5 55 yX5_goes, .instanceMethod yX5_goes, .selects RX5 yX5_goes yX5_goes, .code yX5_goes cX5_goes 4 (some .boolean), .fieldLink RX5 40 "GraveyardReaderModel" "thrown" "I"] ++ wsX50)
def wsX5_clusterAt : List Cond := .code yX5_clusterAt cX5_clusterAt 4 (some .int) :: ([.fieldLink RX5 19 "GraveyardReaderModel" "many" "[I", .fieldLink RX5 31 "GraveyardReaderModel" "chain" "[I", .methodLink RX5 70 yX5_isFile, .instanceMethod yX5_isFile, .selects RX5 yX5_isFile yX5_isFile, .initialized RX5, .code yX5_isFile cX5_isFile 2 (some .boolean), .fieldLink RX5 44 "GraveyardReaderModel" "files" "I", .methodLink RX5 47 yX5_in, .static yX5_in, .code yX5_in cX5_in 3 (some .boolean), .methodLink RX5 74 yX5_isGone, .instanceMethod yX5_isGone, .selects RX5 yX5_isGone yX5_isGone, .code yX5_isGone cX5_isGone 2 (some .boolean), .fieldLink RX5 22 "GraveyardReaderModel" "gone" "[I", .methodLink RX5 55 yX5_goes, .instanceMethod yX5_goes, .selects RX5 yX5_goes yX5_goes, .code yX5_goes cX5_goes 4 (some .boolean), .fieldLink RX5 40 "GraveyardReaderModel" "thrown" "I"] ++ wsX50)
def wsX5_checksum_r1 : List Cond := [Cond.fieldLink RX5 28 "GraveyardReaderModel" "sum" "[I", Cond.methodLink RX5 70 yX5_isFile, Cond.instanceMethod yX5_isFile, Cond.selects RX5 yX5_isFile yX5_isFile, Cond.initialized RX5, Cond.code yX5_isFile cX5_isFile 2 (some .boolean), Cond.fieldLink RX5 44 "GraveyardReaderModel" "files" "I", Cond.methodLink RX5 47 yX5_in, Cond.static yX5_in, Cond.code yX5_in cX5_in 3 (some .boolean), Cond.methodLink RX5 55 yX5_goes, Cond.instanceMethod yX5_goes, Cond.selects RX5 yX5_goes yX5_goes, Cond.code yX5_goes cX5_goes 4 (some .boolean), Cond.fieldLink RX5 40 "GraveyardReaderModel" "thrown" "I", Cond.methodLink RX5 74 yX5_isGone, Cond.instanceMethod yX5_isGone, Cond.selects RX5 yX5_isGone yX5_isGone, Cond.code yX5_isGone cX5_isGone 2 (some .boolean), Cond.fieldLink RX5 22 "GraveyardReaderModel" "gone" "[I", Cond.methodLink RX5 80 yX5_checksumOf, Cond.instanceMethod yX5_checksumOf, Cond.selects RX5 yX5_checksumOf yX5_checksumOf, Cond.code yX5_checksumOf cX5_checksumOf 4 (some .int)]
def wsX5_checksum_r2 : List Cond := [Cond.fieldLink RX5 19 "GraveyardReaderModel" "many" "[I", Cond.fieldLink RX5 7 "GraveyardReaderModel" "numbers" "[I", Cond.methodLink RX5 63 yX5_place, Cond.instanceMethod yX5_place, Cond.selects RX5 yX5_place yX5_place, Cond.code yX5_place cX5_place 3 (some .int), Cond.fieldLink RX5 31 "GraveyardReaderModel" "chain" "[I"]
def wsX5_checksum : List Cond := .code yX5_checksum cX5_checksum 2 (some .int) :: ((wsX5_checksum_r1 ++ wsX5_checksum_r2) ++ wsX50)
def wsX5_claims : List Cond := .code yX5_claims cX5_claims 4 (some .int) :: ([.fieldLink RX5 25 "GraveyardReaderModel" "first" "[I", .fieldLink RX5 19 "GraveyardReaderModel" "many" "[I", .fieldLink RX5 13 "GraveyardReaderModel" "owner" "[I", .fieldLink RX5 34 "GraveyardReaderModel" "claim" "[I"] ++ wsX50)
def wsX5_confidenceOf : List Cond := .code yX5_confidenceOf cX5_confidenceOf 7 (some .int) :: ([.fieldLink RX5 7 "GraveyardReaderModel" "numbers" "[I", .fieldLink RX5 34 "GraveyardReaderModel" "claim" "[I", .fieldLink RX5 19 "GraveyardReaderModel" "many" "[I", .fieldLink RX5 28 "GraveyardReaderModel" "sum" "[I", .methodLink RX5 89 yX5_claims, .instanceMethod yX5_claims, .selects RX5 yX5_claims yX5_claims, .initialized RX5, .code yX5_claims cX5_claims 4 (some .int), .fieldLink RX5 25 "GraveyardReaderModel" "first" "[I", .fieldLink RX5 13 "GraveyardReaderModel" "owner" "[I"] ++ wsX50)
def wsX5_claimant : List Cond := .code yX5_claimant cX5_claimant 9 (some .int) :: ([.fieldLink RX5 44 "GraveyardReaderModel" "files" "I", .fieldLink RX5 34 "GraveyardReaderModel" "claim" "[I", .fieldLink RX5 22 "GraveyardReaderModel" "gone" "[I", .methodLink RX5 74 yX5_isGone, .instanceMethod yX5_isGone, .selects RX5 yX5_isGone yX5_isGone, .initialized RX5, .code yX5_isGone cX5_isGone 2 (some .boolean), .methodLink RX5 92 yX5_confidenceOf, .instanceMethod yX5_confidenceOf, .selects RX5 yX5_confidenceOf yX5_confidenceOf, .code yX5_confidenceOf cX5_confidenceOf 7 (some .int), .fieldLink RX5 7 "GraveyardReaderModel" "numbers" "[I", .fieldLink RX5 19 "GraveyardReaderModel" "many" "[I", .fieldLink RX5 28 "GraveyardReaderModel" "sum" "[I", .methodLink RX5 89 yX5_claims, .instanceMethod yX5_claims, .selects RX5 yX5_claims yX5_claims, .code yX5_claims cX5_claims 4 (some .int), .fieldLink RX5 25 "GraveyardReaderModel" "first" "[I", .fieldLink RX5 13 "GraveyardReaderModel" "owner" "[I"] ++ wsX50)
def wsX5_asks : List Cond := .code yX5_asks cX5_asks 4 (some .boolean) :: ([.methodLink RX5 70 yX5_isFile, .instanceMethod yX5_isFile, .selects RX5 yX5_isFile yX5_isFile, .initialized RX5, .code yX5_isFile cX5_isFile 2 (some .boolean), .fieldLink RX5 44 "GraveyardReaderModel" "files" "I", .methodLink RX5 47 yX5_in, .static yX5_in, .code yX5_in cX5_in 3 (some .boolean), .methodLink RX5 74 yX5_isGone, .instanceMethod yX5_isGone, .selects RX5 yX5_isGone yX5_isGone, .code yX5_isGone cX5_isGone 2 (some .boolean), .fieldLink RX5 22 "GraveyardReaderModel" "gone" "[I", .methodLink RX5 55 yX5_goes, .instanceMethod yX5_goes, .selects RX5 yX5_goes yX5_goes, .code yX5_goes cX5_goes 4 (some .boolean), .fieldLink RX5 40 "GraveyardReaderModel" "thrown" "I"] ++ wsX50)
def wsX5_asks_ : List Cond := .code yX5_asks_ cX5_asks_ 3 (some .boolean) :: ([.methodLink RX5 70 yX5_isFile, .instanceMethod yX5_isFile, .selects RX5 yX5_isFile yX5_isFile, .initialized RX5, .code yX5_isFile cX5_isFile 2 (some .boolean), .fieldLink RX5 44 "GraveyardReaderModel" "files" "I", .methodLink RX5 47 yX5_in, .static yX5_in, .code yX5_in cX5_in 3 (some .boolean), .methodLink RX5 74 yX5_isGone, .instanceMethod yX5_isGone, .selects RX5 yX5_isGone yX5_isGone, .code yX5_isGone cX5_isGone 2 (some .boolean), .fieldLink RX5 22 "GraveyardReaderModel" "gone" "[I", .methodLink RX5 55 yX5_goes, .instanceMethod yX5_goes, .selects RX5 yX5_goes yX5_goes, .code yX5_goes cX5_goes 4 (some .boolean), .fieldLink RX5 40 "GraveyardReaderModel" "thrown" "I"] ++ wsX50)
def wsX5_claimed_r1 : List Cond := [Cond.methodLink RX5 95 yX5_asks_, Cond.instanceMethod yX5_asks_, Cond.selects RX5 yX5_asks_ yX5_asks_, Cond.initialized RX5, Cond.code yX5_asks_ cX5_asks_ 3 (some .boolean), Cond.methodLink RX5 70 yX5_isFile, Cond.instanceMethod yX5_isFile, Cond.selects RX5 yX5_isFile yX5_isFile, Cond.code yX5_isFile cX5_isFile 2 (some .boolean), Cond.fieldLink RX5 44 "GraveyardReaderModel" "files" "I", Cond.methodLink RX5 47 yX5_in, Cond.static yX5_in, Cond.code yX5_in cX5_in 3 (some .boolean), Cond.methodLink RX5 74 yX5_isGone, Cond.instanceMethod yX5_isGone, Cond.selects RX5 yX5_isGone yX5_isGone, Cond.code yX5_isGone cX5_isGone 2 (some .boolean), Cond.fieldLink RX5 22 "GraveyardReaderModel" "gone" "[I", Cond.methodLink RX5 55 yX5_goes, Cond.instanceMethod yX5_goes, Cond.selects RX5 yX5_goes yX5_goes, Cond.code yX5_goes cX5_goes 4 (some .boolean), Cond.fieldLink RX5 40 "GraveyardReaderModel" "thrown" "I", Cond.methodLink RX5 89 yX5_claims]
def wsX5_claimed_r2 : List Cond := [Cond.instanceMethod yX5_claims, Cond.selects RX5 yX5_claims yX5_claims, Cond.code yX5_claims cX5_claims 4 (some .int), Cond.fieldLink RX5 25 "GraveyardReaderModel" "first" "[I", Cond.fieldLink RX5 19 "GraveyardReaderModel" "many" "[I", Cond.fieldLink RX5 13 "GraveyardReaderModel" "owner" "[I", Cond.fieldLink RX5 34 "GraveyardReaderModel" "claim" "[I"]
def wsX5_claimed : List Cond := .code yX5_claimed cX5_claimed 2 (some .int) :: ((wsX5_claimed_r1 ++ wsX5_claimed_r2) ++ wsX50)
def wsX5_claimAt_r1 : List Cond := [Cond.fieldLink RX5 34 "GraveyardReaderModel" "claim" "[I", Cond.methodLink RX5 47 yX5_in, Cond.static yX5_in, Cond.initialized RX5, Cond.code yX5_in cX5_in 3 (some .boolean), Cond.methodLink RX5 98 yX5_asks, Cond.instanceMethod yX5_asks, Cond.selects RX5 yX5_asks yX5_asks, Cond.code yX5_asks cX5_asks 4 (some .boolean), Cond.methodLink RX5 70 yX5_isFile, Cond.instanceMethod yX5_isFile, Cond.selects RX5 yX5_isFile yX5_isFile, Cond.code yX5_isFile cX5_isFile 2 (some .boolean), Cond.fieldLink RX5 44 "GraveyardReaderModel" "files" "I", Cond.methodLink RX5 74 yX5_isGone, Cond.instanceMethod yX5_isGone, Cond.selects RX5 yX5_isGone yX5_isGone, Cond.code yX5_isGone cX5_isGone 2 (some .boolean), Cond.fieldLink RX5 22 "GraveyardReaderModel" "gone" "[I", Cond.methodLink RX5 55 yX5_goes, Cond.instanceMethod yX5_goes, Cond.selects RX5 yX5_goes yX5_goes, Cond.code yX5_goes cX5_goes 4 (some .boolean), Cond.fieldLink RX5 40 "GraveyardReaderModel" "thrown" "I"]
def wsX5_claimAt_r2 : List Cond := [Cond.methodLink RX5 89 yX5_claims, Cond.instanceMethod yX5_claims, Cond.selects RX5 yX5_claims yX5_claims, Cond.code yX5_claims cX5_claims 4 (some .int), Cond.fieldLink RX5 25 "GraveyardReaderModel" "first" "[I", Cond.fieldLink RX5 19 "GraveyardReaderModel" "many" "[I", Cond.fieldLink RX5 13 "GraveyardReaderModel" "owner" "[I"]
def wsX5_claimAt : List Cond := .code yX5_claimAt cX5_claimAt 3 (some .int) :: ((wsX5_claimAt_r1 ++ wsX5_claimAt_r2) ++ wsX50)
def wsX5_confidence_r1 : List Cond := [Cond.methodLink RX5 95 yX5_asks_, Cond.instanceMethod yX5_asks_, Cond.selects RX5 yX5_asks_ yX5_asks_, Cond.initialized RX5, Cond.code yX5_asks_ cX5_asks_ 3 (some .boolean), Cond.methodLink RX5 70 yX5_isFile, Cond.instanceMethod yX5_isFile, Cond.selects RX5 yX5_isFile yX5_isFile, Cond.code yX5_isFile cX5_isFile 2 (some .boolean), Cond.fieldLink RX5 44 "GraveyardReaderModel" "files" "I", Cond.methodLink RX5 47 yX5_in, Cond.static yX5_in, Cond.code yX5_in cX5_in 3 (some .boolean), Cond.methodLink RX5 74 yX5_isGone, Cond.instanceMethod yX5_isGone, Cond.selects RX5 yX5_isGone yX5_isGone, Cond.code yX5_isGone cX5_isGone 2 (some .boolean), Cond.fieldLink RX5 22 "GraveyardReaderModel" "gone" "[I", Cond.methodLink RX5 55 yX5_goes, Cond.instanceMethod yX5_goes, Cond.selects RX5 yX5_goes yX5_goes, Cond.code yX5_goes cX5_goes 4 (some .boolean), Cond.fieldLink RX5 40 "GraveyardReaderModel" "thrown" "I", Cond.methodLink RX5 92 yX5_confidenceOf]
def wsX5_confidence_r2 : List Cond := [Cond.instanceMethod yX5_confidenceOf, Cond.selects RX5 yX5_confidenceOf yX5_confidenceOf, Cond.code yX5_confidenceOf cX5_confidenceOf 7 (some .int), Cond.fieldLink RX5 7 "GraveyardReaderModel" "numbers" "[I", Cond.fieldLink RX5 34 "GraveyardReaderModel" "claim" "[I", Cond.fieldLink RX5 19 "GraveyardReaderModel" "many" "[I", Cond.fieldLink RX5 28 "GraveyardReaderModel" "sum" "[I", Cond.methodLink RX5 89 yX5_claims, Cond.instanceMethod yX5_claims, Cond.selects RX5 yX5_claims yX5_claims, Cond.code yX5_claims cX5_claims 4 (some .int), Cond.fieldLink RX5 25 "GraveyardReaderModel" "first" "[I", Cond.fieldLink RX5 13 "GraveyardReaderModel" "owner" "[I"]
def wsX5_confidence : List Cond := .code yX5_confidence cX5_confidence 2 (some .int) :: ((wsX5_confidence_r1 ++ wsX5_confidence_r2) ++ wsX50)
def wsX5_ownerOf_r1 : List Cond := [Cond.methodLink RX5 86 yX5_isCluster, Cond.static yX5_isCluster, Cond.initialized RX5, Cond.code yX5_isCluster cX5_isCluster 1 (some .boolean), Cond.methodLink RX5 47 yX5_in, Cond.static yX5_in, Cond.code yX5_in cX5_in 3 (some .boolean), Cond.methodLink RX5 55 yX5_goes, Cond.instanceMethod yX5_goes, Cond.selects RX5 yX5_goes yX5_goes, Cond.code yX5_goes cX5_goes 4 (some .boolean), Cond.fieldLink RX5 40 "GraveyardReaderModel" "thrown" "I", Cond.methodLink RX5 101 yX5_claimant, Cond.instanceMethod yX5_claimant, Cond.selects RX5 yX5_claimant yX5_claimant, Cond.code yX5_claimant cX5_claimant 9 (some .int), Cond.fieldLink RX5 44 "GraveyardReaderModel" "files" "I", Cond.fieldLink RX5 34 "GraveyardReaderModel" "claim" "[I", Cond.fieldLink RX5 22 "GraveyardReaderModel" "gone" "[I", Cond.methodLink RX5 74 yX5_isGone, Cond.instanceMethod yX5_isGone, Cond.selects RX5 yX5_isGone yX5_isGone, Cond.code yX5_isGone cX5_isGone 2 (some .boolean), Cond.methodLink RX5 92 yX5_confidenceOf]
def wsX5_ownerOf_r2 : List Cond := [Cond.instanceMethod yX5_confidenceOf, Cond.selects RX5 yX5_confidenceOf yX5_confidenceOf, Cond.code yX5_confidenceOf cX5_confidenceOf 7 (some .int), Cond.fieldLink RX5 7 "GraveyardReaderModel" "numbers" "[I", Cond.fieldLink RX5 19 "GraveyardReaderModel" "many" "[I", Cond.fieldLink RX5 28 "GraveyardReaderModel" "sum" "[I", Cond.methodLink RX5 89 yX5_claims, Cond.instanceMethod yX5_claims, Cond.selects RX5 yX5_claims yX5_claims, Cond.code yX5_claims cX5_claims 4 (some .int), Cond.fieldLink RX5 25 "GraveyardReaderModel" "first" "[I", Cond.fieldLink RX5 13 "GraveyardReaderModel" "owner" "[I"]
def wsX5_ownerOf : List Cond := .code yX5_ownerOf cX5_ownerOf 2 (some .int) :: ((wsX5_ownerOf_r1 ++ wsX5_ownerOf_r2) ++ wsX50)
def wsX5_owned_r1 : List Cond := [Cond.methodLink RX5 95 yX5_asks_, Cond.instanceMethod yX5_asks_, Cond.selects RX5 yX5_asks_ yX5_asks_, Cond.initialized RX5, Cond.code yX5_asks_ cX5_asks_ 3 (some .boolean), Cond.methodLink RX5 70 yX5_isFile, Cond.instanceMethod yX5_isFile, Cond.selects RX5 yX5_isFile yX5_isFile, Cond.code yX5_isFile cX5_isFile 2 (some .boolean), Cond.fieldLink RX5 44 "GraveyardReaderModel" "files" "I", Cond.methodLink RX5 47 yX5_in, Cond.static yX5_in, Cond.code yX5_in cX5_in 3 (some .boolean), Cond.methodLink RX5 74 yX5_isGone, Cond.instanceMethod yX5_isGone, Cond.selects RX5 yX5_isGone yX5_isGone, Cond.code yX5_isGone cX5_isGone 2 (some .boolean), Cond.fieldLink RX5 22 "GraveyardReaderModel" "gone" "[I", Cond.methodLink RX5 55 yX5_goes, Cond.instanceMethod yX5_goes, Cond.selects RX5 yX5_goes yX5_goes, Cond.code yX5_goes cX5_goes 4 (some .boolean), Cond.fieldLink RX5 40 "GraveyardReaderModel" "thrown" "I", Cond.methodLink RX5 101 yX5_claimant]
def wsX5_owned_r2 : List Cond := [Cond.instanceMethod yX5_claimant, Cond.selects RX5 yX5_claimant yX5_claimant, Cond.code yX5_claimant cX5_claimant 9 (some .int), Cond.fieldLink RX5 34 "GraveyardReaderModel" "claim" "[I", Cond.methodLink RX5 92 yX5_confidenceOf, Cond.instanceMethod yX5_confidenceOf, Cond.selects RX5 yX5_confidenceOf yX5_confidenceOf, Cond.code yX5_confidenceOf cX5_confidenceOf 7 (some .int), Cond.fieldLink RX5 7 "GraveyardReaderModel" "numbers" "[I", Cond.fieldLink RX5 19 "GraveyardReaderModel" "many" "[I", Cond.fieldLink RX5 28 "GraveyardReaderModel" "sum" "[I", Cond.methodLink RX5 89 yX5_claims, Cond.instanceMethod yX5_claims, Cond.selects RX5 yX5_claims yX5_claims, Cond.code yX5_claims cX5_claims 4 (some .int), Cond.fieldLink RX5 25 "GraveyardReaderModel" "first" "[I", Cond.fieldLink RX5 13 "GraveyardReaderModel" "owner" "[I"]
def wsX5_owned : List Cond := .code yX5_owned cX5_owned 4 (some .int) :: ((wsX5_owned_r1 ++ wsX5_owned_r2) ++ wsX50)
def wsX5_sure_r1 : List Cond := [Cond.fieldLink RX5 44 "GraveyardReaderModel" "files" "I", Cond.methodLink RX5 74 yX5_isGone, Cond.instanceMethod yX5_isGone, Cond.selects RX5 yX5_isGone yX5_isGone, Cond.initialized RX5, Cond.code yX5_isGone cX5_isGone 2 (some .boolean), Cond.fieldLink RX5 22 "GraveyardReaderModel" "gone" "[I", Cond.methodLink RX5 92 yX5_confidenceOf, Cond.instanceMethod yX5_confidenceOf, Cond.selects RX5 yX5_confidenceOf yX5_confidenceOf, Cond.code yX5_confidenceOf cX5_confidenceOf 7 (some .int), Cond.fieldLink RX5 7 "GraveyardReaderModel" "numbers" "[I", Cond.fieldLink RX5 34 "GraveyardReaderModel" "claim" "[I", Cond.fieldLink RX5 19 "GraveyardReaderModel" "many" "[I", Cond.fieldLink RX5 28 "GraveyardReaderModel" "sum" "[I", Cond.methodLink RX5 89 yX5_claims, Cond.instanceMethod yX5_claims, Cond.selects RX5 yX5_claims yX5_claims, Cond.code yX5_claims cX5_claims 4 (some .int), Cond.fieldLink RX5 25 "GraveyardReaderModel" "first" "[I", Cond.fieldLink RX5 13 "GraveyardReaderModel" "owner" "[I", Cond.methodLink RX5 83 yX5_told, Cond.instanceMethod yX5_told, Cond.selects RX5 yX5_told yX5_told]
def wsX5_sure_r2 : List Cond := [Cond.code yX5_told cX5_told 2 (some .int), Cond.fieldLink RX5 40 "GraveyardReaderModel" "thrown" "I"]
def wsX5_sure : List Cond := .code yX5_sure cX5_sure 3 (some .int) :: ((wsX5_sure_r1 ++ wsX5_sure_r2) ++ wsX50)
def wsX5_part : List Cond := .code yX5_part cX5_part 5 (some .int) :: ([.fieldLink RX5 7 "GraveyardReaderModel" "numbers" "[I"] ++ wsX50)
def wsX5_isJoin : List Cond := .code yX5_isJoin cX5_isJoin 5 (some .boolean) :: ([.fieldLink RX5 19 "GraveyardReaderModel" "many" "[I", .fieldLink RX5 37 "GraveyardReaderModel" "join" "[I", .fieldLink RX5 28 "GraveyardReaderModel" "sum" "[I", .fieldLink RX5 7 "GraveyardReaderModel" "numbers" "[I", .methodLink RX5 110 yX5_part, .instanceMethod yX5_part, .selects RX5 yX5_part yX5_part, .initialized RX5, .code yX5_part cX5_part 5 (some .int)] ++ wsX50)
def wsX5_fits : List Cond := .code yX5_fits cX5_fits 4 (some .boolean) :: ([.fieldLink RX5 13 "GraveyardReaderModel" "owner" "[I", .fieldLink RX5 37 "GraveyardReaderModel" "join" "[I"] ++ wsX50)
def wsX5_joins : List Cond := .code yX5_joins cX5_joins 4 (some .boolean) :: ([.fieldLink RX5 19 "GraveyardReaderModel" "many" "[I", .fieldLink RX5 13 "GraveyardReaderModel" "owner" "[I", .fieldLink RX5 25 "GraveyardReaderModel" "first" "[I", .fieldLink RX5 37 "GraveyardReaderModel" "join" "[I", .methodLink RX5 104 yX5_isJoin, .instanceMethod yX5_isJoin, .selects RX5 yX5_isJoin yX5_isJoin, .initialized RX5, .code yX5_isJoin cX5_isJoin 5 (some .boolean), .fieldLink RX5 28 "GraveyardReaderModel" "sum" "[I", .fieldLink RX5 7 "GraveyardReaderModel" "numbers" "[I", .methodLink RX5 110 yX5_part, .instanceMethod yX5_part, .selects RX5 yX5_part yX5_part, .code yX5_part cX5_part 5 (some .int), .methodLink RX5 107 yX5_fits, .instanceMethod yX5_fits, .selects RX5 yX5_fits yX5_fits, .code yX5_fits cX5_fits 4 (some .boolean)] ++ wsX50)
def wsX5_hasJoin_r1 : List Cond := [Cond.methodLink RX5 95 yX5_asks_, Cond.instanceMethod yX5_asks_, Cond.selects RX5 yX5_asks_ yX5_asks_, Cond.initialized RX5, Cond.code yX5_asks_ cX5_asks_ 3 (some .boolean), Cond.methodLink RX5 70 yX5_isFile, Cond.instanceMethod yX5_isFile, Cond.selects RX5 yX5_isFile yX5_isFile, Cond.code yX5_isFile cX5_isFile 2 (some .boolean), Cond.fieldLink RX5 44 "GraveyardReaderModel" "files" "I", Cond.methodLink RX5 47 yX5_in, Cond.static yX5_in, Cond.code yX5_in cX5_in 3 (some .boolean), Cond.methodLink RX5 74 yX5_isGone, Cond.instanceMethod yX5_isGone, Cond.selects RX5 yX5_isGone yX5_isGone, Cond.code yX5_isGone cX5_isGone 2 (some .boolean), Cond.fieldLink RX5 22 "GraveyardReaderModel" "gone" "[I", Cond.methodLink RX5 55 yX5_goes, Cond.instanceMethod yX5_goes, Cond.selects RX5 yX5_goes yX5_goes, Cond.code yX5_goes cX5_goes 4 (some .boolean), Cond.fieldLink RX5 40 "GraveyardReaderModel" "thrown" "I", Cond.methodLink RX5 113 yX5_joins]
def wsX5_hasJoin_r2 : List Cond := [Cond.instanceMethod yX5_joins, Cond.selects RX5 yX5_joins yX5_joins, Cond.code yX5_joins cX5_joins 4 (some .boolean), Cond.fieldLink RX5 19 "GraveyardReaderModel" "many" "[I", Cond.fieldLink RX5 13 "GraveyardReaderModel" "owner" "[I", Cond.fieldLink RX5 25 "GraveyardReaderModel" "first" "[I", Cond.fieldLink RX5 37 "GraveyardReaderModel" "join" "[I", Cond.methodLink RX5 104 yX5_isJoin, Cond.instanceMethod yX5_isJoin, Cond.selects RX5 yX5_isJoin yX5_isJoin, Cond.code yX5_isJoin cX5_isJoin 5 (some .boolean), Cond.fieldLink RX5 28 "GraveyardReaderModel" "sum" "[I", Cond.fieldLink RX5 7 "GraveyardReaderModel" "numbers" "[I", Cond.methodLink RX5 110 yX5_part, Cond.instanceMethod yX5_part, Cond.selects RX5 yX5_part yX5_part, Cond.code yX5_part cX5_part 5 (some .int), Cond.methodLink RX5 107 yX5_fits, Cond.instanceMethod yX5_fits, Cond.selects RX5 yX5_fits yX5_fits, Cond.code yX5_fits cX5_fits 4 (some .boolean)]
def wsX5_hasJoin : List Cond := .code yX5_hasJoin cX5_hasJoin 2 (some .boolean) :: ((wsX5_hasJoin_r1 ++ wsX5_hasJoin_r2) ++ wsX50)
def wsX5_joinAt_r1 : List Cond := [Cond.fieldLink RX5 19 "GraveyardReaderModel" "many" "[I", Cond.fieldLink RX5 37 "GraveyardReaderModel" "join" "[I", Cond.methodLink RX5 70 yX5_isFile, Cond.instanceMethod yX5_isFile, Cond.selects RX5 yX5_isFile yX5_isFile, Cond.initialized RX5, Cond.code yX5_isFile cX5_isFile 2 (some .boolean), Cond.fieldLink RX5 44 "GraveyardReaderModel" "files" "I", Cond.methodLink RX5 47 yX5_in, Cond.static yX5_in, Cond.code yX5_in cX5_in 3 (some .boolean), Cond.methodLink RX5 74 yX5_isGone, Cond.instanceMethod yX5_isGone, Cond.selects RX5 yX5_isGone yX5_isGone, Cond.code yX5_isGone cX5_isGone 2 (some .boolean), Cond.fieldLink RX5 22 "GraveyardReaderModel" "gone" "[I", Cond.methodLink RX5 113 yX5_joins, Cond.instanceMethod yX5_joins, Cond.selects RX5 yX5_joins yX5_joins, Cond.code yX5_joins cX5_joins 4 (some .boolean), Cond.fieldLink RX5 13 "GraveyardReaderModel" "owner" "[I", Cond.fieldLink RX5 25 "GraveyardReaderModel" "first" "[I", Cond.methodLink RX5 104 yX5_isJoin, Cond.instanceMethod yX5_isJoin]
def wsX5_joinAt_r2 : List Cond := [Cond.selects RX5 yX5_isJoin yX5_isJoin, Cond.code yX5_isJoin cX5_isJoin 5 (some .boolean), Cond.fieldLink RX5 28 "GraveyardReaderModel" "sum" "[I", Cond.fieldLink RX5 7 "GraveyardReaderModel" "numbers" "[I", Cond.methodLink RX5 110 yX5_part, Cond.instanceMethod yX5_part, Cond.selects RX5 yX5_part yX5_part, Cond.code yX5_part cX5_part 5 (some .int), Cond.methodLink RX5 107 yX5_fits, Cond.instanceMethod yX5_fits, Cond.selects RX5 yX5_fits yX5_fits, Cond.code yX5_fits cX5_fits 4 (some .boolean), Cond.methodLink RX5 55 yX5_goes, Cond.instanceMethod yX5_goes, Cond.selects RX5 yX5_goes yX5_goes, Cond.code yX5_goes cX5_goes 4 (some .boolean), Cond.fieldLink RX5 40 "GraveyardReaderModel" "thrown" "I"]
def wsX5_joinAt : List Cond := .code yX5_joinAt cX5_joinAt 5 (some .int) :: ((wsX5_joinAt_r1 ++ wsX5_joinAt_r2) ++ wsX50)
def wsJ9_max_7cf53 : List Cond := .code yJ9_max_7cf53 cJ9_max_7cf53 2 (some .int) :: ([])
def wsJ9_min_7cf53 : List Cond := .code yJ9_min_7cf53 cJ9_min_7cf53 2 (some .int) :: ([])
def wsL_make_r1 : List Cond := [Cond.classLink RL 13 "java/lang/IllegalArgumentException", Cond.classLink RL 15 "java/lang/IllegalStateException", Cond.methodLink RL 7 yX4_make, Cond.instanceMethod yX4_make, Cond.selects RX4 yX4_make yX4_make, Cond.initialized RX4, Cond.code yX4_make cX4_make 5 (some .int), Cond.classLink RX4 41 "java/lang/IllegalArgumentException", Cond.initialized "java/lang/IllegalArgumentException", Cond.classLink RX4 54 "java/lang/IllegalStateException", Cond.initialized "java/lang/IllegalStateException", Cond.fieldLink RX4 19 "GraveyardReader" "made" "Ljava/util/ArrayList;", Cond.fieldLink RX4 10 "GraveyardReader" "disk" "LGraveyardReader$Disk;", Cond.classLink RX4 64 RX2, Cond.instantiable RX2 6, Cond.initialized RX2, Cond.methodLink RX4 50 yJx4a65c_size_8abf5, Cond.instanceMethod yJx4a65c_size_8abf5, Cond.selects RJx4a65c yJx4a65c_size_8abf5 yJx4a65c_size_8abf5, Cond.initialized RJx4a65c, Cond.code yJx4a65c_size_8abf5 cJx4a65c_size_8abf5 1 (some .int), Cond.fieldLink RJx4a65c 48 "java/util/ArrayList" "size" "I", Cond.methodLink RX4 59 yX1_countFree, Cond.instanceMethod yX1_countFree]
def wsL_make_r2 : List Cond := [Cond.selects RX1 yX1_countFree yX1_countFree, Cond.initialized RX1, Cond.code yX1_countFree cX1_countFree 3 (some .int), Cond.fieldLink RX1 15 "GraveyardReader$Disk" "holders" "[I", Cond.methodLink RX4 66 yX2_init, Cond.instanceMethod yX2_init, Cond.code yX2_init cX2_init 2 none, Cond.methodLink RX2 3 objectInit, Cond.instanceMethod objectInit, Cond.code objectInit ⟨#[0xb1]⟩ 1 none, Cond.classLink RX2 9 RX0, Cond.instantiable RX0 2, Cond.initialized RX0, Cond.fieldLink RX2 12 "GraveyardReader$DiskFile" "chain" "LGraveyardReader$ClusterRow;", Cond.fieldLink RX2 18 "GraveyardReader$DiskFile" "entrySum" "I", Cond.fieldLink RX2 22 "GraveyardReader$DiskFile" "thrownAs" "I", Cond.fieldLink RX2 25 "GraveyardReader$DiskFile" "claim" "LGraveyardReader$ClusterRow;", Cond.fieldLink RX2 28 "GraveyardReader$DiskFile" "trust" "I", Cond.fieldLink RX2 31 "GraveyardReader$DiskFile" "seed" "I", Cond.instanceMethod yX0_init, Cond.code yX0_init cX0_init 1 none, Cond.methodLink RX0 3 objectInit, Cond.arrayClass .int, Cond.fieldLink RX0 9 "GraveyardReader$ClusterRow" "row" "[I"]
def wsL_make_r3 : List Cond := [Cond.fieldLink RX0 15 "GraveyardReader$ClusterRow" "size" "I", Cond.methodLink RX4 69 yJx4a65c_add_9ea2d, Cond.instanceMethod yJx4a65c_add_9ea2d, Cond.selects RJx4a65c yJx4a65c_add_9ea2d yJx4a65c_add_9ea2d, Cond.code yJx4a65c_add_9ea2d cJx4a65c_add_9ea2d 2 (some .boolean), Cond.fieldLink RJx4a65c 63 "java/util/ArrayList" "modCount" "I", Cond.sameField "java/util/ArrayList" "java/util/AbstractList" "modCount" "I", Cond.fieldLink RJx4a65c 9 "java/util/ArrayList" "elementData" "[Ljava/lang/Object;", Cond.methodLink RJx4a65c 131 yJx4a65c_add_72be8, Cond.instanceMethod yJx4a65c_add_72be8, Cond.selects RJx4a65c yJx4a65c_add_72be8 yJx4a65c_add_72be8, Cond.code yJx4a65c_add_72be8 cJx4a65c_add_72be8 4 none, Cond.methodLink RJx4a65c 129 yJx4a65c_grow_d5877, Cond.instanceMethod yJx4a65c_grow_d5877, Cond.selects RJx4a65c yJx4a65c_grow_d5877 yJx4a65c_grow_d5877, Cond.code yJx4a65c_grow_d5877 cJx4a65c_grow_d5877 1 (some (.array (.object "java/lang/Object"))), Cond.methodLink RJx4a65c 69 yJx4a65c_grow_92f84, Cond.instanceMethod yJx4a65c_grow_92f84, Cond.selects RJx4a65c yJx4a65c_grow_92f84 yJx4a65c_grow_92f84, Cond.code yJx4a65c_grow_92f84 cJx4a65c_grow_92f84 4 (some (.array (.object "java/lang/Object"))), Cond.fieldLink RJx4a65c 39 "java/util/ArrayList" "DEFAULTCAPACITY_EMPTY_ELEMENTDATA" "[Ljava/lang/Object;", Cond.methodLink RJx4a65c 79 Lib.Math.max.name, Cond.static Lib.Math.max.name, Cond.initialized "java/lang/Math"]
def wsL_make_r4 : List Cond := [Cond.code Lib.Math.max.name Lib.Math.max.code 2 (some .int), Cond.classLink RJx4a65c 7 "java/lang/Object", Cond.methodLink RJx4a65c 73 yJ8_newLength_cabcc, Cond.static yJ8_newLength_cabcc, Cond.initialized RJ8, Cond.code yJ8_newLength_cabcc cJ8_newLength_cabcc 4 (some .int), Cond.methodLink RJ8 194 Lib.Math.max.name, Cond.constant RJ8 200 (2147483639), Cond.methodLink RJ8 201 yJ8_hugeLength_7cf53, Cond.static yJ8_hugeLength_7cf53, Cond.code yJ8_hugeLength_7cf53 cJ8_hugeLength_7cf53 3 (some .int), Cond.methodLink RJx4a65c 66 yJ7_copyOf_1904c, Cond.static yJ7_copyOf_1904c, Cond.initialized RJ7, Cond.code yJ7_copyOf_1904c cJ7_copyOf_1904c 2 (some (.array (.object "java/lang/Object"))), Cond.methodLink RJ7 86 ⟨"java/lang/Object", "getClass", "()Ljava/lang/Class;"⟩, Cond.selects "[Ljava/lang/Object;" ⟨"java/lang/Object", "getClass", "()Ljava/lang/Class;"⟩ ⟨"java/lang/Object", "getClass", "()Ljava/lang/Class;"⟩, Cond.instanceMethod ⟨"java/lang/Object", "getClass", "()Ljava/lang/Class;"⟩, Cond.native ⟨"java/lang/Object", "getClass", "()Ljava/lang/Class;"⟩, Cond.methodLink RJ7 300 yJ7_copyOf_6403c, Cond.static yJ7_copyOf_6403c, Cond.code yJ7_copyOf_6403c cJ7_copyOf_6403c 4 (some (.array (.object "java/lang/Object"))), Cond.classLink RJ7 110 "[Ljava/lang/Object;", Cond.classLink RJ7 2 "java/lang/Object"]
def wsL_make_r5 : List Cond := [Cond.methodLink RJ7 304 Lib.Math.min.name, Cond.static Lib.Math.min.name, Cond.code Lib.Math.min.name Lib.Math.min.code 2 (some .int), Cond.methodLink RJ7 150 arraycopyName, Cond.native arraycopyName, Cond.static arraycopyName, Cond.initialized "java/lang/System", Cond.methodLink RX4 76 yX4_takeClusters, Cond.instanceMethod yX4_takeClusters, Cond.selects RX4 yX4_takeClusters yX4_takeClusters, Cond.code yX4_takeClusters cX4_takeClusters 5 none, Cond.methodLink RX4 193 yX1_takeLowest, Cond.instanceMethod yX1_takeLowest, Cond.selects RX1 yX1_takeLowest yX1_takeLowest, Cond.code yX1_takeLowest cX1_takeLowest 3 (some .int), Cond.methodLink RX4 196 yX0_add, Cond.instanceMethod yX0_add, Cond.selects RX0 yX0_add yX0_add, Cond.code yX0_add cX0_add 2 none, Cond.methodLink RX4 80 yX4_writeByRule, Cond.instanceMethod yX4_writeByRule, Cond.selects RX4 yX4_writeByRule yX4_writeByRule, Cond.code yX4_writeByRule cX4_writeByRule 4 none, Cond.methodLink RX4 87 yX4_lastPlace]
def wsL_make_r6 : List Cond := [Cond.static yX4_lastPlace, Cond.code yX4_lastPlace cX4_lastPlace 1 (some .int), Cond.methodLink RX4 198 yX2_numberByRule, Cond.instanceMethod yX2_numberByRule, Cond.selects RX2 yX2_numberByRule yX2_numberByRule, Cond.code yX2_numberByRule cX2_numberByRule 2 (some .int), Cond.methodLink RX4 84 yX1_writeAlong, Cond.instanceMethod yX1_writeAlong, Cond.selects RX1 yX1_writeAlong yX1_writeAlong, Cond.code yX1_writeAlong cX1_writeAlong 5 none, Cond.fieldLink RX1 9 "GraveyardReader$Disk" "numbers" "[I", Cond.methodLink RX1 30 yX0_at, Cond.instanceMethod yX0_at, Cond.selects RX0 yX0_at yX0_at, Cond.code yX0_at cX0_at 2 (some .int), Cond.methodLink RX4 91 yX4_readClaims, Cond.instanceMethod yX4_readClaims, Cond.selects RX4 yX4_readClaims yX4_readClaims, Cond.code yX4_readClaims cX4_readClaims 3 none, Cond.classLink RX4 64 "GraveyardReader$DiskFile", Cond.methodLink RX4 167 yJx4a65c_get_915e3, Cond.instanceMethod yJx4a65c_get_915e3, Cond.selects RJx4a65c yJx4a65c_get_915e3 yJx4a65c_get_915e3, Cond.code yJx4a65c_get_915e3 cJx4a65c_get_915e3 2 (some (.object "java/lang/Object"))]
def wsL_make_r7 : List Cond := [Cond.methodLink RJx4a65c 118 yJ15_checkIndex_7cf53, Cond.static yJ15_checkIndex_7cf53, Cond.initialized RJ15, Cond.code yJ15_checkIndex_7cf53 cJ15_checkIndex_7cf53 2 (some .int), Cond.methodLink RJ15 105 yJ3_checkIndex_8e157, Cond.static yJ3_checkIndex_8e157, Cond.initialized RJ3, Cond.code yJ3_checkIndex_8e157 cJ3_checkIndex_8e157 3 (some .int), Cond.methodLink RJx4a65c 123 yJx4a65c_elementData_915e3, Cond.instanceMethod yJx4a65c_elementData_915e3, Cond.selects RJx4a65c yJx4a65c_elementData_915e3 yJx4a65c_elementData_915e3, Cond.code yJx4a65c_elementData_915e3 cJx4a65c_elementData_915e3 2 (some (.object "java/lang/Object")), Cond.methodLink RX4 149 yX2_isThrown, Cond.instanceMethod yX2_isThrown, Cond.selects RX2 yX2_isThrown yX2_isThrown, Cond.code yX2_isThrown cX2_isThrown 1 (some .boolean), Cond.methodLink RX4 201 yX4_readClaim, Cond.instanceMethod yX4_readClaim, Cond.selects RX4 yX4_readClaim yX4_readClaim, Cond.code yX4_readClaim cX4_readClaim 5 none, Cond.methodLink RX4 104 yX0_at, Cond.methodLink RX4 110 yX0_clear, Cond.instanceMethod yX0_clear, Cond.selects RX0 yX0_clear yX0_clear]
def wsL_make_r8 : List Cond := [Cond.code yX0_clear cX0_clear 1 none, Cond.methodLink RX4 205 yX1_isFree, Cond.instanceMethod yX1_isFree, Cond.selects RX1 yX1_isFree yX1_isFree, Cond.code yX1_isFree cX1_isFree 2 (some .boolean), Cond.methodLink RX4 209 yX4_trustIn, Cond.instanceMethod yX4_trustIn, Cond.selects RX4 yX4_trustIn yX4_trustIn, Cond.code yX4_trustIn cX4_trustIn 5 (some .int), Cond.methodLink RX4 121 yX1_sumOf, Cond.instanceMethod yX1_sumOf, Cond.selects RX1 yX1_sumOf yX1_sumOf, Cond.code yX1_sumOf cX1_sumOf 4 (some .int), Cond.methodLink RX1 38 yX1_readAlong, Cond.instanceMethod yX1_readAlong, Cond.selects RX1 yX1_readAlong yX1_readAlong, Cond.code yX1_readAlong cX1_readAlong 3 (some .int), Cond.methodLink RX1 34 yX1_read, Cond.instanceMethod yX1_read, Cond.selects RX1 yX1_read yX1_read, Cond.code yX1_read cX1_read 4 (some .int), Cond.methodLink RX4 113 yX1_readAlong]
def wsL_make : List Cond := .codeWith yL_make cL_make 5 (some .int) [(0, 10, 13, 13), (0, 10, 17, 15)] :: ((wsL_make_r1 ++ (wsL_make_r2 ++ (wsL_make_r3 ++ (wsL_make_r4 ++ (wsL_make_r5 ++ (wsL_make_r6 ++ (wsL_make_r7 ++ wsL_make_r8))))))) ++ wsX40 ++ wsX20 ++ wsJx4a65c0 ++ wsX10 ++ wsX00 ++ (vx_atS RX4 45 "java/lang/IllegalArgumentException" ["java/lang/RuntimeException", "java/lang/Exception"]).filter goodWord ++ (vx_atS RX4 58 "java/lang/IllegalStateException" ["java/lang/RuntimeException", "java/lang/Exception"]).filter goodWord)
def wsL_grow_r1 : List Cond := [Cond.classLink RL 21 "java/lang/IndexOutOfBoundsException", Cond.classLink RL 15 "java/lang/IllegalStateException", Cond.methodLink RL 17 yX4_grow, Cond.instanceMethod yX4_grow, Cond.selects RX4 yX4_grow yX4_grow, Cond.initialized RX4, Cond.code yX4_grow cX4_grow 4 (some .int), Cond.classLink RX4 54 "java/lang/IllegalStateException", Cond.initialized "java/lang/IllegalStateException", Cond.fieldLink RX4 10 "GraveyardReader" "disk" "LGraveyardReader$Disk;", Cond.methodLink RX4 94 yX4_livingFile, Cond.instanceMethod yX4_livingFile, Cond.selects RX4 yX4_livingFile yX4_livingFile, Cond.code yX4_livingFile cX4_livingFile 3 (some (.object "GraveyardReader$DiskFile")), Cond.methodLink RX4 143 yX4_knownFile, Cond.instanceMethod yX4_knownFile, Cond.selects RX4 yX4_knownFile yX4_knownFile, Cond.code yX4_knownFile cX4_knownFile 2 (some (.object "GraveyardReader$DiskFile")), Cond.classLink RX4 180 "java/lang/IndexOutOfBoundsException", Cond.initialized "java/lang/IndexOutOfBoundsException", Cond.fieldLink RX4 19 "GraveyardReader" "made" "Ljava/util/ArrayList;", Cond.classLink RX4 64 "GraveyardReader$DiskFile", Cond.methodLink RX4 50 yJx4a65c_size_8abf5, Cond.instanceMethod yJx4a65c_size_8abf5]
def wsL_grow_r2 : List Cond := [Cond.selects RJx4a65c yJx4a65c_size_8abf5 yJx4a65c_size_8abf5, Cond.initialized RJx4a65c, Cond.code yJx4a65c_size_8abf5 cJx4a65c_size_8abf5 1 (some .int), Cond.fieldLink RJx4a65c 48 "java/util/ArrayList" "size" "I", Cond.methodLink RX4 167 yJx4a65c_get_915e3, Cond.instanceMethod yJx4a65c_get_915e3, Cond.selects RJx4a65c yJx4a65c_get_915e3 yJx4a65c_get_915e3, Cond.code yJx4a65c_get_915e3 cJx4a65c_get_915e3 2 (some (.object "java/lang/Object")), Cond.methodLink RJx4a65c 118 yJ15_checkIndex_7cf53, Cond.static yJ15_checkIndex_7cf53, Cond.initialized RJ15, Cond.code yJ15_checkIndex_7cf53 cJ15_checkIndex_7cf53 2 (some .int), Cond.methodLink RJ15 105 yJ3_checkIndex_8e157, Cond.static yJ3_checkIndex_8e157, Cond.initialized RJ3, Cond.code yJ3_checkIndex_8e157 cJ3_checkIndex_8e157 3 (some .int), Cond.methodLink RJx4a65c 123 yJx4a65c_elementData_915e3, Cond.instanceMethod yJx4a65c_elementData_915e3, Cond.selects RJx4a65c yJx4a65c_elementData_915e3 yJx4a65c_elementData_915e3, Cond.code yJx4a65c_elementData_915e3 cJx4a65c_elementData_915e3 2 (some (.object "java/lang/Object")), Cond.fieldLink RJx4a65c 9 "java/util/ArrayList" "elementData" "[Ljava/lang/Object;", Cond.methodLink RX4 149 yX2_isThrown, Cond.instanceMethod yX2_isThrown, Cond.selects RX2 yX2_isThrown yX2_isThrown]
def wsL_grow_r3 : List Cond := [Cond.initialized RX2, Cond.code yX2_isThrown cX2_isThrown 1 (some .boolean), Cond.fieldLink RX2 22 "GraveyardReader$DiskFile" "thrownAs" "I", Cond.methodLink RX4 59 yX1_countFree, Cond.instanceMethod yX1_countFree, Cond.selects RX1 yX1_countFree yX1_countFree, Cond.initialized RX1, Cond.code yX1_countFree cX1_countFree 3 (some .int), Cond.fieldLink RX1 15 "GraveyardReader$Disk" "holders" "[I", Cond.methodLink RX4 87 yX4_lastPlace, Cond.static yX4_lastPlace, Cond.code yX4_lastPlace cX4_lastPlace 1 (some .int), Cond.methodLink RX4 76 yX4_takeClusters, Cond.instanceMethod yX4_takeClusters, Cond.selects RX4 yX4_takeClusters yX4_takeClusters, Cond.code yX4_takeClusters cX4_takeClusters 5 none, Cond.methodLink RX4 193 yX1_takeLowest, Cond.instanceMethod yX1_takeLowest, Cond.selects RX1 yX1_takeLowest yX1_takeLowest, Cond.code yX1_takeLowest cX1_takeLowest 3 (some .int), Cond.methodLink RX4 196 yX0_add, Cond.instanceMethod yX0_add, Cond.selects RX0 yX0_add yX0_add, Cond.initialized RX0]
def wsL_grow_r4 : List Cond := [Cond.code yX0_add cX0_add 2 none, Cond.fieldLink RX0 15 "GraveyardReader$ClusterRow" "size" "I", Cond.fieldLink RX0 9 "GraveyardReader$ClusterRow" "row" "[I", Cond.methodLink RX4 80 yX4_writeByRule, Cond.instanceMethod yX4_writeByRule, Cond.selects RX4 yX4_writeByRule yX4_writeByRule, Cond.code yX4_writeByRule cX4_writeByRule 4 none, Cond.methodLink RX4 198 yX2_numberByRule, Cond.instanceMethod yX2_numberByRule, Cond.selects RX2 yX2_numberByRule yX2_numberByRule, Cond.code yX2_numberByRule cX2_numberByRule 2 (some .int), Cond.fieldLink RX2 31 "GraveyardReader$DiskFile" "seed" "I", Cond.methodLink RX4 84 yX1_writeAlong, Cond.instanceMethod yX1_writeAlong, Cond.selects RX1 yX1_writeAlong yX1_writeAlong, Cond.code yX1_writeAlong cX1_writeAlong 5 none, Cond.fieldLink RX1 9 "GraveyardReader$Disk" "numbers" "[I", Cond.methodLink RX1 30 yX0_at, Cond.instanceMethod yX0_at, Cond.selects RX0 yX0_at yX0_at, Cond.code yX0_at cX0_at 2 (some .int), Cond.methodLink RX4 91 yX4_readClaims, Cond.instanceMethod yX4_readClaims, Cond.selects RX4 yX4_readClaims yX4_readClaims]
def wsL_grow_r5 : List Cond := [Cond.code yX4_readClaims cX4_readClaims 3 none, Cond.methodLink RX4 201 yX4_readClaim, Cond.instanceMethod yX4_readClaim, Cond.selects RX4 yX4_readClaim yX4_readClaim, Cond.code yX4_readClaim cX4_readClaim 5 none, Cond.methodLink RX4 104 yX0_at, Cond.methodLink RX4 110 yX0_clear, Cond.instanceMethod yX0_clear, Cond.selects RX0 yX0_clear yX0_clear, Cond.code yX0_clear cX0_clear 1 none, Cond.methodLink RX4 205 yX1_isFree, Cond.instanceMethod yX1_isFree, Cond.selects RX1 yX1_isFree yX1_isFree, Cond.code yX1_isFree cX1_isFree 2 (some .boolean), Cond.methodLink RX4 209 yX4_trustIn, Cond.instanceMethod yX4_trustIn, Cond.selects RX4 yX4_trustIn yX4_trustIn, Cond.code yX4_trustIn cX4_trustIn 5 (some .int), Cond.methodLink RX4 121 yX1_sumOf, Cond.instanceMethod yX1_sumOf, Cond.selects RX1 yX1_sumOf yX1_sumOf, Cond.code yX1_sumOf cX1_sumOf 4 (some .int), Cond.methodLink RX1 38 yX1_readAlong, Cond.instanceMethod yX1_readAlong]
def wsL_grow_r6 : List Cond := [Cond.selects RX1 yX1_readAlong yX1_readAlong, Cond.code yX1_readAlong cX1_readAlong 3 (some .int), Cond.methodLink RX1 34 yX1_read, Cond.instanceMethod yX1_read, Cond.selects RX1 yX1_read yX1_read, Cond.code yX1_read cX1_read 4 (some .int), Cond.methodLink RX4 113 yX1_readAlong]
def wsL_grow : List Cond := .codeWith yL_grow cL_grow 4 (some .int) [(0, 9, 12, 21), (0, 9, 15, 15)] :: ((wsL_grow_r1 ++ (wsL_grow_r2 ++ (wsL_grow_r3 ++ (wsL_grow_r4 ++ (wsL_grow_r5 ++ wsL_grow_r6))))) ++ wsX20 ++ wsX00 ++ wsX40 ++ wsJx4a65c0 ++ wsX10 ++ (vx_atS RX4 58 "java/lang/IllegalStateException" ["java/lang/RuntimeException", "java/lang/Exception"]).filter goodWord ++ (vx_atS RX4 184 "java/lang/IndexOutOfBoundsException" ["java/lang/RuntimeException", "java/lang/Exception"]).filter goodWord)
def wsL_move_r1 : List Cond := [Cond.classLink RL 21 "java/lang/IndexOutOfBoundsException", Cond.classLink RL 15 "java/lang/IllegalStateException", Cond.methodLink RL 23 yX4_move, Cond.instanceMethod yX4_move, Cond.selects RX4 yX4_move yX4_move, Cond.initialized RX4, Cond.code yX4_move cX4_move 6 (some .int), Cond.classLink RX4 54 "java/lang/IllegalStateException", Cond.initialized "java/lang/IllegalStateException", Cond.fieldLink RX4 10 "GraveyardReader" "disk" "LGraveyardReader$Disk;", Cond.fieldLink RX4 33 "GraveyardReader" "spareChain" "LGraveyardReader$ClusterRow;", Cond.methodLink RX4 94 yX4_livingFile, Cond.instanceMethod yX4_livingFile, Cond.selects RX4 yX4_livingFile yX4_livingFile, Cond.code yX4_livingFile cX4_livingFile 3 (some (.object "GraveyardReader$DiskFile")), Cond.methodLink RX4 143 yX4_knownFile, Cond.instanceMethod yX4_knownFile, Cond.selects RX4 yX4_knownFile yX4_knownFile, Cond.code yX4_knownFile cX4_knownFile 2 (some (.object "GraveyardReader$DiskFile")), Cond.classLink RX4 180 "java/lang/IndexOutOfBoundsException", Cond.initialized "java/lang/IndexOutOfBoundsException", Cond.fieldLink RX4 19 "GraveyardReader" "made" "Ljava/util/ArrayList;", Cond.classLink RX4 64 "GraveyardReader$DiskFile", Cond.methodLink RX4 50 yJx4a65c_size_8abf5]
def wsL_move_r2 : List Cond := [Cond.instanceMethod yJx4a65c_size_8abf5, Cond.selects RJx4a65c yJx4a65c_size_8abf5 yJx4a65c_size_8abf5, Cond.initialized RJx4a65c, Cond.code yJx4a65c_size_8abf5 cJx4a65c_size_8abf5 1 (some .int), Cond.fieldLink RJx4a65c 48 "java/util/ArrayList" "size" "I", Cond.methodLink RX4 167 yJx4a65c_get_915e3, Cond.instanceMethod yJx4a65c_get_915e3, Cond.selects RJx4a65c yJx4a65c_get_915e3 yJx4a65c_get_915e3, Cond.code yJx4a65c_get_915e3 cJx4a65c_get_915e3 2 (some (.object "java/lang/Object")), Cond.methodLink RJx4a65c 118 yJ15_checkIndex_7cf53, Cond.static yJ15_checkIndex_7cf53, Cond.initialized RJ15, Cond.code yJ15_checkIndex_7cf53 cJ15_checkIndex_7cf53 2 (some .int), Cond.methodLink RJ15 105 yJ3_checkIndex_8e157, Cond.static yJ3_checkIndex_8e157, Cond.initialized RJ3, Cond.code yJ3_checkIndex_8e157 cJ3_checkIndex_8e157 3 (some .int), Cond.methodLink RJx4a65c 123 yJx4a65c_elementData_915e3, Cond.instanceMethod yJx4a65c_elementData_915e3, Cond.selects RJx4a65c yJx4a65c_elementData_915e3 yJx4a65c_elementData_915e3, Cond.code yJx4a65c_elementData_915e3 cJx4a65c_elementData_915e3 2 (some (.object "java/lang/Object")), Cond.fieldLink RJx4a65c 9 "java/util/ArrayList" "elementData" "[Ljava/lang/Object;", Cond.methodLink RX4 149 yX2_isThrown, Cond.instanceMethod yX2_isThrown]
def wsL_move_r3 : List Cond := [Cond.selects RX2 yX2_isThrown yX2_isThrown, Cond.initialized RX2, Cond.code yX2_isThrown cX2_isThrown 1 (some .boolean), Cond.fieldLink RX2 22 "GraveyardReader$DiskFile" "thrownAs" "I", Cond.methodLink RX4 59 yX1_countFree, Cond.instanceMethod yX1_countFree, Cond.selects RX1 yX1_countFree yX1_countFree, Cond.initialized RX1, Cond.code yX1_countFree cX1_countFree 3 (some .int), Cond.fieldLink RX1 15 "GraveyardReader$Disk" "holders" "[I", Cond.methodLink RX4 110 yX0_clear, Cond.instanceMethod yX0_clear, Cond.selects RX0 yX0_clear yX0_clear, Cond.initialized RX0, Cond.code yX0_clear cX0_clear 1 none, Cond.fieldLink RX0 15 "GraveyardReader$ClusterRow" "size" "I", Cond.methodLink RX4 76 yX4_takeClusters, Cond.instanceMethod yX4_takeClusters, Cond.selects RX4 yX4_takeClusters yX4_takeClusters, Cond.code yX4_takeClusters cX4_takeClusters 5 none, Cond.methodLink RX4 193 yX1_takeLowest, Cond.instanceMethod yX1_takeLowest, Cond.selects RX1 yX1_takeLowest yX1_takeLowest, Cond.code yX1_takeLowest cX1_takeLowest 3 (some .int)]
def wsL_move_r4 : List Cond := [Cond.methodLink RX4 196 yX0_add, Cond.instanceMethod yX0_add, Cond.selects RX0 yX0_add yX0_add, Cond.code yX0_add cX0_add 2 none, Cond.fieldLink RX0 9 "GraveyardReader$ClusterRow" "row" "[I", Cond.methodLink RX4 113 yX1_readAlong, Cond.instanceMethod yX1_readAlong, Cond.selects RX1 yX1_readAlong yX1_readAlong, Cond.code yX1_readAlong cX1_readAlong 3 (some .int), Cond.methodLink RX1 30 yX0_at, Cond.instanceMethod yX0_at, Cond.selects RX0 yX0_at yX0_at, Cond.code yX0_at cX0_at 2 (some .int), Cond.methodLink RX1 34 yX1_read, Cond.instanceMethod yX1_read, Cond.selects RX1 yX1_read yX1_read, Cond.code yX1_read cX1_read 4 (some .int), Cond.fieldLink RX1 9 "GraveyardReader$Disk" "numbers" "[I", Cond.methodLink RX4 84 yX1_writeAlong, Cond.instanceMethod yX1_writeAlong, Cond.selects RX1 yX1_writeAlong yX1_writeAlong, Cond.code yX1_writeAlong cX1_writeAlong 5 none, Cond.methodLink RX4 117 yX1_release, Cond.instanceMethod yX1_release]
def wsL_move_r5 : List Cond := [Cond.selects RX1 yX1_release yX1_release, Cond.code yX1_release cX1_release 4 none, Cond.methodLink RX4 91 yX4_readClaims, Cond.instanceMethod yX4_readClaims, Cond.selects RX4 yX4_readClaims yX4_readClaims, Cond.code yX4_readClaims cX4_readClaims 3 none, Cond.methodLink RX4 201 yX4_readClaim, Cond.instanceMethod yX4_readClaim, Cond.selects RX4 yX4_readClaim yX4_readClaim, Cond.code yX4_readClaim cX4_readClaim 5 none, Cond.methodLink RX4 104 yX0_at, Cond.methodLink RX4 205 yX1_isFree, Cond.instanceMethod yX1_isFree, Cond.selects RX1 yX1_isFree yX1_isFree, Cond.code yX1_isFree cX1_isFree 2 (some .boolean), Cond.methodLink RX4 209 yX4_trustIn, Cond.instanceMethod yX4_trustIn, Cond.selects RX4 yX4_trustIn yX4_trustIn, Cond.code yX4_trustIn cX4_trustIn 5 (some .int), Cond.methodLink RX4 121 yX1_sumOf, Cond.instanceMethod yX1_sumOf, Cond.selects RX1 yX1_sumOf yX1_sumOf, Cond.code yX1_sumOf cX1_sumOf 4 (some .int), Cond.methodLink RX1 38 yX1_readAlong]
def wsL_move : List Cond := .codeWith yL_move cL_move 4 (some .int) [(0, 9, 12, 21), (0, 9, 15, 15)] :: ((wsL_move_r1 ++ (wsL_move_r2 ++ (wsL_move_r3 ++ (wsL_move_r4 ++ wsL_move_r5)))) ++ wsX20 ++ wsX40 ++ wsX00 ++ wsJx4a65c0 ++ wsX10 ++ (vx_atS RX4 58 "java/lang/IllegalStateException" ["java/lang/RuntimeException", "java/lang/Exception"]).filter goodWord ++ (vx_atS RX4 184 "java/lang/IndexOutOfBoundsException" ["java/lang/RuntimeException", "java/lang/Exception"]).filter goodWord)
def wsL_throwAway_r1 : List Cond := [Cond.classLink RL 21 "java/lang/IndexOutOfBoundsException", Cond.classLink RL 15 "java/lang/IllegalStateException", Cond.methodLink RL 26 yX4_throwAway, Cond.instanceMethod yX4_throwAway, Cond.selects RX4 yX4_throwAway yX4_throwAway, Cond.initialized RX4, Cond.code yX4_throwAway cX4_throwAway 3 (some .int), Cond.fieldLink RX4 10 "GraveyardReader" "disk" "LGraveyardReader$Disk;", Cond.fieldLink RX4 37 "GraveyardReader" "thrownCount" "I", Cond.methodLink RX4 94 yX4_livingFile, Cond.instanceMethod yX4_livingFile, Cond.selects RX4 yX4_livingFile yX4_livingFile, Cond.code yX4_livingFile cX4_livingFile 3 (some (.object "GraveyardReader$DiskFile")), Cond.classLink RX4 54 "java/lang/IllegalStateException", Cond.initialized "java/lang/IllegalStateException", Cond.methodLink RX4 143 yX4_knownFile, Cond.instanceMethod yX4_knownFile, Cond.selects RX4 yX4_knownFile yX4_knownFile, Cond.code yX4_knownFile cX4_knownFile 2 (some (.object "GraveyardReader$DiskFile")), Cond.classLink RX4 180 "java/lang/IndexOutOfBoundsException", Cond.initialized "java/lang/IndexOutOfBoundsException", Cond.fieldLink RX4 19 "GraveyardReader" "made" "Ljava/util/ArrayList;", Cond.classLink RX4 64 "GraveyardReader$DiskFile", Cond.methodLink RX4 50 yJx4a65c_size_8abf5]
def wsL_throwAway_r2 : List Cond := [Cond.instanceMethod yJx4a65c_size_8abf5, Cond.selects RJx4a65c yJx4a65c_size_8abf5 yJx4a65c_size_8abf5, Cond.initialized RJx4a65c, Cond.code yJx4a65c_size_8abf5 cJx4a65c_size_8abf5 1 (some .int), Cond.fieldLink RJx4a65c 48 "java/util/ArrayList" "size" "I", Cond.methodLink RX4 167 yJx4a65c_get_915e3, Cond.instanceMethod yJx4a65c_get_915e3, Cond.selects RJx4a65c yJx4a65c_get_915e3 yJx4a65c_get_915e3, Cond.code yJx4a65c_get_915e3 cJx4a65c_get_915e3 2 (some (.object "java/lang/Object")), Cond.methodLink RJx4a65c 118 yJ15_checkIndex_7cf53, Cond.static yJ15_checkIndex_7cf53, Cond.initialized RJ15, Cond.code yJ15_checkIndex_7cf53 cJ15_checkIndex_7cf53 2 (some .int), Cond.methodLink RJ15 105 yJ3_checkIndex_8e157, Cond.static yJ3_checkIndex_8e157, Cond.initialized RJ3, Cond.code yJ3_checkIndex_8e157 cJ3_checkIndex_8e157 3 (some .int), Cond.methodLink RJx4a65c 123 yJx4a65c_elementData_915e3, Cond.instanceMethod yJx4a65c_elementData_915e3, Cond.selects RJx4a65c yJx4a65c_elementData_915e3 yJx4a65c_elementData_915e3, Cond.code yJx4a65c_elementData_915e3 cJx4a65c_elementData_915e3 2 (some (.object "java/lang/Object")), Cond.fieldLink RJx4a65c 9 "java/util/ArrayList" "elementData" "[Ljava/lang/Object;", Cond.methodLink RX4 149 yX2_isThrown, Cond.instanceMethod yX2_isThrown]
def wsL_throwAway_r3 : List Cond := [Cond.selects RX2 yX2_isThrown yX2_isThrown, Cond.initialized RX2, Cond.code yX2_isThrown cX2_isThrown 1 (some .boolean), Cond.fieldLink RX2 22 "GraveyardReader$DiskFile" "thrownAs" "I", Cond.methodLink RX4 121 yX1_sumOf, Cond.instanceMethod yX1_sumOf, Cond.selects RX1 yX1_sumOf yX1_sumOf, Cond.initialized RX1, Cond.code yX1_sumOf cX1_sumOf 4 (some .int), Cond.methodLink RX1 38 yX1_readAlong, Cond.instanceMethod yX1_readAlong, Cond.selects RX1 yX1_readAlong yX1_readAlong, Cond.code yX1_readAlong cX1_readAlong 3 (some .int), Cond.methodLink RX1 30 yX0_at, Cond.instanceMethod yX0_at, Cond.selects RX0 yX0_at yX0_at, Cond.initialized RX0, Cond.code yX0_at cX0_at 2 (some .int), Cond.fieldLink RX0 15 "GraveyardReader$ClusterRow" "size" "I", Cond.fieldLink RX0 9 "GraveyardReader$ClusterRow" "row" "[I", Cond.methodLink RX1 34 yX1_read, Cond.instanceMethod yX1_read, Cond.selects RX1 yX1_read yX1_read, Cond.code yX1_read cX1_read 4 (some .int)]
def wsL_throwAway_r4 : List Cond := [Cond.fieldLink RX1 9 "GraveyardReader$Disk" "numbers" "[I", Cond.methodLink RX4 117 yX1_release, Cond.instanceMethod yX1_release, Cond.selects RX1 yX1_release yX1_release, Cond.code yX1_release cX1_release 4 none, Cond.fieldLink RX1 15 "GraveyardReader$Disk" "holders" "[I", Cond.methodLink RX4 91 yX4_readClaims, Cond.instanceMethod yX4_readClaims, Cond.selects RX4 yX4_readClaims yX4_readClaims, Cond.code yX4_readClaims cX4_readClaims 3 none, Cond.methodLink RX4 201 yX4_readClaim, Cond.instanceMethod yX4_readClaim, Cond.selects RX4 yX4_readClaim yX4_readClaim, Cond.code yX4_readClaim cX4_readClaim 5 none, Cond.methodLink RX4 104 yX0_at, Cond.methodLink RX4 110 yX0_clear, Cond.instanceMethod yX0_clear, Cond.selects RX0 yX0_clear yX0_clear, Cond.code yX0_clear cX0_clear 1 none, Cond.methodLink RX4 205 yX1_isFree, Cond.instanceMethod yX1_isFree, Cond.selects RX1 yX1_isFree yX1_isFree, Cond.code yX1_isFree cX1_isFree 2 (some .boolean), Cond.methodLink RX4 196 yX0_add]
def wsL_throwAway_r5 : List Cond := [Cond.instanceMethod yX0_add, Cond.selects RX0 yX0_add yX0_add, Cond.code yX0_add cX0_add 2 none, Cond.methodLink RX4 209 yX4_trustIn, Cond.instanceMethod yX4_trustIn, Cond.selects RX4 yX4_trustIn yX4_trustIn, Cond.code yX4_trustIn cX4_trustIn 5 (some .int), Cond.methodLink RX4 113 yX1_readAlong, Cond.methodLink RX4 59 yX1_countFree, Cond.instanceMethod yX1_countFree, Cond.selects RX1 yX1_countFree yX1_countFree, Cond.code yX1_countFree cX1_countFree 3 (some .int)]
def wsL_throwAway : List Cond := .codeWith yL_throwAway cL_throwAway 4 (some .int) [(0, 9, 12, 21), (0, 9, 15, 15)] :: ((wsL_throwAway_r1 ++ (wsL_throwAway_r2 ++ (wsL_throwAway_r3 ++ (wsL_throwAway_r4 ++ wsL_throwAway_r5)))) ++ wsX40 ++ wsX20 ++ wsJx4a65c0 ++ wsX00 ++ wsX10 ++ (vx_atS RX4 58 "java/lang/IllegalStateException" ["java/lang/RuntimeException", "java/lang/Exception"]).filter goodWord ++ (vx_atS RX4 184 "java/lang/IndexOutOfBoundsException" ["java/lang/RuntimeException", "java/lang/Exception"]).filter goodWord)
def wsL_number : List Cond := .codeWith yL_number cL_number 5 (some .int) [(0, 10, 13, 21), (0, 10, 17, 13)] :: ([.classLink RL 21 "java/lang/IndexOutOfBoundsException", .classLink RL 13 "java/lang/IllegalArgumentException", .methodLink RL 29 yX4_number, .instanceMethod yX4_number, .selects RX4 yX4_number yX4_number, .initialized RX4, .code yX4_number cX4_number 3 (some .int), .classLink RX4 41 "java/lang/IllegalArgumentException", .initialized "java/lang/IllegalArgumentException", .fieldLink RX4 10 "GraveyardReader" "disk" "LGraveyardReader$Disk;", .methodLink RX4 131 yX4_requireCluster, .static yX4_requireCluster, .code yX4_requireCluster cX4_requireCluster 1 none, .classLink RX4 180 "java/lang/IndexOutOfBoundsException", .initialized "java/lang/IndexOutOfBoundsException", .methodLink RX4 136 yX1_read, .instanceMethod yX1_read, .selects RX1 yX1_read yX1_read, .initialized RX1, .code yX1_read cX1_read 4 (some .int), .fieldLink RX1 9 "GraveyardReader$Disk" "numbers" "[I"] ++ wsX40 ++ wsX10 ++ (vx_atS RX4 45 "java/lang/IllegalArgumentException" ["java/lang/RuntimeException", "java/lang/Exception"]).filter goodWord ++ (vx_atS RX4 184 "java/lang/IndexOutOfBoundsException" ["java/lang/RuntimeException", "java/lang/Exception"]).filter goodWord)
def wsL_fileOf : List Cond := .codeWith yL_fileOf cL_fileOf 4 (some .int) [(0, 9, 12, 21)] :: ([.classLink RL 21 "java/lang/IndexOutOfBoundsException", .methodLink RL 32 yX4_fileOf, .instanceMethod yX4_fileOf, .selects RX4 yX4_fileOf yX4_fileOf, .initialized RX4, .code yX4_fileOf cX4_fileOf 2 (some .int), .fieldLink RX4 10 "GraveyardReader" "disk" "LGraveyardReader$Disk;", .methodLink RX4 131 yX4_requireCluster, .static yX4_requireCluster, .code yX4_requireCluster cX4_requireCluster 1 none, .classLink RX4 180 "java/lang/IndexOutOfBoundsException", .initialized "java/lang/IndexOutOfBoundsException", .methodLink RX4 140 yX1_holderOf, .instanceMethod yX1_holderOf, .selects RX1 yX1_holderOf yX1_holderOf, .initialized RX1, .code yX1_holderOf cX1_holderOf 2 (some .int), .fieldLink RX1 15 "GraveyardReader$Disk" "holders" "[I"] ++ wsX40 ++ wsX10 ++ (vx_atS RX4 184 "java/lang/IndexOutOfBoundsException" ["java/lang/RuntimeException", "java/lang/Exception"]).filter goodWord)
def wsL_clusters_r1 : List Cond := [Cond.classLink RL 21 "java/lang/IndexOutOfBoundsException", Cond.methodLink RL 35 yX4_clusters, Cond.instanceMethod yX4_clusters, Cond.selects RX4 yX4_clusters yX4_clusters, Cond.initialized RX4, Cond.code yX4_clusters cX4_clusters 2 (some .int), Cond.methodLink RX4 143 yX4_knownFile, Cond.instanceMethod yX4_knownFile, Cond.selects RX4 yX4_knownFile yX4_knownFile, Cond.code yX4_knownFile cX4_knownFile 2 (some (.object "GraveyardReader$DiskFile")), Cond.classLink RX4 180 "java/lang/IndexOutOfBoundsException", Cond.initialized "java/lang/IndexOutOfBoundsException", Cond.fieldLink RX4 19 "GraveyardReader" "made" "Ljava/util/ArrayList;", Cond.classLink RX4 64 "GraveyardReader$DiskFile", Cond.methodLink RX4 50 yJx4a65c_size_8abf5, Cond.instanceMethod yJx4a65c_size_8abf5, Cond.selects RJx4a65c yJx4a65c_size_8abf5 yJx4a65c_size_8abf5, Cond.initialized RJx4a65c, Cond.code yJx4a65c_size_8abf5 cJx4a65c_size_8abf5 1 (some .int), Cond.fieldLink RJx4a65c 48 "java/util/ArrayList" "size" "I", Cond.methodLink RX4 167 yJx4a65c_get_915e3, Cond.instanceMethod yJx4a65c_get_915e3, Cond.selects RJx4a65c yJx4a65c_get_915e3 yJx4a65c_get_915e3, Cond.code yJx4a65c_get_915e3 cJx4a65c_get_915e3 2 (some (.object "java/lang/Object"))]
def wsL_clusters_r2 : List Cond := [Cond.methodLink RJx4a65c 118 yJ15_checkIndex_7cf53, Cond.static yJ15_checkIndex_7cf53, Cond.initialized RJ15, Cond.code yJ15_checkIndex_7cf53 cJ15_checkIndex_7cf53 2 (some .int), Cond.methodLink RJ15 105 yJ3_checkIndex_8e157, Cond.static yJ3_checkIndex_8e157, Cond.initialized RJ3, Cond.code yJ3_checkIndex_8e157 cJ3_checkIndex_8e157 3 (some .int), Cond.methodLink RJx4a65c 123 yJx4a65c_elementData_915e3, Cond.instanceMethod yJx4a65c_elementData_915e3, Cond.selects RJx4a65c yJx4a65c_elementData_915e3 yJx4a65c_elementData_915e3, Cond.code yJx4a65c_elementData_915e3 cJx4a65c_elementData_915e3 2 (some (.object "java/lang/Object")), Cond.fieldLink RJx4a65c 9 "java/util/ArrayList" "elementData" "[Ljava/lang/Object;"]
def wsL_clusters : List Cond := .codeWith yL_clusters cL_clusters 4 (some .int) [(0, 9, 12, 21)] :: ((wsL_clusters_r1 ++ wsL_clusters_r2) ++ wsX20 ++ wsX00 ++ wsX40 ++ wsJx4a65c0 ++ (vx_atS RX4 184 "java/lang/IndexOutOfBoundsException" ["java/lang/RuntimeException", "java/lang/Exception"]).filter goodWord)
def wsL_clusterAt_r1 : List Cond := [Cond.classLink RL 21 "java/lang/IndexOutOfBoundsException", Cond.classLink RL 13 "java/lang/IllegalArgumentException", Cond.classLink RL 15 "java/lang/IllegalStateException", Cond.methodLink RL 38 yX4_clusterAt, Cond.instanceMethod yX4_clusterAt, Cond.selects RX4 yX4_clusterAt yX4_clusterAt, Cond.initialized RX4, Cond.code yX4_clusterAt cX4_clusterAt 4 (some .int), Cond.methodLink RX4 143 yX4_knownFile, Cond.instanceMethod yX4_knownFile, Cond.selects RX4 yX4_knownFile yX4_knownFile, Cond.code yX4_knownFile cX4_knownFile 2 (some (.object "GraveyardReader$DiskFile")), Cond.classLink RX4 180 "java/lang/IndexOutOfBoundsException", Cond.initialized "java/lang/IndexOutOfBoundsException", Cond.fieldLink RX4 19 "GraveyardReader" "made" "Ljava/util/ArrayList;", Cond.classLink RX4 64 "GraveyardReader$DiskFile", Cond.methodLink RX4 50 yJx4a65c_size_8abf5, Cond.instanceMethod yJx4a65c_size_8abf5, Cond.selects RJx4a65c yJx4a65c_size_8abf5 yJx4a65c_size_8abf5, Cond.initialized RJx4a65c, Cond.code yJx4a65c_size_8abf5 cJx4a65c_size_8abf5 1 (some .int), Cond.fieldLink RJx4a65c 48 "java/util/ArrayList" "size" "I", Cond.methodLink RX4 167 yJx4a65c_get_915e3, Cond.instanceMethod yJx4a65c_get_915e3]
def wsL_clusterAt_r2 : List Cond := [Cond.selects RJx4a65c yJx4a65c_get_915e3 yJx4a65c_get_915e3, Cond.code yJx4a65c_get_915e3 cJx4a65c_get_915e3 2 (some (.object "java/lang/Object")), Cond.methodLink RJx4a65c 118 yJ15_checkIndex_7cf53, Cond.static yJ15_checkIndex_7cf53, Cond.initialized RJ15, Cond.code yJ15_checkIndex_7cf53 cJ15_checkIndex_7cf53 2 (some .int), Cond.methodLink RJ15 105 yJ3_checkIndex_8e157, Cond.static yJ3_checkIndex_8e157, Cond.initialized RJ3, Cond.code yJ3_checkIndex_8e157 cJ3_checkIndex_8e157 3 (some .int), Cond.methodLink RJx4a65c 123 yJx4a65c_elementData_915e3, Cond.instanceMethod yJx4a65c_elementData_915e3, Cond.selects RJx4a65c yJx4a65c_elementData_915e3 yJx4a65c_elementData_915e3, Cond.code yJx4a65c_elementData_915e3 cJx4a65c_elementData_915e3 2 (some (.object "java/lang/Object")), Cond.fieldLink RJx4a65c 9 "java/util/ArrayList" "elementData" "[Ljava/lang/Object;", Cond.methodLink RX4 146 yX4_requirePlaceInChain, Cond.static yX4_requirePlaceInChain, Cond.code yX4_requirePlaceInChain cX4_requirePlaceInChain 2 none, Cond.classLink RX4 41 "java/lang/IllegalArgumentException", Cond.initialized "java/lang/IllegalArgumentException", Cond.methodLink RX4 94 yX4_livingFile, Cond.instanceMethod yX4_livingFile, Cond.selects RX4 yX4_livingFile yX4_livingFile, Cond.code yX4_livingFile cX4_livingFile 3 (some (.object "GraveyardReader$DiskFile"))]
def wsL_clusterAt_r3 : List Cond := [Cond.classLink RX4 54 "java/lang/IllegalStateException", Cond.initialized "java/lang/IllegalStateException", Cond.methodLink RX4 149 yX2_isThrown, Cond.instanceMethod yX2_isThrown, Cond.selects RX2 yX2_isThrown yX2_isThrown, Cond.initialized RX2, Cond.code yX2_isThrown cX2_isThrown 1 (some .boolean), Cond.fieldLink RX2 22 "GraveyardReader$DiskFile" "thrownAs" "I", Cond.methodLink RX4 104 yX0_at, Cond.instanceMethod yX0_at, Cond.selects RX0 yX0_at yX0_at, Cond.initialized RX0, Cond.code yX0_at cX0_at 2 (some .int), Cond.fieldLink RX0 15 "GraveyardReader$ClusterRow" "size" "I", Cond.fieldLink RX0 9 "GraveyardReader$ClusterRow" "row" "[I"]
def wsL_clusterAt : List Cond := .codeWith yL_clusterAt cL_clusterAt 5 (some .int) [(0, 10, 13, 21), (0, 10, 17, 13), (0, 10, 21, 15)] :: ((wsL_clusterAt_r1 ++ (wsL_clusterAt_r2 ++ wsL_clusterAt_r3)) ++ wsX20 ++ wsX40 ++ wsJx4a65c0 ++ wsX00 ++ (vx_atS RX4 184 "java/lang/IndexOutOfBoundsException" ["java/lang/RuntimeException", "java/lang/Exception"]).filter goodWord ++ (vx_atS RX4 45 "java/lang/IllegalArgumentException" ["java/lang/RuntimeException", "java/lang/Exception"]).filter goodWord ++ (vx_atS RX4 58 "java/lang/IllegalStateException" ["java/lang/RuntimeException", "java/lang/Exception"]).filter goodWord)
def wsL_checksum_r1 : List Cond := [Cond.classLink RL 21 "java/lang/IndexOutOfBoundsException", Cond.methodLink RL 41 yX4_checksum, Cond.instanceMethod yX4_checksum, Cond.selects RX4 yX4_checksum yX4_checksum, Cond.initialized RX4, Cond.code yX4_checksum cX4_checksum 3 (some .int), Cond.fieldLink RX4 10 "GraveyardReader" "disk" "LGraveyardReader$Disk;", Cond.methodLink RX4 143 yX4_knownFile, Cond.instanceMethod yX4_knownFile, Cond.selects RX4 yX4_knownFile yX4_knownFile, Cond.code yX4_knownFile cX4_knownFile 2 (some (.object "GraveyardReader$DiskFile")), Cond.classLink RX4 180 "java/lang/IndexOutOfBoundsException", Cond.initialized "java/lang/IndexOutOfBoundsException", Cond.fieldLink RX4 19 "GraveyardReader" "made" "Ljava/util/ArrayList;", Cond.classLink RX4 64 "GraveyardReader$DiskFile", Cond.methodLink RX4 50 yJx4a65c_size_8abf5, Cond.instanceMethod yJx4a65c_size_8abf5, Cond.selects RJx4a65c yJx4a65c_size_8abf5 yJx4a65c_size_8abf5, Cond.initialized RJx4a65c, Cond.code yJx4a65c_size_8abf5 cJx4a65c_size_8abf5 1 (some .int), Cond.fieldLink RJx4a65c 48 "java/util/ArrayList" "size" "I", Cond.methodLink RX4 167 yJx4a65c_get_915e3, Cond.instanceMethod yJx4a65c_get_915e3, Cond.selects RJx4a65c yJx4a65c_get_915e3 yJx4a65c_get_915e3]
def wsL_checksum_r2 : List Cond := [Cond.code yJx4a65c_get_915e3 cJx4a65c_get_915e3 2 (some (.object "java/lang/Object")), Cond.methodLink RJx4a65c 118 yJ15_checkIndex_7cf53, Cond.static yJ15_checkIndex_7cf53, Cond.initialized RJ15, Cond.code yJ15_checkIndex_7cf53 cJ15_checkIndex_7cf53 2 (some .int), Cond.methodLink RJ15 105 yJ3_checkIndex_8e157, Cond.static yJ3_checkIndex_8e157, Cond.initialized RJ3, Cond.code yJ3_checkIndex_8e157 cJ3_checkIndex_8e157 3 (some .int), Cond.methodLink RJx4a65c 123 yJx4a65c_elementData_915e3, Cond.instanceMethod yJx4a65c_elementData_915e3, Cond.selects RJx4a65c yJx4a65c_elementData_915e3 yJx4a65c_elementData_915e3, Cond.code yJx4a65c_elementData_915e3 cJx4a65c_elementData_915e3 2 (some (.object "java/lang/Object")), Cond.fieldLink RJx4a65c 9 "java/util/ArrayList" "elementData" "[Ljava/lang/Object;", Cond.methodLink RX4 149 yX2_isThrown, Cond.instanceMethod yX2_isThrown, Cond.selects RX2 yX2_isThrown yX2_isThrown, Cond.initialized RX2, Cond.code yX2_isThrown cX2_isThrown 1 (some .boolean), Cond.fieldLink RX2 22 "GraveyardReader$DiskFile" "thrownAs" "I", Cond.methodLink RX4 121 yX1_sumOf, Cond.instanceMethod yX1_sumOf, Cond.selects RX1 yX1_sumOf yX1_sumOf, Cond.initialized RX1]
def wsL_checksum_r3 : List Cond := [Cond.code yX1_sumOf cX1_sumOf 4 (some .int), Cond.methodLink RX1 38 yX1_readAlong, Cond.instanceMethod yX1_readAlong, Cond.selects RX1 yX1_readAlong yX1_readAlong, Cond.code yX1_readAlong cX1_readAlong 3 (some .int), Cond.methodLink RX1 30 yX0_at, Cond.instanceMethod yX0_at, Cond.selects RX0 yX0_at yX0_at, Cond.initialized RX0, Cond.code yX0_at cX0_at 2 (some .int), Cond.fieldLink RX0 15 "GraveyardReader$ClusterRow" "size" "I", Cond.fieldLink RX0 9 "GraveyardReader$ClusterRow" "row" "[I", Cond.methodLink RX1 34 yX1_read, Cond.instanceMethod yX1_read, Cond.selects RX1 yX1_read yX1_read, Cond.code yX1_read cX1_read 4 (some .int), Cond.fieldLink RX1 9 "GraveyardReader$Disk" "numbers" "[I"]
def wsL_checksum : List Cond := .codeWith yL_checksum cL_checksum 4 (some .int) [(0, 9, 12, 21)] :: ((wsL_checksum_r1 ++ (wsL_checksum_r2 ++ wsL_checksum_r3)) ++ wsX20 ++ wsX40 ++ wsJx4a65c0 ++ wsX00 ++ wsX10 ++ (vx_atS RX4 184 "java/lang/IndexOutOfBoundsException" ["java/lang/RuntimeException", "java/lang/Exception"]).filter goodWord)
def wsL_claimed_r1 : List Cond := [Cond.classLink RL 21 "java/lang/IndexOutOfBoundsException", Cond.classLink RL 15 "java/lang/IllegalStateException", Cond.methodLink RL 44 yX4_claimed, Cond.instanceMethod yX4_claimed, Cond.selects RX4 yX4_claimed yX4_claimed, Cond.initialized RX4, Cond.code yX4_claimed cX4_claimed 2 (some .int), Cond.methodLink RX4 153 yX4_thrownFile, Cond.instanceMethod yX4_thrownFile, Cond.selects RX4 yX4_thrownFile yX4_thrownFile, Cond.code yX4_thrownFile cX4_thrownFile 3 (some (.object "GraveyardReader$DiskFile")), Cond.classLink RX4 54 "java/lang/IllegalStateException", Cond.initialized "java/lang/IllegalStateException", Cond.methodLink RX4 143 yX4_knownFile, Cond.instanceMethod yX4_knownFile, Cond.selects RX4 yX4_knownFile yX4_knownFile, Cond.code yX4_knownFile cX4_knownFile 2 (some (.object "GraveyardReader$DiskFile")), Cond.classLink RX4 180 "java/lang/IndexOutOfBoundsException", Cond.initialized "java/lang/IndexOutOfBoundsException", Cond.fieldLink RX4 19 "GraveyardReader" "made" "Ljava/util/ArrayList;", Cond.classLink RX4 64 "GraveyardReader$DiskFile", Cond.methodLink RX4 50 yJx4a65c_size_8abf5, Cond.instanceMethod yJx4a65c_size_8abf5, Cond.selects RJx4a65c yJx4a65c_size_8abf5 yJx4a65c_size_8abf5]
def wsL_claimed_r2 : List Cond := [Cond.initialized RJx4a65c, Cond.code yJx4a65c_size_8abf5 cJx4a65c_size_8abf5 1 (some .int), Cond.fieldLink RJx4a65c 48 "java/util/ArrayList" "size" "I", Cond.methodLink RX4 167 yJx4a65c_get_915e3, Cond.instanceMethod yJx4a65c_get_915e3, Cond.selects RJx4a65c yJx4a65c_get_915e3 yJx4a65c_get_915e3, Cond.code yJx4a65c_get_915e3 cJx4a65c_get_915e3 2 (some (.object "java/lang/Object")), Cond.methodLink RJx4a65c 118 yJ15_checkIndex_7cf53, Cond.static yJ15_checkIndex_7cf53, Cond.initialized RJ15, Cond.code yJ15_checkIndex_7cf53 cJ15_checkIndex_7cf53 2 (some .int), Cond.methodLink RJ15 105 yJ3_checkIndex_8e157, Cond.static yJ3_checkIndex_8e157, Cond.initialized RJ3, Cond.code yJ3_checkIndex_8e157 cJ3_checkIndex_8e157 3 (some .int), Cond.methodLink RJx4a65c 123 yJx4a65c_elementData_915e3, Cond.instanceMethod yJx4a65c_elementData_915e3, Cond.selects RJx4a65c yJx4a65c_elementData_915e3 yJx4a65c_elementData_915e3, Cond.code yJx4a65c_elementData_915e3 cJx4a65c_elementData_915e3 2 (some (.object "java/lang/Object")), Cond.fieldLink RJx4a65c 9 "java/util/ArrayList" "elementData" "[Ljava/lang/Object;", Cond.methodLink RX4 149 yX2_isThrown, Cond.instanceMethod yX2_isThrown, Cond.selects RX2 yX2_isThrown yX2_isThrown, Cond.initialized RX2]
def wsL_claimed_r3 : List Cond := [Cond.code yX2_isThrown cX2_isThrown 1 (some .boolean), Cond.fieldLink RX2 22 "GraveyardReader$DiskFile" "thrownAs" "I"]
def wsL_claimed : List Cond := .codeWith yL_claimed cL_claimed 4 (some .int) [(0, 9, 12, 21), (0, 9, 15, 15)] :: ((wsL_claimed_r1 ++ (wsL_claimed_r2 ++ wsL_claimed_r3)) ++ wsX20 ++ wsX00 ++ wsX40 ++ wsJx4a65c0 ++ (vx_atS RX4 58 "java/lang/IllegalStateException" ["java/lang/RuntimeException", "java/lang/Exception"]).filter goodWord ++ (vx_atS RX4 184 "java/lang/IndexOutOfBoundsException" ["java/lang/RuntimeException", "java/lang/Exception"]).filter goodWord)
def wsL_claimAt_r1 : List Cond := [Cond.classLink RL 21 "java/lang/IndexOutOfBoundsException", Cond.classLink RL 13 "java/lang/IllegalArgumentException", Cond.classLink RL 15 "java/lang/IllegalStateException", Cond.methodLink RL 47 yX4_claimAt, Cond.instanceMethod yX4_claimAt, Cond.selects RX4 yX4_claimAt yX4_claimAt, Cond.initialized RX4, Cond.code yX4_claimAt cX4_claimAt 3 (some .int), Cond.classLink RX4 41 "java/lang/IllegalArgumentException", Cond.initialized "java/lang/IllegalArgumentException", Cond.methodLink RX4 143 yX4_knownFile, Cond.instanceMethod yX4_knownFile, Cond.selects RX4 yX4_knownFile yX4_knownFile, Cond.code yX4_knownFile cX4_knownFile 2 (some (.object "GraveyardReader$DiskFile")), Cond.classLink RX4 180 "java/lang/IndexOutOfBoundsException", Cond.initialized "java/lang/IndexOutOfBoundsException", Cond.fieldLink RX4 19 "GraveyardReader" "made" "Ljava/util/ArrayList;", Cond.classLink RX4 64 "GraveyardReader$DiskFile", Cond.methodLink RX4 50 yJx4a65c_size_8abf5, Cond.instanceMethod yJx4a65c_size_8abf5, Cond.selects RJx4a65c yJx4a65c_size_8abf5 yJx4a65c_size_8abf5, Cond.initialized RJx4a65c, Cond.code yJx4a65c_size_8abf5 cJx4a65c_size_8abf5 1 (some .int), Cond.fieldLink RJx4a65c 48 "java/util/ArrayList" "size" "I"]
def wsL_claimAt_r2 : List Cond := [Cond.methodLink RX4 167 yJx4a65c_get_915e3, Cond.instanceMethod yJx4a65c_get_915e3, Cond.selects RJx4a65c yJx4a65c_get_915e3 yJx4a65c_get_915e3, Cond.code yJx4a65c_get_915e3 cJx4a65c_get_915e3 2 (some (.object "java/lang/Object")), Cond.methodLink RJx4a65c 118 yJ15_checkIndex_7cf53, Cond.static yJ15_checkIndex_7cf53, Cond.initialized RJ15, Cond.code yJ15_checkIndex_7cf53 cJ15_checkIndex_7cf53 2 (some .int), Cond.methodLink RJ15 105 yJ3_checkIndex_8e157, Cond.static yJ3_checkIndex_8e157, Cond.initialized RJ3, Cond.code yJ3_checkIndex_8e157 cJ3_checkIndex_8e157 3 (some .int), Cond.methodLink RJx4a65c 123 yJx4a65c_elementData_915e3, Cond.instanceMethod yJx4a65c_elementData_915e3, Cond.selects RJx4a65c yJx4a65c_elementData_915e3 yJx4a65c_elementData_915e3, Cond.code yJx4a65c_elementData_915e3 cJx4a65c_elementData_915e3 2 (some (.object "java/lang/Object")), Cond.fieldLink RJx4a65c 9 "java/util/ArrayList" "elementData" "[Ljava/lang/Object;", Cond.methodLink RX4 153 yX4_thrownFile, Cond.instanceMethod yX4_thrownFile, Cond.selects RX4 yX4_thrownFile yX4_thrownFile, Cond.code yX4_thrownFile cX4_thrownFile 3 (some (.object "GraveyardReader$DiskFile")), Cond.classLink RX4 54 "java/lang/IllegalStateException", Cond.initialized "java/lang/IllegalStateException", Cond.methodLink RX4 149 yX2_isThrown]
def wsL_claimAt_r3 : List Cond := [Cond.instanceMethod yX2_isThrown, Cond.selects RX2 yX2_isThrown yX2_isThrown, Cond.initialized RX2, Cond.code yX2_isThrown cX2_isThrown 1 (some .boolean), Cond.fieldLink RX2 22 "GraveyardReader$DiskFile" "thrownAs" "I", Cond.methodLink RX4 104 yX0_at, Cond.instanceMethod yX0_at, Cond.selects RX0 yX0_at yX0_at, Cond.initialized RX0, Cond.code yX0_at cX0_at 2 (some .int), Cond.fieldLink RX0 15 "GraveyardReader$ClusterRow" "size" "I", Cond.fieldLink RX0 9 "GraveyardReader$ClusterRow" "row" "[I"]
def wsL_claimAt : List Cond := .codeWith yL_claimAt cL_claimAt 5 (some .int) [(0, 10, 13, 21), (0, 10, 17, 13), (0, 10, 21, 15)] :: ((wsL_claimAt_r1 ++ (wsL_claimAt_r2 ++ wsL_claimAt_r3)) ++ wsX20 ++ wsX40 ++ wsJx4a65c0 ++ wsX00 ++ (vx_atS RX4 45 "java/lang/IllegalArgumentException" ["java/lang/RuntimeException", "java/lang/Exception"]).filter goodWord ++ (vx_atS RX4 184 "java/lang/IndexOutOfBoundsException" ["java/lang/RuntimeException", "java/lang/Exception"]).filter goodWord ++ (vx_atS RX4 58 "java/lang/IllegalStateException" ["java/lang/RuntimeException", "java/lang/Exception"]).filter goodWord)
def wsL_confidence_r1 : List Cond := [Cond.classLink RL 21 "java/lang/IndexOutOfBoundsException", Cond.classLink RL 15 "java/lang/IllegalStateException", Cond.methodLink RL 50 yX4_confidence, Cond.instanceMethod yX4_confidence, Cond.selects RX4 yX4_confidence yX4_confidence, Cond.initialized RX4, Cond.code yX4_confidence cX4_confidence 2 (some .int), Cond.methodLink RX4 153 yX4_thrownFile, Cond.instanceMethod yX4_thrownFile, Cond.selects RX4 yX4_thrownFile yX4_thrownFile, Cond.code yX4_thrownFile cX4_thrownFile 3 (some (.object "GraveyardReader$DiskFile")), Cond.classLink RX4 54 "java/lang/IllegalStateException", Cond.initialized "java/lang/IllegalStateException", Cond.methodLink RX4 143 yX4_knownFile, Cond.instanceMethod yX4_knownFile, Cond.selects RX4 yX4_knownFile yX4_knownFile, Cond.code yX4_knownFile cX4_knownFile 2 (some (.object "GraveyardReader$DiskFile")), Cond.classLink RX4 180 "java/lang/IndexOutOfBoundsException", Cond.initialized "java/lang/IndexOutOfBoundsException", Cond.fieldLink RX4 19 "GraveyardReader" "made" "Ljava/util/ArrayList;", Cond.classLink RX4 64 "GraveyardReader$DiskFile", Cond.methodLink RX4 50 yJx4a65c_size_8abf5, Cond.instanceMethod yJx4a65c_size_8abf5, Cond.selects RJx4a65c yJx4a65c_size_8abf5 yJx4a65c_size_8abf5]
def wsL_confidence_r2 : List Cond := [Cond.initialized RJx4a65c, Cond.code yJx4a65c_size_8abf5 cJx4a65c_size_8abf5 1 (some .int), Cond.fieldLink RJx4a65c 48 "java/util/ArrayList" "size" "I", Cond.methodLink RX4 167 yJx4a65c_get_915e3, Cond.instanceMethod yJx4a65c_get_915e3, Cond.selects RJx4a65c yJx4a65c_get_915e3 yJx4a65c_get_915e3, Cond.code yJx4a65c_get_915e3 cJx4a65c_get_915e3 2 (some (.object "java/lang/Object")), Cond.methodLink RJx4a65c 118 yJ15_checkIndex_7cf53, Cond.static yJ15_checkIndex_7cf53, Cond.initialized RJ15, Cond.code yJ15_checkIndex_7cf53 cJ15_checkIndex_7cf53 2 (some .int), Cond.methodLink RJ15 105 yJ3_checkIndex_8e157, Cond.static yJ3_checkIndex_8e157, Cond.initialized RJ3, Cond.code yJ3_checkIndex_8e157 cJ3_checkIndex_8e157 3 (some .int), Cond.methodLink RJx4a65c 123 yJx4a65c_elementData_915e3, Cond.instanceMethod yJx4a65c_elementData_915e3, Cond.selects RJx4a65c yJx4a65c_elementData_915e3 yJx4a65c_elementData_915e3, Cond.code yJx4a65c_elementData_915e3 cJx4a65c_elementData_915e3 2 (some (.object "java/lang/Object")), Cond.fieldLink RJx4a65c 9 "java/util/ArrayList" "elementData" "[Ljava/lang/Object;", Cond.methodLink RX4 149 yX2_isThrown, Cond.instanceMethod yX2_isThrown, Cond.selects RX2 yX2_isThrown yX2_isThrown, Cond.initialized RX2]
def wsL_confidence_r3 : List Cond := [Cond.code yX2_isThrown cX2_isThrown 1 (some .boolean), Cond.fieldLink RX2 22 "GraveyardReader$DiskFile" "thrownAs" "I"]
def wsL_confidence : List Cond := .codeWith yL_confidence cL_confidence 4 (some .int) [(0, 9, 12, 21), (0, 9, 15, 15)] :: ((wsL_confidence_r1 ++ (wsL_confidence_r2 ++ wsL_confidence_r3)) ++ wsX20 ++ wsX40 ++ wsJx4a65c0 ++ (vx_atS RX4 58 "java/lang/IllegalStateException" ["java/lang/RuntimeException", "java/lang/Exception"]).filter goodWord ++ (vx_atS RX4 184 "java/lang/IndexOutOfBoundsException" ["java/lang/RuntimeException", "java/lang/Exception"]).filter goodWord)
def wsL_ownerOf_r1 : List Cond := [Cond.classLink RL 21 "java/lang/IndexOutOfBoundsException", Cond.methodLink RL 53 yX4_ownerOf, Cond.instanceMethod yX4_ownerOf, Cond.selects RX4 yX4_ownerOf yX4_ownerOf, Cond.initialized RX4, Cond.code yX4_ownerOf cX4_ownerOf 2 (some .int), Cond.methodLink RX4 131 yX4_requireCluster, Cond.static yX4_requireCluster, Cond.code yX4_requireCluster cX4_requireCluster 1 none, Cond.classLink RX4 180 "java/lang/IndexOutOfBoundsException", Cond.initialized "java/lang/IndexOutOfBoundsException", Cond.methodLink RX4 164 yX4_strongestClaimant, Cond.instanceMethod yX4_strongestClaimant, Cond.selects RX4 yX4_strongestClaimant yX4_strongestClaimant, Cond.code yX4_strongestClaimant cX4_strongestClaimant 7 (some .int), Cond.fieldLink RX4 19 "GraveyardReader" "made" "Ljava/util/ArrayList;", Cond.classLink RX4 64 "GraveyardReader$DiskFile", Cond.methodLink RX4 50 yJx4a65c_size_8abf5, Cond.instanceMethod yJx4a65c_size_8abf5, Cond.selects RJx4a65c yJx4a65c_size_8abf5 yJx4a65c_size_8abf5, Cond.initialized RJx4a65c, Cond.code yJx4a65c_size_8abf5 cJx4a65c_size_8abf5 1 (some .int), Cond.fieldLink RJx4a65c 48 "java/util/ArrayList" "size" "I", Cond.methodLink RX4 167 yJx4a65c_get_915e3]
def wsL_ownerOf_r2 : List Cond := [Cond.instanceMethod yJx4a65c_get_915e3, Cond.selects RJx4a65c yJx4a65c_get_915e3 yJx4a65c_get_915e3, Cond.code yJx4a65c_get_915e3 cJx4a65c_get_915e3 2 (some (.object "java/lang/Object")), Cond.methodLink RJx4a65c 118 yJ15_checkIndex_7cf53, Cond.static yJ15_checkIndex_7cf53, Cond.initialized RJ15, Cond.code yJ15_checkIndex_7cf53 cJ15_checkIndex_7cf53 2 (some .int), Cond.methodLink RJ15 105 yJ3_checkIndex_8e157, Cond.static yJ3_checkIndex_8e157, Cond.initialized RJ3, Cond.code yJ3_checkIndex_8e157 cJ3_checkIndex_8e157 3 (some .int), Cond.methodLink RJx4a65c 123 yJx4a65c_elementData_915e3, Cond.instanceMethod yJx4a65c_elementData_915e3, Cond.selects RJx4a65c yJx4a65c_elementData_915e3 yJx4a65c_elementData_915e3, Cond.code yJx4a65c_elementData_915e3 cJx4a65c_elementData_915e3 2 (some (.object "java/lang/Object")), Cond.fieldLink RJx4a65c 9 "java/util/ArrayList" "elementData" "[Ljava/lang/Object;", Cond.methodLink RX4 149 yX2_isThrown, Cond.instanceMethod yX2_isThrown, Cond.selects RX2 yX2_isThrown yX2_isThrown, Cond.initialized RX2, Cond.code yX2_isThrown cX2_isThrown 1 (some .boolean), Cond.fieldLink RX2 22 "GraveyardReader$DiskFile" "thrownAs" "I", Cond.methodLink RX4 212 yX0_holds, Cond.instanceMethod yX0_holds]
def wsL_ownerOf_r3 : List Cond := [Cond.selects RX0 yX0_holds yX0_holds, Cond.initialized RX0, Cond.code yX0_holds cX0_holds 3 (some .boolean), Cond.fieldLink RX0 15 "GraveyardReader$ClusterRow" "size" "I", Cond.methodLink RX0 19 yX0_at, Cond.instanceMethod yX0_at, Cond.selects RX0 yX0_at yX0_at, Cond.code yX0_at cX0_at 2 (some .int), Cond.fieldLink RX0 9 "GraveyardReader$ClusterRow" "row" "[I"]
def wsL_ownerOf : List Cond := .codeWith yL_ownerOf cL_ownerOf 4 (some .int) [(0, 9, 12, 21)] :: ((wsL_ownerOf_r1 ++ (wsL_ownerOf_r2 ++ wsL_ownerOf_r3)) ++ wsX40 ++ wsX20 ++ wsJx4a65c0 ++ wsX00 ++ (vx_atS RX4 184 "java/lang/IndexOutOfBoundsException" ["java/lang/RuntimeException", "java/lang/Exception"]).filter goodWord)
def wsL_owned_r1 : List Cond := [Cond.classLink RL 21 "java/lang/IndexOutOfBoundsException", Cond.classLink RL 15 "java/lang/IllegalStateException", Cond.methodLink RL 56 yX4_owned, Cond.instanceMethod yX4_owned, Cond.selects RX4 yX4_owned yX4_owned, Cond.initialized RX4, Cond.code yX4_owned cX4_owned 5 (some .int), Cond.methodLink RX4 153 yX4_thrownFile, Cond.instanceMethod yX4_thrownFile, Cond.selects RX4 yX4_thrownFile yX4_thrownFile, Cond.code yX4_thrownFile cX4_thrownFile 3 (some (.object "GraveyardReader$DiskFile")), Cond.classLink RX4 54 "java/lang/IllegalStateException", Cond.initialized "java/lang/IllegalStateException", Cond.methodLink RX4 143 yX4_knownFile, Cond.instanceMethod yX4_knownFile, Cond.selects RX4 yX4_knownFile yX4_knownFile, Cond.code yX4_knownFile cX4_knownFile 2 (some (.object "GraveyardReader$DiskFile")), Cond.classLink RX4 180 "java/lang/IndexOutOfBoundsException", Cond.initialized "java/lang/IndexOutOfBoundsException", Cond.fieldLink RX4 19 "GraveyardReader" "made" "Ljava/util/ArrayList;", Cond.classLink RX4 64 "GraveyardReader$DiskFile", Cond.methodLink RX4 50 yJx4a65c_size_8abf5, Cond.instanceMethod yJx4a65c_size_8abf5, Cond.selects RJx4a65c yJx4a65c_size_8abf5 yJx4a65c_size_8abf5]
def wsL_owned_r2 : List Cond := [Cond.initialized RJx4a65c, Cond.code yJx4a65c_size_8abf5 cJx4a65c_size_8abf5 1 (some .int), Cond.fieldLink RJx4a65c 48 "java/util/ArrayList" "size" "I", Cond.methodLink RX4 167 yJx4a65c_get_915e3, Cond.instanceMethod yJx4a65c_get_915e3, Cond.selects RJx4a65c yJx4a65c_get_915e3 yJx4a65c_get_915e3, Cond.code yJx4a65c_get_915e3 cJx4a65c_get_915e3 2 (some (.object "java/lang/Object")), Cond.methodLink RJx4a65c 118 yJ15_checkIndex_7cf53, Cond.static yJ15_checkIndex_7cf53, Cond.initialized RJ15, Cond.code yJ15_checkIndex_7cf53 cJ15_checkIndex_7cf53 2 (some .int), Cond.methodLink RJ15 105 yJ3_checkIndex_8e157, Cond.static yJ3_checkIndex_8e157, Cond.initialized RJ3, Cond.code yJ3_checkIndex_8e157 cJ3_checkIndex_8e157 3 (some .int), Cond.methodLink RJx4a65c 123 yJx4a65c_elementData_915e3, Cond.instanceMethod yJx4a65c_elementData_915e3, Cond.selects RJx4a65c yJx4a65c_elementData_915e3 yJx4a65c_elementData_915e3, Cond.code yJx4a65c_elementData_915e3 cJx4a65c_elementData_915e3 2 (some (.object "java/lang/Object")), Cond.fieldLink RJx4a65c 9 "java/util/ArrayList" "elementData" "[Ljava/lang/Object;", Cond.methodLink RX4 149 yX2_isThrown, Cond.instanceMethod yX2_isThrown, Cond.selects RX2 yX2_isThrown yX2_isThrown, Cond.initialized RX2]
def wsL_owned_r3 : List Cond := [Cond.code yX2_isThrown cX2_isThrown 1 (some .boolean), Cond.fieldLink RX2 22 "GraveyardReader$DiskFile" "thrownAs" "I", Cond.methodLink RX4 104 yX0_at, Cond.instanceMethod yX0_at, Cond.selects RX0 yX0_at yX0_at, Cond.initialized RX0, Cond.code yX0_at cX0_at 2 (some .int), Cond.fieldLink RX0 15 "GraveyardReader$ClusterRow" "size" "I", Cond.fieldLink RX0 9 "GraveyardReader$ClusterRow" "row" "[I", Cond.methodLink RX4 164 yX4_strongestClaimant, Cond.instanceMethod yX4_strongestClaimant, Cond.selects RX4 yX4_strongestClaimant yX4_strongestClaimant, Cond.code yX4_strongestClaimant cX4_strongestClaimant 7 (some .int), Cond.methodLink RX4 212 yX0_holds, Cond.instanceMethod yX0_holds, Cond.selects RX0 yX0_holds yX0_holds, Cond.code yX0_holds cX0_holds 3 (some .boolean), Cond.methodLink RX0 19 yX0_at]
def wsL_owned : List Cond := .codeWith yL_owned cL_owned 4 (some .int) [(0, 9, 12, 21), (0, 9, 15, 15)] :: ((wsL_owned_r1 ++ (wsL_owned_r2 ++ wsL_owned_r3)) ++ wsX20 ++ wsX00 ++ wsX40 ++ wsJx4a65c0 ++ (vx_atS RX4 58 "java/lang/IllegalStateException" ["java/lang/RuntimeException", "java/lang/Exception"]).filter goodWord ++ (vx_atS RX4 184 "java/lang/IndexOutOfBoundsException" ["java/lang/RuntimeException", "java/lang/Exception"]).filter goodWord)
def wsL_hasJoin_r1 : List Cond := [Cond.classLink RL 21 "java/lang/IndexOutOfBoundsException", Cond.classLink RL 15 "java/lang/IllegalStateException", Cond.methodLink RL 59 yX4_hasJoin, Cond.instanceMethod yX4_hasJoin, Cond.selects RX4 yX4_hasJoin yX4_hasJoin, Cond.initialized RX4, Cond.code yX4_hasJoin cX4_hasJoin 2 (some .boolean), Cond.fieldLink RX4 26 "GraveyardReader" "joins" "LGraveyardReader$JoinSearch;", Cond.fieldLink RX4 10 "GraveyardReader" "disk" "LGraveyardReader$Disk;", Cond.methodLink RX4 153 yX4_thrownFile, Cond.instanceMethod yX4_thrownFile, Cond.selects RX4 yX4_thrownFile yX4_thrownFile, Cond.code yX4_thrownFile cX4_thrownFile 3 (some (.object "GraveyardReader$DiskFile")), Cond.classLink RX4 54 "java/lang/IllegalStateException", Cond.initialized "java/lang/IllegalStateException", Cond.methodLink RX4 143 yX4_knownFile, Cond.instanceMethod yX4_knownFile, Cond.selects RX4 yX4_knownFile yX4_knownFile, Cond.code yX4_knownFile cX4_knownFile 2 (some (.object "GraveyardReader$DiskFile")), Cond.classLink RX4 180 "java/lang/IndexOutOfBoundsException", Cond.initialized "java/lang/IndexOutOfBoundsException", Cond.fieldLink RX4 19 "GraveyardReader" "made" "Ljava/util/ArrayList;", Cond.classLink RX4 64 "GraveyardReader$DiskFile", Cond.methodLink RX4 50 yJx4a65c_size_8abf5]
def wsL_hasJoin_r2 : List Cond := [Cond.instanceMethod yJx4a65c_size_8abf5, Cond.selects RJx4a65c yJx4a65c_size_8abf5 yJx4a65c_size_8abf5, Cond.initialized RJx4a65c, Cond.code yJx4a65c_size_8abf5 cJx4a65c_size_8abf5 1 (some .int), Cond.fieldLink RJx4a65c 48 "java/util/ArrayList" "size" "I", Cond.methodLink RX4 167 yJx4a65c_get_915e3, Cond.instanceMethod yJx4a65c_get_915e3, Cond.selects RJx4a65c yJx4a65c_get_915e3 yJx4a65c_get_915e3, Cond.code yJx4a65c_get_915e3 cJx4a65c_get_915e3 2 (some (.object "java/lang/Object")), Cond.methodLink RJx4a65c 118 yJ15_checkIndex_7cf53, Cond.static yJ15_checkIndex_7cf53, Cond.initialized RJ15, Cond.code yJ15_checkIndex_7cf53 cJ15_checkIndex_7cf53 2 (some .int), Cond.methodLink RJ15 105 yJ3_checkIndex_8e157, Cond.static yJ3_checkIndex_8e157, Cond.initialized RJ3, Cond.code yJ3_checkIndex_8e157 cJ3_checkIndex_8e157 3 (some .int), Cond.methodLink RJx4a65c 123 yJx4a65c_elementData_915e3, Cond.instanceMethod yJx4a65c_elementData_915e3, Cond.selects RJx4a65c yJx4a65c_elementData_915e3 yJx4a65c_elementData_915e3, Cond.code yJx4a65c_elementData_915e3 cJx4a65c_elementData_915e3 2 (some (.object "java/lang/Object")), Cond.fieldLink RJx4a65c 9 "java/util/ArrayList" "elementData" "[Ljava/lang/Object;", Cond.methodLink RX4 149 yX2_isThrown, Cond.instanceMethod yX2_isThrown]
def wsL_hasJoin_r3 : List Cond := [Cond.selects RX2 yX2_isThrown yX2_isThrown, Cond.initialized RX2, Cond.code yX2_isThrown cX2_isThrown 1 (some .boolean), Cond.fieldLink RX2 22 "GraveyardReader$DiskFile" "thrownAs" "I", Cond.methodLink RX4 171 yX3_find, Cond.instanceMethod yX3_find, Cond.selects RX3 yX3_find yX3_find, Cond.initialized RX3, Cond.code yX3_find cX3_find 4 (some .boolean), Cond.fieldLink RX3 28 "GraveyardReader$JoinSearch" "length" "I", Cond.fieldLink RX3 32 "GraveyardReader$JoinSearch" "first" "I", Cond.fieldLink RX3 35 "GraveyardReader$JoinSearch" "wantedSum" "I", Cond.methodLink RX3 49 yX0_at, Cond.instanceMethod yX0_at, Cond.selects RX0 yX0_at yX0_at, Cond.initialized RX0, Cond.code yX0_at cX0_at 2 (some .int), Cond.fieldLink RX0 15 "GraveyardReader$ClusterRow" "size" "I", Cond.fieldLink RX0 9 "GraveyardReader$ClusterRow" "row" "[I", Cond.methodLink RX3 56 yX1_isFree, Cond.instanceMethod yX1_isFree, Cond.selects RX1 yX1_isFree yX1_isFree, Cond.initialized RX1, Cond.code yX1_isFree cX1_isFree 2 (some .boolean)]
def wsL_hasJoin_r4 : List Cond := [Cond.fieldLink RX1 15 "GraveyardReader$Disk" "holders" "[I", Cond.methodLink RX3 62 yX3_weigh, Cond.instanceMethod yX3_weigh, Cond.selects RX3 yX3_weigh yX3_weigh, Cond.code yX3_weigh cX3_weigh 7 none, Cond.fieldLink RX3 9 "GraveyardReader$JoinSearch" "plain" "[I", Cond.fieldLink RX3 15 "GraveyardReader$JoinSearch" "weighed" "[I", Cond.fieldLink RX3 18 "GraveyardReader$JoinSearch" "open" "[Z", Cond.fieldLink RX3 22 "GraveyardReader$JoinSearch" "ends" "[Z", Cond.methodLink RX3 70 yX1_read, Cond.instanceMethod yX1_read, Cond.selects RX1 yX1_read yX1_read, Cond.code yX1_read cX1_read 4 (some .int), Cond.fieldLink RX1 9 "GraveyardReader$Disk" "numbers" "[I", Cond.methodLink RX3 66 yX3_fill, Cond.instanceMethod yX3_fill, Cond.selects RX3 yX3_fill yX3_fill, Cond.code yX3_fill cX3_fill 6 (some .boolean), Cond.fieldLink RX3 25 "GraveyardReader$JoinSearch" "found" "[I", Cond.methodLink RX3 74 yX3_goesOn, Cond.instanceMethod yX3_goesOn, Cond.selects RX3 yX3_goesOn yX3_goesOn, Cond.code yX3_goesOn cX3_goesOn 5 (some .boolean)]
def wsL_hasJoin : List Cond := .codeWith yL_hasJoin cL_hasJoin 4 (some .int) [(0, 16, 19, 21), (0, 16, 22, 15)] :: ((wsL_hasJoin_r1 ++ (wsL_hasJoin_r2 ++ (wsL_hasJoin_r3 ++ wsL_hasJoin_r4))) ++ wsX40 ++ wsJx4a65c0 ++ wsX20 ++ wsX00 ++ wsX30 ++ wsX10 ++ (vx_atS RX4 58 "java/lang/IllegalStateException" ["java/lang/RuntimeException", "java/lang/Exception"]).filter goodWord ++ (vx_atS RX4 184 "java/lang/IndexOutOfBoundsException" ["java/lang/RuntimeException", "java/lang/Exception"]).filter goodWord)
def wsL_joinAt_r1 : List Cond := [Cond.classLink RL 21 "java/lang/IndexOutOfBoundsException", Cond.classLink RL 13 "java/lang/IllegalArgumentException", Cond.classLink RL 15 "java/lang/IllegalStateException", Cond.methodLink RL 63 yX4_joinAt, Cond.instanceMethod yX4_joinAt, Cond.selects RX4 yX4_joinAt yX4_joinAt, Cond.initialized RX4, Cond.code yX4_joinAt cX4_joinAt 3 (some .int), Cond.classLink RX4 54 "java/lang/IllegalStateException", Cond.initialized "java/lang/IllegalStateException", Cond.fieldLink RX4 26 "GraveyardReader" "joins" "LGraveyardReader$JoinSearch;", Cond.fieldLink RX4 10 "GraveyardReader" "disk" "LGraveyardReader$Disk;", Cond.methodLink RX4 143 yX4_knownFile, Cond.instanceMethod yX4_knownFile, Cond.selects RX4 yX4_knownFile yX4_knownFile, Cond.code yX4_knownFile cX4_knownFile 2 (some (.object "GraveyardReader$DiskFile")), Cond.classLink RX4 180 "java/lang/IndexOutOfBoundsException", Cond.initialized "java/lang/IndexOutOfBoundsException", Cond.fieldLink RX4 19 "GraveyardReader" "made" "Ljava/util/ArrayList;", Cond.classLink RX4 64 "GraveyardReader$DiskFile", Cond.methodLink RX4 50 yJx4a65c_size_8abf5, Cond.instanceMethod yJx4a65c_size_8abf5, Cond.selects RJx4a65c yJx4a65c_size_8abf5 yJx4a65c_size_8abf5, Cond.initialized RJx4a65c]
def wsL_joinAt_r2 : List Cond := [Cond.code yJx4a65c_size_8abf5 cJx4a65c_size_8abf5 1 (some .int), Cond.fieldLink RJx4a65c 48 "java/util/ArrayList" "size" "I", Cond.methodLink RX4 167 yJx4a65c_get_915e3, Cond.instanceMethod yJx4a65c_get_915e3, Cond.selects RJx4a65c yJx4a65c_get_915e3 yJx4a65c_get_915e3, Cond.code yJx4a65c_get_915e3 cJx4a65c_get_915e3 2 (some (.object "java/lang/Object")), Cond.methodLink RJx4a65c 118 yJ15_checkIndex_7cf53, Cond.static yJ15_checkIndex_7cf53, Cond.initialized RJ15, Cond.code yJ15_checkIndex_7cf53 cJ15_checkIndex_7cf53 2 (some .int), Cond.methodLink RJ15 105 yJ3_checkIndex_8e157, Cond.static yJ3_checkIndex_8e157, Cond.initialized RJ3, Cond.code yJ3_checkIndex_8e157 cJ3_checkIndex_8e157 3 (some .int), Cond.methodLink RJx4a65c 123 yJx4a65c_elementData_915e3, Cond.instanceMethod yJx4a65c_elementData_915e3, Cond.selects RJx4a65c yJx4a65c_elementData_915e3 yJx4a65c_elementData_915e3, Cond.code yJx4a65c_elementData_915e3 cJx4a65c_elementData_915e3 2 (some (.object "java/lang/Object")), Cond.fieldLink RJx4a65c 9 "java/util/ArrayList" "elementData" "[Ljava/lang/Object;", Cond.methodLink RX4 146 yX4_requirePlaceInChain, Cond.static yX4_requirePlaceInChain, Cond.code yX4_requirePlaceInChain cX4_requirePlaceInChain 2 none, Cond.classLink RX4 41 "java/lang/IllegalArgumentException", Cond.initialized "java/lang/IllegalArgumentException"]
def wsL_joinAt_r3 : List Cond := [Cond.methodLink RX4 153 yX4_thrownFile, Cond.instanceMethod yX4_thrownFile, Cond.selects RX4 yX4_thrownFile yX4_thrownFile, Cond.code yX4_thrownFile cX4_thrownFile 3 (some (.object "GraveyardReader$DiskFile")), Cond.methodLink RX4 149 yX2_isThrown, Cond.instanceMethod yX2_isThrown, Cond.selects RX2 yX2_isThrown yX2_isThrown, Cond.initialized RX2, Cond.code yX2_isThrown cX2_isThrown 1 (some .boolean), Cond.fieldLink RX2 22 "GraveyardReader$DiskFile" "thrownAs" "I", Cond.methodLink RX4 171 yX3_find, Cond.instanceMethod yX3_find, Cond.selects RX3 yX3_find yX3_find, Cond.initialized RX3, Cond.code yX3_find cX3_find 4 (some .boolean), Cond.fieldLink RX3 28 "GraveyardReader$JoinSearch" "length" "I", Cond.fieldLink RX3 32 "GraveyardReader$JoinSearch" "first" "I", Cond.fieldLink RX3 35 "GraveyardReader$JoinSearch" "wantedSum" "I", Cond.methodLink RX3 49 yX0_at, Cond.instanceMethod yX0_at, Cond.selects RX0 yX0_at yX0_at, Cond.initialized RX0, Cond.code yX0_at cX0_at 2 (some .int), Cond.fieldLink RX0 15 "GraveyardReader$ClusterRow" "size" "I"]
def wsL_joinAt_r4 : List Cond := [Cond.fieldLink RX0 9 "GraveyardReader$ClusterRow" "row" "[I", Cond.methodLink RX3 56 yX1_isFree, Cond.instanceMethod yX1_isFree, Cond.selects RX1 yX1_isFree yX1_isFree, Cond.initialized RX1, Cond.code yX1_isFree cX1_isFree 2 (some .boolean), Cond.fieldLink RX1 15 "GraveyardReader$Disk" "holders" "[I", Cond.methodLink RX3 62 yX3_weigh, Cond.instanceMethod yX3_weigh, Cond.selects RX3 yX3_weigh yX3_weigh, Cond.code yX3_weigh cX3_weigh 7 none, Cond.fieldLink RX3 9 "GraveyardReader$JoinSearch" "plain" "[I", Cond.fieldLink RX3 15 "GraveyardReader$JoinSearch" "weighed" "[I", Cond.fieldLink RX3 18 "GraveyardReader$JoinSearch" "open" "[Z", Cond.fieldLink RX3 22 "GraveyardReader$JoinSearch" "ends" "[Z", Cond.methodLink RX3 70 yX1_read, Cond.instanceMethod yX1_read, Cond.selects RX1 yX1_read yX1_read, Cond.code yX1_read cX1_read 4 (some .int), Cond.fieldLink RX1 9 "GraveyardReader$Disk" "numbers" "[I", Cond.methodLink RX3 66 yX3_fill, Cond.instanceMethod yX3_fill, Cond.selects RX3 yX3_fill yX3_fill, Cond.code yX3_fill cX3_fill 6 (some .boolean)]
def wsL_joinAt_r5 : List Cond := [Cond.fieldLink RX3 25 "GraveyardReader$JoinSearch" "found" "[I", Cond.methodLink RX3 74 yX3_goesOn, Cond.instanceMethod yX3_goesOn, Cond.selects RX3 yX3_goesOn yX3_goesOn, Cond.code yX3_goesOn cX3_goesOn 5 (some .boolean), Cond.methodLink RX4 177 yX3_clusterFoundAt, Cond.instanceMethod yX3_clusterFoundAt, Cond.selects RX3 yX3_clusterFoundAt yX3_clusterFoundAt, Cond.code yX3_clusterFoundAt cX3_clusterFoundAt 2 (some .int)]
def wsL_joinAt : List Cond := .codeWith yL_joinAt cL_joinAt 5 (some .int) [(0, 10, 13, 21), (0, 10, 17, 13), (0, 10, 21, 15)] :: ((wsL_joinAt_r1 ++ (wsL_joinAt_r2 ++ (wsL_joinAt_r3 ++ (wsL_joinAt_r4 ++ wsL_joinAt_r5)))) ++ wsX40 ++ wsJx4a65c0 ++ wsX20 ++ wsX00 ++ wsX30 ++ wsX10 ++ (vx_atS RX4 58 "java/lang/IllegalStateException" ["java/lang/RuntimeException", "java/lang/Exception"]).filter goodWord ++ (vx_atS RX4 184 "java/lang/IndexOutOfBoundsException" ["java/lang/RuntimeException", "java/lang/Exception"]).filter goodWord ++ (vx_atS RX4 45 "java/lang/IllegalArgumentException" ["java/lang/RuntimeException", "java/lang/Exception"]).filter goodWord)
end
section
theorem dX0_init_0 : decode cX0_init 0 = .ok (.aload_n 0, 1) := by decide +kernel
theorem dX0_init_1 : decode cX0_init 1 = .ok (.invokespecial 3, 3) := by decide +kernel
theorem dX0_init_4 : decode cX0_init 4 = .ok (.aload_n 0, 1) := by decide +kernel
theorem dX0_init_5 : decode cX0_init 5 = .ok (.bipush 8, 2) := by decide +kernel
theorem dX0_init_7 : decode cX0_init 7 = .ok (.newarray .int, 2) := by decide +kernel
theorem dX0_init_9 : decode cX0_init 9 = .ok (.putfield 9, 3) := by decide +kernel
theorem dX0_init_12 : decode cX0_init 12 = .ok (.aload_n 0, 1) := by decide +kernel
theorem dX0_init_13 : decode cX0_init 13 = .ok (.iconst 0, 1) := by decide +kernel
theorem dX0_init_14 : decode cX0_init 14 = .ok (.putfield 15, 3) := by decide +kernel
theorem dX0_init_17 : decode cX0_init 17 = .ok (.return_, 1) := by decide +kernel
theorem dX0_clear_0 : decode cX0_clear 0 = .ok (.aload_n 0, 1) := by decide +kernel
theorem dX0_clear_1 : decode cX0_clear 1 = .ok (.iconst 0, 1) := by decide +kernel
theorem dX0_clear_2 : decode cX0_clear 2 = .ok (.putfield 15, 3) := by decide +kernel
theorem dX0_clear_5 : decode cX0_clear 5 = .ok (.return_, 1) := by decide +kernel
theorem dX0_add_0 : decode cX0_add 0 = .ok (.aload_n 0, 1) := by decide +kernel
theorem dX0_add_1 : decode cX0_add 1 = .ok (.getfield 15, 3) := by decide +kernel
theorem dX0_add_4 : decode cX0_add 4 = .ok (.ifCond .lt 35, 3) := by decide +kernel
theorem dX0_add_7 : decode cX0_add 7 = .ok (.aload_n 0, 1) := by decide +kernel
theorem dX0_add_8 : decode cX0_add 8 = .ok (.getfield 15, 3) := by decide +kernel
theorem dX0_add_11 : decode cX0_add 11 = .ok (.aload_n 0, 1) := by decide +kernel
theorem dX0_add_12 : decode cX0_add 12 = .ok (.getfield 9, 3) := by decide +kernel
theorem dX0_add_15 : decode cX0_add 15 = .ok (.arraylength, 1) := by decide +kernel
theorem dX0_add_16 : decode cX0_add 16 = .ok (.if_icmp .ge 23, 3) := by decide +kernel
theorem dX0_add_19 : decode cX0_add 19 = .ok (.aload_n 0, 1) := by decide +kernel
theorem dX0_add_20 : decode cX0_add 20 = .ok (.getfield 9, 3) := by decide +kernel
theorem dX0_add_23 : decode cX0_add 23 = .ok (.aload_n 0, 1) := by decide +kernel
theorem dX0_add_24 : decode cX0_add 24 = .ok (.getfield 15, 3) := by decide +kernel
theorem dX0_add_27 : decode cX0_add 27 = .ok (.iload_n 1, 1) := by decide +kernel
theorem dX0_add_28 : decode cX0_add 28 = .ok (.iastore, 1) := by decide +kernel
theorem dX0_add_29 : decode cX0_add 29 = .ok (.aload_n 0, 1) := by decide +kernel
theorem dX0_add_30 : decode cX0_add 30 = .ok (.dup, 1) := by decide +kernel
theorem dX0_add_31 : decode cX0_add 31 = .ok (.getfield 15, 3) := by decide +kernel
theorem dX0_add_34 : decode cX0_add 34 = .ok (.iconst 1, 1) := by decide +kernel
theorem dX0_add_35 : decode cX0_add 35 = .ok (.iadd, 1) := by decide +kernel
theorem dX0_add_36 : decode cX0_add 36 = .ok (.putfield 15, 3) := by decide +kernel
theorem dX0_add_39 : decode cX0_add 39 = .ok (.return_, 1) := by decide +kernel
theorem dX0_at_0 : decode cX0_at 0 = .ok (.iload_n 1, 1) := by decide +kernel
theorem dX0_at_1 : decode cX0_at 1 = .ok (.ifCond .lt 29, 3) := by decide +kernel
theorem dX0_at_4 : decode cX0_at 4 = .ok (.iload_n 1, 1) := by decide +kernel
theorem dX0_at_5 : decode cX0_at 5 = .ok (.aload_n 0, 1) := by decide +kernel
theorem dX0_at_6 : decode cX0_at 6 = .ok (.getfield 15, 3) := by decide +kernel
theorem dX0_at_9 : decode cX0_at 9 = .ok (.if_icmp .ge 21, 3) := by decide +kernel
theorem dX0_at_12 : decode cX0_at 12 = .ok (.iload_n 1, 1) := by decide +kernel
theorem dX0_at_13 : decode cX0_at 13 = .ok (.aload_n 0, 1) := by decide +kernel
theorem dX0_at_14 : decode cX0_at 14 = .ok (.getfield 9, 3) := by decide +kernel
theorem dX0_at_17 : decode cX0_at 17 = .ok (.arraylength, 1) := by decide +kernel
theorem dX0_at_18 : decode cX0_at 18 = .ok (.if_icmp .ge 12, 3) := by decide +kernel
theorem dX0_at_21 : decode cX0_at 21 = .ok (.aload_n 0, 1) := by decide +kernel
theorem dX0_at_22 : decode cX0_at 22 = .ok (.getfield 9, 3) := by decide +kernel
theorem dX0_at_25 : decode cX0_at 25 = .ok (.iload_n 1, 1) := by decide +kernel
theorem dX0_at_26 : decode cX0_at 26 = .ok (.iaload, 1) := by decide +kernel
theorem dX0_at_27 : decode cX0_at 27 = .ok (.goto 4, 3) := by decide +kernel
theorem dX0_at_30 : decode cX0_at 30 = .ok (.iconst (-1), 1) := by decide +kernel
theorem dX0_at_31 : decode cX0_at 31 = .ok (.ireturn, 1) := by decide +kernel
set_option maxRecDepth 20000 in
theorem ggX0_holds_X0_at : GoodIn wsX0_holds wsX0_at := goodIn_r _ [6, 1, 7, 8, 9] (by decide +kernel) (by decide +kernel)
set_option maxRecDepth 20000 in
theorem gX0_holds_X0_at : GoodIn wsX0_holds (wsV RX0 19 RX0 yX0_at wsX0_at) := goodIn_app (goodIn_of _ (by decide +kernel)) ggX0_holds_X0_at
theorem dX0_holds_0 : decode cX0_holds 0 = .ok (.iconst 0, 1) := by decide +kernel
theorem dX0_holds_1 : decode cX0_holds 1 = .ok (.istore_n 2, 1) := by decide +kernel
theorem dX0_holds_2 : decode cX0_holds 2 = .ok (.iload_n 2, 1) := by decide +kernel
theorem dX0_holds_3 : decode cX0_holds 3 = .ok (.aload_n 0, 1) := by decide +kernel
theorem dX0_holds_4 : decode cX0_holds 4 = .ok (.getfield 15, 3) := by decide +kernel
theorem dX0_holds_7 : decode cX0_holds 7 = .ok (.if_icmp .ge 20, 3) := by decide +kernel
theorem dX0_holds_10 : decode cX0_holds 10 = .ok (.aload_n 0, 1) := by decide +kernel
theorem dX0_holds_11 : decode cX0_holds 11 = .ok (.iload_n 2, 1) := by decide +kernel
theorem dX0_holds_12 : decode cX0_holds 12 = .ok (.invokevirtual 19, 3) := by decide +kernel
theorem dX0_holds_15 : decode cX0_holds 15 = .ok (.iload_n 1, 1) := by decide +kernel
theorem dX0_holds_16 : decode cX0_holds 16 = .ok (.if_icmp .ne 5, 3) := by decide +kernel
theorem dX0_holds_19 : decode cX0_holds 19 = .ok (.iconst 1, 1) := by decide +kernel
theorem dX0_holds_20 : decode cX0_holds 20 = .ok (.ireturn, 1) := by decide +kernel
theorem dX0_holds_21 : decode cX0_holds 21 = .ok (.iinc 2 1, 3) := by decide +kernel
theorem dX0_holds_24 : decode cX0_holds 24 = .ok (.goto (-22), 3) := by decide +kernel
theorem dX0_holds_27 : decode cX0_holds 27 = .ok (.iconst 0, 1) := by decide +kernel
theorem dX0_holds_28 : decode cX0_holds 28 = .ok (.ireturn, 1) := by decide +kernel
set_option maxRecDepth 20000 in
theorem ggX1_init_J7_fill_53178 : GoodIn wsX1_init wsJ7_fill_53178 := goodIn_r _ [10] (by decide +kernel) (by decide +kernel)
set_option maxRecDepth 20000 in
theorem gX1_init_J7_fill_53178 : GoodIn wsX1_init (va_wsS RX1 18 yJ7_fill_53178 wsJ7_fill_53178) := goodIn_app (goodIn_of _ (by decide +kernel)) ggX1_init_J7_fill_53178
theorem dX1_init_0 : decode cX1_init 0 = .ok (.aload_n 0, 1) := by decide +kernel
theorem dX1_init_1 : decode cX1_init 1 = .ok (.invokespecial 3, 3) := by decide +kernel
theorem dX1_init_4 : decode cX1_init 4 = .ok (.aload_n 0, 1) := by decide +kernel
theorem dX1_init_5 : decode cX1_init 5 = .ok (.sipush 160, 3) := by decide +kernel
theorem dX1_init_8 : decode cX1_init 8 = .ok (.newarray .int, 2) := by decide +kernel
theorem dX1_init_10 : decode cX1_init 10 = .ok (.putfield 9, 3) := by decide +kernel
theorem dX1_init_13 : decode cX1_init 13 = .ok (.aload_n 0, 1) := by decide +kernel
theorem dX1_init_14 : decode cX1_init 14 = .ok (.bipush 40, 2) := by decide +kernel
theorem dX1_init_16 : decode cX1_init 16 = .ok (.newarray .int, 2) := by decide +kernel
theorem dX1_init_18 : decode cX1_init 18 = .ok (.putfield 15, 3) := by decide +kernel
theorem dX1_init_21 : decode cX1_init 21 = .ok (.aload_n 0, 1) := by decide +kernel
theorem dX1_init_22 : decode cX1_init 22 = .ok (.getfield 15, 3) := by decide +kernel
theorem dX1_init_25 : decode cX1_init 25 = .ok (.iconst (-1), 1) := by decide +kernel
theorem dX1_init_26 : decode cX1_init 26 = .ok (.invokestatic 18, 3) := by decide +kernel
theorem dX1_init_29 : decode cX1_init 29 = .ok (.return_, 1) := by decide +kernel
theorem dX1_isFree_0 : decode cX1_isFree 0 = .ok (.iload_n 1, 1) := by decide +kernel
theorem dX1_isFree_1 : decode cX1_isFree 1 = .ok (.ifCond .lt 26, 3) := by decide +kernel
theorem dX1_isFree_4 : decode cX1_isFree 4 = .ok (.iload_n 1, 1) := by decide +kernel
theorem dX1_isFree_5 : decode cX1_isFree 5 = .ok (.aload_n 0, 1) := by decide +kernel
theorem dX1_isFree_6 : decode cX1_isFree 6 = .ok (.getfield 15, 3) := by decide +kernel
theorem dX1_isFree_9 : decode cX1_isFree 9 = .ok (.arraylength, 1) := by decide +kernel
theorem dX1_isFree_10 : decode cX1_isFree 10 = .ok (.if_icmp .ge 17, 3) := by decide +kernel
theorem dX1_isFree_13 : decode cX1_isFree 13 = .ok (.aload_n 0, 1) := by decide +kernel
theorem dX1_isFree_14 : decode cX1_isFree 14 = .ok (.getfield 15, 3) := by decide +kernel
theorem dX1_isFree_17 : decode cX1_isFree 17 = .ok (.iload_n 1, 1) := by decide +kernel
theorem dX1_isFree_18 : decode cX1_isFree 18 = .ok (.iaload, 1) := by decide +kernel
theorem dX1_isFree_19 : decode cX1_isFree 19 = .ok (.iconst (-1), 1) := by decide +kernel
theorem dX1_isFree_20 : decode cX1_isFree 20 = .ok (.if_icmp .ne 7, 3) := by decide +kernel
theorem dX1_isFree_23 : decode cX1_isFree 23 = .ok (.iconst 1, 1) := by decide +kernel
theorem dX1_isFree_24 : decode cX1_isFree 24 = .ok (.goto 4, 3) := by decide +kernel
theorem dX1_isFree_27 : decode cX1_isFree 27 = .ok (.iconst 0, 1) := by decide +kernel
theorem dX1_isFree_28 : decode cX1_isFree 28 = .ok (.ireturn, 1) := by decide +kernel
theorem dX1_holderOf_0 : decode cX1_holderOf 0 = .ok (.iload_n 1, 1) := by decide +kernel
theorem dX1_holderOf_1 : decode cX1_holderOf 1 = .ok (.ifCond .lt 21, 3) := by decide +kernel
theorem dX1_holderOf_4 : decode cX1_holderOf 4 = .ok (.iload_n 1, 1) := by decide +kernel
theorem dX1_holderOf_5 : decode cX1_holderOf 5 = .ok (.aload_n 0, 1) := by decide +kernel
theorem dX1_holderOf_6 : decode cX1_holderOf 6 = .ok (.getfield 15, 3) := by decide +kernel
theorem dX1_holderOf_9 : decode cX1_holderOf 9 = .ok (.arraylength, 1) := by decide +kernel
theorem dX1_holderOf_10 : decode cX1_holderOf 10 = .ok (.if_icmp .ge 12, 3) := by decide +kernel
theorem dX1_holderOf_13 : decode cX1_holderOf 13 = .ok (.aload_n 0, 1) := by decide +kernel
theorem dX1_holderOf_14 : decode cX1_holderOf 14 = .ok (.getfield 15, 3) := by decide +kernel
theorem dX1_holderOf_17 : decode cX1_holderOf 17 = .ok (.iload_n 1, 1) := by decide +kernel
theorem dX1_holderOf_18 : decode cX1_holderOf 18 = .ok (.iaload, 1) := by decide +kernel
theorem dX1_holderOf_19 : decode cX1_holderOf 19 = .ok (.goto 4, 3) := by decide +kernel
theorem dX1_holderOf_22 : decode cX1_holderOf 22 = .ok (.iconst (-1), 1) := by decide +kernel
theorem dX1_holderOf_23 : decode cX1_holderOf 23 = .ok (.ireturn, 1) := by decide +kernel
theorem dX1_countFree_0 : decode cX1_countFree 0 = .ok (.iconst 0, 1) := by decide +kernel
theorem dX1_countFree_1 : decode cX1_countFree 1 = .ok (.istore_n 1, 1) := by decide +kernel
theorem dX1_countFree_2 : decode cX1_countFree 2 = .ok (.iconst 0, 1) := by decide +kernel
theorem dX1_countFree_3 : decode cX1_countFree 3 = .ok (.istore_n 2, 1) := by decide +kernel
theorem dX1_countFree_4 : decode cX1_countFree 4 = .ok (.iload_n 2, 1) := by decide +kernel
theorem dX1_countFree_5 : decode cX1_countFree 5 = .ok (.aload_n 0, 1) := by decide +kernel
theorem dX1_countFree_6 : decode cX1_countFree 6 = .ok (.getfield 15, 3) := by decide +kernel
theorem dX1_countFree_9 : decode cX1_countFree 9 = .ok (.arraylength, 1) := by decide +kernel
theorem dX1_countFree_10 : decode cX1_countFree 10 = .ok (.if_icmp .ge 22, 3) := by decide +kernel
theorem dX1_countFree_13 : decode cX1_countFree 13 = .ok (.aload_n 0, 1) := by decide +kernel
theorem dX1_countFree_14 : decode cX1_countFree 14 = .ok (.getfield 15, 3) := by decide +kernel
theorem dX1_countFree_17 : decode cX1_countFree 17 = .ok (.iload_n 2, 1) := by decide +kernel
theorem dX1_countFree_18 : decode cX1_countFree 18 = .ok (.iaload, 1) := by decide +kernel
theorem dX1_countFree_19 : decode cX1_countFree 19 = .ok (.iconst (-1), 1) := by decide +kernel
theorem dX1_countFree_20 : decode cX1_countFree 20 = .ok (.if_icmp .ne 6, 3) := by decide +kernel
theorem dX1_countFree_23 : decode cX1_countFree 23 = .ok (.iinc 1 1, 3) := by decide +kernel
theorem dX1_countFree_26 : decode cX1_countFree 26 = .ok (.iinc 2 1, 3) := by decide +kernel
theorem dX1_countFree_29 : decode cX1_countFree 29 = .ok (.goto (-25), 3) := by decide +kernel
theorem dX1_countFree_32 : decode cX1_countFree 32 = .ok (.iload_n 1, 1) := by decide +kernel
theorem dX1_countFree_33 : decode cX1_countFree 33 = .ok (.ireturn, 1) := by decide +kernel
theorem dX1_takeLowest_0 : decode cX1_takeLowest 0 = .ok (.iconst 0, 1) := by decide +kernel
theorem dX1_takeLowest_1 : decode cX1_takeLowest 1 = .ok (.istore_n 2, 1) := by decide +kernel
theorem dX1_takeLowest_2 : decode cX1_takeLowest 2 = .ok (.iload_n 2, 1) := by decide +kernel
theorem dX1_takeLowest_3 : decode cX1_takeLowest 3 = .ok (.aload_n 0, 1) := by decide +kernel
theorem dX1_takeLowest_4 : decode cX1_takeLowest 4 = .ok (.getfield 15, 3) := by decide +kernel
theorem dX1_takeLowest_7 : decode cX1_takeLowest 7 = .ok (.arraylength, 1) := by decide +kernel
theorem dX1_takeLowest_8 : decode cX1_takeLowest 8 = .ok (.if_icmp .ge 28, 3) := by decide +kernel
theorem dX1_takeLowest_11 : decode cX1_takeLowest 11 = .ok (.aload_n 0, 1) := by decide +kernel
theorem dX1_takeLowest_12 : decode cX1_takeLowest 12 = .ok (.getfield 15, 3) := by decide +kernel
theorem dX1_takeLowest_15 : decode cX1_takeLowest 15 = .ok (.iload_n 2, 1) := by decide +kernel
theorem dX1_takeLowest_16 : decode cX1_takeLowest 16 = .ok (.iaload, 1) := by decide +kernel
theorem dX1_takeLowest_17 : decode cX1_takeLowest 17 = .ok (.iconst (-1), 1) := by decide +kernel
theorem dX1_takeLowest_18 : decode cX1_takeLowest 18 = .ok (.if_icmp .ne 12, 3) := by decide +kernel
theorem dX1_takeLowest_21 : decode cX1_takeLowest 21 = .ok (.aload_n 0, 1) := by decide +kernel
theorem dX1_takeLowest_22 : decode cX1_takeLowest 22 = .ok (.getfield 15, 3) := by decide +kernel
theorem dX1_takeLowest_25 : decode cX1_takeLowest 25 = .ok (.iload_n 2, 1) := by decide +kernel
theorem dX1_takeLowest_26 : decode cX1_takeLowest 26 = .ok (.iload_n 1, 1) := by decide +kernel
theorem dX1_takeLowest_27 : decode cX1_takeLowest 27 = .ok (.iastore, 1) := by decide +kernel
theorem dX1_takeLowest_28 : decode cX1_takeLowest 28 = .ok (.iload_n 2, 1) := by decide +kernel
theorem dX1_takeLowest_29 : decode cX1_takeLowest 29 = .ok (.ireturn, 1) := by decide +kernel
theorem dX1_takeLowest_30 : decode cX1_takeLowest 30 = .ok (.iinc 2 1, 3) := by decide +kernel
theorem dX1_takeLowest_33 : decode cX1_takeLowest 33 = .ok (.goto (-31), 3) := by decide +kernel
theorem dX1_takeLowest_36 : decode cX1_takeLowest 36 = .ok (.iconst (-1), 1) := by decide +kernel
theorem dX1_takeLowest_37 : decode cX1_takeLowest 37 = .ok (.ireturn, 1) := by decide +kernel
set_option maxRecDepth 20000 in
theorem ggX1_release_X0_at : GoodIn wsX1_release wsX0_at := goodIn_r _ [6, 7, 8, 9, 10] (by decide +kernel) (by decide +kernel)
set_option maxRecDepth 20000 in
theorem gX1_release_X0_at : GoodIn wsX1_release (wsV RX1 30 RX0 yX0_at wsX0_at) := goodIn_app (goodIn_of _ (by decide +kernel)) ggX1_release_X0_at
theorem dX1_release_0 : decode cX1_release 0 = .ok (.iconst 0, 1) := by decide +kernel
theorem dX1_release_1 : decode cX1_release 1 = .ok (.istore_n 2, 1) := by decide +kernel
theorem dX1_release_2 : decode cX1_release 2 = .ok (.iload_n 2, 1) := by decide +kernel
theorem dX1_release_3 : decode cX1_release 3 = .ok (.aload_n 1, 1) := by decide +kernel
theorem dX1_release_4 : decode cX1_release 4 = .ok (.getfield 24, 3) := by decide +kernel
theorem dX1_release_7 : decode cX1_release 7 = .ok (.if_icmp .ge 35, 3) := by decide +kernel
theorem dX1_release_10 : decode cX1_release 10 = .ok (.aload_n 1, 1) := by decide +kernel
theorem dX1_release_11 : decode cX1_release 11 = .ok (.iload_n 2, 1) := by decide +kernel
theorem dX1_release_12 : decode cX1_release 12 = .ok (.invokevirtual 30, 3) := by decide +kernel
theorem dX1_release_15 : decode cX1_release 15 = .ok (.istore_n 3, 1) := by decide +kernel
theorem dX1_release_16 : decode cX1_release 16 = .ok (.iload_n 3, 1) := by decide +kernel
theorem dX1_release_17 : decode cX1_release 17 = .ok (.ifCond .lt 19, 3) := by decide +kernel
theorem dX1_release_20 : decode cX1_release 20 = .ok (.iload_n 3, 1) := by decide +kernel
theorem dX1_release_21 : decode cX1_release 21 = .ok (.aload_n 0, 1) := by decide +kernel
theorem dX1_release_22 : decode cX1_release 22 = .ok (.getfield 15, 3) := by decide +kernel
theorem dX1_release_25 : decode cX1_release 25 = .ok (.arraylength, 1) := by decide +kernel
theorem dX1_release_26 : decode cX1_release 26 = .ok (.if_icmp .ge 10, 3) := by decide +kernel
theorem dX1_release_29 : decode cX1_release 29 = .ok (.aload_n 0, 1) := by decide +kernel
theorem dX1_release_30 : decode cX1_release 30 = .ok (.getfield 15, 3) := by decide +kernel
theorem dX1_release_33 : decode cX1_release 33 = .ok (.iload_n 3, 1) := by decide +kernel
theorem dX1_release_34 : decode cX1_release 34 = .ok (.iconst (-1), 1) := by decide +kernel
theorem dX1_release_35 : decode cX1_release 35 = .ok (.iastore, 1) := by decide +kernel
theorem dX1_release_36 : decode cX1_release 36 = .ok (.iinc 2 1, 3) := by decide +kernel
theorem dX1_release_39 : decode cX1_release 39 = .ok (.goto (-37), 3) := by decide +kernel
theorem dX1_release_42 : decode cX1_release 42 = .ok (.return_, 1) := by decide +kernel
theorem dX1_read_0 : decode cX1_read 0 = .ok (.iload_n 1, 1) := by decide +kernel
theorem dX1_read_1 : decode cX1_read 1 = .ok (.iconst 4, 1) := by decide +kernel
theorem dX1_read_2 : decode cX1_read 2 = .ok (.imul, 1) := by decide +kernel
theorem dX1_read_3 : decode cX1_read 3 = .ok (.iload_n 2, 1) := by decide +kernel
theorem dX1_read_4 : decode cX1_read 4 = .ok (.iadd, 1) := by decide +kernel
theorem dX1_read_5 : decode cX1_read 5 = .ok (.istore_n 3, 1) := by decide +kernel
theorem dX1_read_6 : decode cX1_read 6 = .ok (.iload_n 3, 1) := by decide +kernel
theorem dX1_read_7 : decode cX1_read 7 = .ok (.ifCond .lt 21, 3) := by decide +kernel
theorem dX1_read_10 : decode cX1_read 10 = .ok (.iload_n 3, 1) := by decide +kernel
theorem dX1_read_11 : decode cX1_read 11 = .ok (.aload_n 0, 1) := by decide +kernel
theorem dX1_read_12 : decode cX1_read 12 = .ok (.getfield 9, 3) := by decide +kernel
theorem dX1_read_15 : decode cX1_read 15 = .ok (.arraylength, 1) := by decide +kernel
theorem dX1_read_16 : decode cX1_read 16 = .ok (.if_icmp .ge 12, 3) := by decide +kernel
theorem dX1_read_19 : decode cX1_read 19 = .ok (.aload_n 0, 1) := by decide +kernel
theorem dX1_read_20 : decode cX1_read 20 = .ok (.getfield 9, 3) := by decide +kernel
theorem dX1_read_23 : decode cX1_read 23 = .ok (.iload_n 3, 1) := by decide +kernel
theorem dX1_read_24 : decode cX1_read 24 = .ok (.iaload, 1) := by decide +kernel
theorem dX1_read_25 : decode cX1_read 25 = .ok (.goto 4, 3) := by decide +kernel
theorem dX1_read_28 : decode cX1_read 28 = .ok (.iconst 0, 1) := by decide +kernel
theorem dX1_read_29 : decode cX1_read 29 = .ok (.ireturn, 1) := by decide +kernel
set_option maxRecDepth 20000 in
theorem ggX1_readAlong_X0_at : GoodIn wsX1_readAlong wsX0_at := goodIn_r _ [5, 6, 7, 14, 15] (by decide +kernel) (by decide +kernel)
set_option maxRecDepth 20000 in
theorem gX1_readAlong_X0_at : GoodIn wsX1_readAlong (wsV RX1 30 RX0 yX0_at wsX0_at) := goodIn_app (goodIn_of _ (by decide +kernel)) ggX1_readAlong_X0_at
set_option maxRecDepth 20000 in
theorem ggX1_readAlong_X1_read : GoodIn wsX1_readAlong wsX1_read := goodIn_r _ [12, 13, 16, 17] (by decide +kernel) (by decide +kernel)
set_option maxRecDepth 20000 in
theorem gX1_readAlong_X1_read : GoodIn wsX1_readAlong (wsV RX1 34 RX1 yX1_read wsX1_read) := goodIn_app (goodIn_of _ (by decide +kernel)) ggX1_readAlong_X1_read
theorem dX1_readAlong_0 : decode cX1_readAlong 0 = .ok (.aload_n 0, 1) := by decide +kernel
theorem dX1_readAlong_1 : decode cX1_readAlong 1 = .ok (.aload_n 1, 1) := by decide +kernel
theorem dX1_readAlong_2 : decode cX1_readAlong 2 = .ok (.iload_n 2, 1) := by decide +kernel
theorem dX1_readAlong_3 : decode cX1_readAlong 3 = .ok (.iconst 4, 1) := by decide +kernel
theorem dX1_readAlong_4 : decode cX1_readAlong 4 = .ok (.idiv, 1) := by decide +kernel
theorem dX1_readAlong_5 : decode cX1_readAlong 5 = .ok (.invokevirtual 30, 3) := by decide +kernel
theorem dX1_readAlong_8 : decode cX1_readAlong 8 = .ok (.iload_n 2, 1) := by decide +kernel
theorem dX1_readAlong_9 : decode cX1_readAlong 9 = .ok (.iconst 4, 1) := by decide +kernel
theorem dX1_readAlong_10 : decode cX1_readAlong 10 = .ok (.irem, 1) := by decide +kernel
theorem dX1_readAlong_11 : decode cX1_readAlong 11 = .ok (.invokevirtual 34, 3) := by decide +kernel
theorem dX1_readAlong_14 : decode cX1_readAlong 14 = .ok (.ireturn, 1) := by decide +kernel
set_option maxRecDepth 20000 in
theorem ggX1_writeAlong_X0_at : GoodIn wsX1_writeAlong wsX0_at := goodIn_r _ [6, 7, 8, 11, 12] (by decide +kernel) (by decide +kernel)
set_option maxRecDepth 20000 in
theorem gX1_writeAlong_X0_at : GoodIn wsX1_writeAlong (wsV RX1 30 RX0 yX0_at wsX0_at) := goodIn_app (goodIn_of _ (by decide +kernel)) ggX1_writeAlong_X0_at
theorem dX1_writeAlong_0 : decode cX1_writeAlong 0 = .ok (.aload_n 1, 1) := by decide +kernel
theorem dX1_writeAlong_1 : decode cX1_writeAlong 1 = .ok (.iload_n 2, 1) := by decide +kernel
theorem dX1_writeAlong_2 : decode cX1_writeAlong 2 = .ok (.iconst 4, 1) := by decide +kernel
theorem dX1_writeAlong_3 : decode cX1_writeAlong 3 = .ok (.idiv, 1) := by decide +kernel
theorem dX1_writeAlong_4 : decode cX1_writeAlong 4 = .ok (.invokevirtual 30, 3) := by decide +kernel
theorem dX1_writeAlong_7 : decode cX1_writeAlong 7 = .ok (.iconst 4, 1) := by decide +kernel
theorem dX1_writeAlong_8 : decode cX1_writeAlong 8 = .ok (.imul, 1) := by decide +kernel
theorem dX1_writeAlong_9 : decode cX1_writeAlong 9 = .ok (.iload_n 2, 1) := by decide +kernel
theorem dX1_writeAlong_10 : decode cX1_writeAlong 10 = .ok (.iconst 4, 1) := by decide +kernel
theorem dX1_writeAlong_11 : decode cX1_writeAlong 11 = .ok (.irem, 1) := by decide +kernel
theorem dX1_writeAlong_12 : decode cX1_writeAlong 12 = .ok (.iadd, 1) := by decide +kernel
theorem dX1_writeAlong_13 : decode cX1_writeAlong 13 = .ok (.istore 4, 2) := by decide +kernel
theorem dX1_writeAlong_15 : decode cX1_writeAlong 15 = .ok (.iload 4, 2) := by decide +kernel
theorem dX1_writeAlong_17 : decode cX1_writeAlong 17 = .ok (.ifCond .lt 21, 3) := by decide +kernel
theorem dX1_writeAlong_20 : decode cX1_writeAlong 20 = .ok (.iload 4, 2) := by decide +kernel
theorem dX1_writeAlong_22 : decode cX1_writeAlong 22 = .ok (.aload_n 0, 1) := by decide +kernel
theorem dX1_writeAlong_23 : decode cX1_writeAlong 23 = .ok (.getfield 9, 3) := by decide +kernel
theorem dX1_writeAlong_26 : decode cX1_writeAlong 26 = .ok (.arraylength, 1) := by decide +kernel
theorem dX1_writeAlong_27 : decode cX1_writeAlong 27 = .ok (.if_icmp .ge 11, 3) := by decide +kernel
theorem dX1_writeAlong_30 : decode cX1_writeAlong 30 = .ok (.aload_n 0, 1) := by decide +kernel
theorem dX1_writeAlong_31 : decode cX1_writeAlong 31 = .ok (.getfield 9, 3) := by decide +kernel
theorem dX1_writeAlong_34 : decode cX1_writeAlong 34 = .ok (.iload 4, 2) := by decide +kernel
theorem dX1_writeAlong_36 : decode cX1_writeAlong 36 = .ok (.iload_n 3, 1) := by decide +kernel
theorem dX1_writeAlong_37 : decode cX1_writeAlong 37 = .ok (.iastore, 1) := by decide +kernel
theorem dX1_writeAlong_38 : decode cX1_writeAlong 38 = .ok (.return_, 1) := by decide +kernel
set_option maxRecDepth 20000 in
theorem ggX1_sumOf_X1_readAlong : GoodIn wsX1_sumOf wsX1_readAlong := goodIn_r _ [5, 6, 7, 8, 9, 10, 11, 12, 13, 14, 15, 4, 16, 17, 18, 19, 20, 21] (by decide +kernel) (by decide +kernel)
set_option maxRecDepth 20000 in
theorem gX1_sumOf_X1_readAlong : GoodIn wsX1_sumOf (wsV RX1 38 RX1 yX1_readAlong wsX1_readAlong) := goodIn_app (goodIn_of _ (by decide +kernel)) ggX1_sumOf_X1_readAlong
theorem dX1_sumOf_0 : decode cX1_sumOf 0 = .ok (.iconst 0, 1) := by decide +kernel
theorem dX1_sumOf_1 : decode cX1_sumOf 1 = .ok (.istore_n 2, 1) := by decide +kernel
theorem dX1_sumOf_2 : decode cX1_sumOf 2 = .ok (.iconst 0, 1) := by decide +kernel
theorem dX1_sumOf_3 : decode cX1_sumOf 3 = .ok (.istore_n 3, 1) := by decide +kernel
theorem dX1_sumOf_4 : decode cX1_sumOf 4 = .ok (.iload_n 3, 1) := by decide +kernel
theorem dX1_sumOf_5 : decode cX1_sumOf 5 = .ok (.aload_n 1, 1) := by decide +kernel
theorem dX1_sumOf_6 : decode cX1_sumOf 6 = .ok (.getfield 24, 3) := by decide +kernel
theorem dX1_sumOf_9 : decode cX1_sumOf 9 = .ok (.iconst 4, 1) := by decide +kernel
theorem dX1_sumOf_10 : decode cX1_sumOf 10 = .ok (.imul, 1) := by decide +kernel
theorem dX1_sumOf_11 : decode cX1_sumOf 11 = .ok (.if_icmp .ge 22, 3) := by decide +kernel
theorem dX1_sumOf_14 : decode cX1_sumOf 14 = .ok (.iload_n 2, 1) := by decide +kernel
theorem dX1_sumOf_15 : decode cX1_sumOf 15 = .ok (.aload_n 0, 1) := by decide +kernel
theorem dX1_sumOf_16 : decode cX1_sumOf 16 = .ok (.aload_n 1, 1) := by decide +kernel
theorem dX1_sumOf_17 : decode cX1_sumOf 17 = .ok (.iload_n 3, 1) := by decide +kernel
theorem dX1_sumOf_18 : decode cX1_sumOf 18 = .ok (.invokevirtual 38, 3) := by decide +kernel
theorem dX1_sumOf_21 : decode cX1_sumOf 21 = .ok (.iload_n 3, 1) := by decide +kernel
theorem dX1_sumOf_22 : decode cX1_sumOf 22 = .ok (.iconst 1, 1) := by decide +kernel
theorem dX1_sumOf_23 : decode cX1_sumOf 23 = .ok (.iadd, 1) := by decide +kernel
theorem dX1_sumOf_24 : decode cX1_sumOf 24 = .ok (.imul, 1) := by decide +kernel
theorem dX1_sumOf_25 : decode cX1_sumOf 25 = .ok (.iadd, 1) := by decide +kernel
theorem dX1_sumOf_26 : decode cX1_sumOf 26 = .ok (.istore_n 2, 1) := by decide +kernel
theorem dX1_sumOf_27 : decode cX1_sumOf 27 = .ok (.iinc 3 1, 3) := by decide +kernel
theorem dX1_sumOf_30 : decode cX1_sumOf 30 = .ok (.goto (-26), 3) := by decide +kernel
theorem dX1_sumOf_33 : decode cX1_sumOf 33 = .ok (.iload_n 2, 1) := by decide +kernel
theorem dX1_sumOf_34 : decode cX1_sumOf 34 = .ok (.sipush 9973, 3) := by decide +kernel
theorem dX1_sumOf_37 : decode cX1_sumOf 37 = .ok (.irem, 1) := by decide +kernel
theorem dX1_sumOf_38 : decode cX1_sumOf 38 = .ok (.ireturn, 1) := by decide +kernel
set_option maxRecDepth 20000 in
theorem ggX2_init_X0_init : GoodIn wsX2_init wsX0_init := goodIn_r _ [14, 15, 2, 3, 16, 17, 18, 19, 20] (by decide +kernel) (by decide +kernel)
set_option maxRecDepth 20000 in
theorem gX2_init_X0_init_n11 : GoodIn wsX2_init (wsX0_init) := ggX2_init_X0_init
theorem dX2_init_0 : decode cX2_init 0 = .ok (.aload_n 0, 1) := by decide +kernel
theorem dX2_init_1 : decode cX2_init 1 = .ok (.invokespecial 3, 3) := by decide +kernel
theorem dX2_init_4 : decode cX2_init 4 = .ok (.aload_n 0, 1) := by decide +kernel
theorem dX2_init_5 : decode cX2_init 5 = .ok (.new 9, 3) := by decide +kernel
theorem dX2_init_8 : decode cX2_init 8 = .ok (.dup, 1) := by decide +kernel
theorem dX2_init_9 : decode cX2_init 9 = .ok (.invokespecial 11, 3) := by decide +kernel
theorem dX2_init_12 : decode cX2_init 12 = .ok (.putfield 12, 3) := by decide +kernel
theorem dX2_init_15 : decode cX2_init 15 = .ok (.aload_n 0, 1) := by decide +kernel
theorem dX2_init_16 : decode cX2_init 16 = .ok (.iconst 0, 1) := by decide +kernel
theorem dX2_init_17 : decode cX2_init 17 = .ok (.putfield 18, 3) := by decide +kernel
theorem dX2_init_20 : decode cX2_init 20 = .ok (.aload_n 0, 1) := by decide +kernel
theorem dX2_init_21 : decode cX2_init 21 = .ok (.iconst (-1), 1) := by decide +kernel
theorem dX2_init_22 : decode cX2_init 22 = .ok (.putfield 22, 3) := by decide +kernel
theorem dX2_init_25 : decode cX2_init 25 = .ok (.aload_n 0, 1) := by decide +kernel
theorem dX2_init_26 : decode cX2_init 26 = .ok (.new 9, 3) := by decide +kernel
theorem dX2_init_29 : decode cX2_init 29 = .ok (.dup, 1) := by decide +kernel
theorem dX2_init_30 : decode cX2_init 30 = .ok (.invokespecial 11, 3) := by decide +kernel
theorem dX2_init_33 : decode cX2_init 33 = .ok (.putfield 25, 3) := by decide +kernel
theorem dX2_init_36 : decode cX2_init 36 = .ok (.aload_n 0, 1) := by decide +kernel
theorem dX2_init_37 : decode cX2_init 37 = .ok (.iconst 0, 1) := by decide +kernel
theorem dX2_init_38 : decode cX2_init 38 = .ok (.putfield 28, 3) := by decide +kernel
theorem dX2_init_41 : decode cX2_init 41 = .ok (.aload_n 0, 1) := by decide +kernel
theorem dX2_init_42 : decode cX2_init 42 = .ok (.iload_n 1, 1) := by decide +kernel
theorem dX2_init_43 : decode cX2_init 43 = .ok (.putfield 31, 3) := by decide +kernel
theorem dX2_init_46 : decode cX2_init 46 = .ok (.return_, 1) := by decide +kernel
theorem dX2_isThrown_0 : decode cX2_isThrown 0 = .ok (.aload_n 0, 1) := by decide +kernel
theorem dX2_isThrown_1 : decode cX2_isThrown 1 = .ok (.getfield 22, 3) := by decide +kernel
theorem dX2_isThrown_4 : decode cX2_isThrown 4 = .ok (.iconst (-1), 1) := by decide +kernel
theorem dX2_isThrown_5 : decode cX2_isThrown 5 = .ok (.if_icmp .eq 7, 3) := by decide +kernel
theorem dX2_isThrown_8 : decode cX2_isThrown 8 = .ok (.iconst 1, 1) := by decide +kernel
theorem dX2_isThrown_9 : decode cX2_isThrown 9 = .ok (.goto 4, 3) := by decide +kernel
theorem dX2_isThrown_12 : decode cX2_isThrown 12 = .ok (.iconst 0, 1) := by decide +kernel
theorem dX2_isThrown_13 : decode cX2_isThrown 13 = .ok (.ireturn, 1) := by decide +kernel
theorem dX2_numberByRule_0 : decode cX2_numberByRule 0 = .ok (.aload_n 0, 1) := by decide +kernel
theorem dX2_numberByRule_1 : decode cX2_numberByRule 1 = .ok (.getfield 31, 3) := by decide +kernel
theorem dX2_numberByRule_4 : decode cX2_numberByRule 4 = .ok (.bipush 37, 2) := by decide +kernel
theorem dX2_numberByRule_6 : decode cX2_numberByRule 6 = .ok (.iload_n 1, 1) := by decide +kernel
theorem dX2_numberByRule_7 : decode cX2_numberByRule 7 = .ok (.imul, 1) := by decide +kernel
theorem dX2_numberByRule_8 : decode cX2_numberByRule 8 = .ok (.iadd, 1) := by decide +kernel
theorem dX2_numberByRule_9 : decode cX2_numberByRule 9 = .ok (.sipush 250, 3) := by decide +kernel
theorem dX2_numberByRule_12 : decode cX2_numberByRule 12 = .ok (.irem, 1) := by decide +kernel
theorem dX2_numberByRule_13 : decode cX2_numberByRule 13 = .ok (.ireturn, 1) := by decide +kernel
theorem dX3_init_0 : decode cX3_init 0 = .ok (.aload_n 0, 1) := by decide +kernel
theorem dX3_init_1 : decode cX3_init 1 = .ok (.invokespecial 3, 3) := by decide +kernel
theorem dX3_init_4 : decode cX3_init 4 = .ok (.aload_n 0, 1) := by decide +kernel
theorem dX3_init_5 : decode cX3_init 5 = .ok (.bipush 40, 2) := by decide +kernel
theorem dX3_init_7 : decode cX3_init 7 = .ok (.newarray .int, 2) := by decide +kernel
theorem dX3_init_9 : decode cX3_init 9 = .ok (.putfield 9, 3) := by decide +kernel
theorem dX3_init_12 : decode cX3_init 12 = .ok (.aload_n 0, 1) := by decide +kernel
theorem dX3_init_13 : decode cX3_init 13 = .ok (.bipush 40, 2) := by decide +kernel
theorem dX3_init_15 : decode cX3_init 15 = .ok (.newarray .int, 2) := by decide +kernel
theorem dX3_init_17 : decode cX3_init 17 = .ok (.putfield 15, 3) := by decide +kernel
theorem dX3_init_20 : decode cX3_init 20 = .ok (.aload_n 0, 1) := by decide +kernel
theorem dX3_init_21 : decode cX3_init 21 = .ok (.bipush 40, 2) := by decide +kernel
theorem dX3_init_23 : decode cX3_init 23 = .ok (.newarray .boolean, 2) := by decide +kernel
theorem dX3_init_25 : decode cX3_init 25 = .ok (.putfield 18, 3) := by decide +kernel
theorem dX3_init_28 : decode cX3_init 28 = .ok (.aload_n 0, 1) := by decide +kernel
theorem dX3_init_29 : decode cX3_init 29 = .ok (.bipush 40, 2) := by decide +kernel
theorem dX3_init_31 : decode cX3_init 31 = .ok (.newarray .boolean, 2) := by decide +kernel
theorem dX3_init_33 : decode cX3_init 33 = .ok (.putfield 22, 3) := by decide +kernel
theorem dX3_init_36 : decode cX3_init 36 = .ok (.aload_n 0, 1) := by decide +kernel
theorem dX3_init_37 : decode cX3_init 37 = .ok (.iconst 4, 1) := by decide +kernel
theorem dX3_init_38 : decode cX3_init 38 = .ok (.newarray .int, 2) := by decide +kernel
theorem dX3_init_40 : decode cX3_init 40 = .ok (.putfield 25, 3) := by decide +kernel
theorem dX3_init_43 : decode cX3_init 43 = .ok (.aload_n 0, 1) := by decide +kernel
theorem dX3_init_44 : decode cX3_init 44 = .ok (.iconst 0, 1) := by decide +kernel
theorem dX3_init_45 : decode cX3_init 45 = .ok (.putfield 28, 3) := by decide +kernel
theorem dX3_init_48 : decode cX3_init 48 = .ok (.aload_n 0, 1) := by decide +kernel
theorem dX3_init_49 : decode cX3_init 49 = .ok (.iconst (-1), 1) := by decide +kernel
theorem dX3_init_50 : decode cX3_init 50 = .ok (.putfield 32, 3) := by decide +kernel
theorem dX3_init_53 : decode cX3_init 53 = .ok (.aload_n 0, 1) := by decide +kernel
theorem dX3_init_54 : decode cX3_init 54 = .ok (.iconst 0, 1) := by decide +kernel
theorem dX3_init_55 : decode cX3_init 55 = .ok (.putfield 35, 3) := by decide +kernel
theorem dX3_init_58 : decode cX3_init 58 = .ok (.return_, 1) := by decide +kernel
set_option maxRecDepth 20000 in
theorem ggX3_find_X0_at : GoodIn wsX3_find wsX0_at := goodIn_r _ [8, 9, 10, 46, 47] (by decide +kernel) (by decide +kernel)
set_option maxRecDepth 20000 in
theorem gX3_find_X0_at : GoodIn wsX3_find (wsV RX3 49 RX0 yX0_at wsX0_at) := goodIn_app (goodIn_of _ (by decide +kernel)) ggX3_find_X0_at
set_option maxRecDepth 20000 in
theorem ggX3_find_X1_isFree : GoodIn wsX3_find wsX1_isFree := goodIn_r _ [15, 16, 56, 57] (by decide +kernel) (by decide +kernel)
set_option maxRecDepth 20000 in
theorem gX3_find_X1_isFree : GoodIn wsX3_find (wsV RX3 56 RX1 yX1_isFree wsX1_isFree) := goodIn_app (goodIn_of _ (by decide +kernel)) ggX3_find_X1_isFree
set_option maxRecDepth 20000 in
theorem ggX3_find_X3_weigh : GoodIn wsX3_find wsX3_weigh := goodIn_r _ [21, 22, 23, 24, 25, 26, 27, 28, 14, 29, 30, 11, 12, 13, 15, 16, 48, 49, 50, 51, 52, 53, 54, 55, 56, 57] (by decide +kernel) (by decide +kernel)
set_option maxRecDepth 20000 in
theorem gX3_find_X3_weigh : GoodIn wsX3_find (wsV RX3 62 RX3 yX3_weigh wsX3_weigh) := goodIn_app (goodIn_of _ (by decide +kernel)) ggX3_find_X3_weigh
set_option maxRecDepth 20000 in
theorem ggX3_find_X3_fill : GoodIn wsX3_find wsX3_fill := goodIn_r _ [34, 1, 24, 2, 25, 35, 23, 22, 3, 36, 37, 38, 20, 39, 31, 32, 33, 48, 49, 50, 51, 52, 53, 54, 55] (by decide +kernel) (by decide +kernel)
set_option maxRecDepth 20000 in
theorem gX3_find_X3_fill : GoodIn wsX3_find (wsV RX3 66 RX3 yX3_fill wsX3_fill) := goodIn_app (goodIn_of _ (by decide +kernel)) ggX3_find_X3_fill
theorem dX3_find_0 : decode cX3_find 0 = .ok (.aload_n 0, 1) := by decide +kernel
theorem dX3_find_1 : decode cX3_find 1 = .ok (.aload_n 2, 1) := by decide +kernel
theorem dX3_find_2 : decode cX3_find 2 = .ok (.getfield 38, 3) := by decide +kernel
theorem dX3_find_5 : decode cX3_find 5 = .ok (.getfield 44, 3) := by decide +kernel
theorem dX3_find_8 : decode cX3_find 8 = .ok (.putfield 28, 3) := by decide +kernel
theorem dX3_find_11 : decode cX3_find 11 = .ok (.aload_n 0, 1) := by decide +kernel
theorem dX3_find_12 : decode cX3_find 12 = .ok (.aload_n 2, 1) := by decide +kernel
theorem dX3_find_13 : decode cX3_find 13 = .ok (.getfield 38, 3) := by decide +kernel
theorem dX3_find_16 : decode cX3_find 16 = .ok (.iconst 0, 1) := by decide +kernel
theorem dX3_find_17 : decode cX3_find 17 = .ok (.invokevirtual 49, 3) := by decide +kernel
theorem dX3_find_20 : decode cX3_find 20 = .ok (.putfield 32, 3) := by decide +kernel
theorem dX3_find_23 : decode cX3_find 23 = .ok (.aload_n 0, 1) := by decide +kernel
theorem dX3_find_24 : decode cX3_find 24 = .ok (.aload_n 2, 1) := by decide +kernel
theorem dX3_find_25 : decode cX3_find 25 = .ok (.getfield 53, 3) := by decide +kernel
theorem dX3_find_28 : decode cX3_find 28 = .ok (.putfield 35, 3) := by decide +kernel
theorem dX3_find_31 : decode cX3_find 31 = .ok (.aload_n 0, 1) := by decide +kernel
theorem dX3_find_32 : decode cX3_find 32 = .ok (.getfield 28, 3) := by decide +kernel
theorem dX3_find_35 : decode cX3_find 35 = .ok (.iconst 4, 1) := by decide +kernel
theorem dX3_find_36 : decode cX3_find 36 = .ok (.if_icmp .gt 14, 3) := by decide +kernel
theorem dX3_find_39 : decode cX3_find 39 = .ok (.aload_n 1, 1) := by decide +kernel
theorem dX3_find_40 : decode cX3_find 40 = .ok (.aload_n 0, 1) := by decide +kernel
theorem dX3_find_41 : decode cX3_find 41 = .ok (.getfield 32, 3) := by decide +kernel
theorem dX3_find_44 : decode cX3_find 44 = .ok (.invokevirtual 56, 3) := by decide +kernel
theorem dX3_find_47 : decode cX3_find 47 = .ok (.ifCond .ne 5, 3) := by decide +kernel
theorem dX3_find_50 : decode cX3_find 50 = .ok (.iconst 0, 1) := by decide +kernel
theorem dX3_find_51 : decode cX3_find 51 = .ok (.ireturn, 1) := by decide +kernel
theorem dX3_find_52 : decode cX3_find 52 = .ok (.iconst 0, 1) := by decide +kernel
theorem dX3_find_53 : decode cX3_find 53 = .ok (.istore_n 3, 1) := by decide +kernel
theorem dX3_find_54 : decode cX3_find 54 = .ok (.iload_n 3, 1) := by decide +kernel
theorem dX3_find_55 : decode cX3_find 55 = .ok (.bipush 40, 2) := by decide +kernel
theorem dX3_find_57 : decode cX3_find 57 = .ok (.if_icmp .ge 15, 3) := by decide +kernel
theorem dX3_find_60 : decode cX3_find 60 = .ok (.aload_n 0, 1) := by decide +kernel
theorem dX3_find_61 : decode cX3_find 61 = .ok (.aload_n 1, 1) := by decide +kernel
theorem dX3_find_62 : decode cX3_find 62 = .ok (.iload_n 3, 1) := by decide +kernel
theorem dX3_find_63 : decode cX3_find 63 = .ok (.invokevirtual 62, 3) := by decide +kernel
theorem dX3_find_66 : decode cX3_find 66 = .ok (.iinc 3 1, 3) := by decide +kernel
theorem dX3_find_69 : decode cX3_find 69 = .ok (.goto (-15), 3) := by decide +kernel
theorem dX3_find_72 : decode cX3_find 72 = .ok (.aload_n 0, 1) := by decide +kernel
theorem dX3_find_73 : decode cX3_find 73 = .ok (.iconst 0, 1) := by decide +kernel
theorem dX3_find_74 : decode cX3_find 74 = .ok (.iconst 0, 1) := by decide +kernel
theorem dX3_find_75 : decode cX3_find 75 = .ok (.invokevirtual 66, 3) := by decide +kernel
theorem dX3_find_78 : decode cX3_find 78 = .ok (.ireturn, 1) := by decide +kernel
theorem dX3_clusterFoundAt_0 : decode cX3_clusterFoundAt 0 = .ok (.iload_n 1, 1) := by decide +kernel
theorem dX3_clusterFoundAt_1 : decode cX3_clusterFoundAt 1 = .ok (.ifCond .lt 21, 3) := by decide +kernel
theorem dX3_clusterFoundAt_4 : decode cX3_clusterFoundAt 4 = .ok (.iload_n 1, 1) := by decide +kernel
theorem dX3_clusterFoundAt_5 : decode cX3_clusterFoundAt 5 = .ok (.aload_n 0, 1) := by decide +kernel
theorem dX3_clusterFoundAt_6 : decode cX3_clusterFoundAt 6 = .ok (.getfield 25, 3) := by decide +kernel
theorem dX3_clusterFoundAt_9 : decode cX3_clusterFoundAt 9 = .ok (.arraylength, 1) := by decide +kernel
theorem dX3_clusterFoundAt_10 : decode cX3_clusterFoundAt 10 = .ok (.if_icmp .ge 12, 3) := by decide +kernel
theorem dX3_clusterFoundAt_13 : decode cX3_clusterFoundAt 13 = .ok (.aload_n 0, 1) := by decide +kernel
theorem dX3_clusterFoundAt_14 : decode cX3_clusterFoundAt 14 = .ok (.getfield 25, 3) := by decide +kernel
theorem dX3_clusterFoundAt_17 : decode cX3_clusterFoundAt 17 = .ok (.iload_n 1, 1) := by decide +kernel
theorem dX3_clusterFoundAt_18 : decode cX3_clusterFoundAt 18 = .ok (.iaload, 1) := by decide +kernel
theorem dX3_clusterFoundAt_19 : decode cX3_clusterFoundAt 19 = .ok (.goto 4, 3) := by decide +kernel
theorem dX3_clusterFoundAt_22 : decode cX3_clusterFoundAt 22 = .ok (.iconst (-1), 1) := by decide +kernel
theorem dX3_clusterFoundAt_23 : decode cX3_clusterFoundAt 23 = .ok (.ireturn, 1) := by decide +kernel
set_option maxRecDepth 20000 in
theorem ggX3_weigh_X1_read : GoodIn wsX3_weigh wsX1_read := goodIn_r _ [9, 10, 24, 25] (by decide +kernel) (by decide +kernel)
set_option maxRecDepth 20000 in
theorem gX3_weigh_X1_read : GoodIn wsX3_weigh (wsV RX3 70 RX1 yX1_read wsX1_read) := goodIn_app (goodIn_of _ (by decide +kernel)) ggX3_weigh_X1_read
set_option maxRecDepth 20000 in
theorem ggX3_weigh_X1_isFree : GoodIn wsX3_weigh wsX1_isFree := goodIn_r _ [14, 15, 24, 25] (by decide +kernel) (by decide +kernel)
set_option maxRecDepth 20000 in
theorem gX3_weigh_X1_isFree : GoodIn wsX3_weigh (wsV RX3 56 RX1 yX1_isFree wsX1_isFree) := goodIn_app (goodIn_of _ (by decide +kernel)) ggX3_weigh_X1_isFree
theorem dX3_weigh_0 : decode cX3_weigh 0 = .ok (.iconst 0, 1) := by decide +kernel
theorem dX3_weigh_1 : decode cX3_weigh 1 = .ok (.istore_n 3, 1) := by decide +kernel
theorem dX3_weigh_2 : decode cX3_weigh 2 = .ok (.iconst 0, 1) := by decide +kernel
theorem dX3_weigh_3 : decode cX3_weigh 3 = .ok (.istore 4, 2) := by decide +kernel
theorem dX3_weigh_5 : decode cX3_weigh 5 = .ok (.iconst 0, 1) := by decide +kernel
theorem dX3_weigh_6 : decode cX3_weigh 6 = .ok (.istore 5, 2) := by decide +kernel
theorem dX3_weigh_8 : decode cX3_weigh 8 = .ok (.iload 5, 2) := by decide +kernel
theorem dX3_weigh_10 : decode cX3_weigh 10 = .ok (.iconst 4, 1) := by decide +kernel
theorem dX3_weigh_11 : decode cX3_weigh 11 = .ok (.if_icmp .ge 35, 3) := by decide +kernel
theorem dX3_weigh_14 : decode cX3_weigh 14 = .ok (.aload_n 1, 1) := by decide +kernel
theorem dX3_weigh_15 : decode cX3_weigh 15 = .ok (.iload_n 2, 1) := by decide +kernel
theorem dX3_weigh_16 : decode cX3_weigh 16 = .ok (.iload 5, 2) := by decide +kernel
theorem dX3_weigh_18 : decode cX3_weigh 18 = .ok (.invokevirtual 70, 3) := by decide +kernel
theorem dX3_weigh_21 : decode cX3_weigh 21 = .ok (.istore 6, 2) := by decide +kernel
theorem dX3_weigh_23 : decode cX3_weigh 23 = .ok (.iload_n 3, 1) := by decide +kernel
theorem dX3_weigh_24 : decode cX3_weigh 24 = .ok (.iload 6, 2) := by decide +kernel
theorem dX3_weigh_26 : decode cX3_weigh 26 = .ok (.iadd, 1) := by decide +kernel
theorem dX3_weigh_27 : decode cX3_weigh 27 = .ok (.istore_n 3, 1) := by decide +kernel
theorem dX3_weigh_28 : decode cX3_weigh 28 = .ok (.iload 4, 2) := by decide +kernel
theorem dX3_weigh_30 : decode cX3_weigh 30 = .ok (.iload 6, 2) := by decide +kernel
theorem dX3_weigh_32 : decode cX3_weigh 32 = .ok (.iload 5, 2) := by decide +kernel
theorem dX3_weigh_34 : decode cX3_weigh 34 = .ok (.iconst 1, 1) := by decide +kernel
theorem dX3_weigh_35 : decode cX3_weigh 35 = .ok (.iadd, 1) := by decide +kernel
theorem dX3_weigh_36 : decode cX3_weigh 36 = .ok (.imul, 1) := by decide +kernel
theorem dX3_weigh_37 : decode cX3_weigh 37 = .ok (.iadd, 1) := by decide +kernel
theorem dX3_weigh_38 : decode cX3_weigh 38 = .ok (.istore 4, 2) := by decide +kernel
theorem dX3_weigh_40 : decode cX3_weigh 40 = .ok (.iinc 5 1, 3) := by decide +kernel
theorem dX3_weigh_43 : decode cX3_weigh 43 = .ok (.goto (-35), 3) := by decide +kernel
theorem dX3_weigh_46 : decode cX3_weigh 46 = .ok (.iload_n 2, 1) := by decide +kernel
theorem dX3_weigh_47 : decode cX3_weigh 47 = .ok (.ifCond .lt 58, 3) := by decide +kernel
theorem dX3_weigh_50 : decode cX3_weigh 50 = .ok (.iload_n 2, 1) := by decide +kernel
theorem dX3_weigh_51 : decode cX3_weigh 51 = .ok (.bipush 40, 2) := by decide +kernel
theorem dX3_weigh_53 : decode cX3_weigh 53 = .ok (.if_icmp .ge 52, 3) := by decide +kernel
theorem dX3_weigh_56 : decode cX3_weigh 56 = .ok (.aload_n 0, 1) := by decide +kernel
theorem dX3_weigh_57 : decode cX3_weigh 57 = .ok (.getfield 9, 3) := by decide +kernel
theorem dX3_weigh_60 : decode cX3_weigh 60 = .ok (.iload_n 2, 1) := by decide +kernel
theorem dX3_weigh_61 : decode cX3_weigh 61 = .ok (.iload_n 3, 1) := by decide +kernel
theorem dX3_weigh_62 : decode cX3_weigh 62 = .ok (.iastore, 1) := by decide +kernel
theorem dX3_weigh_63 : decode cX3_weigh 63 = .ok (.aload_n 0, 1) := by decide +kernel
theorem dX3_weigh_64 : decode cX3_weigh 64 = .ok (.getfield 15, 3) := by decide +kernel
theorem dX3_weigh_67 : decode cX3_weigh 67 = .ok (.iload_n 2, 1) := by decide +kernel
theorem dX3_weigh_68 : decode cX3_weigh 68 = .ok (.iload 4, 2) := by decide +kernel
theorem dX3_weigh_70 : decode cX3_weigh 70 = .ok (.iastore, 1) := by decide +kernel
theorem dX3_weigh_71 : decode cX3_weigh 71 = .ok (.aload_n 0, 1) := by decide +kernel
theorem dX3_weigh_72 : decode cX3_weigh 72 = .ok (.getfield 18, 3) := by decide +kernel
theorem dX3_weigh_75 : decode cX3_weigh 75 = .ok (.iload_n 2, 1) := by decide +kernel
theorem dX3_weigh_76 : decode cX3_weigh 76 = .ok (.aload_n 1, 1) := by decide +kernel
theorem dX3_weigh_77 : decode cX3_weigh 77 = .ok (.iload_n 2, 1) := by decide +kernel
theorem dX3_weigh_78 : decode cX3_weigh 78 = .ok (.invokevirtual 56, 3) := by decide +kernel
theorem dX3_weigh_81 : decode cX3_weigh 81 = .ok (.bastore, 1) := by decide +kernel
theorem dX3_weigh_82 : decode cX3_weigh 82 = .ok (.aload_n 0, 1) := by decide +kernel
theorem dX3_weigh_83 : decode cX3_weigh 83 = .ok (.getfield 22, 3) := by decide +kernel
theorem dX3_weigh_86 : decode cX3_weigh 86 = .ok (.iload_n 2, 1) := by decide +kernel
theorem dX3_weigh_87 : decode cX3_weigh 87 = .ok (.aload_n 1, 1) := by decide +kernel
theorem dX3_weigh_88 : decode cX3_weigh 88 = .ok (.iload_n 2, 1) := by decide +kernel
theorem dX3_weigh_89 : decode cX3_weigh 89 = .ok (.iconst 3, 1) := by decide +kernel
theorem dX3_weigh_90 : decode cX3_weigh 90 = .ok (.invokevirtual 70, 3) := by decide +kernel
theorem dX3_weigh_93 : decode cX3_weigh 93 = .ok (.sipush 254, 3) := by decide +kernel
theorem dX3_weigh_96 : decode cX3_weigh 96 = .ok (.if_icmp .ne 7, 3) := by decide +kernel
theorem dX3_weigh_99 : decode cX3_weigh 99 = .ok (.iconst 1, 1) := by decide +kernel
theorem dX3_weigh_100 : decode cX3_weigh 100 = .ok (.goto 4, 3) := by decide +kernel
theorem dX3_weigh_103 : decode cX3_weigh 103 = .ok (.iconst 0, 1) := by decide +kernel
theorem dX3_weigh_104 : decode cX3_weigh 104 = .ok (.bastore, 1) := by decide +kernel
theorem dX3_weigh_105 : decode cX3_weigh 105 = .ok (.return_, 1) := by decide +kernel
set_option maxRecDepth 20000 in
theorem ggX3_fill_X3_goesOn : GoodIn wsX3_fill wsX3_goesOn := goodIn_r _ [13, 2, 14, 15, 16, 12, 0, 1, 3, 4, 5, 6, 7, 8, 9, 10, 11, 17, 18, 19, 20, 21, 22, 23, 24] (by decide +kernel) (by decide +kernel)
set_option maxRecDepth 20000 in
theorem gX3_fill_X3_goesOn : GoodIn wsX3_fill (wsV RX3 74 RX3 yX3_goesOn wsX3_goesOn) := goodIn_app (goodIn_of _ (by decide +kernel)) ggX3_fill_X3_goesOn
theorem dX3_fill_0 : decode cX3_fill 0 = .ok (.iload_n 1, 1) := by decide +kernel
theorem dX3_fill_1 : decode cX3_fill 1 = .ok (.ifCond .lt 16, 3) := by decide +kernel
theorem dX3_fill_4 : decode cX3_fill 4 = .ok (.iload_n 1, 1) := by decide +kernel
theorem dX3_fill_5 : decode cX3_fill 5 = .ok (.iconst 4, 1) := by decide +kernel
theorem dX3_fill_6 : decode cX3_fill 6 = .ok (.if_icmp .ge 11, 3) := by decide +kernel
theorem dX3_fill_9 : decode cX3_fill 9 = .ok (.iload_n 1, 1) := by decide +kernel
theorem dX3_fill_10 : decode cX3_fill 10 = .ok (.aload_n 0, 1) := by decide +kernel
theorem dX3_fill_11 : decode cX3_fill 11 = .ok (.getfield 28, 3) := by decide +kernel
theorem dX3_fill_14 : decode cX3_fill 14 = .ok (.if_icmp .lt 5, 3) := by decide +kernel
theorem dX3_fill_17 : decode cX3_fill 17 = .ok (.iconst 0, 1) := by decide +kernel
theorem dX3_fill_18 : decode cX3_fill 18 = .ok (.ireturn, 1) := by decide +kernel
theorem dX3_fill_19 : decode cX3_fill 19 = .ok (.iload_n 1, 1) := by decide +kernel
theorem dX3_fill_20 : decode cX3_fill 20 = .ok (.aload_n 0, 1) := by decide +kernel
theorem dX3_fill_21 : decode cX3_fill 21 = .ok (.getfield 28, 3) := by decide +kernel
theorem dX3_fill_24 : decode cX3_fill 24 = .ok (.iconst 1, 1) := by decide +kernel
theorem dX3_fill_25 : decode cX3_fill 25 = .ok (.isub, 1) := by decide +kernel
theorem dX3_fill_26 : decode cX3_fill 26 = .ok (.if_icmp .ne 7, 3) := by decide +kernel
theorem dX3_fill_29 : decode cX3_fill 29 = .ok (.iconst 1, 1) := by decide +kernel
theorem dX3_fill_30 : decode cX3_fill 30 = .ok (.goto 4, 3) := by decide +kernel
theorem dX3_fill_33 : decode cX3_fill 33 = .ok (.iconst 0, 1) := by decide +kernel
theorem dX3_fill_34 : decode cX3_fill 34 = .ok (.istore_n 3, 1) := by decide +kernel
theorem dX3_fill_35 : decode cX3_fill 35 = .ok (.iconst 0, 1) := by decide +kernel
theorem dX3_fill_36 : decode cX3_fill 36 = .ok (.istore 4, 2) := by decide +kernel
theorem dX3_fill_38 : decode cX3_fill 38 = .ok (.iload 4, 2) := by decide +kernel
theorem dX3_fill_40 : decode cX3_fill 40 = .ok (.bipush 40, 2) := by decide +kernel
theorem dX3_fill_42 : decode cX3_fill 42 = .ok (.if_icmp .ge 114, 3) := by decide +kernel
theorem dX3_fill_45 : decode cX3_fill 45 = .ok (.aload_n 0, 1) := by decide +kernel
theorem dX3_fill_46 : decode cX3_fill 46 = .ok (.getfield 18, 3) := by decide +kernel
theorem dX3_fill_49 : decode cX3_fill 49 = .ok (.iload 4, 2) := by decide +kernel
theorem dX3_fill_51 : decode cX3_fill 51 = .ok (.baload, 1) := by decide +kernel
theorem dX3_fill_52 : decode cX3_fill 52 = .ok (.ifCond .eq 98, 3) := by decide +kernel
theorem dX3_fill_55 : decode cX3_fill 55 = .ok (.iload_n 1, 1) := by decide +kernel
theorem dX3_fill_56 : decode cX3_fill 56 = .ok (.ifCond .ne 12, 3) := by decide +kernel
theorem dX3_fill_59 : decode cX3_fill 59 = .ok (.iload 4, 2) := by decide +kernel
theorem dX3_fill_61 : decode cX3_fill 61 = .ok (.aload_n 0, 1) := by decide +kernel
theorem dX3_fill_62 : decode cX3_fill 62 = .ok (.getfield 32, 3) := by decide +kernel
theorem dX3_fill_65 : decode cX3_fill 65 = .ok (.if_icmp .ne 85, 3) := by decide +kernel
theorem dX3_fill_68 : decode cX3_fill 68 = .ok (.iload_n 3, 1) := by decide +kernel
theorem dX3_fill_69 : decode cX3_fill 69 = .ok (.ifCond .eq 16, 3) := by decide +kernel
theorem dX3_fill_72 : decode cX3_fill 72 = .ok (.aload_n 0, 1) := by decide +kernel
theorem dX3_fill_73 : decode cX3_fill 73 = .ok (.getfield 22, 3) := by decide +kernel
theorem dX3_fill_76 : decode cX3_fill 76 = .ok (.iload 4, 2) := by decide +kernel
theorem dX3_fill_78 : decode cX3_fill 78 = .ok (.baload, 1) := by decide +kernel
theorem dX3_fill_79 : decode cX3_fill 79 = .ok (.ifCond .ne 6, 3) := by decide +kernel
theorem dX3_fill_82 : decode cX3_fill 82 = .ok (.goto 68, 3) := by decide +kernel
theorem dX3_fill_85 : decode cX3_fill 85 = .ok (.aload_n 0, 1) := by decide +kernel
theorem dX3_fill_86 : decode cX3_fill 86 = .ok (.getfield 25, 3) := by decide +kernel
theorem dX3_fill_89 : decode cX3_fill 89 = .ok (.iload_n 1, 1) := by decide +kernel
theorem dX3_fill_90 : decode cX3_fill 90 = .ok (.iload 4, 2) := by decide +kernel
theorem dX3_fill_92 : decode cX3_fill 92 = .ok (.iastore, 1) := by decide +kernel
theorem dX3_fill_93 : decode cX3_fill 93 = .ok (.iload_n 2, 1) := by decide +kernel
theorem dX3_fill_94 : decode cX3_fill 94 = .ok (.aload_n 0, 1) := by decide +kernel
theorem dX3_fill_95 : decode cX3_fill 95 = .ok (.getfield 15, 3) := by decide +kernel
theorem dX3_fill_98 : decode cX3_fill 98 = .ok (.iload 4, 2) := by decide +kernel
theorem dX3_fill_100 : decode cX3_fill 100 = .ok (.iaload, 1) := by decide +kernel
theorem dX3_fill_101 : decode cX3_fill 101 = .ok (.iadd, 1) := by decide +kernel
theorem dX3_fill_102 : decode cX3_fill 102 = .ok (.iconst 4, 1) := by decide +kernel
theorem dX3_fill_103 : decode cX3_fill 103 = .ok (.iload_n 1, 1) := by decide +kernel
theorem dX3_fill_104 : decode cX3_fill 104 = .ok (.imul, 1) := by decide +kernel
theorem dX3_fill_105 : decode cX3_fill 105 = .ok (.aload_n 0, 1) := by decide +kernel
theorem dX3_fill_106 : decode cX3_fill 106 = .ok (.getfield 9, 3) := by decide +kernel
theorem dX3_fill_109 : decode cX3_fill 109 = .ok (.iload 4, 2) := by decide +kernel
theorem dX3_fill_111 : decode cX3_fill 111 = .ok (.iaload, 1) := by decide +kernel
theorem dX3_fill_112 : decode cX3_fill 112 = .ok (.imul, 1) := by decide +kernel
theorem dX3_fill_113 : decode cX3_fill 113 = .ok (.iadd, 1) := by decide +kernel
theorem dX3_fill_114 : decode cX3_fill 114 = .ok (.istore 5, 2) := by decide +kernel
theorem dX3_fill_116 : decode cX3_fill 116 = .ok (.iload_n 3, 1) := by decide +kernel
theorem dX3_fill_117 : decode cX3_fill 117 = .ok (.ifCond .eq 19, 3) := by decide +kernel
theorem dX3_fill_120 : decode cX3_fill 120 = .ok (.iload 5, 2) := by decide +kernel
theorem dX3_fill_122 : decode cX3_fill 122 = .ok (.sipush 9973, 3) := by decide +kernel
theorem dX3_fill_125 : decode cX3_fill 125 = .ok (.irem, 1) := by decide +kernel
theorem dX3_fill_126 : decode cX3_fill 126 = .ok (.aload_n 0, 1) := by decide +kernel
theorem dX3_fill_127 : decode cX3_fill 127 = .ok (.getfield 35, 3) := by decide +kernel
theorem dX3_fill_130 : decode cX3_fill 130 = .ok (.if_icmp .ne 20, 3) := by decide +kernel
theorem dX3_fill_133 : decode cX3_fill 133 = .ok (.goto 15, 3) := by decide +kernel
theorem dX3_fill_136 : decode cX3_fill 136 = .ok (.aload_n 0, 1) := by decide +kernel
theorem dX3_fill_137 : decode cX3_fill 137 = .ok (.iload_n 1, 1) := by decide +kernel
theorem dX3_fill_138 : decode cX3_fill 138 = .ok (.iload 4, 2) := by decide +kernel
theorem dX3_fill_140 : decode cX3_fill 140 = .ok (.iload 5, 2) := by decide +kernel
theorem dX3_fill_142 : decode cX3_fill 142 = .ok (.invokevirtual 74, 3) := by decide +kernel
theorem dX3_fill_145 : decode cX3_fill 145 = .ok (.ifCond .eq 5, 3) := by decide +kernel
theorem dX3_fill_148 : decode cX3_fill 148 = .ok (.iconst 1, 1) := by decide +kernel
theorem dX3_fill_149 : decode cX3_fill 149 = .ok (.ireturn, 1) := by decide +kernel
theorem dX3_fill_150 : decode cX3_fill 150 = .ok (.iinc 4 1, 3) := by decide +kernel
theorem dX3_fill_153 : decode cX3_fill 153 = .ok (.goto (-115), 3) := by decide +kernel
theorem dX3_fill_156 : decode cX3_fill 156 = .ok (.iconst 0, 1) := by decide +kernel
theorem dX3_fill_157 : decode cX3_fill 157 = .ok (.ireturn, 1) := by decide +kernel
set_option maxRecDepth 20000 in
theorem ggX3_goesOn_X3_fill : GoodIn wsX3_goesOn wsX3_fill := goodIn_r _ [6, 7, 1, 8, 9, 10, 11, 12, 13, 14, 15, 16, 5, 0, 2, 3, 4, 17, 18, 19, 20, 21, 22, 23, 24] (by decide +kernel) (by decide +kernel)
set_option maxRecDepth 20000 in
theorem gX3_goesOn_X3_fill : GoodIn wsX3_goesOn (wsV RX3 66 RX3 yX3_fill wsX3_fill) := goodIn_app (goodIn_of _ (by decide +kernel)) ggX3_goesOn_X3_fill
theorem dX3_goesOn_0 : decode cX3_goesOn 0 = .ok (.iload_n 2, 1) := by decide +kernel
theorem dX3_goesOn_1 : decode cX3_goesOn 1 = .ok (.ifCond .lt 9, 3) := by decide +kernel
theorem dX3_goesOn_4 : decode cX3_goesOn 4 = .ok (.iload_n 2, 1) := by decide +kernel
theorem dX3_goesOn_5 : decode cX3_goesOn 5 = .ok (.bipush 40, 2) := by decide +kernel
theorem dX3_goesOn_7 : decode cX3_goesOn 7 = .ok (.if_icmp .lt 5, 3) := by decide +kernel
theorem dX3_goesOn_10 : decode cX3_goesOn 10 = .ok (.iconst 0, 1) := by decide +kernel
theorem dX3_goesOn_11 : decode cX3_goesOn 11 = .ok (.ireturn, 1) := by decide +kernel
theorem dX3_goesOn_12 : decode cX3_goesOn 12 = .ok (.aload_n 0, 1) := by decide +kernel
theorem dX3_goesOn_13 : decode cX3_goesOn 13 = .ok (.getfield 18, 3) := by decide +kernel
theorem dX3_goesOn_16 : decode cX3_goesOn 16 = .ok (.iload_n 2, 1) := by decide +kernel
theorem dX3_goesOn_17 : decode cX3_goesOn 17 = .ok (.iconst 0, 1) := by decide +kernel
theorem dX3_goesOn_18 : decode cX3_goesOn 18 = .ok (.bastore, 1) := by decide +kernel
theorem dX3_goesOn_19 : decode cX3_goesOn 19 = .ok (.aload_n 0, 1) := by decide +kernel
theorem dX3_goesOn_20 : decode cX3_goesOn 20 = .ok (.iload_n 1, 1) := by decide +kernel
theorem dX3_goesOn_21 : decode cX3_goesOn 21 = .ok (.iconst 1, 1) := by decide +kernel
theorem dX3_goesOn_22 : decode cX3_goesOn 22 = .ok (.iadd, 1) := by decide +kernel
theorem dX3_goesOn_23 : decode cX3_goesOn 23 = .ok (.iload_n 3, 1) := by decide +kernel
theorem dX3_goesOn_24 : decode cX3_goesOn 24 = .ok (.invokevirtual 66, 3) := by decide +kernel
theorem dX3_goesOn_27 : decode cX3_goesOn 27 = .ok (.istore 4, 2) := by decide +kernel
theorem dX3_goesOn_29 : decode cX3_goesOn 29 = .ok (.aload_n 0, 1) := by decide +kernel
theorem dX3_goesOn_30 : decode cX3_goesOn 30 = .ok (.getfield 18, 3) := by decide +kernel
theorem dX3_goesOn_33 : decode cX3_goesOn 33 = .ok (.iload_n 2, 1) := by decide +kernel
theorem dX3_goesOn_34 : decode cX3_goesOn 34 = .ok (.iconst 1, 1) := by decide +kernel
theorem dX3_goesOn_35 : decode cX3_goesOn 35 = .ok (.bastore, 1) := by decide +kernel
theorem dX3_goesOn_36 : decode cX3_goesOn 36 = .ok (.iload 4, 2) := by decide +kernel
theorem dX3_goesOn_38 : decode cX3_goesOn 38 = .ok (.ireturn, 1) := by decide +kernel
set_option maxRecDepth 20000 in
theorem ggX4_init_X1_init : GoodIn wsX4_init wsX1_init := goodIn_r _ [23, 24, 2, 3, 25, 26, 27, 28, 29, 30, 31, 64, 65] (by decide +kernel) (by decide +kernel)
set_option maxRecDepth 20000 in
theorem gX4_init_X1_init : GoodIn wsX4_init (wsX1_init) := ggX4_init_X1_init
set_option maxRecDepth 20000 in
theorem ggX4_init_Jx4a65c_init_da8c8 : GoodIn wsX4_init wsJx4a65c_init_da8c8 := goodIn_r _ [34, 35, 36, 37, 38, 39, 40, 41, 42, 43, 44, 45, 46, 2, 3, 71, 72, 73] (by decide +kernel) (by decide +kernel)
set_option maxRecDepth 20000 in
theorem gX4_init_Jx4a65c_init_da8c8 : GoodIn wsX4_init (wsJx4a65c_init_da8c8) := ggX4_init_Jx4a65c_init_da8c8
set_option maxRecDepth 20000 in
theorem ggX4_init_X3_init : GoodIn wsX4_init wsX3_init := goodIn_r _ [48, 49, 2, 3, 25, 50, 51, 52, 53, 54, 55, 56, 57, 58, 74, 75, 76, 77, 78, 79, 80, 81] (by decide +kernel) (by decide +kernel)
set_option maxRecDepth 20000 in
theorem gX4_init_X3_init_n25 : GoodIn wsX4_init (wsX3_init) := ggX4_init_X3_init
set_option maxRecDepth 20000 in
theorem ggX4_init_X0_init : GoodIn wsX4_init wsX0_init := goodIn_r _ [60, 61, 2, 3, 25, 62, 63, 82, 83] (by decide +kernel) (by decide +kernel)
set_option maxRecDepth 20000 in
theorem gX4_init_X0_init_n32 : GoodIn wsX4_init (wsX0_init) := ggX4_init_X0_init
theorem dX4_init_0 : decode cX4_init 0 = .ok (.aload_n 0, 1) := by decide +kernel
theorem dX4_init_1 : decode cX4_init 1 = .ok (.invokespecial 1, 3) := by decide +kernel
theorem dX4_init_4 : decode cX4_init 4 = .ok (.aload_n 0, 1) := by decide +kernel
theorem dX4_init_5 : decode cX4_init 5 = .ok (.new 7, 3) := by decide +kernel
theorem dX4_init_8 : decode cX4_init 8 = .ok (.dup, 1) := by decide +kernel
theorem dX4_init_9 : decode cX4_init 9 = .ok (.invokespecial 9, 3) := by decide +kernel
theorem dX4_init_12 : decode cX4_init 12 = .ok (.putfield 10, 3) := by decide +kernel
theorem dX4_init_15 : decode cX4_init 15 = .ok (.aload_n 0, 1) := by decide +kernel
theorem dX4_init_16 : decode cX4_init 16 = .ok (.new 16, 3) := by decide +kernel
theorem dX4_init_19 : decode cX4_init 19 = .ok (.dup, 1) := by decide +kernel
theorem dX4_init_20 : decode cX4_init 20 = .ok (.invokespecial 18, 3) := by decide +kernel
theorem dX4_init_23 : decode cX4_init 23 = .ok (.putfield 19, 3) := by decide +kernel
theorem dX4_init_26 : decode cX4_init 26 = .ok (.aload_n 0, 1) := by decide +kernel
theorem dX4_init_27 : decode cX4_init 27 = .ok (.new 23, 3) := by decide +kernel
theorem dX4_init_30 : decode cX4_init 30 = .ok (.dup, 1) := by decide +kernel
theorem dX4_init_31 : decode cX4_init 31 = .ok (.invokespecial 25, 3) := by decide +kernel
theorem dX4_init_34 : decode cX4_init 34 = .ok (.putfield 26, 3) := by decide +kernel
theorem dX4_init_37 : decode cX4_init 37 = .ok (.aload_n 0, 1) := by decide +kernel
theorem dX4_init_38 : decode cX4_init 38 = .ok (.new 30, 3) := by decide +kernel
theorem dX4_init_41 : decode cX4_init 41 = .ok (.dup, 1) := by decide +kernel
theorem dX4_init_42 : decode cX4_init 42 = .ok (.invokespecial 32, 3) := by decide +kernel
theorem dX4_init_45 : decode cX4_init 45 = .ok (.putfield 33, 3) := by decide +kernel
theorem dX4_init_48 : decode cX4_init 48 = .ok (.aload_n 0, 1) := by decide +kernel
theorem dX4_init_49 : decode cX4_init 49 = .ok (.iconst 0, 1) := by decide +kernel
theorem dX4_init_50 : decode cX4_init 50 = .ok (.putfield 37, 3) := by decide +kernel
theorem dX4_init_53 : decode cX4_init 53 = .ok (.return_, 1) := by decide +kernel
set_option maxRecDepth 20000 in
theorem ggX4_make_Jx4a65c_size_8abf5 : GoodIn wsX4_make wsJx4a65c_size_8abf5 := goodIn_r _ [14, 15, 196, 197, 198] (by decide +kernel) (by decide +kernel)
set_option maxRecDepth 20000 in
theorem gX4_make_Jx4a65c_size_8abf5 : GoodIn wsX4_make (wsV RX4 50 RJx4a65c yJx4a65c_size_8abf5 wsJx4a65c_size_8abf5) := goodIn_app (goodIn_of _ (by decide +kernel)) ggX4_make_Jx4a65c_size_8abf5
set_option maxRecDepth 20000 in
theorem ggX4_make_X1_countFree : GoodIn wsX4_make wsX1_countFree := goodIn_r _ [20, 21, 199, 200] (by decide +kernel) (by decide +kernel)
set_option maxRecDepth 20000 in
theorem gX4_make_X1_countFree : GoodIn wsX4_make (wsV RX4 59 RX1 yX1_countFree wsX1_countFree) := goodIn_app (goodIn_of _ (by decide +kernel)) ggX4_make_X1_countFree
set_option maxRecDepth 20000 in
theorem ggX4_make_X2_init : GoodIn wsX4_make wsX2_init := goodIn_r _ [24, 25, 26, 27, 28, 29, 30, 31, 32, 33, 34, 35, 36, 37, 38, 39, 40, 41, 42, 201, 202, 190, 191, 192, 193, 194, 195] (by decide +kernel) (by decide +kernel)
set_option maxRecDepth 20000 in
theorem gX4_make_X2_init : GoodIn wsX4_make (wsX2_init) := ggX4_make_X2_init
set_option maxRecDepth 20000 in
theorem ggX4_make_Jx4a65c_add_9ea2d : GoodIn wsX4_make wsJx4a65c_add_9ea2d := goodIn_r _ [46, 47, 48, 49, 15, 50, 51, 52, 13, 53, 54, 55, 56, 57, 58, 59, 60, 61, 62, 63, 64, 65, 66, 67, 68, 69, 70, 71, 72, 73, 74, 75, 76, 77, 78, 79, 80, 81, 82, 83, 84, 85, 86, 87, 88, 89, 90, 91, 92, 93, 94, 95, 96, 196, 197, 198] (by decide +kernel) (by decide +kernel)
set_option maxRecDepth 20000 in
theorem gX4_make_Jx4a65c_add_9ea2d : GoodIn wsX4_make (wsV RX4 69 RJx4a65c yJx4a65c_add_9ea2d wsJx4a65c_add_9ea2d) := goodIn_app (goodIn_of _ (by decide +kernel)) ggX4_make_Jx4a65c_add_9ea2d
set_option maxRecDepth 20000 in
theorem ggX4_make_X4_takeClusters : GoodIn wsX4_make wsX4_takeClusters := goodIn_r _ [101, 6, 102, 103, 104, 19, 105, 21, 106, 107, 108, 30, 109, 42, 41, 185, 186, 187, 188, 189, 199, 200, 201, 202] (by decide +kernel) (by decide +kernel)
set_option maxRecDepth 20000 in
theorem gX4_make_X4_takeClusters : GoodIn wsX4_make (wsV RX4 76 RX4 yX4_takeClusters wsX4_takeClusters) := goodIn_app (goodIn_of _ (by decide +kernel)) ggX4_make_X4_takeClusters
set_option maxRecDepth 20000 in
theorem ggX4_make_X4_writeByRule : GoodIn wsX4_make wsX4_writeByRule := goodIn_r _ [113, 6, 114, 115, 100, 116, 117, 118, 119, 9, 120, 36, 121, 122, 123, 19, 124, 125, 126, 127, 128, 30, 129, 42, 41, 185, 186, 187, 188, 189, 190, 191, 192, 193, 194, 195, 201, 202, 199, 200] (by decide +kernel) (by decide +kernel)
set_option maxRecDepth 20000 in
theorem gX4_make_X4_writeByRule : GoodIn wsX4_make (wsV RX4 80 RX4 yX4_writeByRule wsX4_writeByRule) := goodIn_app (goodIn_of _ (by decide +kernel)) ggX4_make_X4_writeByRule
set_option maxRecDepth 20000 in
theorem ggX4_make_X1_writeAlong : GoodIn wsX4_make wsX1_writeAlong := goodIn_r _ [124, 125, 126, 127, 128, 30, 129, 42, 41, 199, 200, 201, 202] (by decide +kernel) (by decide +kernel)
set_option maxRecDepth 20000 in
theorem gX4_make_X1_writeAlong : GoodIn wsX4_make (wsV RX4 84 RX1 yX1_writeAlong wsX1_writeAlong) := goodIn_app (goodIn_of _ (by decide +kernel)) ggX4_make_X1_writeAlong
set_option maxRecDepth 20000 in
theorem ggX4_make_X4_lastPlace : GoodIn wsX4_make wsX4_lastPlace := goodIn_r _ [116, 190, 191, 192, 193, 194, 195, 201, 202] (by decide +kernel) (by decide +kernel)
set_option maxRecDepth 20000 in
theorem gX4_make_X4_lastPlace : GoodIn wsX4_make (va_wsS RX4 87 yX4_lastPlace wsX4_lastPlace) := goodIn_app (goodIn_of _ (by decide +kernel)) ggX4_make_X4_lastPlace
set_option maxRecDepth 20000 in
theorem ggX4_make_X4_readClaims : GoodIn wsX4_make wsX4_readClaims := goodIn_r _ [133, 5, 134, 10, 11, 12, 13, 14, 15, 135, 136, 137, 138, 139, 140, 141, 142, 143, 144, 145, 146, 147, 148, 149, 150, 49, 151, 152, 153, 9, 154, 33, 155, 156, 157, 100, 158, 6, 159, 127, 128, 30, 129, 42, 41, 160, 161, 162, 163, 164, 165, 166, 19, 167, 21, 106, 107, 108, 109, 168, 169, 170, 171, 172, 173, 174, 175, 176, 177, 178, 179, 126, 180, 181, 182, 183, 125, 184, 185, 186, 187, 188, 189, 196, 197, 198, 190, 191, 192, 193, 194, 195, 201, 202, 199, 200] (by decide +kernel) (by decide +kernel)
set_option maxRecDepth 20000 in
theorem gX4_make_X4_readClaims : GoodIn wsX4_make (wsV RX4 91 RX4 yX4_readClaims wsX4_readClaims) := goodIn_app (goodIn_of _ (by decide +kernel)) ggX4_make_X4_readClaims
theorem dX4_make_0 : decode cX4_make 0 = .ok (.iload_n 1, 1) := by decide +kernel
end
section
theorem dX4_make_1 : decode cX4_make 1 = .ok (.iconst 1, 1) := by decide +kernel
theorem dX4_make_2 : decode cX4_make 2 = .ok (.if_icmp .lt 9, 3) := by decide +kernel
theorem dX4_make_5 : decode cX4_make 5 = .ok (.iload_n 1, 1) := by decide +kernel
theorem dX4_make_6 : decode cX4_make 6 = .ok (.bipush 8, 2) := by decide +kernel
theorem dX4_make_8 : decode cX4_make 8 = .ok (.if_icmp .le 13, 3) := by decide +kernel
theorem dX4_make_11 : decode cX4_make 11 = .ok (.new 41, 3) := by decide +kernel
theorem dX4_make_14 : decode cX4_make 14 = .ok (.dup, 1) := by decide +kernel
theorem dX4_make_15 : decode cX4_make 15 = .ok (.ldc 43, 2) := by decide +kernel
theorem dX4_make_17 : decode cX4_make 17 = .ok (.invokespecial 45, 3) := by decide +kernel
theorem dX4_make_20 : decode cX4_make 20 = .ok (.athrow, 1) := by decide +kernel
theorem dX4_make_21 : decode cX4_make 21 = .ok (.iload_n 2, 1) := by decide +kernel
theorem dX4_make_22 : decode cX4_make 22 = .ok (.ifCond .lt 10, 3) := by decide +kernel
theorem dX4_make_25 : decode cX4_make 25 = .ok (.iload_n 2, 1) := by decide +kernel
theorem dX4_make_26 : decode cX4_make 26 = .ok (.sipush 10000, 3) := by decide +kernel
theorem dX4_make_29 : decode cX4_make 29 = .ok (.if_icmp .le 13, 3) := by decide +kernel
theorem dX4_make_32 : decode cX4_make 32 = .ok (.new 41, 3) := by decide +kernel
theorem dX4_make_35 : decode cX4_make 35 = .ok (.dup, 1) := by decide +kernel
theorem dX4_make_36 : decode cX4_make 36 = .ok (.ldc 48, 2) := by decide +kernel
theorem dX4_make_38 : decode cX4_make 38 = .ok (.invokespecial 45, 3) := by decide +kernel
theorem dX4_make_41 : decode cX4_make 41 = .ok (.athrow, 1) := by decide +kernel
theorem dX4_make_42 : decode cX4_make 42 = .ok (.aload_n 0, 1) := by decide +kernel
theorem dX4_make_43 : decode cX4_make 43 = .ok (.getfield 19, 3) := by decide +kernel
theorem dX4_make_46 : decode cX4_make 46 = .ok (.invokevirtual 50, 3) := by decide +kernel
theorem dX4_make_49 : decode cX4_make 49 = .ok (.bipush 30, 2) := by decide +kernel
theorem dX4_make_51 : decode cX4_make 51 = .ok (.if_icmp .lt 13, 3) := by decide +kernel
theorem dX4_make_54 : decode cX4_make 54 = .ok (.new 54, 3) := by decide +kernel
theorem dX4_make_57 : decode cX4_make 57 = .ok (.dup, 1) := by decide +kernel
theorem dX4_make_58 : decode cX4_make 58 = .ok (.ldc 56, 2) := by decide +kernel
theorem dX4_make_60 : decode cX4_make 60 = .ok (.invokespecial 58, 3) := by decide +kernel
theorem dX4_make_63 : decode cX4_make 63 = .ok (.athrow, 1) := by decide +kernel
theorem dX4_make_64 : decode cX4_make 64 = .ok (.aload_n 0, 1) := by decide +kernel
theorem dX4_make_65 : decode cX4_make 65 = .ok (.getfield 10, 3) := by decide +kernel
theorem dX4_make_68 : decode cX4_make 68 = .ok (.invokevirtual 59, 3) := by decide +kernel
theorem dX4_make_71 : decode cX4_make 71 = .ok (.iload_n 1, 1) := by decide +kernel
theorem dX4_make_72 : decode cX4_make 72 = .ok (.if_icmp .ge 13, 3) := by decide +kernel
theorem dX4_make_75 : decode cX4_make 75 = .ok (.new 54, 3) := by decide +kernel
theorem dX4_make_78 : decode cX4_make 78 = .ok (.dup, 1) := by decide +kernel
theorem dX4_make_79 : decode cX4_make 79 = .ok (.ldc 62, 2) := by decide +kernel
theorem dX4_make_81 : decode cX4_make 81 = .ok (.invokespecial 58, 3) := by decide +kernel
theorem dX4_make_84 : decode cX4_make 84 = .ok (.athrow, 1) := by decide +kernel
theorem dX4_make_85 : decode cX4_make 85 = .ok (.aload_n 0, 1) := by decide +kernel
theorem dX4_make_86 : decode cX4_make 86 = .ok (.getfield 19, 3) := by decide +kernel
theorem dX4_make_89 : decode cX4_make 89 = .ok (.invokevirtual 50, 3) := by decide +kernel
theorem dX4_make_92 : decode cX4_make 92 = .ok (.istore_n 3, 1) := by decide +kernel
theorem dX4_make_93 : decode cX4_make 93 = .ok (.new 64, 3) := by decide +kernel
theorem dX4_make_96 : decode cX4_make 96 = .ok (.dup, 1) := by decide +kernel
theorem dX4_make_97 : decode cX4_make 97 = .ok (.iload_n 2, 1) := by decide +kernel
theorem dX4_make_98 : decode cX4_make 98 = .ok (.invokespecial 66, 3) := by decide +kernel
theorem dX4_make_101 : decode cX4_make 101 = .ok (.astore 4, 2) := by decide +kernel
theorem dX4_make_103 : decode cX4_make 103 = .ok (.aload_n 0, 1) := by decide +kernel
theorem dX4_make_104 : decode cX4_make 104 = .ok (.getfield 19, 3) := by decide +kernel
theorem dX4_make_107 : decode cX4_make 107 = .ok (.aload 4, 2) := by decide +kernel
theorem dX4_make_109 : decode cX4_make 109 = .ok (.invokevirtual 69, 3) := by decide +kernel
theorem dX4_make_112 : decode cX4_make 112 = .ok (.pop, 1) := by decide +kernel
theorem dX4_make_113 : decode cX4_make 113 = .ok (.aload_n 0, 1) := by decide +kernel
theorem dX4_make_114 : decode cX4_make 114 = .ok (.aload 4, 2) := by decide +kernel
theorem dX4_make_116 : decode cX4_make 116 = .ok (.getfield 73, 3) := by decide +kernel
theorem dX4_make_119 : decode cX4_make 119 = .ok (.iload_n 1, 1) := by decide +kernel
theorem dX4_make_120 : decode cX4_make 120 = .ok (.iload_n 3, 1) := by decide +kernel
theorem dX4_make_121 : decode cX4_make 121 = .ok (.invokevirtual 76, 3) := by decide +kernel
theorem dX4_make_124 : decode cX4_make 124 = .ok (.aload_n 0, 1) := by decide +kernel
theorem dX4_make_125 : decode cX4_make 125 = .ok (.aload 4, 2) := by decide +kernel
theorem dX4_make_127 : decode cX4_make 127 = .ok (.iconst 0, 1) := by decide +kernel
theorem dX4_make_128 : decode cX4_make 128 = .ok (.invokevirtual 80, 3) := by decide +kernel
theorem dX4_make_131 : decode cX4_make 131 = .ok (.aload_n 0, 1) := by decide +kernel
theorem dX4_make_132 : decode cX4_make 132 = .ok (.getfield 10, 3) := by decide +kernel
theorem dX4_make_135 : decode cX4_make 135 = .ok (.aload 4, 2) := by decide +kernel
theorem dX4_make_137 : decode cX4_make 137 = .ok (.getfield 73, 3) := by decide +kernel
theorem dX4_make_140 : decode cX4_make 140 = .ok (.iconst 0, 1) := by decide +kernel
theorem dX4_make_141 : decode cX4_make 141 = .ok (.sipush 255, 3) := by decide +kernel
theorem dX4_make_144 : decode cX4_make 144 = .ok (.invokevirtual 84, 3) := by decide +kernel
theorem dX4_make_147 : decode cX4_make 147 = .ok (.aload_n 0, 1) := by decide +kernel
theorem dX4_make_148 : decode cX4_make 148 = .ok (.getfield 10, 3) := by decide +kernel
theorem dX4_make_151 : decode cX4_make 151 = .ok (.aload 4, 2) := by decide +kernel
theorem dX4_make_153 : decode cX4_make 153 = .ok (.getfield 73, 3) := by decide +kernel
theorem dX4_make_156 : decode cX4_make 156 = .ok (.aload 4, 2) := by decide +kernel
theorem dX4_make_158 : decode cX4_make 158 = .ok (.invokestatic 87, 3) := by decide +kernel
theorem dX4_make_161 : decode cX4_make 161 = .ok (.sipush 254, 3) := by decide +kernel
theorem dX4_make_164 : decode cX4_make 164 = .ok (.invokevirtual 84, 3) := by decide +kernel
theorem dX4_make_167 : decode cX4_make 167 = .ok (.aload_n 0, 1) := by decide +kernel
theorem dX4_make_168 : decode cX4_make 168 = .ok (.invokevirtual 91, 3) := by decide +kernel
theorem dX4_make_171 : decode cX4_make 171 = .ok (.iload_n 3, 1) := by decide +kernel
theorem dX4_make_172 : decode cX4_make 172 = .ok (.ireturn, 1) := by decide +kernel
set_option maxRecDepth 20000 in
theorem ggX4_grow_X4_livingFile : GoodIn wsX4_grow wsX4_livingFile := goodIn_ca (goodIn_ca (goodIn_r _ [8, 1, 2, 9, 10, 11, 7, 12, 13, 14, 15, 16, 17, 18, 19, 20, 21, 22, 23, 24, 25, 26, 27, 28, 29, 30, 31, 32, 33, 34, 35, 36, 37, 38, 39, 40, 41, 42, 43, 44, 45, 130, 131, 132, 133, 134, 135, 136, 137, 122, 123, 124, 125, 126, 127] (by decide +kernel) (by decide +kernel)) (goodIn_sub (fun _ h => List.mem_cons_of_mem _ (List.mem_append_left _ (List.mem_append_right _ h))) (by decide +kernel))) (goodIn_sub (fun _ h => List.mem_cons_of_mem _ (List.mem_append_right _ h)) (by decide +kernel))
set_option maxRecDepth 20000 in
theorem gX4_grow_X4_livingFile : GoodIn wsX4_grow (wsV RX4 94 RX4 yX4_livingFile wsX4_livingFile) := goodIn_app (goodIn_of _ (by decide +kernel)) ggX4_grow_X4_livingFile
set_option maxRecDepth 20000 in
theorem ggX4_grow_X1_countFree : GoodIn wsX4_grow wsX1_countFree := goodIn_r _ [50, 51, 138, 139] (by decide +kernel) (by decide +kernel)
set_option maxRecDepth 20000 in
theorem gX4_grow_X1_countFree : GoodIn wsX4_grow (wsV RX4 59 RX1 yX1_countFree wsX1_countFree) := goodIn_app (goodIn_of _ (by decide +kernel)) ggX4_grow_X1_countFree
set_option maxRecDepth 20000 in
theorem ggX4_grow_X4_lastPlace : GoodIn wsX4_grow wsX4_lastPlace := goodIn_r _ [54, 122, 123, 124, 125, 126, 127, 128, 129] (by decide +kernel) (by decide +kernel)
set_option maxRecDepth 20000 in
theorem gX4_grow_X4_lastPlace : GoodIn wsX4_grow (va_wsS RX4 87 yX4_lastPlace wsX4_lastPlace) := goodIn_app (goodIn_of _ (by decide +kernel)) ggX4_grow_X4_lastPlace
set_option maxRecDepth 20000 in
theorem ggX4_grow_X4_takeClusters : GoodIn wsX4_grow wsX4_takeClusters := goodIn_r _ [58, 3, 59, 60, 61, 49, 62, 51, 63, 64, 65, 66, 67, 68, 69, 130, 131, 132, 133, 134, 138, 139, 128, 129] (by decide +kernel) (by decide +kernel)
set_option maxRecDepth 20000 in
theorem gX4_grow_X4_takeClusters : GoodIn wsX4_grow (wsV RX4 76 RX4 yX4_takeClusters wsX4_takeClusters) := goodIn_app (goodIn_of _ (by decide +kernel)) ggX4_grow_X4_takeClusters
set_option maxRecDepth 20000 in
theorem ggX4_grow_X4_writeByRule : GoodIn wsX4_grow wsX4_writeByRule := goodIn_r _ [73, 3, 52, 53, 7, 54, 74, 75, 76, 43, 77, 78, 79, 80, 81, 49, 82, 83, 84, 85, 86, 66, 87, 68, 69, 130, 131, 132, 133, 134, 122, 123, 124, 125, 126, 127, 128, 129, 138, 139] (by decide +kernel) (by decide +kernel)
set_option maxRecDepth 20000 in
theorem gX4_grow_X4_writeByRule : GoodIn wsX4_grow (wsV RX4 80 RX4 yX4_writeByRule wsX4_writeByRule) := goodIn_app (goodIn_of _ (by decide +kernel)) ggX4_grow_X4_writeByRule
set_option maxRecDepth 20000 in
theorem ggX4_grow_X1_writeAlong : GoodIn wsX4_grow wsX1_writeAlong := goodIn_r _ [82, 83, 84, 85, 86, 66, 87, 68, 69, 138, 139, 128, 129] (by decide +kernel) (by decide +kernel)
set_option maxRecDepth 20000 in
theorem gX4_grow_X1_writeAlong : GoodIn wsX4_grow (wsV RX4 84 RX1 yX1_writeAlong wsX1_writeAlong) := goodIn_app (goodIn_of _ (by decide +kernel)) ggX4_grow_X1_writeAlong
set_option maxRecDepth 20000 in
theorem ggX4_grow_X4_readClaims : GoodIn wsX4_grow wsX4_readClaims := goodIn_r _ [91, 15, 16, 17, 18, 19, 20, 21, 22, 23, 24, 25, 26, 27, 28, 29, 30, 31, 32, 33, 34, 35, 36, 37, 38, 39, 40, 41, 42, 43, 44, 45, 92, 93, 94, 7, 95, 3, 96, 85, 86, 66, 87, 68, 69, 97, 98, 99, 100, 101, 102, 103, 49, 104, 51, 63, 64, 65, 67, 105, 106, 107, 108, 109, 110, 111, 112, 113, 114, 115, 116, 84, 117, 118, 119, 120, 83, 121, 130, 131, 132, 133, 134, 135, 136, 137, 122, 123, 124, 125, 126, 127, 128, 129, 138, 139] (by decide +kernel) (by decide +kernel)
set_option maxRecDepth 20000 in
theorem gX4_grow_X4_readClaims : GoodIn wsX4_grow (wsV RX4 91 RX4 yX4_readClaims wsX4_readClaims) := goodIn_app (goodIn_of _ (by decide +kernel)) ggX4_grow_X4_readClaims
set_option maxRecDepth 20000 in
theorem ggX4_grow_X0_at : GoodIn wsX4_grow wsX0_at := goodIn_r _ [87, 68, 69, 128, 129] (by decide +kernel) (by decide +kernel)
set_option maxRecDepth 20000 in
theorem gX4_grow_X0_at : GoodIn wsX4_grow (wsV RX4 104 RX0 yX0_at wsX0_at) := goodIn_app (goodIn_of _ (by decide +kernel)) ggX4_grow_X0_at
theorem dX4_grow_0 : decode cX4_grow 0 = .ok (.aload_n 0, 1) := by decide +kernel
theorem dX4_grow_1 : decode cX4_grow 1 = .ok (.iload_n 1, 1) := by decide +kernel
theorem dX4_grow_2 : decode cX4_grow 2 = .ok (.invokevirtual 94, 3) := by decide +kernel
theorem dX4_grow_5 : decode cX4_grow 5 = .ok (.astore_n 2, 1) := by decide +kernel
theorem dX4_grow_6 : decode cX4_grow 6 = .ok (.aload_n 2, 1) := by decide +kernel
theorem dX4_grow_7 : decode cX4_grow 7 = .ok (.getfield 73, 3) := by decide +kernel
theorem dX4_grow_10 : decode cX4_grow 10 = .ok (.getfield 98, 3) := by decide +kernel
theorem dX4_grow_13 : decode cX4_grow 13 = .ok (.bipush 8, 2) := by decide +kernel
theorem dX4_grow_15 : decode cX4_grow 15 = .ok (.if_icmp .lt 13, 3) := by decide +kernel
theorem dX4_grow_18 : decode cX4_grow 18 = .ok (.new 54, 3) := by decide +kernel
theorem dX4_grow_21 : decode cX4_grow 21 = .ok (.dup, 1) := by decide +kernel
theorem dX4_grow_22 : decode cX4_grow 22 = .ok (.ldc 100, 2) := by decide +kernel
theorem dX4_grow_24 : decode cX4_grow 24 = .ok (.invokespecial 58, 3) := by decide +kernel
theorem dX4_grow_27 : decode cX4_grow 27 = .ok (.athrow, 1) := by decide +kernel
theorem dX4_grow_28 : decode cX4_grow 28 = .ok (.aload_n 0, 1) := by decide +kernel
theorem dX4_grow_29 : decode cX4_grow 29 = .ok (.getfield 10, 3) := by decide +kernel
theorem dX4_grow_32 : decode cX4_grow 32 = .ok (.invokevirtual 59, 3) := by decide +kernel
theorem dX4_grow_35 : decode cX4_grow 35 = .ok (.iconst 1, 1) := by decide +kernel
theorem dX4_grow_36 : decode cX4_grow 36 = .ok (.if_icmp .ge 13, 3) := by decide +kernel
theorem dX4_grow_39 : decode cX4_grow 39 = .ok (.new 54, 3) := by decide +kernel
theorem dX4_grow_42 : decode cX4_grow 42 = .ok (.dup, 1) := by decide +kernel
theorem dX4_grow_43 : decode cX4_grow 43 = .ok (.ldc 102, 2) := by decide +kernel
theorem dX4_grow_45 : decode cX4_grow 45 = .ok (.invokespecial 58, 3) := by decide +kernel
theorem dX4_grow_48 : decode cX4_grow 48 = .ok (.athrow, 1) := by decide +kernel
theorem dX4_grow_49 : decode cX4_grow 49 = .ok (.aload_n 2, 1) := by decide +kernel
theorem dX4_grow_50 : decode cX4_grow 50 = .ok (.invokestatic 87, 3) := by decide +kernel
theorem dX4_grow_53 : decode cX4_grow 53 = .ok (.istore_n 3, 1) := by decide +kernel
theorem dX4_grow_54 : decode cX4_grow 54 = .ok (.aload_n 0, 1) := by decide +kernel
theorem dX4_grow_55 : decode cX4_grow 55 = .ok (.aload_n 2, 1) := by decide +kernel
theorem dX4_grow_56 : decode cX4_grow 56 = .ok (.getfield 73, 3) := by decide +kernel
theorem dX4_grow_59 : decode cX4_grow 59 = .ok (.iconst 1, 1) := by decide +kernel
theorem dX4_grow_60 : decode cX4_grow 60 = .ok (.iload_n 1, 1) := by decide +kernel
theorem dX4_grow_61 : decode cX4_grow 61 = .ok (.invokevirtual 76, 3) := by decide +kernel
theorem dX4_grow_64 : decode cX4_grow 64 = .ok (.aload_n 0, 1) := by decide +kernel
theorem dX4_grow_65 : decode cX4_grow 65 = .ok (.aload_n 2, 1) := by decide +kernel
theorem dX4_grow_66 : decode cX4_grow 66 = .ok (.iload_n 3, 1) := by decide +kernel
theorem dX4_grow_67 : decode cX4_grow 67 = .ok (.invokevirtual 80, 3) := by decide +kernel
theorem dX4_grow_70 : decode cX4_grow 70 = .ok (.aload_n 0, 1) := by decide +kernel
theorem dX4_grow_71 : decode cX4_grow 71 = .ok (.getfield 10, 3) := by decide +kernel
theorem dX4_grow_74 : decode cX4_grow 74 = .ok (.aload_n 2, 1) := by decide +kernel
theorem dX4_grow_75 : decode cX4_grow 75 = .ok (.getfield 73, 3) := by decide +kernel
theorem dX4_grow_78 : decode cX4_grow 78 = .ok (.aload_n 2, 1) := by decide +kernel
theorem dX4_grow_79 : decode cX4_grow 79 = .ok (.invokestatic 87, 3) := by decide +kernel
theorem dX4_grow_82 : decode cX4_grow 82 = .ok (.sipush 254, 3) := by decide +kernel
theorem dX4_grow_85 : decode cX4_grow 85 = .ok (.invokevirtual 84, 3) := by decide +kernel
theorem dX4_grow_88 : decode cX4_grow 88 = .ok (.aload_n 0, 1) := by decide +kernel
theorem dX4_grow_89 : decode cX4_grow 89 = .ok (.invokevirtual 91, 3) := by decide +kernel
theorem dX4_grow_92 : decode cX4_grow 92 = .ok (.aload_n 2, 1) := by decide +kernel
theorem dX4_grow_93 : decode cX4_grow 93 = .ok (.getfield 73, 3) := by decide +kernel
theorem dX4_grow_96 : decode cX4_grow 96 = .ok (.aload_n 2, 1) := by decide +kernel
theorem dX4_grow_97 : decode cX4_grow 97 = .ok (.getfield 73, 3) := by decide +kernel
theorem dX4_grow_100 : decode cX4_grow 100 = .ok (.getfield 98, 3) := by decide +kernel
theorem dX4_grow_103 : decode cX4_grow 103 = .ok (.iconst 1, 1) := by decide +kernel
theorem dX4_grow_104 : decode cX4_grow 104 = .ok (.isub, 1) := by decide +kernel
theorem dX4_grow_105 : decode cX4_grow 105 = .ok (.invokevirtual 104, 3) := by decide +kernel
theorem dX4_grow_108 : decode cX4_grow 108 = .ok (.ireturn, 1) := by decide +kernel
set_option maxRecDepth 20000 in
theorem ggX4_move_X4_livingFile : GoodIn wsX4_move wsX4_livingFile := goodIn_ca (goodIn_ca (goodIn_r _ [9, 1, 2, 10, 11, 12, 8, 13, 14, 15, 16, 17, 18, 19, 20, 21, 22, 23, 24, 25, 26, 27, 28, 29, 30, 31, 32, 33, 34, 35, 36, 37, 38, 39, 40, 41, 42, 43, 44, 45, 46, 121, 122, 123, 124, 125, 128, 129, 130, 115, 116, 117, 118, 119, 120] (by decide +kernel) (by decide +kernel)) (goodIn_sub (fun _ h => List.mem_cons_of_mem _ (List.mem_append_left _ (List.mem_append_right _ h))) (by decide +kernel))) (goodIn_sub (fun _ h => List.mem_cons_of_mem _ (List.mem_append_right _ h)) (by decide +kernel))
set_option maxRecDepth 20000 in
theorem gX4_move_X4_livingFile : GoodIn wsX4_move (wsV RX4 94 RX4 yX4_livingFile wsX4_livingFile) := goodIn_app (goodIn_of _ (by decide +kernel)) ggX4_move_X4_livingFile
set_option maxRecDepth 20000 in
theorem ggX4_move_X1_countFree : GoodIn wsX4_move wsX1_countFree := goodIn_r _ [51, 52, 131, 132] (by decide +kernel) (by decide +kernel)
set_option maxRecDepth 20000 in
theorem gX4_move_X1_countFree : GoodIn wsX4_move (wsV RX4 59 RX1 yX1_countFree wsX1_countFree) := goodIn_app (goodIn_of _ (by decide +kernel)) ggX4_move_X1_countFree
set_option maxRecDepth 20000 in
theorem ggX4_move_X0_clear : GoodIn wsX4_move wsX0_clear := goodIn_r _ [57, 58, 126, 127] (by decide +kernel) (by decide +kernel)
set_option maxRecDepth 20000 in
theorem gX4_move_X0_clear : GoodIn wsX4_move (wsV RX4 110 RX0 yX0_clear wsX0_clear) := goodIn_app (goodIn_of _ (by decide +kernel)) ggX4_move_X0_clear
set_option maxRecDepth 20000 in
theorem ggX4_move_X4_takeClusters : GoodIn wsX4_move wsX4_takeClusters := goodIn_r _ [62, 3, 63, 64, 65, 50, 66, 52, 67, 68, 69, 56, 70, 58, 71, 121, 122, 123, 124, 125, 131, 132, 126, 127] (by decide +kernel) (by decide +kernel)
set_option maxRecDepth 20000 in
theorem gX4_move_X4_takeClusters : GoodIn wsX4_move (wsV RX4 76 RX4 yX4_takeClusters wsX4_takeClusters) := goodIn_app (goodIn_of _ (by decide +kernel)) ggX4_move_X4_takeClusters
set_option maxRecDepth 20000 in
theorem ggX4_move_X1_readAlong : GoodIn wsX4_move wsX1_readAlong := goodIn_r _ [75, 76, 77, 78, 56, 79, 58, 71, 80, 81, 82, 50, 83, 84, 126, 127, 131, 132] (by decide +kernel) (by decide +kernel)
set_option maxRecDepth 20000 in
theorem gX4_move_X1_readAlong : GoodIn wsX4_move (wsV RX4 113 RX1 yX1_readAlong wsX1_readAlong) := goodIn_app (goodIn_of _ (by decide +kernel)) ggX4_move_X1_readAlong
set_option maxRecDepth 20000 in
theorem ggX4_move_X1_writeAlong : GoodIn wsX4_move wsX1_writeAlong := goodIn_r _ [88, 84, 76, 77, 78, 56, 79, 58, 71, 131, 132, 126, 127] (by decide +kernel) (by decide +kernel)
set_option maxRecDepth 20000 in
theorem gX4_move_X1_writeAlong : GoodIn wsX4_move (wsV RX4 84 RX1 yX1_writeAlong wsX1_writeAlong) := goodIn_app (goodIn_of _ (by decide +kernel)) ggX4_move_X1_writeAlong
set_option maxRecDepth 20000 in
theorem ggX4_move_X1_release : GoodIn wsX4_move wsX1_release := goodIn_r _ [92, 52, 76, 77, 78, 56, 79, 58, 71, 126, 127, 131, 132] (by decide +kernel) (by decide +kernel)
set_option maxRecDepth 20000 in
theorem gX4_move_X1_release : GoodIn wsX4_move (wsV RX4 117 RX1 yX1_release wsX1_release) := goodIn_app (goodIn_of _ (by decide +kernel)) ggX4_move_X1_release
set_option maxRecDepth 20000 in
theorem ggX4_move_X4_readClaims : GoodIn wsX4_move wsX4_readClaims := goodIn_r _ [96, 16, 17, 18, 19, 20, 21, 22, 23, 24, 25, 26, 27, 28, 29, 30, 31, 32, 33, 34, 35, 36, 37, 38, 39, 40, 41, 42, 43, 44, 45, 46, 97, 98, 99, 8, 100, 3, 101, 77, 78, 56, 79, 58, 71, 53, 54, 55, 57, 102, 103, 104, 50, 105, 52, 67, 68, 69, 70, 106, 107, 108, 109, 110, 111, 112, 113, 114, 73, 74, 75, 76, 80, 81, 82, 83, 84, 72, 121, 122, 123, 124, 125, 128, 129, 130, 115, 116, 117, 118, 119, 120, 126, 127, 131, 132] (by decide +kernel) (by decide +kernel)
set_option maxRecDepth 20000 in
theorem gX4_move_X4_readClaims : GoodIn wsX4_move (wsV RX4 91 RX4 yX4_readClaims wsX4_readClaims) := goodIn_app (goodIn_of _ (by decide +kernel)) ggX4_move_X4_readClaims
set_option maxRecDepth 20000 in
theorem ggX4_move_X0_at : GoodIn wsX4_move wsX0_at := goodIn_r _ [79, 58, 71, 126, 127] (by decide +kernel) (by decide +kernel)
set_option maxRecDepth 20000 in
theorem gX4_move_X0_at : GoodIn wsX4_move (wsV RX4 104 RX0 yX0_at wsX0_at) := goodIn_app (goodIn_of _ (by decide +kernel)) ggX4_move_X0_at
theorem dX4_move_0 : decode cX4_move 0 = .ok (.aload_n 0, 1) := by decide +kernel
theorem dX4_move_1 : decode cX4_move 1 = .ok (.iload_n 1, 1) := by decide +kernel
theorem dX4_move_2 : decode cX4_move 2 = .ok (.invokevirtual 94, 3) := by decide +kernel
theorem dX4_move_5 : decode cX4_move 5 = .ok (.astore_n 2, 1) := by decide +kernel
theorem dX4_move_6 : decode cX4_move 6 = .ok (.aload_n 2, 1) := by decide +kernel
theorem dX4_move_7 : decode cX4_move 7 = .ok (.getfield 73, 3) := by decide +kernel
theorem dX4_move_10 : decode cX4_move 10 = .ok (.astore_n 3, 1) := by decide +kernel
theorem dX4_move_11 : decode cX4_move 11 = .ok (.aload_n 0, 1) := by decide +kernel
theorem dX4_move_12 : decode cX4_move 12 = .ok (.getfield 10, 3) := by decide +kernel
theorem dX4_move_15 : decode cX4_move 15 = .ok (.invokevirtual 59, 3) := by decide +kernel
theorem dX4_move_18 : decode cX4_move 18 = .ok (.aload_n 3, 1) := by decide +kernel
theorem dX4_move_19 : decode cX4_move 19 = .ok (.getfield 98, 3) := by decide +kernel
theorem dX4_move_22 : decode cX4_move 22 = .ok (.if_icmp .ge 13, 3) := by decide +kernel
theorem dX4_move_25 : decode cX4_move 25 = .ok (.new 54, 3) := by decide +kernel
theorem dX4_move_28 : decode cX4_move 28 = .ok (.dup, 1) := by decide +kernel
theorem dX4_move_29 : decode cX4_move 29 = .ok (.ldc 108, 2) := by decide +kernel
theorem dX4_move_31 : decode cX4_move 31 = .ok (.invokespecial 58, 3) := by decide +kernel
theorem dX4_move_34 : decode cX4_move 34 = .ok (.athrow, 1) := by decide +kernel
theorem dX4_move_35 : decode cX4_move 35 = .ok (.aload_n 0, 1) := by decide +kernel
theorem dX4_move_36 : decode cX4_move 36 = .ok (.getfield 33, 3) := by decide +kernel
theorem dX4_move_39 : decode cX4_move 39 = .ok (.astore 4, 2) := by decide +kernel
theorem dX4_move_41 : decode cX4_move 41 = .ok (.aload 4, 2) := by decide +kernel
theorem dX4_move_43 : decode cX4_move 43 = .ok (.invokevirtual 110, 3) := by decide +kernel
theorem dX4_move_46 : decode cX4_move 46 = .ok (.aload_n 0, 1) := by decide +kernel
theorem dX4_move_47 : decode cX4_move 47 = .ok (.aload 4, 2) := by decide +kernel
theorem dX4_move_49 : decode cX4_move 49 = .ok (.aload_n 3, 1) := by decide +kernel
theorem dX4_move_50 : decode cX4_move 50 = .ok (.getfield 98, 3) := by decide +kernel
theorem dX4_move_53 : decode cX4_move 53 = .ok (.iload_n 1, 1) := by decide +kernel
theorem dX4_move_54 : decode cX4_move 54 = .ok (.invokevirtual 76, 3) := by decide +kernel
theorem dX4_move_57 : decode cX4_move 57 = .ok (.iconst 0, 1) := by decide +kernel
theorem dX4_move_58 : decode cX4_move 58 = .ok (.istore 5, 2) := by decide +kernel
theorem dX4_move_60 : decode cX4_move 60 = .ok (.iload 5, 2) := by decide +kernel
theorem dX4_move_62 : decode cX4_move 62 = .ok (.aload_n 3, 1) := by decide +kernel
theorem dX4_move_63 : decode cX4_move 63 = .ok (.getfield 98, 3) := by decide +kernel
theorem dX4_move_66 : decode cX4_move 66 = .ok (.iconst 4, 1) := by decide +kernel
theorem dX4_move_67 : decode cX4_move 67 = .ok (.imul, 1) := by decide +kernel
theorem dX4_move_68 : decode cX4_move 68 = .ok (.if_icmp .ge 30, 3) := by decide +kernel
theorem dX4_move_71 : decode cX4_move 71 = .ok (.aload_n 0, 1) := by decide +kernel
theorem dX4_move_72 : decode cX4_move 72 = .ok (.getfield 10, 3) := by decide +kernel
theorem dX4_move_75 : decode cX4_move 75 = .ok (.aload 4, 2) := by decide +kernel
theorem dX4_move_77 : decode cX4_move 77 = .ok (.iload 5, 2) := by decide +kernel
theorem dX4_move_79 : decode cX4_move 79 = .ok (.aload_n 0, 1) := by decide +kernel
theorem dX4_move_80 : decode cX4_move 80 = .ok (.getfield 10, 3) := by decide +kernel
theorem dX4_move_83 : decode cX4_move 83 = .ok (.aload_n 3, 1) := by decide +kernel
theorem dX4_move_84 : decode cX4_move 84 = .ok (.iload 5, 2) := by decide +kernel
theorem dX4_move_86 : decode cX4_move 86 = .ok (.invokevirtual 113, 3) := by decide +kernel
theorem dX4_move_89 : decode cX4_move 89 = .ok (.invokevirtual 84, 3) := by decide +kernel
theorem dX4_move_92 : decode cX4_move 92 = .ok (.iinc 5 1, 3) := by decide +kernel
theorem dX4_move_95 : decode cX4_move 95 = .ok (.goto (-35), 3) := by decide +kernel
theorem dX4_move_98 : decode cX4_move 98 = .ok (.aload_n 0, 1) := by decide +kernel
theorem dX4_move_99 : decode cX4_move 99 = .ok (.getfield 10, 3) := by decide +kernel
theorem dX4_move_102 : decode cX4_move 102 = .ok (.aload_n 3, 1) := by decide +kernel
theorem dX4_move_103 : decode cX4_move 103 = .ok (.invokevirtual 117, 3) := by decide +kernel
theorem dX4_move_106 : decode cX4_move 106 = .ok (.aload_n 2, 1) := by decide +kernel
theorem dX4_move_107 : decode cX4_move 107 = .ok (.aload 4, 2) := by decide +kernel
theorem dX4_move_109 : decode cX4_move 109 = .ok (.putfield 73, 3) := by decide +kernel
theorem dX4_move_112 : decode cX4_move 112 = .ok (.aload_n 0, 1) := by decide +kernel
theorem dX4_move_113 : decode cX4_move 113 = .ok (.aload_n 3, 1) := by decide +kernel
theorem dX4_move_114 : decode cX4_move 114 = .ok (.putfield 33, 3) := by decide +kernel
theorem dX4_move_117 : decode cX4_move 117 = .ok (.aload_n 0, 1) := by decide +kernel
theorem dX4_move_118 : decode cX4_move 118 = .ok (.invokevirtual 91, 3) := by decide +kernel
theorem dX4_move_121 : decode cX4_move 121 = .ok (.aload 4, 2) := by decide +kernel
theorem dX4_move_123 : decode cX4_move 123 = .ok (.iconst 0, 1) := by decide +kernel
theorem dX4_move_124 : decode cX4_move 124 = .ok (.invokevirtual 104, 3) := by decide +kernel
theorem dX4_move_127 : decode cX4_move 127 = .ok (.ireturn, 1) := by decide +kernel
set_option maxRecDepth 20000 in
theorem ggX4_throwAway_X4_livingFile : GoodIn wsX4_throwAway wsX4_livingFile := goodIn_ca (goodIn_ca (goodIn_r _ [7, 8, 9, 10, 11, 12, 6, 13, 14, 15, 16, 17, 18, 19, 20, 21, 22, 23, 24, 25, 26, 27, 28, 29, 30, 31, 32, 33, 34, 35, 36, 37, 38, 39, 40, 41, 42, 43, 44, 45, 46, 103, 104, 105, 106, 107, 114, 115, 116, 108, 109, 110, 111, 112, 113] (by decide +kernel) (by decide +kernel)) (goodIn_sub (fun _ h => List.mem_cons_of_mem _ (List.mem_append_left _ (List.mem_append_right _ h))) (by decide +kernel))) (goodIn_sub (fun _ h => List.mem_cons_of_mem _ (List.mem_append_right _ h)) (by decide +kernel))
set_option maxRecDepth 20000 in
theorem gX4_throwAway_X4_livingFile : GoodIn wsX4_throwAway (wsV RX4 94 RX4 yX4_livingFile wsX4_livingFile) := goodIn_app (goodIn_of _ (by decide +kernel)) ggX4_throwAway_X4_livingFile
set_option maxRecDepth 20000 in
theorem ggX4_throwAway_X1_sumOf : GoodIn wsX4_throwAway wsX1_sumOf := goodIn_r _ [51, 52, 53, 54, 50, 55, 56, 57, 58, 59, 60, 61, 62, 63, 64, 65, 66, 67, 117, 118, 119, 120] (by decide +kernel) (by decide +kernel)
set_option maxRecDepth 20000 in
theorem gX4_throwAway_X1_sumOf : GoodIn wsX4_throwAway (wsV RX4 121 RX1 yX1_sumOf wsX1_sumOf) := goodIn_app (goodIn_of _ (by decide +kernel)) ggX4_throwAway_X1_sumOf
set_option maxRecDepth 20000 in
theorem ggX4_throwAway_X1_release : GoodIn wsX4_throwAway wsX1_release := goodIn_r _ [71, 72, 56, 57, 58, 59, 60, 61, 62, 117, 118, 119, 120] (by decide +kernel) (by decide +kernel)
set_option maxRecDepth 20000 in
theorem gX4_throwAway_X1_release : GoodIn wsX4_throwAway (wsV RX4 117 RX1 yX1_release wsX1_release) := goodIn_app (goodIn_of _ (by decide +kernel)) ggX4_throwAway_X1_release
set_option maxRecDepth 20000 in
theorem ggX4_throwAway_X4_readClaims : GoodIn wsX4_throwAway wsX4_readClaims := goodIn_r _ [76, 16, 17, 18, 19, 20, 21, 22, 23, 24, 25, 26, 27, 28, 29, 30, 31, 32, 33, 34, 35, 36, 37, 38, 39, 40, 41, 42, 43, 44, 45, 46, 77, 78, 79, 6, 80, 1, 81, 57, 58, 59, 60, 61, 62, 82, 83, 84, 85, 86, 87, 88, 50, 89, 72, 90, 91, 92, 93, 94, 95, 96, 97, 47, 48, 49, 51, 52, 53, 54, 55, 56, 63, 64, 65, 66, 67, 98, 103, 104, 105, 106, 107, 114, 115, 116, 108, 109, 110, 111, 112, 113, 117, 118, 119, 120] (by decide +kernel) (by decide +kernel)
set_option maxRecDepth 20000 in
theorem gX4_throwAway_X4_readClaims : GoodIn wsX4_throwAway (wsV RX4 91 RX4 yX4_readClaims wsX4_readClaims) := goodIn_app (goodIn_of _ (by decide +kernel)) ggX4_throwAway_X4_readClaims
set_option maxRecDepth 20000 in
theorem ggX4_throwAway_X1_countFree : GoodIn wsX4_throwAway wsX1_countFree := goodIn_r _ [102, 72, 119, 120] (by decide +kernel) (by decide +kernel)
set_option maxRecDepth 20000 in
theorem gX4_throwAway_X1_countFree : GoodIn wsX4_throwAway (wsV RX4 59 RX1 yX1_countFree wsX1_countFree) := goodIn_app (goodIn_of _ (by decide +kernel)) ggX4_throwAway_X1_countFree
theorem dX4_throwAway_0 : decode cX4_throwAway 0 = .ok (.aload_n 0, 1) := by decide +kernel
theorem dX4_throwAway_1 : decode cX4_throwAway 1 = .ok (.iload_n 1, 1) := by decide +kernel
theorem dX4_throwAway_2 : decode cX4_throwAway 2 = .ok (.invokevirtual 94, 3) := by decide +kernel
theorem dX4_throwAway_5 : decode cX4_throwAway 5 = .ok (.astore_n 2, 1) := by decide +kernel
theorem dX4_throwAway_6 : decode cX4_throwAway 6 = .ok (.aload_n 2, 1) := by decide +kernel
theorem dX4_throwAway_7 : decode cX4_throwAway 7 = .ok (.aload_n 0, 1) := by decide +kernel
theorem dX4_throwAway_8 : decode cX4_throwAway 8 = .ok (.getfield 10, 3) := by decide +kernel
theorem dX4_throwAway_11 : decode cX4_throwAway 11 = .ok (.aload_n 2, 1) := by decide +kernel
theorem dX4_throwAway_12 : decode cX4_throwAway 12 = .ok (.getfield 73, 3) := by decide +kernel
theorem dX4_throwAway_15 : decode cX4_throwAway 15 = .ok (.invokevirtual 121, 3) := by decide +kernel
theorem dX4_throwAway_18 : decode cX4_throwAway 18 = .ok (.putfield 125, 3) := by decide +kernel
theorem dX4_throwAway_21 : decode cX4_throwAway 21 = .ok (.aload_n 2, 1) := by decide +kernel
theorem dX4_throwAway_22 : decode cX4_throwAway 22 = .ok (.aload_n 0, 1) := by decide +kernel
theorem dX4_throwAway_23 : decode cX4_throwAway 23 = .ok (.getfield 37, 3) := by decide +kernel
theorem dX4_throwAway_26 : decode cX4_throwAway 26 = .ok (.putfield 128, 3) := by decide +kernel
theorem dX4_throwAway_29 : decode cX4_throwAway 29 = .ok (.aload_n 0, 1) := by decide +kernel
theorem dX4_throwAway_30 : decode cX4_throwAway 30 = .ok (.dup, 1) := by decide +kernel
theorem dX4_throwAway_31 : decode cX4_throwAway 31 = .ok (.getfield 37, 3) := by decide +kernel
theorem dX4_throwAway_34 : decode cX4_throwAway 34 = .ok (.iconst 1, 1) := by decide +kernel
theorem dX4_throwAway_35 : decode cX4_throwAway 35 = .ok (.iadd, 1) := by decide +kernel
theorem dX4_throwAway_36 : decode cX4_throwAway 36 = .ok (.putfield 37, 3) := by decide +kernel
theorem dX4_throwAway_39 : decode cX4_throwAway 39 = .ok (.aload_n 0, 1) := by decide +kernel
theorem dX4_throwAway_40 : decode cX4_throwAway 40 = .ok (.getfield 10, 3) := by decide +kernel
theorem dX4_throwAway_43 : decode cX4_throwAway 43 = .ok (.aload_n 2, 1) := by decide +kernel
theorem dX4_throwAway_44 : decode cX4_throwAway 44 = .ok (.getfield 73, 3) := by decide +kernel
theorem dX4_throwAway_47 : decode cX4_throwAway 47 = .ok (.invokevirtual 117, 3) := by decide +kernel
theorem dX4_throwAway_50 : decode cX4_throwAway 50 = .ok (.aload_n 0, 1) := by decide +kernel
theorem dX4_throwAway_51 : decode cX4_throwAway 51 = .ok (.invokevirtual 91, 3) := by decide +kernel
theorem dX4_throwAway_54 : decode cX4_throwAway 54 = .ok (.aload_n 0, 1) := by decide +kernel
theorem dX4_throwAway_55 : decode cX4_throwAway 55 = .ok (.getfield 10, 3) := by decide +kernel
theorem dX4_throwAway_58 : decode cX4_throwAway 58 = .ok (.invokevirtual 59, 3) := by decide +kernel
theorem dX4_throwAway_61 : decode cX4_throwAway 61 = .ok (.ireturn, 1) := by decide +kernel
set_option maxRecDepth 20000 in
theorem ggX4_files_Jx4a65c_size_8abf5 : GoodIn wsX4_files wsJx4a65c_size_8abf5 := goodIn_r _ [6, 7, 13, 14, 15] (by decide +kernel) (by decide +kernel)
set_option maxRecDepth 20000 in
theorem gX4_files_Jx4a65c_size_8abf5 : GoodIn wsX4_files (wsV RX4 50 RJx4a65c yJx4a65c_size_8abf5 wsJx4a65c_size_8abf5) := goodIn_app (goodIn_of _ (by decide +kernel)) ggX4_files_Jx4a65c_size_8abf5
theorem dX4_files_0 : decode cX4_files 0 = .ok (.aload_n 0, 1) := by decide +kernel
theorem dX4_files_1 : decode cX4_files 1 = .ok (.getfield 19, 3) := by decide +kernel
theorem dX4_files_4 : decode cX4_files 4 = .ok (.invokevirtual 50, 3) := by decide +kernel
theorem dX4_files_7 : decode cX4_files 7 = .ok (.ireturn, 1) := by decide +kernel
set_option maxRecDepth 20000 in
theorem ggX4_free_X1_countFree : GoodIn wsX4_free wsX1_countFree := goodIn_r _ [6, 7, 13, 14] (by decide +kernel) (by decide +kernel)
set_option maxRecDepth 20000 in
theorem gX4_free_X1_countFree : GoodIn wsX4_free (wsV RX4 59 RX1 yX1_countFree wsX1_countFree) := goodIn_app (goodIn_of _ (by decide +kernel)) ggX4_free_X1_countFree
theorem dX4_free_0 : decode cX4_free 0 = .ok (.aload_n 0, 1) := by decide +kernel
theorem dX4_free_1 : decode cX4_free 1 = .ok (.getfield 10, 3) := by decide +kernel
theorem dX4_free_4 : decode cX4_free 4 = .ok (.invokevirtual 59, 3) := by decide +kernel
theorem dX4_free_7 : decode cX4_free 7 = .ok (.ireturn, 1) := by decide +kernel
set_option maxRecDepth 20000 in
theorem ggX4_number_X4_requireCluster : GoodIn wsX4_number wsX4_requireCluster := goodIn_ca (goodIn_r _ [7, 8, 9] (by decide +kernel) (by decide +kernel)) (goodIn_sub (fun _ h => List.mem_cons_of_mem _ (List.mem_append_right _ h)) (by decide +kernel))
set_option maxRecDepth 20000 in
theorem gX4_number_X4_requireCluster : GoodIn wsX4_number (va_wsS RX4 131 yX4_requireCluster wsX4_requireCluster) := goodIn_app (goodIn_of _ (by decide +kernel)) ggX4_number_X4_requireCluster
set_option maxRecDepth 20000 in
theorem ggX4_number_X1_read : GoodIn wsX4_number wsX1_read := goodIn_r _ [14, 15, 21, 22] (by decide +kernel) (by decide +kernel)
set_option maxRecDepth 20000 in
theorem gX4_number_X1_read : GoodIn wsX4_number (wsV RX4 136 RX1 yX1_read wsX1_read) := goodIn_app (goodIn_of _ (by decide +kernel)) ggX4_number_X1_read
theorem dX4_number_0 : decode cX4_number 0 = .ok (.iload_n 1, 1) := by decide +kernel
theorem dX4_number_1 : decode cX4_number 1 = .ok (.invokestatic 131, 3) := by decide +kernel
theorem dX4_number_4 : decode cX4_number 4 = .ok (.iload_n 2, 1) := by decide +kernel
theorem dX4_number_5 : decode cX4_number 5 = .ok (.ifCond .lt 8, 3) := by decide +kernel
theorem dX4_number_8 : decode cX4_number 8 = .ok (.iload_n 2, 1) := by decide +kernel
theorem dX4_number_9 : decode cX4_number 9 = .ok (.iconst 4, 1) := by decide +kernel
theorem dX4_number_10 : decode cX4_number 10 = .ok (.if_icmp .lt 13, 3) := by decide +kernel
theorem dX4_number_13 : decode cX4_number 13 = .ok (.new 41, 3) := by decide +kernel
theorem dX4_number_16 : decode cX4_number 16 = .ok (.dup, 1) := by decide +kernel
theorem dX4_number_17 : decode cX4_number 17 = .ok (.ldc 134, 2) := by decide +kernel
theorem dX4_number_19 : decode cX4_number 19 = .ok (.invokespecial 45, 3) := by decide +kernel
theorem dX4_number_22 : decode cX4_number 22 = .ok (.athrow, 1) := by decide +kernel
theorem dX4_number_23 : decode cX4_number 23 = .ok (.aload_n 0, 1) := by decide +kernel
theorem dX4_number_24 : decode cX4_number 24 = .ok (.getfield 10, 3) := by decide +kernel
theorem dX4_number_27 : decode cX4_number 27 = .ok (.iload_n 1, 1) := by decide +kernel
theorem dX4_number_28 : decode cX4_number 28 = .ok (.iload_n 2, 1) := by decide +kernel
theorem dX4_number_29 : decode cX4_number 29 = .ok (.invokevirtual 136, 3) := by decide +kernel
theorem dX4_number_32 : decode cX4_number 32 = .ok (.ireturn, 1) := by decide +kernel
set_option maxRecDepth 20000 in
theorem ggX4_fileOf_X4_requireCluster : GoodIn wsX4_fileOf wsX4_requireCluster := goodIn_ca (goodIn_r _ [5, 6, 7] (by decide +kernel) (by decide +kernel)) (goodIn_sub (fun _ h => List.mem_cons_of_mem _ (List.mem_append_right _ h)) (by decide +kernel))
set_option maxRecDepth 20000 in
theorem gX4_fileOf_X4_requireCluster : GoodIn wsX4_fileOf (va_wsS RX4 131 yX4_requireCluster wsX4_requireCluster) := goodIn_app (goodIn_of _ (by decide +kernel)) ggX4_fileOf_X4_requireCluster
set_option maxRecDepth 20000 in
theorem ggX4_fileOf_X1_holderOf : GoodIn wsX4_fileOf wsX1_holderOf := goodIn_r _ [12, 13, 19, 20] (by decide +kernel) (by decide +kernel)
set_option maxRecDepth 20000 in
theorem gX4_fileOf_X1_holderOf : GoodIn wsX4_fileOf (wsV RX4 140 RX1 yX1_holderOf wsX1_holderOf) := goodIn_app (goodIn_of _ (by decide +kernel)) ggX4_fileOf_X1_holderOf
theorem dX4_fileOf_0 : decode cX4_fileOf 0 = .ok (.iload_n 1, 1) := by decide +kernel
theorem dX4_fileOf_1 : decode cX4_fileOf 1 = .ok (.invokestatic 131, 3) := by decide +kernel
theorem dX4_fileOf_4 : decode cX4_fileOf 4 = .ok (.aload_n 0, 1) := by decide +kernel
theorem dX4_fileOf_5 : decode cX4_fileOf 5 = .ok (.getfield 10, 3) := by decide +kernel
theorem dX4_fileOf_8 : decode cX4_fileOf 8 = .ok (.iload_n 1, 1) := by decide +kernel
theorem dX4_fileOf_9 : decode cX4_fileOf 9 = .ok (.invokevirtual 140, 3) := by decide +kernel
theorem dX4_fileOf_12 : decode cX4_fileOf 12 = .ok (.ireturn, 1) := by decide +kernel
set_option maxRecDepth 20000 in
theorem ggX4_clusters_X4_knownFile : GoodIn wsX4_clusters wsX4_knownFile := goodIn_ca (goodIn_r _ [5, 6, 7, 8, 9, 10, 11, 12, 13, 14, 15, 16, 17, 18, 19, 20, 21, 22, 23, 24, 25, 26, 27, 28, 29, 30, 31, 32, 41, 42, 43, 44, 45, 46, 47, 48] (by decide +kernel) (by decide +kernel)) (goodIn_sub (fun _ h => List.mem_cons_of_mem _ (List.mem_append_right _ h)) (by decide +kernel))
set_option maxRecDepth 20000 in
theorem gX4_clusters_X4_knownFile : GoodIn wsX4_clusters (wsV RX4 143 RX4 yX4_knownFile wsX4_knownFile) := goodIn_app (goodIn_of _ (by decide +kernel)) ggX4_clusters_X4_knownFile
theorem dX4_clusters_0 : decode cX4_clusters 0 = .ok (.aload_n 0, 1) := by decide +kernel
theorem dX4_clusters_1 : decode cX4_clusters 1 = .ok (.iload_n 1, 1) := by decide +kernel
theorem dX4_clusters_2 : decode cX4_clusters 2 = .ok (.invokevirtual 143, 3) := by decide +kernel
theorem dX4_clusters_5 : decode cX4_clusters 5 = .ok (.getfield 73, 3) := by decide +kernel
theorem dX4_clusters_8 : decode cX4_clusters 8 = .ok (.getfield 98, 3) := by decide +kernel
theorem dX4_clusters_11 : decode cX4_clusters 11 = .ok (.ireturn, 1) := by decide +kernel
set_option maxRecDepth 20000 in
theorem ggX4_clusterAt_X4_knownFile : GoodIn wsX4_clusterAt wsX4_knownFile := goodIn_ca (goodIn_r _ [5, 6, 7, 8, 9, 10, 11, 12, 13, 14, 15, 16, 17, 18, 19, 20, 21, 22, 23, 24, 25, 26, 27, 28, 29, 30, 31, 32, 63, 64, 65, 66, 67, 68, 69, 70] (by decide +kernel) (by decide +kernel)) (goodIn_sub (fun _ h => List.mem_cons_of_mem _ (List.mem_append_left _ (List.mem_append_left _ (List.mem_append_right _ h)))) (by decide +kernel))
set_option maxRecDepth 20000 in
theorem gX4_clusterAt_X4_knownFile : GoodIn wsX4_clusterAt (wsV RX4 143 RX4 yX4_knownFile wsX4_knownFile) := goodIn_app (goodIn_of _ (by decide +kernel)) ggX4_clusterAt_X4_knownFile
set_option maxRecDepth 20000 in
theorem ggX4_clusterAt_X4_requirePlaceInChain : GoodIn wsX4_clusterAt wsX4_requirePlaceInChain := goodIn_ca (goodIn_r _ [35, 36, 37, 57, 58, 59, 60, 61, 62, 71, 72] (by decide +kernel) (by decide +kernel)) (goodIn_sub (fun _ h => List.mem_cons_of_mem _ (List.mem_append_left _ (List.mem_append_right _ h))) (by decide +kernel))
set_option maxRecDepth 20000 in
theorem gX4_clusterAt_X4_requirePlaceInChain : GoodIn wsX4_clusterAt (va_wsS RX4 146 yX4_requirePlaceInChain wsX4_requirePlaceInChain) := goodIn_app (goodIn_of _ (by decide +kernel)) ggX4_clusterAt_X4_requirePlaceInChain
set_option maxRecDepth 20000 in
theorem ggX4_clusterAt_X4_livingFile : GoodIn wsX4_clusterAt wsX4_livingFile := goodIn_ca (goodIn_ca (goodIn_r _ [41, 42, 43, 1, 2, 3, 4, 5, 6, 7, 8, 9, 10, 11, 12, 13, 14, 15, 16, 17, 18, 19, 20, 21, 22, 23, 24, 25, 26, 27, 28, 29, 30, 31, 32, 44, 45, 46, 47, 48, 49, 63, 64, 65, 66, 67, 68, 69, 70, 57, 58, 59, 60, 61, 62] (by decide +kernel) (by decide +kernel)) (goodIn_sub (fun _ h => List.mem_cons_of_mem _ (List.mem_append_right _ h)) (by decide +kernel))) (goodIn_sub (fun _ h => List.mem_cons_of_mem _ (List.mem_append_left _ (List.mem_append_left _ (List.mem_append_right _ h)))) (by decide +kernel))
set_option maxRecDepth 20000 in
theorem gX4_clusterAt_X4_livingFile : GoodIn wsX4_clusterAt (wsV RX4 94 RX4 yX4_livingFile wsX4_livingFile) := goodIn_app (goodIn_of _ (by decide +kernel)) ggX4_clusterAt_X4_livingFile
set_option maxRecDepth 20000 in
theorem ggX4_clusterAt_X0_at : GoodIn wsX4_clusterAt wsX0_at := goodIn_r _ [54, 55, 56, 71, 72] (by decide +kernel) (by decide +kernel)
set_option maxRecDepth 20000 in
theorem gX4_clusterAt_X0_at : GoodIn wsX4_clusterAt (wsV RX4 104 RX0 yX0_at wsX0_at) := goodIn_app (goodIn_of _ (by decide +kernel)) ggX4_clusterAt_X0_at
theorem dX4_clusterAt_0 : decode cX4_clusterAt 0 = .ok (.aload_n 0, 1) := by decide +kernel
theorem dX4_clusterAt_1 : decode cX4_clusterAt 1 = .ok (.iload_n 1, 1) := by decide +kernel
theorem dX4_clusterAt_2 : decode cX4_clusterAt 2 = .ok (.invokevirtual 143, 3) := by decide +kernel
theorem dX4_clusterAt_5 : decode cX4_clusterAt 5 = .ok (.astore_n 3, 1) := by decide +kernel
theorem dX4_clusterAt_6 : decode cX4_clusterAt 6 = .ok (.aload_n 3, 1) := by decide +kernel
theorem dX4_clusterAt_7 : decode cX4_clusterAt 7 = .ok (.iload_n 2, 1) := by decide +kernel
theorem dX4_clusterAt_8 : decode cX4_clusterAt 8 = .ok (.invokestatic 146, 3) := by decide +kernel
theorem dX4_clusterAt_11 : decode cX4_clusterAt 11 = .ok (.aload_n 0, 1) := by decide +kernel
theorem dX4_clusterAt_12 : decode cX4_clusterAt 12 = .ok (.iload_n 1, 1) := by decide +kernel
theorem dX4_clusterAt_13 : decode cX4_clusterAt 13 = .ok (.invokevirtual 94, 3) := by decide +kernel
theorem dX4_clusterAt_16 : decode cX4_clusterAt 16 = .ok (.pop, 1) := by decide +kernel
theorem dX4_clusterAt_17 : decode cX4_clusterAt 17 = .ok (.aload_n 3, 1) := by decide +kernel
theorem dX4_clusterAt_18 : decode cX4_clusterAt 18 = .ok (.getfield 73, 3) := by decide +kernel
theorem dX4_clusterAt_21 : decode cX4_clusterAt 21 = .ok (.iload_n 2, 1) := by decide +kernel
theorem dX4_clusterAt_22 : decode cX4_clusterAt 22 = .ok (.invokevirtual 104, 3) := by decide +kernel
theorem dX4_clusterAt_25 : decode cX4_clusterAt 25 = .ok (.ireturn, 1) := by decide +kernel
set_option maxRecDepth 20000 in
theorem ggX4_checksum_X4_knownFile : GoodIn wsX4_checksum wsX4_knownFile := goodIn_ca (goodIn_r _ [6, 7, 8, 9, 10, 11, 12, 13, 14, 15, 16, 17, 18, 19, 20, 21, 22, 23, 24, 25, 26, 27, 28, 29, 30, 31, 32, 33, 67, 68, 69, 70, 71, 72, 73, 74] (by decide +kernel) (by decide +kernel)) (goodIn_sub (fun _ h => List.mem_cons_of_mem _ (List.mem_append_right _ h)) (by decide +kernel))
set_option maxRecDepth 20000 in
theorem gX4_checksum_X4_knownFile : GoodIn wsX4_checksum (wsV RX4 143 RX4 yX4_knownFile wsX4_knownFile) := goodIn_app (goodIn_of _ (by decide +kernel)) ggX4_checksum_X4_knownFile
set_option maxRecDepth 20000 in
theorem ggX4_checksum_X2_isThrown : GoodIn wsX4_checksum wsX2_isThrown := goodIn_r _ [38, 39, 61, 62, 63, 64, 65, 66] (by decide +kernel) (by decide +kernel)
set_option maxRecDepth 20000 in
theorem gX4_checksum_X2_isThrown : GoodIn wsX4_checksum (wsV RX4 149 RX2 yX2_isThrown wsX2_isThrown) := goodIn_app (goodIn_of _ (by decide +kernel)) ggX4_checksum_X2_isThrown
set_option maxRecDepth 20000 in
theorem ggX4_checksum_X1_sumOf : GoodIn wsX4_checksum wsX1_sumOf := goodIn_r _ [44, 45, 46, 47, 43, 48, 49, 50, 51, 52, 53, 54, 55, 56, 57, 58, 59, 60, 75, 76, 77, 78] (by decide +kernel) (by decide +kernel)
set_option maxRecDepth 20000 in
theorem gX4_checksum_X1_sumOf : GoodIn wsX4_checksum (wsV RX4 121 RX1 yX1_sumOf wsX1_sumOf) := goodIn_app (goodIn_of _ (by decide +kernel)) ggX4_checksum_X1_sumOf
theorem dX4_checksum_0 : decode cX4_checksum 0 = .ok (.aload_n 0, 1) := by decide +kernel
theorem dX4_checksum_1 : decode cX4_checksum 1 = .ok (.iload_n 1, 1) := by decide +kernel
theorem dX4_checksum_2 : decode cX4_checksum 2 = .ok (.invokevirtual 143, 3) := by decide +kernel
theorem dX4_checksum_5 : decode cX4_checksum 5 = .ok (.astore_n 2, 1) := by decide +kernel
theorem dX4_checksum_6 : decode cX4_checksum 6 = .ok (.aload_n 2, 1) := by decide +kernel
theorem dX4_checksum_7 : decode cX4_checksum 7 = .ok (.invokevirtual 149, 3) := by decide +kernel
theorem dX4_checksum_10 : decode cX4_checksum 10 = .ok (.ifCond .eq 10, 3) := by decide +kernel
theorem dX4_checksum_13 : decode cX4_checksum 13 = .ok (.aload_n 2, 1) := by decide +kernel
theorem dX4_checksum_14 : decode cX4_checksum 14 = .ok (.getfield 125, 3) := by decide +kernel
theorem dX4_checksum_17 : decode cX4_checksum 17 = .ok (.goto 14, 3) := by decide +kernel
theorem dX4_checksum_20 : decode cX4_checksum 20 = .ok (.aload_n 0, 1) := by decide +kernel
theorem dX4_checksum_21 : decode cX4_checksum 21 = .ok (.getfield 10, 3) := by decide +kernel
theorem dX4_checksum_24 : decode cX4_checksum 24 = .ok (.aload_n 2, 1) := by decide +kernel
theorem dX4_checksum_25 : decode cX4_checksum 25 = .ok (.getfield 73, 3) := by decide +kernel
theorem dX4_checksum_28 : decode cX4_checksum 28 = .ok (.invokevirtual 121, 3) := by decide +kernel
theorem dX4_checksum_31 : decode cX4_checksum 31 = .ok (.ireturn, 1) := by decide +kernel
set_option maxRecDepth 20000 in
theorem ggX4_claimed_X4_thrownFile : GoodIn wsX4_claimed wsX4_thrownFile := goodIn_ca (goodIn_ca (goodIn_r _ [5, 6, 7, 8, 9, 10, 4, 11, 12, 13, 14, 15, 16, 17, 18, 19, 20, 21, 22, 23, 24, 25, 26, 27, 28, 29, 30, 31, 32, 33, 34, 35, 36, 37, 38, 39, 40, 41, 42, 43, 44, 53, 54, 55, 56, 57, 58, 59, 60, 45, 46, 47, 48, 49, 50] (by decide +kernel) (by decide +kernel)) (goodIn_sub (fun _ h => List.mem_cons_of_mem _ (List.mem_append_left _ (List.mem_append_right _ h))) (by decide +kernel))) (goodIn_sub (fun _ h => List.mem_cons_of_mem _ (List.mem_append_right _ h)) (by decide +kernel))
set_option maxRecDepth 20000 in
theorem gX4_claimed_X4_thrownFile : GoodIn wsX4_claimed (wsV RX4 153 RX4 yX4_thrownFile wsX4_thrownFile) := goodIn_app (goodIn_of _ (by decide +kernel)) ggX4_claimed_X4_thrownFile
theorem dX4_claimed_0 : decode cX4_claimed 0 = .ok (.aload_n 0, 1) := by decide +kernel
theorem dX4_claimed_1 : decode cX4_claimed 1 = .ok (.iload_n 1, 1) := by decide +kernel
theorem dX4_claimed_2 : decode cX4_claimed 2 = .ok (.invokevirtual 153, 3) := by decide +kernel
theorem dX4_claimed_5 : decode cX4_claimed 5 = .ok (.getfield 156, 3) := by decide +kernel
theorem dX4_claimed_8 : decode cX4_claimed 8 = .ok (.getfield 98, 3) := by decide +kernel
theorem dX4_claimed_11 : decode cX4_claimed 11 = .ok (.ireturn, 1) := by decide +kernel
set_option maxRecDepth 20000 in
theorem ggX4_claimAt_X4_knownFile : GoodIn wsX4_claimAt wsX4_knownFile := goodIn_ca (goodIn_r _ [7, 8, 9, 10, 11, 12, 13, 14, 15, 16, 17, 18, 19, 20, 21, 22, 23, 24, 25, 26, 27, 28, 29, 30, 31, 32, 33, 34, 60, 61, 62, 63, 64, 65, 66, 67] (by decide +kernel) (by decide +kernel)) (goodIn_sub (fun _ h => List.mem_cons_of_mem _ (List.mem_append_left _ (List.mem_append_right _ h))) (by decide +kernel))
set_option maxRecDepth 20000 in
theorem gX4_claimAt_X4_knownFile : GoodIn wsX4_claimAt (wsV RX4 143 RX4 yX4_knownFile wsX4_knownFile) := goodIn_app (goodIn_of _ (by decide +kernel)) ggX4_claimAt_X4_knownFile
set_option maxRecDepth 20000 in
theorem ggX4_claimAt_X4_thrownFile : GoodIn wsX4_claimAt wsX4_thrownFile := goodIn_ca (goodIn_ca (goodIn_r _ [38, 39, 40, 3, 4, 5, 6, 7, 8, 9, 10, 11, 12, 13, 14, 15, 16, 17, 18, 19, 20, 21, 22, 23, 24, 25, 26, 27, 28, 29, 30, 31, 32, 33, 34, 41, 42, 43, 44, 45, 46, 60, 61, 62, 63, 64, 65, 66, 67, 54, 55, 56, 57, 58, 59] (by decide +kernel) (by decide +kernel)) (goodIn_sub (fun _ h => List.mem_cons_of_mem _ (List.mem_append_right _ h)) (by decide +kernel))) (goodIn_sub (fun _ h => List.mem_cons_of_mem _ (List.mem_append_left _ (List.mem_append_right _ h))) (by decide +kernel))
set_option maxRecDepth 20000 in
theorem gX4_claimAt_X4_thrownFile : GoodIn wsX4_claimAt (wsV RX4 153 RX4 yX4_thrownFile wsX4_thrownFile) := goodIn_app (goodIn_of _ (by decide +kernel)) ggX4_claimAt_X4_thrownFile
set_option maxRecDepth 20000 in
theorem ggX4_claimAt_X0_at : GoodIn wsX4_claimAt wsX0_at := goodIn_r _ [51, 52, 53, 68, 69] (by decide +kernel) (by decide +kernel)
set_option maxRecDepth 20000 in
theorem gX4_claimAt_X0_at : GoodIn wsX4_claimAt (wsV RX4 104 RX0 yX0_at wsX0_at) := goodIn_app (goodIn_of _ (by decide +kernel)) ggX4_claimAt_X0_at
theorem dX4_claimAt_0 : decode cX4_claimAt 0 = .ok (.aload_n 0, 1) := by decide +kernel
theorem dX4_claimAt_1 : decode cX4_claimAt 1 = .ok (.iload_n 1, 1) := by decide +kernel
theorem dX4_claimAt_2 : decode cX4_claimAt 2 = .ok (.invokevirtual 143, 3) := by decide +kernel
theorem dX4_claimAt_5 : decode cX4_claimAt 5 = .ok (.pop, 1) := by decide +kernel
theorem dX4_claimAt_6 : decode cX4_claimAt 6 = .ok (.iload_n 2, 1) := by decide +kernel
theorem dX4_claimAt_7 : decode cX4_claimAt 7 = .ok (.ifCond .lt 9, 3) := by decide +kernel
theorem dX4_claimAt_10 : decode cX4_claimAt 10 = .ok (.iload_n 2, 1) := by decide +kernel
theorem dX4_claimAt_11 : decode cX4_claimAt 11 = .ok (.bipush 8, 2) := by decide +kernel
theorem dX4_claimAt_13 : decode cX4_claimAt 13 = .ok (.if_icmp .lt 13, 3) := by decide +kernel
theorem dX4_claimAt_16 : decode cX4_claimAt 16 = .ok (.new 41, 3) := by decide +kernel
theorem dX4_claimAt_19 : decode cX4_claimAt 19 = .ok (.dup, 1) := by decide +kernel
theorem dX4_claimAt_20 : decode cX4_claimAt 20 = .ok (.ldc 159, 2) := by decide +kernel
theorem dX4_claimAt_22 : decode cX4_claimAt 22 = .ok (.invokespecial 45, 3) := by decide +kernel
theorem dX4_claimAt_25 : decode cX4_claimAt 25 = .ok (.athrow, 1) := by decide +kernel
theorem dX4_claimAt_26 : decode cX4_claimAt 26 = .ok (.aload_n 0, 1) := by decide +kernel
theorem dX4_claimAt_27 : decode cX4_claimAt 27 = .ok (.iload_n 1, 1) := by decide +kernel
theorem dX4_claimAt_28 : decode cX4_claimAt 28 = .ok (.invokevirtual 153, 3) := by decide +kernel
theorem dX4_claimAt_31 : decode cX4_claimAt 31 = .ok (.getfield 156, 3) := by decide +kernel
theorem dX4_claimAt_34 : decode cX4_claimAt 34 = .ok (.iload_n 2, 1) := by decide +kernel
theorem dX4_claimAt_35 : decode cX4_claimAt 35 = .ok (.invokevirtual 104, 3) := by decide +kernel
theorem dX4_claimAt_38 : decode cX4_claimAt 38 = .ok (.ireturn, 1) := by decide +kernel
set_option maxRecDepth 20000 in
theorem ggX4_confidence_X4_thrownFile : GoodIn wsX4_confidence wsX4_thrownFile := goodIn_ca (goodIn_ca (goodIn_r _ [5, 6, 7, 8, 9, 10, 4, 11, 12, 13, 14, 15, 16, 17, 18, 19, 20, 21, 22, 23, 24, 25, 26, 27, 28, 29, 30, 31, 32, 33, 34, 35, 36, 37, 38, 39, 40, 41, 42, 43, 44, 51, 52, 53, 54, 55, 56, 57, 58, 45, 46, 47, 48, 49, 50] (by decide +kernel) (by decide +kernel)) (goodIn_sub (fun _ h => List.mem_cons_of_mem _ (List.mem_append_left _ (List.mem_append_right _ h))) (by decide +kernel))) (goodIn_sub (fun _ h => List.mem_cons_of_mem _ (List.mem_append_right _ h)) (by decide +kernel))
set_option maxRecDepth 20000 in
theorem gX4_confidence_X4_thrownFile : GoodIn wsX4_confidence (wsV RX4 153 RX4 yX4_thrownFile wsX4_thrownFile) := goodIn_app (goodIn_of _ (by decide +kernel)) ggX4_confidence_X4_thrownFile
theorem dX4_confidence_0 : decode cX4_confidence 0 = .ok (.aload_n 0, 1) := by decide +kernel
theorem dX4_confidence_1 : decode cX4_confidence 1 = .ok (.iload_n 1, 1) := by decide +kernel
theorem dX4_confidence_2 : decode cX4_confidence 2 = .ok (.invokevirtual 153, 3) := by decide +kernel
theorem dX4_confidence_5 : decode cX4_confidence 5 = .ok (.getfield 161, 3) := by decide +kernel
theorem dX4_confidence_8 : decode cX4_confidence 8 = .ok (.ireturn, 1) := by decide +kernel
set_option maxRecDepth 20000 in
theorem ggX4_ownerOf_X4_requireCluster : GoodIn wsX4_ownerOf wsX4_requireCluster := goodIn_ca (goodIn_r _ [4, 5, 6] (by decide +kernel) (by decide +kernel)) (goodIn_sub (fun _ h => List.mem_cons_of_mem _ (List.mem_append_right _ h)) (by decide +kernel))
set_option maxRecDepth 20000 in
theorem gX4_ownerOf_X4_requireCluster : GoodIn wsX4_ownerOf (va_wsS RX4 131 yX4_requireCluster wsX4_requireCluster) := goodIn_app (goodIn_of _ (by decide +kernel)) ggX4_ownerOf_X4_requireCluster
set_option maxRecDepth 20000 in
theorem ggX4_ownerOf_X4_strongestClaimant : GoodIn wsX4_ownerOf wsX4_strongestClaimant := goodIn_r _ [10, 11, 12, 13, 14, 15, 16, 17, 18, 19, 20, 21, 22, 23, 24, 25, 26, 27, 28, 29, 30, 31, 32, 33, 34, 35, 36, 37, 38, 39, 40, 41, 42, 43, 44, 45, 46, 47, 48, 49, 50, 51, 52, 53, 54, 55, 56, 57, 58, 59, 60, 61, 62, 63, 64, 65, 66, 67, 68] (by decide +kernel) (by decide +kernel)
set_option maxRecDepth 20000 in
theorem gX4_ownerOf_X4_strongestClaimant : GoodIn wsX4_ownerOf (wsV RX4 164 RX4 yX4_strongestClaimant wsX4_strongestClaimant) := goodIn_app (goodIn_of _ (by decide +kernel)) ggX4_ownerOf_X4_strongestClaimant
theorem dX4_ownerOf_0 : decode cX4_ownerOf 0 = .ok (.iload_n 1, 1) := by decide +kernel
theorem dX4_ownerOf_1 : decode cX4_ownerOf 1 = .ok (.invokestatic 131, 3) := by decide +kernel
theorem dX4_ownerOf_4 : decode cX4_ownerOf 4 = .ok (.aload_n 0, 1) := by decide +kernel
theorem dX4_ownerOf_5 : decode cX4_ownerOf 5 = .ok (.iload_n 1, 1) := by decide +kernel
theorem dX4_ownerOf_6 : decode cX4_ownerOf 6 = .ok (.invokevirtual 164, 3) := by decide +kernel
theorem dX4_ownerOf_9 : decode cX4_ownerOf 9 = .ok (.ireturn, 1) := by decide +kernel
set_option maxRecDepth 20000 in
theorem ggX4_owned_X4_thrownFile : GoodIn wsX4_owned wsX4_thrownFile := goodIn_ca (goodIn_ca (goodIn_r _ [5, 6, 7, 8, 9, 10, 4, 11, 12, 13, 14, 15, 16, 17, 18, 19, 20, 21, 22, 23, 24, 25, 26, 27, 28, 29, 30, 31, 32, 33, 34, 35, 36, 37, 38, 39, 40, 41, 42, 43, 44, 69, 70, 71, 72, 73, 74, 75, 76, 61, 62, 63, 64, 65, 66] (by decide +kernel) (by decide +kernel)) (goodIn_sub (fun _ h => List.mem_cons_of_mem _ (List.mem_append_left _ (List.mem_append_right _ h))) (by decide +kernel))) (goodIn_sub (fun _ h => List.mem_cons_of_mem _ (List.mem_append_right _ h)) (by decide +kernel))
set_option maxRecDepth 20000 in
theorem gX4_owned_X4_thrownFile : GoodIn wsX4_owned (wsV RX4 153 RX4 yX4_thrownFile wsX4_thrownFile) := goodIn_app (goodIn_of _ (by decide +kernel)) ggX4_owned_X4_thrownFile
set_option maxRecDepth 20000 in
theorem ggX4_owned_X0_at : GoodIn wsX4_owned wsX0_at := goodIn_r _ [49, 50, 51, 67, 68] (by decide +kernel) (by decide +kernel)
set_option maxRecDepth 20000 in
theorem gX4_owned_X0_at : GoodIn wsX4_owned (wsV RX4 104 RX0 yX0_at wsX0_at) := goodIn_app (goodIn_of _ (by decide +kernel)) ggX4_owned_X0_at
set_option maxRecDepth 20000 in
theorem ggX4_owned_X4_strongestClaimant : GoodIn wsX4_owned wsX4_strongestClaimant := goodIn_r _ [55, 14, 15, 16, 17, 18, 19, 20, 21, 22, 23, 24, 25, 26, 27, 28, 29, 30, 31, 32, 33, 34, 35, 36, 37, 38, 39, 40, 41, 42, 43, 44, 56, 57, 58, 48, 59, 50, 60, 46, 47, 49, 51, 69, 70, 71, 72, 73, 61, 62, 63, 64, 65, 66, 74, 75, 76, 67, 68] (by decide +kernel) (by decide +kernel)
set_option maxRecDepth 20000 in
theorem gX4_owned_X4_strongestClaimant : GoodIn wsX4_owned (wsV RX4 164 RX4 yX4_strongestClaimant wsX4_strongestClaimant) := goodIn_app (goodIn_of _ (by decide +kernel)) ggX4_owned_X4_strongestClaimant
theorem dX4_owned_0 : decode cX4_owned 0 = .ok (.aload_n 0, 1) := by decide +kernel
theorem dX4_owned_1 : decode cX4_owned 1 = .ok (.iload_n 1, 1) := by decide +kernel
theorem dX4_owned_2 : decode cX4_owned 2 = .ok (.invokevirtual 153, 3) := by decide +kernel
theorem dX4_owned_5 : decode cX4_owned 5 = .ok (.getfield 156, 3) := by decide +kernel
theorem dX4_owned_8 : decode cX4_owned 8 = .ok (.astore_n 2, 1) := by decide +kernel
theorem dX4_owned_9 : decode cX4_owned 9 = .ok (.iconst 0, 1) := by decide +kernel
theorem dX4_owned_10 : decode cX4_owned 10 = .ok (.istore_n 3, 1) := by decide +kernel
theorem dX4_owned_11 : decode cX4_owned 11 = .ok (.iconst 0, 1) := by decide +kernel
theorem dX4_owned_12 : decode cX4_owned 12 = .ok (.istore 4, 2) := by decide +kernel
theorem dX4_owned_14 : decode cX4_owned 14 = .ok (.iload 4, 2) := by decide +kernel
theorem dX4_owned_16 : decode cX4_owned 16 = .ok (.aload_n 2, 1) := by decide +kernel
theorem dX4_owned_17 : decode cX4_owned 17 = .ok (.getfield 98, 3) := by decide +kernel
theorem dX4_owned_20 : decode cX4_owned 20 = .ok (.if_icmp .ge 26, 3) := by decide +kernel
theorem dX4_owned_23 : decode cX4_owned 23 = .ok (.aload_n 0, 1) := by decide +kernel
theorem dX4_owned_24 : decode cX4_owned 24 = .ok (.aload_n 2, 1) := by decide +kernel
theorem dX4_owned_25 : decode cX4_owned 25 = .ok (.iload 4, 2) := by decide +kernel
theorem dX4_owned_27 : decode cX4_owned 27 = .ok (.invokevirtual 104, 3) := by decide +kernel
theorem dX4_owned_30 : decode cX4_owned 30 = .ok (.invokevirtual 164, 3) := by decide +kernel
theorem dX4_owned_33 : decode cX4_owned 33 = .ok (.iload_n 1, 1) := by decide +kernel
theorem dX4_owned_34 : decode cX4_owned 34 = .ok (.if_icmp .ne 6, 3) := by decide +kernel
theorem dX4_owned_37 : decode cX4_owned 37 = .ok (.iinc 3 1, 3) := by decide +kernel
theorem dX4_owned_40 : decode cX4_owned 40 = .ok (.iinc 4 1, 3) := by decide +kernel
theorem dX4_owned_43 : decode cX4_owned 43 = .ok (.goto (-29), 3) := by decide +kernel
theorem dX4_owned_46 : decode cX4_owned 46 = .ok (.iload_n 3, 1) := by decide +kernel
theorem dX4_owned_47 : decode cX4_owned 47 = .ok (.ireturn, 1) := by decide +kernel
set_option maxRecDepth 20000 in
theorem ggX4_sure_Jx4a65c_size_8abf5 : GoodIn wsX4_sure wsJx4a65c_size_8abf5 := goodIn_r _ [7, 8, 43, 44, 45] (by decide +kernel) (by decide +kernel)
set_option maxRecDepth 20000 in
theorem gX4_sure_Jx4a65c_size_8abf5 : GoodIn wsX4_sure (wsV RX4 50 RJx4a65c yJx4a65c_size_8abf5 wsJx4a65c_size_8abf5) := goodIn_app (goodIn_of _ (by decide +kernel)) ggX4_sure_Jx4a65c_size_8abf5
set_option maxRecDepth 20000 in
theorem ggX4_sure_Jx4a65c_get_915e3 : GoodIn wsX4_sure wsJx4a65c_get_915e3 := goodIn_r _ [12, 8, 13, 14, 15, 16, 17, 18, 19, 20, 21, 22, 23, 6, 24, 25, 43, 44, 45] (by decide +kernel) (by decide +kernel)
set_option maxRecDepth 20000 in
theorem gX4_sure_Jx4a65c_get_915e3 : GoodIn wsX4_sure (wsV RX4 167 RJx4a65c yJx4a65c_get_915e3 wsJx4a65c_get_915e3) := goodIn_app (goodIn_of _ (by decide +kernel)) ggX4_sure_Jx4a65c_get_915e3
set_option maxRecDepth 20000 in
theorem ggX4_sure_X2_isThrown : GoodIn wsX4_sure wsX2_isThrown := goodIn_r _ [30, 31, 37, 38, 39, 40, 41, 42] (by decide +kernel) (by decide +kernel)
set_option maxRecDepth 20000 in
theorem gX4_sure_X2_isThrown : GoodIn wsX4_sure (wsV RX4 149 RX2 yX2_isThrown wsX2_isThrown) := goodIn_app (goodIn_of _ (by decide +kernel)) ggX4_sure_X2_isThrown
theorem dX4_sure_0 : decode cX4_sure 0 = .ok (.iconst 0, 1) := by decide +kernel
theorem dX4_sure_1 : decode cX4_sure 1 = .ok (.istore_n 1, 1) := by decide +kernel
theorem dX4_sure_2 : decode cX4_sure 2 = .ok (.iconst 0, 1) := by decide +kernel
theorem dX4_sure_3 : decode cX4_sure 3 = .ok (.istore_n 2, 1) := by decide +kernel
theorem dX4_sure_4 : decode cX4_sure 4 = .ok (.iload_n 2, 1) := by decide +kernel
theorem dX4_sure_5 : decode cX4_sure 5 = .ok (.aload_n 0, 1) := by decide +kernel
theorem dX4_sure_6 : decode cX4_sure 6 = .ok (.getfield 19, 3) := by decide +kernel
theorem dX4_sure_9 : decode cX4_sure 9 = .ok (.invokevirtual 50, 3) := by decide +kernel
theorem dX4_sure_12 : decode cX4_sure 12 = .ok (.if_icmp .ge 39, 3) := by decide +kernel
theorem dX4_sure_15 : decode cX4_sure 15 = .ok (.aload_n 0, 1) := by decide +kernel
theorem dX4_sure_16 : decode cX4_sure 16 = .ok (.getfield 19, 3) := by decide +kernel
theorem dX4_sure_19 : decode cX4_sure 19 = .ok (.iload_n 2, 1) := by decide +kernel
theorem dX4_sure_20 : decode cX4_sure 20 = .ok (.invokevirtual 167, 3) := by decide +kernel
theorem dX4_sure_23 : decode cX4_sure 23 = .ok (.checkcast 64, 3) := by decide +kernel
theorem dX4_sure_26 : decode cX4_sure 26 = .ok (.astore_n 3, 1) := by decide +kernel
theorem dX4_sure_27 : decode cX4_sure 27 = .ok (.aload_n 3, 1) := by decide +kernel
theorem dX4_sure_28 : decode cX4_sure 28 = .ok (.invokevirtual 149, 3) := by decide +kernel
theorem dX4_sure_31 : decode cX4_sure 31 = .ok (.ifCond .eq 14, 3) := by decide +kernel
theorem dX4_sure_34 : decode cX4_sure 34 = .ok (.aload_n 3, 1) := by decide +kernel
theorem dX4_sure_35 : decode cX4_sure 35 = .ok (.getfield 161, 3) := by decide +kernel
theorem dX4_sure_38 : decode cX4_sure 38 = .ok (.iconst 3, 1) := by decide +kernel
theorem dX4_sure_39 : decode cX4_sure 39 = .ok (.if_icmp .ne 6, 3) := by decide +kernel
theorem dX4_sure_42 : decode cX4_sure 42 = .ok (.iinc 1 1, 3) := by decide +kernel
theorem dX4_sure_45 : decode cX4_sure 45 = .ok (.iinc 2 1, 3) := by decide +kernel
theorem dX4_sure_48 : decode cX4_sure 48 = .ok (.goto (-44), 3) := by decide +kernel
theorem dX4_sure_51 : decode cX4_sure 51 = .ok (.iload_n 1, 1) := by decide +kernel
theorem dX4_sure_52 : decode cX4_sure 52 = .ok (.ireturn, 1) := by decide +kernel
set_option maxRecDepth 20000 in
theorem ggX4_hasJoin_X4_thrownFile : GoodIn wsX4_hasJoin wsX4_thrownFile := goodIn_ca (goodIn_ca (goodIn_r _ [7, 8, 9, 10, 11, 12, 6, 13, 14, 15, 16, 17, 18, 19, 20, 21, 22, 23, 24, 25, 26, 27, 28, 29, 30, 31, 32, 33, 34, 35, 36, 37, 38, 39, 40, 41, 42, 43, 44, 45, 46, 90, 91, 92, 93, 94, 95, 96, 97, 98, 99, 100, 101, 102, 103] (by decide +kernel) (by decide +kernel)) (goodIn_sub (fun _ h => List.mem_cons_of_mem _ (List.mem_append_left _ (List.mem_append_right _ h))) (by decide +kernel))) (goodIn_sub (fun _ h => List.mem_cons_of_mem _ (List.mem_append_right _ h)) (by decide +kernel))
set_option maxRecDepth 20000 in
theorem gX4_hasJoin_X4_thrownFile : GoodIn wsX4_hasJoin (wsV RX4 153 RX4 yX4_thrownFile wsX4_thrownFile) := goodIn_app (goodIn_of _ (by decide +kernel)) ggX4_hasJoin_X4_thrownFile
set_option maxRecDepth 20000 in
theorem ggX4_hasJoin_X3_find : GoodIn wsX4_hasJoin wsX3_find := goodIn_r _ [51, 52, 53, 54, 55, 56, 57, 58, 59, 60, 61, 62, 63, 64, 65, 66, 67, 68, 69, 70, 50, 71, 72, 73, 74, 75, 76, 77, 78, 79, 80, 81, 82, 83, 84, 85, 86, 87, 88, 89, 98, 99, 100, 101, 102, 103, 104, 105, 106, 107, 108, 109, 110, 111, 112, 113, 114, 115] (by decide +kernel) (by decide +kernel)
set_option maxRecDepth 20000 in
theorem gX4_hasJoin_X3_find : GoodIn wsX4_hasJoin (wsV RX4 171 RX3 yX3_find wsX3_find) := goodIn_app (goodIn_of _ (by decide +kernel)) ggX4_hasJoin_X3_find
theorem dX4_hasJoin_0 : decode cX4_hasJoin 0 = .ok (.aload_n 0, 1) := by decide +kernel
theorem dX4_hasJoin_1 : decode cX4_hasJoin 1 = .ok (.getfield 26, 3) := by decide +kernel
theorem dX4_hasJoin_4 : decode cX4_hasJoin 4 = .ok (.aload_n 0, 1) := by decide +kernel
theorem dX4_hasJoin_5 : decode cX4_hasJoin 5 = .ok (.getfield 10, 3) := by decide +kernel
theorem dX4_hasJoin_8 : decode cX4_hasJoin 8 = .ok (.aload_n 0, 1) := by decide +kernel
theorem dX4_hasJoin_9 : decode cX4_hasJoin 9 = .ok (.iload_n 1, 1) := by decide +kernel
theorem dX4_hasJoin_10 : decode cX4_hasJoin 10 = .ok (.invokevirtual 153, 3) := by decide +kernel
theorem dX4_hasJoin_13 : decode cX4_hasJoin 13 = .ok (.invokevirtual 171, 3) := by decide +kernel
theorem dX4_hasJoin_16 : decode cX4_hasJoin 16 = .ok (.ireturn, 1) := by decide +kernel
set_option maxRecDepth 20000 in
theorem ggX4_joinAt_X4_knownFile : GoodIn wsX4_joinAt wsX4_knownFile := goodIn_ca (goodIn_r _ [9, 10, 11, 12, 13, 14, 15, 16, 17, 18, 19, 20, 21, 22, 23, 24, 25, 26, 27, 28, 29, 30, 31, 32, 33, 34, 35, 36, 99, 100, 101, 102, 103, 104, 105, 106] (by decide +kernel) (by decide +kernel)) (goodIn_sub (fun _ h => List.mem_cons_of_mem _ (List.mem_append_left _ (List.mem_append_right _ h))) (by decide +kernel))
set_option maxRecDepth 20000 in
theorem gX4_joinAt_X4_knownFile : GoodIn wsX4_joinAt (wsV RX4 143 RX4 yX4_knownFile wsX4_knownFile) := goodIn_app (goodIn_of _ (by decide +kernel)) ggX4_joinAt_X4_knownFile
set_option maxRecDepth 20000 in
theorem ggX4_joinAt_X4_requirePlaceInChain : GoodIn wsX4_joinAt wsX4_requirePlaceInChain := goodIn_ca (goodIn_r _ [39, 40, 41, 107, 108, 109, 110, 111, 112, 113, 114] (by decide +kernel) (by decide +kernel)) (goodIn_sub (fun _ h => List.mem_cons_of_mem _ (List.mem_append_right _ h)) (by decide +kernel))
set_option maxRecDepth 20000 in
theorem gX4_joinAt_X4_requirePlaceInChain : GoodIn wsX4_joinAt (va_wsS RX4 146 yX4_requirePlaceInChain wsX4_requirePlaceInChain) := goodIn_app (goodIn_of _ (by decide +kernel)) ggX4_joinAt_X4_requirePlaceInChain
set_option maxRecDepth 20000 in
theorem ggX4_joinAt_X4_thrownFile : GoodIn wsX4_joinAt wsX4_thrownFile := goodIn_ca (goodIn_ca (goodIn_r _ [45, 1, 2, 5, 6, 7, 8, 9, 10, 11, 12, 13, 14, 15, 16, 17, 18, 19, 20, 21, 22, 23, 24, 25, 26, 27, 28, 29, 30, 31, 32, 33, 34, 35, 36, 46, 47, 48, 49, 50, 51, 99, 100, 101, 102, 103, 104, 105, 106, 107, 108, 109, 110, 111, 112] (by decide +kernel) (by decide +kernel)) (goodIn_sub (fun _ h => List.mem_cons_of_mem _ (List.mem_append_left _ (List.mem_append_left _ (List.mem_append_right _ h)))) (by decide +kernel))) (goodIn_sub (fun _ h => List.mem_cons_of_mem _ (List.mem_append_left _ (List.mem_append_right _ h))) (by decide +kernel))
set_option maxRecDepth 20000 in
theorem gX4_joinAt_X4_thrownFile : GoodIn wsX4_joinAt (wsV RX4 153 RX4 yX4_thrownFile wsX4_thrownFile) := goodIn_app (goodIn_of _ (by decide +kernel)) ggX4_joinAt_X4_thrownFile
set_option maxRecDepth 20000 in
theorem ggX4_joinAt_X3_find : GoodIn wsX4_joinAt wsX3_find := goodIn_r _ [56, 57, 58, 59, 60, 61, 62, 63, 64, 65, 66, 67, 68, 69, 70, 71, 72, 73, 74, 75, 55, 76, 77, 78, 79, 80, 81, 82, 83, 84, 85, 86, 87, 88, 89, 90, 91, 92, 93, 94, 107, 108, 109, 110, 111, 112, 113, 114, 115, 116, 117, 118, 119, 120, 121, 122, 123, 124] (by decide +kernel) (by decide +kernel)
set_option maxRecDepth 20000 in
theorem gX4_joinAt_X3_find : GoodIn wsX4_joinAt (wsV RX4 171 RX3 yX3_find wsX3_find) := goodIn_app (goodIn_of _ (by decide +kernel)) ggX4_joinAt_X3_find
set_option maxRecDepth 20000 in
theorem ggX4_joinAt_X3_clusterFoundAt : GoodIn wsX4_joinAt wsX3_clusterFoundAt := goodIn_r _ [98, 90, 115, 116, 117, 118, 119, 120, 121, 122] (by decide +kernel) (by decide +kernel)
set_option maxRecDepth 20000 in
theorem gX4_joinAt_X3_clusterFoundAt : GoodIn wsX4_joinAt (wsV RX4 177 RX3 yX3_clusterFoundAt wsX3_clusterFoundAt) := goodIn_app (goodIn_of _ (by decide +kernel)) ggX4_joinAt_X3_clusterFoundAt
theorem dX4_joinAt_0 : decode cX4_joinAt 0 = .ok (.aload_n 0, 1) := by decide +kernel
theorem dX4_joinAt_1 : decode cX4_joinAt 1 = .ok (.iload_n 1, 1) := by decide +kernel
theorem dX4_joinAt_2 : decode cX4_joinAt 2 = .ok (.invokevirtual 143, 3) := by decide +kernel
theorem dX4_joinAt_5 : decode cX4_joinAt 5 = .ok (.iload_n 2, 1) := by decide +kernel
theorem dX4_joinAt_6 : decode cX4_joinAt 6 = .ok (.invokestatic 146, 3) := by decide +kernel
theorem dX4_joinAt_9 : decode cX4_joinAt 9 = .ok (.aload_n 0, 1) := by decide +kernel
theorem dX4_joinAt_10 : decode cX4_joinAt 10 = .ok (.getfield 26, 3) := by decide +kernel
theorem dX4_joinAt_13 : decode cX4_joinAt 13 = .ok (.aload_n 0, 1) := by decide +kernel
theorem dX4_joinAt_14 : decode cX4_joinAt 14 = .ok (.getfield 10, 3) := by decide +kernel
theorem dX4_joinAt_17 : decode cX4_joinAt 17 = .ok (.aload_n 0, 1) := by decide +kernel
theorem dX4_joinAt_18 : decode cX4_joinAt 18 = .ok (.iload_n 1, 1) := by decide +kernel
theorem dX4_joinAt_19 : decode cX4_joinAt 19 = .ok (.invokevirtual 153, 3) := by decide +kernel
theorem dX4_joinAt_22 : decode cX4_joinAt 22 = .ok (.invokevirtual 171, 3) := by decide +kernel
theorem dX4_joinAt_25 : decode cX4_joinAt 25 = .ok (.ifCond .ne 13, 3) := by decide +kernel
theorem dX4_joinAt_28 : decode cX4_joinAt 28 = .ok (.new 54, 3) := by decide +kernel
theorem dX4_joinAt_31 : decode cX4_joinAt 31 = .ok (.dup, 1) := by decide +kernel
theorem dX4_joinAt_32 : decode cX4_joinAt 32 = .ok (.ldc 175, 2) := by decide +kernel
theorem dX4_joinAt_34 : decode cX4_joinAt 34 = .ok (.invokespecial 58, 3) := by decide +kernel
theorem dX4_joinAt_37 : decode cX4_joinAt 37 = .ok (.athrow, 1) := by decide +kernel
theorem dX4_joinAt_38 : decode cX4_joinAt 38 = .ok (.aload_n 0, 1) := by decide +kernel
theorem dX4_joinAt_39 : decode cX4_joinAt 39 = .ok (.getfield 26, 3) := by decide +kernel
theorem dX4_joinAt_42 : decode cX4_joinAt 42 = .ok (.iload_n 2, 1) := by decide +kernel
theorem dX4_joinAt_43 : decode cX4_joinAt 43 = .ok (.invokevirtual 177, 3) := by decide +kernel
theorem dX4_joinAt_46 : decode cX4_joinAt 46 = .ok (.ireturn, 1) := by decide +kernel
set_option maxRecDepth 20000 in
theorem ggX4_knownFile_Jx4a65c_size_8abf5 : GoodIn wsX4_knownFile wsJx4a65c_size_8abf5 := goodIn_r _ [9, 10, 33, 34, 35] (by decide +kernel) (by decide +kernel)
set_option maxRecDepth 20000 in
theorem gX4_knownFile_Jx4a65c_size_8abf5 : GoodIn wsX4_knownFile (wsV RX4 50 RJx4a65c yJx4a65c_size_8abf5 wsJx4a65c_size_8abf5) := goodIn_app (goodIn_of _ (by decide +kernel)) ggX4_knownFile_Jx4a65c_size_8abf5
set_option maxRecDepth 20000 in
theorem ggX4_knownFile_Jx4a65c_get_915e3 : GoodIn wsX4_knownFile wsJx4a65c_get_915e3 := goodIn_r _ [14, 10, 15, 16, 17, 18, 19, 20, 21, 22, 23, 24, 25, 8, 26, 27, 33, 34, 35] (by decide +kernel) (by decide +kernel)
set_option maxRecDepth 20000 in
theorem gX4_knownFile_Jx4a65c_get_915e3 : GoodIn wsX4_knownFile (wsV RX4 167 RJx4a65c yJx4a65c_get_915e3 wsJx4a65c_get_915e3) := goodIn_app (goodIn_of _ (by decide +kernel)) ggX4_knownFile_Jx4a65c_get_915e3
theorem dX4_knownFile_0 : decode cX4_knownFile 0 = .ok (.iload_n 1, 1) := by decide +kernel
theorem dX4_knownFile_1 : decode cX4_knownFile 1 = .ok (.ifCond .lt 14, 3) := by decide +kernel
theorem dX4_knownFile_4 : decode cX4_knownFile 4 = .ok (.iload_n 1, 1) := by decide +kernel
theorem dX4_knownFile_5 : decode cX4_knownFile 5 = .ok (.aload_n 0, 1) := by decide +kernel
theorem dX4_knownFile_6 : decode cX4_knownFile 6 = .ok (.getfield 19, 3) := by decide +kernel
theorem dX4_knownFile_9 : decode cX4_knownFile 9 = .ok (.invokevirtual 50, 3) := by decide +kernel
theorem dX4_knownFile_12 : decode cX4_knownFile 12 = .ok (.if_icmp .lt 13, 3) := by decide +kernel
theorem dX4_knownFile_15 : decode cX4_knownFile 15 = .ok (.new 180, 3) := by decide +kernel
theorem dX4_knownFile_18 : decode cX4_knownFile 18 = .ok (.dup, 1) := by decide +kernel
theorem dX4_knownFile_19 : decode cX4_knownFile 19 = .ok (.ldc 182, 2) := by decide +kernel
theorem dX4_knownFile_21 : decode cX4_knownFile 21 = .ok (.invokespecial 184, 3) := by decide +kernel
theorem dX4_knownFile_24 : decode cX4_knownFile 24 = .ok (.athrow, 1) := by decide +kernel
theorem dX4_knownFile_25 : decode cX4_knownFile 25 = .ok (.aload_n 0, 1) := by decide +kernel
theorem dX4_knownFile_26 : decode cX4_knownFile 26 = .ok (.getfield 19, 3) := by decide +kernel
theorem dX4_knownFile_29 : decode cX4_knownFile 29 = .ok (.iload_n 1, 1) := by decide +kernel
theorem dX4_knownFile_30 : decode cX4_knownFile 30 = .ok (.invokevirtual 167, 3) := by decide +kernel
theorem dX4_knownFile_33 : decode cX4_knownFile 33 = .ok (.checkcast 64, 3) := by decide +kernel
theorem dX4_knownFile_36 : decode cX4_knownFile 36 = .ok (.areturn, 1) := by decide +kernel
set_option maxRecDepth 20000 in
theorem ggX4_livingFile_X4_knownFile : GoodIn wsX4_livingFile wsX4_knownFile := goodIn_ca (goodIn_r _ [7, 8, 9, 10, 11, 12, 13, 14, 15, 16, 17, 18, 19, 20, 21, 22, 23, 24, 25, 26, 27, 28, 29, 30, 31, 32, 33, 34, 41, 42, 43, 44, 45, 46, 47, 48] (by decide +kernel) (by decide +kernel)) (goodIn_sub (fun _ h => List.mem_cons_of_mem _ (List.mem_append_right _ h)) (by decide +kernel))
set_option maxRecDepth 20000 in
theorem gX4_livingFile_X4_knownFile : GoodIn wsX4_livingFile (wsV RX4 143 RX4 yX4_knownFile wsX4_knownFile) := goodIn_app (goodIn_of _ (by decide +kernel)) ggX4_livingFile_X4_knownFile
set_option maxRecDepth 20000 in
theorem ggX4_livingFile_X2_isThrown : GoodIn wsX4_livingFile wsX2_isThrown := goodIn_r _ [39, 40, 49, 50, 51, 52, 53, 54] (by decide +kernel) (by decide +kernel)
set_option maxRecDepth 20000 in
theorem gX4_livingFile_X2_isThrown : GoodIn wsX4_livingFile (wsV RX4 149 RX2 yX2_isThrown wsX2_isThrown) := goodIn_app (goodIn_of _ (by decide +kernel)) ggX4_livingFile_X2_isThrown
theorem dX4_livingFile_0 : decode cX4_livingFile 0 = .ok (.aload_n 0, 1) := by decide +kernel
theorem dX4_livingFile_1 : decode cX4_livingFile 1 = .ok (.iload_n 1, 1) := by decide +kernel
theorem dX4_livingFile_2 : decode cX4_livingFile 2 = .ok (.invokevirtual 143, 3) := by decide +kernel
theorem dX4_livingFile_5 : decode cX4_livingFile 5 = .ok (.astore_n 2, 1) := by decide +kernel
theorem dX4_livingFile_6 : decode cX4_livingFile 6 = .ok (.aload_n 2, 1) := by decide +kernel
theorem dX4_livingFile_7 : decode cX4_livingFile 7 = .ok (.invokevirtual 149, 3) := by decide +kernel
theorem dX4_livingFile_10 : decode cX4_livingFile 10 = .ok (.ifCond .eq 13, 3) := by decide +kernel
theorem dX4_livingFile_13 : decode cX4_livingFile 13 = .ok (.new 54, 3) := by decide +kernel
theorem dX4_livingFile_16 : decode cX4_livingFile 16 = .ok (.dup, 1) := by decide +kernel
theorem dX4_livingFile_17 : decode cX4_livingFile 17 = .ok (.ldc 185, 2) := by decide +kernel
theorem dX4_livingFile_19 : decode cX4_livingFile 19 = .ok (.invokespecial 58, 3) := by decide +kernel
theorem dX4_livingFile_22 : decode cX4_livingFile 22 = .ok (.athrow, 1) := by decide +kernel
theorem dX4_livingFile_23 : decode cX4_livingFile 23 = .ok (.aload_n 2, 1) := by decide +kernel
theorem dX4_livingFile_24 : decode cX4_livingFile 24 = .ok (.areturn, 1) := by decide +kernel
set_option maxRecDepth 20000 in
theorem ggX4_thrownFile_X4_knownFile : GoodIn wsX4_thrownFile wsX4_knownFile := goodIn_ca (goodIn_r _ [7, 8, 9, 10, 11, 12, 13, 14, 15, 16, 17, 18, 19, 20, 21, 22, 23, 24, 25, 26, 27, 28, 29, 30, 31, 32, 33, 34, 41, 42, 43, 44, 45, 46, 47, 48] (by decide +kernel) (by decide +kernel)) (goodIn_sub (fun _ h => List.mem_cons_of_mem _ (List.mem_append_right _ h)) (by decide +kernel))
set_option maxRecDepth 20000 in
theorem gX4_thrownFile_X4_knownFile : GoodIn wsX4_thrownFile (wsV RX4 143 RX4 yX4_knownFile wsX4_knownFile) := goodIn_app (goodIn_of _ (by decide +kernel)) ggX4_thrownFile_X4_knownFile
set_option maxRecDepth 20000 in
theorem ggX4_thrownFile_X2_isThrown : GoodIn wsX4_thrownFile wsX2_isThrown := goodIn_r _ [39, 40, 49, 50, 51, 52, 53, 54] (by decide +kernel) (by decide +kernel)
set_option maxRecDepth 20000 in
theorem gX4_thrownFile_X2_isThrown : GoodIn wsX4_thrownFile (wsV RX4 149 RX2 yX2_isThrown wsX2_isThrown) := goodIn_app (goodIn_of _ (by decide +kernel)) ggX4_thrownFile_X2_isThrown
theorem dX4_thrownFile_0 : decode cX4_thrownFile 0 = .ok (.aload_n 0, 1) := by decide +kernel
theorem dX4_thrownFile_1 : decode cX4_thrownFile 1 = .ok (.iload_n 1, 1) := by decide +kernel
theorem dX4_thrownFile_2 : decode cX4_thrownFile 2 = .ok (.invokevirtual 143, 3) := by decide +kernel
theorem dX4_thrownFile_5 : decode cX4_thrownFile 5 = .ok (.astore_n 2, 1) := by decide +kernel
theorem dX4_thrownFile_6 : decode cX4_thrownFile 6 = .ok (.aload_n 2, 1) := by decide +kernel
theorem dX4_thrownFile_7 : decode cX4_thrownFile 7 = .ok (.invokevirtual 149, 3) := by decide +kernel
theorem dX4_thrownFile_10 : decode cX4_thrownFile 10 = .ok (.ifCond .ne 13, 3) := by decide +kernel
theorem dX4_thrownFile_13 : decode cX4_thrownFile 13 = .ok (.new 54, 3) := by decide +kernel
theorem dX4_thrownFile_16 : decode cX4_thrownFile 16 = .ok (.dup, 1) := by decide +kernel
theorem dX4_thrownFile_17 : decode cX4_thrownFile 17 = .ok (.ldc 187, 2) := by decide +kernel
theorem dX4_thrownFile_19 : decode cX4_thrownFile 19 = .ok (.invokespecial 58, 3) := by decide +kernel
theorem dX4_thrownFile_22 : decode cX4_thrownFile 22 = .ok (.athrow, 1) := by decide +kernel
theorem dX4_thrownFile_23 : decode cX4_thrownFile 23 = .ok (.aload_n 2, 1) := by decide +kernel
theorem dX4_thrownFile_24 : decode cX4_thrownFile 24 = .ok (.areturn, 1) := by decide +kernel
theorem dX4_requireCluster_0 : decode cX4_requireCluster 0 = .ok (.iload_n 0, 1) := by decide +kernel
theorem dX4_requireCluster_1 : decode cX4_requireCluster 1 = .ok (.ifCond .lt 9, 3) := by decide +kernel
theorem dX4_requireCluster_4 : decode cX4_requireCluster 4 = .ok (.iload_n 0, 1) := by decide +kernel
theorem dX4_requireCluster_5 : decode cX4_requireCluster 5 = .ok (.bipush 40, 2) := by decide +kernel
theorem dX4_requireCluster_7 : decode cX4_requireCluster 7 = .ok (.if_icmp .lt 13, 3) := by decide +kernel
theorem dX4_requireCluster_10 : decode cX4_requireCluster 10 = .ok (.new 180, 3) := by decide +kernel
theorem dX4_requireCluster_13 : decode cX4_requireCluster 13 = .ok (.dup, 1) := by decide +kernel
theorem dX4_requireCluster_14 : decode cX4_requireCluster 14 = .ok (.ldc 189, 2) := by decide +kernel
theorem dX4_requireCluster_16 : decode cX4_requireCluster 16 = .ok (.invokespecial 184, 3) := by decide +kernel
theorem dX4_requireCluster_19 : decode cX4_requireCluster 19 = .ok (.athrow, 1) := by decide +kernel
theorem dX4_requireCluster_20 : decode cX4_requireCluster 20 = .ok (.return_, 1) := by decide +kernel
theorem dX4_requirePlaceInChain_0 : decode cX4_requirePlaceInChain 0 = .ok (.iload_n 1, 1) := by decide +kernel
theorem dX4_requirePlaceInChain_1 : decode cX4_requirePlaceInChain 1 = .ok (.ifCond .lt 14, 3) := by decide +kernel
theorem dX4_requirePlaceInChain_4 : decode cX4_requirePlaceInChain 4 = .ok (.iload_n 1, 1) := by decide +kernel
theorem dX4_requirePlaceInChain_5 : decode cX4_requirePlaceInChain 5 = .ok (.aload_n 0, 1) := by decide +kernel
theorem dX4_requirePlaceInChain_6 : decode cX4_requirePlaceInChain 6 = .ok (.getfield 73, 3) := by decide +kernel
theorem dX4_requirePlaceInChain_9 : decode cX4_requirePlaceInChain 9 = .ok (.getfield 98, 3) := by decide +kernel
theorem dX4_requirePlaceInChain_12 : decode cX4_requirePlaceInChain 12 = .ok (.if_icmp .lt 13, 3) := by decide +kernel
theorem dX4_requirePlaceInChain_15 : decode cX4_requirePlaceInChain 15 = .ok (.new 41, 3) := by decide +kernel
theorem dX4_requirePlaceInChain_18 : decode cX4_requirePlaceInChain 18 = .ok (.dup, 1) := by decide +kernel
theorem dX4_requirePlaceInChain_19 : decode cX4_requirePlaceInChain 19 = .ok (.ldc 191, 2) := by decide +kernel
theorem dX4_requirePlaceInChain_21 : decode cX4_requirePlaceInChain 21 = .ok (.invokespecial 45, 3) := by decide +kernel
theorem dX4_requirePlaceInChain_24 : decode cX4_requirePlaceInChain 24 = .ok (.athrow, 1) := by decide +kernel
theorem dX4_requirePlaceInChain_25 : decode cX4_requirePlaceInChain 25 = .ok (.return_, 1) := by decide +kernel
theorem dX4_lastPlace_0 : decode cX4_lastPlace 0 = .ok (.aload_n 0, 1) := by decide +kernel
theorem dX4_lastPlace_1 : decode cX4_lastPlace 1 = .ok (.getfield 73, 3) := by decide +kernel
theorem dX4_lastPlace_4 : decode cX4_lastPlace 4 = .ok (.getfield 98, 3) := by decide +kernel
theorem dX4_lastPlace_7 : decode cX4_lastPlace 7 = .ok (.iconst 4, 1) := by decide +kernel
theorem dX4_lastPlace_8 : decode cX4_lastPlace 8 = .ok (.imul, 1) := by decide +kernel
theorem dX4_lastPlace_9 : decode cX4_lastPlace 9 = .ok (.iconst 1, 1) := by decide +kernel
theorem dX4_lastPlace_10 : decode cX4_lastPlace 10 = .ok (.isub, 1) := by decide +kernel
theorem dX4_lastPlace_11 : decode cX4_lastPlace 11 = .ok (.ireturn, 1) := by decide +kernel
set_option maxRecDepth 20000 in
theorem ggX4_takeClusters_X1_takeLowest : GoodIn wsX4_takeClusters wsX1_takeLowest := goodIn_r _ [6, 7, 20, 21] (by decide +kernel) (by decide +kernel)
set_option maxRecDepth 20000 in
theorem gX4_takeClusters_X1_takeLowest : GoodIn wsX4_takeClusters (wsV RX4 193 RX1 yX1_takeLowest wsX1_takeLowest) := goodIn_app (goodIn_of _ (by decide +kernel)) ggX4_takeClusters_X1_takeLowest
set_option maxRecDepth 20000 in
theorem ggX4_takeClusters_X0_add : GoodIn wsX4_takeClusters wsX0_add := goodIn_r _ [12, 13, 14, 22, 23] (by decide +kernel) (by decide +kernel)
set_option maxRecDepth 20000 in
theorem gX4_takeClusters_X0_add : GoodIn wsX4_takeClusters (wsV RX4 196 RX0 yX0_add wsX0_add) := goodIn_app (goodIn_of _ (by decide +kernel)) ggX4_takeClusters_X0_add
theorem dX4_takeClusters_0 : decode cX4_takeClusters 0 = .ok (.iconst 0, 1) := by decide +kernel
theorem dX4_takeClusters_1 : decode cX4_takeClusters 1 = .ok (.istore 4, 2) := by decide +kernel
theorem dX4_takeClusters_3 : decode cX4_takeClusters 3 = .ok (.iload 4, 2) := by decide +kernel
theorem dX4_takeClusters_5 : decode cX4_takeClusters 5 = .ok (.iload_n 2, 1) := by decide +kernel
theorem dX4_takeClusters_6 : decode cX4_takeClusters 6 = .ok (.if_icmp .ge 21, 3) := by decide +kernel
theorem dX4_takeClusters_9 : decode cX4_takeClusters 9 = .ok (.aload_n 1, 1) := by decide +kernel
theorem dX4_takeClusters_10 : decode cX4_takeClusters 10 = .ok (.aload_n 0, 1) := by decide +kernel
theorem dX4_takeClusters_11 : decode cX4_takeClusters 11 = .ok (.getfield 10, 3) := by decide +kernel
theorem dX4_takeClusters_14 : decode cX4_takeClusters 14 = .ok (.iload_n 3, 1) := by decide +kernel
theorem dX4_takeClusters_15 : decode cX4_takeClusters 15 = .ok (.invokevirtual 193, 3) := by decide +kernel
theorem dX4_takeClusters_18 : decode cX4_takeClusters 18 = .ok (.invokevirtual 196, 3) := by decide +kernel
theorem dX4_takeClusters_21 : decode cX4_takeClusters 21 = .ok (.iinc 4 1, 3) := by decide +kernel
theorem dX4_takeClusters_24 : decode cX4_takeClusters 24 = .ok (.goto (-21), 3) := by decide +kernel
theorem dX4_takeClusters_27 : decode cX4_takeClusters 27 = .ok (.return_, 1) := by decide +kernel
set_option maxRecDepth 20000 in
theorem ggX4_writeByRule_X4_lastPlace : GoodIn wsX4_writeByRule wsX4_lastPlace := goodIn_r _ [5, 30, 31, 32, 33, 34, 35, 36, 37] (by decide +kernel) (by decide +kernel)
set_option maxRecDepth 20000 in
theorem gX4_writeByRule_X4_lastPlace : GoodIn wsX4_writeByRule (va_wsS RX4 87 yX4_lastPlace wsX4_lastPlace) := goodIn_app (goodIn_of _ (by decide +kernel)) ggX4_writeByRule_X4_lastPlace
set_option maxRecDepth 20000 in
theorem ggX4_writeByRule_X2_numberByRule : GoodIn wsX4_writeByRule wsX2_numberByRule := goodIn_r _ [10, 11, 30, 31, 32, 33, 34, 35] (by decide +kernel) (by decide +kernel)
set_option maxRecDepth 20000 in
theorem gX4_writeByRule_X2_numberByRule : GoodIn wsX4_writeByRule (wsV RX4 198 RX2 yX2_numberByRule wsX2_numberByRule) := goodIn_app (goodIn_of _ (by decide +kernel)) ggX4_writeByRule_X2_numberByRule
set_option maxRecDepth 20000 in
theorem ggX4_writeByRule_X1_writeAlong : GoodIn wsX4_writeByRule wsX1_writeAlong := goodIn_r _ [16, 17, 18, 19, 20, 21, 22, 23, 24, 38, 39, 36, 37] (by decide +kernel) (by decide +kernel)
set_option maxRecDepth 20000 in
theorem gX4_writeByRule_X1_writeAlong : GoodIn wsX4_writeByRule (wsV RX4 84 RX1 yX1_writeAlong wsX1_writeAlong) := goodIn_app (goodIn_of _ (by decide +kernel)) ggX4_writeByRule_X1_writeAlong
theorem dX4_writeByRule_0 : decode cX4_writeByRule 0 = .ok (.iload_n 2, 1) := by decide +kernel
theorem dX4_writeByRule_1 : decode cX4_writeByRule 1 = .ok (.istore_n 3, 1) := by decide +kernel
theorem dX4_writeByRule_2 : decode cX4_writeByRule 2 = .ok (.iload_n 3, 1) := by decide +kernel
theorem dX4_writeByRule_3 : decode cX4_writeByRule 3 = .ok (.aload_n 1, 1) := by decide +kernel
theorem dX4_writeByRule_4 : decode cX4_writeByRule 4 = .ok (.invokestatic 87, 3) := by decide +kernel
theorem dX4_writeByRule_7 : decode cX4_writeByRule 7 = .ok (.if_icmp .gt 26, 3) := by decide +kernel
theorem dX4_writeByRule_10 : decode cX4_writeByRule 10 = .ok (.aload_n 0, 1) := by decide +kernel
theorem dX4_writeByRule_11 : decode cX4_writeByRule 11 = .ok (.getfield 10, 3) := by decide +kernel
theorem dX4_writeByRule_14 : decode cX4_writeByRule 14 = .ok (.aload_n 1, 1) := by decide +kernel
theorem dX4_writeByRule_15 : decode cX4_writeByRule 15 = .ok (.getfield 73, 3) := by decide +kernel
theorem dX4_writeByRule_18 : decode cX4_writeByRule 18 = .ok (.iload_n 3, 1) := by decide +kernel
theorem dX4_writeByRule_19 : decode cX4_writeByRule 19 = .ok (.aload_n 1, 1) := by decide +kernel
theorem dX4_writeByRule_20 : decode cX4_writeByRule 20 = .ok (.iload_n 3, 1) := by decide +kernel
theorem dX4_writeByRule_21 : decode cX4_writeByRule 21 = .ok (.invokevirtual 198, 3) := by decide +kernel
theorem dX4_writeByRule_24 : decode cX4_writeByRule 24 = .ok (.invokevirtual 84, 3) := by decide +kernel
theorem dX4_writeByRule_27 : decode cX4_writeByRule 27 = .ok (.iinc 3 1, 3) := by decide +kernel
theorem dX4_writeByRule_30 : decode cX4_writeByRule 30 = .ok (.goto (-28), 3) := by decide +kernel
theorem dX4_writeByRule_33 : decode cX4_writeByRule 33 = .ok (.return_, 1) := by decide +kernel
set_option maxRecDepth 20000 in
theorem ggX4_readClaims_Jx4a65c_size_8abf5 : GoodIn wsX4_readClaims wsJx4a65c_size_8abf5 := goodIn_r _ [7, 8, 83, 84, 85] (by decide +kernel) (by decide +kernel)
set_option maxRecDepth 20000 in
theorem gX4_readClaims_Jx4a65c_size_8abf5 : GoodIn wsX4_readClaims (wsV RX4 50 RJx4a65c yJx4a65c_size_8abf5 wsJx4a65c_size_8abf5) := goodIn_app (goodIn_of _ (by decide +kernel)) ggX4_readClaims_Jx4a65c_size_8abf5
set_option maxRecDepth 20000 in
theorem ggX4_readClaims_Jx4a65c_get_915e3 : GoodIn wsX4_readClaims wsJx4a65c_get_915e3 := goodIn_r _ [12, 8, 13, 14, 15, 16, 17, 18, 19, 20, 21, 22, 23, 6, 24, 25, 83, 84, 85] (by decide +kernel) (by decide +kernel)
set_option maxRecDepth 20000 in
theorem gX4_readClaims_Jx4a65c_get_915e3 : GoodIn wsX4_readClaims (wsV RX4 167 RJx4a65c yJx4a65c_get_915e3 wsJx4a65c_get_915e3) := goodIn_app (goodIn_of _ (by decide +kernel)) ggX4_readClaims_Jx4a65c_get_915e3
set_option maxRecDepth 20000 in
theorem ggX4_readClaims_X2_isThrown : GoodIn wsX4_readClaims wsX2_isThrown := goodIn_r _ [30, 31, 86, 87, 88, 89, 90, 91] (by decide +kernel) (by decide +kernel)
set_option maxRecDepth 20000 in
theorem gX4_readClaims_X2_isThrown : GoodIn wsX4_readClaims (wsV RX4 149 RX2 yX2_isThrown wsX2_isThrown) := goodIn_app (goodIn_of _ (by decide +kernel)) ggX4_readClaims_X2_isThrown
set_option maxRecDepth 20000 in
theorem ggX4_readClaims_X4_readClaim : GoodIn wsX4_readClaims wsX4_readClaim := goodIn_r _ [36, 37, 38, 39, 40, 41, 42, 43, 44, 45, 46, 47, 48, 49, 50, 51, 52, 53, 54, 55, 56, 57, 58, 59, 60, 61, 35, 62, 63, 64, 65, 66, 67, 68, 69, 70, 71, 72, 73, 74, 75, 76, 77, 86, 87, 88, 89, 90, 91, 92, 93, 78, 79, 80, 81, 82, 94, 95] (by decide +kernel) (by decide +kernel)
set_option maxRecDepth 20000 in
theorem gX4_readClaims_X4_readClaim : GoodIn wsX4_readClaims (wsV RX4 201 RX4 yX4_readClaim wsX4_readClaim) := goodIn_app (goodIn_of _ (by decide +kernel)) ggX4_readClaims_X4_readClaim
theorem dX4_readClaims_0 : decode cX4_readClaims 0 = .ok (.iconst 0, 1) := by decide +kernel
theorem dX4_readClaims_1 : decode cX4_readClaims 1 = .ok (.istore_n 1, 1) := by decide +kernel
theorem dX4_readClaims_2 : decode cX4_readClaims 2 = .ok (.iload_n 1, 1) := by decide +kernel
theorem dX4_readClaims_3 : decode cX4_readClaims 3 = .ok (.aload_n 0, 1) := by decide +kernel
theorem dX4_readClaims_4 : decode cX4_readClaims 4 = .ok (.getfield 19, 3) := by decide +kernel
theorem dX4_readClaims_7 : decode cX4_readClaims 7 = .ok (.invokevirtual 50, 3) := by decide +kernel
theorem dX4_readClaims_10 : decode cX4_readClaims 10 = .ok (.if_icmp .ge 33, 3) := by decide +kernel
theorem dX4_readClaims_13 : decode cX4_readClaims 13 = .ok (.aload_n 0, 1) := by decide +kernel
theorem dX4_readClaims_14 : decode cX4_readClaims 14 = .ok (.getfield 19, 3) := by decide +kernel
theorem dX4_readClaims_17 : decode cX4_readClaims 17 = .ok (.iload_n 1, 1) := by decide +kernel
theorem dX4_readClaims_18 : decode cX4_readClaims 18 = .ok (.invokevirtual 167, 3) := by decide +kernel
theorem dX4_readClaims_21 : decode cX4_readClaims 21 = .ok (.checkcast 64, 3) := by decide +kernel
theorem dX4_readClaims_24 : decode cX4_readClaims 24 = .ok (.astore_n 2, 1) := by decide +kernel
theorem dX4_readClaims_25 : decode cX4_readClaims 25 = .ok (.aload_n 2, 1) := by decide +kernel
theorem dX4_readClaims_26 : decode cX4_readClaims 26 = .ok (.invokevirtual 149, 3) := by decide +kernel
theorem dX4_readClaims_29 : decode cX4_readClaims 29 = .ok (.ifCond .eq 8, 3) := by decide +kernel
theorem dX4_readClaims_32 : decode cX4_readClaims 32 = .ok (.aload_n 0, 1) := by decide +kernel
theorem dX4_readClaims_33 : decode cX4_readClaims 33 = .ok (.aload_n 2, 1) := by decide +kernel
theorem dX4_readClaims_34 : decode cX4_readClaims 34 = .ok (.invokevirtual 201, 3) := by decide +kernel
theorem dX4_readClaims_37 : decode cX4_readClaims 37 = .ok (.iinc 1 1, 3) := by decide +kernel
theorem dX4_readClaims_40 : decode cX4_readClaims 40 = .ok (.goto (-38), 3) := by decide +kernel
theorem dX4_readClaims_43 : decode cX4_readClaims 43 = .ok (.return_, 1) := by decide +kernel
set_option maxRecDepth 20000 in
theorem ggX4_readClaim_X0_at : GoodIn wsX4_readClaim wsX0_at := goodIn_r _ [6, 7, 8, 49, 50] (by decide +kernel) (by decide +kernel)
set_option maxRecDepth 20000 in
theorem gX4_readClaim_X0_at : GoodIn wsX4_readClaim (wsV RX4 104 RX0 yX0_at wsX0_at) := goodIn_app (goodIn_of _ (by decide +kernel)) ggX4_readClaim_X0_at
set_option maxRecDepth 20000 in
theorem ggX4_readClaim_X0_clear : GoodIn wsX4_readClaim wsX0_clear := goodIn_r _ [12, 7, 49, 50] (by decide +kernel) (by decide +kernel)
set_option maxRecDepth 20000 in
theorem gX4_readClaim_X0_clear : GoodIn wsX4_readClaim (wsV RX4 110 RX0 yX0_clear wsX0_clear) := goodIn_app (goodIn_of _ (by decide +kernel)) ggX4_readClaim_X0_clear
set_option maxRecDepth 20000 in
theorem ggX4_readClaim_X1_isFree : GoodIn wsX4_readClaim wsX1_isFree := goodIn_r _ [17, 18, 56, 57] (by decide +kernel) (by decide +kernel)
set_option maxRecDepth 20000 in
theorem gX4_readClaim_X1_isFree : GoodIn wsX4_readClaim (wsV RX4 205 RX1 yX1_isFree wsX1_isFree) := goodIn_app (goodIn_of _ (by decide +kernel)) ggX4_readClaim_X1_isFree
set_option maxRecDepth 20000 in
theorem ggX4_readClaim_X0_add : GoodIn wsX4_readClaim wsX0_add := goodIn_r _ [22, 7, 8, 49, 50] (by decide +kernel) (by decide +kernel)
set_option maxRecDepth 20000 in
theorem gX4_readClaim_X0_add : GoodIn wsX4_readClaim (wsV RX4 196 RX0 yX0_add wsX0_add) := goodIn_app (goodIn_of _ (by decide +kernel)) ggX4_readClaim_X0_add
set_option maxRecDepth 20000 in
theorem ggX4_readClaim_X4_trustIn : GoodIn wsX4_readClaim wsX4_trustIn := goodIn_r _ [27, 1, 28, 29, 30, 16, 31, 32, 33, 34, 35, 36, 3, 4, 5, 6, 7, 8, 37, 38, 39, 40, 41, 42, 43, 44, 45, 46, 47, 48, 49, 50, 51, 52, 53, 54, 55, 56, 57] (by decide +kernel) (by decide +kernel)
set_option maxRecDepth 20000 in
theorem gX4_readClaim_X4_trustIn : GoodIn wsX4_readClaim (wsV RX4 209 RX4 yX4_trustIn wsX4_trustIn) := goodIn_app (goodIn_of _ (by decide +kernel)) ggX4_readClaim_X4_trustIn
theorem dX4_readClaim_0 : decode cX4_readClaim 0 = .ok (.aload_n 1, 1) := by decide +kernel
theorem dX4_readClaim_1 : decode cX4_readClaim 1 = .ok (.getfield 73, 3) := by decide +kernel
theorem dX4_readClaim_4 : decode cX4_readClaim 4 = .ok (.iconst 0, 1) := by decide +kernel
theorem dX4_readClaim_5 : decode cX4_readClaim 5 = .ok (.invokevirtual 104, 3) := by decide +kernel
theorem dX4_readClaim_8 : decode cX4_readClaim 8 = .ok (.istore_n 2, 1) := by decide +kernel
theorem dX4_readClaim_9 : decode cX4_readClaim 9 = .ok (.aload_n 1, 1) := by decide +kernel
theorem dX4_readClaim_10 : decode cX4_readClaim 10 = .ok (.getfield 73, 3) := by decide +kernel
theorem dX4_readClaim_13 : decode cX4_readClaim 13 = .ok (.getfield 98, 3) := by decide +kernel
theorem dX4_readClaim_16 : decode cX4_readClaim 16 = .ok (.istore_n 3, 1) := by decide +kernel
theorem dX4_readClaim_17 : decode cX4_readClaim 17 = .ok (.aload_n 1, 1) := by decide +kernel
theorem dX4_readClaim_18 : decode cX4_readClaim 18 = .ok (.getfield 156, 3) := by decide +kernel
theorem dX4_readClaim_21 : decode cX4_readClaim 21 = .ok (.invokevirtual 110, 3) := by decide +kernel
theorem dX4_readClaim_24 : decode cX4_readClaim 24 = .ok (.aload_n 0, 1) := by decide +kernel
theorem dX4_readClaim_25 : decode cX4_readClaim 25 = .ok (.getfield 10, 3) := by decide +kernel
theorem dX4_readClaim_28 : decode cX4_readClaim 28 = .ok (.iload_n 2, 1) := by decide +kernel
theorem dX4_readClaim_29 : decode cX4_readClaim 29 = .ok (.invokevirtual 205, 3) := by decide +kernel
theorem dX4_readClaim_32 : decode cX4_readClaim 32 = .ok (.ifCond .eq 51, 3) := by decide +kernel
theorem dX4_readClaim_35 : decode cX4_readClaim 35 = .ok (.iload_n 2, 1) := by decide +kernel
theorem dX4_readClaim_36 : decode cX4_readClaim 36 = .ok (.istore 4, 2) := by decide +kernel
theorem dX4_readClaim_38 : decode cX4_readClaim 38 = .ok (.iload 4, 2) := by decide +kernel
theorem dX4_readClaim_40 : decode cX4_readClaim 40 = .ok (.bipush 40, 2) := by decide +kernel
theorem dX4_readClaim_42 : decode cX4_readClaim 42 = .ok (.if_icmp .ge 41, 3) := by decide +kernel
theorem dX4_readClaim_45 : decode cX4_readClaim 45 = .ok (.aload_n 1, 1) := by decide +kernel
theorem dX4_readClaim_46 : decode cX4_readClaim 46 = .ok (.getfield 156, 3) := by decide +kernel
theorem dX4_readClaim_49 : decode cX4_readClaim 49 = .ok (.getfield 98, 3) := by decide +kernel
theorem dX4_readClaim_52 : decode cX4_readClaim 52 = .ok (.iload_n 3, 1) := by decide +kernel
theorem dX4_readClaim_53 : decode cX4_readClaim 53 = .ok (.if_icmp .ge 30, 3) := by decide +kernel
theorem dX4_readClaim_56 : decode cX4_readClaim 56 = .ok (.aload_n 0, 1) := by decide +kernel
theorem dX4_readClaim_57 : decode cX4_readClaim 57 = .ok (.getfield 10, 3) := by decide +kernel
theorem dX4_readClaim_60 : decode cX4_readClaim 60 = .ok (.iload 4, 2) := by decide +kernel
theorem dX4_readClaim_62 : decode cX4_readClaim 62 = .ok (.invokevirtual 205, 3) := by decide +kernel
theorem dX4_readClaim_65 : decode cX4_readClaim 65 = .ok (.ifCond .eq 12, 3) := by decide +kernel
theorem dX4_readClaim_68 : decode cX4_readClaim 68 = .ok (.aload_n 1, 1) := by decide +kernel
theorem dX4_readClaim_69 : decode cX4_readClaim 69 = .ok (.getfield 156, 3) := by decide +kernel
theorem dX4_readClaim_72 : decode cX4_readClaim 72 = .ok (.iload 4, 2) := by decide +kernel
theorem dX4_readClaim_74 : decode cX4_readClaim 74 = .ok (.invokevirtual 196, 3) := by decide +kernel
theorem dX4_readClaim_77 : decode cX4_readClaim 77 = .ok (.iinc 4 1, 3) := by decide +kernel
theorem dX4_readClaim_80 : decode cX4_readClaim 80 = .ok (.goto (-42), 3) := by decide +kernel
theorem dX4_readClaim_83 : decode cX4_readClaim 83 = .ok (.aload_n 1, 1) := by decide +kernel
theorem dX4_readClaim_84 : decode cX4_readClaim 84 = .ok (.aload_n 0, 1) := by decide +kernel
theorem dX4_readClaim_85 : decode cX4_readClaim 85 = .ok (.aload_n 1, 1) := by decide +kernel
theorem dX4_readClaim_86 : decode cX4_readClaim 86 = .ok (.invokevirtual 209, 3) := by decide +kernel
theorem dX4_readClaim_89 : decode cX4_readClaim 89 = .ok (.putfield 161, 3) := by decide +kernel
theorem dX4_readClaim_92 : decode cX4_readClaim 92 = .ok (.return_, 1) := by decide +kernel
set_option maxRecDepth 20000 in
theorem ggX4_trustIn_X1_sumOf : GoodIn wsX4_trustIn wsX1_sumOf := goodIn_r _ [6, 7, 8, 9, 5, 10, 11, 12, 13, 14, 15, 16, 17, 18, 19, 20, 21, 22, 30, 31, 37, 38] (by decide +kernel) (by decide +kernel)
set_option maxRecDepth 20000 in
theorem gX4_trustIn_X1_sumOf : GoodIn wsX4_trustIn (wsV RX4 121 RX1 yX1_sumOf wsX1_sumOf) := goodIn_app (goodIn_of _ (by decide +kernel)) ggX4_trustIn_X1_sumOf
set_option maxRecDepth 20000 in
theorem ggX4_trustIn_X1_readAlong : GoodIn wsX4_trustIn wsX1_readAlong := goodIn_r _ [10, 11, 12, 13, 14, 15, 16, 17, 18, 19, 20, 5, 21, 22, 30, 31, 37, 38] (by decide +kernel) (by decide +kernel)
set_option maxRecDepth 20000 in
theorem gX4_trustIn_X1_readAlong : GoodIn wsX4_trustIn (wsV RX4 113 RX1 yX1_readAlong wsX1_readAlong) := goodIn_app (goodIn_of _ (by decide +kernel)) ggX4_trustIn_X1_readAlong
theorem dX4_trustIn_0 : decode cX4_trustIn 0 = .ok (.aload_n 1, 1) := by decide +kernel
theorem dX4_trustIn_1 : decode cX4_trustIn 1 = .ok (.getfield 156, 3) := by decide +kernel
theorem dX4_trustIn_4 : decode cX4_trustIn 4 = .ok (.astore_n 2, 1) := by decide +kernel
theorem dX4_trustIn_5 : decode cX4_trustIn 5 = .ok (.aload_n 2, 1) := by decide +kernel
theorem dX4_trustIn_6 : decode cX4_trustIn 6 = .ok (.getfield 98, 3) := by decide +kernel
theorem dX4_trustIn_9 : decode cX4_trustIn 9 = .ok (.ifCond .ne 5, 3) := by decide +kernel
theorem dX4_trustIn_12 : decode cX4_trustIn 12 = .ok (.iconst 0, 1) := by decide +kernel
theorem dX4_trustIn_13 : decode cX4_trustIn 13 = .ok (.ireturn, 1) := by decide +kernel
theorem dX4_trustIn_14 : decode cX4_trustIn 14 = .ok (.aload_n 2, 1) := by decide +kernel
theorem dX4_trustIn_15 : decode cX4_trustIn 15 = .ok (.getfield 98, 3) := by decide +kernel
theorem dX4_trustIn_18 : decode cX4_trustIn 18 = .ok (.aload_n 1, 1) := by decide +kernel
theorem dX4_trustIn_19 : decode cX4_trustIn 19 = .ok (.getfield 73, 3) := by decide +kernel
theorem dX4_trustIn_22 : decode cX4_trustIn 22 = .ok (.getfield 98, 3) := by decide +kernel
theorem dX4_trustIn_25 : decode cX4_trustIn 25 = .ok (.if_icmp .ne 7, 3) := by decide +kernel
theorem dX4_trustIn_28 : decode cX4_trustIn 28 = .ok (.iconst 1, 1) := by decide +kernel
theorem dX4_trustIn_29 : decode cX4_trustIn 29 = .ok (.goto 4, 3) := by decide +kernel
theorem dX4_trustIn_32 : decode cX4_trustIn 32 = .ok (.iconst 0, 1) := by decide +kernel
theorem dX4_trustIn_33 : decode cX4_trustIn 33 = .ok (.istore_n 3, 1) := by decide +kernel
theorem dX4_trustIn_34 : decode cX4_trustIn 34 = .ok (.iload_n 3, 1) := by decide +kernel
theorem dX4_trustIn_35 : decode cX4_trustIn 35 = .ok (.ifCond .eq 20, 3) := by decide +kernel
theorem dX4_trustIn_38 : decode cX4_trustIn 38 = .ok (.aload_n 0, 1) := by decide +kernel
theorem dX4_trustIn_39 : decode cX4_trustIn 39 = .ok (.getfield 10, 3) := by decide +kernel
theorem dX4_trustIn_42 : decode cX4_trustIn 42 = .ok (.aload_n 2, 1) := by decide +kernel
theorem dX4_trustIn_43 : decode cX4_trustIn 43 = .ok (.invokevirtual 121, 3) := by decide +kernel
theorem dX4_trustIn_46 : decode cX4_trustIn 46 = .ok (.aload_n 1, 1) := by decide +kernel
theorem dX4_trustIn_47 : decode cX4_trustIn 47 = .ok (.getfield 125, 3) := by decide +kernel
theorem dX4_trustIn_50 : decode cX4_trustIn 50 = .ok (.if_icmp .ne 5, 3) := by decide +kernel
theorem dX4_trustIn_53 : decode cX4_trustIn 53 = .ok (.iconst 3, 1) := by decide +kernel
theorem dX4_trustIn_54 : decode cX4_trustIn 54 = .ok (.ireturn, 1) := by decide +kernel
theorem dX4_trustIn_55 : decode cX4_trustIn 55 = .ok (.aload_n 0, 1) := by decide +kernel
theorem dX4_trustIn_56 : decode cX4_trustIn 56 = .ok (.getfield 10, 3) := by decide +kernel
theorem dX4_trustIn_59 : decode cX4_trustIn 59 = .ok (.aload_n 2, 1) := by decide +kernel
theorem dX4_trustIn_60 : decode cX4_trustIn 60 = .ok (.iconst 0, 1) := by decide +kernel
theorem dX4_trustIn_61 : decode cX4_trustIn 61 = .ok (.invokevirtual 113, 3) := by decide +kernel
theorem dX4_trustIn_64 : decode cX4_trustIn 64 = .ok (.sipush 255, 3) := by decide +kernel
theorem dX4_trustIn_67 : decode cX4_trustIn 67 = .ok (.if_icmp .eq 5, 3) := by decide +kernel
theorem dX4_trustIn_70 : decode cX4_trustIn 70 = .ok (.iconst 0, 1) := by decide +kernel
theorem dX4_trustIn_71 : decode cX4_trustIn 71 = .ok (.ireturn, 1) := by decide +kernel
theorem dX4_trustIn_72 : decode cX4_trustIn 72 = .ok (.aload_n 0, 1) := by decide +kernel
theorem dX4_trustIn_73 : decode cX4_trustIn 73 = .ok (.getfield 10, 3) := by decide +kernel
theorem dX4_trustIn_76 : decode cX4_trustIn 76 = .ok (.aload_n 2, 1) := by decide +kernel
theorem dX4_trustIn_77 : decode cX4_trustIn 77 = .ok (.aload_n 2, 1) := by decide +kernel
theorem dX4_trustIn_78 : decode cX4_trustIn 78 = .ok (.getfield 98, 3) := by decide +kernel
theorem dX4_trustIn_81 : decode cX4_trustIn 81 = .ok (.iconst 4, 1) := by decide +kernel
theorem dX4_trustIn_82 : decode cX4_trustIn 82 = .ok (.imul, 1) := by decide +kernel
theorem dX4_trustIn_83 : decode cX4_trustIn 83 = .ok (.iconst 1, 1) := by decide +kernel
theorem dX4_trustIn_84 : decode cX4_trustIn 84 = .ok (.isub, 1) := by decide +kernel
theorem dX4_trustIn_85 : decode cX4_trustIn 85 = .ok (.invokevirtual 113, 3) := by decide +kernel
theorem dX4_trustIn_88 : decode cX4_trustIn 88 = .ok (.sipush 254, 3) := by decide +kernel
theorem dX4_trustIn_91 : decode cX4_trustIn 91 = .ok (.if_icmp .ne 7, 3) := by decide +kernel
theorem dX4_trustIn_94 : decode cX4_trustIn 94 = .ok (.iconst 1, 1) := by decide +kernel
theorem dX4_trustIn_95 : decode cX4_trustIn 95 = .ok (.goto 4, 3) := by decide +kernel
theorem dX4_trustIn_98 : decode cX4_trustIn 98 = .ok (.iconst 0, 1) := by decide +kernel
theorem dX4_trustIn_99 : decode cX4_trustIn 99 = .ok (.istore 4, 2) := by decide +kernel
theorem dX4_trustIn_101 : decode cX4_trustIn 101 = .ok (.iload_n 3, 1) := by decide +kernel
theorem dX4_trustIn_102 : decode cX4_trustIn 102 = .ok (.ifCond .eq 12, 3) := by decide +kernel
theorem dX4_trustIn_105 : decode cX4_trustIn 105 = .ok (.iload 4, 2) := by decide +kernel
theorem dX4_trustIn_107 : decode cX4_trustIn 107 = .ok (.ifCond .eq 7, 3) := by decide +kernel
theorem dX4_trustIn_110 : decode cX4_trustIn 110 = .ok (.iconst 2, 1) := by decide +kernel
theorem dX4_trustIn_111 : decode cX4_trustIn 111 = .ok (.goto 4, 3) := by decide +kernel
theorem dX4_trustIn_114 : decode cX4_trustIn 114 = .ok (.iconst 1, 1) := by decide +kernel
theorem dX4_trustIn_115 : decode cX4_trustIn 115 = .ok (.ireturn, 1) := by decide +kernel
set_option maxRecDepth 20000 in
theorem ggX4_strongestClaimant_Jx4a65c_size_8abf5 : GoodIn wsX4_strongestClaimant wsJx4a65c_size_8abf5 := goodIn_r _ [7, 8, 54, 55, 56] (by decide +kernel) (by decide +kernel)
set_option maxRecDepth 20000 in
theorem gX4_strongestClaimant_Jx4a65c_size_8abf5 : GoodIn wsX4_strongestClaimant (wsV RX4 50 RJx4a65c yJx4a65c_size_8abf5 wsJx4a65c_size_8abf5) := goodIn_app (goodIn_of _ (by decide +kernel)) ggX4_strongestClaimant_Jx4a65c_size_8abf5
set_option maxRecDepth 20000 in
theorem ggX4_strongestClaimant_Jx4a65c_get_915e3 : GoodIn wsX4_strongestClaimant wsJx4a65c_get_915e3 := goodIn_r _ [12, 8, 13, 14, 15, 16, 17, 18, 19, 20, 21, 22, 23, 6, 24, 25, 54, 55, 56] (by decide +kernel) (by decide +kernel)
set_option maxRecDepth 20000 in
theorem gX4_strongestClaimant_Jx4a65c_get_915e3 : GoodIn wsX4_strongestClaimant (wsV RX4 167 RJx4a65c yJx4a65c_get_915e3 wsJx4a65c_get_915e3) := goodIn_app (goodIn_of _ (by decide +kernel)) ggX4_strongestClaimant_Jx4a65c_get_915e3
set_option maxRecDepth 20000 in
theorem ggX4_strongestClaimant_X2_isThrown : GoodIn wsX4_strongestClaimant wsX2_isThrown := goodIn_r _ [30, 31, 48, 49, 50, 51, 52, 53] (by decide +kernel) (by decide +kernel)
set_option maxRecDepth 20000 in
theorem gX4_strongestClaimant_X2_isThrown : GoodIn wsX4_strongestClaimant (wsV RX4 149 RX2 yX2_isThrown wsX2_isThrown) := goodIn_app (goodIn_of _ (by decide +kernel)) ggX4_strongestClaimant_X2_isThrown
set_option maxRecDepth 20000 in
theorem ggX4_strongestClaimant_X0_holds : GoodIn wsX4_strongestClaimant wsX0_holds := goodIn_r _ [36, 37, 38, 39, 40, 35, 41, 42, 57, 58] (by decide +kernel) (by decide +kernel)
set_option maxRecDepth 20000 in
theorem gX4_strongestClaimant_X0_holds : GoodIn wsX4_strongestClaimant (wsV RX4 212 RX0 yX0_holds wsX0_holds) := goodIn_app (goodIn_of _ (by decide +kernel)) ggX4_strongestClaimant_X0_holds
theorem dX4_strongestClaimant_0 : decode cX4_strongestClaimant 0 = .ok (.iconst (-1), 1) := by decide +kernel
theorem dX4_strongestClaimant_1 : decode cX4_strongestClaimant 1 = .ok (.istore_n 2, 1) := by decide +kernel
theorem dX4_strongestClaimant_2 : decode cX4_strongestClaimant 2 = .ok (.iconst 0, 1) := by decide +kernel
theorem dX4_strongestClaimant_3 : decode cX4_strongestClaimant 3 = .ok (.istore_n 3, 1) := by decide +kernel
theorem dX4_strongestClaimant_4 : decode cX4_strongestClaimant 4 = .ok (.iconst (-1), 1) := by decide +kernel
theorem dX4_strongestClaimant_5 : decode cX4_strongestClaimant 5 = .ok (.istore 4, 2) := by decide +kernel
theorem dX4_strongestClaimant_7 : decode cX4_strongestClaimant 7 = .ok (.iconst 0, 1) := by decide +kernel
theorem dX4_strongestClaimant_8 : decode cX4_strongestClaimant 8 = .ok (.istore 5, 2) := by decide +kernel
theorem dX4_strongestClaimant_10 : decode cX4_strongestClaimant 10 = .ok (.iload 5, 2) := by decide +kernel
theorem dX4_strongestClaimant_12 : decode cX4_strongestClaimant 12 = .ok (.aload_n 0, 1) := by decide +kernel
theorem dX4_strongestClaimant_13 : decode cX4_strongestClaimant 13 = .ok (.getfield 19, 3) := by decide +kernel
theorem dX4_strongestClaimant_16 : decode cX4_strongestClaimant 16 = .ok (.invokevirtual 50, 3) := by decide +kernel
theorem dX4_strongestClaimant_19 : decode cX4_strongestClaimant 19 = .ok (.if_icmp .ge 95, 3) := by decide +kernel
theorem dX4_strongestClaimant_22 : decode cX4_strongestClaimant 22 = .ok (.aload_n 0, 1) := by decide +kernel
theorem dX4_strongestClaimant_23 : decode cX4_strongestClaimant 23 = .ok (.getfield 19, 3) := by decide +kernel
theorem dX4_strongestClaimant_26 : decode cX4_strongestClaimant 26 = .ok (.iload 5, 2) := by decide +kernel
theorem dX4_strongestClaimant_28 : decode cX4_strongestClaimant 28 = .ok (.invokevirtual 167, 3) := by decide +kernel
theorem dX4_strongestClaimant_31 : decode cX4_strongestClaimant 31 = .ok (.checkcast 64, 3) := by decide +kernel
theorem dX4_strongestClaimant_34 : decode cX4_strongestClaimant 34 = .ok (.astore 6, 2) := by decide +kernel
theorem dX4_strongestClaimant_36 : decode cX4_strongestClaimant 36 = .ok (.aload 6, 2) := by decide +kernel
theorem dX4_strongestClaimant_38 : decode cX4_strongestClaimant 38 = .ok (.invokevirtual 149, 3) := by decide +kernel
theorem dX4_strongestClaimant_41 : decode cX4_strongestClaimant 41 = .ok (.ifCond .eq 67, 3) := by decide +kernel
theorem dX4_strongestClaimant_44 : decode cX4_strongestClaimant 44 = .ok (.aload 6, 2) := by decide +kernel
theorem dX4_strongestClaimant_46 : decode cX4_strongestClaimant 46 = .ok (.getfield 161, 3) := by decide +kernel
theorem dX4_strongestClaimant_49 : decode cX4_strongestClaimant 49 = .ok (.ifCond .le 59, 3) := by decide +kernel
theorem dX4_strongestClaimant_52 : decode cX4_strongestClaimant 52 = .ok (.aload 6, 2) := by decide +kernel
theorem dX4_strongestClaimant_54 : decode cX4_strongestClaimant 54 = .ok (.getfield 156, 3) := by decide +kernel
theorem dX4_strongestClaimant_57 : decode cX4_strongestClaimant 57 = .ok (.iload_n 1, 1) := by decide +kernel
theorem dX4_strongestClaimant_58 : decode cX4_strongestClaimant 58 = .ok (.invokevirtual 212, 3) := by decide +kernel
theorem dX4_strongestClaimant_61 : decode cX4_strongestClaimant 61 = .ok (.ifCond .eq 47, 3) := by decide +kernel
theorem dX4_strongestClaimant_64 : decode cX4_strongestClaimant 64 = .ok (.aload 6, 2) := by decide +kernel
theorem dX4_strongestClaimant_66 : decode cX4_strongestClaimant 66 = .ok (.getfield 161, 3) := by decide +kernel
theorem dX4_strongestClaimant_69 : decode cX4_strongestClaimant 69 = .ok (.iload_n 3, 1) := by decide +kernel
theorem dX4_strongestClaimant_70 : decode cX4_strongestClaimant 70 = .ok (.if_icmp .gt 22, 3) := by decide +kernel
theorem dX4_strongestClaimant_73 : decode cX4_strongestClaimant 73 = .ok (.aload 6, 2) := by decide +kernel
end
section
theorem dX4_strongestClaimant_75 : decode cX4_strongestClaimant 75 = .ok (.getfield 161, 3) := by decide +kernel
theorem dX4_strongestClaimant_78 : decode cX4_strongestClaimant 78 = .ok (.iload_n 3, 1) := by decide +kernel
theorem dX4_strongestClaimant_79 : decode cX4_strongestClaimant 79 = .ok (.if_icmp .ne 29, 3) := by decide +kernel
theorem dX4_strongestClaimant_82 : decode cX4_strongestClaimant 82 = .ok (.aload 6, 2) := by decide +kernel
theorem dX4_strongestClaimant_84 : decode cX4_strongestClaimant 84 = .ok (.getfield 128, 3) := by decide +kernel
theorem dX4_strongestClaimant_87 : decode cX4_strongestClaimant 87 = .ok (.iload 4, 2) := by decide +kernel
theorem dX4_strongestClaimant_89 : decode cX4_strongestClaimant 89 = .ok (.if_icmp .le 19, 3) := by decide +kernel
theorem dX4_strongestClaimant_92 : decode cX4_strongestClaimant 92 = .ok (.iload 5, 2) := by decide +kernel
theorem dX4_strongestClaimant_94 : decode cX4_strongestClaimant 94 = .ok (.istore_n 2, 1) := by decide +kernel
theorem dX4_strongestClaimant_95 : decode cX4_strongestClaimant 95 = .ok (.aload 6, 2) := by decide +kernel
theorem dX4_strongestClaimant_97 : decode cX4_strongestClaimant 97 = .ok (.getfield 161, 3) := by decide +kernel
theorem dX4_strongestClaimant_100 : decode cX4_strongestClaimant 100 = .ok (.istore_n 3, 1) := by decide +kernel
theorem dX4_strongestClaimant_101 : decode cX4_strongestClaimant 101 = .ok (.aload 6, 2) := by decide +kernel
theorem dX4_strongestClaimant_103 : decode cX4_strongestClaimant 103 = .ok (.getfield 128, 3) := by decide +kernel
theorem dX4_strongestClaimant_106 : decode cX4_strongestClaimant 106 = .ok (.istore 4, 2) := by decide +kernel
theorem dX4_strongestClaimant_108 : decode cX4_strongestClaimant 108 = .ok (.iinc 5 1, 3) := by decide +kernel
theorem dX4_strongestClaimant_111 : decode cX4_strongestClaimant 111 = .ok (.goto (-101), 3) := by decide +kernel
theorem dX4_strongestClaimant_114 : decode cX4_strongestClaimant 114 = .ok (.iload_n 2, 1) := by decide +kernel
theorem dX4_strongestClaimant_115 : decode cX4_strongestClaimant 115 = .ok (.ireturn, 1) := by decide +kernel
theorem dX5_init_0 : decode cX5_init 0 = .ok (.aload_n 0, 1) := by decide +kernel
theorem dX5_init_1 : decode cX5_init 1 = .ok (.invokespecial 1, 3) := by decide +kernel
theorem dX5_init_4 : decode cX5_init 4 = .ok (.aload_n 0, 1) := by decide +kernel
theorem dX5_init_5 : decode cX5_init 5 = .ok (.sipush 160, 3) := by decide +kernel
theorem dX5_init_8 : decode cX5_init 8 = .ok (.newarray .int, 2) := by decide +kernel
theorem dX5_init_10 : decode cX5_init 10 = .ok (.putfield 7, 3) := by decide +kernel
theorem dX5_init_13 : decode cX5_init 13 = .ok (.aload_n 0, 1) := by decide +kernel
theorem dX5_init_14 : decode cX5_init 14 = .ok (.bipush 40, 2) := by decide +kernel
theorem dX5_init_16 : decode cX5_init 16 = .ok (.newarray .int, 2) := by decide +kernel
theorem dX5_init_18 : decode cX5_init 18 = .ok (.putfield 13, 3) := by decide +kernel
theorem dX5_init_21 : decode cX5_init 21 = .ok (.aload_n 0, 1) := by decide +kernel
theorem dX5_init_22 : decode cX5_init 22 = .ok (.bipush 30, 2) := by decide +kernel
theorem dX5_init_24 : decode cX5_init 24 = .ok (.newarray .int, 2) := by decide +kernel
theorem dX5_init_26 : decode cX5_init 26 = .ok (.putfield 16, 3) := by decide +kernel
theorem dX5_init_29 : decode cX5_init 29 = .ok (.aload_n 0, 1) := by decide +kernel
theorem dX5_init_30 : decode cX5_init 30 = .ok (.bipush 30, 2) := by decide +kernel
theorem dX5_init_32 : decode cX5_init 32 = .ok (.newarray .int, 2) := by decide +kernel
theorem dX5_init_34 : decode cX5_init 34 = .ok (.putfield 19, 3) := by decide +kernel
theorem dX5_init_37 : decode cX5_init 37 = .ok (.aload_n 0, 1) := by decide +kernel
theorem dX5_init_38 : decode cX5_init 38 = .ok (.bipush 30, 2) := by decide +kernel
theorem dX5_init_40 : decode cX5_init 40 = .ok (.newarray .int, 2) := by decide +kernel
theorem dX5_init_42 : decode cX5_init 42 = .ok (.putfield 22, 3) := by decide +kernel
theorem dX5_init_45 : decode cX5_init 45 = .ok (.aload_n 0, 1) := by decide +kernel
theorem dX5_init_46 : decode cX5_init 46 = .ok (.bipush 30, 2) := by decide +kernel
theorem dX5_init_48 : decode cX5_init 48 = .ok (.newarray .int, 2) := by decide +kernel
theorem dX5_init_50 : decode cX5_init 50 = .ok (.putfield 25, 3) := by decide +kernel
theorem dX5_init_53 : decode cX5_init 53 = .ok (.aload_n 0, 1) := by decide +kernel
theorem dX5_init_54 : decode cX5_init 54 = .ok (.bipush 30, 2) := by decide +kernel
theorem dX5_init_56 : decode cX5_init 56 = .ok (.newarray .int, 2) := by decide +kernel
theorem dX5_init_58 : decode cX5_init 58 = .ok (.putfield 28, 3) := by decide +kernel
theorem dX5_init_61 : decode cX5_init 61 = .ok (.aload_n 0, 1) := by decide +kernel
theorem dX5_init_62 : decode cX5_init 62 = .ok (.sipush 240, 3) := by decide +kernel
theorem dX5_init_65 : decode cX5_init 65 = .ok (.newarray .int, 2) := by decide +kernel
theorem dX5_init_67 : decode cX5_init 67 = .ok (.putfield 31, 3) := by decide +kernel
theorem dX5_init_70 : decode cX5_init 70 = .ok (.aload_n 0, 1) := by decide +kernel
theorem dX5_init_71 : decode cX5_init 71 = .ok (.bipush 8, 2) := by decide +kernel
theorem dX5_init_73 : decode cX5_init 73 = .ok (.newarray .int, 2) := by decide +kernel
theorem dX5_init_75 : decode cX5_init 75 = .ok (.putfield 34, 3) := by decide +kernel
theorem dX5_init_78 : decode cX5_init 78 = .ok (.aload_n 0, 1) := by decide +kernel
theorem dX5_init_79 : decode cX5_init 79 = .ok (.iconst 4, 1) := by decide +kernel
theorem dX5_init_80 : decode cX5_init 80 = .ok (.newarray .int, 2) := by decide +kernel
theorem dX5_init_82 : decode cX5_init 82 = .ok (.putfield 37, 3) := by decide +kernel
theorem dX5_init_85 : decode cX5_init 85 = .ok (.iconst 0, 1) := by decide +kernel
theorem dX5_init_86 : decode cX5_init 86 = .ok (.istore_n 1, 1) := by decide +kernel
theorem dX5_init_87 : decode cX5_init 87 = .ok (.iload_n 1, 1) := by decide +kernel
theorem dX5_init_88 : decode cX5_init 88 = .ok (.bipush 40, 2) := by decide +kernel
theorem dX5_init_90 : decode cX5_init 90 = .ok (.if_icmp .ge 16, 3) := by decide +kernel
theorem dX5_init_93 : decode cX5_init 93 = .ok (.aload_n 0, 1) := by decide +kernel
theorem dX5_init_94 : decode cX5_init 94 = .ok (.getfield 13, 3) := by decide +kernel
theorem dX5_init_97 : decode cX5_init 97 = .ok (.iload_n 1, 1) := by decide +kernel
theorem dX5_init_98 : decode cX5_init 98 = .ok (.iconst (-1), 1) := by decide +kernel
theorem dX5_init_99 : decode cX5_init 99 = .ok (.iastore, 1) := by decide +kernel
theorem dX5_init_100 : decode cX5_init 100 = .ok (.iinc 1 1, 3) := by decide +kernel
theorem dX5_init_103 : decode cX5_init 103 = .ok (.goto (-16), 3) := by decide +kernel
theorem dX5_init_106 : decode cX5_init 106 = .ok (.return_, 1) := by decide +kernel
theorem dX5_thrown_0 : decode cX5_thrown 0 = .ok (.aload_n 0, 1) := by decide +kernel
theorem dX5_thrown_1 : decode cX5_thrown 1 = .ok (.getfield 40, 3) := by decide +kernel
theorem dX5_thrown_4 : decode cX5_thrown 4 = .ok (.ireturn, 1) := by decide +kernel
theorem dX5_in_0 : decode cX5_in 0 = .ok (.iload_n 0, 1) := by decide +kernel
theorem dX5_in_1 : decode cX5_in 1 = .ok (.iload_n 1, 1) := by decide +kernel
theorem dX5_in_2 : decode cX5_in 2 = .ok (.if_icmp .lt 12, 3) := by decide +kernel
theorem dX5_in_5 : decode cX5_in 5 = .ok (.iload_n 0, 1) := by decide +kernel
theorem dX5_in_6 : decode cX5_in 6 = .ok (.iload_n 2, 1) := by decide +kernel
theorem dX5_in_7 : decode cX5_in 7 = .ok (.if_icmp .gt 7, 3) := by decide +kernel
theorem dX5_in_10 : decode cX5_in 10 = .ok (.iconst 1, 1) := by decide +kernel
theorem dX5_in_11 : decode cX5_in 11 = .ok (.goto 4, 3) := by decide +kernel
theorem dX5_in_14 : decode cX5_in 14 = .ok (.iconst 0, 1) := by decide +kernel
theorem dX5_in_15 : decode cX5_in 15 = .ok (.ireturn, 1) := by decide +kernel
theorem dX5_goes_0 : decode cX5_goes 0 = .ok (.aload_n 0, 1) := by decide +kernel
theorem dX5_goes_1 : decode cX5_goes 1 = .ok (.iload_n 1, 1) := by decide +kernel
theorem dX5_goes_2 : decode cX5_goes 2 = .ok (.ifCond .ne 7, 3) := by decide +kernel
theorem dX5_goes_5 : decode cX5_goes 5 = .ok (.iconst 1, 1) := by decide +kernel
theorem dX5_goes_6 : decode cX5_goes 6 = .ok (.goto 20, 3) := by decide +kernel
theorem dX5_goes_9 : decode cX5_goes 9 = .ok (.iload_n 2, 1) := by decide +kernel
theorem dX5_goes_10 : decode cX5_goes 10 = .ok (.ifCond .ne 7, 3) := by decide +kernel
theorem dX5_goes_13 : decode cX5_goes 13 = .ok (.iconst 2, 1) := by decide +kernel
theorem dX5_goes_14 : decode cX5_goes 14 = .ok (.goto 12, 3) := by decide +kernel
theorem dX5_goes_17 : decode cX5_goes 17 = .ok (.iload_n 3, 1) := by decide +kernel
theorem dX5_goes_18 : decode cX5_goes 18 = .ok (.ifCond .ne 7, 3) := by decide +kernel
theorem dX5_goes_21 : decode cX5_goes 21 = .ok (.iconst 3, 1) := by decide +kernel
theorem dX5_goes_22 : decode cX5_goes 22 = .ok (.goto 4, 3) := by decide +kernel
theorem dX5_goes_25 : decode cX5_goes 25 = .ok (.iconst 0, 1) := by decide +kernel
theorem dX5_goes_26 : decode cX5_goes 26 = .ok (.putfield 40, 3) := by decide +kernel
theorem dX5_goes_29 : decode cX5_goes 29 = .ok (.aload_n 0, 1) := by decide +kernel
theorem dX5_goes_30 : decode cX5_goes 30 = .ok (.getfield 40, 3) := by decide +kernel
theorem dX5_goes_33 : decode cX5_goes 33 = .ok (.ifCond .ne 7, 3) := by decide +kernel
theorem dX5_goes_36 : decode cX5_goes 36 = .ok (.iconst 1, 1) := by decide +kernel
theorem dX5_goes_37 : decode cX5_goes 37 = .ok (.goto 4, 3) := by decide +kernel
theorem dX5_goes_40 : decode cX5_goes 40 = .ok (.iconst 0, 1) := by decide +kernel
theorem dX5_goes_41 : decode cX5_goes 41 = .ok (.ireturn, 1) := by decide +kernel
theorem dX5_told_0 : decode cX5_told 0 = .ok (.aload_n 0, 1) := by decide +kernel
theorem dX5_told_1 : decode cX5_told 1 = .ok (.iconst 0, 1) := by decide +kernel
theorem dX5_told_2 : decode cX5_told 2 = .ok (.putfield 40, 3) := by decide +kernel
theorem dX5_told_5 : decode cX5_told 5 = .ok (.iload_n 1, 1) := by decide +kernel
theorem dX5_told_6 : decode cX5_told 6 = .ok (.ireturn, 1) := by decide +kernel
set_option maxRecDepth 20000 in
theorem ggX5_isFile_X5_in : GoodIn wsX5_isFile wsX5_in := goodIn_r _ [5] (by decide +kernel) (by decide +kernel)
set_option maxRecDepth 20000 in
theorem gX5_isFile_X5_in : GoodIn wsX5_isFile (va_wsS RX5 47 yX5_in wsX5_in) := goodIn_app (goodIn_of _ (by decide +kernel)) ggX5_isFile_X5_in
theorem dX5_isFile_0 : decode cX5_isFile 0 = .ok (.iload_n 1, 1) := by decide +kernel
theorem dX5_isFile_1 : decode cX5_isFile 1 = .ok (.iconst 0, 1) := by decide +kernel
theorem dX5_isFile_2 : decode cX5_isFile 2 = .ok (.aload_n 0, 1) := by decide +kernel
theorem dX5_isFile_3 : decode cX5_isFile 3 = .ok (.getfield 44, 3) := by decide +kernel
theorem dX5_isFile_6 : decode cX5_isFile 6 = .ok (.iconst 1, 1) := by decide +kernel
theorem dX5_isFile_7 : decode cX5_isFile 7 = .ok (.isub, 1) := by decide +kernel
theorem dX5_isFile_8 : decode cX5_isFile 8 = .ok (.invokestatic 47, 3) := by decide +kernel
theorem dX5_isFile_11 : decode cX5_isFile 11 = .ok (.ireturn, 1) := by decide +kernel
set_option maxRecDepth 20000 in
theorem ggX5_isCluster_X5_in : GoodIn wsX5_isCluster wsX5_in := goodIn_r _ [4] (by decide +kernel) (by decide +kernel)
set_option maxRecDepth 20000 in
theorem gX5_isCluster_X5_in : GoodIn wsX5_isCluster (va_wsS RX5 47 yX5_in wsX5_in) := goodIn_app (goodIn_of _ (by decide +kernel)) ggX5_isCluster_X5_in
theorem dX5_isCluster_0 : decode cX5_isCluster 0 = .ok (.iload_n 0, 1) := by decide +kernel
theorem dX5_isCluster_1 : decode cX5_isCluster 1 = .ok (.iconst 0, 1) := by decide +kernel
theorem dX5_isCluster_2 : decode cX5_isCluster 2 = .ok (.bipush 39, 2) := by decide +kernel
theorem dX5_isCluster_4 : decode cX5_isCluster 4 = .ok (.invokestatic 47, 3) := by decide +kernel
theorem dX5_isCluster_7 : decode cX5_isCluster 7 = .ok (.ireturn, 1) := by decide +kernel
theorem dX5_isGone_0 : decode cX5_isGone 0 = .ok (.aload_n 0, 1) := by decide +kernel
theorem dX5_isGone_1 : decode cX5_isGone 1 = .ok (.getfield 22, 3) := by decide +kernel
theorem dX5_isGone_4 : decode cX5_isGone 4 = .ok (.iload_n 1, 1) := by decide +kernel
theorem dX5_isGone_5 : decode cX5_isGone 5 = .ok (.iaload, 1) := by decide +kernel
theorem dX5_isGone_6 : decode cX5_isGone 6 = .ok (.ifCond .le 7, 3) := by decide +kernel
theorem dX5_isGone_9 : decode cX5_isGone 9 = .ok (.iconst 1, 1) := by decide +kernel
theorem dX5_isGone_10 : decode cX5_isGone 10 = .ok (.goto 4, 3) := by decide +kernel
theorem dX5_isGone_13 : decode cX5_isGone 13 = .ok (.iconst 0, 1) := by decide +kernel
theorem dX5_isGone_14 : decode cX5_isGone 14 = .ok (.ireturn, 1) := by decide +kernel
theorem dX5_frees_0 : decode cX5_frees 0 = .ok (.iconst 0, 1) := by decide +kernel
theorem dX5_frees_1 : decode cX5_frees 1 = .ok (.istore_n 1, 1) := by decide +kernel
theorem dX5_frees_2 : decode cX5_frees 2 = .ok (.iconst 0, 1) := by decide +kernel
theorem dX5_frees_3 : decode cX5_frees 3 = .ok (.istore_n 2, 1) := by decide +kernel
theorem dX5_frees_4 : decode cX5_frees 4 = .ok (.iload_n 2, 1) := by decide +kernel
theorem dX5_frees_5 : decode cX5_frees 5 = .ok (.bipush 40, 2) := by decide +kernel
theorem dX5_frees_7 : decode cX5_frees 7 = .ok (.if_icmp .ge 27, 3) := by decide +kernel
theorem dX5_frees_10 : decode cX5_frees 10 = .ok (.iload_n 1, 1) := by decide +kernel
theorem dX5_frees_11 : decode cX5_frees 11 = .ok (.aload_n 0, 1) := by decide +kernel
theorem dX5_frees_12 : decode cX5_frees 12 = .ok (.getfield 13, 3) := by decide +kernel
theorem dX5_frees_15 : decode cX5_frees 15 = .ok (.iload_n 2, 1) := by decide +kernel
theorem dX5_frees_16 : decode cX5_frees 16 = .ok (.iaload, 1) := by decide +kernel
theorem dX5_frees_17 : decode cX5_frees 17 = .ok (.iconst (-1), 1) := by decide +kernel
theorem dX5_frees_18 : decode cX5_frees 18 = .ok (.if_icmp .ne 7, 3) := by decide +kernel
theorem dX5_frees_21 : decode cX5_frees 21 = .ok (.iconst 1, 1) := by decide +kernel
theorem dX5_frees_22 : decode cX5_frees 22 = .ok (.goto 4, 3) := by decide +kernel
theorem dX5_frees_25 : decode cX5_frees 25 = .ok (.iconst 0, 1) := by decide +kernel
theorem dX5_frees_26 : decode cX5_frees 26 = .ok (.iadd, 1) := by decide +kernel
theorem dX5_frees_27 : decode cX5_frees 27 = .ok (.istore_n 1, 1) := by decide +kernel
theorem dX5_frees_28 : decode cX5_frees 28 = .ok (.iinc 2 1, 3) := by decide +kernel
theorem dX5_frees_31 : decode cX5_frees 31 = .ok (.goto (-27), 3) := by decide +kernel
theorem dX5_frees_34 : decode cX5_frees 34 = .ok (.iload_n 1, 1) := by decide +kernel
theorem dX5_frees_35 : decode cX5_frees 35 = .ok (.ireturn, 1) := by decide +kernel
theorem dX5_takes_0 : decode cX5_takes 0 = .ok (.iconst 0, 1) := by decide +kernel
theorem dX5_takes_1 : decode cX5_takes 1 = .ok (.istore_n 2, 1) := by decide +kernel
theorem dX5_takes_2 : decode cX5_takes 2 = .ok (.aload_n 0, 1) := by decide +kernel
theorem dX5_takes_3 : decode cX5_takes 3 = .ok (.getfield 13, 3) := by decide +kernel
theorem dX5_takes_6 : decode cX5_takes 6 = .ok (.iload_n 2, 1) := by decide +kernel
theorem dX5_takes_7 : decode cX5_takes 7 = .ok (.iaload, 1) := by decide +kernel
theorem dX5_takes_8 : decode cX5_takes 8 = .ok (.iconst (-1), 1) := by decide +kernel
theorem dX5_takes_9 : decode cX5_takes 9 = .ok (.if_icmp .eq 9, 3) := by decide +kernel
theorem dX5_takes_12 : decode cX5_takes 12 = .ok (.iinc 2 1, 3) := by decide +kernel
theorem dX5_takes_15 : decode cX5_takes 15 = .ok (.goto (-13), 3) := by decide +kernel
theorem dX5_takes_18 : decode cX5_takes 18 = .ok (.aload_n 0, 1) := by decide +kernel
theorem dX5_takes_19 : decode cX5_takes 19 = .ok (.getfield 13, 3) := by decide +kernel
theorem dX5_takes_22 : decode cX5_takes 22 = .ok (.iload_n 2, 1) := by decide +kernel
theorem dX5_takes_23 : decode cX5_takes 23 = .ok (.iload_n 1, 1) := by decide +kernel
theorem dX5_takes_24 : decode cX5_takes 24 = .ok (.iastore, 1) := by decide +kernel
theorem dX5_takes_25 : decode cX5_takes 25 = .ok (.iload_n 2, 1) := by decide +kernel
theorem dX5_takes_26 : decode cX5_takes 26 = .ok (.ireturn, 1) := by decide +kernel
theorem dX5_byRule_0 : decode cX5_byRule 0 = .ok (.aload_n 0, 1) := by decide +kernel
theorem dX5_byRule_1 : decode cX5_byRule 1 = .ok (.getfield 16, 3) := by decide +kernel
theorem dX5_byRule_4 : decode cX5_byRule 4 = .ok (.iload_n 1, 1) := by decide +kernel
theorem dX5_byRule_5 : decode cX5_byRule 5 = .ok (.iaload, 1) := by decide +kernel
theorem dX5_byRule_6 : decode cX5_byRule 6 = .ok (.bipush 37, 2) := by decide +kernel
theorem dX5_byRule_8 : decode cX5_byRule 8 = .ok (.iload_n 2, 1) := by decide +kernel
theorem dX5_byRule_9 : decode cX5_byRule 9 = .ok (.imul, 1) := by decide +kernel
theorem dX5_byRule_10 : decode cX5_byRule 10 = .ok (.iadd, 1) := by decide +kernel
theorem dX5_byRule_11 : decode cX5_byRule 11 = .ok (.sipush 250, 3) := by decide +kernel
theorem dX5_byRule_14 : decode cX5_byRule 14 = .ok (.irem, 1) := by decide +kernel
theorem dX5_byRule_15 : decode cX5_byRule 15 = .ok (.ireturn, 1) := by decide +kernel
theorem dX5_place_0 : decode cX5_place 0 = .ok (.iconst 4, 1) := by decide +kernel
theorem dX5_place_1 : decode cX5_place 1 = .ok (.aload_n 0, 1) := by decide +kernel
theorem dX5_place_2 : decode cX5_place 2 = .ok (.getfield 31, 3) := by decide +kernel
theorem dX5_place_5 : decode cX5_place 5 = .ok (.bipush 8, 2) := by decide +kernel
theorem dX5_place_7 : decode cX5_place 7 = .ok (.iload_n 1, 1) := by decide +kernel
theorem dX5_place_8 : decode cX5_place 8 = .ok (.imul, 1) := by decide +kernel
theorem dX5_place_9 : decode cX5_place 9 = .ok (.iload_n 2, 1) := by decide +kernel
theorem dX5_place_10 : decode cX5_place 10 = .ok (.iconst 4, 1) := by decide +kernel
theorem dX5_place_11 : decode cX5_place 11 = .ok (.idiv, 1) := by decide +kernel
theorem dX5_place_12 : decode cX5_place 12 = .ok (.iadd, 1) := by decide +kernel
theorem dX5_place_13 : decode cX5_place 13 = .ok (.iaload, 1) := by decide +kernel
theorem dX5_place_14 : decode cX5_place 14 = .ok (.imul, 1) := by decide +kernel
theorem dX5_place_15 : decode cX5_place 15 = .ok (.iload_n 2, 1) := by decide +kernel
theorem dX5_place_16 : decode cX5_place 16 = .ok (.iconst 4, 1) := by decide +kernel
theorem dX5_place_17 : decode cX5_place 17 = .ok (.irem, 1) := by decide +kernel
theorem dX5_place_18 : decode cX5_place 18 = .ok (.iadd, 1) := by decide +kernel
theorem dX5_place_19 : decode cX5_place 19 = .ok (.ireturn, 1) := by decide +kernel
set_option maxRecDepth 20000 in
theorem ggX5_make_X5_in : GoodIn wsX5_make wsX5_in := goodIn_r _ [9] (by decide +kernel) (by decide +kernel)
set_option maxRecDepth 20000 in
theorem gX5_make_X5_in : GoodIn wsX5_make (va_wsS RX5 47 yX5_in wsX5_in) := goodIn_app (goodIn_of _ (by decide +kernel)) ggX5_make_X5_in
set_option maxRecDepth 20000 in
theorem ggX5_make_X5_frees : GoodIn wsX5_make wsX5_frees := goodIn_r _ [13, 14, 32, 33, 34, 35, 36, 37, 38, 39, 40, 41, 42, 43, 44] (by decide +kernel) (by decide +kernel)
set_option maxRecDepth 20000 in
theorem gX5_make_X5_frees : GoodIn wsX5_make (wsV RX5 51 RX5 yX5_frees wsX5_frees) := goodIn_app (goodIn_of _ (by decide +kernel)) ggX5_make_X5_frees
set_option maxRecDepth 20000 in
theorem ggX5_make_X5_goes : GoodIn wsX5_make wsX5_goes := goodIn_r _ [18, 19, 32, 33, 34, 35, 36, 37, 38, 39, 40, 41, 42, 43, 44] (by decide +kernel) (by decide +kernel)
set_option maxRecDepth 20000 in
theorem gX5_make_X5_goes : GoodIn wsX5_make (wsV RX5 55 RX5 yX5_goes wsX5_goes) := goodIn_app (goodIn_of _ (by decide +kernel)) ggX5_make_X5_goes
set_option maxRecDepth 20000 in
theorem ggX5_make_X5_takes : GoodIn wsX5_make wsX5_takes := goodIn_r _ [23, 14, 32, 33, 34, 35, 36, 37, 38, 39, 40, 41, 42, 43, 44] (by decide +kernel) (by decide +kernel)
set_option maxRecDepth 20000 in
theorem gX5_make_X5_takes : GoodIn wsX5_make (wsV RX5 59 RX5 yX5_takes wsX5_takes) := goodIn_app (goodIn_of _ (by decide +kernel)) ggX5_make_X5_takes
set_option maxRecDepth 20000 in
theorem ggX5_make_X5_place : GoodIn wsX5_make wsX5_place := goodIn_r _ [27, 4, 32, 33, 34, 35, 36, 37, 38, 39, 40, 41, 42, 43, 44] (by decide +kernel) (by decide +kernel)
set_option maxRecDepth 20000 in
theorem gX5_make_X5_place : GoodIn wsX5_make (wsV RX5 63 RX5 yX5_place wsX5_place) := goodIn_app (goodIn_of _ (by decide +kernel)) ggX5_make_X5_place
set_option maxRecDepth 20000 in
theorem ggX5_make_X5_byRule : GoodIn wsX5_make wsX5_byRule := goodIn_r _ [31, 2, 32, 33, 34, 35, 36, 37, 38, 39, 40, 41, 42, 43, 44] (by decide +kernel) (by decide +kernel)
set_option maxRecDepth 20000 in
theorem gX5_make_X5_byRule : GoodIn wsX5_make (wsV RX5 67 RX5 yX5_byRule wsX5_byRule) := goodIn_app (goodIn_of _ (by decide +kernel)) ggX5_make_X5_byRule
theorem dX5_make_0 : decode cX5_make 0 = .ok (.aload_n 0, 1) := by decide +kernel
theorem dX5_make_1 : decode cX5_make 1 = .ok (.iload_n 1, 1) := by decide +kernel
theorem dX5_make_2 : decode cX5_make 2 = .ok (.iconst 1, 1) := by decide +kernel
theorem dX5_make_3 : decode cX5_make 3 = .ok (.bipush 8, 2) := by decide +kernel
theorem dX5_make_5 : decode cX5_make 5 = .ok (.invokestatic 47, 3) := by decide +kernel
theorem dX5_make_8 : decode cX5_make 8 = .ok (.ifCond .eq 18, 3) := by decide +kernel
theorem dX5_make_11 : decode cX5_make 11 = .ok (.iload_n 2, 1) := by decide +kernel
theorem dX5_make_12 : decode cX5_make 12 = .ok (.iconst 0, 1) := by decide +kernel
theorem dX5_make_13 : decode cX5_make 13 = .ok (.sipush 10000, 3) := by decide +kernel
theorem dX5_make_16 : decode cX5_make 16 = .ok (.invokestatic 47, 3) := by decide +kernel
theorem dX5_make_19 : decode cX5_make 19 = .ok (.ifCond .eq 7, 3) := by decide +kernel
theorem dX5_make_22 : decode cX5_make 22 = .ok (.iconst 1, 1) := by decide +kernel
theorem dX5_make_23 : decode cX5_make 23 = .ok (.goto 4, 3) := by decide +kernel
theorem dX5_make_26 : decode cX5_make 26 = .ok (.iconst 0, 1) := by decide +kernel
theorem dX5_make_27 : decode cX5_make 27 = .ok (.iload_n 1, 1) := by decide +kernel
theorem dX5_make_28 : decode cX5_make 28 = .ok (.aload_n 0, 1) := by decide +kernel
theorem dX5_make_29 : decode cX5_make 29 = .ok (.invokevirtual 51, 3) := by decide +kernel
theorem dX5_make_32 : decode cX5_make 32 = .ok (.if_icmp .gt 16, 3) := by decide +kernel
theorem dX5_make_35 : decode cX5_make 35 = .ok (.aload_n 0, 1) := by decide +kernel
theorem dX5_make_36 : decode cX5_make 36 = .ok (.getfield 44, 3) := by decide +kernel
theorem dX5_make_39 : decode cX5_make 39 = .ok (.bipush 30, 2) := by decide +kernel
theorem dX5_make_41 : decode cX5_make 41 = .ok (.if_icmp .ge 7, 3) := by decide +kernel
theorem dX5_make_44 : decode cX5_make 44 = .ok (.iconst 1, 1) := by decide +kernel
theorem dX5_make_45 : decode cX5_make 45 = .ok (.goto 4, 3) := by decide +kernel
theorem dX5_make_48 : decode cX5_make 48 = .ok (.iconst 0, 1) := by decide +kernel
theorem dX5_make_49 : decode cX5_make 49 = .ok (.iconst 1, 1) := by decide +kernel
theorem dX5_make_50 : decode cX5_make 50 = .ok (.invokevirtual 55, 3) := by decide +kernel
theorem dX5_make_53 : decode cX5_make 53 = .ok (.ifCond .ne 5, 3) := by decide +kernel
theorem dX5_make_56 : decode cX5_make 56 = .ok (.iconst 0, 1) := by decide +kernel
theorem dX5_make_57 : decode cX5_make 57 = .ok (.ireturn, 1) := by decide +kernel
theorem dX5_make_58 : decode cX5_make 58 = .ok (.aload_n 0, 1) := by decide +kernel
theorem dX5_make_59 : decode cX5_make 59 = .ok (.getfield 16, 3) := by decide +kernel
theorem dX5_make_62 : decode cX5_make 62 = .ok (.aload_n 0, 1) := by decide +kernel
theorem dX5_make_63 : decode cX5_make 63 = .ok (.getfield 44, 3) := by decide +kernel
theorem dX5_make_66 : decode cX5_make 66 = .ok (.iload_n 2, 1) := by decide +kernel
theorem dX5_make_67 : decode cX5_make 67 = .ok (.iastore, 1) := by decide +kernel
theorem dX5_make_68 : decode cX5_make 68 = .ok (.aload_n 0, 1) := by decide +kernel
theorem dX5_make_69 : decode cX5_make 69 = .ok (.getfield 19, 3) := by decide +kernel
theorem dX5_make_72 : decode cX5_make 72 = .ok (.aload_n 0, 1) := by decide +kernel
theorem dX5_make_73 : decode cX5_make 73 = .ok (.getfield 44, 3) := by decide +kernel
theorem dX5_make_76 : decode cX5_make 76 = .ok (.iload_n 1, 1) := by decide +kernel
theorem dX5_make_77 : decode cX5_make 77 = .ok (.iastore, 1) := by decide +kernel
theorem dX5_make_78 : decode cX5_make 78 = .ok (.iconst 0, 1) := by decide +kernel
theorem dX5_make_79 : decode cX5_make 79 = .ok (.istore_n 3, 1) := by decide +kernel
theorem dX5_make_80 : decode cX5_make 80 = .ok (.iload_n 3, 1) := by decide +kernel
theorem dX5_make_81 : decode cX5_make 81 = .ok (.iload_n 1, 1) := by decide +kernel
theorem dX5_make_82 : decode cX5_make 82 = .ok (.if_icmp .ge 31, 3) := by decide +kernel
theorem dX5_make_85 : decode cX5_make 85 = .ok (.aload_n 0, 1) := by decide +kernel
theorem dX5_make_86 : decode cX5_make 86 = .ok (.getfield 31, 3) := by decide +kernel
theorem dX5_make_89 : decode cX5_make 89 = .ok (.bipush 8, 2) := by decide +kernel
theorem dX5_make_91 : decode cX5_make 91 = .ok (.aload_n 0, 1) := by decide +kernel
theorem dX5_make_92 : decode cX5_make 92 = .ok (.getfield 44, 3) := by decide +kernel
theorem dX5_make_95 : decode cX5_make 95 = .ok (.imul, 1) := by decide +kernel
theorem dX5_make_96 : decode cX5_make 96 = .ok (.iload_n 3, 1) := by decide +kernel
theorem dX5_make_97 : decode cX5_make 97 = .ok (.iadd, 1) := by decide +kernel
theorem dX5_make_98 : decode cX5_make 98 = .ok (.aload_n 0, 1) := by decide +kernel
theorem dX5_make_99 : decode cX5_make 99 = .ok (.aload_n 0, 1) := by decide +kernel
theorem dX5_make_100 : decode cX5_make 100 = .ok (.getfield 44, 3) := by decide +kernel
theorem dX5_make_103 : decode cX5_make 103 = .ok (.invokevirtual 59, 3) := by decide +kernel
theorem dX5_make_106 : decode cX5_make 106 = .ok (.iastore, 1) := by decide +kernel
theorem dX5_make_107 : decode cX5_make 107 = .ok (.iinc 3 1, 3) := by decide +kernel
theorem dX5_make_110 : decode cX5_make 110 = .ok (.goto (-30), 3) := by decide +kernel
theorem dX5_make_113 : decode cX5_make 113 = .ok (.iconst 4, 1) := by decide +kernel
theorem dX5_make_114 : decode cX5_make 114 = .ok (.iload_n 1, 1) := by decide +kernel
theorem dX5_make_115 : decode cX5_make 115 = .ok (.imul, 1) := by decide +kernel
theorem dX5_make_116 : decode cX5_make 116 = .ok (.istore_n 3, 1) := by decide +kernel
theorem dX5_make_117 : decode cX5_make 117 = .ok (.iconst 0, 1) := by decide +kernel
theorem dX5_make_118 : decode cX5_make 118 = .ok (.istore 4, 2) := by decide +kernel
theorem dX5_make_120 : decode cX5_make 120 = .ok (.iload 4, 2) := by decide +kernel
theorem dX5_make_122 : decode cX5_make 122 = .ok (.iload_n 3, 1) := by decide +kernel
theorem dX5_make_123 : decode cX5_make 123 = .ok (.if_icmp .ge 59, 3) := by decide +kernel
theorem dX5_make_126 : decode cX5_make 126 = .ok (.aload_n 0, 1) := by decide +kernel
theorem dX5_make_127 : decode cX5_make 127 = .ok (.getfield 7, 3) := by decide +kernel
theorem dX5_make_130 : decode cX5_make 130 = .ok (.aload_n 0, 1) := by decide +kernel
theorem dX5_make_131 : decode cX5_make 131 = .ok (.aload_n 0, 1) := by decide +kernel
theorem dX5_make_132 : decode cX5_make 132 = .ok (.getfield 44, 3) := by decide +kernel
theorem dX5_make_135 : decode cX5_make 135 = .ok (.iload 4, 2) := by decide +kernel
theorem dX5_make_137 : decode cX5_make 137 = .ok (.invokevirtual 63, 3) := by decide +kernel
theorem dX5_make_140 : decode cX5_make 140 = .ok (.iload 4, 2) := by decide +kernel
theorem dX5_make_142 : decode cX5_make 142 = .ok (.ifCond .ne 9, 3) := by decide +kernel
theorem dX5_make_145 : decode cX5_make 145 = .ok (.sipush 255, 3) := by decide +kernel
theorem dX5_make_148 : decode cX5_make 148 = .ok (.goto 27, 3) := by decide +kernel
theorem dX5_make_151 : decode cX5_make 151 = .ok (.iload 4, 2) := by decide +kernel
theorem dX5_make_153 : decode cX5_make 153 = .ok (.iload_n 3, 1) := by decide +kernel
theorem dX5_make_154 : decode cX5_make 154 = .ok (.iconst 1, 1) := by decide +kernel
theorem dX5_make_155 : decode cX5_make 155 = .ok (.isub, 1) := by decide +kernel
theorem dX5_make_156 : decode cX5_make 156 = .ok (.if_icmp .ne 9, 3) := by decide +kernel
theorem dX5_make_159 : decode cX5_make 159 = .ok (.sipush 254, 3) := by decide +kernel
theorem dX5_make_162 : decode cX5_make 162 = .ok (.goto 13, 3) := by decide +kernel
theorem dX5_make_165 : decode cX5_make 165 = .ok (.aload_n 0, 1) := by decide +kernel
theorem dX5_make_166 : decode cX5_make 166 = .ok (.aload_n 0, 1) := by decide +kernel
theorem dX5_make_167 : decode cX5_make 167 = .ok (.getfield 44, 3) := by decide +kernel
theorem dX5_make_170 : decode cX5_make 170 = .ok (.iload 4, 2) := by decide +kernel
theorem dX5_make_172 : decode cX5_make 172 = .ok (.invokevirtual 67, 3) := by decide +kernel
theorem dX5_make_175 : decode cX5_make 175 = .ok (.iastore, 1) := by decide +kernel
theorem dX5_make_176 : decode cX5_make 176 = .ok (.iinc 4 1, 3) := by decide +kernel
theorem dX5_make_179 : decode cX5_make 179 = .ok (.goto (-59), 3) := by decide +kernel
theorem dX5_make_182 : decode cX5_make 182 = .ok (.aload_n 0, 1) := by decide +kernel
theorem dX5_make_183 : decode cX5_make 183 = .ok (.dup, 1) := by decide +kernel
theorem dX5_make_184 : decode cX5_make 184 = .ok (.getfield 44, 3) := by decide +kernel
theorem dX5_make_187 : decode cX5_make 187 = .ok (.iconst 1, 1) := by decide +kernel
theorem dX5_make_188 : decode cX5_make 188 = .ok (.iadd, 1) := by decide +kernel
theorem dX5_make_189 : decode cX5_make 189 = .ok (.putfield 44, 3) := by decide +kernel
theorem dX5_make_192 : decode cX5_make 192 = .ok (.aload_n 0, 1) := by decide +kernel
theorem dX5_make_193 : decode cX5_make 193 = .ok (.getfield 44, 3) := by decide +kernel
theorem dX5_make_196 : decode cX5_make 196 = .ok (.iconst 1, 1) := by decide +kernel
theorem dX5_make_197 : decode cX5_make 197 = .ok (.isub, 1) := by decide +kernel
theorem dX5_make_198 : decode cX5_make 198 = .ok (.ireturn, 1) := by decide +kernel
set_option maxRecDepth 20000 in
theorem ggX5_grow_X5_isFile : GoodIn wsX5_grow wsX5_isFile := goodIn_r _ [8, 9, 10, 11, 7, 12, 41, 42, 43, 44, 45, 46, 47, 48, 49, 50, 51, 52, 53] (by decide +kernel) (by decide +kernel)
set_option maxRecDepth 20000 in
theorem gX5_grow_X5_isFile : GoodIn wsX5_grow (wsV RX5 70 RX5 yX5_isFile wsX5_isFile) := goodIn_app (goodIn_of _ (by decide +kernel)) ggX5_grow_X5_isFile
set_option maxRecDepth 20000 in
theorem ggX5_grow_X5_isGone : GoodIn wsX5_grow wsX5_isGone := goodIn_r _ [16, 17, 41, 42, 43, 44, 45, 46, 47, 48, 49, 50, 51, 52, 53] (by decide +kernel) (by decide +kernel)
set_option maxRecDepth 20000 in
theorem gX5_grow_X5_isGone : GoodIn wsX5_grow (wsV RX5 74 RX5 yX5_isGone wsX5_isGone) := goodIn_app (goodIn_of _ (by decide +kernel)) ggX5_grow_X5_isGone
set_option maxRecDepth 20000 in
theorem ggX5_grow_X5_frees : GoodIn wsX5_grow wsX5_frees := goodIn_r _ [21, 22, 41, 42, 43, 44, 45, 46, 47, 48, 49, 50, 51, 52, 53] (by decide +kernel) (by decide +kernel)
set_option maxRecDepth 20000 in
theorem gX5_grow_X5_frees : GoodIn wsX5_grow (wsV RX5 51 RX5 yX5_frees wsX5_frees) := goodIn_app (goodIn_of _ (by decide +kernel)) ggX5_grow_X5_frees
set_option maxRecDepth 20000 in
theorem ggX5_grow_X5_goes : GoodIn wsX5_grow wsX5_goes := goodIn_r _ [26, 27, 41, 42, 43, 44, 45, 46, 47, 48, 49, 50, 51, 52, 53] (by decide +kernel) (by decide +kernel)
set_option maxRecDepth 20000 in
theorem gX5_grow_X5_goes : GoodIn wsX5_grow (wsV RX5 55 RX5 yX5_goes wsX5_goes) := goodIn_app (goodIn_of _ (by decide +kernel)) ggX5_grow_X5_goes
set_option maxRecDepth 20000 in
theorem ggX5_grow_X5_takes : GoodIn wsX5_grow wsX5_takes := goodIn_r _ [31, 22, 41, 42, 43, 44, 45, 46, 47, 48, 49, 50, 51, 52, 53] (by decide +kernel) (by decide +kernel)
set_option maxRecDepth 20000 in
theorem gX5_grow_X5_takes : GoodIn wsX5_grow (wsV RX5 59 RX5 yX5_takes wsX5_takes) := goodIn_app (goodIn_of _ (by decide +kernel)) ggX5_grow_X5_takes
set_option maxRecDepth 20000 in
theorem ggX5_grow_X5_place : GoodIn wsX5_grow wsX5_place := goodIn_r _ [35, 2, 41, 42, 43, 44, 45, 46, 47, 48, 49, 50, 51, 52, 53] (by decide +kernel) (by decide +kernel)
set_option maxRecDepth 20000 in
theorem gX5_grow_X5_place : GoodIn wsX5_grow (wsV RX5 63 RX5 yX5_place wsX5_place) := goodIn_app (goodIn_of _ (by decide +kernel)) ggX5_grow_X5_place
set_option maxRecDepth 20000 in
theorem ggX5_grow_X5_byRule : GoodIn wsX5_grow wsX5_byRule := goodIn_r _ [39, 40, 41, 42, 43, 44, 45, 46, 47, 48, 49, 50, 51, 52, 53] (by decide +kernel) (by decide +kernel)
set_option maxRecDepth 20000 in
theorem gX5_grow_X5_byRule : GoodIn wsX5_grow (wsV RX5 67 RX5 yX5_byRule wsX5_byRule) := goodIn_app (goodIn_of _ (by decide +kernel)) ggX5_grow_X5_byRule
theorem dX5_grow_0 : decode cX5_grow 0 = .ok (.aload_n 0, 1) := by decide +kernel
theorem dX5_grow_1 : decode cX5_grow 1 = .ok (.iload_n 1, 1) := by decide +kernel
theorem dX5_grow_2 : decode cX5_grow 2 = .ok (.invokevirtual 70, 3) := by decide +kernel
theorem dX5_grow_5 : decode cX5_grow 5 = .ok (.istore_n 2, 1) := by decide +kernel
theorem dX5_grow_6 : decode cX5_grow 6 = .ok (.aload_n 0, 1) := by decide +kernel
theorem dX5_grow_7 : decode cX5_grow 7 = .ok (.iload_n 2, 1) := by decide +kernel
theorem dX5_grow_8 : decode cX5_grow 8 = .ok (.iload_n 2, 1) := by decide +kernel
theorem dX5_grow_9 : decode cX5_grow 9 = .ok (.ifCond .eq 33, 3) := by decide +kernel
theorem dX5_grow_12 : decode cX5_grow 12 = .ok (.aload_n 0, 1) := by decide +kernel
theorem dX5_grow_13 : decode cX5_grow 13 = .ok (.iload_n 1, 1) := by decide +kernel
theorem dX5_grow_14 : decode cX5_grow 14 = .ok (.invokevirtual 74, 3) := by decide +kernel
theorem dX5_grow_17 : decode cX5_grow 17 = .ok (.ifCond .ne 25, 3) := by decide +kernel
theorem dX5_grow_20 : decode cX5_grow 20 = .ok (.aload_n 0, 1) := by decide +kernel
theorem dX5_grow_21 : decode cX5_grow 21 = .ok (.getfield 19, 3) := by decide +kernel
theorem dX5_grow_24 : decode cX5_grow 24 = .ok (.iload_n 1, 1) := by decide +kernel
theorem dX5_grow_25 : decode cX5_grow 25 = .ok (.iaload, 1) := by decide +kernel
theorem dX5_grow_26 : decode cX5_grow 26 = .ok (.bipush 8, 2) := by decide +kernel
theorem dX5_grow_28 : decode cX5_grow 28 = .ok (.if_icmp .ge 14, 3) := by decide +kernel
theorem dX5_grow_31 : decode cX5_grow 31 = .ok (.aload_n 0, 1) := by decide +kernel
theorem dX5_grow_32 : decode cX5_grow 32 = .ok (.invokevirtual 51, 3) := by decide +kernel
theorem dX5_grow_35 : decode cX5_grow 35 = .ok (.ifCond .le 7, 3) := by decide +kernel
theorem dX5_grow_38 : decode cX5_grow 38 = .ok (.iconst 1, 1) := by decide +kernel
theorem dX5_grow_39 : decode cX5_grow 39 = .ok (.goto 4, 3) := by decide +kernel
theorem dX5_grow_42 : decode cX5_grow 42 = .ok (.iconst 0, 1) := by decide +kernel
theorem dX5_grow_43 : decode cX5_grow 43 = .ok (.iconst 1, 1) := by decide +kernel
theorem dX5_grow_44 : decode cX5_grow 44 = .ok (.invokevirtual 55, 3) := by decide +kernel
theorem dX5_grow_47 : decode cX5_grow 47 = .ok (.ifCond .ne 5, 3) := by decide +kernel
theorem dX5_grow_50 : decode cX5_grow 50 = .ok (.iconst 0, 1) := by decide +kernel
theorem dX5_grow_51 : decode cX5_grow 51 = .ok (.ireturn, 1) := by decide +kernel
theorem dX5_grow_52 : decode cX5_grow 52 = .ok (.iconst 4, 1) := by decide +kernel
theorem dX5_grow_53 : decode cX5_grow 53 = .ok (.aload_n 0, 1) := by decide +kernel
theorem dX5_grow_54 : decode cX5_grow 54 = .ok (.getfield 19, 3) := by decide +kernel
theorem dX5_grow_57 : decode cX5_grow 57 = .ok (.iload_n 1, 1) := by decide +kernel
theorem dX5_grow_58 : decode cX5_grow 58 = .ok (.iaload, 1) := by decide +kernel
theorem dX5_grow_59 : decode cX5_grow 59 = .ok (.imul, 1) := by decide +kernel
theorem dX5_grow_60 : decode cX5_grow 60 = .ok (.istore_n 3, 1) := by decide +kernel
theorem dX5_grow_61 : decode cX5_grow 61 = .ok (.aload_n 0, 1) := by decide +kernel
theorem dX5_grow_62 : decode cX5_grow 62 = .ok (.iload_n 1, 1) := by decide +kernel
theorem dX5_grow_63 : decode cX5_grow 63 = .ok (.invokevirtual 59, 3) := by decide +kernel
theorem dX5_grow_66 : decode cX5_grow 66 = .ok (.istore 4, 2) := by decide +kernel
theorem dX5_grow_68 : decode cX5_grow 68 = .ok (.aload_n 0, 1) := by decide +kernel
theorem dX5_grow_69 : decode cX5_grow 69 = .ok (.getfield 31, 3) := by decide +kernel
theorem dX5_grow_72 : decode cX5_grow 72 = .ok (.bipush 8, 2) := by decide +kernel
theorem dX5_grow_74 : decode cX5_grow 74 = .ok (.iload_n 1, 1) := by decide +kernel
theorem dX5_grow_75 : decode cX5_grow 75 = .ok (.imul, 1) := by decide +kernel
theorem dX5_grow_76 : decode cX5_grow 76 = .ok (.aload_n 0, 1) := by decide +kernel
theorem dX5_grow_77 : decode cX5_grow 77 = .ok (.getfield 19, 3) := by decide +kernel
theorem dX5_grow_80 : decode cX5_grow 80 = .ok (.iload_n 1, 1) := by decide +kernel
theorem dX5_grow_81 : decode cX5_grow 81 = .ok (.iaload, 1) := by decide +kernel
theorem dX5_grow_82 : decode cX5_grow 82 = .ok (.iadd, 1) := by decide +kernel
theorem dX5_grow_83 : decode cX5_grow 83 = .ok (.iload 4, 2) := by decide +kernel
theorem dX5_grow_85 : decode cX5_grow 85 = .ok (.iastore, 1) := by decide +kernel
theorem dX5_grow_86 : decode cX5_grow 86 = .ok (.aload_n 0, 1) := by decide +kernel
theorem dX5_grow_87 : decode cX5_grow 87 = .ok (.getfield 19, 3) := by decide +kernel
theorem dX5_grow_90 : decode cX5_grow 90 = .ok (.iload_n 1, 1) := by decide +kernel
theorem dX5_grow_91 : decode cX5_grow 91 = .ok (.dup2, 1) := by decide +kernel
theorem dX5_grow_92 : decode cX5_grow 92 = .ok (.iaload, 1) := by decide +kernel
theorem dX5_grow_93 : decode cX5_grow 93 = .ok (.iconst 1, 1) := by decide +kernel
theorem dX5_grow_94 : decode cX5_grow 94 = .ok (.iadd, 1) := by decide +kernel
theorem dX5_grow_95 : decode cX5_grow 95 = .ok (.iastore, 1) := by decide +kernel
theorem dX5_grow_96 : decode cX5_grow 96 = .ok (.iload_n 3, 1) := by decide +kernel
theorem dX5_grow_97 : decode cX5_grow 97 = .ok (.iconst 1, 1) := by decide +kernel
theorem dX5_grow_98 : decode cX5_grow 98 = .ok (.isub, 1) := by decide +kernel
theorem dX5_grow_99 : decode cX5_grow 99 = .ok (.istore 5, 2) := by decide +kernel
theorem dX5_grow_101 : decode cX5_grow 101 = .ok (.iload 5, 2) := by decide +kernel
theorem dX5_grow_103 : decode cX5_grow 103 = .ok (.iload_n 3, 1) := by decide +kernel
theorem dX5_grow_104 : decode cX5_grow 104 = .ok (.iconst 4, 1) := by decide +kernel
theorem dX5_grow_105 : decode cX5_grow 105 = .ok (.iadd, 1) := by decide +kernel
theorem dX5_grow_106 : decode cX5_grow 106 = .ok (.if_icmp .ge 44, 3) := by decide +kernel
theorem dX5_grow_109 : decode cX5_grow 109 = .ok (.aload_n 0, 1) := by decide +kernel
theorem dX5_grow_110 : decode cX5_grow 110 = .ok (.getfield 7, 3) := by decide +kernel
theorem dX5_grow_113 : decode cX5_grow 113 = .ok (.aload_n 0, 1) := by decide +kernel
theorem dX5_grow_114 : decode cX5_grow 114 = .ok (.iload_n 1, 1) := by decide +kernel
theorem dX5_grow_115 : decode cX5_grow 115 = .ok (.iload 5, 2) := by decide +kernel
theorem dX5_grow_117 : decode cX5_grow 117 = .ok (.invokevirtual 63, 3) := by decide +kernel
theorem dX5_grow_120 : decode cX5_grow 120 = .ok (.iload 5, 2) := by decide +kernel
theorem dX5_grow_122 : decode cX5_grow 122 = .ok (.iload_n 3, 1) := by decide +kernel
theorem dX5_grow_123 : decode cX5_grow 123 = .ok (.iconst 4, 1) := by decide +kernel
theorem dX5_grow_124 : decode cX5_grow 124 = .ok (.iadd, 1) := by decide +kernel
theorem dX5_grow_125 : decode cX5_grow 125 = .ok (.iconst 1, 1) := by decide +kernel
theorem dX5_grow_126 : decode cX5_grow 126 = .ok (.isub, 1) := by decide +kernel
theorem dX5_grow_127 : decode cX5_grow 127 = .ok (.if_icmp .ne 9, 3) := by decide +kernel
theorem dX5_grow_130 : decode cX5_grow 130 = .ok (.sipush 254, 3) := by decide +kernel
theorem dX5_grow_133 : decode cX5_grow 133 = .ok (.goto 10, 3) := by decide +kernel
theorem dX5_grow_136 : decode cX5_grow 136 = .ok (.aload_n 0, 1) := by decide +kernel
theorem dX5_grow_137 : decode cX5_grow 137 = .ok (.iload_n 1, 1) := by decide +kernel
theorem dX5_grow_138 : decode cX5_grow 138 = .ok (.iload 5, 2) := by decide +kernel
theorem dX5_grow_140 : decode cX5_grow 140 = .ok (.invokevirtual 67, 3) := by decide +kernel
theorem dX5_grow_143 : decode cX5_grow 143 = .ok (.iastore, 1) := by decide +kernel
theorem dX5_grow_144 : decode cX5_grow 144 = .ok (.iinc 5 1, 3) := by decide +kernel
theorem dX5_grow_147 : decode cX5_grow 147 = .ok (.goto (-46), 3) := by decide +kernel
theorem dX5_grow_150 : decode cX5_grow 150 = .ok (.iload 4, 2) := by decide +kernel
theorem dX5_grow_152 : decode cX5_grow 152 = .ok (.ireturn, 1) := by decide +kernel
set_option maxRecDepth 20000 in
theorem ggX5_move_X5_isFile : GoodIn wsX5_move wsX5_isFile := goodIn_r _ [9, 10, 11, 12, 8, 13, 32, 33, 34, 35, 36, 37, 38, 39, 40, 41, 42, 43, 44] (by decide +kernel) (by decide +kernel)
set_option maxRecDepth 20000 in
theorem gX5_move_X5_isFile : GoodIn wsX5_move (wsV RX5 70 RX5 yX5_isFile wsX5_isFile) := goodIn_app (goodIn_of _ (by decide +kernel)) ggX5_move_X5_isFile
set_option maxRecDepth 20000 in
theorem ggX5_move_X5_isGone : GoodIn wsX5_move wsX5_isGone := goodIn_r _ [17, 18, 32, 33, 34, 35, 36, 37, 38, 39, 40, 41, 42, 43, 44] (by decide +kernel) (by decide +kernel)
set_option maxRecDepth 20000 in
theorem gX5_move_X5_isGone : GoodIn wsX5_move (wsV RX5 74 RX5 yX5_isGone wsX5_isGone) := goodIn_app (goodIn_of _ (by decide +kernel)) ggX5_move_X5_isGone
set_option maxRecDepth 20000 in
theorem ggX5_move_X5_frees : GoodIn wsX5_move wsX5_frees := goodIn_r _ [22, 4, 32, 33, 34, 35, 36, 37, 38, 39, 40, 41, 42, 43, 44] (by decide +kernel) (by decide +kernel)
set_option maxRecDepth 20000 in
theorem gX5_move_X5_frees : GoodIn wsX5_move (wsV RX5 51 RX5 yX5_frees wsX5_frees) := goodIn_app (goodIn_of _ (by decide +kernel)) ggX5_move_X5_frees
set_option maxRecDepth 20000 in
theorem ggX5_move_X5_goes : GoodIn wsX5_move wsX5_goes := goodIn_r _ [26, 27, 32, 33, 34, 35, 36, 37, 38, 39, 40, 41, 42, 43, 44] (by decide +kernel) (by decide +kernel)
set_option maxRecDepth 20000 in
theorem gX5_move_X5_goes : GoodIn wsX5_move (wsV RX5 55 RX5 yX5_goes wsX5_goes) := goodIn_app (goodIn_of _ (by decide +kernel)) ggX5_move_X5_goes
set_option maxRecDepth 20000 in
theorem ggX5_move_X5_takes : GoodIn wsX5_move wsX5_takes := goodIn_r _ [31, 4, 32, 33, 34, 35, 36, 37, 38, 39, 40, 41, 42, 43, 44] (by decide +kernel) (by decide +kernel)
set_option maxRecDepth 20000 in
theorem gX5_move_X5_takes : GoodIn wsX5_move (wsV RX5 59 RX5 yX5_takes wsX5_takes) := goodIn_app (goodIn_of _ (by decide +kernel)) ggX5_move_X5_takes
theorem dX5_move_0 : decode cX5_move 0 = .ok (.aload_n 0, 1) := by decide +kernel
theorem dX5_move_1 : decode cX5_move 1 = .ok (.iload_n 1, 1) := by decide +kernel
theorem dX5_move_2 : decode cX5_move 2 = .ok (.invokevirtual 70, 3) := by decide +kernel
theorem dX5_move_5 : decode cX5_move 5 = .ok (.istore_n 2, 1) := by decide +kernel
theorem dX5_move_6 : decode cX5_move 6 = .ok (.aload_n 0, 1) := by decide +kernel
theorem dX5_move_7 : decode cX5_move 7 = .ok (.iload_n 2, 1) := by decide +kernel
theorem dX5_move_8 : decode cX5_move 8 = .ok (.iload_n 2, 1) := by decide +kernel
theorem dX5_move_9 : decode cX5_move 9 = .ok (.ifCond .eq 28, 3) := by decide +kernel
theorem dX5_move_12 : decode cX5_move 12 = .ok (.aload_n 0, 1) := by decide +kernel
theorem dX5_move_13 : decode cX5_move 13 = .ok (.iload_n 1, 1) := by decide +kernel
theorem dX5_move_14 : decode cX5_move 14 = .ok (.invokevirtual 74, 3) := by decide +kernel
theorem dX5_move_17 : decode cX5_move 17 = .ok (.ifCond .ne 20, 3) := by decide +kernel
theorem dX5_move_20 : decode cX5_move 20 = .ok (.aload_n 0, 1) := by decide +kernel
theorem dX5_move_21 : decode cX5_move 21 = .ok (.getfield 19, 3) := by decide +kernel
theorem dX5_move_24 : decode cX5_move 24 = .ok (.iload_n 1, 1) := by decide +kernel
theorem dX5_move_25 : decode cX5_move 25 = .ok (.iaload, 1) := by decide +kernel
theorem dX5_move_26 : decode cX5_move 26 = .ok (.aload_n 0, 1) := by decide +kernel
theorem dX5_move_27 : decode cX5_move 27 = .ok (.invokevirtual 51, 3) := by decide +kernel
theorem dX5_move_30 : decode cX5_move 30 = .ok (.if_icmp .gt 7, 3) := by decide +kernel
theorem dX5_move_33 : decode cX5_move 33 = .ok (.iconst 1, 1) := by decide +kernel
theorem dX5_move_34 : decode cX5_move 34 = .ok (.goto 4, 3) := by decide +kernel
theorem dX5_move_37 : decode cX5_move 37 = .ok (.iconst 0, 1) := by decide +kernel
theorem dX5_move_38 : decode cX5_move 38 = .ok (.iconst 1, 1) := by decide +kernel
theorem dX5_move_39 : decode cX5_move 39 = .ok (.invokevirtual 55, 3) := by decide +kernel
theorem dX5_move_42 : decode cX5_move 42 = .ok (.ifCond .ne 5, 3) := by decide +kernel
theorem dX5_move_45 : decode cX5_move 45 = .ok (.iconst 0, 1) := by decide +kernel
theorem dX5_move_46 : decode cX5_move 46 = .ok (.ireturn, 1) := by decide +kernel
theorem dX5_move_47 : decode cX5_move 47 = .ok (.iconst 0, 1) := by decide +kernel
theorem dX5_move_48 : decode cX5_move 48 = .ok (.istore_n 3, 1) := by decide +kernel
theorem dX5_move_49 : decode cX5_move 49 = .ok (.iload_n 3, 1) := by decide +kernel
theorem dX5_move_50 : decode cX5_move 50 = .ok (.aload_n 0, 1) := by decide +kernel
theorem dX5_move_51 : decode cX5_move 51 = .ok (.getfield 19, 3) := by decide +kernel
theorem dX5_move_54 : decode cX5_move 54 = .ok (.iload_n 1, 1) := by decide +kernel
theorem dX5_move_55 : decode cX5_move 55 = .ok (.iaload, 1) := by decide +kernel
theorem dX5_move_56 : decode cX5_move 56 = .ok (.if_icmp .ge 81, 3) := by decide +kernel
theorem dX5_move_59 : decode cX5_move 59 = .ok (.aload_n 0, 1) := by decide +kernel
theorem dX5_move_60 : decode cX5_move 60 = .ok (.getfield 31, 3) := by decide +kernel
theorem dX5_move_63 : decode cX5_move 63 = .ok (.bipush 8, 2) := by decide +kernel
theorem dX5_move_65 : decode cX5_move 65 = .ok (.iload_n 1, 1) := by decide +kernel
theorem dX5_move_66 : decode cX5_move 66 = .ok (.imul, 1) := by decide +kernel
theorem dX5_move_67 : decode cX5_move 67 = .ok (.iload_n 3, 1) := by decide +kernel
theorem dX5_move_68 : decode cX5_move 68 = .ok (.iadd, 1) := by decide +kernel
theorem dX5_move_69 : decode cX5_move 69 = .ok (.iaload, 1) := by decide +kernel
theorem dX5_move_70 : decode cX5_move 70 = .ok (.istore 4, 2) := by decide +kernel
theorem dX5_move_72 : decode cX5_move 72 = .ok (.aload_n 0, 1) := by decide +kernel
theorem dX5_move_73 : decode cX5_move 73 = .ok (.iload_n 1, 1) := by decide +kernel
theorem dX5_move_74 : decode cX5_move 74 = .ok (.invokevirtual 59, 3) := by decide +kernel
theorem dX5_move_77 : decode cX5_move 77 = .ok (.istore 5, 2) := by decide +kernel
theorem dX5_move_79 : decode cX5_move 79 = .ok (.iconst 0, 1) := by decide +kernel
theorem dX5_move_80 : decode cX5_move 80 = .ok (.istore 6, 2) := by decide +kernel
theorem dX5_move_82 : decode cX5_move 82 = .ok (.iload 6, 2) := by decide +kernel
theorem dX5_move_84 : decode cX5_move 84 = .ok (.iconst 4, 1) := by decide +kernel
theorem dX5_move_85 : decode cX5_move 85 = .ok (.if_icmp .ge 33, 3) := by decide +kernel
theorem dX5_move_88 : decode cX5_move 88 = .ok (.aload_n 0, 1) := by decide +kernel
theorem dX5_move_89 : decode cX5_move 89 = .ok (.getfield 7, 3) := by decide +kernel
theorem dX5_move_92 : decode cX5_move 92 = .ok (.iconst 4, 1) := by decide +kernel
theorem dX5_move_93 : decode cX5_move 93 = .ok (.iload 5, 2) := by decide +kernel
theorem dX5_move_95 : decode cX5_move 95 = .ok (.imul, 1) := by decide +kernel
theorem dX5_move_96 : decode cX5_move 96 = .ok (.iload 6, 2) := by decide +kernel
theorem dX5_move_98 : decode cX5_move 98 = .ok (.iadd, 1) := by decide +kernel
theorem dX5_move_99 : decode cX5_move 99 = .ok (.aload_n 0, 1) := by decide +kernel
theorem dX5_move_100 : decode cX5_move 100 = .ok (.getfield 7, 3) := by decide +kernel
theorem dX5_move_103 : decode cX5_move 103 = .ok (.iconst 4, 1) := by decide +kernel
theorem dX5_move_104 : decode cX5_move 104 = .ok (.iload 4, 2) := by decide +kernel
theorem dX5_move_106 : decode cX5_move 106 = .ok (.imul, 1) := by decide +kernel
theorem dX5_move_107 : decode cX5_move 107 = .ok (.iload 6, 2) := by decide +kernel
theorem dX5_move_109 : decode cX5_move 109 = .ok (.iadd, 1) := by decide +kernel
theorem dX5_move_110 : decode cX5_move 110 = .ok (.iaload, 1) := by decide +kernel
theorem dX5_move_111 : decode cX5_move 111 = .ok (.iastore, 1) := by decide +kernel
theorem dX5_move_112 : decode cX5_move 112 = .ok (.iinc 6 1, 3) := by decide +kernel
theorem dX5_move_115 : decode cX5_move 115 = .ok (.goto (-33), 3) := by decide +kernel
theorem dX5_move_118 : decode cX5_move 118 = .ok (.aload_n 0, 1) := by decide +kernel
theorem dX5_move_119 : decode cX5_move 119 = .ok (.getfield 31, 3) := by decide +kernel
theorem dX5_move_122 : decode cX5_move 122 = .ok (.bipush 8, 2) := by decide +kernel
theorem dX5_move_124 : decode cX5_move 124 = .ok (.iload_n 1, 1) := by decide +kernel
theorem dX5_move_125 : decode cX5_move 125 = .ok (.imul, 1) := by decide +kernel
theorem dX5_move_126 : decode cX5_move 126 = .ok (.iload_n 3, 1) := by decide +kernel
theorem dX5_move_127 : decode cX5_move 127 = .ok (.iadd, 1) := by decide +kernel
theorem dX5_move_128 : decode cX5_move 128 = .ok (.iload 5, 2) := by decide +kernel
theorem dX5_move_130 : decode cX5_move 130 = .ok (.iastore, 1) := by decide +kernel
theorem dX5_move_131 : decode cX5_move 131 = .ok (.iinc 3 1, 3) := by decide +kernel
theorem dX5_move_134 : decode cX5_move 134 = .ok (.goto (-85), 3) := by decide +kernel
theorem dX5_move_137 : decode cX5_move 137 = .ok (.iconst 0, 1) := by decide +kernel
theorem dX5_move_138 : decode cX5_move 138 = .ok (.istore_n 3, 1) := by decide +kernel
theorem dX5_move_139 : decode cX5_move 139 = .ok (.iload_n 3, 1) := by decide +kernel
theorem dX5_move_140 : decode cX5_move 140 = .ok (.bipush 40, 2) := by decide +kernel
theorem dX5_move_142 : decode cX5_move 142 = .ok (.if_icmp .ge 91, 3) := by decide +kernel
theorem dX5_move_145 : decode cX5_move 145 = .ok (.iconst 0, 1) := by decide +kernel
theorem dX5_move_146 : decode cX5_move 146 = .ok (.istore 4, 2) := by decide +kernel
theorem dX5_move_148 : decode cX5_move 148 = .ok (.iconst 0, 1) := by decide +kernel
theorem dX5_move_149 : decode cX5_move 149 = .ok (.istore 5, 2) := by decide +kernel
theorem dX5_move_151 : decode cX5_move 151 = .ok (.iload 5, 2) := by decide +kernel
theorem dX5_move_153 : decode cX5_move 153 = .ok (.aload_n 0, 1) := by decide +kernel
theorem dX5_move_154 : decode cX5_move 154 = .ok (.getfield 19, 3) := by decide +kernel
theorem dX5_move_157 : decode cX5_move 157 = .ok (.iload_n 1, 1) := by decide +kernel
theorem dX5_move_158 : decode cX5_move 158 = .ok (.iaload, 1) := by decide +kernel
theorem dX5_move_159 : decode cX5_move 159 = .ok (.if_icmp .ge 37, 3) := by decide +kernel
theorem dX5_move_162 : decode cX5_move 162 = .ok (.iload 4, 2) := by decide +kernel
theorem dX5_move_164 : decode cX5_move 164 = .ok (.ifCond .ne 19, 3) := by decide +kernel
theorem dX5_move_167 : decode cX5_move 167 = .ok (.aload_n 0, 1) := by decide +kernel
theorem dX5_move_168 : decode cX5_move 168 = .ok (.getfield 31, 3) := by decide +kernel
theorem dX5_move_171 : decode cX5_move 171 = .ok (.bipush 8, 2) := by decide +kernel
theorem dX5_move_173 : decode cX5_move 173 = .ok (.iload_n 1, 1) := by decide +kernel
theorem dX5_move_174 : decode cX5_move 174 = .ok (.imul, 1) := by decide +kernel
theorem dX5_move_175 : decode cX5_move 175 = .ok (.iload 5, 2) := by decide +kernel
theorem dX5_move_177 : decode cX5_move 177 = .ok (.iadd, 1) := by decide +kernel
theorem dX5_move_178 : decode cX5_move 178 = .ok (.iaload, 1) := by decide +kernel
theorem dX5_move_179 : decode cX5_move 179 = .ok (.iload_n 3, 1) := by decide +kernel
theorem dX5_move_180 : decode cX5_move 180 = .ok (.if_icmp .ne 7, 3) := by decide +kernel
theorem dX5_move_183 : decode cX5_move 183 = .ok (.iconst 1, 1) := by decide +kernel
theorem dX5_move_184 : decode cX5_move 184 = .ok (.goto 4, 3) := by decide +kernel
theorem dX5_move_187 : decode cX5_move 187 = .ok (.iconst 0, 1) := by decide +kernel
theorem dX5_move_188 : decode cX5_move 188 = .ok (.istore 4, 2) := by decide +kernel
theorem dX5_move_190 : decode cX5_move 190 = .ok (.iinc 5 1, 3) := by decide +kernel
theorem dX5_move_193 : decode cX5_move 193 = .ok (.goto (-42), 3) := by decide +kernel
theorem dX5_move_196 : decode cX5_move 196 = .ok (.aload_n 0, 1) := by decide +kernel
theorem dX5_move_197 : decode cX5_move 197 = .ok (.getfield 13, 3) := by decide +kernel
theorem dX5_move_200 : decode cX5_move 200 = .ok (.iload_n 3, 1) := by decide +kernel
theorem dX5_move_201 : decode cX5_move 201 = .ok (.aload_n 0, 1) := by decide +kernel
theorem dX5_move_202 : decode cX5_move 202 = .ok (.getfield 13, 3) := by decide +kernel
theorem dX5_move_205 : decode cX5_move 205 = .ok (.iload_n 3, 1) := by decide +kernel
theorem dX5_move_206 : decode cX5_move 206 = .ok (.iaload, 1) := by decide +kernel
theorem dX5_move_207 : decode cX5_move 207 = .ok (.iload_n 1, 1) := by decide +kernel
theorem dX5_move_208 : decode cX5_move 208 = .ok (.if_icmp .ne 12, 3) := by decide +kernel
theorem dX5_move_211 : decode cX5_move 211 = .ok (.iload 4, 2) := by decide +kernel
theorem dX5_move_213 : decode cX5_move 213 = .ok (.ifCond .ne 7, 3) := by decide +kernel
theorem dX5_move_216 : decode cX5_move 216 = .ok (.iconst (-1), 1) := by decide +kernel
theorem dX5_move_217 : decode cX5_move 217 = .ok (.goto 9, 3) := by decide +kernel
theorem dX5_move_220 : decode cX5_move 220 = .ok (.aload_n 0, 1) := by decide +kernel
theorem dX5_move_221 : decode cX5_move 221 = .ok (.getfield 13, 3) := by decide +kernel
theorem dX5_move_224 : decode cX5_move 224 = .ok (.iload_n 3, 1) := by decide +kernel
theorem dX5_move_225 : decode cX5_move 225 = .ok (.iaload, 1) := by decide +kernel
theorem dX5_move_226 : decode cX5_move 226 = .ok (.iastore, 1) := by decide +kernel
theorem dX5_move_227 : decode cX5_move 227 = .ok (.iinc 3 1, 3) := by decide +kernel
theorem dX5_move_230 : decode cX5_move 230 = .ok (.goto (-91), 3) := by decide +kernel
theorem dX5_move_233 : decode cX5_move 233 = .ok (.aload_n 0, 1) := by decide +kernel
theorem dX5_move_234 : decode cX5_move 234 = .ok (.getfield 31, 3) := by decide +kernel
theorem dX5_move_237 : decode cX5_move 237 = .ok (.bipush 8, 2) := by decide +kernel
theorem dX5_move_239 : decode cX5_move 239 = .ok (.iload_n 1, 1) := by decide +kernel
theorem dX5_move_240 : decode cX5_move 240 = .ok (.imul, 1) := by decide +kernel
theorem dX5_move_241 : decode cX5_move 241 = .ok (.iaload, 1) := by decide +kernel
theorem dX5_move_242 : decode cX5_move 242 = .ok (.ireturn, 1) := by decide +kernel
set_option maxRecDepth 20000 in
theorem ggX5_checksumOf_X5_place : GoodIn wsX5_checksumOf wsX5_place := goodIn_r _ [7, 8, 9, 10, 11, 12, 13, 14, 15, 16, 17, 18, 19, 20, 21] (by decide +kernel) (by decide +kernel)
set_option maxRecDepth 20000 in
theorem gX5_checksumOf_X5_place : GoodIn wsX5_checksumOf (wsV RX5 63 RX5 yX5_place wsX5_place) := goodIn_app (goodIn_of _ (by decide +kernel)) ggX5_checksumOf_X5_place
theorem dX5_checksumOf_0 : decode cX5_checksumOf 0 = .ok (.iconst 0, 1) := by decide +kernel
theorem dX5_checksumOf_1 : decode cX5_checksumOf 1 = .ok (.istore_n 2, 1) := by decide +kernel
theorem dX5_checksumOf_2 : decode cX5_checksumOf 2 = .ok (.iconst 0, 1) := by decide +kernel
theorem dX5_checksumOf_3 : decode cX5_checksumOf 3 = .ok (.istore_n 3, 1) := by decide +kernel
theorem dX5_checksumOf_4 : decode cX5_checksumOf 4 = .ok (.iload_n 3, 1) := by decide +kernel
theorem dX5_checksumOf_5 : decode cX5_checksumOf 5 = .ok (.iconst 4, 1) := by decide +kernel
theorem dX5_checksumOf_6 : decode cX5_checksumOf 6 = .ok (.aload_n 0, 1) := by decide +kernel
theorem dX5_checksumOf_7 : decode cX5_checksumOf 7 = .ok (.getfield 19, 3) := by decide +kernel
theorem dX5_checksumOf_10 : decode cX5_checksumOf 10 = .ok (.iload_n 1, 1) := by decide +kernel
theorem dX5_checksumOf_11 : decode cX5_checksumOf 11 = .ok (.iaload, 1) := by decide +kernel
theorem dX5_checksumOf_12 : decode cX5_checksumOf 12 = .ok (.imul, 1) := by decide +kernel
theorem dX5_checksumOf_13 : decode cX5_checksumOf 13 = .ok (.if_icmp .ge 27, 3) := by decide +kernel
theorem dX5_checksumOf_16 : decode cX5_checksumOf 16 = .ok (.iload_n 2, 1) := by decide +kernel
theorem dX5_checksumOf_17 : decode cX5_checksumOf 17 = .ok (.aload_n 0, 1) := by decide +kernel
theorem dX5_checksumOf_18 : decode cX5_checksumOf 18 = .ok (.getfield 7, 3) := by decide +kernel
theorem dX5_checksumOf_21 : decode cX5_checksumOf 21 = .ok (.aload_n 0, 1) := by decide +kernel
theorem dX5_checksumOf_22 : decode cX5_checksumOf 22 = .ok (.iload_n 1, 1) := by decide +kernel
theorem dX5_checksumOf_23 : decode cX5_checksumOf 23 = .ok (.iload_n 3, 1) := by decide +kernel
theorem dX5_checksumOf_24 : decode cX5_checksumOf 24 = .ok (.invokevirtual 63, 3) := by decide +kernel
theorem dX5_checksumOf_27 : decode cX5_checksumOf 27 = .ok (.iaload, 1) := by decide +kernel
theorem dX5_checksumOf_28 : decode cX5_checksumOf 28 = .ok (.iload_n 3, 1) := by decide +kernel
theorem dX5_checksumOf_29 : decode cX5_checksumOf 29 = .ok (.iconst 1, 1) := by decide +kernel
theorem dX5_checksumOf_30 : decode cX5_checksumOf 30 = .ok (.iadd, 1) := by decide +kernel
theorem dX5_checksumOf_31 : decode cX5_checksumOf 31 = .ok (.imul, 1) := by decide +kernel
theorem dX5_checksumOf_32 : decode cX5_checksumOf 32 = .ok (.iadd, 1) := by decide +kernel
theorem dX5_checksumOf_33 : decode cX5_checksumOf 33 = .ok (.istore_n 2, 1) := by decide +kernel
theorem dX5_checksumOf_34 : decode cX5_checksumOf 34 = .ok (.iinc 3 1, 3) := by decide +kernel
theorem dX5_checksumOf_37 : decode cX5_checksumOf 37 = .ok (.goto (-33), 3) := by decide +kernel
theorem dX5_checksumOf_40 : decode cX5_checksumOf 40 = .ok (.iload_n 2, 1) := by decide +kernel
theorem dX5_checksumOf_41 : decode cX5_checksumOf 41 = .ok (.sipush 9973, 3) := by decide +kernel
theorem dX5_checksumOf_44 : decode cX5_checksumOf 44 = .ok (.irem, 1) := by decide +kernel
theorem dX5_checksumOf_45 : decode cX5_checksumOf 45 = .ok (.ireturn, 1) := by decide +kernel
set_option maxRecDepth 20000 in
theorem ggX5_throwAway_X5_isFile : GoodIn wsX5_throwAway wsX5_isFile := goodIn_r _ [11, 12, 13, 14, 10, 15, 39, 40, 41, 42, 43, 44, 45, 46, 47, 48, 49, 50, 51] (by decide +kernel) (by decide +kernel)
set_option maxRecDepth 20000 in
theorem gX5_throwAway_X5_isFile : GoodIn wsX5_throwAway (wsV RX5 70 RX5 yX5_isFile wsX5_isFile) := goodIn_app (goodIn_of _ (by decide +kernel)) ggX5_throwAway_X5_isFile
set_option maxRecDepth 20000 in
theorem ggX5_throwAway_X5_isGone : GoodIn wsX5_throwAway wsX5_isGone := goodIn_r _ [19, 5, 39, 40, 41, 42, 43, 44, 45, 46, 47, 48, 49, 50, 51] (by decide +kernel) (by decide +kernel)
set_option maxRecDepth 20000 in
theorem gX5_throwAway_X5_isGone : GoodIn wsX5_throwAway (wsV RX5 74 RX5 yX5_isGone wsX5_isGone) := goodIn_app (goodIn_of _ (by decide +kernel)) ggX5_throwAway_X5_isGone
set_option maxRecDepth 20000 in
theorem ggX5_throwAway_X5_goes : GoodIn wsX5_throwAway wsX5_goes := goodIn_r _ [23, 24, 39, 40, 41, 42, 43, 44, 45, 46, 47, 48, 49, 50, 51] (by decide +kernel) (by decide +kernel)
set_option maxRecDepth 20000 in
theorem gX5_throwAway_X5_goes : GoodIn wsX5_throwAway (wsV RX5 55 RX5 yX5_goes wsX5_goes) := goodIn_app (goodIn_of _ (by decide +kernel)) ggX5_throwAway_X5_goes
set_option maxRecDepth 20000 in
theorem ggX5_throwAway_X5_checksumOf : GoodIn wsX5_throwAway wsX5_checksumOf := goodIn_r _ [28, 29, 30, 31, 32, 33, 10, 34, 4, 39, 40, 41, 42, 43, 44, 45, 46, 47, 48, 49, 50, 51] (by decide +kernel) (by decide +kernel)
set_option maxRecDepth 20000 in
theorem gX5_throwAway_X5_checksumOf : GoodIn wsX5_throwAway (wsV RX5 80 RX5 yX5_checksumOf wsX5_checksumOf) := goodIn_app (goodIn_of _ (by decide +kernel)) ggX5_throwAway_X5_checksumOf
set_option maxRecDepth 20000 in
theorem ggX5_throwAway_X5_frees : GoodIn wsX5_throwAway wsX5_frees := goodIn_r _ [38, 6, 39, 40, 41, 42, 43, 44, 45, 46, 47, 48, 49, 50, 51] (by decide +kernel) (by decide +kernel)
set_option maxRecDepth 20000 in
theorem gX5_throwAway_X5_frees : GoodIn wsX5_throwAway (wsV RX5 51 RX5 yX5_frees wsX5_frees) := goodIn_app (goodIn_of _ (by decide +kernel)) ggX5_throwAway_X5_frees
theorem dX5_throwAway_0 : decode cX5_throwAway 0 = .ok (.aload_n 0, 1) := by decide +kernel
theorem dX5_throwAway_1 : decode cX5_throwAway 1 = .ok (.iload_n 1, 1) := by decide +kernel
theorem dX5_throwAway_2 : decode cX5_throwAway 2 = .ok (.invokevirtual 70, 3) := by decide +kernel
theorem dX5_throwAway_5 : decode cX5_throwAway 5 = .ok (.istore_n 2, 1) := by decide +kernel
theorem dX5_throwAway_6 : decode cX5_throwAway 6 = .ok (.aload_n 0, 1) := by decide +kernel
theorem dX5_throwAway_7 : decode cX5_throwAway 7 = .ok (.iload_n 2, 1) := by decide +kernel
theorem dX5_throwAway_8 : decode cX5_throwAway 8 = .ok (.iload_n 2, 1) := by decide +kernel
theorem dX5_throwAway_9 : decode cX5_throwAway 9 = .ok (.ifCond .eq 15, 3) := by decide +kernel
theorem dX5_throwAway_12 : decode cX5_throwAway 12 = .ok (.aload_n 0, 1) := by decide +kernel
theorem dX5_throwAway_13 : decode cX5_throwAway 13 = .ok (.iload_n 1, 1) := by decide +kernel
theorem dX5_throwAway_14 : decode cX5_throwAway 14 = .ok (.invokevirtual 74, 3) := by decide +kernel
theorem dX5_throwAway_17 : decode cX5_throwAway 17 = .ok (.ifCond .ne 7, 3) := by decide +kernel
theorem dX5_throwAway_20 : decode cX5_throwAway 20 = .ok (.iconst 1, 1) := by decide +kernel
theorem dX5_throwAway_21 : decode cX5_throwAway 21 = .ok (.goto 4, 3) := by decide +kernel
theorem dX5_throwAway_24 : decode cX5_throwAway 24 = .ok (.iconst 0, 1) := by decide +kernel
theorem dX5_throwAway_25 : decode cX5_throwAway 25 = .ok (.iconst 1, 1) := by decide +kernel
theorem dX5_throwAway_26 : decode cX5_throwAway 26 = .ok (.invokevirtual 55, 3) := by decide +kernel
theorem dX5_throwAway_29 : decode cX5_throwAway 29 = .ok (.ifCond .ne 5, 3) := by decide +kernel
theorem dX5_throwAway_32 : decode cX5_throwAway 32 = .ok (.iconst 0, 1) := by decide +kernel
theorem dX5_throwAway_33 : decode cX5_throwAway 33 = .ok (.ireturn, 1) := by decide +kernel
theorem dX5_throwAway_34 : decode cX5_throwAway 34 = .ok (.aload_n 0, 1) := by decide +kernel
theorem dX5_throwAway_35 : decode cX5_throwAway 35 = .ok (.dup, 1) := by decide +kernel
theorem dX5_throwAway_36 : decode cX5_throwAway 36 = .ok (.getfield 77, 3) := by decide +kernel
theorem dX5_throwAway_39 : decode cX5_throwAway 39 = .ok (.iconst 1, 1) := by decide +kernel
theorem dX5_throwAway_40 : decode cX5_throwAway 40 = .ok (.iadd, 1) := by decide +kernel
theorem dX5_throwAway_41 : decode cX5_throwAway 41 = .ok (.putfield 77, 3) := by decide +kernel
theorem dX5_throwAway_44 : decode cX5_throwAway 44 = .ok (.aload_n 0, 1) := by decide +kernel
theorem dX5_throwAway_45 : decode cX5_throwAway 45 = .ok (.getfield 28, 3) := by decide +kernel
theorem dX5_throwAway_48 : decode cX5_throwAway 48 = .ok (.iload_n 1, 1) := by decide +kernel
theorem dX5_throwAway_49 : decode cX5_throwAway 49 = .ok (.aload_n 0, 1) := by decide +kernel
theorem dX5_throwAway_50 : decode cX5_throwAway 50 = .ok (.iload_n 1, 1) := by decide +kernel
theorem dX5_throwAway_51 : decode cX5_throwAway 51 = .ok (.invokevirtual 80, 3) := by decide +kernel
theorem dX5_throwAway_54 : decode cX5_throwAway 54 = .ok (.iastore, 1) := by decide +kernel
theorem dX5_throwAway_55 : decode cX5_throwAway 55 = .ok (.aload_n 0, 1) := by decide +kernel
theorem dX5_throwAway_56 : decode cX5_throwAway 56 = .ok (.getfield 25, 3) := by decide +kernel
theorem dX5_throwAway_59 : decode cX5_throwAway 59 = .ok (.iload_n 1, 1) := by decide +kernel
theorem dX5_throwAway_60 : decode cX5_throwAway 60 = .ok (.aload_n 0, 1) := by decide +kernel
theorem dX5_throwAway_61 : decode cX5_throwAway 61 = .ok (.getfield 31, 3) := by decide +kernel
theorem dX5_throwAway_64 : decode cX5_throwAway 64 = .ok (.bipush 8, 2) := by decide +kernel
theorem dX5_throwAway_66 : decode cX5_throwAway 66 = .ok (.iload_n 1, 1) := by decide +kernel
theorem dX5_throwAway_67 : decode cX5_throwAway 67 = .ok (.imul, 1) := by decide +kernel
theorem dX5_throwAway_68 : decode cX5_throwAway 68 = .ok (.iaload, 1) := by decide +kernel
theorem dX5_throwAway_69 : decode cX5_throwAway 69 = .ok (.iastore, 1) := by decide +kernel
theorem dX5_throwAway_70 : decode cX5_throwAway 70 = .ok (.aload_n 0, 1) := by decide +kernel
theorem dX5_throwAway_71 : decode cX5_throwAway 71 = .ok (.getfield 22, 3) := by decide +kernel
theorem dX5_throwAway_74 : decode cX5_throwAway 74 = .ok (.iload_n 1, 1) := by decide +kernel
theorem dX5_throwAway_75 : decode cX5_throwAway 75 = .ok (.aload_n 0, 1) := by decide +kernel
theorem dX5_throwAway_76 : decode cX5_throwAway 76 = .ok (.getfield 77, 3) := by decide +kernel
theorem dX5_throwAway_79 : decode cX5_throwAway 79 = .ok (.iastore, 1) := by decide +kernel
theorem dX5_throwAway_80 : decode cX5_throwAway 80 = .ok (.iconst 0, 1) := by decide +kernel
theorem dX5_throwAway_81 : decode cX5_throwAway 81 = .ok (.istore_n 3, 1) := by decide +kernel
theorem dX5_throwAway_82 : decode cX5_throwAway 82 = .ok (.iload_n 3, 1) := by decide +kernel
theorem dX5_throwAway_83 : decode cX5_throwAway 83 = .ok (.bipush 40, 2) := by decide +kernel
theorem dX5_throwAway_85 : decode cX5_throwAway 85 = .ok (.if_icmp .ge 35, 3) := by decide +kernel
theorem dX5_throwAway_88 : decode cX5_throwAway 88 = .ok (.aload_n 0, 1) := by decide +kernel
theorem dX5_throwAway_89 : decode cX5_throwAway 89 = .ok (.getfield 13, 3) := by decide +kernel
theorem dX5_throwAway_92 : decode cX5_throwAway 92 = .ok (.iload_n 3, 1) := by decide +kernel
theorem dX5_throwAway_93 : decode cX5_throwAway 93 = .ok (.aload_n 0, 1) := by decide +kernel
theorem dX5_throwAway_94 : decode cX5_throwAway 94 = .ok (.getfield 13, 3) := by decide +kernel
theorem dX5_throwAway_97 : decode cX5_throwAway 97 = .ok (.iload_n 3, 1) := by decide +kernel
theorem dX5_throwAway_98 : decode cX5_throwAway 98 = .ok (.iaload, 1) := by decide +kernel
theorem dX5_throwAway_99 : decode cX5_throwAway 99 = .ok (.iload_n 1, 1) := by decide +kernel
theorem dX5_throwAway_100 : decode cX5_throwAway 100 = .ok (.if_icmp .ne 7, 3) := by decide +kernel
theorem dX5_throwAway_103 : decode cX5_throwAway 103 = .ok (.iconst (-1), 1) := by decide +kernel
theorem dX5_throwAway_104 : decode cX5_throwAway 104 = .ok (.goto 9, 3) := by decide +kernel
theorem dX5_throwAway_107 : decode cX5_throwAway 107 = .ok (.aload_n 0, 1) := by decide +kernel
theorem dX5_throwAway_108 : decode cX5_throwAway 108 = .ok (.getfield 13, 3) := by decide +kernel
theorem dX5_throwAway_111 : decode cX5_throwAway 111 = .ok (.iload_n 3, 1) := by decide +kernel
theorem dX5_throwAway_112 : decode cX5_throwAway 112 = .ok (.iaload, 1) := by decide +kernel
theorem dX5_throwAway_113 : decode cX5_throwAway 113 = .ok (.iastore, 1) := by decide +kernel
theorem dX5_throwAway_114 : decode cX5_throwAway 114 = .ok (.iinc 3 1, 3) := by decide +kernel
theorem dX5_throwAway_117 : decode cX5_throwAway 117 = .ok (.goto (-35), 3) := by decide +kernel
theorem dX5_throwAway_120 : decode cX5_throwAway 120 = .ok (.aload_n 0, 1) := by decide +kernel
theorem dX5_throwAway_121 : decode cX5_throwAway 121 = .ok (.invokevirtual 51, 3) := by decide +kernel
theorem dX5_throwAway_124 : decode cX5_throwAway 124 = .ok (.ireturn, 1) := by decide +kernel
set_option maxRecDepth 20000 in
theorem ggX5_files_X5_told : GoodIn wsX5_files wsX5_told := goodIn_r _ [6, 7, 8, 9, 10, 11, 12, 13, 14, 15, 16, 17, 18, 19, 20] (by decide +kernel) (by decide +kernel)
set_option maxRecDepth 20000 in
theorem gX5_files_X5_told : GoodIn wsX5_files (wsV RX5 83 RX5 yX5_told wsX5_told) := goodIn_app (goodIn_of _ (by decide +kernel)) ggX5_files_X5_told
theorem dX5_files_0 : decode cX5_files 0 = .ok (.aload_n 0, 1) := by decide +kernel
theorem dX5_files_1 : decode cX5_files 1 = .ok (.aload_n 0, 1) := by decide +kernel
theorem dX5_files_2 : decode cX5_files 2 = .ok (.getfield 44, 3) := by decide +kernel
theorem dX5_files_5 : decode cX5_files 5 = .ok (.invokevirtual 83, 3) := by decide +kernel
theorem dX5_files_8 : decode cX5_files 8 = .ok (.ireturn, 1) := by decide +kernel
set_option maxRecDepth 20000 in
theorem ggX5_free_X5_frees : GoodIn wsX5_free wsX5_frees := goodIn_r _ [5, 6, 12, 13, 14, 15, 16, 17, 18, 19, 20, 21, 22, 23, 24] (by decide +kernel) (by decide +kernel)
set_option maxRecDepth 20000 in
theorem gX5_free_X5_frees : GoodIn wsX5_free (wsV RX5 51 RX5 yX5_frees wsX5_frees) := goodIn_app (goodIn_of _ (by decide +kernel)) ggX5_free_X5_frees
set_option maxRecDepth 20000 in
theorem ggX5_free_X5_told : GoodIn wsX5_free wsX5_told := goodIn_r _ [10, 11, 12, 13, 14, 15, 16, 17, 18, 19, 20, 21, 22, 23, 24] (by decide +kernel) (by decide +kernel)
set_option maxRecDepth 20000 in
theorem gX5_free_X5_told : GoodIn wsX5_free (wsV RX5 83 RX5 yX5_told wsX5_told) := goodIn_app (goodIn_of _ (by decide +kernel)) ggX5_free_X5_told
theorem dX5_free_0 : decode cX5_free 0 = .ok (.aload_n 0, 1) := by decide +kernel
theorem dX5_free_1 : decode cX5_free 1 = .ok (.aload_n 0, 1) := by decide +kernel
theorem dX5_free_2 : decode cX5_free 2 = .ok (.invokevirtual 51, 3) := by decide +kernel
theorem dX5_free_5 : decode cX5_free 5 = .ok (.invokevirtual 83, 3) := by decide +kernel
theorem dX5_free_8 : decode cX5_free 8 = .ok (.ireturn, 1) := by decide +kernel
set_option maxRecDepth 20000 in
theorem ggX5_number_X5_isCluster : GoodIn wsX5_number wsX5_isCluster := goodIn_r _ [5, 6, 7, 4, 8] (by decide +kernel) (by decide +kernel)
set_option maxRecDepth 20000 in
theorem gX5_number_X5_isCluster : GoodIn wsX5_number (va_wsS RX5 86 yX5_isCluster wsX5_isCluster) := goodIn_app (goodIn_of _ (by decide +kernel)) ggX5_number_X5_isCluster
set_option maxRecDepth 20000 in
theorem ggX5_number_X5_in : GoodIn wsX5_number wsX5_in := goodIn_r _ [8] (by decide +kernel) (by decide +kernel)
set_option maxRecDepth 20000 in
theorem gX5_number_X5_in : GoodIn wsX5_number (va_wsS RX5 47 yX5_in wsX5_in) := goodIn_app (goodIn_of _ (by decide +kernel)) ggX5_number_X5_in
set_option maxRecDepth 20000 in
theorem ggX5_number_X5_goes : GoodIn wsX5_number wsX5_goes := goodIn_r _ [12, 13, 14, 15, 16, 17, 18, 19, 20, 21, 22, 23, 24, 25, 26] (by decide +kernel) (by decide +kernel)
set_option maxRecDepth 20000 in
theorem gX5_number_X5_goes : GoodIn wsX5_number (wsV RX5 55 RX5 yX5_goes wsX5_goes) := goodIn_app (goodIn_of _ (by decide +kernel)) ggX5_number_X5_goes
theorem dX5_number_0 : decode cX5_number 0 = .ok (.aload_n 0, 1) := by decide +kernel
theorem dX5_number_1 : decode cX5_number 1 = .ok (.iload_n 1, 1) := by decide +kernel
theorem dX5_number_2 : decode cX5_number 2 = .ok (.invokestatic 86, 3) := by decide +kernel
theorem dX5_number_5 : decode cX5_number 5 = .ok (.iload_n 2, 1) := by decide +kernel
theorem dX5_number_6 : decode cX5_number 6 = .ok (.iconst 0, 1) := by decide +kernel
theorem dX5_number_7 : decode cX5_number 7 = .ok (.iconst 3, 1) := by decide +kernel
theorem dX5_number_8 : decode cX5_number 8 = .ok (.invokestatic 47, 3) := by decide +kernel
theorem dX5_number_11 : decode cX5_number 11 = .ok (.iconst 1, 1) := by decide +kernel
theorem dX5_number_12 : decode cX5_number 12 = .ok (.invokevirtual 55, 3) := by decide +kernel
theorem dX5_number_15 : decode cX5_number 15 = .ok (.ifCond .eq 16, 3) := by decide +kernel
theorem dX5_number_18 : decode cX5_number 18 = .ok (.aload_n 0, 1) := by decide +kernel
theorem dX5_number_19 : decode cX5_number 19 = .ok (.getfield 7, 3) := by decide +kernel
theorem dX5_number_22 : decode cX5_number 22 = .ok (.iconst 4, 1) := by decide +kernel
theorem dX5_number_23 : decode cX5_number 23 = .ok (.iload_n 1, 1) := by decide +kernel
theorem dX5_number_24 : decode cX5_number 24 = .ok (.imul, 1) := by decide +kernel
theorem dX5_number_25 : decode cX5_number 25 = .ok (.iload_n 2, 1) := by decide +kernel
theorem dX5_number_26 : decode cX5_number 26 = .ok (.iadd, 1) := by decide +kernel
theorem dX5_number_27 : decode cX5_number 27 = .ok (.iaload, 1) := by decide +kernel
theorem dX5_number_28 : decode cX5_number 28 = .ok (.goto 4, 3) := by decide +kernel
theorem dX5_number_31 : decode cX5_number 31 = .ok (.iconst 0, 1) := by decide +kernel
theorem dX5_number_32 : decode cX5_number 32 = .ok (.ireturn, 1) := by decide +kernel
set_option maxRecDepth 20000 in
theorem ggX5_fileOf_X5_isCluster : GoodIn wsX5_fileOf wsX5_isCluster := goodIn_r _ [5, 6, 7, 4, 8] (by decide +kernel) (by decide +kernel)
set_option maxRecDepth 20000 in
theorem gX5_fileOf_X5_isCluster : GoodIn wsX5_fileOf (va_wsS RX5 86 yX5_isCluster wsX5_isCluster) := goodIn_app (goodIn_of _ (by decide +kernel)) ggX5_fileOf_X5_isCluster
set_option maxRecDepth 20000 in
theorem ggX5_fileOf_X5_goes : GoodIn wsX5_fileOf wsX5_goes := goodIn_r _ [12, 13, 14, 15, 16, 17, 18, 19, 20, 21, 22, 23, 24, 25, 26] (by decide +kernel) (by decide +kernel)
set_option maxRecDepth 20000 in
theorem gX5_fileOf_X5_goes : GoodIn wsX5_fileOf (wsV RX5 55 RX5 yX5_goes wsX5_goes) := goodIn_app (goodIn_of _ (by decide +kernel)) ggX5_fileOf_X5_goes
theorem dX5_fileOf_0 : decode cX5_fileOf 0 = .ok (.aload_n 0, 1) := by decide +kernel
theorem dX5_fileOf_1 : decode cX5_fileOf 1 = .ok (.iload_n 1, 1) := by decide +kernel
theorem dX5_fileOf_2 : decode cX5_fileOf 2 = .ok (.invokestatic 86, 3) := by decide +kernel
theorem dX5_fileOf_5 : decode cX5_fileOf 5 = .ok (.iconst 1, 1) := by decide +kernel
theorem dX5_fileOf_6 : decode cX5_fileOf 6 = .ok (.iconst 1, 1) := by decide +kernel
theorem dX5_fileOf_7 : decode cX5_fileOf 7 = .ok (.invokevirtual 55, 3) := by decide +kernel
theorem dX5_fileOf_10 : decode cX5_fileOf 10 = .ok (.ifCond .eq 12, 3) := by decide +kernel
theorem dX5_fileOf_13 : decode cX5_fileOf 13 = .ok (.aload_n 0, 1) := by decide +kernel
theorem dX5_fileOf_14 : decode cX5_fileOf 14 = .ok (.getfield 13, 3) := by decide +kernel
theorem dX5_fileOf_17 : decode cX5_fileOf 17 = .ok (.iload_n 1, 1) := by decide +kernel
theorem dX5_fileOf_18 : decode cX5_fileOf 18 = .ok (.iaload, 1) := by decide +kernel
theorem dX5_fileOf_19 : decode cX5_fileOf 19 = .ok (.goto 4, 3) := by decide +kernel
theorem dX5_fileOf_22 : decode cX5_fileOf 22 = .ok (.iconst 0, 1) := by decide +kernel
theorem dX5_fileOf_23 : decode cX5_fileOf 23 = .ok (.ireturn, 1) := by decide +kernel
set_option maxRecDepth 20000 in
theorem ggX5_clusters_X5_isFile : GoodIn wsX5_clusters wsX5_isFile := goodIn_r _ [6, 7, 8, 9, 5, 10, 16, 17, 18, 19, 20, 21, 22, 23, 24, 25, 26, 27, 28] (by decide +kernel) (by decide +kernel)
set_option maxRecDepth 20000 in
theorem gX5_clusters_X5_isFile : GoodIn wsX5_clusters (wsV RX5 70 RX5 yX5_isFile wsX5_isFile) := goodIn_app (goodIn_of _ (by decide +kernel)) ggX5_clusters_X5_isFile
set_option maxRecDepth 20000 in
theorem ggX5_clusters_X5_goes : GoodIn wsX5_clusters wsX5_goes := goodIn_r _ [14, 15, 16, 17, 18, 19, 20, 21, 22, 23, 24, 25, 26, 27, 28] (by decide +kernel) (by decide +kernel)
set_option maxRecDepth 20000 in
theorem gX5_clusters_X5_goes : GoodIn wsX5_clusters (wsV RX5 55 RX5 yX5_goes wsX5_goes) := goodIn_app (goodIn_of _ (by decide +kernel)) ggX5_clusters_X5_goes
theorem dX5_clusters_0 : decode cX5_clusters 0 = .ok (.aload_n 0, 1) := by decide +kernel
theorem dX5_clusters_1 : decode cX5_clusters 1 = .ok (.aload_n 0, 1) := by decide +kernel
theorem dX5_clusters_2 : decode cX5_clusters 2 = .ok (.iload_n 1, 1) := by decide +kernel
theorem dX5_clusters_3 : decode cX5_clusters 3 = .ok (.invokevirtual 70, 3) := by decide +kernel
theorem dX5_clusters_6 : decode cX5_clusters 6 = .ok (.iconst 1, 1) := by decide +kernel
theorem dX5_clusters_7 : decode cX5_clusters 7 = .ok (.iconst 1, 1) := by decide +kernel
theorem dX5_clusters_8 : decode cX5_clusters 8 = .ok (.invokevirtual 55, 3) := by decide +kernel
theorem dX5_clusters_11 : decode cX5_clusters 11 = .ok (.ifCond .eq 12, 3) := by decide +kernel
theorem dX5_clusters_14 : decode cX5_clusters 14 = .ok (.aload_n 0, 1) := by decide +kernel
theorem dX5_clusters_15 : decode cX5_clusters 15 = .ok (.getfield 19, 3) := by decide +kernel
theorem dX5_clusters_18 : decode cX5_clusters 18 = .ok (.iload_n 1, 1) := by decide +kernel
theorem dX5_clusters_19 : decode cX5_clusters 19 = .ok (.iaload, 1) := by decide +kernel
theorem dX5_clusters_20 : decode cX5_clusters 20 = .ok (.goto 4, 3) := by decide +kernel
theorem dX5_clusters_23 : decode cX5_clusters 23 = .ok (.iconst 0, 1) := by decide +kernel
theorem dX5_clusters_24 : decode cX5_clusters 24 = .ok (.ireturn, 1) := by decide +kernel
set_option maxRecDepth 20000 in
theorem ggX5_clusterAt_X5_isFile : GoodIn wsX5_clusterAt wsX5_isFile := goodIn_r _ [7, 8, 9, 10, 6, 11, 22, 23, 24, 25, 26, 27, 28, 29, 30, 31, 32, 33, 34] (by decide +kernel) (by decide +kernel)
set_option maxRecDepth 20000 in
theorem gX5_clusterAt_X5_isFile : GoodIn wsX5_clusterAt (wsV RX5 70 RX5 yX5_isFile wsX5_isFile) := goodIn_app (goodIn_of _ (by decide +kernel)) ggX5_clusterAt_X5_isFile
set_option maxRecDepth 20000 in
theorem ggX5_clusterAt_X5_in : GoodIn wsX5_clusterAt wsX5_in := goodIn_r _ [11] (by decide +kernel) (by decide +kernel)
set_option maxRecDepth 20000 in
theorem gX5_clusterAt_X5_in : GoodIn wsX5_clusterAt (va_wsS RX5 47 yX5_in wsX5_in) := goodIn_app (goodIn_of _ (by decide +kernel)) ggX5_clusterAt_X5_in
set_option maxRecDepth 20000 in
theorem ggX5_clusterAt_X5_isGone : GoodIn wsX5_clusterAt wsX5_isGone := goodIn_r _ [15, 16, 22, 23, 24, 25, 26, 27, 28, 29, 30, 31, 32, 33, 34] (by decide +kernel) (by decide +kernel)
set_option maxRecDepth 20000 in
theorem gX5_clusterAt_X5_isGone : GoodIn wsX5_clusterAt (wsV RX5 74 RX5 yX5_isGone wsX5_isGone) := goodIn_app (goodIn_of _ (by decide +kernel)) ggX5_clusterAt_X5_isGone
set_option maxRecDepth 20000 in
theorem ggX5_clusterAt_X5_goes : GoodIn wsX5_clusterAt wsX5_goes := goodIn_r _ [20, 21, 22, 23, 24, 25, 26, 27, 28, 29, 30, 31, 32, 33, 34] (by decide +kernel) (by decide +kernel)
set_option maxRecDepth 20000 in
theorem gX5_clusterAt_X5_goes : GoodIn wsX5_clusterAt (wsV RX5 55 RX5 yX5_goes wsX5_goes) := goodIn_app (goodIn_of _ (by decide +kernel)) ggX5_clusterAt_X5_goes
theorem dX5_clusterAt_0 : decode cX5_clusterAt 0 = .ok (.aload_n 0, 1) := by decide +kernel
theorem dX5_clusterAt_1 : decode cX5_clusterAt 1 = .ok (.iload_n 1, 1) := by decide +kernel
theorem dX5_clusterAt_2 : decode cX5_clusterAt 2 = .ok (.invokevirtual 70, 3) := by decide +kernel
theorem dX5_clusterAt_5 : decode cX5_clusterAt 5 = .ok (.istore_n 3, 1) := by decide +kernel
theorem dX5_clusterAt_6 : decode cX5_clusterAt 6 = .ok (.aload_n 0, 1) := by decide +kernel
theorem dX5_clusterAt_7 : decode cX5_clusterAt 7 = .ok (.iload_n 3, 1) := by decide +kernel
theorem dX5_clusterAt_8 : decode cX5_clusterAt 8 = .ok (.iload_n 3, 1) := by decide +kernel
theorem dX5_clusterAt_9 : decode cX5_clusterAt 9 = .ok (.ifCond .eq 31, 3) := by decide +kernel
theorem dX5_clusterAt_12 : decode cX5_clusterAt 12 = .ok (.iload_n 2, 1) := by decide +kernel
theorem dX5_clusterAt_13 : decode cX5_clusterAt 13 = .ok (.iconst 0, 1) := by decide +kernel
theorem dX5_clusterAt_14 : decode cX5_clusterAt 14 = .ok (.aload_n 0, 1) := by decide +kernel
theorem dX5_clusterAt_15 : decode cX5_clusterAt 15 = .ok (.getfield 19, 3) := by decide +kernel
theorem dX5_clusterAt_18 : decode cX5_clusterAt 18 = .ok (.iload_n 3, 1) := by decide +kernel
theorem dX5_clusterAt_19 : decode cX5_clusterAt 19 = .ok (.ifCond .eq 7, 3) := by decide +kernel
theorem dX5_clusterAt_22 : decode cX5_clusterAt 22 = .ok (.iload_n 1, 1) := by decide +kernel
theorem dX5_clusterAt_23 : decode cX5_clusterAt 23 = .ok (.goto 4, 3) := by decide +kernel
theorem dX5_clusterAt_26 : decode cX5_clusterAt 26 = .ok (.iconst 0, 1) := by decide +kernel
theorem dX5_clusterAt_27 : decode cX5_clusterAt 27 = .ok (.iaload, 1) := by decide +kernel
theorem dX5_clusterAt_28 : decode cX5_clusterAt 28 = .ok (.iconst 1, 1) := by decide +kernel
theorem dX5_clusterAt_29 : decode cX5_clusterAt 29 = .ok (.isub, 1) := by decide +kernel
theorem dX5_clusterAt_30 : decode cX5_clusterAt 30 = .ok (.invokestatic 47, 3) := by decide +kernel
theorem dX5_clusterAt_33 : decode cX5_clusterAt 33 = .ok (.ifCond .eq 7, 3) := by decide +kernel
theorem dX5_clusterAt_36 : decode cX5_clusterAt 36 = .ok (.iconst 1, 1) := by decide +kernel
theorem dX5_clusterAt_37 : decode cX5_clusterAt 37 = .ok (.goto 4, 3) := by decide +kernel
theorem dX5_clusterAt_40 : decode cX5_clusterAt 40 = .ok (.iconst 0, 1) := by decide +kernel
theorem dX5_clusterAt_41 : decode cX5_clusterAt 41 = .ok (.iload_n 3, 1) := by decide +kernel
theorem dX5_clusterAt_42 : decode cX5_clusterAt 42 = .ok (.ifCond .eq 15, 3) := by decide +kernel
theorem dX5_clusterAt_45 : decode cX5_clusterAt 45 = .ok (.aload_n 0, 1) := by decide +kernel
theorem dX5_clusterAt_46 : decode cX5_clusterAt 46 = .ok (.iload_n 1, 1) := by decide +kernel
theorem dX5_clusterAt_47 : decode cX5_clusterAt 47 = .ok (.invokevirtual 74, 3) := by decide +kernel
theorem dX5_clusterAt_50 : decode cX5_clusterAt 50 = .ok (.ifCond .ne 7, 3) := by decide +kernel
theorem dX5_clusterAt_53 : decode cX5_clusterAt 53 = .ok (.iconst 1, 1) := by decide +kernel
theorem dX5_clusterAt_54 : decode cX5_clusterAt 54 = .ok (.goto 4, 3) := by decide +kernel
theorem dX5_clusterAt_57 : decode cX5_clusterAt 57 = .ok (.iconst 0, 1) := by decide +kernel
theorem dX5_clusterAt_58 : decode cX5_clusterAt 58 = .ok (.invokevirtual 55, 3) := by decide +kernel
theorem dX5_clusterAt_61 : decode cX5_clusterAt 61 = .ok (.ifCond .eq 17, 3) := by decide +kernel
theorem dX5_clusterAt_64 : decode cX5_clusterAt 64 = .ok (.aload_n 0, 1) := by decide +kernel
theorem dX5_clusterAt_65 : decode cX5_clusterAt 65 = .ok (.getfield 31, 3) := by decide +kernel
theorem dX5_clusterAt_68 : decode cX5_clusterAt 68 = .ok (.bipush 8, 2) := by decide +kernel
theorem dX5_clusterAt_70 : decode cX5_clusterAt 70 = .ok (.iload_n 1, 1) := by decide +kernel
theorem dX5_clusterAt_71 : decode cX5_clusterAt 71 = .ok (.imul, 1) := by decide +kernel
theorem dX5_clusterAt_72 : decode cX5_clusterAt 72 = .ok (.iload_n 2, 1) := by decide +kernel
theorem dX5_clusterAt_73 : decode cX5_clusterAt 73 = .ok (.iadd, 1) := by decide +kernel
theorem dX5_clusterAt_74 : decode cX5_clusterAt 74 = .ok (.iaload, 1) := by decide +kernel
theorem dX5_clusterAt_75 : decode cX5_clusterAt 75 = .ok (.goto 4, 3) := by decide +kernel
theorem dX5_clusterAt_78 : decode cX5_clusterAt 78 = .ok (.iconst 0, 1) := by decide +kernel
theorem dX5_clusterAt_79 : decode cX5_clusterAt 79 = .ok (.ireturn, 1) := by decide +kernel
set_option maxRecDepth 20000 in
theorem ggX5_checksum_X5_isFile : GoodIn wsX5_checksum wsX5_isFile := goodIn_r _ [6, 7, 8, 9, 5, 10, 32, 33, 34, 35, 36, 37, 38, 39, 40, 41, 42, 43, 44] (by decide +kernel) (by decide +kernel)
set_option maxRecDepth 20000 in
theorem gX5_checksum_X5_isFile : GoodIn wsX5_checksum (wsV RX5 70 RX5 yX5_isFile wsX5_isFile) := goodIn_app (goodIn_of _ (by decide +kernel)) ggX5_checksum_X5_isFile
set_option maxRecDepth 20000 in
theorem ggX5_checksum_X5_goes : GoodIn wsX5_checksum wsX5_goes := goodIn_r _ [14, 15, 32, 33, 34, 35, 36, 37, 38, 39, 40, 41, 42, 43, 44] (by decide +kernel) (by decide +kernel)
set_option maxRecDepth 20000 in
theorem gX5_checksum_X5_goes : GoodIn wsX5_checksum (wsV RX5 55 RX5 yX5_goes wsX5_goes) := goodIn_app (goodIn_of _ (by decide +kernel)) ggX5_checksum_X5_goes
set_option maxRecDepth 20000 in
theorem ggX5_checksum_X5_isGone : GoodIn wsX5_checksum wsX5_isGone := goodIn_r _ [19, 20, 32, 33, 34, 35, 36, 37, 38, 39, 40, 41, 42, 43, 44] (by decide +kernel) (by decide +kernel)
set_option maxRecDepth 20000 in
theorem gX5_checksum_X5_isGone : GoodIn wsX5_checksum (wsV RX5 74 RX5 yX5_isGone wsX5_isGone) := goodIn_app (goodIn_of _ (by decide +kernel)) ggX5_checksum_X5_isGone
set_option maxRecDepth 20000 in
theorem ggX5_checksum_X5_checksumOf : GoodIn wsX5_checksum wsX5_checksumOf := goodIn_r _ [24, 25, 26, 27, 28, 29, 5, 30, 31, 32, 33, 34, 35, 36, 37, 38, 39, 40, 41, 42, 43, 44] (by decide +kernel) (by decide +kernel)
set_option maxRecDepth 20000 in
theorem gX5_checksum_X5_checksumOf : GoodIn wsX5_checksum (wsV RX5 80 RX5 yX5_checksumOf wsX5_checksumOf) := goodIn_app (goodIn_of _ (by decide +kernel)) ggX5_checksum_X5_checksumOf
theorem dX5_checksum_0 : decode cX5_checksum 0 = .ok (.aload_n 0, 1) := by decide +kernel
theorem dX5_checksum_1 : decode cX5_checksum 1 = .ok (.aload_n 0, 1) := by decide +kernel
theorem dX5_checksum_2 : decode cX5_checksum 2 = .ok (.iload_n 1, 1) := by decide +kernel
theorem dX5_checksum_3 : decode cX5_checksum 3 = .ok (.invokevirtual 70, 3) := by decide +kernel
theorem dX5_checksum_6 : decode cX5_checksum 6 = .ok (.iconst 1, 1) := by decide +kernel
theorem dX5_checksum_7 : decode cX5_checksum 7 = .ok (.iconst 1, 1) := by decide +kernel
theorem dX5_checksum_8 : decode cX5_checksum 8 = .ok (.invokevirtual 55, 3) := by decide +kernel
theorem dX5_checksum_11 : decode cX5_checksum 11 = .ok (.ifCond .eq 28, 3) := by decide +kernel
theorem dX5_checksum_14 : decode cX5_checksum 14 = .ok (.aload_n 0, 1) := by decide +kernel
theorem dX5_checksum_15 : decode cX5_checksum 15 = .ok (.iload_n 1, 1) := by decide +kernel
theorem dX5_checksum_16 : decode cX5_checksum 16 = .ok (.invokevirtual 74, 3) := by decide +kernel
theorem dX5_checksum_19 : decode cX5_checksum 19 = .ok (.ifCond .eq 12, 3) := by decide +kernel
theorem dX5_checksum_22 : decode cX5_checksum 22 = .ok (.aload_n 0, 1) := by decide +kernel
theorem dX5_checksum_23 : decode cX5_checksum 23 = .ok (.getfield 28, 3) := by decide +kernel
theorem dX5_checksum_26 : decode cX5_checksum 26 = .ok (.iload_n 1, 1) := by decide +kernel
theorem dX5_checksum_27 : decode cX5_checksum 27 = .ok (.iaload, 1) := by decide +kernel
theorem dX5_checksum_28 : decode cX5_checksum 28 = .ok (.goto 12, 3) := by decide +kernel
theorem dX5_checksum_31 : decode cX5_checksum 31 = .ok (.aload_n 0, 1) := by decide +kernel
theorem dX5_checksum_32 : decode cX5_checksum 32 = .ok (.iload_n 1, 1) := by decide +kernel
theorem dX5_checksum_33 : decode cX5_checksum 33 = .ok (.invokevirtual 80, 3) := by decide +kernel
theorem dX5_checksum_36 : decode cX5_checksum 36 = .ok (.goto 4, 3) := by decide +kernel
theorem dX5_checksum_39 : decode cX5_checksum 39 = .ok (.iconst 0, 1) := by decide +kernel
theorem dX5_checksum_40 : decode cX5_checksum 40 = .ok (.ireturn, 1) := by decide +kernel
theorem dX5_claims_0 : decode cX5_claims 0 = .ok (.iconst 0, 1) := by decide +kernel
theorem dX5_claims_1 : decode cX5_claims 1 = .ok (.istore_n 2, 1) := by decide +kernel
theorem dX5_claims_2 : decode cX5_claims 2 = .ok (.aload_n 0, 1) := by decide +kernel
theorem dX5_claims_3 : decode cX5_claims 3 = .ok (.getfield 25, 3) := by decide +kernel
theorem dX5_claims_6 : decode cX5_claims 6 = .ok (.iload_n 1, 1) := by decide +kernel
theorem dX5_claims_7 : decode cX5_claims 7 = .ok (.iaload, 1) := by decide +kernel
theorem dX5_claims_8 : decode cX5_claims 8 = .ok (.istore_n 3, 1) := by decide +kernel
theorem dX5_claims_9 : decode cX5_claims 9 = .ok (.iload_n 3, 1) := by decide +kernel
theorem dX5_claims_10 : decode cX5_claims 10 = .ok (.bipush 40, 2) := by decide +kernel
theorem dX5_claims_12 : decode cX5_claims 12 = .ok (.if_icmp .ge 54, 3) := by decide +kernel
theorem dX5_claims_15 : decode cX5_claims 15 = .ok (.iload_n 2, 1) := by decide +kernel
theorem dX5_claims_16 : decode cX5_claims 16 = .ok (.aload_n 0, 1) := by decide +kernel
theorem dX5_claims_17 : decode cX5_claims 17 = .ok (.getfield 19, 3) := by decide +kernel
theorem dX5_claims_20 : decode cX5_claims 20 = .ok (.iload_n 1, 1) := by decide +kernel
theorem dX5_claims_21 : decode cX5_claims 21 = .ok (.iaload, 1) := by decide +kernel
theorem dX5_claims_22 : decode cX5_claims 22 = .ok (.if_icmp .ge 44, 3) := by decide +kernel
theorem dX5_claims_25 : decode cX5_claims 25 = .ok (.aload_n 0, 1) := by decide +kernel
theorem dX5_claims_26 : decode cX5_claims 26 = .ok (.getfield 13, 3) := by decide +kernel
theorem dX5_claims_29 : decode cX5_claims 29 = .ok (.aload_n 0, 1) := by decide +kernel
theorem dX5_claims_30 : decode cX5_claims 30 = .ok (.getfield 25, 3) := by decide +kernel
theorem dX5_claims_33 : decode cX5_claims 33 = .ok (.iload_n 1, 1) := by decide +kernel
theorem dX5_claims_34 : decode cX5_claims 34 = .ok (.iaload, 1) := by decide +kernel
theorem dX5_claims_35 : decode cX5_claims 35 = .ok (.iaload, 1) := by decide +kernel
theorem dX5_claims_36 : decode cX5_claims 36 = .ok (.iconst (-1), 1) := by decide +kernel
theorem dX5_claims_37 : decode cX5_claims 37 = .ok (.if_icmp .ne 29, 3) := by decide +kernel
theorem dX5_claims_40 : decode cX5_claims 40 = .ok (.aload_n 0, 1) := by decide +kernel
theorem dX5_claims_41 : decode cX5_claims 41 = .ok (.getfield 13, 3) := by decide +kernel
theorem dX5_claims_44 : decode cX5_claims 44 = .ok (.iload_n 3, 1) := by decide +kernel
theorem dX5_claims_45 : decode cX5_claims 45 = .ok (.iaload, 1) := by decide +kernel
theorem dX5_claims_46 : decode cX5_claims 46 = .ok (.iconst (-1), 1) := by decide +kernel
theorem dX5_claims_47 : decode cX5_claims 47 = .ok (.if_icmp .ne 13, 3) := by decide +kernel
theorem dX5_claims_50 : decode cX5_claims 50 = .ok (.aload_n 0, 1) := by decide +kernel
theorem dX5_claims_51 : decode cX5_claims 51 = .ok (.getfield 34, 3) := by decide +kernel
theorem dX5_claims_54 : decode cX5_claims 54 = .ok (.iload_n 2, 1) := by decide +kernel
theorem dX5_claims_55 : decode cX5_claims 55 = .ok (.iload_n 3, 1) := by decide +kernel
theorem dX5_claims_56 : decode cX5_claims 56 = .ok (.iastore, 1) := by decide +kernel
theorem dX5_claims_57 : decode cX5_claims 57 = .ok (.iinc 2 1, 3) := by decide +kernel
theorem dX5_claims_60 : decode cX5_claims 60 = .ok (.iinc 3 1, 3) := by decide +kernel
theorem dX5_claims_63 : decode cX5_claims 63 = .ok (.goto (-54), 3) := by decide +kernel
theorem dX5_claims_66 : decode cX5_claims 66 = .ok (.iload_n 2, 1) := by decide +kernel
theorem dX5_claims_67 : decode cX5_claims 67 = .ok (.ireturn, 1) := by decide +kernel
set_option maxRecDepth 20000 in
theorem ggX5_confidenceOf_X5_claims : GoodIn wsX5_confidenceOf wsX5_claims := goodIn_r _ [9, 10, 3, 11, 2, 12, 13, 14, 15, 16, 17, 18, 19, 20, 21, 22, 23, 24] (by decide +kernel) (by decide +kernel)
set_option maxRecDepth 20000 in
theorem gX5_confidenceOf_X5_claims : GoodIn wsX5_confidenceOf (wsV RX5 89 RX5 yX5_claims wsX5_claims) := goodIn_app (goodIn_of _ (by decide +kernel)) ggX5_confidenceOf_X5_claims
theorem dX5_confidenceOf_0 : decode cX5_confidenceOf 0 = .ok (.aload_n 0, 1) := by decide +kernel
theorem dX5_confidenceOf_1 : decode cX5_confidenceOf 1 = .ok (.iload_n 1, 1) := by decide +kernel
theorem dX5_confidenceOf_2 : decode cX5_confidenceOf 2 = .ok (.invokevirtual 89, 3) := by decide +kernel
theorem dX5_confidenceOf_5 : decode cX5_confidenceOf 5 = .ok (.istore_n 2, 1) := by decide +kernel
theorem dX5_confidenceOf_6 : decode cX5_confidenceOf 6 = .ok (.iload_n 2, 1) := by decide +kernel
theorem dX5_confidenceOf_7 : decode cX5_confidenceOf 7 = .ok (.ifCond .ne 5, 3) := by decide +kernel
theorem dX5_confidenceOf_10 : decode cX5_confidenceOf 10 = .ok (.iconst 0, 1) := by decide +kernel
theorem dX5_confidenceOf_11 : decode cX5_confidenceOf 11 = .ok (.ireturn, 1) := by decide +kernel
theorem dX5_confidenceOf_12 : decode cX5_confidenceOf 12 = .ok (.iconst 0, 1) := by decide +kernel
theorem dX5_confidenceOf_13 : decode cX5_confidenceOf 13 = .ok (.istore_n 3, 1) := by decide +kernel
theorem dX5_confidenceOf_14 : decode cX5_confidenceOf 14 = .ok (.iconst 0, 1) := by decide +kernel
theorem dX5_confidenceOf_15 : decode cX5_confidenceOf 15 = .ok (.istore 4, 2) := by decide +kernel
theorem dX5_confidenceOf_17 : decode cX5_confidenceOf 17 = .ok (.iload 4, 2) := by decide +kernel
theorem dX5_confidenceOf_19 : decode cX5_confidenceOf 19 = .ok (.iconst 4, 1) := by decide +kernel
theorem dX5_confidenceOf_20 : decode cX5_confidenceOf 20 = .ok (.iload_n 2, 1) := by decide +kernel
theorem dX5_confidenceOf_21 : decode cX5_confidenceOf 21 = .ok (.imul, 1) := by decide +kernel
theorem dX5_confidenceOf_22 : decode cX5_confidenceOf 22 = .ok (.if_icmp .ge 38, 3) := by decide +kernel
theorem dX5_confidenceOf_25 : decode cX5_confidenceOf 25 = .ok (.iload_n 3, 1) := by decide +kernel
theorem dX5_confidenceOf_26 : decode cX5_confidenceOf 26 = .ok (.aload_n 0, 1) := by decide +kernel
theorem dX5_confidenceOf_27 : decode cX5_confidenceOf 27 = .ok (.getfield 7, 3) := by decide +kernel
theorem dX5_confidenceOf_30 : decode cX5_confidenceOf 30 = .ok (.iconst 4, 1) := by decide +kernel
theorem dX5_confidenceOf_31 : decode cX5_confidenceOf 31 = .ok (.aload_n 0, 1) := by decide +kernel
theorem dX5_confidenceOf_32 : decode cX5_confidenceOf 32 = .ok (.getfield 34, 3) := by decide +kernel
theorem dX5_confidenceOf_35 : decode cX5_confidenceOf 35 = .ok (.iload 4, 2) := by decide +kernel
theorem dX5_confidenceOf_37 : decode cX5_confidenceOf 37 = .ok (.iconst 4, 1) := by decide +kernel
theorem dX5_confidenceOf_38 : decode cX5_confidenceOf 38 = .ok (.idiv, 1) := by decide +kernel
theorem dX5_confidenceOf_39 : decode cX5_confidenceOf 39 = .ok (.iaload, 1) := by decide +kernel
theorem dX5_confidenceOf_40 : decode cX5_confidenceOf 40 = .ok (.imul, 1) := by decide +kernel
theorem dX5_confidenceOf_41 : decode cX5_confidenceOf 41 = .ok (.iload 4, 2) := by decide +kernel
theorem dX5_confidenceOf_43 : decode cX5_confidenceOf 43 = .ok (.iconst 4, 1) := by decide +kernel
theorem dX5_confidenceOf_44 : decode cX5_confidenceOf 44 = .ok (.irem, 1) := by decide +kernel
theorem dX5_confidenceOf_45 : decode cX5_confidenceOf 45 = .ok (.iadd, 1) := by decide +kernel
theorem dX5_confidenceOf_46 : decode cX5_confidenceOf 46 = .ok (.iaload, 1) := by decide +kernel
theorem dX5_confidenceOf_47 : decode cX5_confidenceOf 47 = .ok (.iload 4, 2) := by decide +kernel
theorem dX5_confidenceOf_49 : decode cX5_confidenceOf 49 = .ok (.iconst 1, 1) := by decide +kernel
theorem dX5_confidenceOf_50 : decode cX5_confidenceOf 50 = .ok (.iadd, 1) := by decide +kernel
theorem dX5_confidenceOf_51 : decode cX5_confidenceOf 51 = .ok (.imul, 1) := by decide +kernel
theorem dX5_confidenceOf_52 : decode cX5_confidenceOf 52 = .ok (.iadd, 1) := by decide +kernel
theorem dX5_confidenceOf_53 : decode cX5_confidenceOf 53 = .ok (.istore_n 3, 1) := by decide +kernel
theorem dX5_confidenceOf_54 : decode cX5_confidenceOf 54 = .ok (.iinc 4 1, 3) := by decide +kernel
theorem dX5_confidenceOf_57 : decode cX5_confidenceOf 57 = .ok (.goto (-40), 3) := by decide +kernel
theorem dX5_confidenceOf_60 : decode cX5_confidenceOf 60 = .ok (.iload_n 2, 1) := by decide +kernel
theorem dX5_confidenceOf_61 : decode cX5_confidenceOf 61 = .ok (.aload_n 0, 1) := by decide +kernel
theorem dX5_confidenceOf_62 : decode cX5_confidenceOf 62 = .ok (.getfield 19, 3) := by decide +kernel
theorem dX5_confidenceOf_65 : decode cX5_confidenceOf 65 = .ok (.iload_n 1, 1) := by decide +kernel
theorem dX5_confidenceOf_66 : decode cX5_confidenceOf 66 = .ok (.iaload, 1) := by decide +kernel
theorem dX5_confidenceOf_67 : decode cX5_confidenceOf 67 = .ok (.if_icmp .ne 7, 3) := by decide +kernel
theorem dX5_confidenceOf_70 : decode cX5_confidenceOf 70 = .ok (.iconst 1, 1) := by decide +kernel
theorem dX5_confidenceOf_71 : decode cX5_confidenceOf 71 = .ok (.goto 4, 3) := by decide +kernel
theorem dX5_confidenceOf_74 : decode cX5_confidenceOf 74 = .ok (.iconst 0, 1) := by decide +kernel
theorem dX5_confidenceOf_75 : decode cX5_confidenceOf 75 = .ok (.istore 4, 2) := by decide +kernel
theorem dX5_confidenceOf_77 : decode cX5_confidenceOf 77 = .ok (.aload_n 0, 1) := by decide +kernel
theorem dX5_confidenceOf_78 : decode cX5_confidenceOf 78 = .ok (.getfield 7, 3) := by decide +kernel
theorem dX5_confidenceOf_81 : decode cX5_confidenceOf 81 = .ok (.iconst 4, 1) := by decide +kernel
theorem dX5_confidenceOf_82 : decode cX5_confidenceOf 82 = .ok (.aload_n 0, 1) := by decide +kernel
theorem dX5_confidenceOf_83 : decode cX5_confidenceOf 83 = .ok (.getfield 34, 3) := by decide +kernel
theorem dX5_confidenceOf_86 : decode cX5_confidenceOf 86 = .ok (.iconst 0, 1) := by decide +kernel
theorem dX5_confidenceOf_87 : decode cX5_confidenceOf 87 = .ok (.iaload, 1) := by decide +kernel
theorem dX5_confidenceOf_88 : decode cX5_confidenceOf 88 = .ok (.imul, 1) := by decide +kernel
theorem dX5_confidenceOf_89 : decode cX5_confidenceOf 89 = .ok (.iaload, 1) := by decide +kernel
theorem dX5_confidenceOf_90 : decode cX5_confidenceOf 90 = .ok (.sipush 255, 3) := by decide +kernel
theorem dX5_confidenceOf_93 : decode cX5_confidenceOf 93 = .ok (.if_icmp .ne 7, 3) := by decide +kernel
theorem dX5_confidenceOf_96 : decode cX5_confidenceOf 96 = .ok (.iconst 1, 1) := by decide +kernel
theorem dX5_confidenceOf_97 : decode cX5_confidenceOf 97 = .ok (.goto 4, 3) := by decide +kernel
theorem dX5_confidenceOf_100 : decode cX5_confidenceOf 100 = .ok (.iconst 0, 1) := by decide +kernel
theorem dX5_confidenceOf_101 : decode cX5_confidenceOf 101 = .ok (.istore 5, 2) := by decide +kernel
theorem dX5_confidenceOf_103 : decode cX5_confidenceOf 103 = .ok (.aload_n 0, 1) := by decide +kernel
theorem dX5_confidenceOf_104 : decode cX5_confidenceOf 104 = .ok (.getfield 7, 3) := by decide +kernel
theorem dX5_confidenceOf_107 : decode cX5_confidenceOf 107 = .ok (.iconst 4, 1) := by decide +kernel
theorem dX5_confidenceOf_108 : decode cX5_confidenceOf 108 = .ok (.aload_n 0, 1) := by decide +kernel
theorem dX5_confidenceOf_109 : decode cX5_confidenceOf 109 = .ok (.getfield 34, 3) := by decide +kernel
theorem dX5_confidenceOf_112 : decode cX5_confidenceOf 112 = .ok (.iload_n 2, 1) := by decide +kernel
theorem dX5_confidenceOf_113 : decode cX5_confidenceOf 113 = .ok (.iconst 1, 1) := by decide +kernel
theorem dX5_confidenceOf_114 : decode cX5_confidenceOf 114 = .ok (.isub, 1) := by decide +kernel
theorem dX5_confidenceOf_115 : decode cX5_confidenceOf 115 = .ok (.iaload, 1) := by decide +kernel
theorem dX5_confidenceOf_116 : decode cX5_confidenceOf 116 = .ok (.imul, 1) := by decide +kernel
theorem dX5_confidenceOf_117 : decode cX5_confidenceOf 117 = .ok (.iconst 4, 1) := by decide +kernel
theorem dX5_confidenceOf_118 : decode cX5_confidenceOf 118 = .ok (.iadd, 1) := by decide +kernel
theorem dX5_confidenceOf_119 : decode cX5_confidenceOf 119 = .ok (.iconst 1, 1) := by decide +kernel
theorem dX5_confidenceOf_120 : decode cX5_confidenceOf 120 = .ok (.isub, 1) := by decide +kernel
theorem dX5_confidenceOf_121 : decode cX5_confidenceOf 121 = .ok (.iaload, 1) := by decide +kernel
theorem dX5_confidenceOf_122 : decode cX5_confidenceOf 122 = .ok (.sipush 254, 3) := by decide +kernel
theorem dX5_confidenceOf_125 : decode cX5_confidenceOf 125 = .ok (.if_icmp .ne 7, 3) := by decide +kernel
theorem dX5_confidenceOf_128 : decode cX5_confidenceOf 128 = .ok (.iconst 1, 1) := by decide +kernel
theorem dX5_confidenceOf_129 : decode cX5_confidenceOf 129 = .ok (.goto 4, 3) := by decide +kernel
theorem dX5_confidenceOf_132 : decode cX5_confidenceOf 132 = .ok (.iconst 0, 1) := by decide +kernel
theorem dX5_confidenceOf_133 : decode cX5_confidenceOf 133 = .ok (.istore 6, 2) := by decide +kernel
theorem dX5_confidenceOf_135 : decode cX5_confidenceOf 135 = .ok (.iload 4, 2) := by decide +kernel
theorem dX5_confidenceOf_137 : decode cX5_confidenceOf 137 = .ok (.ifCond .eq 21, 3) := by decide +kernel
theorem dX5_confidenceOf_140 : decode cX5_confidenceOf 140 = .ok (.iload_n 3, 1) := by decide +kernel
theorem dX5_confidenceOf_141 : decode cX5_confidenceOf 141 = .ok (.sipush 9973, 3) := by decide +kernel
theorem dX5_confidenceOf_144 : decode cX5_confidenceOf 144 = .ok (.irem, 1) := by decide +kernel
theorem dX5_confidenceOf_145 : decode cX5_confidenceOf 145 = .ok (.aload_n 0, 1) := by decide +kernel
theorem dX5_confidenceOf_146 : decode cX5_confidenceOf 146 = .ok (.getfield 28, 3) := by decide +kernel
theorem dX5_confidenceOf_149 : decode cX5_confidenceOf 149 = .ok (.iload_n 1, 1) := by decide +kernel
theorem dX5_confidenceOf_150 : decode cX5_confidenceOf 150 = .ok (.iaload, 1) := by decide +kernel
theorem dX5_confidenceOf_151 : decode cX5_confidenceOf 151 = .ok (.if_icmp .ne 7, 3) := by decide +kernel
theorem dX5_confidenceOf_154 : decode cX5_confidenceOf 154 = .ok (.iconst 3, 1) := by decide +kernel
theorem dX5_confidenceOf_155 : decode cX5_confidenceOf 155 = .ok (.goto 32, 3) := by decide +kernel
theorem dX5_confidenceOf_158 : decode cX5_confidenceOf 158 = .ok (.iload 5, 2) := by decide +kernel
theorem dX5_confidenceOf_160 : decode cX5_confidenceOf 160 = .ok (.ifCond .eq 17, 3) := by decide +kernel
theorem dX5_confidenceOf_163 : decode cX5_confidenceOf 163 = .ok (.iload 4, 2) := by decide +kernel
theorem dX5_confidenceOf_165 : decode cX5_confidenceOf 165 = .ok (.ifCond .eq 12, 3) := by decide +kernel
theorem dX5_confidenceOf_168 : decode cX5_confidenceOf 168 = .ok (.iload 6, 2) := by decide +kernel
theorem dX5_confidenceOf_170 : decode cX5_confidenceOf 170 = .ok (.ifCond .eq 7, 3) := by decide +kernel
theorem dX5_confidenceOf_173 : decode cX5_confidenceOf 173 = .ok (.iconst 2, 1) := by decide +kernel
theorem dX5_confidenceOf_174 : decode cX5_confidenceOf 174 = .ok (.goto 13, 3) := by decide +kernel
theorem dX5_confidenceOf_177 : decode cX5_confidenceOf 177 = .ok (.iload 5, 2) := by decide +kernel
theorem dX5_confidenceOf_179 : decode cX5_confidenceOf 179 = .ok (.ifCond .eq 7, 3) := by decide +kernel
theorem dX5_confidenceOf_182 : decode cX5_confidenceOf 182 = .ok (.iconst 1, 1) := by decide +kernel
theorem dX5_confidenceOf_183 : decode cX5_confidenceOf 183 = .ok (.goto 4, 3) := by decide +kernel
theorem dX5_confidenceOf_186 : decode cX5_confidenceOf 186 = .ok (.iconst 0, 1) := by decide +kernel
theorem dX5_confidenceOf_187 : decode cX5_confidenceOf 187 = .ok (.ireturn, 1) := by decide +kernel
set_option maxRecDepth 20000 in
theorem ggX5_claimant_X5_isGone : GoodIn wsX5_claimant wsX5_isGone := goodIn_r _ [8, 3, 22, 23, 24, 25, 26, 27, 28, 29, 30, 31, 32, 33, 34] (by decide +kernel) (by decide +kernel)
set_option maxRecDepth 20000 in
theorem gX5_claimant_X5_isGone : GoodIn wsX5_claimant (wsV RX5 74 RX5 yX5_isGone wsX5_isGone) := goodIn_app (goodIn_of _ (by decide +kernel)) ggX5_claimant_X5_isGone
set_option maxRecDepth 20000 in
theorem ggX5_claimant_X5_confidenceOf : GoodIn wsX5_claimant wsX5_confidenceOf := goodIn_r _ [12, 13, 2, 14, 15, 16, 17, 18, 7, 19, 20, 21, 22, 23, 24, 25, 26, 27, 28, 29, 30, 31, 32, 33, 34] (by decide +kernel) (by decide +kernel)
set_option maxRecDepth 20000 in
theorem gX5_claimant_X5_confidenceOf : GoodIn wsX5_claimant (wsV RX5 92 RX5 yX5_confidenceOf wsX5_confidenceOf) := goodIn_app (goodIn_of _ (by decide +kernel)) ggX5_claimant_X5_confidenceOf
set_option maxRecDepth 20000 in
theorem ggX5_claimant_X5_claims : GoodIn wsX5_claimant wsX5_claims := goodIn_r _ [19, 20, 14, 21, 2, 22, 23, 24, 25, 26, 27, 28, 29, 30, 31, 32, 33, 34] (by decide +kernel) (by decide +kernel)
set_option maxRecDepth 20000 in
theorem gX5_claimant_X5_claims : GoodIn wsX5_claimant (wsV RX5 89 RX5 yX5_claims wsX5_claims) := goodIn_app (goodIn_of _ (by decide +kernel)) ggX5_claimant_X5_claims
theorem dX5_claimant_0 : decode cX5_claimant 0 = .ok (.iconst (-1), 1) := by decide +kernel
theorem dX5_claimant_1 : decode cX5_claimant 1 = .ok (.istore_n 2, 1) := by decide +kernel
theorem dX5_claimant_2 : decode cX5_claimant 2 = .ok (.iconst 0, 1) := by decide +kernel
theorem dX5_claimant_3 : decode cX5_claimant 3 = .ok (.istore_n 3, 1) := by decide +kernel
theorem dX5_claimant_4 : decode cX5_claimant 4 = .ok (.iconst 0, 1) := by decide +kernel
theorem dX5_claimant_5 : decode cX5_claimant 5 = .ok (.istore 4, 2) := by decide +kernel
theorem dX5_claimant_7 : decode cX5_claimant 7 = .ok (.iload 4, 2) := by decide +kernel
theorem dX5_claimant_9 : decode cX5_claimant 9 = .ok (.aload_n 0, 1) := by decide +kernel
theorem dX5_claimant_10 : decode cX5_claimant 10 = .ok (.getfield 44, 3) := by decide +kernel
theorem dX5_claimant_13 : decode cX5_claimant 13 = .ok (.if_icmp .ge 128, 3) := by decide +kernel
theorem dX5_claimant_16 : decode cX5_claimant 16 = .ok (.aload_n 0, 1) := by decide +kernel
theorem dX5_claimant_17 : decode cX5_claimant 17 = .ok (.iload 4, 2) := by decide +kernel
theorem dX5_claimant_19 : decode cX5_claimant 19 = .ok (.invokevirtual 74, 3) := by decide +kernel
theorem dX5_claimant_22 : decode cX5_claimant 22 = .ok (.ifCond .eq 12, 3) := by decide +kernel
theorem dX5_claimant_25 : decode cX5_claimant 25 = .ok (.aload_n 0, 1) := by decide +kernel
theorem dX5_claimant_26 : decode cX5_claimant 26 = .ok (.iload 4, 2) := by decide +kernel
theorem dX5_claimant_28 : decode cX5_claimant 28 = .ok (.invokevirtual 92, 3) := by decide +kernel
theorem dX5_claimant_31 : decode cX5_claimant 31 = .ok (.goto 4, 3) := by decide +kernel
theorem dX5_claimant_34 : decode cX5_claimant 34 = .ok (.iconst 0, 1) := by decide +kernel
theorem dX5_claimant_35 : decode cX5_claimant 35 = .ok (.istore 5, 2) := by decide +kernel
theorem dX5_claimant_37 : decode cX5_claimant 37 = .ok (.iload 5, 2) := by decide +kernel
theorem dX5_claimant_39 : decode cX5_claimant 39 = .ok (.ifCond .le 12, 3) := by decide +kernel
theorem dX5_claimant_42 : decode cX5_claimant 42 = .ok (.aload_n 0, 1) := by decide +kernel
theorem dX5_claimant_43 : decode cX5_claimant 43 = .ok (.iload 4, 2) := by decide +kernel
theorem dX5_claimant_45 : decode cX5_claimant 45 = .ok (.invokevirtual 89, 3) := by decide +kernel
theorem dX5_claimant_48 : decode cX5_claimant 48 = .ok (.goto 4, 3) := by decide +kernel
theorem dX5_claimant_51 : decode cX5_claimant 51 = .ok (.iconst 0, 1) := by decide +kernel
theorem dX5_claimant_52 : decode cX5_claimant 52 = .ok (.istore 6, 2) := by decide +kernel
theorem dX5_claimant_54 : decode cX5_claimant 54 = .ok (.iconst 0, 1) := by decide +kernel
theorem dX5_claimant_55 : decode cX5_claimant 55 = .ok (.istore 7, 2) := by decide +kernel
theorem dX5_claimant_57 : decode cX5_claimant 57 = .ok (.iconst 0, 1) := by decide +kernel
theorem dX5_claimant_58 : decode cX5_claimant 58 = .ok (.istore 8, 2) := by decide +kernel
theorem dX5_claimant_60 : decode cX5_claimant 60 = .ok (.iload 8, 2) := by decide +kernel
theorem dX5_claimant_62 : decode cX5_claimant 62 = .ok (.iload 6, 2) := by decide +kernel
theorem dX5_claimant_64 : decode cX5_claimant 64 = .ok (.if_icmp .ge 32, 3) := by decide +kernel
theorem dX5_claimant_67 : decode cX5_claimant 67 = .ok (.iload 7, 2) := by decide +kernel
theorem dX5_claimant_69 : decode cX5_claimant 69 = .ok (.ifCond .ne 14, 3) := by decide +kernel
theorem dX5_claimant_72 : decode cX5_claimant 72 = .ok (.aload_n 0, 1) := by decide +kernel
theorem dX5_claimant_73 : decode cX5_claimant 73 = .ok (.getfield 34, 3) := by decide +kernel
theorem dX5_claimant_76 : decode cX5_claimant 76 = .ok (.iload 8, 2) := by decide +kernel
theorem dX5_claimant_78 : decode cX5_claimant 78 = .ok (.iaload, 1) := by decide +kernel
theorem dX5_claimant_79 : decode cX5_claimant 79 = .ok (.iload_n 1, 1) := by decide +kernel
theorem dX5_claimant_80 : decode cX5_claimant 80 = .ok (.if_icmp .ne 7, 3) := by decide +kernel
theorem dX5_claimant_83 : decode cX5_claimant 83 = .ok (.iconst 1, 1) := by decide +kernel
theorem dX5_claimant_84 : decode cX5_claimant 84 = .ok (.goto 4, 3) := by decide +kernel
theorem dX5_claimant_87 : decode cX5_claimant 87 = .ok (.iconst 0, 1) := by decide +kernel
theorem dX5_claimant_88 : decode cX5_claimant 88 = .ok (.istore 7, 2) := by decide +kernel
theorem dX5_claimant_90 : decode cX5_claimant 90 = .ok (.iinc 8 1, 3) := by decide +kernel
theorem dX5_claimant_93 : decode cX5_claimant 93 = .ok (.goto (-33), 3) := by decide +kernel
theorem dX5_claimant_96 : decode cX5_claimant 96 = .ok (.iload 7, 2) := by decide +kernel
theorem dX5_claimant_98 : decode cX5_claimant 98 = .ok (.ifCond .eq 37, 3) := by decide +kernel
theorem dX5_claimant_101 : decode cX5_claimant 101 = .ok (.iload 5, 2) := by decide +kernel
theorem dX5_claimant_103 : decode cX5_claimant 103 = .ok (.iload_n 3, 1) := by decide +kernel
theorem dX5_claimant_104 : decode cX5_claimant 104 = .ok (.if_icmp .gt 25, 3) := by decide +kernel
theorem dX5_claimant_107 : decode cX5_claimant 107 = .ok (.iload 5, 2) := by decide +kernel
theorem dX5_claimant_109 : decode cX5_claimant 109 = .ok (.iload_n 3, 1) := by decide +kernel
theorem dX5_claimant_110 : decode cX5_claimant 110 = .ok (.if_icmp .ne 25, 3) := by decide +kernel
theorem dX5_claimant_113 : decode cX5_claimant 113 = .ok (.aload_n 0, 1) := by decide +kernel
theorem dX5_claimant_114 : decode cX5_claimant 114 = .ok (.getfield 22, 3) := by decide +kernel
theorem dX5_claimant_117 : decode cX5_claimant 117 = .ok (.iload 4, 2) := by decide +kernel
theorem dX5_claimant_119 : decode cX5_claimant 119 = .ok (.iaload, 1) := by decide +kernel
theorem dX5_claimant_120 : decode cX5_claimant 120 = .ok (.aload_n 0, 1) := by decide +kernel
theorem dX5_claimant_121 : decode cX5_claimant 121 = .ok (.getfield 22, 3) := by decide +kernel
theorem dX5_claimant_124 : decode cX5_claimant 124 = .ok (.iload_n 2, 1) := by decide +kernel
theorem dX5_claimant_125 : decode cX5_claimant 125 = .ok (.iaload, 1) := by decide +kernel
theorem dX5_claimant_126 : decode cX5_claimant 126 = .ok (.if_icmp .le 9, 3) := by decide +kernel
theorem dX5_claimant_129 : decode cX5_claimant 129 = .ok (.iload 4, 2) := by decide +kernel
theorem dX5_claimant_131 : decode cX5_claimant 131 = .ok (.istore_n 2, 1) := by decide +kernel
theorem dX5_claimant_132 : decode cX5_claimant 132 = .ok (.iload 5, 2) := by decide +kernel
theorem dX5_claimant_134 : decode cX5_claimant 134 = .ok (.istore_n 3, 1) := by decide +kernel
theorem dX5_claimant_135 : decode cX5_claimant 135 = .ok (.iinc 4 1, 3) := by decide +kernel
theorem dX5_claimant_138 : decode cX5_claimant 138 = .ok (.goto (-131), 3) := by decide +kernel
theorem dX5_claimant_141 : decode cX5_claimant 141 = .ok (.iload_n 2, 1) := by decide +kernel
theorem dX5_claimant_142 : decode cX5_claimant 142 = .ok (.ireturn, 1) := by decide +kernel
set_option maxRecDepth 20000 in
theorem ggX5_asks_X5_isFile : GoodIn wsX5_asks wsX5_isFile := goodIn_r _ [5, 6, 7, 8, 4, 9, 20, 21, 22, 23, 24, 25, 26, 27, 28, 29, 30, 31, 32] (by decide +kernel) (by decide +kernel)
set_option maxRecDepth 20000 in
theorem gX5_asks_X5_isFile : GoodIn wsX5_asks (wsV RX5 70 RX5 yX5_isFile wsX5_isFile) := goodIn_app (goodIn_of _ (by decide +kernel)) ggX5_asks_X5_isFile
set_option maxRecDepth 20000 in
theorem ggX5_asks_X5_isGone : GoodIn wsX5_asks wsX5_isGone := goodIn_r _ [13, 14, 20, 21, 22, 23, 24, 25, 26, 27, 28, 29, 30, 31, 32] (by decide +kernel) (by decide +kernel)
set_option maxRecDepth 20000 in
theorem gX5_asks_X5_isGone : GoodIn wsX5_asks (wsV RX5 74 RX5 yX5_isGone wsX5_isGone) := goodIn_app (goodIn_of _ (by decide +kernel)) ggX5_asks_X5_isGone
set_option maxRecDepth 20000 in
theorem ggX5_asks_X5_goes : GoodIn wsX5_asks wsX5_goes := goodIn_r _ [18, 19, 20, 21, 22, 23, 24, 25, 26, 27, 28, 29, 30, 31, 32] (by decide +kernel) (by decide +kernel)
set_option maxRecDepth 20000 in
theorem gX5_asks_X5_goes : GoodIn wsX5_asks (wsV RX5 55 RX5 yX5_goes wsX5_goes) := goodIn_app (goodIn_of _ (by decide +kernel)) ggX5_asks_X5_goes
theorem dX5_asks_0 : decode cX5_asks 0 = .ok (.aload_n 0, 1) := by decide +kernel
theorem dX5_asks_1 : decode cX5_asks 1 = .ok (.iload_n 1, 1) := by decide +kernel
theorem dX5_asks_2 : decode cX5_asks 2 = .ok (.invokevirtual 70, 3) := by decide +kernel
theorem dX5_asks_5 : decode cX5_asks 5 = .ok (.istore_n 3, 1) := by decide +kernel
theorem dX5_asks_6 : decode cX5_asks 6 = .ok (.aload_n 0, 1) := by decide +kernel
theorem dX5_asks_7 : decode cX5_asks 7 = .ok (.iload_n 3, 1) := by decide +kernel
theorem dX5_asks_8 : decode cX5_asks 8 = .ok (.iload_n 2, 1) := by decide +kernel
theorem dX5_asks_9 : decode cX5_asks 9 = .ok (.iload_n 3, 1) := by decide +kernel
theorem dX5_asks_10 : decode cX5_asks 10 = .ok (.ifCond .eq 15, 3) := by decide +kernel
theorem dX5_asks_13 : decode cX5_asks 13 = .ok (.aload_n 0, 1) := by decide +kernel
theorem dX5_asks_14 : decode cX5_asks 14 = .ok (.iload_n 1, 1) := by decide +kernel
theorem dX5_asks_15 : decode cX5_asks 15 = .ok (.invokevirtual 74, 3) := by decide +kernel
theorem dX5_asks_18 : decode cX5_asks 18 = .ok (.ifCond .eq 7, 3) := by decide +kernel
theorem dX5_asks_21 : decode cX5_asks 21 = .ok (.iconst 1, 1) := by decide +kernel
theorem dX5_asks_22 : decode cX5_asks 22 = .ok (.goto 4, 3) := by decide +kernel
theorem dX5_asks_25 : decode cX5_asks 25 = .ok (.iconst 0, 1) := by decide +kernel
theorem dX5_asks_26 : decode cX5_asks 26 = .ok (.invokevirtual 55, 3) := by decide +kernel
theorem dX5_asks_29 : decode cX5_asks 29 = .ok (.ireturn, 1) := by decide +kernel
set_option maxRecDepth 20000 in
theorem ggX5_asks__X5_isFile : GoodIn wsX5_asks_ wsX5_isFile := goodIn_r _ [5, 6, 7, 8, 4, 9, 20, 21, 22, 23, 24, 25, 26, 27, 28, 29, 30, 31, 32] (by decide +kernel) (by decide +kernel)
set_option maxRecDepth 20000 in
theorem gX5_asks__X5_isFile : GoodIn wsX5_asks_ (wsV RX5 70 RX5 yX5_isFile wsX5_isFile) := goodIn_app (goodIn_of _ (by decide +kernel)) ggX5_asks__X5_isFile
set_option maxRecDepth 20000 in
theorem ggX5_asks__X5_isGone : GoodIn wsX5_asks_ wsX5_isGone := goodIn_r _ [13, 14, 20, 21, 22, 23, 24, 25, 26, 27, 28, 29, 30, 31, 32] (by decide +kernel) (by decide +kernel)
set_option maxRecDepth 20000 in
theorem gX5_asks__X5_isGone : GoodIn wsX5_asks_ (wsV RX5 74 RX5 yX5_isGone wsX5_isGone) := goodIn_app (goodIn_of _ (by decide +kernel)) ggX5_asks__X5_isGone
set_option maxRecDepth 20000 in
theorem ggX5_asks__X5_goes : GoodIn wsX5_asks_ wsX5_goes := goodIn_r _ [18, 19, 20, 21, 22, 23, 24, 25, 26, 27, 28, 29, 30, 31, 32] (by decide +kernel) (by decide +kernel)
set_option maxRecDepth 20000 in
theorem gX5_asks__X5_goes : GoodIn wsX5_asks_ (wsV RX5 55 RX5 yX5_goes wsX5_goes) := goodIn_app (goodIn_of _ (by decide +kernel)) ggX5_asks__X5_goes
theorem dX5_asks__0 : decode cX5_asks_ 0 = .ok (.aload_n 0, 1) := by decide +kernel
theorem dX5_asks__1 : decode cX5_asks_ 1 = .ok (.iload_n 1, 1) := by decide +kernel
theorem dX5_asks__2 : decode cX5_asks_ 2 = .ok (.invokevirtual 70, 3) := by decide +kernel
theorem dX5_asks__5 : decode cX5_asks_ 5 = .ok (.istore_n 2, 1) := by decide +kernel
theorem dX5_asks__6 : decode cX5_asks_ 6 = .ok (.aload_n 0, 1) := by decide +kernel
theorem dX5_asks__7 : decode cX5_asks_ 7 = .ok (.iload_n 2, 1) := by decide +kernel
theorem dX5_asks__8 : decode cX5_asks_ 8 = .ok (.iload_n 2, 1) := by decide +kernel
theorem dX5_asks__9 : decode cX5_asks_ 9 = .ok (.ifCond .eq 15, 3) := by decide +kernel
theorem dX5_asks__12 : decode cX5_asks_ 12 = .ok (.aload_n 0, 1) := by decide +kernel
theorem dX5_asks__13 : decode cX5_asks_ 13 = .ok (.iload_n 1, 1) := by decide +kernel
theorem dX5_asks__14 : decode cX5_asks_ 14 = .ok (.invokevirtual 74, 3) := by decide +kernel
theorem dX5_asks__17 : decode cX5_asks_ 17 = .ok (.ifCond .eq 7, 3) := by decide +kernel
theorem dX5_asks__20 : decode cX5_asks_ 20 = .ok (.iconst 1, 1) := by decide +kernel
theorem dX5_asks__21 : decode cX5_asks_ 21 = .ok (.goto 4, 3) := by decide +kernel
theorem dX5_asks__24 : decode cX5_asks_ 24 = .ok (.iconst 0, 1) := by decide +kernel
theorem dX5_asks__25 : decode cX5_asks_ 25 = .ok (.iconst 1, 1) := by decide +kernel
theorem dX5_asks__26 : decode cX5_asks_ 26 = .ok (.invokevirtual 55, 3) := by decide +kernel
theorem dX5_asks__29 : decode cX5_asks_ 29 = .ok (.ireturn, 1) := by decide +kernel
set_option maxRecDepth 20000 in
theorem ggX5_claimed_X5_asks_ : GoodIn wsX5_claimed wsX5_asks_ := goodIn_r _ [5, 6, 7, 8, 4, 9, 10, 11, 12, 13, 14, 15, 16, 17, 18, 19, 20, 21, 22, 23, 32, 33, 34, 35, 36, 37, 38, 39, 40, 41, 42, 43, 44] (by decide +kernel) (by decide +kernel)
set_option maxRecDepth 20000 in
theorem gX5_claimed_X5_asks_ : GoodIn wsX5_claimed (wsV RX5 95 RX5 yX5_asks_ wsX5_asks_) := goodIn_app (goodIn_of _ (by decide +kernel)) ggX5_claimed_X5_asks_
set_option maxRecDepth 20000 in
theorem ggX5_claimed_X5_claims : GoodIn wsX5_claimed wsX5_claims := goodIn_r _ [27, 28, 29, 30, 31, 32, 33, 34, 35, 36, 37, 38, 39, 40, 41, 42, 43, 44] (by decide +kernel) (by decide +kernel)
set_option maxRecDepth 20000 in
theorem gX5_claimed_X5_claims : GoodIn wsX5_claimed (wsV RX5 89 RX5 yX5_claims wsX5_claims) := goodIn_app (goodIn_of _ (by decide +kernel)) ggX5_claimed_X5_claims
theorem dX5_claimed_0 : decode cX5_claimed 0 = .ok (.aload_n 0, 1) := by decide +kernel
theorem dX5_claimed_1 : decode cX5_claimed 1 = .ok (.iload_n 1, 1) := by decide +kernel
theorem dX5_claimed_2 : decode cX5_claimed 2 = .ok (.invokevirtual 95, 3) := by decide +kernel
theorem dX5_claimed_5 : decode cX5_claimed 5 = .ok (.ifCond .eq 11, 3) := by decide +kernel
theorem dX5_claimed_8 : decode cX5_claimed 8 = .ok (.aload_n 0, 1) := by decide +kernel
theorem dX5_claimed_9 : decode cX5_claimed 9 = .ok (.iload_n 1, 1) := by decide +kernel
theorem dX5_claimed_10 : decode cX5_claimed 10 = .ok (.invokevirtual 89, 3) := by decide +kernel
theorem dX5_claimed_13 : decode cX5_claimed 13 = .ok (.goto 4, 3) := by decide +kernel
theorem dX5_claimed_16 : decode cX5_claimed 16 = .ok (.iconst 0, 1) := by decide +kernel
theorem dX5_claimed_17 : decode cX5_claimed 17 = .ok (.ireturn, 1) := by decide +kernel
set_option maxRecDepth 20000 in
theorem ggX5_claimAt_X5_in : GoodIn wsX5_claimAt wsX5_in := goodIn_r _ [5] (by decide +kernel) (by decide +kernel)
set_option maxRecDepth 20000 in
theorem gX5_claimAt_X5_in : GoodIn wsX5_claimAt (va_wsS RX5 47 yX5_in wsX5_in) := goodIn_app (goodIn_of _ (by decide +kernel)) ggX5_claimAt_X5_in
set_option maxRecDepth 20000 in
theorem ggX5_claimAt_X5_asks : GoodIn wsX5_claimAt wsX5_asks := goodIn_r _ [9, 10, 11, 12, 4, 13, 14, 2, 3, 5, 15, 16, 17, 18, 19, 20, 21, 22, 23, 24, 32, 33, 34, 35, 36, 37, 38, 39, 40, 41, 42, 43, 44] (by decide +kernel) (by decide +kernel)
set_option maxRecDepth 20000 in
theorem gX5_claimAt_X5_asks : GoodIn wsX5_claimAt (wsV RX5 98 RX5 yX5_asks wsX5_asks) := goodIn_app (goodIn_of _ (by decide +kernel)) ggX5_claimAt_X5_asks
set_option maxRecDepth 20000 in
theorem ggX5_claimAt_X5_claims : GoodIn wsX5_claimAt wsX5_claims := goodIn_r _ [28, 29, 30, 31, 1, 32, 33, 34, 35, 36, 37, 38, 39, 40, 41, 42, 43, 44] (by decide +kernel) (by decide +kernel)
set_option maxRecDepth 20000 in
theorem gX5_claimAt_X5_claims : GoodIn wsX5_claimAt (wsV RX5 89 RX5 yX5_claims wsX5_claims) := goodIn_app (goodIn_of _ (by decide +kernel)) ggX5_claimAt_X5_claims
theorem dX5_claimAt_0 : decode cX5_claimAt 0 = .ok (.aload_n 0, 1) := by decide +kernel
theorem dX5_claimAt_1 : decode cX5_claimAt 1 = .ok (.iload_n 1, 1) := by decide +kernel
theorem dX5_claimAt_2 : decode cX5_claimAt 2 = .ok (.iload_n 2, 1) := by decide +kernel
theorem dX5_claimAt_3 : decode cX5_claimAt 3 = .ok (.iconst 0, 1) := by decide +kernel
theorem dX5_claimAt_4 : decode cX5_claimAt 4 = .ok (.bipush 7, 2) := by decide +kernel
theorem dX5_claimAt_6 : decode cX5_claimAt 6 = .ok (.invokestatic 47, 3) := by decide +kernel
theorem dX5_claimAt_9 : decode cX5_claimAt 9 = .ok (.invokevirtual 98, 3) := by decide +kernel
theorem dX5_claimAt_12 : decode cX5_claimAt 12 = .ok (.ifCond .ne 5, 3) := by decide +kernel
theorem dX5_claimAt_15 : decode cX5_claimAt 15 = .ok (.iconst 0, 1) := by decide +kernel
theorem dX5_claimAt_16 : decode cX5_claimAt 16 = .ok (.ireturn, 1) := by decide +kernel
theorem dX5_claimAt_17 : decode cX5_claimAt 17 = .ok (.iload_n 2, 1) := by decide +kernel
theorem dX5_claimAt_18 : decode cX5_claimAt 18 = .ok (.aload_n 0, 1) := by decide +kernel
theorem dX5_claimAt_19 : decode cX5_claimAt 19 = .ok (.iload_n 1, 1) := by decide +kernel
theorem dX5_claimAt_20 : decode cX5_claimAt 20 = .ok (.invokevirtual 89, 3) := by decide +kernel
theorem dX5_claimAt_23 : decode cX5_claimAt 23 = .ok (.if_icmp .ge 12, 3) := by decide +kernel
theorem dX5_claimAt_26 : decode cX5_claimAt 26 = .ok (.aload_n 0, 1) := by decide +kernel
theorem dX5_claimAt_27 : decode cX5_claimAt 27 = .ok (.getfield 34, 3) := by decide +kernel
theorem dX5_claimAt_30 : decode cX5_claimAt 30 = .ok (.iload_n 2, 1) := by decide +kernel
theorem dX5_claimAt_31 : decode cX5_claimAt 31 = .ok (.iaload, 1) := by decide +kernel
theorem dX5_claimAt_32 : decode cX5_claimAt 32 = .ok (.goto 4, 3) := by decide +kernel
theorem dX5_claimAt_35 : decode cX5_claimAt 35 = .ok (.iconst (-1), 1) := by decide +kernel
theorem dX5_claimAt_36 : decode cX5_claimAt 36 = .ok (.ireturn, 1) := by decide +kernel
set_option maxRecDepth 20000 in
theorem ggX5_confidence_X5_asks_ : GoodIn wsX5_confidence wsX5_asks_ := goodIn_r _ [5, 6, 7, 8, 4, 9, 10, 11, 12, 13, 14, 15, 16, 17, 18, 19, 20, 21, 22, 23, 38, 39, 40, 41, 42, 43, 44, 45, 46, 47, 48, 49, 50] (by decide +kernel) (by decide +kernel)
set_option maxRecDepth 20000 in
theorem gX5_confidence_X5_asks_ : GoodIn wsX5_confidence (wsV RX5 95 RX5 yX5_asks_ wsX5_asks_) := goodIn_app (goodIn_of _ (by decide +kernel)) ggX5_confidence_X5_asks_
set_option maxRecDepth 20000 in
theorem ggX5_confidence_X5_confidenceOf : GoodIn wsX5_confidence wsX5_confidenceOf := goodIn_r _ [27, 28, 29, 30, 31, 32, 33, 34, 4, 35, 36, 37, 38, 39, 40, 41, 42, 43, 44, 45, 46, 47, 48, 49, 50] (by decide +kernel) (by decide +kernel)
set_option maxRecDepth 20000 in
theorem gX5_confidence_X5_confidenceOf : GoodIn wsX5_confidence (wsV RX5 92 RX5 yX5_confidenceOf wsX5_confidenceOf) := goodIn_app (goodIn_of _ (by decide +kernel)) ggX5_confidence_X5_confidenceOf
theorem dX5_confidence_0 : decode cX5_confidence 0 = .ok (.aload_n 0, 1) := by decide +kernel
theorem dX5_confidence_1 : decode cX5_confidence 1 = .ok (.iload_n 1, 1) := by decide +kernel
theorem dX5_confidence_2 : decode cX5_confidence 2 = .ok (.invokevirtual 95, 3) := by decide +kernel
theorem dX5_confidence_5 : decode cX5_confidence 5 = .ok (.ifCond .eq 11, 3) := by decide +kernel
theorem dX5_confidence_8 : decode cX5_confidence 8 = .ok (.aload_n 0, 1) := by decide +kernel
theorem dX5_confidence_9 : decode cX5_confidence 9 = .ok (.iload_n 1, 1) := by decide +kernel
theorem dX5_confidence_10 : decode cX5_confidence 10 = .ok (.invokevirtual 92, 3) := by decide +kernel
theorem dX5_confidence_13 : decode cX5_confidence 13 = .ok (.goto 4, 3) := by decide +kernel
theorem dX5_confidence_16 : decode cX5_confidence 16 = .ok (.iconst 0, 1) := by decide +kernel
theorem dX5_confidence_17 : decode cX5_confidence 17 = .ok (.ireturn, 1) := by decide +kernel
set_option maxRecDepth 20000 in
theorem ggX5_ownerOf_X5_isCluster : GoodIn wsX5_ownerOf wsX5_isCluster := goodIn_r _ [4, 5, 6, 3, 7] (by decide +kernel) (by decide +kernel)
set_option maxRecDepth 20000 in
theorem gX5_ownerOf_X5_isCluster : GoodIn wsX5_ownerOf (va_wsS RX5 86 yX5_isCluster wsX5_isCluster) := goodIn_app (goodIn_of _ (by decide +kernel)) ggX5_ownerOf_X5_isCluster
set_option maxRecDepth 20000 in
theorem ggX5_ownerOf_X5_goes : GoodIn wsX5_ownerOf wsX5_goes := goodIn_r _ [11, 12, 37, 38, 39, 40, 41, 42, 43, 44, 45, 46, 47, 48, 49] (by decide +kernel) (by decide +kernel)
set_option maxRecDepth 20000 in
theorem gX5_ownerOf_X5_goes : GoodIn wsX5_ownerOf (wsV RX5 55 RX5 yX5_goes wsX5_goes) := goodIn_app (goodIn_of _ (by decide +kernel)) ggX5_ownerOf_X5_goes
set_option maxRecDepth 20000 in
theorem ggX5_ownerOf_X5_claimant : GoodIn wsX5_ownerOf wsX5_claimant := goodIn_r _ [16, 17, 18, 19, 20, 21, 22, 3, 23, 24, 25, 26, 27, 28, 29, 30, 31, 32, 33, 34, 35, 36, 37, 38, 39, 40, 41, 42, 43, 44, 45, 46, 47, 48, 49] (by decide +kernel) (by decide +kernel)
set_option maxRecDepth 20000 in
theorem gX5_ownerOf_X5_claimant : GoodIn wsX5_ownerOf (wsV RX5 101 RX5 yX5_claimant wsX5_claimant) := goodIn_app (goodIn_of _ (by decide +kernel)) ggX5_ownerOf_X5_claimant
theorem dX5_ownerOf_0 : decode cX5_ownerOf 0 = .ok (.aload_n 0, 1) := by decide +kernel
theorem dX5_ownerOf_1 : decode cX5_ownerOf 1 = .ok (.iload_n 1, 1) := by decide +kernel
theorem dX5_ownerOf_2 : decode cX5_ownerOf 2 = .ok (.invokestatic 86, 3) := by decide +kernel
theorem dX5_ownerOf_5 : decode cX5_ownerOf 5 = .ok (.iconst 1, 1) := by decide +kernel
theorem dX5_ownerOf_6 : decode cX5_ownerOf 6 = .ok (.iconst 1, 1) := by decide +kernel
theorem dX5_ownerOf_7 : decode cX5_ownerOf 7 = .ok (.invokevirtual 55, 3) := by decide +kernel
theorem dX5_ownerOf_10 : decode cX5_ownerOf 10 = .ok (.ifCond .eq 11, 3) := by decide +kernel
theorem dX5_ownerOf_13 : decode cX5_ownerOf 13 = .ok (.aload_n 0, 1) := by decide +kernel
theorem dX5_ownerOf_14 : decode cX5_ownerOf 14 = .ok (.iload_n 1, 1) := by decide +kernel
theorem dX5_ownerOf_15 : decode cX5_ownerOf 15 = .ok (.invokevirtual 101, 3) := by decide +kernel
theorem dX5_ownerOf_18 : decode cX5_ownerOf 18 = .ok (.goto 4, 3) := by decide +kernel
theorem dX5_ownerOf_21 : decode cX5_ownerOf 21 = .ok (.iconst 0, 1) := by decide +kernel
theorem dX5_ownerOf_22 : decode cX5_ownerOf 22 = .ok (.ireturn, 1) := by decide +kernel
set_option maxRecDepth 20000 in
theorem ggX5_owned_X5_asks_ : GoodIn wsX5_owned wsX5_asks_ := goodIn_r _ [5, 6, 7, 8, 4, 9, 10, 11, 12, 13, 14, 15, 16, 17, 18, 19, 20, 21, 22, 23, 42, 43, 44, 45, 46, 47, 48, 49, 50, 51, 52, 53, 54] (by decide +kernel) (by decide +kernel)
set_option maxRecDepth 20000 in
theorem gX5_owned_X5_asks_ : GoodIn wsX5_owned (wsV RX5 95 RX5 yX5_asks_ wsX5_asks_) := goodIn_app (goodIn_of _ (by decide +kernel)) ggX5_owned_X5_asks_
set_option maxRecDepth 20000 in
theorem ggX5_owned_X5_claimant : GoodIn wsX5_owned wsX5_claimant := goodIn_r _ [27, 10, 28, 18, 14, 15, 16, 4, 17, 29, 30, 31, 32, 33, 34, 35, 36, 37, 38, 39, 40, 41, 42, 43, 44, 45, 46, 47, 48, 49, 50, 51, 52, 53, 54] (by decide +kernel) (by decide +kernel)
set_option maxRecDepth 20000 in
theorem gX5_owned_X5_claimant : GoodIn wsX5_owned (wsV RX5 101 RX5 yX5_claimant wsX5_claimant) := goodIn_app (goodIn_of _ (by decide +kernel)) ggX5_owned_X5_claimant
theorem dX5_owned_0 : decode cX5_owned 0 = .ok (.aload_n 0, 1) := by decide +kernel
theorem dX5_owned_1 : decode cX5_owned 1 = .ok (.iload_n 1, 1) := by decide +kernel
theorem dX5_owned_2 : decode cX5_owned 2 = .ok (.invokevirtual 95, 3) := by decide +kernel
theorem dX5_owned_5 : decode cX5_owned 5 = .ok (.ifCond .ne 5, 3) := by decide +kernel
theorem dX5_owned_8 : decode cX5_owned 8 = .ok (.iconst 0, 1) := by decide +kernel
theorem dX5_owned_9 : decode cX5_owned 9 = .ok (.ireturn, 1) := by decide +kernel
theorem dX5_owned_10 : decode cX5_owned 10 = .ok (.iconst 0, 1) := by decide +kernel
theorem dX5_owned_11 : decode cX5_owned 11 = .ok (.istore_n 2, 1) := by decide +kernel
theorem dX5_owned_12 : decode cX5_owned 12 = .ok (.iconst 0, 1) := by decide +kernel
theorem dX5_owned_13 : decode cX5_owned 13 = .ok (.istore_n 3, 1) := by decide +kernel
theorem dX5_owned_14 : decode cX5_owned 14 = .ok (.iload_n 3, 1) := by decide +kernel
theorem dX5_owned_15 : decode cX5_owned 15 = .ok (.bipush 40, 2) := by decide +kernel
theorem dX5_owned_17 : decode cX5_owned 17 = .ok (.if_icmp .ge 26, 3) := by decide +kernel
theorem dX5_owned_20 : decode cX5_owned 20 = .ok (.iload_n 2, 1) := by decide +kernel
theorem dX5_owned_21 : decode cX5_owned 21 = .ok (.aload_n 0, 1) := by decide +kernel
theorem dX5_owned_22 : decode cX5_owned 22 = .ok (.iload_n 3, 1) := by decide +kernel
theorem dX5_owned_23 : decode cX5_owned 23 = .ok (.invokevirtual 101, 3) := by decide +kernel
theorem dX5_owned_26 : decode cX5_owned 26 = .ok (.iload_n 1, 1) := by decide +kernel
theorem dX5_owned_27 : decode cX5_owned 27 = .ok (.if_icmp .ne 7, 3) := by decide +kernel
theorem dX5_owned_30 : decode cX5_owned 30 = .ok (.iconst 1, 1) := by decide +kernel
theorem dX5_owned_31 : decode cX5_owned 31 = .ok (.goto 4, 3) := by decide +kernel
theorem dX5_owned_34 : decode cX5_owned 34 = .ok (.iconst 0, 1) := by decide +kernel
theorem dX5_owned_35 : decode cX5_owned 35 = .ok (.iadd, 1) := by decide +kernel
theorem dX5_owned_36 : decode cX5_owned 36 = .ok (.istore_n 2, 1) := by decide +kernel
theorem dX5_owned_37 : decode cX5_owned 37 = .ok (.iinc 3 1, 3) := by decide +kernel
theorem dX5_owned_40 : decode cX5_owned 40 = .ok (.goto (-26), 3) := by decide +kernel
theorem dX5_owned_43 : decode cX5_owned 43 = .ok (.iload_n 2, 1) := by decide +kernel
theorem dX5_owned_44 : decode cX5_owned 44 = .ok (.ireturn, 1) := by decide +kernel
set_option maxRecDepth 20000 in
theorem ggX5_sure_X5_isGone : GoodIn wsX5_sure wsX5_isGone := goodIn_r _ [6, 7, 27, 28, 29, 30, 31, 32, 33, 34, 35, 36, 37, 38, 39] (by decide +kernel) (by decide +kernel)
set_option maxRecDepth 20000 in
theorem gX5_sure_X5_isGone : GoodIn wsX5_sure (wsV RX5 74 RX5 yX5_isGone wsX5_isGone) := goodIn_app (goodIn_of _ (by decide +kernel)) ggX5_sure_X5_isGone
set_option maxRecDepth 20000 in
theorem ggX5_sure_X5_confidenceOf : GoodIn wsX5_sure wsX5_confidenceOf := goodIn_r _ [11, 12, 13, 14, 15, 16, 17, 18, 5, 19, 20, 21, 27, 28, 29, 30, 31, 32, 33, 34, 35, 36, 37, 38, 39] (by decide +kernel) (by decide +kernel)
set_option maxRecDepth 20000 in
theorem gX5_sure_X5_confidenceOf : GoodIn wsX5_sure (wsV RX5 92 RX5 yX5_confidenceOf wsX5_confidenceOf) := goodIn_app (goodIn_of _ (by decide +kernel)) ggX5_sure_X5_confidenceOf
set_option maxRecDepth 20000 in
theorem ggX5_sure_X5_told : GoodIn wsX5_sure wsX5_told := goodIn_r _ [25, 26, 27, 28, 29, 30, 31, 32, 33, 34, 35, 36, 37, 38, 39] (by decide +kernel) (by decide +kernel)
set_option maxRecDepth 20000 in
theorem gX5_sure_X5_told : GoodIn wsX5_sure (wsV RX5 83 RX5 yX5_told wsX5_told) := goodIn_app (goodIn_of _ (by decide +kernel)) ggX5_sure_X5_told
theorem dX5_sure_0 : decode cX5_sure 0 = .ok (.iconst 0, 1) := by decide +kernel
theorem dX5_sure_1 : decode cX5_sure 1 = .ok (.istore_n 1, 1) := by decide +kernel
theorem dX5_sure_2 : decode cX5_sure 2 = .ok (.iconst 0, 1) := by decide +kernel
theorem dX5_sure_3 : decode cX5_sure 3 = .ok (.istore_n 2, 1) := by decide +kernel
theorem dX5_sure_4 : decode cX5_sure 4 = .ok (.iload_n 2, 1) := by decide +kernel
theorem dX5_sure_5 : decode cX5_sure 5 = .ok (.aload_n 0, 1) := by decide +kernel
theorem dX5_sure_6 : decode cX5_sure 6 = .ok (.getfield 44, 3) := by decide +kernel
theorem dX5_sure_9 : decode cX5_sure 9 = .ok (.if_icmp .ge 34, 3) := by decide +kernel
theorem dX5_sure_12 : decode cX5_sure 12 = .ok (.iload_n 1, 1) := by decide +kernel
theorem dX5_sure_13 : decode cX5_sure 13 = .ok (.aload_n 0, 1) := by decide +kernel
theorem dX5_sure_14 : decode cX5_sure 14 = .ok (.iload_n 2, 1) := by decide +kernel
theorem dX5_sure_15 : decode cX5_sure 15 = .ok (.invokevirtual 74, 3) := by decide +kernel
theorem dX5_sure_18 : decode cX5_sure 18 = .ok (.ifCond .eq 16, 3) := by decide +kernel
theorem dX5_sure_21 : decode cX5_sure 21 = .ok (.aload_n 0, 1) := by decide +kernel
theorem dX5_sure_22 : decode cX5_sure 22 = .ok (.iload_n 2, 1) := by decide +kernel
theorem dX5_sure_23 : decode cX5_sure 23 = .ok (.invokevirtual 92, 3) := by decide +kernel
theorem dX5_sure_26 : decode cX5_sure 26 = .ok (.iconst 3, 1) := by decide +kernel
theorem dX5_sure_27 : decode cX5_sure 27 = .ok (.if_icmp .ne 7, 3) := by decide +kernel
theorem dX5_sure_30 : decode cX5_sure 30 = .ok (.iconst 1, 1) := by decide +kernel
theorem dX5_sure_31 : decode cX5_sure 31 = .ok (.goto 4, 3) := by decide +kernel
theorem dX5_sure_34 : decode cX5_sure 34 = .ok (.iconst 0, 1) := by decide +kernel
theorem dX5_sure_35 : decode cX5_sure 35 = .ok (.iadd, 1) := by decide +kernel
theorem dX5_sure_36 : decode cX5_sure 36 = .ok (.istore_n 1, 1) := by decide +kernel
theorem dX5_sure_37 : decode cX5_sure 37 = .ok (.iinc 2 1, 3) := by decide +kernel
theorem dX5_sure_40 : decode cX5_sure 40 = .ok (.goto (-36), 3) := by decide +kernel
theorem dX5_sure_43 : decode cX5_sure 43 = .ok (.aload_n 0, 1) := by decide +kernel
theorem dX5_sure_44 : decode cX5_sure 44 = .ok (.iload_n 1, 1) := by decide +kernel
theorem dX5_sure_45 : decode cX5_sure 45 = .ok (.invokevirtual 83, 3) := by decide +kernel
theorem dX5_sure_48 : decode cX5_sure 48 = .ok (.ireturn, 1) := by decide +kernel
theorem dX5_part_0 : decode cX5_part 0 = .ok (.iconst 0, 1) := by decide +kernel
theorem dX5_part_1 : decode cX5_part 1 = .ok (.istore_n 3, 1) := by decide +kernel
theorem dX5_part_2 : decode cX5_part 2 = .ok (.iconst 0, 1) := by decide +kernel
theorem dX5_part_3 : decode cX5_part 3 = .ok (.istore 4, 2) := by decide +kernel
theorem dX5_part_5 : decode cX5_part 5 = .ok (.iload 4, 2) := by decide +kernel
theorem dX5_part_7 : decode cX5_part 7 = .ok (.iconst 4, 1) := by decide +kernel
theorem dX5_part_8 : decode cX5_part 8 = .ok (.if_icmp .ge 32, 3) := by decide +kernel
theorem dX5_part_11 : decode cX5_part 11 = .ok (.iload_n 3, 1) := by decide +kernel
theorem dX5_part_12 : decode cX5_part 12 = .ok (.aload_n 0, 1) := by decide +kernel
theorem dX5_part_13 : decode cX5_part 13 = .ok (.getfield 7, 3) := by decide +kernel
theorem dX5_part_16 : decode cX5_part 16 = .ok (.iconst 4, 1) := by decide +kernel
theorem dX5_part_17 : decode cX5_part 17 = .ok (.iload_n 1, 1) := by decide +kernel
theorem dX5_part_18 : decode cX5_part 18 = .ok (.imul, 1) := by decide +kernel
theorem dX5_part_19 : decode cX5_part 19 = .ok (.iload 4, 2) := by decide +kernel
theorem dX5_part_21 : decode cX5_part 21 = .ok (.iadd, 1) := by decide +kernel
theorem dX5_part_22 : decode cX5_part 22 = .ok (.iaload, 1) := by decide +kernel
theorem dX5_part_23 : decode cX5_part 23 = .ok (.iconst 4, 1) := by decide +kernel
theorem dX5_part_24 : decode cX5_part 24 = .ok (.iload_n 2, 1) := by decide +kernel
theorem dX5_part_25 : decode cX5_part 25 = .ok (.imul, 1) := by decide +kernel
theorem dX5_part_26 : decode cX5_part 26 = .ok (.iload 4, 2) := by decide +kernel
theorem dX5_part_28 : decode cX5_part 28 = .ok (.iadd, 1) := by decide +kernel
theorem dX5_part_29 : decode cX5_part 29 = .ok (.iconst 1, 1) := by decide +kernel
theorem dX5_part_30 : decode cX5_part 30 = .ok (.iadd, 1) := by decide +kernel
theorem dX5_part_31 : decode cX5_part 31 = .ok (.imul, 1) := by decide +kernel
theorem dX5_part_32 : decode cX5_part 32 = .ok (.iadd, 1) := by decide +kernel
theorem dX5_part_33 : decode cX5_part 33 = .ok (.istore_n 3, 1) := by decide +kernel
theorem dX5_part_34 : decode cX5_part 34 = .ok (.iinc 4 1, 3) := by decide +kernel
theorem dX5_part_37 : decode cX5_part 37 = .ok (.goto (-32), 3) := by decide +kernel
theorem dX5_part_40 : decode cX5_part 40 = .ok (.iload_n 3, 1) := by decide +kernel
theorem dX5_part_41 : decode cX5_part 41 = .ok (.ireturn, 1) := by decide +kernel
set_option maxRecDepth 20000 in
theorem ggX5_joins_X5_isJoin : GoodIn wsX5_joins wsX5_isJoin := goodIn_r _ [9, 1, 4, 10, 11, 12, 13, 14, 8, 15, 20, 21, 22, 23, 24, 25, 26, 27, 28, 29, 30, 31, 32] (by decide +kernel) (by decide +kernel)
set_option maxRecDepth 20000 in
theorem gX5_joins_X5_isJoin : GoodIn wsX5_joins (wsV RX5 104 RX5 yX5_isJoin wsX5_isJoin) := goodIn_app (goodIn_of _ (by decide +kernel)) ggX5_joins_X5_isJoin
set_option maxRecDepth 20000 in
theorem ggX5_joins_X5_fits : GoodIn wsX5_joins wsX5_fits := goodIn_r _ [19, 2, 4, 20, 21, 22, 23, 24, 25, 26, 27, 28, 29, 30, 31, 32] (by decide +kernel) (by decide +kernel)
set_option maxRecDepth 20000 in
theorem gX5_joins_X5_fits : GoodIn wsX5_joins (wsV RX5 107 RX5 yX5_fits wsX5_fits) := goodIn_app (goodIn_of _ (by decide +kernel)) ggX5_joins_X5_fits
theorem dX5_joins_0 : decode cX5_joins 0 = .ok (.aload_n 0, 1) := by decide +kernel
theorem dX5_joins_1 : decode cX5_joins 1 = .ok (.getfield 19, 3) := by decide +kernel
theorem dX5_joins_4 : decode cX5_joins 4 = .ok (.iload_n 1, 1) := by decide +kernel
theorem dX5_joins_5 : decode cX5_joins 5 = .ok (.iaload, 1) := by decide +kernel
theorem dX5_joins_6 : decode cX5_joins 6 = .ok (.istore_n 2, 1) := by decide +kernel
theorem dX5_joins_7 : decode cX5_joins 7 = .ok (.iload_n 2, 1) := by decide +kernel
theorem dX5_joins_8 : decode cX5_joins 8 = .ok (.iconst 4, 1) := by decide +kernel
theorem dX5_joins_9 : decode cX5_joins 9 = .ok (.if_icmp .gt 18, 3) := by decide +kernel
theorem dX5_joins_12 : decode cX5_joins 12 = .ok (.aload_n 0, 1) := by decide +kernel
theorem dX5_joins_13 : decode cX5_joins 13 = .ok (.getfield 13, 3) := by decide +kernel
theorem dX5_joins_16 : decode cX5_joins 16 = .ok (.aload_n 0, 1) := by decide +kernel
theorem dX5_joins_17 : decode cX5_joins 17 = .ok (.getfield 25, 3) := by decide +kernel
theorem dX5_joins_20 : decode cX5_joins 20 = .ok (.iload_n 1, 1) := by decide +kernel
theorem dX5_joins_21 : decode cX5_joins 21 = .ok (.iaload, 1) := by decide +kernel
theorem dX5_joins_22 : decode cX5_joins 22 = .ok (.iaload, 1) := by decide +kernel
theorem dX5_joins_23 : decode cX5_joins 23 = .ok (.iconst (-1), 1) := by decide +kernel
theorem dX5_joins_24 : decode cX5_joins 24 = .ok (.if_icmp .eq 5, 3) := by decide +kernel
theorem dX5_joins_27 : decode cX5_joins 27 = .ok (.iconst 0, 1) := by decide +kernel
theorem dX5_joins_28 : decode cX5_joins 28 = .ok (.ireturn, 1) := by decide +kernel
theorem dX5_joins_29 : decode cX5_joins 29 = .ok (.aload_n 0, 1) := by decide +kernel
theorem dX5_joins_30 : decode cX5_joins 30 = .ok (.getfield 37, 3) := by decide +kernel
theorem dX5_joins_33 : decode cX5_joins 33 = .ok (.iconst 0, 1) := by decide +kernel
theorem dX5_joins_34 : decode cX5_joins 34 = .ok (.aload_n 0, 1) := by decide +kernel
theorem dX5_joins_35 : decode cX5_joins 35 = .ok (.getfield 25, 3) := by decide +kernel
theorem dX5_joins_38 : decode cX5_joins 38 = .ok (.iload_n 1, 1) := by decide +kernel
theorem dX5_joins_39 : decode cX5_joins 39 = .ok (.iaload, 1) := by decide +kernel
theorem dX5_joins_40 : decode cX5_joins 40 = .ok (.iastore, 1) := by decide +kernel
theorem dX5_joins_41 : decode cX5_joins 41 = .ok (.iconst 1, 1) := by decide +kernel
theorem dX5_joins_42 : decode cX5_joins 42 = .ok (.istore_n 3, 1) := by decide +kernel
theorem dX5_joins_43 : decode cX5_joins 43 = .ok (.iload_n 2, 1) := by decide +kernel
theorem dX5_joins_44 : decode cX5_joins 44 = .ok (.iconst 1, 1) := by decide +kernel
theorem dX5_joins_45 : decode cX5_joins 45 = .ok (.if_icmp .le 10, 3) := by decide +kernel
theorem dX5_joins_48 : decode cX5_joins 48 = .ok (.aload_n 0, 1) := by decide +kernel
theorem dX5_joins_49 : decode cX5_joins 49 = .ok (.getfield 37, 3) := by decide +kernel
theorem dX5_joins_52 : decode cX5_joins 52 = .ok (.iconst 1, 1) := by decide +kernel
theorem dX5_joins_53 : decode cX5_joins 53 = .ok (.iconst (-1), 1) := by decide +kernel
theorem dX5_joins_54 : decode cX5_joins 54 = .ok (.iastore, 1) := by decide +kernel
theorem dX5_joins_55 : decode cX5_joins 55 = .ok (.iload_n 2, 1) := by decide +kernel
theorem dX5_joins_56 : decode cX5_joins 56 = .ok (.iconst 1, 1) := by decide +kernel
theorem dX5_joins_57 : decode cX5_joins 57 = .ok (.if_icmp .ne 9, 3) := by decide +kernel
theorem dX5_joins_60 : decode cX5_joins 60 = .ok (.aload_n 0, 1) := by decide +kernel
theorem dX5_joins_61 : decode cX5_joins 61 = .ok (.iload_n 1, 1) := by decide +kernel
theorem dX5_joins_62 : decode cX5_joins 62 = .ok (.invokevirtual 104, 3) := by decide +kernel
theorem dX5_joins_65 : decode cX5_joins 65 = .ok (.ireturn, 1) := by decide +kernel
theorem dX5_joins_66 : decode cX5_joins 66 = .ok (.iload_n 3, 1) := by decide +kernel
theorem dX5_joins_67 : decode cX5_joins 67 = .ok (.ifCond .le 68, 3) := by decide +kernel
theorem dX5_joins_70 : decode cX5_joins 70 = .ok (.aload_n 0, 1) := by decide +kernel
theorem dX5_joins_71 : decode cX5_joins 71 = .ok (.getfield 37, 3) := by decide +kernel
theorem dX5_joins_74 : decode cX5_joins 74 = .ok (.iload_n 3, 1) := by decide +kernel
theorem dX5_joins_75 : decode cX5_joins 75 = .ok (.dup2, 1) := by decide +kernel
theorem dX5_joins_76 : decode cX5_joins 76 = .ok (.iaload, 1) := by decide +kernel
theorem dX5_joins_77 : decode cX5_joins 77 = .ok (.iconst 1, 1) := by decide +kernel
theorem dX5_joins_78 : decode cX5_joins 78 = .ok (.iadd, 1) := by decide +kernel
theorem dX5_joins_79 : decode cX5_joins 79 = .ok (.iastore, 1) := by decide +kernel
theorem dX5_joins_80 : decode cX5_joins 80 = .ok (.aload_n 0, 1) := by decide +kernel
theorem dX5_joins_81 : decode cX5_joins 81 = .ok (.getfield 37, 3) := by decide +kernel
theorem dX5_joins_84 : decode cX5_joins 84 = .ok (.iload_n 3, 1) := by decide +kernel
theorem dX5_joins_85 : decode cX5_joins 85 = .ok (.iaload, 1) := by decide +kernel
theorem dX5_joins_86 : decode cX5_joins 86 = .ok (.bipush 40, 2) := by decide +kernel
theorem dX5_joins_88 : decode cX5_joins 88 = .ok (.if_icmp .ne 9, 3) := by decide +kernel
theorem dX5_joins_91 : decode cX5_joins 91 = .ok (.iinc 3 (-1), 3) := by decide +kernel
theorem dX5_joins_94 : decode cX5_joins 94 = .ok (.goto (-28), 3) := by decide +kernel
theorem dX5_joins_97 : decode cX5_joins 97 = .ok (.aload_n 0, 1) := by decide +kernel
theorem dX5_joins_98 : decode cX5_joins 98 = .ok (.iload_n 3, 1) := by decide +kernel
theorem dX5_joins_99 : decode cX5_joins 99 = .ok (.invokevirtual 107, 3) := by decide +kernel
theorem dX5_joins_102 : decode cX5_joins 102 = .ok (.ifCond .eq (-36), 3) := by decide +kernel
theorem dX5_joins_105 : decode cX5_joins 105 = .ok (.iload_n 3, 1) := by decide +kernel
theorem dX5_joins_106 : decode cX5_joins 106 = .ok (.iload_n 2, 1) := by decide +kernel
theorem dX5_joins_107 : decode cX5_joins 107 = .ok (.iconst 1, 1) := by decide +kernel
theorem dX5_joins_108 : decode cX5_joins 108 = .ok (.isub, 1) := by decide +kernel
theorem dX5_joins_109 : decode cX5_joins 109 = .ok (.if_icmp .ne 13, 3) := by decide +kernel
theorem dX5_joins_112 : decode cX5_joins 112 = .ok (.aload_n 0, 1) := by decide +kernel
theorem dX5_joins_113 : decode cX5_joins 113 = .ok (.iload_n 1, 1) := by decide +kernel
theorem dX5_joins_114 : decode cX5_joins 114 = .ok (.invokevirtual 104, 3) := by decide +kernel
theorem dX5_joins_117 : decode cX5_joins 117 = .ok (.ifCond .eq (-51), 3) := by decide +kernel
theorem dX5_joins_120 : decode cX5_joins 120 = .ok (.iconst 1, 1) := by decide +kernel
theorem dX5_joins_121 : decode cX5_joins 121 = .ok (.ireturn, 1) := by decide +kernel
theorem dX5_joins_122 : decode cX5_joins 122 = .ok (.iinc 3 1, 3) := by decide +kernel
theorem dX5_joins_125 : decode cX5_joins 125 = .ok (.aload_n 0, 1) := by decide +kernel
theorem dX5_joins_126 : decode cX5_joins 126 = .ok (.getfield 37, 3) := by decide +kernel
theorem dX5_joins_129 : decode cX5_joins 129 = .ok (.iload_n 3, 1) := by decide +kernel
theorem dX5_joins_130 : decode cX5_joins 130 = .ok (.iconst (-1), 1) := by decide +kernel
theorem dX5_joins_131 : decode cX5_joins 131 = .ok (.iastore, 1) := by decide +kernel
theorem dX5_joins_132 : decode cX5_joins 132 = .ok (.goto (-66), 3) := by decide +kernel
theorem dX5_joins_135 : decode cX5_joins 135 = .ok (.iconst 0, 1) := by decide +kernel
theorem dX5_joins_136 : decode cX5_joins 136 = .ok (.ireturn, 1) := by decide +kernel
theorem dX5_fits_0 : decode cX5_fits 0 = .ok (.aload_n 0, 1) := by decide +kernel
theorem dX5_fits_1 : decode cX5_fits 1 = .ok (.getfield 13, 3) := by decide +kernel
theorem dX5_fits_4 : decode cX5_fits 4 = .ok (.aload_n 0, 1) := by decide +kernel
theorem dX5_fits_5 : decode cX5_fits 5 = .ok (.getfield 37, 3) := by decide +kernel
theorem dX5_fits_8 : decode cX5_fits 8 = .ok (.iload_n 1, 1) := by decide +kernel
theorem dX5_fits_9 : decode cX5_fits 9 = .ok (.iaload, 1) := by decide +kernel
theorem dX5_fits_10 : decode cX5_fits 10 = .ok (.iaload, 1) := by decide +kernel
theorem dX5_fits_11 : decode cX5_fits 11 = .ok (.iconst (-1), 1) := by decide +kernel
theorem dX5_fits_12 : decode cX5_fits 12 = .ok (.if_icmp .ne 7, 3) := by decide +kernel
theorem dX5_fits_15 : decode cX5_fits 15 = .ok (.iconst 1, 1) := by decide +kernel
theorem dX5_fits_16 : decode cX5_fits 16 = .ok (.goto 4, 3) := by decide +kernel
theorem dX5_fits_19 : decode cX5_fits 19 = .ok (.iconst 0, 1) := by decide +kernel
theorem dX5_fits_20 : decode cX5_fits 20 = .ok (.istore_n 2, 1) := by decide +kernel
theorem dX5_fits_21 : decode cX5_fits 21 = .ok (.iconst 0, 1) := by decide +kernel
theorem dX5_fits_22 : decode cX5_fits 22 = .ok (.istore_n 3, 1) := by decide +kernel
theorem dX5_fits_23 : decode cX5_fits 23 = .ok (.iload_n 3, 1) := by decide +kernel
theorem dX5_fits_24 : decode cX5_fits 24 = .ok (.iload_n 1, 1) := by decide +kernel
theorem dX5_fits_25 : decode cX5_fits 25 = .ok (.if_icmp .ge 34, 3) := by decide +kernel
theorem dX5_fits_28 : decode cX5_fits 28 = .ok (.iload_n 2, 1) := by decide +kernel
theorem dX5_fits_29 : decode cX5_fits 29 = .ok (.ifCond .eq 22, 3) := by decide +kernel
theorem dX5_fits_32 : decode cX5_fits 32 = .ok (.aload_n 0, 1) := by decide +kernel
theorem dX5_fits_33 : decode cX5_fits 33 = .ok (.getfield 37, 3) := by decide +kernel
theorem dX5_fits_36 : decode cX5_fits 36 = .ok (.iload_n 3, 1) := by decide +kernel
theorem dX5_fits_37 : decode cX5_fits 37 = .ok (.iaload, 1) := by decide +kernel
theorem dX5_fits_38 : decode cX5_fits 38 = .ok (.aload_n 0, 1) := by decide +kernel
theorem dX5_fits_39 : decode cX5_fits 39 = .ok (.getfield 37, 3) := by decide +kernel
theorem dX5_fits_42 : decode cX5_fits 42 = .ok (.iload_n 1, 1) := by decide +kernel
theorem dX5_fits_43 : decode cX5_fits 43 = .ok (.iaload, 1) := by decide +kernel
theorem dX5_fits_44 : decode cX5_fits 44 = .ok (.if_icmp .eq 7, 3) := by decide +kernel
theorem dX5_fits_47 : decode cX5_fits 47 = .ok (.iconst 1, 1) := by decide +kernel
theorem dX5_fits_48 : decode cX5_fits 48 = .ok (.goto 4, 3) := by decide +kernel
theorem dX5_fits_51 : decode cX5_fits 51 = .ok (.iconst 0, 1) := by decide +kernel
theorem dX5_fits_52 : decode cX5_fits 52 = .ok (.istore_n 2, 1) := by decide +kernel
theorem dX5_fits_53 : decode cX5_fits 53 = .ok (.iinc 3 1, 3) := by decide +kernel
theorem dX5_fits_56 : decode cX5_fits 56 = .ok (.goto (-33), 3) := by decide +kernel
theorem dX5_fits_59 : decode cX5_fits 59 = .ok (.iload_n 2, 1) := by decide +kernel
theorem dX5_fits_60 : decode cX5_fits 60 = .ok (.ireturn, 1) := by decide +kernel
set_option maxRecDepth 20000 in
theorem ggX5_isJoin_X5_part : GoodIn wsX5_isJoin wsX5_part := goodIn_r _ [9, 4, 10, 11, 12, 13, 14, 15, 16, 17, 18, 19, 20, 21, 22] (by decide +kernel) (by decide +kernel)
set_option maxRecDepth 20000 in
theorem gX5_isJoin_X5_part : GoodIn wsX5_isJoin (wsV RX5 110 RX5 yX5_part wsX5_part) := goodIn_app (goodIn_of _ (by decide +kernel)) ggX5_isJoin_X5_part
theorem dX5_isJoin_0 : decode cX5_isJoin 0 = .ok (.aload_n 0, 1) := by decide +kernel
theorem dX5_isJoin_1 : decode cX5_isJoin 1 = .ok (.getfield 19, 3) := by decide +kernel
theorem dX5_isJoin_4 : decode cX5_isJoin 4 = .ok (.iload_n 1, 1) := by decide +kernel
theorem dX5_isJoin_5 : decode cX5_isJoin 5 = .ok (.iaload, 1) := by decide +kernel
theorem dX5_isJoin_6 : decode cX5_isJoin 6 = .ok (.iconst 1, 1) := by decide +kernel
theorem dX5_isJoin_7 : decode cX5_isJoin 7 = .ok (.isub, 1) := by decide +kernel
theorem dX5_isJoin_8 : decode cX5_isJoin 8 = .ok (.istore_n 2, 1) := by decide +kernel
theorem dX5_isJoin_9 : decode cX5_isJoin 9 = .ok (.iconst 0, 1) := by decide +kernel
theorem dX5_isJoin_10 : decode cX5_isJoin 10 = .ok (.istore_n 3, 1) := by decide +kernel
theorem dX5_isJoin_11 : decode cX5_isJoin 11 = .ok (.iconst 0, 1) := by decide +kernel
theorem dX5_isJoin_12 : decode cX5_isJoin 12 = .ok (.istore 4, 2) := by decide +kernel
theorem dX5_isJoin_14 : decode cX5_isJoin 14 = .ok (.iload 4, 2) := by decide +kernel
theorem dX5_isJoin_16 : decode cX5_isJoin 16 = .ok (.iload_n 2, 1) := by decide +kernel
theorem dX5_isJoin_17 : decode cX5_isJoin 17 = .ok (.if_icmp .gt 25, 3) := by decide +kernel
theorem dX5_isJoin_20 : decode cX5_isJoin 20 = .ok (.iload_n 3, 1) := by decide +kernel
theorem dX5_isJoin_21 : decode cX5_isJoin 21 = .ok (.aload_n 0, 1) := by decide +kernel
theorem dX5_isJoin_22 : decode cX5_isJoin 22 = .ok (.aload_n 0, 1) := by decide +kernel
theorem dX5_isJoin_23 : decode cX5_isJoin 23 = .ok (.getfield 37, 3) := by decide +kernel
theorem dX5_isJoin_26 : decode cX5_isJoin 26 = .ok (.iload 4, 2) := by decide +kernel
theorem dX5_isJoin_28 : decode cX5_isJoin 28 = .ok (.iaload, 1) := by decide +kernel
theorem dX5_isJoin_29 : decode cX5_isJoin 29 = .ok (.iload 4, 2) := by decide +kernel
theorem dX5_isJoin_31 : decode cX5_isJoin 31 = .ok (.invokevirtual 110, 3) := by decide +kernel
theorem dX5_isJoin_34 : decode cX5_isJoin 34 = .ok (.iadd, 1) := by decide +kernel
theorem dX5_isJoin_35 : decode cX5_isJoin 35 = .ok (.istore_n 3, 1) := by decide +kernel
theorem dX5_isJoin_36 : decode cX5_isJoin 36 = .ok (.iinc 4 1, 3) := by decide +kernel
theorem dX5_isJoin_39 : decode cX5_isJoin 39 = .ok (.goto (-25), 3) := by decide +kernel
theorem dX5_isJoin_42 : decode cX5_isJoin 42 = .ok (.iload_n 3, 1) := by decide +kernel
theorem dX5_isJoin_43 : decode cX5_isJoin 43 = .ok (.sipush 9973, 3) := by decide +kernel
theorem dX5_isJoin_46 : decode cX5_isJoin 46 = .ok (.irem, 1) := by decide +kernel
theorem dX5_isJoin_47 : decode cX5_isJoin 47 = .ok (.aload_n 0, 1) := by decide +kernel
theorem dX5_isJoin_48 : decode cX5_isJoin 48 = .ok (.getfield 28, 3) := by decide +kernel
theorem dX5_isJoin_51 : decode cX5_isJoin 51 = .ok (.iload_n 1, 1) := by decide +kernel
theorem dX5_isJoin_52 : decode cX5_isJoin 52 = .ok (.iaload, 1) := by decide +kernel
theorem dX5_isJoin_53 : decode cX5_isJoin 53 = .ok (.if_icmp .ne 30, 3) := by decide +kernel
theorem dX5_isJoin_56 : decode cX5_isJoin 56 = .ok (.aload_n 0, 1) := by decide +kernel
theorem dX5_isJoin_57 : decode cX5_isJoin 57 = .ok (.getfield 7, 3) := by decide +kernel
theorem dX5_isJoin_60 : decode cX5_isJoin 60 = .ok (.iconst 4, 1) := by decide +kernel
theorem dX5_isJoin_61 : decode cX5_isJoin 61 = .ok (.aload_n 0, 1) := by decide +kernel
theorem dX5_isJoin_62 : decode cX5_isJoin 62 = .ok (.getfield 37, 3) := by decide +kernel
theorem dX5_isJoin_65 : decode cX5_isJoin 65 = .ok (.iload_n 2, 1) := by decide +kernel
theorem dX5_isJoin_66 : decode cX5_isJoin 66 = .ok (.iaload, 1) := by decide +kernel
theorem dX5_isJoin_67 : decode cX5_isJoin 67 = .ok (.imul, 1) := by decide +kernel
theorem dX5_isJoin_68 : decode cX5_isJoin 68 = .ok (.iconst 4, 1) := by decide +kernel
theorem dX5_isJoin_69 : decode cX5_isJoin 69 = .ok (.iadd, 1) := by decide +kernel
theorem dX5_isJoin_70 : decode cX5_isJoin 70 = .ok (.iconst 1, 1) := by decide +kernel
theorem dX5_isJoin_71 : decode cX5_isJoin 71 = .ok (.isub, 1) := by decide +kernel
theorem dX5_isJoin_72 : decode cX5_isJoin 72 = .ok (.iaload, 1) := by decide +kernel
theorem dX5_isJoin_73 : decode cX5_isJoin 73 = .ok (.sipush 254, 3) := by decide +kernel
theorem dX5_isJoin_76 : decode cX5_isJoin 76 = .ok (.if_icmp .ne 7, 3) := by decide +kernel
theorem dX5_isJoin_79 : decode cX5_isJoin 79 = .ok (.iconst 1, 1) := by decide +kernel
theorem dX5_isJoin_80 : decode cX5_isJoin 80 = .ok (.goto 4, 3) := by decide +kernel
theorem dX5_isJoin_83 : decode cX5_isJoin 83 = .ok (.iconst 0, 1) := by decide +kernel
theorem dX5_isJoin_84 : decode cX5_isJoin 84 = .ok (.ireturn, 1) := by decide +kernel
set_option maxRecDepth 20000 in
theorem ggX5_hasJoin_X5_asks_ : GoodIn wsX5_hasJoin wsX5_asks_ := goodIn_r _ [5, 6, 7, 8, 4, 9, 10, 11, 12, 13, 14, 15, 16, 17, 18, 19, 20, 21, 22, 23, 46, 47, 48, 49, 50, 51, 52, 53, 54, 55, 56, 57, 58] (by decide +kernel) (by decide +kernel)
set_option maxRecDepth 20000 in
theorem gX5_hasJoin_X5_asks_ : GoodIn wsX5_hasJoin (wsV RX5 95 RX5 yX5_asks_ wsX5_asks_) := goodIn_app (goodIn_of _ (by decide +kernel)) ggX5_hasJoin_X5_asks_
set_option maxRecDepth 20000 in
theorem ggX5_hasJoin_X5_joins : GoodIn wsX5_hasJoin wsX5_joins := goodIn_r _ [27, 28, 29, 30, 31, 32, 33, 34, 4, 35, 36, 37, 38, 39, 40, 41, 42, 43, 44, 45, 46, 47, 48, 49, 50, 51, 52, 53, 54, 55, 56, 57, 58] (by decide +kernel) (by decide +kernel)
set_option maxRecDepth 20000 in
theorem gX5_hasJoin_X5_joins : GoodIn wsX5_hasJoin (wsV RX5 113 RX5 yX5_joins wsX5_joins) := goodIn_app (goodIn_of _ (by decide +kernel)) ggX5_hasJoin_X5_joins
theorem dX5_hasJoin_0 : decode cX5_hasJoin 0 = .ok (.aload_n 0, 1) := by decide +kernel
theorem dX5_hasJoin_1 : decode cX5_hasJoin 1 = .ok (.iload_n 1, 1) := by decide +kernel
theorem dX5_hasJoin_2 : decode cX5_hasJoin 2 = .ok (.invokevirtual 95, 3) := by decide +kernel
theorem dX5_hasJoin_5 : decode cX5_hasJoin 5 = .ok (.ifCond .eq 15, 3) := by decide +kernel
theorem dX5_hasJoin_8 : decode cX5_hasJoin 8 = .ok (.aload_n 0, 1) := by decide +kernel
theorem dX5_hasJoin_9 : decode cX5_hasJoin 9 = .ok (.iload_n 1, 1) := by decide +kernel
theorem dX5_hasJoin_10 : decode cX5_hasJoin 10 = .ok (.invokevirtual 113, 3) := by decide +kernel
theorem dX5_hasJoin_13 : decode cX5_hasJoin 13 = .ok (.ifCond .eq 7, 3) := by decide +kernel
theorem dX5_hasJoin_16 : decode cX5_hasJoin 16 = .ok (.iconst 1, 1) := by decide +kernel
theorem dX5_hasJoin_17 : decode cX5_hasJoin 17 = .ok (.goto 4, 3) := by decide +kernel
theorem dX5_hasJoin_20 : decode cX5_hasJoin 20 = .ok (.iconst 0, 1) := by decide +kernel
theorem dX5_hasJoin_21 : decode cX5_hasJoin 21 = .ok (.ireturn, 1) := by decide +kernel
set_option maxRecDepth 20000 in
theorem ggX5_joinAt_X5_isFile : GoodIn wsX5_joinAt wsX5_isFile := goodIn_r _ [7, 8, 9, 10, 6, 11, 42, 43, 44, 45, 46, 47, 48, 49, 50, 51, 52, 53, 54] (by decide +kernel) (by decide +kernel)
set_option maxRecDepth 20000 in
theorem gX5_joinAt_X5_isFile : GoodIn wsX5_joinAt (wsV RX5 70 RX5 yX5_isFile wsX5_isFile) := goodIn_app (goodIn_of _ (by decide +kernel)) ggX5_joinAt_X5_isFile
set_option maxRecDepth 20000 in
theorem ggX5_joinAt_X5_in : GoodIn wsX5_joinAt wsX5_in := goodIn_r _ [11] (by decide +kernel) (by decide +kernel)
set_option maxRecDepth 20000 in
theorem gX5_joinAt_X5_in : GoodIn wsX5_joinAt (va_wsS RX5 47 yX5_in wsX5_in) := goodIn_app (goodIn_of _ (by decide +kernel)) ggX5_joinAt_X5_in
set_option maxRecDepth 20000 in
theorem ggX5_joinAt_X5_isGone : GoodIn wsX5_joinAt wsX5_isGone := goodIn_r _ [15, 16, 42, 43, 44, 45, 46, 47, 48, 49, 50, 51, 52, 53, 54] (by decide +kernel) (by decide +kernel)
set_option maxRecDepth 20000 in
theorem gX5_joinAt_X5_isGone : GoodIn wsX5_joinAt (wsV RX5 74 RX5 yX5_isGone wsX5_isGone) := goodIn_app (goodIn_of _ (by decide +kernel)) ggX5_joinAt_X5_isGone
set_option maxRecDepth 20000 in
theorem ggX5_joinAt_X5_joins : GoodIn wsX5_joinAt wsX5_joins := goodIn_r _ [20, 1, 21, 22, 2, 23, 24, 25, 6, 26, 27, 28, 29, 30, 31, 32, 33, 34, 35, 36, 42, 43, 44, 45, 46, 47, 48, 49, 50, 51, 52, 53, 54] (by decide +kernel) (by decide +kernel)
set_option maxRecDepth 20000 in
theorem gX5_joinAt_X5_joins : GoodIn wsX5_joinAt (wsV RX5 113 RX5 yX5_joins wsX5_joins) := goodIn_app (goodIn_of _ (by decide +kernel)) ggX5_joinAt_X5_joins
set_option maxRecDepth 20000 in
theorem ggX5_joinAt_X5_goes : GoodIn wsX5_joinAt wsX5_goes := goodIn_r _ [40, 41, 42, 43, 44, 45, 46, 47, 48, 49, 50, 51, 52, 53, 54] (by decide +kernel) (by decide +kernel)
set_option maxRecDepth 20000 in
theorem gX5_joinAt_X5_goes : GoodIn wsX5_joinAt (wsV RX5 55 RX5 yX5_goes wsX5_goes) := goodIn_app (goodIn_of _ (by decide +kernel)) ggX5_joinAt_X5_goes
theorem dX5_joinAt_0 : decode cX5_joinAt 0 = .ok (.aload_n 0, 1) := by decide +kernel
theorem dX5_joinAt_1 : decode cX5_joinAt 1 = .ok (.iload_n 1, 1) := by decide +kernel
theorem dX5_joinAt_2 : decode cX5_joinAt 2 = .ok (.invokevirtual 70, 3) := by decide +kernel
theorem dX5_joinAt_5 : decode cX5_joinAt 5 = .ok (.istore_n 3, 1) := by decide +kernel
theorem dX5_joinAt_6 : decode cX5_joinAt 6 = .ok (.iload_n 3, 1) := by decide +kernel
theorem dX5_joinAt_7 : decode cX5_joinAt 7 = .ok (.ifCond .eq 31, 3) := by decide +kernel
theorem dX5_joinAt_10 : decode cX5_joinAt 10 = .ok (.iload_n 2, 1) := by decide +kernel
theorem dX5_joinAt_11 : decode cX5_joinAt 11 = .ok (.iconst 0, 1) := by decide +kernel
theorem dX5_joinAt_12 : decode cX5_joinAt 12 = .ok (.aload_n 0, 1) := by decide +kernel
theorem dX5_joinAt_13 : decode cX5_joinAt 13 = .ok (.getfield 19, 3) := by decide +kernel
theorem dX5_joinAt_16 : decode cX5_joinAt 16 = .ok (.iload_n 3, 1) := by decide +kernel
theorem dX5_joinAt_17 : decode cX5_joinAt 17 = .ok (.ifCond .eq 7, 3) := by decide +kernel
theorem dX5_joinAt_20 : decode cX5_joinAt 20 = .ok (.iload_n 1, 1) := by decide +kernel
theorem dX5_joinAt_21 : decode cX5_joinAt 21 = .ok (.goto 4, 3) := by decide +kernel
theorem dX5_joinAt_24 : decode cX5_joinAt 24 = .ok (.iconst 0, 1) := by decide +kernel
theorem dX5_joinAt_25 : decode cX5_joinAt 25 = .ok (.iaload, 1) := by decide +kernel
theorem dX5_joinAt_26 : decode cX5_joinAt 26 = .ok (.iconst 1, 1) := by decide +kernel
theorem dX5_joinAt_27 : decode cX5_joinAt 27 = .ok (.isub, 1) := by decide +kernel
theorem dX5_joinAt_28 : decode cX5_joinAt 28 = .ok (.invokestatic 47, 3) := by decide +kernel
theorem dX5_joinAt_31 : decode cX5_joinAt 31 = .ok (.ifCond .eq 7, 3) := by decide +kernel
theorem dX5_joinAt_34 : decode cX5_joinAt 34 = .ok (.iconst 1, 1) := by decide +kernel
theorem dX5_joinAt_35 : decode cX5_joinAt 35 = .ok (.goto 4, 3) := by decide +kernel
theorem dX5_joinAt_38 : decode cX5_joinAt 38 = .ok (.iconst 0, 1) := by decide +kernel
theorem dX5_joinAt_39 : decode cX5_joinAt 39 = .ok (.istore 4, 2) := by decide +kernel
theorem dX5_joinAt_41 : decode cX5_joinAt 41 = .ok (.aload_n 0, 1) := by decide +kernel
theorem dX5_joinAt_42 : decode cX5_joinAt 42 = .ok (.iload_n 3, 1) := by decide +kernel
theorem dX5_joinAt_43 : decode cX5_joinAt 43 = .ok (.iload 4, 2) := by decide +kernel
theorem dX5_joinAt_45 : decode cX5_joinAt 45 = .ok (.iload 4, 2) := by decide +kernel
theorem dX5_joinAt_47 : decode cX5_joinAt 47 = .ok (.ifCond .eq 23, 3) := by decide +kernel
theorem dX5_joinAt_50 : decode cX5_joinAt 50 = .ok (.aload_n 0, 1) := by decide +kernel
theorem dX5_joinAt_51 : decode cX5_joinAt 51 = .ok (.iload_n 1, 1) := by decide +kernel
theorem dX5_joinAt_52 : decode cX5_joinAt 52 = .ok (.invokevirtual 74, 3) := by decide +kernel
theorem dX5_joinAt_55 : decode cX5_joinAt 55 = .ok (.ifCond .eq 15, 3) := by decide +kernel
theorem dX5_joinAt_58 : decode cX5_joinAt 58 = .ok (.aload_n 0, 1) := by decide +kernel
theorem dX5_joinAt_59 : decode cX5_joinAt 59 = .ok (.iload_n 1, 1) := by decide +kernel
theorem dX5_joinAt_60 : decode cX5_joinAt 60 = .ok (.invokevirtual 113, 3) := by decide +kernel
theorem dX5_joinAt_63 : decode cX5_joinAt 63 = .ok (.ifCond .eq 7, 3) := by decide +kernel
theorem dX5_joinAt_66 : decode cX5_joinAt 66 = .ok (.iconst 1, 1) := by decide +kernel
theorem dX5_joinAt_67 : decode cX5_joinAt 67 = .ok (.goto 4, 3) := by decide +kernel
theorem dX5_joinAt_70 : decode cX5_joinAt 70 = .ok (.iconst 0, 1) := by decide +kernel
theorem dX5_joinAt_71 : decode cX5_joinAt 71 = .ok (.invokevirtual 55, 3) := by decide +kernel
theorem dX5_joinAt_74 : decode cX5_joinAt 74 = .ok (.ifCond .eq 12, 3) := by decide +kernel
theorem dX5_joinAt_77 : decode cX5_joinAt 77 = .ok (.aload_n 0, 1) := by decide +kernel
theorem dX5_joinAt_78 : decode cX5_joinAt 78 = .ok (.getfield 37, 3) := by decide +kernel
theorem dX5_joinAt_81 : decode cX5_joinAt 81 = .ok (.iload_n 2, 1) := by decide +kernel
theorem dX5_joinAt_82 : decode cX5_joinAt 82 = .ok (.iaload, 1) := by decide +kernel
theorem dX5_joinAt_83 : decode cX5_joinAt 83 = .ok (.goto 4, 3) := by decide +kernel
theorem dX5_joinAt_86 : decode cX5_joinAt 86 = .ok (.iconst 0, 1) := by decide +kernel
theorem dX5_joinAt_87 : decode cX5_joinAt 87 = .ok (.ireturn, 1) := by decide +kernel
theorem dJ9_max_7cf53_0 : decode cJ9_max_7cf53 0 = .ok (.iload_n 0, 1) := by decide +kernel
theorem dJ9_max_7cf53_1 : decode cJ9_max_7cf53 1 = .ok (.iload_n 1, 1) := by decide +kernel
theorem dJ9_max_7cf53_2 : decode cJ9_max_7cf53 2 = .ok (.if_icmp .lt 7, 3) := by decide +kernel
theorem dJ9_max_7cf53_5 : decode cJ9_max_7cf53 5 = .ok (.iload_n 0, 1) := by decide +kernel
theorem dJ9_max_7cf53_6 : decode cJ9_max_7cf53 6 = .ok (.goto 4, 3) := by decide +kernel
theorem dJ9_max_7cf53_9 : decode cJ9_max_7cf53 9 = .ok (.iload_n 1, 1) := by decide +kernel
theorem dJ9_max_7cf53_10 : decode cJ9_max_7cf53 10 = .ok (.ireturn, 1) := by decide +kernel
theorem dJ9_min_7cf53_0 : decode cJ9_min_7cf53 0 = .ok (.iload_n 0, 1) := by decide +kernel
theorem dJ9_min_7cf53_1 : decode cJ9_min_7cf53 1 = .ok (.iload_n 1, 1) := by decide +kernel
theorem dJ9_min_7cf53_2 : decode cJ9_min_7cf53 2 = .ok (.if_icmp .gt 7, 3) := by decide +kernel
theorem dJ9_min_7cf53_5 : decode cJ9_min_7cf53 5 = .ok (.iload_n 0, 1) := by decide +kernel
theorem dJ9_min_7cf53_6 : decode cJ9_min_7cf53 6 = .ok (.goto 4, 3) := by decide +kernel
theorem dJ9_min_7cf53_9 : decode cJ9_min_7cf53 9 = .ok (.iload_n 1, 1) := by decide +kernel
theorem dJ9_min_7cf53_10 : decode cJ9_min_7cf53 10 = .ok (.ireturn, 1) := by decide +kernel
theorem dJxa1e45_init_da8c8_0 : decode cJxa1e45_init_da8c8 0 = .ok (.aload_n 0, 1) := by decide +kernel
theorem dJxa1e45_init_da8c8_1 : decode cJxa1e45_init_da8c8 1 = .ok (.invokespecial 1, 3) := by decide +kernel
theorem dJxa1e45_init_da8c8_4 : decode cJxa1e45_init_da8c8 4 = .ok (.return_, 1) := by decide +kernel
set_option maxRecDepth 20000 in
theorem ggJxc12de_init_da8c8_Jxa1e45_init_da8c8 : GoodIn wsJxc12de_init_da8c8 wsJxa1e45_init_da8c8 := goodIn_r _ [5, 6, 7, 8] (by decide +kernel) (by decide +kernel)
set_option maxRecDepth 20000 in
theorem gJxc12de_init_da8c8_Jxa1e45_init_da8c8 : GoodIn wsJxc12de_init_da8c8 (wsJxa1e45_init_da8c8) := ggJxc12de_init_da8c8_Jxa1e45_init_da8c8
theorem dJxc12de_init_da8c8_0 : decode cJxc12de_init_da8c8 0 = .ok (.aload_n 0, 1) := by decide +kernel
theorem dJxc12de_init_da8c8_1 : decode cJxc12de_init_da8c8 1 = .ok (.invokespecial 1, 3) := by decide +kernel
theorem dJxc12de_init_da8c8_4 : decode cJxc12de_init_da8c8 4 = .ok (.aload_n 0, 1) := by decide +kernel
theorem dJxc12de_init_da8c8_5 : decode cJxc12de_init_da8c8 5 = .ok (.iconst 0, 1) := by decide +kernel
theorem dJxc12de_init_da8c8_6 : decode cJxc12de_init_da8c8 6 = .ok (.putfield 7, 3) := by decide +kernel
theorem dJxc12de_init_da8c8_9 : decode cJxc12de_init_da8c8 9 = .ok (.return_, 1) := by decide +kernel
set_option maxRecDepth 20000 in
theorem ggJx4a65c_init_da8c8_Jxc12de_init_da8c8 : GoodIn wsJx4a65c_init_da8c8 wsJxc12de_init_da8c8 := goodIn_r _ [6, 7, 8, 9, 10, 11, 12, 13, 14, 15, 16, 17] (by decide +kernel) (by decide +kernel)
set_option maxRecDepth 20000 in
theorem gJx4a65c_init_da8c8_Jxc12de_init_da8c8 : GoodIn wsJx4a65c_init_da8c8 (wsJxc12de_init_da8c8) := ggJx4a65c_init_da8c8_Jxc12de_init_da8c8
theorem dJx4a65c_init_da8c8_0 : decode cJx4a65c_init_da8c8 0 = .ok (.aload_n 0, 1) := by decide +kernel
theorem dJx4a65c_init_da8c8_1 : decode cJx4a65c_init_da8c8 1 = .ok (.invokespecial 1, 3) := by decide +kernel
theorem dJx4a65c_init_da8c8_4 : decode cJx4a65c_init_da8c8 4 = .ok (.aload_n 0, 1) := by decide +kernel
theorem dJx4a65c_init_da8c8_5 : decode cJx4a65c_init_da8c8 5 = .ok (.getstatic 39, 3) := by decide +kernel
theorem dJx4a65c_init_da8c8_8 : decode cJx4a65c_init_da8c8 8 = .ok (.putfield 9, 3) := by decide +kernel
theorem dJx4a65c_init_da8c8_11 : decode cJx4a65c_init_da8c8 11 = .ok (.return_, 1) := by decide +kernel
set_option maxRecDepth 20000 in
theorem ggJx4a65c_grow_92f84_J8_newLength_cabcc : GoodIn wsJx4a65c_grow_92f84 wsJ8_newLength_cabcc := goodIn_r _ [11, 12, 4, 5, 6, 13, 14, 15, 10, 16] (by decide +kernel) (by decide +kernel)
set_option maxRecDepth 20000 in
theorem gJx4a65c_grow_92f84_J8_newLength_cabcc : GoodIn wsJx4a65c_grow_92f84 (va_wsS RJx4a65c 73 yJ8_newLength_cabcc wsJ8_newLength_cabcc) := goodIn_app (goodIn_of _ (by decide +kernel)) ggJx4a65c_grow_92f84_J8_newLength_cabcc
set_option maxRecDepth 20000 in
theorem ggJx4a65c_grow_92f84_J7_copyOf_1904c : GoodIn wsJx4a65c_grow_92f84 wsJ7_copyOf_1904c := goodIn_r _ [20, 21, 22, 23, 24, 25, 26, 19, 27, 28, 29, 30, 31, 5, 32, 33, 34, 35, 36] (by decide +kernel) (by decide +kernel)
set_option maxRecDepth 20000 in
theorem gJx4a65c_grow_92f84_J7_copyOf_1904c : GoodIn wsJx4a65c_grow_92f84 (va_wsS RJx4a65c 66 yJ7_copyOf_1904c wsJ7_copyOf_1904c) := goodIn_app (goodIn_of _ (by decide +kernel)) ggJx4a65c_grow_92f84_J7_copyOf_1904c
theorem dJx4a65c_grow_92f84_0 : decode cJx4a65c_grow_92f84 0 = .ok (.aload_n 0, 1) := by decide +kernel
theorem dJx4a65c_grow_92f84_1 : decode cJx4a65c_grow_92f84 1 = .ok (.getfield 9, 3) := by decide +kernel
theorem dJx4a65c_grow_92f84_4 : decode cJx4a65c_grow_92f84 4 = .ok (.arraylength, 1) := by decide +kernel
theorem dJx4a65c_grow_92f84_5 : decode cJx4a65c_grow_92f84 5 = .ok (.istore_n 2, 1) := by decide +kernel
theorem dJx4a65c_grow_92f84_6 : decode cJx4a65c_grow_92f84 6 = .ok (.iload_n 2, 1) := by decide +kernel
theorem dJx4a65c_grow_92f84_7 : decode cJx4a65c_grow_92f84 7 = .ok (.ifCond .gt 13, 3) := by decide +kernel
theorem dJx4a65c_grow_92f84_10 : decode cJx4a65c_grow_92f84 10 = .ok (.aload_n 0, 1) := by decide +kernel
theorem dJx4a65c_grow_92f84_11 : decode cJx4a65c_grow_92f84 11 = .ok (.getfield 9, 3) := by decide +kernel
theorem dJx4a65c_grow_92f84_14 : decode cJx4a65c_grow_92f84 14 = .ok (.getstatic 39, 3) := by decide +kernel
theorem dJx4a65c_grow_92f84_17 : decode cJx4a65c_grow_92f84 17 = .ok (.if_acmp .eq 28, 3) := by decide +kernel
theorem dJx4a65c_grow_92f84_20 : decode cJx4a65c_grow_92f84 20 = .ok (.iload_n 2, 1) := by decide +kernel
theorem dJx4a65c_grow_92f84_21 : decode cJx4a65c_grow_92f84 21 = .ok (.iload_n 1, 1) := by decide +kernel
theorem dJx4a65c_grow_92f84_22 : decode cJx4a65c_grow_92f84 22 = .ok (.iload_n 2, 1) := by decide +kernel
theorem dJx4a65c_grow_92f84_23 : decode cJx4a65c_grow_92f84 23 = .ok (.isub, 1) := by decide +kernel
theorem dJx4a65c_grow_92f84_24 : decode cJx4a65c_grow_92f84 24 = .ok (.iload_n 2, 1) := by decide +kernel
theorem dJx4a65c_grow_92f84_25 : decode cJx4a65c_grow_92f84 25 = .ok (.iconst 1, 1) := by decide +kernel
theorem dJx4a65c_grow_92f84_26 : decode cJx4a65c_grow_92f84 26 = .ok (.ishr, 1) := by decide +kernel
theorem dJx4a65c_grow_92f84_27 : decode cJx4a65c_grow_92f84 27 = .ok (.invokestatic 73, 3) := by decide +kernel
theorem dJx4a65c_grow_92f84_30 : decode cJx4a65c_grow_92f84 30 = .ok (.istore_n 3, 1) := by decide +kernel
theorem dJx4a65c_grow_92f84_31 : decode cJx4a65c_grow_92f84 31 = .ok (.aload_n 0, 1) := by decide +kernel
theorem dJx4a65c_grow_92f84_32 : decode cJx4a65c_grow_92f84 32 = .ok (.aload_n 0, 1) := by decide +kernel
theorem dJx4a65c_grow_92f84_33 : decode cJx4a65c_grow_92f84 33 = .ok (.getfield 9, 3) := by decide +kernel
theorem dJx4a65c_grow_92f84_36 : decode cJx4a65c_grow_92f84 36 = .ok (.iload_n 3, 1) := by decide +kernel
theorem dJx4a65c_grow_92f84_37 : decode cJx4a65c_grow_92f84 37 = .ok (.invokestatic 66, 3) := by decide +kernel
theorem dJx4a65c_grow_92f84_40 : decode cJx4a65c_grow_92f84 40 = .ok (.dup_x1, 1) := by decide +kernel
theorem dJx4a65c_grow_92f84_41 : decode cJx4a65c_grow_92f84 41 = .ok (.putfield 9, 3) := by decide +kernel
theorem dJx4a65c_grow_92f84_44 : decode cJx4a65c_grow_92f84 44 = .ok (.areturn, 1) := by decide +kernel
theorem dJx4a65c_grow_92f84_45 : decode cJx4a65c_grow_92f84 45 = .ok (.aload_n 0, 1) := by decide +kernel
theorem dJx4a65c_grow_92f84_46 : decode cJx4a65c_grow_92f84 46 = .ok (.bipush 10, 2) := by decide +kernel
theorem dJx4a65c_grow_92f84_48 : decode cJx4a65c_grow_92f84 48 = .ok (.iload_n 1, 1) := by decide +kernel
theorem dJx4a65c_grow_92f84_49 : decode cJx4a65c_grow_92f84 49 = .ok (.invokestatic 79, 3) := by decide +kernel
theorem dJx4a65c_grow_92f84_52 : decode cJx4a65c_grow_92f84 52 = .ok (.anewarray 7, 3) := by decide +kernel
theorem dJx4a65c_grow_92f84_55 : decode cJx4a65c_grow_92f84 55 = .ok (.dup_x1, 1) := by decide +kernel
theorem dJx4a65c_grow_92f84_56 : decode cJx4a65c_grow_92f84 56 = .ok (.putfield 9, 3) := by decide +kernel
theorem dJx4a65c_grow_92f84_59 : decode cJx4a65c_grow_92f84 59 = .ok (.areturn, 1) := by decide +kernel
set_option maxRecDepth 20000 in
theorem ggJx4a65c_grow_d5877_Jx4a65c_grow_92f84 : GoodIn wsJx4a65c_grow_d5877 wsJx4a65c_grow_92f84 := goodIn_r _ [6, 7, 8, 9, 10, 11, 12, 13, 14, 15, 16, 17, 18, 19, 20, 21, 22, 23, 24, 25, 26, 27, 28, 29, 30, 31, 32, 33, 34, 35, 36, 37, 38, 39, 40, 41, 42, 43, 44, 45] (by decide +kernel) (by decide +kernel)
set_option maxRecDepth 20000 in
theorem gJx4a65c_grow_d5877_Jx4a65c_grow_92f84 : GoodIn wsJx4a65c_grow_d5877 (wsV RJx4a65c 69 RJx4a65c yJx4a65c_grow_92f84 wsJx4a65c_grow_92f84) := goodIn_app (goodIn_of _ (by decide +kernel)) ggJx4a65c_grow_d5877_Jx4a65c_grow_92f84
theorem dJx4a65c_grow_d5877_0 : decode cJx4a65c_grow_d5877 0 = .ok (.aload_n 0, 1) := by decide +kernel
theorem dJx4a65c_grow_d5877_1 : decode cJx4a65c_grow_d5877 1 = .ok (.aload_n 0, 1) := by decide +kernel
theorem dJx4a65c_grow_d5877_2 : decode cJx4a65c_grow_d5877 2 = .ok (.getfield 48, 3) := by decide +kernel
theorem dJx4a65c_grow_d5877_5 : decode cJx4a65c_grow_d5877 5 = .ok (.iconst 1, 1) := by decide +kernel
theorem dJx4a65c_grow_d5877_6 : decode cJx4a65c_grow_d5877 6 = .ok (.iadd, 1) := by decide +kernel
theorem dJx4a65c_grow_d5877_7 : decode cJx4a65c_grow_d5877 7 = .ok (.invokevirtual 69, 3) := by decide +kernel
theorem dJx4a65c_grow_d5877_10 : decode cJx4a65c_grow_d5877 10 = .ok (.areturn, 1) := by decide +kernel
theorem dJx4a65c_size_8abf5_0 : decode cJx4a65c_size_8abf5 0 = .ok (.aload_n 0, 1) := by decide +kernel
theorem dJx4a65c_size_8abf5_1 : decode cJx4a65c_size_8abf5 1 = .ok (.getfield 48, 3) := by decide +kernel
theorem dJx4a65c_size_8abf5_4 : decode cJx4a65c_size_8abf5 4 = .ok (.ireturn, 1) := by decide +kernel
theorem dJx4a65c_elementData_915e3_0 : decode cJx4a65c_elementData_915e3 0 = .ok (.aload_n 0, 1) := by decide +kernel
theorem dJx4a65c_elementData_915e3_1 : decode cJx4a65c_elementData_915e3 1 = .ok (.getfield 9, 3) := by decide +kernel
theorem dJx4a65c_elementData_915e3_4 : decode cJx4a65c_elementData_915e3 4 = .ok (.iload_n 1, 1) := by decide +kernel
theorem dJx4a65c_elementData_915e3_5 : decode cJx4a65c_elementData_915e3 5 = .ok (.aaload, 1) := by decide +kernel
theorem dJx4a65c_elementData_915e3_6 : decode cJx4a65c_elementData_915e3 6 = .ok (.areturn, 1) := by decide +kernel
set_option maxRecDepth 20000 in
theorem ggJx4a65c_get_915e3_J15_checkIndex_7cf53 : GoodIn wsJx4a65c_get_915e3 wsJ15_checkIndex_7cf53 := goodIn_r _ [5, 6, 7, 8, 9] (by decide +kernel) (by decide +kernel)
set_option maxRecDepth 20000 in
theorem gJx4a65c_get_915e3_J15_checkIndex_7cf53 : GoodIn wsJx4a65c_get_915e3 (va_wsS RJx4a65c 118 yJ15_checkIndex_7cf53 wsJ15_checkIndex_7cf53) := goodIn_app (goodIn_of _ (by decide +kernel)) ggJx4a65c_get_915e3_J15_checkIndex_7cf53
set_option maxRecDepth 20000 in
theorem ggJx4a65c_get_915e3_Jx4a65c_elementData_915e3 : GoodIn wsJx4a65c_get_915e3 wsJx4a65c_elementData_915e3 := goodIn_r _ [14, 15, 16, 17, 18] (by decide +kernel) (by decide +kernel)
set_option maxRecDepth 20000 in
theorem gJx4a65c_get_915e3_Jx4a65c_elementData_915e3 : GoodIn wsJx4a65c_get_915e3 (wsV RJx4a65c 123 RJx4a65c yJx4a65c_elementData_915e3 wsJx4a65c_elementData_915e3) := goodIn_app (goodIn_of _ (by decide +kernel)) ggJx4a65c_get_915e3_Jx4a65c_elementData_915e3
theorem dJx4a65c_get_915e3_0 : decode cJx4a65c_get_915e3 0 = .ok (.iload_n 1, 1) := by decide +kernel
theorem dJx4a65c_get_915e3_1 : decode cJx4a65c_get_915e3 1 = .ok (.aload_n 0, 1) := by decide +kernel
theorem dJx4a65c_get_915e3_2 : decode cJx4a65c_get_915e3 2 = .ok (.getfield 48, 3) := by decide +kernel
theorem dJx4a65c_get_915e3_5 : decode cJx4a65c_get_915e3 5 = .ok (.invokestatic 118, 3) := by decide +kernel
theorem dJx4a65c_get_915e3_8 : decode cJx4a65c_get_915e3 8 = .ok (.pop, 1) := by decide +kernel
theorem dJx4a65c_get_915e3_9 : decode cJx4a65c_get_915e3 9 = .ok (.aload_n 0, 1) := by decide +kernel
theorem dJx4a65c_get_915e3_10 : decode cJx4a65c_get_915e3 10 = .ok (.iload_n 1, 1) := by decide +kernel
theorem dJx4a65c_get_915e3_11 : decode cJx4a65c_get_915e3 11 = .ok (.invokevirtual 123, 3) := by decide +kernel
theorem dJx4a65c_get_915e3_14 : decode cJx4a65c_get_915e3 14 = .ok (.areturn, 1) := by decide +kernel
set_option maxRecDepth 20000 in
theorem ggJx4a65c_add_72be8_Jx4a65c_grow_d5877 : GoodIn wsJx4a65c_add_72be8 wsJx4a65c_grow_d5877 := goodIn_r _ [6, 1, 7, 8, 9, 5, 10, 11, 12, 13, 14, 15, 16, 17, 18, 19, 20, 21, 22, 23, 24, 25, 26, 27, 28, 29, 30, 31, 32, 33, 34, 35, 36, 37, 38, 39, 40, 41, 42, 43, 44, 45, 46, 47, 48, 49] (by decide +kernel) (by decide +kernel)
set_option maxRecDepth 20000 in
theorem gJx4a65c_add_72be8_Jx4a65c_grow_d5877 : GoodIn wsJx4a65c_add_72be8 (wsV RJx4a65c 129 RJx4a65c yJx4a65c_grow_d5877 wsJx4a65c_grow_d5877) := goodIn_app (goodIn_of _ (by decide +kernel)) ggJx4a65c_add_72be8_Jx4a65c_grow_d5877
theorem dJx4a65c_add_72be8_0 : decode cJx4a65c_add_72be8 0 = .ok (.iload_n 3, 1) := by decide +kernel
theorem dJx4a65c_add_72be8_1 : decode cJx4a65c_add_72be8 1 = .ok (.aload_n 2, 1) := by decide +kernel
theorem dJx4a65c_add_72be8_2 : decode cJx4a65c_add_72be8 2 = .ok (.arraylength, 1) := by decide +kernel
theorem dJx4a65c_add_72be8_3 : decode cJx4a65c_add_72be8 3 = .ok (.if_icmp .ne 8, 3) := by decide +kernel
theorem dJx4a65c_add_72be8_6 : decode cJx4a65c_add_72be8 6 = .ok (.aload_n 0, 1) := by decide +kernel
theorem dJx4a65c_add_72be8_7 : decode cJx4a65c_add_72be8 7 = .ok (.invokevirtual 129, 3) := by decide +kernel
theorem dJx4a65c_add_72be8_10 : decode cJx4a65c_add_72be8 10 = .ok (.astore_n 2, 1) := by decide +kernel
theorem dJx4a65c_add_72be8_11 : decode cJx4a65c_add_72be8 11 = .ok (.aload_n 2, 1) := by decide +kernel
theorem dJx4a65c_add_72be8_12 : decode cJx4a65c_add_72be8 12 = .ok (.iload_n 3, 1) := by decide +kernel
theorem dJx4a65c_add_72be8_13 : decode cJx4a65c_add_72be8 13 = .ok (.aload_n 1, 1) := by decide +kernel
theorem dJx4a65c_add_72be8_14 : decode cJx4a65c_add_72be8 14 = .ok (.aastore, 1) := by decide +kernel
theorem dJx4a65c_add_72be8_15 : decode cJx4a65c_add_72be8 15 = .ok (.aload_n 0, 1) := by decide +kernel
theorem dJx4a65c_add_72be8_16 : decode cJx4a65c_add_72be8 16 = .ok (.iload_n 3, 1) := by decide +kernel
theorem dJx4a65c_add_72be8_17 : decode cJx4a65c_add_72be8 17 = .ok (.iconst 1, 1) := by decide +kernel
theorem dJx4a65c_add_72be8_18 : decode cJx4a65c_add_72be8 18 = .ok (.iadd, 1) := by decide +kernel
theorem dJx4a65c_add_72be8_19 : decode cJx4a65c_add_72be8 19 = .ok (.putfield 48, 3) := by decide +kernel
theorem dJx4a65c_add_72be8_22 : decode cJx4a65c_add_72be8 22 = .ok (.return_, 1) := by decide +kernel
set_option maxRecDepth 20000 in
theorem ggJx4a65c_add_9ea2d_Jx4a65c_add_72be8 : GoodIn wsJx4a65c_add_9ea2d wsJx4a65c_add_72be8 := goodIn_r _ [9, 4, 10, 11, 12, 8, 13, 14, 15, 16, 17, 3, 18, 19, 20, 21, 22, 23, 24, 25, 26, 27, 28, 29, 30, 31, 32, 33, 34, 35, 36, 37, 38, 39, 40, 41, 42, 43, 44, 45, 46, 47, 48, 49, 50, 51, 52, 53, 54, 55] (by decide +kernel) (by decide +kernel)
set_option maxRecDepth 20000 in
theorem gJx4a65c_add_9ea2d_Jx4a65c_add_72be8 : GoodIn wsJx4a65c_add_9ea2d (wsV RJx4a65c 131 RJx4a65c yJx4a65c_add_72be8 wsJx4a65c_add_72be8) := goodIn_app (goodIn_of _ (by decide +kernel)) ggJx4a65c_add_9ea2d_Jx4a65c_add_72be8
theorem dJx4a65c_add_9ea2d_0 : decode cJx4a65c_add_9ea2d 0 = .ok (.aload_n 0, 1) := by decide +kernel
theorem dJx4a65c_add_9ea2d_1 : decode cJx4a65c_add_9ea2d 1 = .ok (.dup, 1) := by decide +kernel
theorem dJx4a65c_add_9ea2d_2 : decode cJx4a65c_add_9ea2d 2 = .ok (.getfield 63, 3) := by decide +kernel
theorem dJx4a65c_add_9ea2d_5 : decode cJx4a65c_add_9ea2d 5 = .ok (.iconst 1, 1) := by decide +kernel
theorem dJx4a65c_add_9ea2d_6 : decode cJx4a65c_add_9ea2d 6 = .ok (.iadd, 1) := by decide +kernel
theorem dJx4a65c_add_9ea2d_7 : decode cJx4a65c_add_9ea2d 7 = .ok (.putfield 63, 3) := by decide +kernel
theorem dJx4a65c_add_9ea2d_10 : decode cJx4a65c_add_9ea2d 10 = .ok (.aload_n 0, 1) := by decide +kernel
theorem dJx4a65c_add_9ea2d_11 : decode cJx4a65c_add_9ea2d 11 = .ok (.aload_n 1, 1) := by decide +kernel
theorem dJx4a65c_add_9ea2d_12 : decode cJx4a65c_add_9ea2d 12 = .ok (.aload_n 0, 1) := by decide +kernel
theorem dJx4a65c_add_9ea2d_13 : decode cJx4a65c_add_9ea2d 13 = .ok (.getfield 9, 3) := by decide +kernel
theorem dJx4a65c_add_9ea2d_16 : decode cJx4a65c_add_9ea2d 16 = .ok (.aload_n 0, 1) := by decide +kernel
theorem dJx4a65c_add_9ea2d_17 : decode cJx4a65c_add_9ea2d 17 = .ok (.getfield 48, 3) := by decide +kernel
theorem dJx4a65c_add_9ea2d_20 : decode cJx4a65c_add_9ea2d 20 = .ok (.invokevirtual 131, 3) := by decide +kernel
theorem dJx4a65c_add_9ea2d_23 : decode cJx4a65c_add_9ea2d 23 = .ok (.iconst 1, 1) := by decide +kernel
theorem dJx4a65c_add_9ea2d_24 : decode cJx4a65c_add_9ea2d 24 = .ok (.ireturn, 1) := by decide +kernel
theorem dJ7_fill_53178_0 : decode cJ7_fill_53178 0 = .ok (.iconst 0, 1) := by decide +kernel
theorem dJ7_fill_53178_1 : decode cJ7_fill_53178 1 = .ok (.istore_n 2, 1) := by decide +kernel
theorem dJ7_fill_53178_2 : decode cJ7_fill_53178 2 = .ok (.aload_n 0, 1) := by decide +kernel
theorem dJ7_fill_53178_3 : decode cJ7_fill_53178 3 = .ok (.arraylength, 1) := by decide +kernel
theorem dJ7_fill_53178_4 : decode cJ7_fill_53178 4 = .ok (.istore_n 3, 1) := by decide +kernel
theorem dJ7_fill_53178_5 : decode cJ7_fill_53178 5 = .ok (.iload_n 2, 1) := by decide +kernel
theorem dJ7_fill_53178_6 : decode cJ7_fill_53178 6 = .ok (.iload_n 3, 1) := by decide +kernel
theorem dJ7_fill_53178_7 : decode cJ7_fill_53178 7 = .ok (.if_icmp .ge 13, 3) := by decide +kernel
theorem dJ7_fill_53178_10 : decode cJ7_fill_53178 10 = .ok (.aload_n 0, 1) := by decide +kernel
theorem dJ7_fill_53178_11 : decode cJ7_fill_53178 11 = .ok (.iload_n 2, 1) := by decide +kernel
theorem dJ7_fill_53178_12 : decode cJ7_fill_53178 12 = .ok (.iload_n 1, 1) := by decide +kernel
theorem dJ7_fill_53178_13 : decode cJ7_fill_53178 13 = .ok (.iastore, 1) := by decide +kernel
theorem dJ7_fill_53178_14 : decode cJ7_fill_53178 14 = .ok (.iinc 2 1, 3) := by decide +kernel
theorem dJ7_fill_53178_17 : decode cJ7_fill_53178 17 = .ok (.goto (-12), 3) := by decide +kernel
theorem dJ7_fill_53178_20 : decode cJ7_fill_53178 20 = .ok (.return_, 1) := by decide +kernel
set_option maxRecDepth 20000 in
theorem ggJ7_copyOf_1904c_J7_copyOf_6403c : GoodIn wsJ7_copyOf_1904c wsJ7_copyOf_6403c := goodIn_r _ [8, 9, 10, 11, 12, 13, 14, 15, 16, 17, 18] (by decide +kernel) (by decide +kernel)
set_option maxRecDepth 20000 in
theorem gJ7_copyOf_1904c_J7_copyOf_6403c : GoodIn wsJ7_copyOf_1904c (va_wsS RJ7 300 yJ7_copyOf_6403c wsJ7_copyOf_6403c) := goodIn_app (goodIn_of _ (by decide +kernel)) ggJ7_copyOf_1904c_J7_copyOf_6403c
theorem dJ7_copyOf_1904c_0 : decode cJ7_copyOf_1904c 0 = .ok (.aload_n 0, 1) := by decide +kernel
theorem dJ7_copyOf_1904c_1 : decode cJ7_copyOf_1904c 1 = .ok (.iload_n 1, 1) := by decide +kernel
theorem dJ7_copyOf_1904c_2 : decode cJ7_copyOf_1904c 2 = .ok (.aload_n 0, 1) := by decide +kernel
theorem dJ7_copyOf_1904c_3 : decode cJ7_copyOf_1904c 3 = .ok (.invokevirtual 86, 3) := by decide +kernel
theorem dJ7_copyOf_1904c_6 : decode cJ7_copyOf_1904c 6 = .ok (.invokestatic 300, 3) := by decide +kernel
theorem dJ7_copyOf_1904c_9 : decode cJ7_copyOf_1904c 9 = .ok (.areturn, 1) := by decide +kernel
theorem dJ7_copyOf_6403c_0 : decode cJ7_copyOf_6403c 0 = .ok (.aload_n 2, 1) := by decide +kernel
theorem dJ7_copyOf_6403c_1 : decode cJ7_copyOf_6403c 1 = .ok (.ldc 110, 2) := by decide +kernel
theorem dJ7_copyOf_6403c_3 : decode cJ7_copyOf_6403c 3 = .ok (.if_acmp .ne 10, 3) := by decide +kernel
theorem dJ7_copyOf_6403c_6 : decode cJ7_copyOf_6403c 6 = .ok (.iload_n 1, 1) := by decide +kernel
theorem dJ7_copyOf_6403c_7 : decode cJ7_copyOf_6403c 7 = .ok (.anewarray 2, 3) := by decide +kernel
theorem dJ7_copyOf_6403c_10 : decode cJ7_copyOf_6403c 10 = .ok (.goto 14, 3) := by decide +kernel
theorem dJ7_copyOf_6403c_13 : decode cJ7_copyOf_6403c 13 = .ok (.aload_n 2, 1) := by decide +kernel
theorem dJ7_copyOf_6403c_14 : decode cJ7_copyOf_6403c 14 = .ok (.invokevirtual 90, 3) := by decide +kernel
theorem dJ7_copyOf_6403c_17 : decode cJ7_copyOf_6403c 17 = .ok (.iload_n 1, 1) := by decide +kernel
theorem dJ7_copyOf_6403c_18 : decode cJ7_copyOf_6403c 18 = .ok (.invokestatic 95, 3) := by decide +kernel
theorem dJ7_copyOf_6403c_21 : decode cJ7_copyOf_6403c 21 = .ok (.checkcast 110, 3) := by decide +kernel
theorem dJ7_copyOf_6403c_24 : decode cJ7_copyOf_6403c 24 = .ok (.astore_n 3, 1) := by decide +kernel
theorem dJ7_copyOf_6403c_25 : decode cJ7_copyOf_6403c 25 = .ok (.aload_n 0, 1) := by decide +kernel
theorem dJ7_copyOf_6403c_26 : decode cJ7_copyOf_6403c 26 = .ok (.iconst 0, 1) := by decide +kernel
theorem dJ7_copyOf_6403c_27 : decode cJ7_copyOf_6403c 27 = .ok (.aload_n 3, 1) := by decide +kernel
theorem dJ7_copyOf_6403c_28 : decode cJ7_copyOf_6403c 28 = .ok (.iconst 0, 1) := by decide +kernel
theorem dJ7_copyOf_6403c_29 : decode cJ7_copyOf_6403c 29 = .ok (.aload_n 0, 1) := by decide +kernel
theorem dJ7_copyOf_6403c_30 : decode cJ7_copyOf_6403c 30 = .ok (.arraylength, 1) := by decide +kernel
theorem dJ7_copyOf_6403c_31 : decode cJ7_copyOf_6403c 31 = .ok (.iload_n 1, 1) := by decide +kernel
theorem dJ7_copyOf_6403c_32 : decode cJ7_copyOf_6403c 32 = .ok (.invokestatic 304, 3) := by decide +kernel
theorem dJ7_copyOf_6403c_35 : decode cJ7_copyOf_6403c 35 = .ok (.invokestatic 150, 3) := by decide +kernel
theorem dJ7_copyOf_6403c_38 : decode cJ7_copyOf_6403c 38 = .ok (.aload_n 3, 1) := by decide +kernel
theorem dJ7_copyOf_6403c_39 : decode cJ7_copyOf_6403c 39 = .ok (.areturn, 1) := by decide +kernel
set_option maxRecDepth 20000 in
theorem ggJ15_checkIndex_7cf53_J3_checkIndex_8e157 : GoodIn wsJ15_checkIndex_7cf53 wsJ3_checkIndex_8e157 := goodIn_r _ [4] (by decide +kernel) (by decide +kernel)
set_option maxRecDepth 20000 in
theorem gJ15_checkIndex_7cf53_J3_checkIndex_8e157 : GoodIn wsJ15_checkIndex_7cf53 (va_wsS RJ15 105 yJ3_checkIndex_8e157 wsJ3_checkIndex_8e157) := goodIn_app (goodIn_of _ (by decide +kernel)) ggJ15_checkIndex_7cf53_J3_checkIndex_8e157
theorem dJ15_checkIndex_7cf53_0 : decode cJ15_checkIndex_7cf53 0 = .ok (.iload_n 0, 1) := by decide +kernel
end
section
theorem dJ15_checkIndex_7cf53_1 : decode cJ15_checkIndex_7cf53 1 = .ok (.iload_n 1, 1) := by decide +kernel
theorem dJ15_checkIndex_7cf53_2 : decode cJ15_checkIndex_7cf53 2 = .ok (.aconst_null, 1) := by decide +kernel
theorem dJ15_checkIndex_7cf53_3 : decode cJ15_checkIndex_7cf53 3 = .ok (.invokestatic 105, 3) := by decide +kernel
theorem dJ15_checkIndex_7cf53_6 : decode cJ15_checkIndex_7cf53 6 = .ok (.ireturn, 1) := by decide +kernel
set_option maxRecDepth 20000 in
theorem ggJ8_newLength_cabcc_J8_hugeLength_7cf53 : GoodIn wsJ8_newLength_cabcc wsJ8_hugeLength_7cf53 := goodIn_r _ [9, 5] (by decide +kernel) (by decide +kernel)
set_option maxRecDepth 20000 in
theorem gJ8_newLength_cabcc_J8_hugeLength_7cf53 : GoodIn wsJ8_newLength_cabcc (va_wsS RJ8 201 yJ8_hugeLength_7cf53 wsJ8_hugeLength_7cf53) := goodIn_app (goodIn_of _ (by decide +kernel)) ggJ8_newLength_cabcc_J8_hugeLength_7cf53
theorem dJ8_newLength_cabcc_0 : decode cJ8_newLength_cabcc 0 = .ok (.iload_n 0, 1) := by decide +kernel
theorem dJ8_newLength_cabcc_1 : decode cJ8_newLength_cabcc 1 = .ok (.iload_n 1, 1) := by decide +kernel
theorem dJ8_newLength_cabcc_2 : decode cJ8_newLength_cabcc 2 = .ok (.iload_n 2, 1) := by decide +kernel
theorem dJ8_newLength_cabcc_3 : decode cJ8_newLength_cabcc 3 = .ok (.invokestatic 194, 3) := by decide +kernel
theorem dJ8_newLength_cabcc_6 : decode cJ8_newLength_cabcc 6 = .ok (.iadd, 1) := by decide +kernel
theorem dJ8_newLength_cabcc_7 : decode cJ8_newLength_cabcc 7 = .ok (.istore_n 3, 1) := by decide +kernel
theorem dJ8_newLength_cabcc_8 : decode cJ8_newLength_cabcc 8 = .ok (.iconst 0, 1) := by decide +kernel
theorem dJ8_newLength_cabcc_9 : decode cJ8_newLength_cabcc 9 = .ok (.iload_n 3, 1) := by decide +kernel
theorem dJ8_newLength_cabcc_10 : decode cJ8_newLength_cabcc 10 = .ok (.if_icmp .ge 11, 3) := by decide +kernel
theorem dJ8_newLength_cabcc_13 : decode cJ8_newLength_cabcc 13 = .ok (.iload_n 3, 1) := by decide +kernel
theorem dJ8_newLength_cabcc_14 : decode cJ8_newLength_cabcc 14 = .ok (.ldc 200, 2) := by decide +kernel
theorem dJ8_newLength_cabcc_16 : decode cJ8_newLength_cabcc 16 = .ok (.if_icmp .gt 5, 3) := by decide +kernel
theorem dJ8_newLength_cabcc_19 : decode cJ8_newLength_cabcc 19 = .ok (.iload_n 3, 1) := by decide +kernel
theorem dJ8_newLength_cabcc_20 : decode cJ8_newLength_cabcc 20 = .ok (.ireturn, 1) := by decide +kernel
theorem dJ8_newLength_cabcc_21 : decode cJ8_newLength_cabcc 21 = .ok (.iload_n 0, 1) := by decide +kernel
theorem dJ8_newLength_cabcc_22 : decode cJ8_newLength_cabcc 22 = .ok (.iload_n 1, 1) := by decide +kernel
theorem dJ8_newLength_cabcc_23 : decode cJ8_newLength_cabcc 23 = .ok (.invokestatic 201, 3) := by decide +kernel
theorem dJ8_newLength_cabcc_26 : decode cJ8_newLength_cabcc 26 = .ok (.ireturn, 1) := by decide +kernel
theorem dJ8_hugeLength_7cf53_0 : decode cJ8_hugeLength_7cf53 0 = .ok (.iload_n 0, 1) := by decide +kernel
theorem dJ8_hugeLength_7cf53_1 : decode cJ8_hugeLength_7cf53 1 = .ok (.iload_n 1, 1) := by decide +kernel
theorem dJ8_hugeLength_7cf53_2 : decode cJ8_hugeLength_7cf53 2 = .ok (.iadd, 1) := by decide +kernel
theorem dJ8_hugeLength_7cf53_3 : decode cJ8_hugeLength_7cf53 3 = .ok (.istore_n 2, 1) := by decide +kernel
theorem dJ8_hugeLength_7cf53_4 : decode cJ8_hugeLength_7cf53 4 = .ok (.iload_n 2, 1) := by decide +kernel
theorem dJ8_hugeLength_7cf53_5 : decode cJ8_hugeLength_7cf53 5 = .ok (.ifCond .ge 44, 3) := by decide +kernel
theorem dJ8_hugeLength_7cf53_8 : decode cJ8_hugeLength_7cf53 8 = .ok (.new 204, 3) := by decide +kernel
theorem dJ8_hugeLength_7cf53_11 : decode cJ8_hugeLength_7cf53 11 = .ok (.dup, 1) := by decide +kernel
theorem dJ8_hugeLength_7cf53_12 : decode cJ8_hugeLength_7cf53 12 = .ok (.new 89, 3) := by decide +kernel
theorem dJ8_hugeLength_7cf53_15 : decode cJ8_hugeLength_7cf53 15 = .ok (.dup, 1) := by decide +kernel
theorem dJ8_hugeLength_7cf53_16 : decode cJ8_hugeLength_7cf53 16 = .ok (.invokespecial 91, 3) := by decide +kernel
theorem dJ8_hugeLength_7cf53_19 : decode cJ8_hugeLength_7cf53 19 = .ok (.ldc 206, 2) := by decide +kernel
theorem dJ8_hugeLength_7cf53_21 : decode cJ8_hugeLength_7cf53 21 = .ok (.invokevirtual 94, 3) := by decide +kernel
theorem dJ8_hugeLength_7cf53_24 : decode cJ8_hugeLength_7cf53 24 = .ok (.iload_n 0, 1) := by decide +kernel
theorem dJ8_hugeLength_7cf53_25 : decode cJ8_hugeLength_7cf53 25 = .ok (.invokevirtual 98, 3) := by decide +kernel
theorem dJ8_hugeLength_7cf53_28 : decode cJ8_hugeLength_7cf53 28 = .ok (.ldc 208, 2) := by decide +kernel
theorem dJ8_hugeLength_7cf53_30 : decode cJ8_hugeLength_7cf53 30 = .ok (.invokevirtual 94, 3) := by decide +kernel
theorem dJ8_hugeLength_7cf53_33 : decode cJ8_hugeLength_7cf53 33 = .ok (.iload_n 1, 1) := by decide +kernel
theorem dJ8_hugeLength_7cf53_34 : decode cJ8_hugeLength_7cf53 34 = .ok (.invokevirtual 98, 3) := by decide +kernel
theorem dJ8_hugeLength_7cf53_37 : decode cJ8_hugeLength_7cf53 37 = .ok (.ldc 210, 2) := by decide +kernel
theorem dJ8_hugeLength_7cf53_39 : decode cJ8_hugeLength_7cf53 39 = .ok (.invokevirtual 94, 3) := by decide +kernel
theorem dJ8_hugeLength_7cf53_42 : decode cJ8_hugeLength_7cf53 42 = .ok (.invokevirtual 101, 3) := by decide +kernel
theorem dJ8_hugeLength_7cf53_45 : decode cJ8_hugeLength_7cf53 45 = .ok (.invokespecial 212, 3) := by decide +kernel
theorem dJ8_hugeLength_7cf53_48 : decode cJ8_hugeLength_7cf53 48 = .ok (.athrow, 1) := by decide +kernel
theorem dJ8_hugeLength_7cf53_49 : decode cJ8_hugeLength_7cf53 49 = .ok (.iload_n 2, 1) := by decide +kernel
theorem dJ8_hugeLength_7cf53_50 : decode cJ8_hugeLength_7cf53 50 = .ok (.ldc 200, 2) := by decide +kernel
theorem dJ8_hugeLength_7cf53_52 : decode cJ8_hugeLength_7cf53 52 = .ok (.if_icmp .gt 6, 3) := by decide +kernel
theorem dJ8_hugeLength_7cf53_55 : decode cJ8_hugeLength_7cf53 55 = .ok (.ldc 200, 2) := by decide +kernel
theorem dJ8_hugeLength_7cf53_57 : decode cJ8_hugeLength_7cf53 57 = .ok (.ireturn, 1) := by decide +kernel
theorem dJ8_hugeLength_7cf53_58 : decode cJ8_hugeLength_7cf53 58 = .ok (.iload_n 2, 1) := by decide +kernel
theorem dJ8_hugeLength_7cf53_59 : decode cJ8_hugeLength_7cf53 59 = .ok (.ireturn, 1) := by decide +kernel
theorem dJ3_checkIndex_8e157_0 : decode cJ3_checkIndex_8e157 0 = .ok (.iload_n 0, 1) := by decide +kernel
theorem dJ3_checkIndex_8e157_1 : decode cJ3_checkIndex_8e157 1 = .ok (.ifCond .lt 8, 3) := by decide +kernel
theorem dJ3_checkIndex_8e157_4 : decode cJ3_checkIndex_8e157 4 = .ok (.iload_n 0, 1) := by decide +kernel
theorem dJ3_checkIndex_8e157_5 : decode cJ3_checkIndex_8e157 5 = .ok (.iload_n 1, 1) := by decide +kernel
theorem dJ3_checkIndex_8e157_6 : decode cJ3_checkIndex_8e157 6 = .ok (.if_icmp .lt 10, 3) := by decide +kernel
theorem dJ3_checkIndex_8e157_9 : decode cJ3_checkIndex_8e157 9 = .ok (.aload_n 2, 1) := by decide +kernel
theorem dJ3_checkIndex_8e157_10 : decode cJ3_checkIndex_8e157 10 = .ok (.iload_n 0, 1) := by decide +kernel
theorem dJ3_checkIndex_8e157_11 : decode cJ3_checkIndex_8e157 11 = .ok (.iload_n 1, 1) := by decide +kernel
theorem dJ3_checkIndex_8e157_12 : decode cJ3_checkIndex_8e157 12 = .ok (.invokestatic 95, 3) := by decide +kernel
theorem dJ3_checkIndex_8e157_15 : decode cJ3_checkIndex_8e157 15 = .ok (.athrow, 1) := by decide +kernel
theorem dJ3_checkIndex_8e157_16 : decode cJ3_checkIndex_8e157 16 = .ok (.iload_n 0, 1) := by decide +kernel
theorem dJ3_checkIndex_8e157_17 : decode cJ3_checkIndex_8e157 17 = .ok (.ireturn, 1) := by decide +kernel
set_option maxRecDepth 20000 in
theorem ggL_make_X4_make : GoodIn wsL_make wsX4_make := goodIn_ca (goodIn_ca (goodIn_r _ [7, 8, 9, 10, 11, 12, 13, 14, 15, 16, 17, 18, 19, 20, 21, 22, 23, 24, 25, 26, 27, 28, 29, 30, 31, 32, 33, 34, 35, 36, 37, 38, 39, 40, 41, 42, 43, 44, 45, 46, 47, 48, 49, 50, 51, 52, 53, 54, 55, 56, 57, 58, 59, 60, 61, 62, 63, 64, 65, 66, 67, 68, 69, 70, 71, 72, 73, 74, 75, 76, 77, 78, 79, 80, 81, 82, 83, 84, 85, 86, 87, 88, 89, 90, 91, 92, 93, 94, 95, 96, 97, 98, 99, 100, 101, 102, 103, 104, 105, 106, 6, 107, 108, 109, 110, 111, 112, 113, 114, 115, 116, 117, 118, 119, 120, 121, 122, 123, 124, 125, 126, 127, 128, 129, 130, 131, 132, 133, 134, 135, 136, 137, 138, 139, 140, 141, 142, 143, 144, 145, 146, 147, 148, 149, 150, 151, 152, 153, 154, 155, 156, 157, 158, 159, 160, 161, 162, 163, 164, 165, 166, 167, 168, 169, 170, 171, 172, 173, 174, 175, 176, 177, 178, 179, 180, 181, 182, 183, 184, 185, 186, 187, 188, 189, 190, 191, 192, 193, 194, 195, 196, 197, 198, 199, 200, 201, 202, 203, 204, 205, 206, 207, 208] (by decide +kernel) (by decide +kernel)) (goodIn_sub (fun _ h => List.mem_cons_of_mem _ (List.mem_append_left _ (List.mem_append_right _ h))) (by decide +kernel))) (goodIn_sub (fun _ h => List.mem_cons_of_mem _ (List.mem_append_right _ h)) (by decide +kernel))
set_option maxRecDepth 20000 in
theorem gL_make_X4_make : GoodIn wsL_make (wsV RL 7 RX4 yX4_make wsX4_make) := goodIn_app (goodIn_of _ (by decide +kernel)) ggL_make_X4_make
theorem dL_make_0 : decode cL_make 0 = .ok (.aload_n 3, 1) := by decide +kernel
theorem dL_make_1 : decode cL_make 1 = .ok (.iconst 0, 1) := by decide +kernel
theorem dL_make_2 : decode cL_make 2 = .ok (.aload_n 0, 1) := by decide +kernel
theorem dL_make_3 : decode cL_make 3 = .ok (.iload_n 1, 1) := by decide +kernel
theorem dL_make_4 : decode cL_make 4 = .ok (.iload_n 2, 1) := by decide +kernel
theorem dL_make_5 : decode cL_make 5 = .ok (.invokevirtual 7, 3) := by decide +kernel
theorem dL_make_8 : decode cL_make 8 = .ok (.i2l, 1) := by decide +kernel
theorem dL_make_9 : decode cL_make 9 = .ok (.lastore, 1) := by decide +kernel
theorem dL_make_10 : decode cL_make 10 = .ok (.goto 11, 3) := by decide +kernel
theorem dL_make_13 : decode cL_make 13 = .ok (.astore 4, 2) := by decide +kernel
theorem dL_make_15 : decode cL_make 15 = .ok (.iconst 1, 1) := by decide +kernel
theorem dL_make_16 : decode cL_make 16 = .ok (.ireturn, 1) := by decide +kernel
theorem dL_make_17 : decode cL_make 17 = .ok (.astore 4, 2) := by decide +kernel
theorem dL_make_19 : decode cL_make 19 = .ok (.iconst 2, 1) := by decide +kernel
theorem dL_make_20 : decode cL_make 20 = .ok (.ireturn, 1) := by decide +kernel
theorem dL_make_21 : decode cL_make 21 = .ok (.iconst 0, 1) := by decide +kernel
theorem dL_make_22 : decode cL_make 22 = .ok (.ireturn, 1) := by decide +kernel
set_option maxRecDepth 20000 in
theorem ggL_grow_X4_grow : GoodIn wsL_grow wsX4_grow := goodIn_ca (goodIn_ca (goodIn_r _ [7, 8, 9, 10, 11, 12, 13, 6, 14, 15, 16, 17, 18, 19, 20, 21, 22, 23, 24, 25, 26, 27, 28, 29, 30, 31, 32, 33, 34, 35, 36, 37, 38, 39, 40, 41, 42, 43, 44, 45, 46, 47, 48, 49, 50, 51, 52, 53, 54, 55, 56, 57, 58, 59, 60, 61, 62, 63, 64, 65, 66, 67, 68, 69, 70, 71, 72, 73, 74, 75, 76, 77, 78, 79, 80, 81, 82, 83, 84, 85, 86, 87, 88, 89, 90, 91, 92, 93, 94, 95, 96, 97, 98, 99, 100, 101, 102, 103, 104, 105, 106, 107, 108, 109, 110, 111, 112, 113, 114, 115, 116, 117, 118, 119, 120, 121, 122, 123, 124, 125, 126, 127, 128, 129, 130, 131, 132, 133, 134, 135, 136, 137, 138, 139, 140, 141, 142, 143, 144, 145] (by decide +kernel) (by decide +kernel)) (goodIn_sub (fun _ h => List.mem_cons_of_mem _ (List.mem_append_left _ (List.mem_append_right _ h))) (by decide +kernel))) (goodIn_sub (fun _ h => List.mem_cons_of_mem _ (List.mem_append_right _ h)) (by decide +kernel))
set_option maxRecDepth 20000 in
theorem gL_grow_X4_grow : GoodIn wsL_grow (wsV RL 17 RX4 yX4_grow wsX4_grow) := goodIn_app (goodIn_of _ (by decide +kernel)) ggL_grow_X4_grow
theorem dL_grow_0 : decode cL_grow 0 = .ok (.aload_n 2, 1) := by decide +kernel
theorem dL_grow_1 : decode cL_grow 1 = .ok (.iconst 0, 1) := by decide +kernel
theorem dL_grow_2 : decode cL_grow 2 = .ok (.aload_n 0, 1) := by decide +kernel
theorem dL_grow_3 : decode cL_grow 3 = .ok (.iload_n 1, 1) := by decide +kernel
theorem dL_grow_4 : decode cL_grow 4 = .ok (.invokevirtual 17, 3) := by decide +kernel
theorem dL_grow_7 : decode cL_grow 7 = .ok (.i2l, 1) := by decide +kernel
theorem dL_grow_8 : decode cL_grow 8 = .ok (.lastore, 1) := by decide +kernel
theorem dL_grow_9 : decode cL_grow 9 = .ok (.goto 9, 3) := by decide +kernel
theorem dL_grow_12 : decode cL_grow 12 = .ok (.astore_n 3, 1) := by decide +kernel
theorem dL_grow_13 : decode cL_grow 13 = .ok (.iconst 1, 1) := by decide +kernel
theorem dL_grow_14 : decode cL_grow 14 = .ok (.ireturn, 1) := by decide +kernel
theorem dL_grow_15 : decode cL_grow 15 = .ok (.astore_n 3, 1) := by decide +kernel
theorem dL_grow_16 : decode cL_grow 16 = .ok (.iconst 2, 1) := by decide +kernel
theorem dL_grow_17 : decode cL_grow 17 = .ok (.ireturn, 1) := by decide +kernel
theorem dL_grow_18 : decode cL_grow 18 = .ok (.iconst 0, 1) := by decide +kernel
theorem dL_grow_19 : decode cL_grow 19 = .ok (.ireturn, 1) := by decide +kernel
set_option maxRecDepth 20000 in
theorem ggL_move_X4_move : GoodIn wsL_move wsX4_move := goodIn_ca (goodIn_ca (goodIn_r _ [7, 8, 9, 10, 11, 12, 13, 14, 6, 15, 16, 17, 18, 19, 20, 21, 22, 23, 24, 25, 26, 27, 28, 29, 30, 31, 32, 33, 34, 35, 36, 37, 38, 39, 40, 41, 42, 43, 44, 45, 46, 47, 48, 49, 50, 51, 52, 53, 54, 55, 56, 57, 58, 59, 60, 61, 62, 63, 64, 65, 66, 67, 68, 69, 70, 71, 72, 73, 74, 75, 76, 77, 78, 79, 80, 81, 82, 83, 84, 85, 86, 87, 88, 89, 90, 91, 92, 93, 94, 95, 96, 97, 98, 99, 100, 101, 102, 103, 104, 105, 106, 107, 108, 109, 110, 111, 112, 113, 114, 115, 116, 117, 118, 119, 120, 121, 122, 123, 124, 125, 126, 127, 128, 129, 130, 131, 132, 133, 134, 135, 136, 137, 138] (by decide +kernel) (by decide +kernel)) (goodIn_sub (fun _ h => List.mem_cons_of_mem _ (List.mem_append_left _ (List.mem_append_right _ h))) (by decide +kernel))) (goodIn_sub (fun _ h => List.mem_cons_of_mem _ (List.mem_append_right _ h)) (by decide +kernel))
set_option maxRecDepth 20000 in
theorem gL_move_X4_move : GoodIn wsL_move (wsV RL 23 RX4 yX4_move wsX4_move) := goodIn_app (goodIn_of _ (by decide +kernel)) ggL_move_X4_move
theorem dL_move_0 : decode cL_move 0 = .ok (.aload_n 2, 1) := by decide +kernel
theorem dL_move_1 : decode cL_move 1 = .ok (.iconst 0, 1) := by decide +kernel
theorem dL_move_2 : decode cL_move 2 = .ok (.aload_n 0, 1) := by decide +kernel
theorem dL_move_3 : decode cL_move 3 = .ok (.iload_n 1, 1) := by decide +kernel
theorem dL_move_4 : decode cL_move 4 = .ok (.invokevirtual 23, 3) := by decide +kernel
theorem dL_move_7 : decode cL_move 7 = .ok (.i2l, 1) := by decide +kernel
theorem dL_move_8 : decode cL_move 8 = .ok (.lastore, 1) := by decide +kernel
theorem dL_move_9 : decode cL_move 9 = .ok (.goto 9, 3) := by decide +kernel
theorem dL_move_12 : decode cL_move 12 = .ok (.astore_n 3, 1) := by decide +kernel
theorem dL_move_13 : decode cL_move 13 = .ok (.iconst 1, 1) := by decide +kernel
theorem dL_move_14 : decode cL_move 14 = .ok (.ireturn, 1) := by decide +kernel
theorem dL_move_15 : decode cL_move 15 = .ok (.astore_n 3, 1) := by decide +kernel
theorem dL_move_16 : decode cL_move 16 = .ok (.iconst 2, 1) := by decide +kernel
theorem dL_move_17 : decode cL_move 17 = .ok (.ireturn, 1) := by decide +kernel
theorem dL_move_18 : decode cL_move 18 = .ok (.iconst 0, 1) := by decide +kernel
theorem dL_move_19 : decode cL_move 19 = .ok (.ireturn, 1) := by decide +kernel
set_option maxRecDepth 20000 in
theorem ggL_throwAway_X4_throwAway : GoodIn wsL_throwAway wsX4_throwAway := goodIn_ca (goodIn_ca (goodIn_r _ [7, 8, 9, 10, 11, 12, 6, 13, 14, 15, 16, 17, 18, 19, 20, 21, 22, 23, 24, 25, 26, 27, 28, 29, 30, 31, 32, 33, 34, 35, 36, 37, 38, 39, 40, 41, 42, 43, 44, 45, 46, 47, 48, 49, 50, 51, 52, 53, 54, 55, 56, 57, 58, 59, 60, 61, 62, 63, 64, 65, 66, 67, 68, 69, 70, 71, 72, 73, 74, 75, 76, 77, 78, 79, 80, 81, 82, 83, 84, 85, 86, 87, 88, 89, 90, 91, 92, 93, 94, 95, 96, 97, 98, 99, 100, 101, 102, 103, 104, 105, 106, 107, 108, 109, 110, 111, 112, 113, 114, 115, 116, 117, 118, 119, 120, 121, 122, 123, 124, 125, 126] (by decide +kernel) (by decide +kernel)) (goodIn_sub (fun _ h => List.mem_cons_of_mem _ (List.mem_append_left _ (List.mem_append_right _ h))) (by decide +kernel))) (goodIn_sub (fun _ h => List.mem_cons_of_mem _ (List.mem_append_right _ h)) (by decide +kernel))
set_option maxRecDepth 20000 in
theorem gL_throwAway_X4_throwAway : GoodIn wsL_throwAway (wsV RL 26 RX4 yX4_throwAway wsX4_throwAway) := goodIn_app (goodIn_of _ (by decide +kernel)) ggL_throwAway_X4_throwAway
theorem dL_throwAway_0 : decode cL_throwAway 0 = .ok (.aload_n 2, 1) := by decide +kernel
theorem dL_throwAway_1 : decode cL_throwAway 1 = .ok (.iconst 0, 1) := by decide +kernel
theorem dL_throwAway_2 : decode cL_throwAway 2 = .ok (.aload_n 0, 1) := by decide +kernel
theorem dL_throwAway_3 : decode cL_throwAway 3 = .ok (.iload_n 1, 1) := by decide +kernel
theorem dL_throwAway_4 : decode cL_throwAway 4 = .ok (.invokevirtual 26, 3) := by decide +kernel
theorem dL_throwAway_7 : decode cL_throwAway 7 = .ok (.i2l, 1) := by decide +kernel
theorem dL_throwAway_8 : decode cL_throwAway 8 = .ok (.lastore, 1) := by decide +kernel
theorem dL_throwAway_9 : decode cL_throwAway 9 = .ok (.goto 9, 3) := by decide +kernel
theorem dL_throwAway_12 : decode cL_throwAway 12 = .ok (.astore_n 3, 1) := by decide +kernel
theorem dL_throwAway_13 : decode cL_throwAway 13 = .ok (.iconst 1, 1) := by decide +kernel
theorem dL_throwAway_14 : decode cL_throwAway 14 = .ok (.ireturn, 1) := by decide +kernel
theorem dL_throwAway_15 : decode cL_throwAway 15 = .ok (.astore_n 3, 1) := by decide +kernel
theorem dL_throwAway_16 : decode cL_throwAway 16 = .ok (.iconst 2, 1) := by decide +kernel
theorem dL_throwAway_17 : decode cL_throwAway 17 = .ok (.ireturn, 1) := by decide +kernel
theorem dL_throwAway_18 : decode cL_throwAway 18 = .ok (.iconst 0, 1) := by decide +kernel
theorem dL_throwAway_19 : decode cL_throwAway 19 = .ok (.ireturn, 1) := by decide +kernel
set_option maxRecDepth 20000 in
theorem ggL_number_X4_number : GoodIn wsL_number wsX4_number := goodIn_ca (goodIn_ca (goodIn_r _ [7, 8, 9, 10, 11, 12, 6, 13, 14, 15, 16, 17, 18, 19, 20, 21, 22, 23, 24, 25, 26, 27, 28] (by decide +kernel) (by decide +kernel)) (goodIn_sub (fun _ h => List.mem_cons_of_mem _ (List.mem_append_left _ (List.mem_append_right _ h))) (by decide +kernel))) (goodIn_sub (fun _ h => List.mem_cons_of_mem _ (List.mem_append_right _ h)) (by decide +kernel))
set_option maxRecDepth 20000 in
theorem gL_number_X4_number : GoodIn wsL_number (wsV RL 29 RX4 yX4_number wsX4_number) := goodIn_app (goodIn_of _ (by decide +kernel)) ggL_number_X4_number
theorem dL_number_0 : decode cL_number 0 = .ok (.aload_n 3, 1) := by decide +kernel
theorem dL_number_1 : decode cL_number 1 = .ok (.iconst 0, 1) := by decide +kernel
theorem dL_number_2 : decode cL_number 2 = .ok (.aload_n 0, 1) := by decide +kernel
theorem dL_number_3 : decode cL_number 3 = .ok (.iload_n 1, 1) := by decide +kernel
theorem dL_number_4 : decode cL_number 4 = .ok (.iload_n 2, 1) := by decide +kernel
theorem dL_number_5 : decode cL_number 5 = .ok (.invokevirtual 29, 3) := by decide +kernel
theorem dL_number_8 : decode cL_number 8 = .ok (.i2l, 1) := by decide +kernel
theorem dL_number_9 : decode cL_number 9 = .ok (.lastore, 1) := by decide +kernel
theorem dL_number_10 : decode cL_number 10 = .ok (.goto 11, 3) := by decide +kernel
theorem dL_number_13 : decode cL_number 13 = .ok (.astore 4, 2) := by decide +kernel
theorem dL_number_15 : decode cL_number 15 = .ok (.iconst 1, 1) := by decide +kernel
theorem dL_number_16 : decode cL_number 16 = .ok (.ireturn, 1) := by decide +kernel
theorem dL_number_17 : decode cL_number 17 = .ok (.astore 4, 2) := by decide +kernel
theorem dL_number_19 : decode cL_number 19 = .ok (.iconst 2, 1) := by decide +kernel
theorem dL_number_20 : decode cL_number 20 = .ok (.ireturn, 1) := by decide +kernel
theorem dL_number_21 : decode cL_number 21 = .ok (.iconst 0, 1) := by decide +kernel
theorem dL_number_22 : decode cL_number 22 = .ok (.ireturn, 1) := by decide +kernel
set_option maxRecDepth 20000 in
theorem ggL_fileOf_X4_fileOf : GoodIn wsL_fileOf wsX4_fileOf := goodIn_ca (goodIn_r _ [6, 7, 8, 9, 5, 10, 11, 12, 13, 14, 15, 16, 17, 18, 19, 20, 21, 22, 23, 24, 25] (by decide +kernel) (by decide +kernel)) (goodIn_sub (fun _ h => List.mem_cons_of_mem _ (List.mem_append_right _ h)) (by decide +kernel))
set_option maxRecDepth 20000 in
theorem gL_fileOf_X4_fileOf : GoodIn wsL_fileOf (wsV RL 32 RX4 yX4_fileOf wsX4_fileOf) := goodIn_app (goodIn_of _ (by decide +kernel)) ggL_fileOf_X4_fileOf
theorem dL_fileOf_0 : decode cL_fileOf 0 = .ok (.aload_n 2, 1) := by decide +kernel
theorem dL_fileOf_1 : decode cL_fileOf 1 = .ok (.iconst 0, 1) := by decide +kernel
theorem dL_fileOf_2 : decode cL_fileOf 2 = .ok (.aload_n 0, 1) := by decide +kernel
theorem dL_fileOf_3 : decode cL_fileOf 3 = .ok (.iload_n 1, 1) := by decide +kernel
theorem dL_fileOf_4 : decode cL_fileOf 4 = .ok (.invokevirtual 32, 3) := by decide +kernel
theorem dL_fileOf_7 : decode cL_fileOf 7 = .ok (.i2l, 1) := by decide +kernel
theorem dL_fileOf_8 : decode cL_fileOf 8 = .ok (.lastore, 1) := by decide +kernel
theorem dL_fileOf_9 : decode cL_fileOf 9 = .ok (.goto 6, 3) := by decide +kernel
theorem dL_fileOf_12 : decode cL_fileOf 12 = .ok (.astore_n 3, 1) := by decide +kernel
theorem dL_fileOf_13 : decode cL_fileOf 13 = .ok (.iconst 1, 1) := by decide +kernel
theorem dL_fileOf_14 : decode cL_fileOf 14 = .ok (.ireturn, 1) := by decide +kernel
theorem dL_fileOf_15 : decode cL_fileOf 15 = .ok (.iconst 0, 1) := by decide +kernel
theorem dL_fileOf_16 : decode cL_fileOf 16 = .ok (.ireturn, 1) := by decide +kernel
set_option maxRecDepth 20000 in
theorem ggL_clusters_X4_clusters : GoodIn wsL_clusters wsX4_clusters := goodIn_ca (goodIn_r _ [6, 7, 8, 9, 5, 10, 11, 12, 13, 14, 15, 16, 17, 18, 19, 20, 21, 22, 23, 24, 25, 26, 27, 28, 29, 30, 31, 32, 33, 34, 35, 36, 37, 38, 39, 40, 41, 42, 43, 44, 45, 46, 47, 48, 49, 50, 51, 52, 53] (by decide +kernel) (by decide +kernel)) (goodIn_sub (fun _ h => List.mem_cons_of_mem _ (List.mem_append_right _ h)) (by decide +kernel))
set_option maxRecDepth 20000 in
theorem gL_clusters_X4_clusters : GoodIn wsL_clusters (wsV RL 35 RX4 yX4_clusters wsX4_clusters) := goodIn_app (goodIn_of _ (by decide +kernel)) ggL_clusters_X4_clusters
theorem dL_clusters_0 : decode cL_clusters 0 = .ok (.aload_n 2, 1) := by decide +kernel
theorem dL_clusters_1 : decode cL_clusters 1 = .ok (.iconst 0, 1) := by decide +kernel
theorem dL_clusters_2 : decode cL_clusters 2 = .ok (.aload_n 0, 1) := by decide +kernel
theorem dL_clusters_3 : decode cL_clusters 3 = .ok (.iload_n 1, 1) := by decide +kernel
theorem dL_clusters_4 : decode cL_clusters 4 = .ok (.invokevirtual 35, 3) := by decide +kernel
theorem dL_clusters_7 : decode cL_clusters 7 = .ok (.i2l, 1) := by decide +kernel
theorem dL_clusters_8 : decode cL_clusters 8 = .ok (.lastore, 1) := by decide +kernel
theorem dL_clusters_9 : decode cL_clusters 9 = .ok (.goto 6, 3) := by decide +kernel
theorem dL_clusters_12 : decode cL_clusters 12 = .ok (.astore_n 3, 1) := by decide +kernel
theorem dL_clusters_13 : decode cL_clusters 13 = .ok (.iconst 1, 1) := by decide +kernel
theorem dL_clusters_14 : decode cL_clusters 14 = .ok (.ireturn, 1) := by decide +kernel
theorem dL_clusters_15 : decode cL_clusters 15 = .ok (.iconst 0, 1) := by decide +kernel
theorem dL_clusters_16 : decode cL_clusters 16 = .ok (.ireturn, 1) := by decide +kernel
set_option maxRecDepth 20000 in
theorem ggL_clusterAt_X4_clusterAt : GoodIn wsL_clusterAt wsX4_clusterAt := goodIn_ca (goodIn_ca (goodIn_ca (goodIn_r _ [8, 9, 10, 11, 7, 12, 13, 14, 15, 16, 17, 18, 19, 20, 21, 22, 23, 24, 25, 26, 27, 28, 29, 30, 31, 32, 33, 34, 35, 36, 37, 38, 39, 40, 41, 42, 43, 44, 45, 46, 47, 48, 49, 50, 51, 52, 53, 54, 55, 56, 57, 58, 59, 60, 61, 62, 63, 64, 65, 66, 67, 68, 69, 70, 71, 72, 73, 74, 75, 76, 77, 78, 79] (by decide +kernel) (by decide +kernel)) (goodIn_sub (fun _ h => List.mem_cons_of_mem _ (List.mem_append_left _ (List.mem_append_left _ (List.mem_append_right _ h)))) (by decide +kernel))) (goodIn_sub (fun _ h => List.mem_cons_of_mem _ (List.mem_append_left _ (List.mem_append_right _ h))) (by decide +kernel))) (goodIn_sub (fun _ h => List.mem_cons_of_mem _ (List.mem_append_right _ h)) (by decide +kernel))
set_option maxRecDepth 20000 in
theorem gL_clusterAt_X4_clusterAt : GoodIn wsL_clusterAt (wsV RL 38 RX4 yX4_clusterAt wsX4_clusterAt) := goodIn_app (goodIn_of _ (by decide +kernel)) ggL_clusterAt_X4_clusterAt
theorem dL_clusterAt_0 : decode cL_clusterAt 0 = .ok (.aload_n 3, 1) := by decide +kernel
theorem dL_clusterAt_1 : decode cL_clusterAt 1 = .ok (.iconst 0, 1) := by decide +kernel
theorem dL_clusterAt_2 : decode cL_clusterAt 2 = .ok (.aload_n 0, 1) := by decide +kernel
theorem dL_clusterAt_3 : decode cL_clusterAt 3 = .ok (.iload_n 1, 1) := by decide +kernel
theorem dL_clusterAt_4 : decode cL_clusterAt 4 = .ok (.iload_n 2, 1) := by decide +kernel
theorem dL_clusterAt_5 : decode cL_clusterAt 5 = .ok (.invokevirtual 38, 3) := by decide +kernel
theorem dL_clusterAt_8 : decode cL_clusterAt 8 = .ok (.i2l, 1) := by decide +kernel
theorem dL_clusterAt_9 : decode cL_clusterAt 9 = .ok (.lastore, 1) := by decide +kernel
theorem dL_clusterAt_10 : decode cL_clusterAt 10 = .ok (.goto 15, 3) := by decide +kernel
theorem dL_clusterAt_13 : decode cL_clusterAt 13 = .ok (.astore 4, 2) := by decide +kernel
theorem dL_clusterAt_15 : decode cL_clusterAt 15 = .ok (.iconst 1, 1) := by decide +kernel
theorem dL_clusterAt_16 : decode cL_clusterAt 16 = .ok (.ireturn, 1) := by decide +kernel
theorem dL_clusterAt_17 : decode cL_clusterAt 17 = .ok (.astore 4, 2) := by decide +kernel
theorem dL_clusterAt_19 : decode cL_clusterAt 19 = .ok (.iconst 2, 1) := by decide +kernel
theorem dL_clusterAt_20 : decode cL_clusterAt 20 = .ok (.ireturn, 1) := by decide +kernel
theorem dL_clusterAt_21 : decode cL_clusterAt 21 = .ok (.astore 4, 2) := by decide +kernel
theorem dL_clusterAt_23 : decode cL_clusterAt 23 = .ok (.iconst 3, 1) := by decide +kernel
theorem dL_clusterAt_24 : decode cL_clusterAt 24 = .ok (.ireturn, 1) := by decide +kernel
theorem dL_clusterAt_25 : decode cL_clusterAt 25 = .ok (.iconst 0, 1) := by decide +kernel
theorem dL_clusterAt_26 : decode cL_clusterAt 26 = .ok (.ireturn, 1) := by decide +kernel
set_option maxRecDepth 20000 in
theorem ggL_checksum_X4_checksum : GoodIn wsL_checksum wsX4_checksum := goodIn_ca (goodIn_r _ [6, 7, 8, 9, 10, 5, 11, 12, 13, 14, 15, 16, 17, 18, 19, 20, 21, 22, 23, 24, 25, 26, 27, 28, 29, 30, 31, 32, 33, 34, 35, 36, 37, 38, 39, 40, 41, 42, 43, 44, 45, 46, 47, 48, 49, 50, 51, 52, 53, 54, 55, 56, 57, 58, 59, 60, 61, 62, 63, 64, 65, 66, 67, 68, 69, 70, 71, 72, 73, 74, 75, 76, 77, 78, 79, 80, 81, 82, 83] (by decide +kernel) (by decide +kernel)) (goodIn_sub (fun _ h => List.mem_cons_of_mem _ (List.mem_append_right _ h)) (by decide +kernel))
set_option maxRecDepth 20000 in
theorem gL_checksum_X4_checksum : GoodIn wsL_checksum (wsV RL 41 RX4 yX4_checksum wsX4_checksum) := goodIn_app (goodIn_of _ (by decide +kernel)) ggL_checksum_X4_checksum
theorem dL_checksum_0 : decode cL_checksum 0 = .ok (.aload_n 2, 1) := by decide +kernel
theorem dL_checksum_1 : decode cL_checksum 1 = .ok (.iconst 0, 1) := by decide +kernel
theorem dL_checksum_2 : decode cL_checksum 2 = .ok (.aload_n 0, 1) := by decide +kernel
theorem dL_checksum_3 : decode cL_checksum 3 = .ok (.iload_n 1, 1) := by decide +kernel
theorem dL_checksum_4 : decode cL_checksum 4 = .ok (.invokevirtual 41, 3) := by decide +kernel
theorem dL_checksum_7 : decode cL_checksum 7 = .ok (.i2l, 1) := by decide +kernel
theorem dL_checksum_8 : decode cL_checksum 8 = .ok (.lastore, 1) := by decide +kernel
theorem dL_checksum_9 : decode cL_checksum 9 = .ok (.goto 6, 3) := by decide +kernel
theorem dL_checksum_12 : decode cL_checksum 12 = .ok (.astore_n 3, 1) := by decide +kernel
theorem dL_checksum_13 : decode cL_checksum 13 = .ok (.iconst 1, 1) := by decide +kernel
theorem dL_checksum_14 : decode cL_checksum 14 = .ok (.ireturn, 1) := by decide +kernel
theorem dL_checksum_15 : decode cL_checksum 15 = .ok (.iconst 0, 1) := by decide +kernel
theorem dL_checksum_16 : decode cL_checksum 16 = .ok (.ireturn, 1) := by decide +kernel
set_option maxRecDepth 20000 in
theorem ggL_claimed_X4_claimed : GoodIn wsL_claimed wsX4_claimed := goodIn_ca (goodIn_ca (goodIn_r _ [7, 8, 9, 10, 6, 11, 12, 13, 14, 15, 16, 17, 18, 19, 20, 21, 22, 23, 24, 25, 26, 27, 28, 29, 30, 31, 32, 33, 34, 35, 36, 37, 38, 39, 40, 41, 42, 43, 44, 45, 46, 47, 48, 49, 50, 51, 52, 53, 54, 55, 56, 57, 58, 59, 60, 61, 62, 63, 64, 65, 66] (by decide +kernel) (by decide +kernel)) (goodIn_sub (fun _ h => List.mem_cons_of_mem _ (List.mem_append_left _ (List.mem_append_right _ h))) (by decide +kernel))) (goodIn_sub (fun _ h => List.mem_cons_of_mem _ (List.mem_append_right _ h)) (by decide +kernel))
set_option maxRecDepth 20000 in
theorem gL_claimed_X4_claimed : GoodIn wsL_claimed (wsV RL 44 RX4 yX4_claimed wsX4_claimed) := goodIn_app (goodIn_of _ (by decide +kernel)) ggL_claimed_X4_claimed
theorem dL_claimed_0 : decode cL_claimed 0 = .ok (.aload_n 2, 1) := by decide +kernel
theorem dL_claimed_1 : decode cL_claimed 1 = .ok (.iconst 0, 1) := by decide +kernel
theorem dL_claimed_2 : decode cL_claimed 2 = .ok (.aload_n 0, 1) := by decide +kernel
theorem dL_claimed_3 : decode cL_claimed 3 = .ok (.iload_n 1, 1) := by decide +kernel
theorem dL_claimed_4 : decode cL_claimed 4 = .ok (.invokevirtual 44, 3) := by decide +kernel
theorem dL_claimed_7 : decode cL_claimed 7 = .ok (.i2l, 1) := by decide +kernel
theorem dL_claimed_8 : decode cL_claimed 8 = .ok (.lastore, 1) := by decide +kernel
theorem dL_claimed_9 : decode cL_claimed 9 = .ok (.goto 9, 3) := by decide +kernel
theorem dL_claimed_12 : decode cL_claimed 12 = .ok (.astore_n 3, 1) := by decide +kernel
theorem dL_claimed_13 : decode cL_claimed 13 = .ok (.iconst 1, 1) := by decide +kernel
theorem dL_claimed_14 : decode cL_claimed 14 = .ok (.ireturn, 1) := by decide +kernel
theorem dL_claimed_15 : decode cL_claimed 15 = .ok (.astore_n 3, 1) := by decide +kernel
theorem dL_claimed_16 : decode cL_claimed 16 = .ok (.iconst 2, 1) := by decide +kernel
theorem dL_claimed_17 : decode cL_claimed 17 = .ok (.ireturn, 1) := by decide +kernel
theorem dL_claimed_18 : decode cL_claimed 18 = .ok (.iconst 0, 1) := by decide +kernel
theorem dL_claimed_19 : decode cL_claimed 19 = .ok (.ireturn, 1) := by decide +kernel
set_option maxRecDepth 20000 in
theorem ggL_claimAt_X4_claimAt : GoodIn wsL_claimAt wsX4_claimAt := goodIn_ca (goodIn_ca (goodIn_ca (goodIn_r _ [8, 9, 10, 11, 12, 13, 7, 14, 15, 16, 17, 18, 19, 20, 21, 22, 23, 24, 25, 26, 27, 28, 29, 30, 31, 32, 33, 34, 35, 36, 37, 38, 39, 40, 41, 42, 43, 44, 45, 46, 47, 48, 49, 50, 51, 52, 53, 54, 55, 56, 57, 58, 59, 60, 61, 62, 63, 64, 65, 66, 67, 68, 69, 70, 71, 72, 73, 74, 75, 76] (by decide +kernel) (by decide +kernel)) (goodIn_sub (fun _ h => List.mem_cons_of_mem _ (List.mem_append_left _ (List.mem_append_left _ (List.mem_append_right _ h)))) (by decide +kernel))) (goodIn_sub (fun _ h => List.mem_cons_of_mem _ (List.mem_append_left _ (List.mem_append_right _ h))) (by decide +kernel))) (goodIn_sub (fun _ h => List.mem_cons_of_mem _ (List.mem_append_right _ h)) (by decide +kernel))
set_option maxRecDepth 20000 in
theorem gL_claimAt_X4_claimAt : GoodIn wsL_claimAt (wsV RL 47 RX4 yX4_claimAt wsX4_claimAt) := goodIn_app (goodIn_of _ (by decide +kernel)) ggL_claimAt_X4_claimAt
theorem dL_claimAt_0 : decode cL_claimAt 0 = .ok (.aload_n 3, 1) := by decide +kernel
theorem dL_claimAt_1 : decode cL_claimAt 1 = .ok (.iconst 0, 1) := by decide +kernel
theorem dL_claimAt_2 : decode cL_claimAt 2 = .ok (.aload_n 0, 1) := by decide +kernel
theorem dL_claimAt_3 : decode cL_claimAt 3 = .ok (.iload_n 1, 1) := by decide +kernel
theorem dL_claimAt_4 : decode cL_claimAt 4 = .ok (.iload_n 2, 1) := by decide +kernel
theorem dL_claimAt_5 : decode cL_claimAt 5 = .ok (.invokevirtual 47, 3) := by decide +kernel
theorem dL_claimAt_8 : decode cL_claimAt 8 = .ok (.i2l, 1) := by decide +kernel
theorem dL_claimAt_9 : decode cL_claimAt 9 = .ok (.lastore, 1) := by decide +kernel
theorem dL_claimAt_10 : decode cL_claimAt 10 = .ok (.goto 15, 3) := by decide +kernel
theorem dL_claimAt_13 : decode cL_claimAt 13 = .ok (.astore 4, 2) := by decide +kernel
theorem dL_claimAt_15 : decode cL_claimAt 15 = .ok (.iconst 1, 1) := by decide +kernel
theorem dL_claimAt_16 : decode cL_claimAt 16 = .ok (.ireturn, 1) := by decide +kernel
theorem dL_claimAt_17 : decode cL_claimAt 17 = .ok (.astore 4, 2) := by decide +kernel
theorem dL_claimAt_19 : decode cL_claimAt 19 = .ok (.iconst 2, 1) := by decide +kernel
theorem dL_claimAt_20 : decode cL_claimAt 20 = .ok (.ireturn, 1) := by decide +kernel
theorem dL_claimAt_21 : decode cL_claimAt 21 = .ok (.astore 4, 2) := by decide +kernel
theorem dL_claimAt_23 : decode cL_claimAt 23 = .ok (.iconst 3, 1) := by decide +kernel
theorem dL_claimAt_24 : decode cL_claimAt 24 = .ok (.ireturn, 1) := by decide +kernel
theorem dL_claimAt_25 : decode cL_claimAt 25 = .ok (.iconst 0, 1) := by decide +kernel
theorem dL_claimAt_26 : decode cL_claimAt 26 = .ok (.ireturn, 1) := by decide +kernel
set_option maxRecDepth 20000 in
theorem ggL_confidence_X4_confidence : GoodIn wsL_confidence wsX4_confidence := goodIn_ca (goodIn_ca (goodIn_r _ [7, 8, 9, 10, 6, 11, 12, 13, 14, 15, 16, 17, 18, 19, 20, 21, 22, 23, 24, 25, 26, 27, 28, 29, 30, 31, 32, 33, 34, 35, 36, 37, 38, 39, 40, 41, 42, 43, 44, 45, 46, 47, 48, 49, 50, 51, 52, 53, 54, 55, 56, 57, 58, 59, 60, 61, 62, 63, 64] (by decide +kernel) (by decide +kernel)) (goodIn_sub (fun _ h => List.mem_cons_of_mem _ (List.mem_append_left _ (List.mem_append_right _ h))) (by decide +kernel))) (goodIn_sub (fun _ h => List.mem_cons_of_mem _ (List.mem_append_right _ h)) (by decide +kernel))
set_option maxRecDepth 20000 in
theorem gL_confidence_X4_confidence : GoodIn wsL_confidence (wsV RL 50 RX4 yX4_confidence wsX4_confidence) := goodIn_app (goodIn_of _ (by decide +kernel)) ggL_confidence_X4_confidence
theorem dL_confidence_0 : decode cL_confidence 0 = .ok (.aload_n 2, 1) := by decide +kernel
theorem dL_confidence_1 : decode cL_confidence 1 = .ok (.iconst 0, 1) := by decide +kernel
theorem dL_confidence_2 : decode cL_confidence 2 = .ok (.aload_n 0, 1) := by decide +kernel
theorem dL_confidence_3 : decode cL_confidence 3 = .ok (.iload_n 1, 1) := by decide +kernel
theorem dL_confidence_4 : decode cL_confidence 4 = .ok (.invokevirtual 50, 3) := by decide +kernel
theorem dL_confidence_7 : decode cL_confidence 7 = .ok (.i2l, 1) := by decide +kernel
theorem dL_confidence_8 : decode cL_confidence 8 = .ok (.lastore, 1) := by decide +kernel
theorem dL_confidence_9 : decode cL_confidence 9 = .ok (.goto 9, 3) := by decide +kernel
theorem dL_confidence_12 : decode cL_confidence 12 = .ok (.astore_n 3, 1) := by decide +kernel
theorem dL_confidence_13 : decode cL_confidence 13 = .ok (.iconst 1, 1) := by decide +kernel
theorem dL_confidence_14 : decode cL_confidence 14 = .ok (.ireturn, 1) := by decide +kernel
theorem dL_confidence_15 : decode cL_confidence 15 = .ok (.astore_n 3, 1) := by decide +kernel
theorem dL_confidence_16 : decode cL_confidence 16 = .ok (.iconst 2, 1) := by decide +kernel
theorem dL_confidence_17 : decode cL_confidence 17 = .ok (.ireturn, 1) := by decide +kernel
theorem dL_confidence_18 : decode cL_confidence 18 = .ok (.iconst 0, 1) := by decide +kernel
theorem dL_confidence_19 : decode cL_confidence 19 = .ok (.ireturn, 1) := by decide +kernel
set_option maxRecDepth 20000 in
theorem ggL_ownerOf_X4_ownerOf : GoodIn wsL_ownerOf wsX4_ownerOf := goodIn_ca (goodIn_r _ [6, 7, 8, 5, 9, 10, 11, 12, 13, 14, 15, 16, 17, 18, 19, 20, 21, 22, 23, 24, 25, 26, 27, 28, 29, 30, 31, 32, 33, 34, 35, 36, 37, 38, 39, 40, 41, 42, 43, 44, 45, 46, 47, 48, 49, 50, 51, 52, 53, 54, 55, 56, 57, 58, 59, 60, 61, 62, 63, 64, 65, 66, 67, 68, 69, 70, 71, 72, 73] (by decide +kernel) (by decide +kernel)) (goodIn_sub (fun _ h => List.mem_cons_of_mem _ (List.mem_append_right _ h)) (by decide +kernel))
set_option maxRecDepth 20000 in
theorem gL_ownerOf_X4_ownerOf : GoodIn wsL_ownerOf (wsV RL 53 RX4 yX4_ownerOf wsX4_ownerOf) := goodIn_app (goodIn_of _ (by decide +kernel)) ggL_ownerOf_X4_ownerOf
theorem dL_ownerOf_0 : decode cL_ownerOf 0 = .ok (.aload_n 2, 1) := by decide +kernel
theorem dL_ownerOf_1 : decode cL_ownerOf 1 = .ok (.iconst 0, 1) := by decide +kernel
theorem dL_ownerOf_2 : decode cL_ownerOf 2 = .ok (.aload_n 0, 1) := by decide +kernel
theorem dL_ownerOf_3 : decode cL_ownerOf 3 = .ok (.iload_n 1, 1) := by decide +kernel
theorem dL_ownerOf_4 : decode cL_ownerOf 4 = .ok (.invokevirtual 53, 3) := by decide +kernel
theorem dL_ownerOf_7 : decode cL_ownerOf 7 = .ok (.i2l, 1) := by decide +kernel
theorem dL_ownerOf_8 : decode cL_ownerOf 8 = .ok (.lastore, 1) := by decide +kernel
theorem dL_ownerOf_9 : decode cL_ownerOf 9 = .ok (.goto 6, 3) := by decide +kernel
theorem dL_ownerOf_12 : decode cL_ownerOf 12 = .ok (.astore_n 3, 1) := by decide +kernel
theorem dL_ownerOf_13 : decode cL_ownerOf 13 = .ok (.iconst 1, 1) := by decide +kernel
theorem dL_ownerOf_14 : decode cL_ownerOf 14 = .ok (.ireturn, 1) := by decide +kernel
theorem dL_ownerOf_15 : decode cL_ownerOf 15 = .ok (.iconst 0, 1) := by decide +kernel
theorem dL_ownerOf_16 : decode cL_ownerOf 16 = .ok (.ireturn, 1) := by decide +kernel
set_option maxRecDepth 20000 in
theorem ggL_owned_X4_owned : GoodIn wsL_owned wsX4_owned := goodIn_ca (goodIn_ca (goodIn_r _ [7, 8, 9, 10, 6, 11, 12, 13, 14, 15, 16, 17, 18, 19, 20, 21, 22, 23, 24, 25, 26, 27, 28, 29, 30, 31, 32, 33, 34, 35, 36, 37, 38, 39, 40, 41, 42, 43, 44, 45, 46, 47, 48, 49, 50, 51, 52, 53, 54, 55, 56, 57, 58, 59, 60, 61, 62, 63, 64, 65, 66, 67, 68, 69, 70, 71, 72, 73, 74, 75, 76, 77, 78, 79, 80, 81, 82] (by decide +kernel) (by decide +kernel)) (goodIn_sub (fun _ h => List.mem_cons_of_mem _ (List.mem_append_left _ (List.mem_append_right _ h))) (by decide +kernel))) (goodIn_sub (fun _ h => List.mem_cons_of_mem _ (List.mem_append_right _ h)) (by decide +kernel))
set_option maxRecDepth 20000 in
theorem gL_owned_X4_owned : GoodIn wsL_owned (wsV RL 56 RX4 yX4_owned wsX4_owned) := goodIn_app (goodIn_of _ (by decide +kernel)) ggL_owned_X4_owned
theorem dL_owned_0 : decode cL_owned 0 = .ok (.aload_n 2, 1) := by decide +kernel
theorem dL_owned_1 : decode cL_owned 1 = .ok (.iconst 0, 1) := by decide +kernel
theorem dL_owned_2 : decode cL_owned 2 = .ok (.aload_n 0, 1) := by decide +kernel
theorem dL_owned_3 : decode cL_owned 3 = .ok (.iload_n 1, 1) := by decide +kernel
theorem dL_owned_4 : decode cL_owned 4 = .ok (.invokevirtual 56, 3) := by decide +kernel
theorem dL_owned_7 : decode cL_owned 7 = .ok (.i2l, 1) := by decide +kernel
theorem dL_owned_8 : decode cL_owned 8 = .ok (.lastore, 1) := by decide +kernel
theorem dL_owned_9 : decode cL_owned 9 = .ok (.goto 9, 3) := by decide +kernel
theorem dL_owned_12 : decode cL_owned 12 = .ok (.astore_n 3, 1) := by decide +kernel
theorem dL_owned_13 : decode cL_owned 13 = .ok (.iconst 1, 1) := by decide +kernel
theorem dL_owned_14 : decode cL_owned 14 = .ok (.ireturn, 1) := by decide +kernel
theorem dL_owned_15 : decode cL_owned 15 = .ok (.astore_n 3, 1) := by decide +kernel
theorem dL_owned_16 : decode cL_owned 16 = .ok (.iconst 2, 1) := by decide +kernel
theorem dL_owned_17 : decode cL_owned 17 = .ok (.ireturn, 1) := by decide +kernel
theorem dL_owned_18 : decode cL_owned 18 = .ok (.iconst 0, 1) := by decide +kernel
theorem dL_owned_19 : decode cL_owned 19 = .ok (.ireturn, 1) := by decide +kernel
set_option maxRecDepth 20000 in
theorem ggL_hasJoin_X4_hasJoin : GoodIn wsL_hasJoin wsX4_hasJoin := goodIn_ca (goodIn_ca (goodIn_r _ [7, 8, 9, 10, 11, 12, 6, 13, 14, 15, 16, 17, 18, 19, 20, 21, 22, 23, 24, 25, 26, 27, 28, 29, 30, 31, 32, 33, 34, 35, 36, 37, 38, 39, 40, 41, 42, 43, 44, 45, 46, 47, 48, 49, 50, 51, 52, 53, 54, 55, 56, 57, 58, 59, 60, 61, 62, 63, 64, 65, 66, 67, 68, 69, 70, 71, 72, 73, 74, 75, 76, 77, 78, 79, 80, 81, 82, 83, 84, 85, 86, 87, 88, 89, 90, 91, 92, 93, 94, 95, 96, 97, 98, 99, 100, 101, 102, 103, 104, 105, 106, 107, 108, 109, 110, 111, 112, 113, 114, 115, 116, 117, 118, 119, 120, 121] (by decide +kernel) (by decide +kernel)) (goodIn_sub (fun _ h => List.mem_cons_of_mem _ (List.mem_append_left _ (List.mem_append_right _ h))) (by decide +kernel))) (goodIn_sub (fun _ h => List.mem_cons_of_mem _ (List.mem_append_right _ h)) (by decide +kernel))
set_option maxRecDepth 20000 in
theorem gL_hasJoin_X4_hasJoin : GoodIn wsL_hasJoin (wsV RL 59 RX4 yX4_hasJoin wsX4_hasJoin) := goodIn_app (goodIn_of _ (by decide +kernel)) ggL_hasJoin_X4_hasJoin
theorem dL_hasJoin_0 : decode cL_hasJoin 0 = .ok (.aload_n 2, 1) := by decide +kernel
theorem dL_hasJoin_1 : decode cL_hasJoin 1 = .ok (.iconst 0, 1) := by decide +kernel
theorem dL_hasJoin_2 : decode cL_hasJoin 2 = .ok (.aload_n 0, 1) := by decide +kernel
theorem dL_hasJoin_3 : decode cL_hasJoin 3 = .ok (.iload_n 1, 1) := by decide +kernel
theorem dL_hasJoin_4 : decode cL_hasJoin 4 = .ok (.invokevirtual 59, 3) := by decide +kernel
theorem dL_hasJoin_7 : decode cL_hasJoin 7 = .ok (.ifCond .eq 7, 3) := by decide +kernel
theorem dL_hasJoin_10 : decode cL_hasJoin 10 = .ok (.lconst 1, 1) := by decide +kernel
theorem dL_hasJoin_11 : decode cL_hasJoin 11 = .ok (.goto 4, 3) := by decide +kernel
theorem dL_hasJoin_14 : decode cL_hasJoin 14 = .ok (.lconst 0, 1) := by decide +kernel
theorem dL_hasJoin_15 : decode cL_hasJoin 15 = .ok (.lastore, 1) := by decide +kernel
theorem dL_hasJoin_16 : decode cL_hasJoin 16 = .ok (.goto 9, 3) := by decide +kernel
theorem dL_hasJoin_19 : decode cL_hasJoin 19 = .ok (.astore_n 3, 1) := by decide +kernel
theorem dL_hasJoin_20 : decode cL_hasJoin 20 = .ok (.iconst 1, 1) := by decide +kernel
theorem dL_hasJoin_21 : decode cL_hasJoin 21 = .ok (.ireturn, 1) := by decide +kernel
theorem dL_hasJoin_22 : decode cL_hasJoin 22 = .ok (.astore_n 3, 1) := by decide +kernel
theorem dL_hasJoin_23 : decode cL_hasJoin 23 = .ok (.iconst 2, 1) := by decide +kernel
theorem dL_hasJoin_24 : decode cL_hasJoin 24 = .ok (.ireturn, 1) := by decide +kernel
theorem dL_hasJoin_25 : decode cL_hasJoin 25 = .ok (.iconst 0, 1) := by decide +kernel
theorem dL_hasJoin_26 : decode cL_hasJoin 26 = .ok (.ireturn, 1) := by decide +kernel
set_option maxRecDepth 20000 in
theorem ggL_joinAt_X4_joinAt : GoodIn wsL_joinAt wsX4_joinAt := goodIn_ca (goodIn_ca (goodIn_ca (goodIn_r _ [8, 9, 10, 11, 12, 13, 14, 15, 7, 16, 17, 18, 19, 20, 21, 22, 23, 24, 25, 26, 27, 28, 29, 30, 31, 32, 33, 34, 35, 36, 37, 38, 39, 40, 41, 42, 43, 44, 45, 46, 47, 48, 49, 50, 51, 52, 53, 54, 55, 56, 57, 58, 59, 60, 61, 62, 63, 64, 65, 66, 67, 68, 69, 70, 71, 72, 73, 74, 75, 76, 77, 78, 79, 80, 81, 82, 83, 84, 85, 86, 87, 88, 89, 90, 91, 92, 93, 94, 95, 96, 97, 98, 99, 100, 101, 102, 103, 104, 105, 106, 107, 108, 109, 110, 111, 112, 113, 114, 115, 116, 117, 118, 119, 120, 121, 122, 123, 124, 125, 126, 127, 128, 129, 130, 131] (by decide +kernel) (by decide +kernel)) (goodIn_sub (fun _ h => List.mem_cons_of_mem _ (List.mem_append_left _ (List.mem_append_left _ (List.mem_append_right _ h)))) (by decide +kernel))) (goodIn_sub (fun _ h => List.mem_cons_of_mem _ (List.mem_append_left _ (List.mem_append_right _ h))) (by decide +kernel))) (goodIn_sub (fun _ h => List.mem_cons_of_mem _ (List.mem_append_right _ h)) (by decide +kernel))
set_option maxRecDepth 20000 in
theorem gL_joinAt_X4_joinAt : GoodIn wsL_joinAt (wsV RL 63 RX4 yX4_joinAt wsX4_joinAt) := goodIn_app (goodIn_of _ (by decide +kernel)) ggL_joinAt_X4_joinAt
theorem dL_joinAt_0 : decode cL_joinAt 0 = .ok (.aload_n 3, 1) := by decide +kernel
theorem dL_joinAt_1 : decode cL_joinAt 1 = .ok (.iconst 0, 1) := by decide +kernel
theorem dL_joinAt_2 : decode cL_joinAt 2 = .ok (.aload_n 0, 1) := by decide +kernel
theorem dL_joinAt_3 : decode cL_joinAt 3 = .ok (.iload_n 1, 1) := by decide +kernel
theorem dL_joinAt_4 : decode cL_joinAt 4 = .ok (.iload_n 2, 1) := by decide +kernel
theorem dL_joinAt_5 : decode cL_joinAt 5 = .ok (.invokevirtual 63, 3) := by decide +kernel
theorem dL_joinAt_8 : decode cL_joinAt 8 = .ok (.i2l, 1) := by decide +kernel
theorem dL_joinAt_9 : decode cL_joinAt 9 = .ok (.lastore, 1) := by decide +kernel
theorem dL_joinAt_10 : decode cL_joinAt 10 = .ok (.goto 15, 3) := by decide +kernel
theorem dL_joinAt_13 : decode cL_joinAt 13 = .ok (.astore 4, 2) := by decide +kernel
theorem dL_joinAt_15 : decode cL_joinAt 15 = .ok (.iconst 1, 1) := by decide +kernel
theorem dL_joinAt_16 : decode cL_joinAt 16 = .ok (.ireturn, 1) := by decide +kernel
theorem dL_joinAt_17 : decode cL_joinAt 17 = .ok (.astore 4, 2) := by decide +kernel
theorem dL_joinAt_19 : decode cL_joinAt 19 = .ok (.iconst 2, 1) := by decide +kernel
theorem dL_joinAt_20 : decode cL_joinAt 20 = .ok (.ireturn, 1) := by decide +kernel
theorem dL_joinAt_21 : decode cL_joinAt 21 = .ok (.astore 4, 2) := by decide +kernel
theorem dL_joinAt_23 : decode cL_joinAt 23 = .ok (.iconst 3, 1) := by decide +kernel
theorem dL_joinAt_24 : decode cL_joinAt 24 = .ok (.ireturn, 1) := by decide +kernel
theorem dL_joinAt_25 : decode cL_joinAt 25 = .ok (.iconst 0, 1) := by decide +kernel
theorem dL_joinAt_26 : decode cL_joinAt 26 = .ok (.ireturn, 1) := by decide +kernel
abbrev vwCl : List vw_C := [(RJx4a65c, TJx4a65c, 3), (RX0, TX0, 2), (RX1, TX1, 2), (RX2, TX2, 6), (RX3, TX3, 8), (RX4, TX4, 5), (RX5, TX5, 13)]
end
section
/-! The layer of this proof: one shape of contract (the world behind a method is the world ahead of it with some cells changed in place), one row a call. -/
abbrev xG : Type := va_G × (Nat → ClassId)
abbrev xT (G : xG) : List (ClassId × FieldType) := [(G.2 0, .int), (G.2 1, .boolean), (G.2 2, .object "java/lang/Object"), (G.2 3, .long)]
def xNl : List Cond := [.fieldLinkNest RX3 44 "GraveyardReader$ClusterRow" "size" "I" "GraveyardReader", .fieldLinkNest RX4 98 "GraveyardReader$ClusterRow" "size" "I" "GraveyardReader", .fieldLinkNest RX1 24 "GraveyardReader$ClusterRow" "size" "I" "GraveyardReader", .fieldLinkNest RX3 38 "GraveyardReader$DiskFile" "chain" "LGraveyardReader$ClusterRow;" "GraveyardReader", .fieldLinkNest RX4 73 "GraveyardReader$DiskFile" "chain" "LGraveyardReader$ClusterRow;" "GraveyardReader", .fieldLinkNest RX3 53 "GraveyardReader$DiskFile" "entrySum" "I" "GraveyardReader", .fieldLinkNest RX4 125 "GraveyardReader$DiskFile" "entrySum" "I" "GraveyardReader", .fieldLinkNest RX4 128 "GraveyardReader$DiskFile" "thrownAs" "I" "GraveyardReader", .fieldLinkNest RX4 156 "GraveyardReader$DiskFile" "claim" "LGraveyardReader$ClusterRow;" "GraveyardReader", .fieldLinkNest RX4 161 "GraveyardReader$DiskFile" "trust" "I" "GraveyardReader", .methodLinkNest RX4 25 yX3_init "GraveyardReader", .methodLinkNest RX4 32 yX0_init "GraveyardReader", .methodLinkNest RX2 11 yX0_init "GraveyardReader", .castable "GraveyardReader$DiskFile" "java/lang/Object"]
def xN (U : State) : Prop := ∀ w ∈ xNl, va_Nw w U
theorem xN.warm {s U : State} (hW : s.WarmedH U.vm) (h : xN s) : xN U := by
  intro w hw
  have h1 := h w hw
  simp only [xNl, List.mem_cons, List.not_mem_nil, or_false] at hw
  rcases hw with rfl | rfl | rfl | rfl | rfl | rfl | rfl | rfl | rfl | rfl | rfl | rfl | rfl | rfl
  all_goals first | exact va_Nw.warmF hW h1 | exact va_Nw.warmM hW h1 | exact va_Nw.warmC hW h1
theorem xNl_tab : ∀ w ∈ xNl, w.onTables = true := by decide +kernel
theorem xN.same {u U : State} (h : u.vm = U.vm) (hN : xN u) : xN U := fun w hw => va_Nw.same (xNl_tab w hw) h (hN w hw)
/-- a method's start: its world (cells wc), sz cells on the heap -/
def xPre (G : xG) (wc : va_W) (sz : Nat) (U : State) : Prop := U.heap.size = sz ∧ va_P G.1 vwCl wc U.heap ∧ va_K G.1 vwCl (xT G) U ∧ va_D (fun _ => True) wc ∧ xN U
/-- a method's end: its answer, and its world -/
def xQ (G : xG) (v : Option Value) (w1 : va_W) (A : Nat → Prop) : Array Value → State → Outcome → State → Prop := fun _ st oc t => (oc = .returned v ∧ va_P G.1 vwCl w1 t.heap) ∧ va_F A st t
/-- a method's contract: of a world wc it makes w1, and answers v -/
def xMet (l : Launch) (G : xG) (y : MethodName) (ws : List Cond) (rm : Room) (As : List Value) (wc : va_W) (v : Option Value) (w1 : va_W) : Prop :=
  ∀ sz : Nat, Met l y ws rm (va_Pc As (xPre G wc sz)) (xQ G v w1 (va_A wc sz)) 0 0 (va_A wc sz)
/-- in a world, the cells at some places by others -/
def xup (ws : va_W) : List Nat → va_W → va_W
  | [], _ => ws
  | _ :: _, [] => ws
  | i :: is, e :: w => xup (ws.set i e) is w
theorem xup_get : ∀ (is : List Nat) (w1 ws : va_W) (k : Nat) (q : Nat × va_E), (xup ws is w1)[k]? = some q → (∃ j : Nat, w1[j]? = some q ∧ is[j]? = some k) ∨ (ws[k]? = some q ∧ ∀ j : Nat, j < w1.length → is[j]? ≠ some k)
  | [], w1, ws, k, q, h => Or.inr ⟨by simpa only [xup] using h, fun j _ h9 => by simp at h9⟩
  | _ :: _, [], ws, k, q, h => Or.inr ⟨by simpa only [xup] using h, fun j hj => by simp at hj⟩
  | i :: is, e :: w, ws, k, q, h => by
    rcases xup_get is w (ws.set i e) k q (by simpa only [xup] using h) with ⟨j, h1, h2⟩ | ⟨h1, h2⟩
    · exact Or.inl ⟨j + 1, by simpa using h1, by simpa using h2⟩
    · by_cases hk : i = k
      · subst hk
        have hlt : i < (ws.set i e).length := (List.getElem?_eq_some_iff.mp h1).1
        rw [List.getElem?_set_self (by simpa using hlt)] at h1
        exact Or.inl ⟨0, by simpa using h1, by simp⟩
      · rw [List.getElem?_set_ne hk] at h1
        refine Or.inr ⟨h1, fun j hj => ?_⟩
        cases j with
        | zero => simp [hk]
        | succ j => simpa using h2 j (by simpa using hj)
theorem x_join {A0 : Nat → Prop} {D : va_G} {cl : List vw_C} {ws wc w1 : va_W} {H H1 : Heap} (hP : va_P D cl ws H) (hD : va_D A0 ws) (is : List Nat) (hC : is.map (fun i => ws[i]?) = wc.map some) (hw : w1.map Prod.fst = wc.map Prod.fst)
    (hk : ∀ q : Nat, q < H.size → ¬ va_A wc H.size q → H1[q]? = H[q]?) (hP1 : va_P D cl w1 H1) : va_P D cl (xup ws is w1) H1 ∧ va_D A0 (xup ws is w1) := by
  have hlen : w1.length = wc.length := by simpa using congrArg List.length hw
  have atC : ∀ (j : Nat) (q : Nat × va_E), wc[j]? = some q → ∃ i, is[j]? = some i ∧ ws[i]? = some q := by
    intro j q hq
    have h1 : (is.map (fun i => ws[i]?))[j]? = some (some q) := by rw [hC, List.getElem?_map, hq]; rfl
    rw [List.getElem?_map] at h1
    cases hi : is[j]? with
    | none => rw [hi] at h1; cases h1
    | some i => rw [hi] at h1; exact ⟨i, rfl, Option.some.inj h1⟩
  have fstC : ∀ (j : Nat) (q : Nat × va_E), w1[j]? = some q → ∃ q0, wc[j]? = some q0 ∧ q0.1 = q.1 := by
    intro j q hq
    have h1 : (w1.map Prod.fst)[j]? = some q.1 := by rw [List.getElem?_map, hq]; rfl
    rw [hw, List.getElem?_map] at h1
    cases hi : wc[j]? with
    | none => rw [hi] at h1; cases h1
    | some q0 => rw [hi] at h1; exact ⟨q0, rfl, Option.some.inj h1⟩
  have key : ∀ (k : Nat) (q : Nat × va_E), (xup ws is w1)[k]? = some q → ∃ q0, ws[k]? = some q0 ∧ q0.1 = q.1 := by
    intro k q hq
    rcases xup_get is w1 ws k q hq with ⟨j, h1, h2⟩ | ⟨h1, -⟩
    · obtain ⟨q0, g1, g2⟩ := fstC j q h1
      obtain ⟨i, g3, g4⟩ := atC j q0 g1
      rw [h2] at g3
      obtain rfl := Option.some.inj g3
      exact ⟨q0, g4, g2⟩
    · exact ⟨q, h1, rfl⟩
  refine ⟨fun k q hq => ?_, fun i j x y hx hy hxy => ?_, fun k q hq => ?_⟩
  · rcases xup_get is w1 ws k q hq with ⟨j, h1, -⟩ | ⟨h1, h2⟩
    · exact hP1 j q h1
    · have hl := (hP k q h1).lt
      refine (hP k q h1).kept (hk q.1 hl fun h => ?_)
      rcases h with ⟨j, e, h⟩ | h
      · obtain ⟨i, g1, g2⟩ := atC j (q.1, e) h
        have hij := hD.1 i k (q.1, e) q g2 h1 rfl
        subst hij
        exact h2 j (by rw [hlen]; exact (List.getElem?_eq_some_iff.mp h).1) g1
      · omega
  · obtain ⟨x0, g1, g2⟩ := key i x hx
    obtain ⟨y0, g3, g4⟩ := key j y hy
    exact hD.1 i j x0 y0 g1 g3 (by rw [g2, g4]; exact hxy)
  · obtain ⟨q0, g1, g2⟩ := key k q hq
    rw [← g2]
    exact hD.2 k q0 g1
section XA
variable {p : Program} {l : Launch} {e : Env} {R : Room} {s : State} {m : MethodId} {args : Array Value} {below : List Frame} {meth : Method} {c : Code} {H H0 : Heap} {locs : List Loc} {cells slots : Nat} {Q : State → Prop}
variable {pc : Nat} {ls : Array Slot} {rest st0 : List Value} {A : Nat → Prop} {G : xG}
theorem x_top {x y : Int32} (h : x = y) (k : W p l e R s m args below meth c H locs cells slots Q (F0 m pc ls (.int y :: rest))) : W p l e R s m args below meth c H locs cells slots Q (F0 m pc ls (.int x :: rest)) := h ▸ k
theorem x_free {ws wc : va_W} (hD : va_D A ws) (hS : va_S A H0 H locs) (hA : ∀ q, H0.size ≤ q → A q) (is : List Nat) (hC : is.map (fun i => ws[i]?) = wc.map some) : ∀ q, va_A wc H.size q → A q := va_free hD hS hA is hC
/-- behind a call -/
theorem x_back {wc w1 ws w9 : va_W} {v : Option Value} {a : Array Value} {mc ms : Nat} (hr : va_Run p l e R s m args below meth c H locs cells slots mc ms (F0 m pc ls st0) rest (xQ G v w1 (va_A wc H.size) a) (va_A wc H.size))
    (hP : va_P G.1 vwCl ws H) (hD : va_D A ws) (hS : va_S A H0 H locs) (hA : ∀ q, H0.size ≤ q → A q) (is : List Nat) (hC : is.map (fun i => ws[i]?) = wc.map some) (hw : w1.map Prod.fst = wc.map Prod.fst) (h9 : xup ws is w1 = w9)
    (kk : ∀ (H1 : Heap) (locs1 : List Loc), va_P G.1 vwCl w9 H1 → va_D A w9 → va_S A H0 H1 locs1 → W p l e R s m args below meth c H1 locs1 (cells + mc) (slots + ms) Q (F0 m (pc + 3) ls (v.toList ++ rest))) : W p l e R s m args below meth c H locs cells slots Q (F0 m pc ls st0) := by
  have hf := x_free hD hS hA is hC
  intro T hT X
  obtain ⟨v', st₀, t, T', L, h0, X', hL, e1, e2, ⟨⟨hv, hb⟩, hz, hk⟩, st⟩ := hr T hT X
  cases hv
  rw [h0] at hz hk
  obtain ⟨g1, g2⟩ := x_join hP hD is hC hw (fun q h1 h2 => hk q h1 h2) hb
  rw [h9] at g1 g2
  obtain ⟨t2, a1, b1⟩ := kk T'.heap (locs ++ L) (by rw [e1]; exact g1) g2
    ⟨Nat.le_trans hS.1 (by rw [e1]; exact hz), fun q h1 h2 => by rw [e1, hk q (Nat.lt_of_lt_of_le h1 hS.1) (fun z => h2 (hf q z))]; exact hS.2.1 q h1 h2, fun q hq => by
      rcases List.mem_append.mp hq with h | h
      · exact hS.2.2 q h
      · exact hf _ (hL q h)⟩ T' rfl X'
  exact ⟨t2, st t2 a1, b1⟩
theorem x_blind {As : List Value} {wc : va_W} {sz : Nat} : FrameBlind (va_Pc As (xPre G wc sz)) := fun a U g mk h => by
  obtain ⟨h1, h2, h3, h4, h5, h6⟩ := h
  exact ⟨h1, h2, h3, va_K.moved (u := U) (U := U.calling g mk a) (Vm.Alike.refl U.vm) h4, h5, xN.same (u := U) rfl h6⟩
variable {cc bytes : ByteArray} {nL maxL index n : Nat} {ret : Option FieldType} {Ts wsY : List Cond} {own Cn : String} {y : MethodName} {rm : Room} {b : Nat} {As : List Value} {wc w1 ws w9 : va_W} {v : Option Value}
theorem x_pre (hP : va_P G.1 vwCl ws H) (hD : va_D A ws) (hK : va_K G.1 vwCl (xT G) s) (hN : xN s) (is : List Nat) (hn : va_nd is = true) (hC : is.map (fun i => ws[i]?) = wc.map some) : ∀ U : State, U.heap = H → s.WarmedH U.vm → va_Pc As (xPre G wc H.size) As.toArray U := by
  intro U hU hW
  refine ⟨rfl, by rw [hU], ?_, va_K.moved hW.alike hK, (hD.sub is hn hC).weaken (fun _ _ _ _ => trivial), xN.warm hW hN⟩
  rw [hU]
  intro k q hq
  have h1 : (is.map (fun i => ws[i]?))[k]? = some (some q) := by rw [hC, List.getElem?_map, hq]; rfl
  rw [List.getElem?_map] at h1
  cases hi : is[k]? with
  | none => rw [hi] at h1; cases h1
  | some i => rw [hi] at h1; exact hP i q (Option.some.inj h1)
/-- a virtual call -/
theorem x_callV (C : CallFix p m c cc nL s args Ts own) (hM : xMet l G y wsY rm (.ref b :: As) wc v w1) (cw : CallW R s args own Cn index y bytes maxL ret wsY rm 0 0 n)
    (hK : va_K G.1 vwCl (xT G) s) (hN : xN s) (hP : va_P G.1 vwCl ws H) (hD : va_D A ws) (hS : va_S A H0 H locs) (hA : ∀ q, H0.size ≤ q → A q) (is : List Nat) (hn : va_nd is = true) (hC : is.map (fun i => ws[i]?) = wc.map some) (hw : w1.map Prod.fst = wc.map Prod.fst)
    (k0 : Nat) {ci : Nat} {fs : List Value} {N : Nat} {TT : u_T} (he : ws[k0]? = some (b, .inr (ci, fs))) (hc : vwCl[ci]? = some (Cn, TT, N)) (hnA : As.length = n) (hl : ls.size = nL) (hst : st0 = As.reverse ++ .ref b :: rest) (hroom : (rest.map fun v => v.category).sum ≤ 8) (hdg : decode cc pc = .ok (.invokevirtual index, 3)) (hf : cells + 0 ≤ R.cells ∧ slots + 0 ≤ R.slots) (h9 : xup ws is w1 = w9)
    (kk : ∀ (H1 : Heap) (locs1 : List Loc), va_P G.1 vwCl w9 H1 → va_D A w9 → va_S A H0 H1 locs1 → W p l e R s m args below meth c H1 locs1 cells slots Q (F0 m (pc + 3) ls (v.toList ++ rest))) : W p l e R s m args below meth c H locs cells slots Q (F0 m pc ls st0) :=
  x_back (va_runV (As := As) (rest := rest) C (hM H.size) cw ⟨x_blind, va_recv hK hP hc he, x_pre hP hD hK hN is hn hC⟩ rfl hnA hl hst (lv_room hroom) hdg hf) hP hD hS hA is hC hw h9 kk
/-- a static call -/
theorem x_callS (C : CallFix p m c cc nL s args Ts own) (hM : xMet l G y wsY rm As wc v w1) (cw : CallB R s args own index y bytes maxL ret wsY rm 0 0 n ∧ (Cond.static y).before args s = true)
    (hK : va_K G.1 vwCl (xT G) s) (hN : xN s) (hP : va_P G.1 vwCl ws H) (hD : va_D A ws) (hS : va_S A H0 H locs) (hA : ∀ q, H0.size ≤ q → A q) (is : List Nat) (hn : va_nd is = true) (hC : is.map (fun i => ws[i]?) = wc.map some) (hw : w1.map Prod.fst = wc.map Prod.fst)
    (hnA : As.length = n) (hl : ls.size = nL) (hst : st0 = As.reverse ++ rest) (hroom : (rest.map fun v => v.category).sum ≤ 8) (hdg : decode cc pc = .ok (.invokestatic index, 3)) (hf : cells + 0 ≤ R.cells ∧ slots + 0 ≤ R.slots) (h9 : xup ws is w1 = w9)
    (kk : ∀ (H1 : Heap) (locs1 : List Loc), va_P G.1 vwCl w9 H1 → va_D A w9 → va_S A H0 H1 locs1 → W p l e R s m args below meth c H1 locs1 cells slots Q (F0 m (pc + 3) ls (v.toList ++ rest))) : W p l e R s m args below meth c H locs cells slots Q (F0 m pc ls st0) :=
  x_back (va_runS (As := As) (rest := rest) C (hM H.size) cw ⟨x_blind, x_pre hP hD hK hN is hn hC⟩ rfl hnA hl hst (lv_room hroom) hdg hf) hP hD hS hA is hC hw h9 kk
/-- the ends of a method -/
theorem x_iret {r x : Int32} (hexec : p.tables.exec = Jvm.exec) (hb : c.code = cc) (hr : meth.sig.returnType = some .int) (hv : x = r) (hP : va_P G.1 vwCl ws H) (hS : va_S A s.heap H locs) (hdg : decode cc pc = .ok (.ireturn, 1)) (hlocks : meth.locks = false) :
    W p l e R s m args below meth c H locs cells slots (MQ below (xQ G (some (.int r)) ws A) args s cells slots A) (F0 m pc ls [.int x]) := by
  subst hv
  exact W.iret hexec hb hr (fun t ht _ => ⟨⟨rfl, by rw [ht]; exact hP⟩, hS.F ht⟩) hS.2.2 hdg
theorem x_zret {r x : Int32} (hexec : p.tables.exec = Jvm.exec) (hb : c.code = cc) (hr : meth.sig.returnType = some .boolean) (hv : x = r) (hz : x = 0 ∨ x = 1) (hP : va_P G.1 vwCl ws H) (hS : va_S A s.heap H locs) (hdg : decode cc pc = .ok (.ireturn, 1)) (hlocks : meth.locks = false) :
    W p l e R s m args below meth c H locs cells slots (MQ below (xQ G (some (.int r)) ws A) args s cells slots A) (F0 m pc ls [.int x]) := by
  subst hv
  exact W.zret hexec hb hr (by rcases hz with rfl | rfl <;> rfl) (fun t ht _ => ⟨⟨rfl, by rw [ht]; exact hP⟩, hS.F ht⟩) hS.2.2 hdg
theorem x_vret (hexec : p.tables.exec = Jvm.exec) (hb : c.code = cc) (hr : meth.sig.returnType = none) (hP : va_P G.1 vwCl ws H) (hS : va_S A s.heap H locs) (hdg : decode cc pc = .ok (.return_, 1)) (hlocks : meth.locks = false) :
    W p l e R s m args below meth c H locs cells slots (MQ below (xQ G none ws A) args s cells slots A) (F0 m pc ls []) :=
  W.vret hexec hb hr (fun t ht _ => ⟨⟨rfl, by rw [ht]; exact hP⟩, hS.F ht⟩) hS.2.2 hdg
/-- arrays, by a place that is a number -/
theorem x_iald (hexec : p.tables.exec = Jvm.exec) (hb : c.code = cc) (hK : va_K G.1 vwCl (xT G) s) (hP : va_P G.1 vwCl ws H) (q0 : Nat) {a n : Nat} {f : Nat → Int32} (ha : ws[q0]? = some (a, .inl (G.2 0, n, .inl f))) (k : Nat) (hk : k < n) (hn : n < 2 ^ 31) (hdg : decode cc pc = .ok (.iaload, 1))
    (kk : W p l e R s m args below meth c H locs cells slots Q (F0 m (pc + 1) ls (.int (f k) :: rest))) : W p l e R s m args below meth c H locs cells slots Q (F0 m pc ls (.int (nI k) :: .ref a :: rest)) := by
  refine va_iald hexec hb hK hP q0 0 ha rfl (vp_in_nI hk hn) hdg ?_
  rw [nI_clamp (by omega)]
  exact kk
theorem x_iast (hexec : p.tables.exec = Jvm.exec) (hb : c.code = cc) (hK : va_K G.1 vwCl (xT G) s) (hP : va_P G.1 vwCl ws H) (hD : va_D A ws) (hS : va_S A H0 H locs) (q0 : Nat) {a n : Nat} {f : Nat → Int32} (ha : ws[q0]? = some (a, .inl (G.2 0, n, .inl f))) (k : Nat) (hk : k < n) (hn : n < 2 ^ 31) {x : Int32} (hdg : decode cc pc = .ok (.iastore, 1))
    (kk : ∀ (H1 : Heap) (locs1 : List Loc), va_P G.1 vwCl (ws.set q0 (a, .inl (G.2 0, n, .inl (upd f k x)))) H1 → va_D A (ws.set q0 (a, .inl (G.2 0, n, .inl (upd f k x)))) → va_S A H0 H1 locs1 → W p l e R s m args below meth c H1 locs1 cells slots Q (F0 m (pc + 1) ls rest)) : W p l e R s m args below meth c H locs cells slots Q (F0 m pc ls (.int x :: .int (nI k) :: .ref a :: rest)) := by
  refine va_iast hexec hb hK hP hD hS q0 0 ha rfl (vp_in_nI hk hn) hdg ?_
  rw [nI_clamp (by omega)]
  exact kk
theorem x_alen (hexec : p.tables.exec = Jvm.exec) (hb : c.code = cc) (hK : va_K G.1 vwCl (xT G) s) (hP : va_P G.1 vwCl ws H) (q0 t0 : Nat) {a : Nat} {cA : ClassId} {x : vp_A} (ha : ws[q0]? = some (a, .inl (cA, x))) {ty : FieldType} (ht : (xT G)[t0]? = some (cA, ty)) (hdg : decode cc pc = .ok (.arraylength, 1))
    (kk : W p l e R s m args below meth c H locs cells slots Q (F0 m (pc + 1) ls (.int (nI x.1) :: rest))) : W p l e R s m args below meth c H locs cells slots Q (F0 m pc ls (.ref a :: rest)) :=
  va_alen hexec hb hK hP q0 t0 ha ht rfl hdg kk
theorem x_irem (hexec : p.tables.exec = Jvm.exec) (hb : c.code = cc) {a d : Nat} (ha : a < 2 ^ 31) (h0 : 0 < d) (hd : d < 2 ^ 31) (hdg : decode cc pc = .ok (.irem, 1))
    (k : W p l e R s m args below meth c H locs cells slots Q (F0 m (pc + 1) ls (.int (nI (a % d)) :: rest))) : W p l e R s m args below meth c H locs cells slots Q (F0 m pc ls (.int (nI d) :: .int (nI a) :: rest)) :=
  lv_irem hexec hb hdg (nI_ne0 h0 hd) (x_top (pk_rem ha h0 hd) k)
theorem x_idiv (hexec : p.tables.exec = Jvm.exec) (hb : c.code = cc) {a d : Nat} (ha : a < 2 ^ 31) (h0 : 0 < d) (hd : d < 2 ^ 31) (hdg : decode cc pc = .ok (.idiv, 1))
    (k : W p l e R s m args below meth c H locs cells slots Q (F0 m (pc + 1) ls (.int (nI (a / d)) :: rest))) : W p l e R s m args below meth c H locs cells slots Q (F0 m pc ls (.int (nI d) :: .int (nI a) :: rest)) :=
  lv_idiv hexec hb hdg (nI_ne0 h0 hd) (x_top (pk_div ha h0 hd) k)
end XA
/-- a contract out of a walk -/
theorem x_of {l : Launch} {G : xG} {y : MethodName} {ws ws' : List Cond} {cc : ByteArray} {maxL : Nat} {ret : Option FieldType} {rm : Room} {As : List Value} {wc w1 : va_W} {v : Option Value} (hy : plainName y.cls = true) (hw : ws = Cond.code y cc maxL ret :: ws') (hlen : (lg_sl As).length ≤ maxL)
    (body : ∀ (p : Program) (e : Env) (s : State) (m : MethodId) (below : List Frame) (meth : Method) (c : Code) (A : Nat → Prop) (ls : Array Slot), p.tables.exec = Jvm.exec → c.code = cc → c.maxLocals = maxL → s.vm.findClass y.cls = some m.cls → (∀ w ∈ ws, w.before As.toArray s = true) → meth.sig.returnType = ret → meth.locks = false → va_P G.1 vwCl wc s.heap → va_D A wc → va_K G.1 vwCl (xT G) s → xN s → (∀ q : Nat, s.heap.size ≤ q → A q) → va_S A s.heap s.heap [] → lv_has ls maxL (lv_args 0 As) →
      W p l e (headSpec ws rm).room s m As.toArray below meth c s.heap [] 0 0 (MQ below (xQ G v w1 A) As.toArray s 0 0 A) (F0 m 0 ls [])) : xMet l G y ws rm As wc v w1 := by
  intro sz
  refine Met.ofW (cc := cc) (maxL := maxL) (ret := ret) hy hw ?_
  intro p e s m args below meth c s₁ B hml hv
  obtain ⟨rfl, hsz, hP, hK, hD0, hN⟩ := hv
  subst hsz
  have hD := hD0.self (sz := s.heap.size)
  have hA : ∀ q : Nat, s.heap.size ≤ q → va_A wc s.heap.size q := fun q h => Or.inr h
  rw [lg_entry_eq]
  exact body p e s m below meth c _ _ B.exec B.bytes hml (findClass_of_methodNamed B.named) (atoms_spec (ws := ws) B.pre) B.returns B.notSynchronized hP hD hK hN hA va_S.rf (lv_entry As hlen)
end
section
/-! Branches on numbers that are naturals; counters. -/
section XB
variable {p : Program} {l : Launch} {e : Env} {R : Room} {s : State} {m : MethodId} {args : Array Value} {below : List Frame} {meth : Method} {c : Code} {H : Heap} {locs : List Loc} {cells slots : Nat} {Q : State → Prop}
variable {pc : Nat} {ls : Array Slot} {rest : List Value}
theorem x_inc (i : Nat) : nI i + Int32.ofInt 1 = nI (i + 1) := nI_1 i
def bI (b : Bool) : Int32 := if b then 1 else 0
theorem bI_01 (b : Bool) : bI b = 0 ∨ bI b = 1 := by cases b <;> simp [bI]
theorem bI_0 {b : Bool} (h : bI b = 0) : b = false := by cases b <;> simp_all [bI]
theorem bI_1 {b : Bool} (h : ¬ bI b = 0) : b = true := by cases b <;> simp_all [bI]

theorem x_icmp_eq {cc : ByteArray} (hexec : p.tables.exec = Jvm.exec) (hb : c.code = cc) {a b : Nat} {off : Int} {tgt : Nat} (ha : a < 2 ^ 31) (hb9 : b < 2 ^ 31) (hdg : decode cc pc = .ok (.if_icmp .eq off, 3)) (ht : (pc : Int) + off = (tgt : Int)) (kt : a = b → W p l e R s m args below meth c H locs cells slots Q (F0 m tgt ls (rest))) (kf : a ≠ b → W p l e R s m args below meth c H locs cells slots Q (F0 m (pc + 3) ls (rest))) : W p l e R s m args below meth c H locs cells slots Q (F0 m pc ls (.int (nI b) :: .int (nI a) :: rest)) :=
  lv_icmp_eq hexec hb hdg ht (fun q => kt ((nI_eq ha hb9).mp q)) (fun q => kf (fun z => q ((nI_eq ha hb9).mpr z)))
theorem x_icmp_ne {cc : ByteArray} (hexec : p.tables.exec = Jvm.exec) (hb : c.code = cc) {a b : Nat} {off : Int} {tgt : Nat} (ha : a < 2 ^ 31) (hb9 : b < 2 ^ 31) (hdg : decode cc pc = .ok (.if_icmp .ne off, 3)) (ht : (pc : Int) + off = (tgt : Int)) (kt : a ≠ b → W p l e R s m args below meth c H locs cells slots Q (F0 m tgt ls (rest))) (kf : a = b → W p l e R s m args below meth c H locs cells slots Q (F0 m (pc + 3) ls (rest))) : W p l e R s m args below meth c H locs cells slots Q (F0 m pc ls (.int (nI b) :: .int (nI a) :: rest)) :=
  lv_icmp_ne hexec hb hdg ht (fun q => kt (fun z => q ((nI_eq ha hb9).mpr z))) (fun q => kf ((nI_eq ha hb9).mp q))
theorem x_icmp_lt {cc : ByteArray} (hexec : p.tables.exec = Jvm.exec) (hb : c.code = cc) {a b : Nat} {off : Int} {tgt : Nat} (ha : a < 2 ^ 31) (hb9 : b < 2 ^ 31) (hdg : decode cc pc = .ok (.if_icmp .lt off, 3)) (ht : (pc : Int) + off = (tgt : Int)) (kt : a < b → W p l e R s m args below meth c H locs cells slots Q (F0 m tgt ls (rest))) (kf : b ≤ a → W p l e R s m args below meth c H locs cells slots Q (F0 m (pc + 3) ls (rest))) : W p l e R s m args below meth c H locs cells slots Q (F0 m pc ls (.int (nI b) :: .int (nI a) :: rest)) :=
  lv_icmp_lt hexec hb hdg ht (fun q => kt ((nI_ltI ha hb9).mp q)) (fun q => kf (Nat.le_of_not_lt fun z => q ((nI_ltI ha hb9).mpr z)))
theorem x_icmp_le {cc : ByteArray} (hexec : p.tables.exec = Jvm.exec) (hb : c.code = cc) {a b : Nat} {off : Int} {tgt : Nat} (ha : a < 2 ^ 31) (hb9 : b < 2 ^ 31) (hdg : decode cc pc = .ok (.if_icmp .le off, 3)) (ht : (pc : Int) + off = (tgt : Int)) (kt : a ≤ b → W p l e R s m args below meth c H locs cells slots Q (F0 m tgt ls (rest))) (kf : b < a → W p l e R s m args below meth c H locs cells slots Q (F0 m (pc + 3) ls (rest))) : W p l e R s m args below meth c H locs cells slots Q (F0 m pc ls (.int (nI b) :: .int (nI a) :: rest)) :=
  lv_icmp_le hexec hb hdg ht (fun q => kt ((nI_leI ha hb9).mp q)) (fun q => kf (Nat.lt_of_not_le fun z => q ((nI_leI ha hb9).mpr z)))
theorem x_icmp_gt {cc : ByteArray} (hexec : p.tables.exec = Jvm.exec) (hb : c.code = cc) {a b : Nat} {off : Int} {tgt : Nat} (ha : a < 2 ^ 31) (hb9 : b < 2 ^ 31) (hdg : decode cc pc = .ok (.if_icmp .gt off, 3)) (ht : (pc : Int) + off = (tgt : Int)) (kt : b < a → W p l e R s m args below meth c H locs cells slots Q (F0 m tgt ls (rest))) (kf : a ≤ b → W p l e R s m args below meth c H locs cells slots Q (F0 m (pc + 3) ls (rest))) : W p l e R s m args below meth c H locs cells slots Q (F0 m pc ls (.int (nI b) :: .int (nI a) :: rest)) :=
  lv_icmp_gt hexec hb hdg ht (fun q => kt ((nI_ltI hb9 ha).mp q)) (fun q => kf (Nat.le_of_not_lt fun z => q ((nI_ltI hb9 ha).mpr z)))
theorem x_icmp_ge {cc : ByteArray} (hexec : p.tables.exec = Jvm.exec) (hb : c.code = cc) {a b : Nat} {off : Int} {tgt : Nat} (ha : a < 2 ^ 31) (hb9 : b < 2 ^ 31) (hdg : decode cc pc = .ok (.if_icmp .ge off, 3)) (ht : (pc : Int) + off = (tgt : Int)) (kt : b ≤ a → W p l e R s m args below meth c H locs cells slots Q (F0 m tgt ls (rest))) (kf : a < b → W p l e R s m args below meth c H locs cells slots Q (F0 m (pc + 3) ls (rest))) : W p l e R s m args below meth c H locs cells slots Q (F0 m pc ls (.int (nI b) :: .int (nI a) :: rest)) :=
  lv_icmp_ge hexec hb hdg ht (fun q => kt ((nI_leI hb9 ha).mp q)) (fun q => kf (Nat.lt_of_not_le fun z => q ((nI_leI hb9 ha).mpr z)))
theorem x_if_eq {cc : ByteArray} (hexec : p.tables.exec = Jvm.exec) (hb : c.code = cc) {a : Nat} {off : Int} {tgt : Nat} (ha : a < 2 ^ 31) (hdg : decode cc pc = .ok (.ifCond .eq off, 3)) (ht : (pc : Int) + off = (tgt : Int)) (kt : a = 0 → W p l e R s m args below meth c H locs cells slots Q (F0 m tgt ls (rest))) (kf : a ≠ 0 → W p l e R s m args below meth c H locs cells slots Q (F0 m (pc + 3) ls (rest))) : W p l e R s m args below meth c H locs cells slots Q (F0 m pc ls (.int (nI a) :: rest)) :=
  lv_if_eq hexec hb hdg ht (fun q => kt ((nI_eq ha (by decide)).mp q)) (fun q => kf (fun z => q ((nI_eq ha (by decide)).mpr z)))
theorem x_if_ne {cc : ByteArray} (hexec : p.tables.exec = Jvm.exec) (hb : c.code = cc) {a : Nat} {off : Int} {tgt : Nat} (ha : a < 2 ^ 31) (hdg : decode cc pc = .ok (.ifCond .ne off, 3)) (ht : (pc : Int) + off = (tgt : Int)) (kt : a ≠ 0 → W p l e R s m args below meth c H locs cells slots Q (F0 m tgt ls (rest))) (kf : a = 0 → W p l e R s m args below meth c H locs cells slots Q (F0 m (pc + 3) ls (rest))) : W p l e R s m args below meth c H locs cells slots Q (F0 m pc ls (.int (nI a) :: rest)) :=
  lv_if_ne hexec hb hdg ht (fun q => kt (fun z => q ((nI_eq ha (by decide)).mpr z))) (fun q => kf ((nI_eq ha (by decide)).mp q))
theorem x_if_le {cc : ByteArray} (hexec : p.tables.exec = Jvm.exec) (hb : c.code = cc) {a : Nat} {off : Int} {tgt : Nat} (ha : a < 2 ^ 31) (hdg : decode cc pc = .ok (.ifCond .le off, 3)) (ht : (pc : Int) + off = (tgt : Int)) (kt : a = 0 → W p l e R s m args below meth c H locs cells slots Q (F0 m tgt ls (rest))) (kf : 0 < a → W p l e R s m args below meth c H locs cells slots Q (F0 m (pc + 3) ls (rest))) : W p l e R s m args below meth c H locs cells slots Q (F0 m pc ls (.int (nI a) :: rest)) :=
  lv_if_le hexec hb hdg ht (fun q => kt (Nat.le_zero.mp ((nI_leI (b := 0) ha (by decide)).mp q))) (fun q => kf (Nat.lt_of_not_le fun z => q ((nI_leI (b := 0) ha (by decide)).mpr z)))
theorem x_if_gt {cc : ByteArray} (hexec : p.tables.exec = Jvm.exec) (hb : c.code = cc) {a : Nat} {off : Int} {tgt : Nat} (ha : a < 2 ^ 31) (hdg : decode cc pc = .ok (.ifCond .gt off, 3)) (ht : (pc : Int) + off = (tgt : Int)) (kt : 0 < a → W p l e R s m args below meth c H locs cells slots Q (F0 m tgt ls (rest))) (kf : a = 0 → W p l e R s m args below meth c H locs cells slots Q (F0 m (pc + 3) ls (rest))) : W p l e R s m args below meth c H locs cells slots Q (F0 m pc ls (.int (nI a) :: rest)) :=
  lv_if_gt hexec hb hdg ht (fun q => kt ((nI_ltI (a := 0) (by decide) ha).mp q)) (fun q => kf (Nat.le_zero.mp (Nat.le_of_not_lt fun z => q ((nI_ltI (a := 0) (by decide) ha).mpr z))))
theorem x_if_lt {cc : ByteArray} (hexec : p.tables.exec = Jvm.exec) (hb : c.code = cc) {a : Nat} {off : Int} {tgt : Nat} (ha : a < 2 ^ 31) (hdg : decode cc pc = .ok (.ifCond .lt off, 3)) (ht : (pc : Int) + off = (tgt : Int)) (kf : W p l e R s m args below meth c H locs cells slots Q (F0 m (pc + 3) ls (rest))) : W p l e R s m args below meth c H locs cells slots Q (F0 m pc ls (.int (nI a) :: rest)) :=
  lv_if_lt hexec hb hdg ht (fun q => absurd q (nI_pos ha)) (fun _ => kf)
theorem x_bf {cc : ByteArray} (hexec : p.tables.exec = Jvm.exec) (hb : c.code = cc) {b : Bool} {off : Int} {tgt : Nat} (hdg : decode cc pc = .ok (.ifCond .eq off, 3)) (ht : (pc : Int) + off = (tgt : Int)) (kt : b = false → W p l e R s m args below meth c H locs cells slots Q (F0 m tgt ls (rest))) (kf : b = true → W p l e R s m args below meth c H locs cells slots Q (F0 m (pc + 3) ls (rest))) : W p l e R s m args below meth c H locs cells slots Q (F0 m pc ls (.int (bI b) :: rest)) :=
  lv_if_eq hexec hb hdg ht (fun q => kt (bI_0 q)) (fun q => kf (bI_1 q))
theorem x_bt {cc : ByteArray} (hexec : p.tables.exec = Jvm.exec) (hb : c.code = cc) {b : Bool} {off : Int} {tgt : Nat} (hdg : decode cc pc = .ok (.ifCond .ne off, 3)) (ht : (pc : Int) + off = (tgt : Int)) (kt : b = true → W p l e R s m args below meth c H locs cells slots Q (F0 m tgt ls (rest))) (kf : b = false → W p l e R s m args below meth c H locs cells slots Q (F0 m (pc + 3) ls (rest))) : W p l e R s m args below meth c H locs cells slots Q (F0 m pc ls (.int (bI b) :: rest)) :=
  lv_if_ne hexec hb hdg ht (fun q => kt (bI_1 q)) (fun q => kf (bI_0 q))
end XB
abbrev xW (p : Program) (l : Launch) (e : Env) (ws : List Cond) (rm : Room) (s : State) (m : MethodId) (As : List Value) (below : List Frame) (meth : Method) (c : Code) (G : xG) (v : Option Value) (w1 : va_W) (A : Nat → Prop) (H : Heap) (locs : List Loc) (g : JFrame) : Prop :=
  W p l e (headSpec ws rm).room s m As.toArray below meth c H locs 0 0 (MQ below (xQ G v w1 A) As.toArray s 0 0 A) g
end
section
/-! What the methods compute: pure functions of the numbers on the disk (g: holders, num: numbers, ch: a chain). -/
def fHolds (f : Nat → Int32) (n : Nat) (x : Int32) : Bool := (List.range n).any (fun j => decide (f j = x))
theorem fHolds_t {f : Nat → Int32} {n j : Nat} {x : Int32} (h : j < n) (e : f j = x) : fHolds f n x = true := by
  simp only [fHolds, List.any_eq_true, List.mem_range, decide_eq_true_eq]
  exact ⟨j, h, e⟩
theorem fHolds_f {f : Nat → Int32} {n : Nat} {x : Int32} (h : ∀ j, j < n → f j ≠ x) : fHolds f n x = false := by
  simp only [fHolds, List.any_eq_false, List.mem_range, decide_eq_true_eq]
  exact h
theorem fHolds_iff {f : Nat → Int32} {n : Nat} {x : Int32} : fHolds f n x = true ↔ ∃ j, j < n ∧ f j = x := by
  simp only [fHolds, List.any_eq_true, List.mem_range, decide_eq_true_eq]
def cFree (g : Nat → Int32) : Nat → Nat
  | 0 => 0
  | n + 1 => cFree g n + if g n = -1 then 1 else 0
theorem cFree_t {g : Nat → Int32} {n : Nat} (h : g n = -1) : cFree g (n + 1) = cFree g n + 1 := by rw [cFree, if_pos h]
theorem cFree_f {g : Nat → Int32} {n : Nat} (h : ¬ g n = -1) : cFree g (n + 1) = cFree g n := by rw [cFree, if_neg h, Nat.add_zero]
theorem cFree_le (g : Nat → Int32) : ∀ n, cFree g n ≤ n
  | 0 => Nat.le_refl 0
  | n + 1 => by
    have h := cFree_le g n
    rw [cFree]
    split <;> omega
/-- the free cluster with the lowest number -/
def lowN (g : Nat → Int32) : Nat → Nat
  | 0 => 0
  | n + 1 => if lowN g n < n then lowN g n else if g n = -1 then n else n + 1
def low (g : Nat → Int32) : Nat := lowN g 40
theorem lowN_le (g : Nat → Int32) : ∀ n, lowN g n ≤ n
  | 0 => Nat.le_refl 0
  | n + 1 => by
    have h := lowN_le g n
    rw [lowN]
    split
    · omega
    · split <;> omega
theorem lowN_no (g : Nat → Int32) : ∀ n j, j < lowN g n → g j ≠ -1
  | 0, j, h => absurd h (Nat.not_lt_zero j)
  | n + 1, j, h => by
    have ih := lowN_no g n
    have hle := lowN_le g n
    rw [lowN] at h
    split at h
    · exact ih j h
    · split at h
      · exact ih j (by omega)
      · rcases Nat.lt_or_ge j n with q | q
        · exact ih j (by omega)
        · have e : j = n := by omega
          subst e
          assumption
theorem lowN_yes (g : Nat → Int32) : ∀ n, lowN g n < n → g (lowN g n) = -1
  | 0, h => absurd h (Nat.not_lt_zero _)
  | n + 1, h => by
    have ih := lowN_yes g n
    rw [lowN] at h ⊢
    split
    · exact ih (by assumption)
    · split
      · assumption
      · rename_i h1 h2
        rw [if_neg h1, if_neg h2] at h
        omega
theorem cFree_zero {g : Nat → Int32} : ∀ {n : Nat}, (∀ j, j < n → g j ≠ -1) → cFree g n = 0
  | 0, _ => rfl
  | n + 1, h => by rw [cFree_f (h n (Nat.lt_succ_self n)), cFree_zero (fun j hj => h j (Nat.lt_succ_of_lt hj))]
theorem low_lt {g : Nat → Int32} (h : 0 < cFree g 40) : low g < 40 := by
  rcases Nat.lt_or_ge (low g) 40 with q | q
  · exact q
  · have hz := cFree_zero (g := g) (n := 40) (fun j hj => lowN_no g 40 j (Nat.lt_of_lt_of_le hj q))
    omega
theorem low_free {g : Nat → Int32} (h : 0 < cFree g 40) : g (low g) = -1 := lowN_yes g 40 (low_lt h)
theorem low_no {g : Nat → Int32} {j : Nat} (h : j < low g) : g j ≠ -1 := lowN_no g 40 j h
theorem low_is {g : Nat → Int32} {i : Nat} (hi : i < 40) (h : g i = -1) (hn : ∀ j, j < i → g j ≠ -1) : low g = i := by
  rcases Nat.lt_trichotomy (low g) i with q | q | q
  · exact absurd (lowN_yes g 40 (by show low g < 40; omega)) (hn _ q)
  · exact q
  · exact absurd h (low_no q)
/-- a row's clusters are free then -/
def relN (g : Nat → Int32) (ch : Nat → Nat) : Nat → (Nat → Int32)
  | 0 => g
  | n + 1 => upd (relN g ch n) (ch n) (-1)
/-- the numbers of a file, counted from 0 -/
def alongN (num : Nat → Int32) (ch : Nat → Nat) (i : Nat) : Int32 := num (ch (i / 4) * 4 + i % 4)
def csum (num : Nat → Int32) (ch : Nat → Nat) : Nat → Int32
  | 0 => 0
  | i + 1 => csum num ch i + alongN num ch i * nI (i + 1)
def r9 (x : Int32) : Int32 := x - x / nI 9973 * nI 9973
/-- what a chain's array holds -/
def isCh (f : Nat → Int32) (n : Nat) (ch : Nat → Nat) : Prop := ∀ j, j < n → f j = nI (ch j) ∧ ch j < 40
/-- k clusters are taken for x -/
def tkG (g : Nat → Int32) (x : Int32) : Nat → (Nat → Int32)
  | 0 => g
  | k + 1 => upd (tkG g x k) (low (tkG g x k)) x
def tkR (f : Nat → Int32) (n : Nat) (g : Nat → Int32) (x : Int32) : Nat → (Nat → Int32)
  | 0 => f
  | k + 1 => upd (tkR f n g x k) (n + k) (nI (low (tkG g x k)))
/-- the numbers from the place a on are written by the rule -/
def wrN (num : Nat → Int32) (ch : Nat → Nat) (sd a : Nat) : Nat → (Nat → Int32)
  | 0 => num
  | k + 1 => upd (wrN num ch sd a k) (ch ((a + k) / 4) * 4 + (a + k) % 4) (nI ((sd + 37 * (a + k)) % 250))
theorem cFree_upd {g : Nat → Int32} {x : Int32} (hx : x ≠ -1) {i : Nat} (hi : g i = -1) : ∀ {n : Nat}, i < n → cFree (upd g i x) n + 1 = cFree g n
  | 0, h => absurd h (Nat.not_lt_zero i)
  | n + 1, h => by
    rcases Nat.lt_or_ge i n with q | q
    · have ih := cFree_upd (g := g) hx hi q
      have e : upd g i x n = g n := pk_un (by omega)
      rw [cFree, cFree, e]
      omega
    · have e : i = n := by omega
      subst e
      have h1 : cFree (upd g i x) i = cFree g i := by
        have : ∀ m, m ≤ i → cFree (upd g i x) m = cFree g m := by
          intro m
          induction m with
          | zero => intro _; rfl
          | succ m ih =>
            intro hm
            have e2 : upd g i x m = g m := pk_un (by omega)
            rw [cFree, cFree, e2, ih (by omega)]
        exact this i (Nat.le_refl i)
      rw [cFree_t hi, cFree_f (by rw [pk_us]; exact hx), h1]
theorem cFree_tk {g : Nat → Int32} {x : Int32} (hx : x ≠ -1) : ∀ {k : Nat}, k ≤ cFree g 40 → cFree (tkG g x k) 40 + k = cFree g 40
  | 0, _ => rfl
  | k + 1, h => by
    have ih := cFree_tk (g := g) hx (k := k) (by omega)
    have h0 : 0 < cFree (tkG g x k) 40 := by omega
    have h1 := cFree_upd hx (low_free h0) (low_lt h0)
    rw [tkG]
    omega
end
section
set_option maxHeartbeats 4000000 in
set_option maxRecDepth 100000 in
theorem c_X0_at (l : Launch) (G : xG) (h0 : Nat) (h1 : Nat) (n : Nat) (f : Nat → Int32) (k : Nat) (hn : n ≤ 8) (hk : k < 2 ^ 31) : xMet l G yX0_at wsX0_at ({ frames := 0, cells := 0, slots := 0, locals := 0 } : Room) [.ref h0, .int (nI k)] [(h0, .inr (1, [.ref h1, .int (nI n)])), (h1, .inl (G.2 0, 8, .inl f))] (some (.int (if k < n then f k else (-1)))) [(h0, .inr (1, [.ref h1, .int (nI n)])), (h1, .inl (G.2 0, 8, .inl f))] := by
  refine x_of (cc := cX0_at) (maxL := 2) (ret := (some .int)) (by decide +kernel) rfl (Nat.le_of_ble_eq_true rfl) ?_
  intro p e s m below meth c A ls hx hb hml hown hts hr hlk hP hD hK hN hA hS hl
  have i_X0 : ∀ w ∈ wsX00, w ∈ wsX0_at := by decide +kernel
  have f_9 := hts (.fieldLink RX0 9 "GraveyardReader$ClusterRow" "row" "[I") (by decide +kernel)
  have f_15 := hts (.fieldLink RX0 15 "GraveyardReader$ClusterRow" "size" "I") (by decide +kernel)
  have hl : lv_has ls 2 [(0, .ref h0), (1, .int (nI k))] := hl
  have hP : va_P G.1 vwCl [(h0, .inr (1, [.ref h1, .int (nI n)])), (h1, .inl (G.2 0, 8, .inl f))] s.heap := hP
  refine lv_iload_n hx hb dX0_at_0 rfl (lv_at hl 1 rfl) ?_
  refine x_if_lt hx hb (tgt := 30) (a := k) (by omega) dX0_at_1 (by decide) ?_
  refine lv_iload_n hx hb dX0_at_4 rfl (lv_at hl 1 rfl) ?_
  refine lv_aload_n hx hb dX0_at_5 rfl (lv_at hl 0 rfl) ?_
  refine va_get (D := G.1) (ci := 1) (v := .int (nI n)) (C := RX0) (T := TX0) (N := 2) hx hb hts i_X0 hown hK hP 0 rfl rfl 1 (by decide) f_15 (fun _ h9 => h9) rfl dX0_at_6 ?_
  refine x_icmp_ge hx hb (tgt := 30) (a := k) (b := n) (by omega) (by omega) dX0_at_9 (by decide) (fun c_9 => ?_) (fun c_9 => ?_)
  · refine lv_iconst (v := (-1)) hx hb dX0_at_30 (by decide) ?_
    exact x_iret hx hb hr (by first | rw [if_pos (by omega)] | rw [if_neg (by omega)]) hP hS dX0_at_31 hlk
  · refine lv_iload_n hx hb dX0_at_12 rfl (lv_at hl 1 rfl) ?_
    refine lv_aload_n hx hb dX0_at_13 rfl (lv_at hl 0 rfl) ?_
    refine va_get (D := G.1) (ci := 1) (v := .ref h1) (C := RX0) (T := TX0) (N := 2) hx hb hts i_X0 hown hK hP 0 rfl rfl 0 (by decide) f_9 (fun _ h9 => h9) rfl dX0_at_14 ?_
    refine x_alen hx hb hK hP 1 0 rfl rfl dX0_at_17 ?_
    refine x_icmp_ge hx hb (tgt := 30) (a := k) (b := 8) (by omega) (by omega) dX0_at_18 (by decide) (fun c_18 => by omega) (fun c_18 => ?_)
    refine lv_aload_n hx hb dX0_at_21 rfl (lv_at hl 0 rfl) ?_
    refine va_get (D := G.1) (ci := 1) (v := .ref h1) (C := RX0) (T := TX0) (N := 2) hx hb hts i_X0 hown hK hP 0 rfl rfl 0 (by decide) f_9 (fun _ h9 => h9) rfl dX0_at_22 ?_
    refine lv_iload_n hx hb dX0_at_25 rfl (lv_at hl 1 rfl) ?_
    refine x_iald hx hb hK hP 1 rfl k (by omega) (by decide) dX0_at_26 ?_
    refine lv_goto (tgt := 31) hx hb dX0_at_27 (by decide) ?_
    exact x_iret hx hb hr (by first | rw [if_pos (by omega)] | rw [if_neg (by omega)]) hP hS dX0_at_31 hlk

set_option maxHeartbeats 4000000 in
set_option maxRecDepth 100000 in
theorem c_X0_clear (l : Launch) (G : xG) (h0 : Nat) (h1 : Nat) (n : Nat) (f : Nat → Int32)  : xMet l G yX0_clear wsX0_clear ({ frames := 0, cells := 0, slots := 0, locals := 0 } : Room) [.ref h0] [(h0, .inr (1, [.ref h1, .int (nI n)])), (h1, .inl (G.2 0, 8, .inl f))] none [(h0, .inr (1, [.ref h1, .int (nI 0)])), (h1, .inl (G.2 0, 8, .inl f))] := by
  refine x_of (cc := cX0_clear) (maxL := 1) (ret := none) (by decide +kernel) rfl (Nat.le_of_ble_eq_true rfl) ?_
  intro p e s m below meth c A ls hx hb hml hown hts hr hlk hP hD hK hN hA hS hl
  have i_X0 : ∀ w ∈ wsX00, w ∈ wsX0_clear := by decide +kernel
  have f_15 := hts (.fieldLink RX0 15 "GraveyardReader$ClusterRow" "size" "I") (by decide +kernel)
  have hl : lv_has ls 1 [(0, .ref h0)] := hl
  have hP : va_P G.1 vwCl [(h0, .inr (1, [.ref h1, .int (nI n)])), (h1, .inl (G.2 0, 8, .inl f))] s.heap := hP
  refine lv_aload_n hx hb dX0_clear_0 rfl (lv_at hl 0 rfl) ?_
  refine lv_iconst (v := nI 0) hx hb dX0_clear_1 (by decide) ?_
  refine va_put (D := G.1) (ci := 1) (v := .int (nI 0)) (ty := .int) (C := RX0) (T := TX0) (N := 2) hx hb hts i_X0 tyX0 tyX0_ok nmX0 hown hK hP hD hS 0 rfl rfl 1 (by decide) f_15 (fun _ h9 => h9) rfl (by decide +kernel) rfl rfl (Nat.le_of_ble_eq_true rfl) dX0_clear_2 (fun H locs hP hD hS => ?_)
  have hP : va_P G.1 vwCl [(h0, .inr (1, [.ref h1, .int (nI 0)])), (h1, .inl (G.2 0, 8, .inl f))] H := hP
  have hD : va_D A [(h0, .inr (1, [.ref h1, .int (nI 0)])), (h1, .inl (G.2 0, 8, .inl f))] := hD
  exact x_vret hx hb hr hP hS dX0_clear_5 hlk

set_option maxHeartbeats 4000000 in
set_option maxRecDepth 100000 in
theorem c_X0_add (l : Launch) (G : xG) (h0 : Nat) (h1 : Nat) (n : Nat) (f : Nat → Int32) (x : Int32) (hn : n < 8) : xMet l G yX0_add wsX0_add ({ frames := 0, cells := 0, slots := 0, locals := 0 } : Room) [.ref h0, .int x] [(h0, .inr (1, [.ref h1, .int (nI n)])), (h1, .inl (G.2 0, 8, .inl f))] none [(h0, .inr (1, [.ref h1, .int (nI (n + 1))])), (h1, .inl (G.2 0, 8, .inl (upd f n x)))] := by
  refine x_of (cc := cX0_add) (maxL := 2) (ret := none) (by decide +kernel) rfl (Nat.le_of_ble_eq_true rfl) ?_
  intro p e s m below meth c A ls hx hb hml hown hts hr hlk hP hD hK hN hA hS hl
  have i_X0 : ∀ w ∈ wsX00, w ∈ wsX0_add := by decide +kernel
  have f_9 := hts (.fieldLink RX0 9 "GraveyardReader$ClusterRow" "row" "[I") (by decide +kernel)
  have f_15 := hts (.fieldLink RX0 15 "GraveyardReader$ClusterRow" "size" "I") (by decide +kernel)
  have hl : lv_has ls 2 [(0, .ref h0), (1, .int x)] := hl
  have hP : va_P G.1 vwCl [(h0, .inr (1, [.ref h1, .int (nI n)])), (h1, .inl (G.2 0, 8, .inl f))] s.heap := hP
  refine lv_aload_n hx hb dX0_add_0 rfl (lv_at hl 0 rfl) ?_
  refine va_get (D := G.1) (ci := 1) (v := .int (nI n)) (C := RX0) (T := TX0) (N := 2) hx hb hts i_X0 hown hK hP 0 rfl rfl 1 (by decide) f_15 (fun _ h9 => h9) rfl dX0_add_1 ?_
  refine x_if_lt hx hb (tgt := 39) (a := n) (by omega) dX0_add_4 (by decide) ?_
  refine lv_aload_n hx hb dX0_add_7 rfl (lv_at hl 0 rfl) ?_
  refine va_get (D := G.1) (ci := 1) (v := .int (nI n)) (C := RX0) (T := TX0) (N := 2) hx hb hts i_X0 hown hK hP 0 rfl rfl 1 (by decide) f_15 (fun _ h9 => h9) rfl dX0_add_8 ?_
  refine lv_aload_n hx hb dX0_add_11 rfl (lv_at hl 0 rfl) ?_
  refine va_get (D := G.1) (ci := 1) (v := .ref h1) (C := RX0) (T := TX0) (N := 2) hx hb hts i_X0 hown hK hP 0 rfl rfl 0 (by decide) f_9 (fun _ h9 => h9) rfl dX0_add_12 ?_
  refine x_alen hx hb hK hP 1 0 rfl rfl dX0_add_15 ?_
  refine x_icmp_ge hx hb (tgt := 39) (a := n) (b := 8) (by omega) (by omega) dX0_add_16 (by decide) (fun c_16 => by omega) (fun c_16 => ?_)
  refine lv_aload_n hx hb dX0_add_19 rfl (lv_at hl 0 rfl) ?_
  refine va_get (D := G.1) (ci := 1) (v := .ref h1) (C := RX0) (T := TX0) (N := 2) hx hb hts i_X0 hown hK hP 0 rfl rfl 0 (by decide) f_9 (fun _ h9 => h9) rfl dX0_add_20 ?_
  refine lv_aload_n hx hb dX0_add_23 rfl (lv_at hl 0 rfl) ?_
  refine va_get (D := G.1) (ci := 1) (v := .int (nI n)) (C := RX0) (T := TX0) (N := 2) hx hb hts i_X0 hown hK hP 0 rfl rfl 1 (by decide) f_15 (fun _ h9 => h9) rfl dX0_add_24 ?_
  refine lv_iload_n hx hb dX0_add_27 rfl (lv_at hl 1 rfl) ?_
  refine x_iast hx hb hK hP hD hS 1 rfl n (by omega) (by decide) dX0_add_28 (fun H locs hP hD hS => ?_)
  have hP : va_P G.1 vwCl [(h0, .inr (1, [.ref h1, .int (nI n)])), (h1, .inl (G.2 0, 8, .inl (upd f n x)))] H := hP
  have hD : va_D A [(h0, .inr (1, [.ref h1, .int (nI n)])), (h1, .inl (G.2 0, 8, .inl (upd f n x)))] := hD
  refine lv_aload_n hx hb dX0_add_29 rfl (lv_at hl 0 rfl) ?_
  refine lv_dup hx hb dX0_add_30 rfl ?_
  refine va_get (D := G.1) (ci := 1) (v := .int (nI n)) (C := RX0) (T := TX0) (N := 2) hx hb hts i_X0 hown hK hP 0 rfl rfl 1 (by decide) f_15 (fun _ h9 => h9) rfl dX0_add_31 ?_
  refine lv_iconst (v := nI 1) hx hb dX0_add_34 (by decide) ?_
  refine lv_iadd hx hb dX0_add_35 ?_
  refine x_top (y := nI (n + 1)) (nI_add _ _) ?_
  refine va_put (D := G.1) (ci := 1) (v := .int (nI (n + 1))) (ty := .int) (C := RX0) (T := TX0) (N := 2) hx hb hts i_X0 tyX0 tyX0_ok nmX0 hown hK hP hD hS 0 rfl rfl 1 (by decide) f_15 (fun _ h9 => h9) rfl (by decide +kernel) rfl rfl (Nat.le_of_ble_eq_true rfl) dX0_add_36 (fun H locs hP hD hS => ?_)
  have hP : va_P G.1 vwCl [(h0, .inr (1, [.ref h1, .int (nI (n + 1))])), (h1, .inl (G.2 0, 8, .inl (upd f n x)))] H := hP
  have hD : va_D A [(h0, .inr (1, [.ref h1, .int (nI (n + 1))])), (h1, .inl (G.2 0, 8, .inl (upd f n x)))] := hD
  exact x_vret hx hb hr hP hS dX0_add_39 hlk

set_option maxHeartbeats 4000000 in
set_option maxRecDepth 100000 in
theorem c_X0_holds (l : Launch) (G : xG) (h0 : Nat) (h1 : Nat) (n : Nat) (f : Nat → Int32) (x : Int32) (hn : n ≤ 8) : xMet l G yX0_holds wsX0_holds ({ frames := 1, cells := 0, slots := 0, locals := 21 } : Room) [.ref h0, .int x] [(h0, .inr (1, [.ref h1, .int (nI n)])), (h1, .inl (G.2 0, 8, .inl f))] (some (.int (bI (fHolds f n x)))) [(h0, .inr (1, [.ref h1, .int (nI n)])), (h1, .inl (G.2 0, 8, .inl f))] := by
  refine x_of (cc := cX0_holds) (maxL := 3) (ret := (some .boolean)) (by decide +kernel) rfl (Nat.le_of_ble_eq_true rfl) ?_
  intro p e s m below meth c A ls hx hb hml hown hts hr hlk hP hD hK hN hA hS hl
  have i_X0 : ∀ w ∈ wsX00, w ∈ wsX0_holds := by decide +kernel
  have f_15 := hts (.fieldLink RX0 15 "GraveyardReader$ClusterRow" "size" "I") (by decide +kernel)
  have hl : lv_has ls 3 [(0, .ref h0), (1, .int x)] := hl
  have hP : va_P G.1 vwCl [(h0, .inr (1, [.ref h1, .int (nI n)])), (h1, .inl (G.2 0, 8, .inl f))] s.heap := hP
  refine lv_iconst (v := nI 0) hx hb dX0_holds_0 (by decide) ?_
  refine lv_istore_n (lv' := [(2, .int (nI 0)), (0, .ref h0), (1, .int x)]) hx hb dX0_holds_1 rfl hl (by decide) rfl (fun ls hl => ?_)
  have loop2 : ∀ (n9 : Nat) (i : Nat), n - i < n9 → (i ≤ n) → (∀ j, j < i → f j ≠ x) → ∀ (H : Heap) (locs : List Loc), va_P G.1 vwCl [(h0, .inr (1, [.ref h1, .int (nI n)])), (h1, .inl (G.2 0, 8, .inl f))] H → va_D A [(h0, .inr (1, [.ref h1, .int (nI n)])), (h1, .inl (G.2 0, 8, .inl f))] → va_S A s.heap H locs → ∀ (ls : Array Slot), lv_has ls 3 [(0, .ref h0), (1, .int x), (2, .int (nI i))] → xW p l e wsX0_holds ({ frames := 1, cells := 0, slots := 0, locals := 21 } : Room) s m [.ref h0, .int x] below meth c G (some (.int (bI (fHolds f n x)))) [(h0, .inr (1, [.ref h1, .int (nI n)])), (h1, .inl (G.2 0, 8, .inl f))] A H locs (F0 m 2 ls []) := by
    intro n9
    induction n9 with
    | zero => intro i h9; exact absurd h9 (Nat.not_lt_zero _)
    | succ n9 ih2 =>
      intro i h9 hi hno H locs hP hD hS ls hl
      refine lv_iload_n hx hb dX0_holds_2 rfl (lv_at hl 2 rfl) ?_
      refine lv_aload_n hx hb dX0_holds_3 rfl (lv_at hl 0 rfl) ?_
      refine va_get (D := G.1) (ci := 1) (v := .int (nI n)) (C := RX0) (T := TX0) (N := 2) hx hb hts i_X0 hown hK hP 0 rfl rfl 1 (by decide) f_15 (fun _ h9 => h9) rfl dX0_holds_4 ?_
      refine x_icmp_ge hx hb (tgt := 27) (a := i) (b := n) (by omega) (by omega) dX0_holds_7 (by decide) (fun c_7 => ?_) (fun c_7 => ?_)
      · refine lv_iconst (v := nI 0) hx hb dX0_holds_27 (by decide) ?_
        exact x_zret hx hb hr (by rw [fHolds_f (fun j hj => hno j (by omega))]; rfl) (by decide) hP hS dX0_holds_28 hlk
      · refine lv_aload_n hx hb dX0_holds_10 rfl (lv_at hl 0 rfl) ?_
        refine lv_iload_n hx hb dX0_holds_11 rfl (lv_at hl 2 rfl) ?_
        refine x_callV (As := [.int (nI i)]) (rest := []) (w9 := [(h0, .inr (1, [.ref h1, .int (nI n)])), (h1, .inl (G.2 0, 8, .inl f))]) ⟨hx, hb, hml, hown, hts⟩ (c_X0_at l G h0 h1 n f i hn (by omega)) (cwV 1 hts gX0_holds_X0_at rfl rfl rfl (by decide +kernel) ⟨Nat.le_of_ble_eq_true rfl, Nat.le_of_ble_eq_true rfl⟩) hK hN hP hD hS hA [0, 1] (by decide) rfl rfl 0 rfl rfl rfl hl.1 rfl (Nat.le_of_ble_eq_true rfl) dX0_holds_12 ⟨Nat.le_of_ble_eq_true rfl, Nat.le_of_ble_eq_true rfl⟩ rfl (fun H locs hP hD hS => ?_)
        refine W.eq (g2 := F0 m 15 ls [.int (if i < n then f i else (-1))]) rfl ?_
        refine x_top (y := f i) (if_pos (by omega)) ?_
        refine lv_iload_n hx hb dX0_holds_15 rfl (lv_at hl 1 rfl) ?_
        refine lv_icmp_ne hx hb (tgt := 21) dX0_holds_16 (by decide) (fun c_16 => ?_) (fun c_16 => ?_)
        · refine lv_iinc (v := nI (i + 1)) (lv' := [(2, .int (nI (i + 1))), (0, .ref h0), (1, .int x)]) hx hb dX0_holds_21 hl (k := 2) rfl (x_inc _) (by decide) rfl (fun ls hl => ?_)
          refine lv_goto (tgt := 2) hx hb dX0_holds_24 (by decide) ?_
          exact ih2 (i + 1) (by omega) (by omega) (fun j hj => (Nat.lt_succ_iff_lt_or_eq.mp hj).elim (hno j) (fun q => q ▸ c_16)) _ _ hP hD hS ls (lv_sub hl [1, 2, 0] rfl)
        · refine lv_iconst (v := nI 1) hx hb dX0_holds_19 (by decide) ?_
          exact x_zret hx hb hr (by rw [fHolds_t (by omega) c_16]; rfl) (by decide) hP hS dX0_holds_20 hlk
  exact loop2 _ 0 (Nat.lt_succ_self _) (by omega) (fun j hj => absurd hj (Nat.not_lt_zero j)) _ _ hP hD hS ls (lv_sub hl [1, 2, 0] rfl)
end
section
set_option maxHeartbeats 4000000 in
set_option maxRecDepth 100000 in
theorem c_X1_isFree (l : Launch) (G : xG) (d0 : Nat) (d1 : Nat) (d2 : Nat) (g : Nat → Int32) (k : Nat) (hk : k < 40) : xMet l G yX1_isFree wsX1_isFree ({ frames := 0, cells := 0, slots := 0, locals := 0 } : Room) [.ref d0, .int (nI k)] [(d0, .inr (2, [.ref d1, .ref d2])), (d2, .inl (G.2 0, 40, .inl g))] (some (.int (bI (decide (g k = -1))))) [(d0, .inr (2, [.ref d1, .ref d2])), (d2, .inl (G.2 0, 40, .inl g))] := by
  refine x_of (cc := cX1_isFree) (maxL := 2) (ret := (some .boolean)) (by decide +kernel) rfl (Nat.le_of_ble_eq_true rfl) ?_
  intro p e s m below meth c A ls hx hb hml hown hts hr hlk hP hD hK hN hA hS hl
  have i_X1 : ∀ w ∈ wsX10, w ∈ wsX1_isFree := by decide +kernel
  have f_15 := hts (.fieldLink RX1 15 "GraveyardReader$Disk" "holders" "[I") (by decide +kernel)
  have hl : lv_has ls 2 [(0, .ref d0), (1, .int (nI k))] := hl
  have hP : va_P G.1 vwCl [(d0, .inr (2, [.ref d1, .ref d2])), (d2, .inl (G.2 0, 40, .inl g))] s.heap := hP
  refine lv_iload_n hx hb dX1_isFree_0 rfl (lv_at hl 1 rfl) ?_
  refine x_if_lt hx hb (tgt := 27) (a := k) (by omega) dX1_isFree_1 (by decide) ?_
  refine lv_iload_n hx hb dX1_isFree_4 rfl (lv_at hl 1 rfl) ?_
  refine lv_aload_n hx hb dX1_isFree_5 rfl (lv_at hl 0 rfl) ?_
  refine va_get (D := G.1) (ci := 2) (v := .ref d2) (C := RX1) (T := TX1) (N := 2) hx hb hts i_X1 hown hK hP 0 rfl rfl 1 (by decide) f_15 (fun _ h9 => h9) rfl dX1_isFree_6 ?_
  refine x_alen hx hb hK hP 1 0 rfl rfl dX1_isFree_9 ?_
  refine x_icmp_ge hx hb (tgt := 27) (a := k) (b := 40) (by omega) (by omega) dX1_isFree_10 (by decide) (fun c_10 => by omega) (fun c_10 => ?_)
  refine lv_aload_n hx hb dX1_isFree_13 rfl (lv_at hl 0 rfl) ?_
  refine va_get (D := G.1) (ci := 2) (v := .ref d2) (C := RX1) (T := TX1) (N := 2) hx hb hts i_X1 hown hK hP 0 rfl rfl 1 (by decide) f_15 (fun _ h9 => h9) rfl dX1_isFree_14 ?_
  refine lv_iload_n hx hb dX1_isFree_17 rfl (lv_at hl 1 rfl) ?_
  refine x_iald hx hb hK hP 1 rfl k (by omega) (by decide) dX1_isFree_18 ?_
  refine lv_iconst (v := (-1)) hx hb dX1_isFree_19 (by decide) ?_
  refine lv_icmp_ne hx hb (tgt := 27) dX1_isFree_20 (by decide) (fun c_20 => ?_) (fun c_20 => ?_)
  · refine lv_iconst (v := nI 0) hx hb dX1_isFree_27 (by decide) ?_
    exact x_zret hx hb hr (by first | rw [decide_eq_true c_20]; rfl | rw [decide_eq_false c_20]; rfl) (by decide) hP hS dX1_isFree_28 hlk
  · refine lv_iconst (v := nI 1) hx hb dX1_isFree_23 (by decide) ?_
    refine lv_goto (tgt := 28) hx hb dX1_isFree_24 (by decide) ?_
    exact x_zret hx hb hr (by first | rw [decide_eq_true c_20]; rfl | rw [decide_eq_false c_20]; rfl) (by decide) hP hS dX1_isFree_28 hlk

set_option maxHeartbeats 4000000 in
set_option maxRecDepth 100000 in
theorem c_X1_holderOf (l : Launch) (G : xG) (d0 : Nat) (d1 : Nat) (d2 : Nat) (g : Nat → Int32) (k : Nat) (hk : k < 40) : xMet l G yX1_holderOf wsX1_holderOf ({ frames := 0, cells := 0, slots := 0, locals := 0 } : Room) [.ref d0, .int (nI k)] [(d0, .inr (2, [.ref d1, .ref d2])), (d2, .inl (G.2 0, 40, .inl g))] (some (.int (g k))) [(d0, .inr (2, [.ref d1, .ref d2])), (d2, .inl (G.2 0, 40, .inl g))] := by
  refine x_of (cc := cX1_holderOf) (maxL := 2) (ret := (some .int)) (by decide +kernel) rfl (Nat.le_of_ble_eq_true rfl) ?_
  intro p e s m below meth c A ls hx hb hml hown hts hr hlk hP hD hK hN hA hS hl
  have i_X1 : ∀ w ∈ wsX10, w ∈ wsX1_holderOf := by decide +kernel
  have f_15 := hts (.fieldLink RX1 15 "GraveyardReader$Disk" "holders" "[I") (by decide +kernel)
  have hl : lv_has ls 2 [(0, .ref d0), (1, .int (nI k))] := hl
  have hP : va_P G.1 vwCl [(d0, .inr (2, [.ref d1, .ref d2])), (d2, .inl (G.2 0, 40, .inl g))] s.heap := hP
  refine lv_iload_n hx hb dX1_holderOf_0 rfl (lv_at hl 1 rfl) ?_
  refine x_if_lt hx hb (tgt := 22) (a := k) (by omega) dX1_holderOf_1 (by decide) ?_
  refine lv_iload_n hx hb dX1_holderOf_4 rfl (lv_at hl 1 rfl) ?_
  refine lv_aload_n hx hb dX1_holderOf_5 rfl (lv_at hl 0 rfl) ?_
  refine va_get (D := G.1) (ci := 2) (v := .ref d2) (C := RX1) (T := TX1) (N := 2) hx hb hts i_X1 hown hK hP 0 rfl rfl 1 (by decide) f_15 (fun _ h9 => h9) rfl dX1_holderOf_6 ?_
  refine x_alen hx hb hK hP 1 0 rfl rfl dX1_holderOf_9 ?_
  refine x_icmp_ge hx hb (tgt := 22) (a := k) (b := 40) (by omega) (by omega) dX1_holderOf_10 (by decide) (fun c_10 => by omega) (fun c_10 => ?_)
  refine lv_aload_n hx hb dX1_holderOf_13 rfl (lv_at hl 0 rfl) ?_
  refine va_get (D := G.1) (ci := 2) (v := .ref d2) (C := RX1) (T := TX1) (N := 2) hx hb hts i_X1 hown hK hP 0 rfl rfl 1 (by decide) f_15 (fun _ h9 => h9) rfl dX1_holderOf_14 ?_
  refine lv_iload_n hx hb dX1_holderOf_17 rfl (lv_at hl 1 rfl) ?_
  refine x_iald hx hb hK hP 1 rfl k (by omega) (by decide) dX1_holderOf_18 ?_
  refine lv_goto (tgt := 23) hx hb dX1_holderOf_19 (by decide) ?_
  exact x_iret hx hb hr rfl hP hS dX1_holderOf_23 hlk

set_option maxHeartbeats 4000000 in
set_option maxRecDepth 100000 in
theorem c_X1_countFree (l : Launch) (G : xG) (d0 : Nat) (d1 : Nat) (d2 : Nat) (g : Nat → Int32)  : xMet l G yX1_countFree wsX1_countFree ({ frames := 0, cells := 0, slots := 0, locals := 0 } : Room) [.ref d0] [(d0, .inr (2, [.ref d1, .ref d2])), (d2, .inl (G.2 0, 40, .inl g))] (some (.int (nI (cFree g 40)))) [(d0, .inr (2, [.ref d1, .ref d2])), (d2, .inl (G.2 0, 40, .inl g))] := by
  refine x_of (cc := cX1_countFree) (maxL := 3) (ret := (some .int)) (by decide +kernel) rfl (Nat.le_of_ble_eq_true rfl) ?_
  intro p e s m below meth c A ls hx hb hml hown hts hr hlk hP hD hK hN hA hS hl
  have i_X1 : ∀ w ∈ wsX10, w ∈ wsX1_countFree := by decide +kernel
  have f_15 := hts (.fieldLink RX1 15 "GraveyardReader$Disk" "holders" "[I") (by decide +kernel)
  have hl : lv_has ls 3 [(0, .ref d0)] := hl
  have hP : va_P G.1 vwCl [(d0, .inr (2, [.ref d1, .ref d2])), (d2, .inl (G.2 0, 40, .inl g))] s.heap := hP
  refine lv_iconst (v := nI 0) hx hb dX1_countFree_0 (by decide) ?_
  refine lv_istore_n (lv' := [(1, .int (nI 0)), (0, .ref d0)]) hx hb dX1_countFree_1 rfl hl (by decide) rfl (fun ls hl => ?_)
  refine lv_iconst (v := nI 0) hx hb dX1_countFree_2 (by decide) ?_
  refine lv_istore_n (lv' := [(2, .int (nI 0)), (1, .int (nI 0)), (0, .ref d0)]) hx hb dX1_countFree_3 rfl hl (by decide) rfl (fun ls hl => ?_)
  have loop4 : ∀ (n9 : Nat) (i : Nat) (k : Nat), 40 - i < n9 → (i ≤ 40) → (k = cFree g i) → (k ≤ i) → ∀ (H : Heap) (locs : List Loc), va_P G.1 vwCl [(d0, .inr (2, [.ref d1, .ref d2])), (d2, .inl (G.2 0, 40, .inl g))] H → va_D A [(d0, .inr (2, [.ref d1, .ref d2])), (d2, .inl (G.2 0, 40, .inl g))] → va_S A s.heap H locs → ∀ (ls : Array Slot), lv_has ls 3 [(0, .ref d0), (1, .int (nI k)), (2, .int (nI i))] → xW p l e wsX1_countFree ({ frames := 0, cells := 0, slots := 0, locals := 0 } : Room) s m [.ref d0] below meth c G (some (.int (nI (cFree g 40)))) [(d0, .inr (2, [.ref d1, .ref d2])), (d2, .inl (G.2 0, 40, .inl g))] A H locs (F0 m 4 ls []) := by
    intro n9
    induction n9 with
    | zero => intro i k h9; exact absurd h9 (Nat.not_lt_zero _)
    | succ n9 ih4 =>
      intro i k h9 hi hk hk2 H locs hP hD hS ls hl
      refine lv_iload_n hx hb dX1_countFree_4 rfl (lv_at hl 2 rfl) ?_
      refine lv_aload_n hx hb dX1_countFree_5 rfl (lv_at hl 0 rfl) ?_
      refine va_get (D := G.1) (ci := 2) (v := .ref d2) (C := RX1) (T := TX1) (N := 2) hx hb hts i_X1 hown hK hP 0 rfl rfl 1 (by decide) f_15 (fun _ h9 => h9) rfl dX1_countFree_6 ?_
      refine x_alen hx hb hK hP 1 0 rfl rfl dX1_countFree_9 ?_
      refine x_icmp_ge hx hb (tgt := 32) (a := i) (b := 40) (by omega) (by omega) dX1_countFree_10 (by decide) (fun c_10 => ?_) (fun c_10 => ?_)
      · refine lv_iload_n hx hb dX1_countFree_32 rfl (lv_at hl 1 rfl) ?_
        have e9 : i = 40 := by omega
        subst e9
        exact x_iret hx hb hr (by rw [hk]) hP hS dX1_countFree_33 hlk
      · refine lv_aload_n hx hb dX1_countFree_13 rfl (lv_at hl 0 rfl) ?_
        refine va_get (D := G.1) (ci := 2) (v := .ref d2) (C := RX1) (T := TX1) (N := 2) hx hb hts i_X1 hown hK hP 0 rfl rfl 1 (by decide) f_15 (fun _ h9 => h9) rfl dX1_countFree_14 ?_
        refine lv_iload_n hx hb dX1_countFree_17 rfl (lv_at hl 2 rfl) ?_
        refine x_iald hx hb hK hP 1 rfl i (by omega) (by decide) dX1_countFree_18 ?_
        refine lv_iconst (v := (-1)) hx hb dX1_countFree_19 (by decide) ?_
        refine lv_icmp_ne hx hb (tgt := 26) dX1_countFree_20 (by decide) (fun c_20 => ?_) (fun c_20 => ?_)
        · refine lv_iinc (v := nI (i + 1)) (lv' := [(2, .int (nI (i + 1))), (0, .ref d0), (1, .int (nI k))]) hx hb dX1_countFree_26 hl (k := 2) rfl (x_inc _) (by decide) rfl (fun ls hl => ?_)
          refine lv_goto (tgt := 4) hx hb dX1_countFree_29 (by decide) ?_
          exact ih4 (i + 1) k (by omega) (by omega) (by first | rw [cFree_t c_20, hk] | rw [cFree_f c_20, hk]) (by omega) _ _ hP hD hS ls (lv_sub hl [1, 2, 0] rfl)
        · refine lv_iinc (v := nI (k + 1)) (lv' := [(1, .int (nI (k + 1))), (0, .ref d0), (2, .int (nI i))]) hx hb dX1_countFree_23 hl (k := 1) rfl (x_inc _) (by decide) rfl (fun ls hl => ?_)
          refine lv_iinc (v := nI (i + 1)) (lv' := [(2, .int (nI (i + 1))), (1, .int (nI (k + 1))), (0, .ref d0)]) hx hb dX1_countFree_26 hl (k := 2) rfl (x_inc _) (by decide) rfl (fun ls hl => ?_)
          refine lv_goto (tgt := 4) hx hb dX1_countFree_29 (by decide) ?_
          exact ih4 (i + 1) (k + 1) (by omega) (by omega) (by first | rw [cFree_t c_20, hk] | rw [cFree_f c_20, hk]) (by omega) _ _ hP hD hS ls (lv_sub hl [2, 1, 0] rfl)
  exact loop4 _ 0 0 (Nat.lt_succ_self _) (by omega) rfl (by omega) _ _ hP hD hS ls (lv_sub hl [2, 1, 0] rfl)

set_option maxHeartbeats 4000000 in
set_option maxRecDepth 100000 in
theorem c_X1_takeLowest (l : Launch) (G : xG) (d0 : Nat) (d1 : Nat) (d2 : Nat) (g : Nat → Int32) (x : Int32) (h : 0 < cFree g 40) : xMet l G yX1_takeLowest wsX1_takeLowest ({ frames := 0, cells := 0, slots := 0, locals := 0 } : Room) [.ref d0, .int x] [(d0, .inr (2, [.ref d1, .ref d2])), (d2, .inl (G.2 0, 40, .inl g))] (some (.int (nI (low g)))) [(d0, .inr (2, [.ref d1, .ref d2])), (d2, .inl (G.2 0, 40, .inl (upd g (low g) x)))] := by
  refine x_of (cc := cX1_takeLowest) (maxL := 3) (ret := (some .int)) (by decide +kernel) rfl (Nat.le_of_ble_eq_true rfl) ?_
  intro p e s m below meth c A ls hx hb hml hown hts hr hlk hP hD hK hN hA hS hl
  have i_X1 : ∀ w ∈ wsX10, w ∈ wsX1_takeLowest := by decide +kernel
  have f_15 := hts (.fieldLink RX1 15 "GraveyardReader$Disk" "holders" "[I") (by decide +kernel)
  have hl : lv_has ls 3 [(0, .ref d0), (1, .int x)] := hl
  have hP : va_P G.1 vwCl [(d0, .inr (2, [.ref d1, .ref d2])), (d2, .inl (G.2 0, 40, .inl g))] s.heap := hP
  refine lv_iconst (v := nI 0) hx hb dX1_takeLowest_0 (by decide) ?_
  refine lv_istore_n (lv' := [(2, .int (nI 0)), (0, .ref d0), (1, .int x)]) hx hb dX1_takeLowest_1 rfl hl (by decide) rfl (fun ls hl => ?_)
  have loop2 : ∀ (n9 : Nat) (i : Nat), 40 - i < n9 → (i ≤ 40) → (∀ j, j < i → g j ≠ -1) → ∀ (H : Heap) (locs : List Loc), va_P G.1 vwCl [(d0, .inr (2, [.ref d1, .ref d2])), (d2, .inl (G.2 0, 40, .inl g))] H → va_D A [(d0, .inr (2, [.ref d1, .ref d2])), (d2, .inl (G.2 0, 40, .inl g))] → va_S A s.heap H locs → ∀ (ls : Array Slot), lv_has ls 3 [(0, .ref d0), (1, .int x), (2, .int (nI i))] → xW p l e wsX1_takeLowest ({ frames := 0, cells := 0, slots := 0, locals := 0 } : Room) s m [.ref d0, .int x] below meth c G (some (.int (nI (low g)))) [(d0, .inr (2, [.ref d1, .ref d2])), (d2, .inl (G.2 0, 40, .inl (upd g (low g) x)))] A H locs (F0 m 2 ls []) := by
    intro n9
    induction n9 with
    | zero => intro i h9; exact absurd h9 (Nat.not_lt_zero _)
    | succ n9 ih2 =>
      intro i h9 hi hno H locs hP hD hS ls hl
      refine lv_iload_n hx hb dX1_takeLowest_2 rfl (lv_at hl 2 rfl) ?_
      refine lv_aload_n hx hb dX1_takeLowest_3 rfl (lv_at hl 0 rfl) ?_
      refine va_get (D := G.1) (ci := 2) (v := .ref d2) (C := RX1) (T := TX1) (N := 2) hx hb hts i_X1 hown hK hP 0 rfl rfl 1 (by decide) f_15 (fun _ h9 => h9) rfl dX1_takeLowest_4 ?_
      refine x_alen hx hb hK hP 1 0 rfl rfl dX1_takeLowest_7 ?_
      refine x_icmp_ge hx hb (tgt := 36) (a := i) (b := 40) (by omega) (by omega) dX1_takeLowest_8 (by decide) (fun c_8 => ?_) (fun c_8 => ?_)
      · exact absurd h (by rw [cFree_zero (fun j hj => hno j (by omega))]; omega)
      · refine lv_aload_n hx hb dX1_takeLowest_11 rfl (lv_at hl 0 rfl) ?_
        refine va_get (D := G.1) (ci := 2) (v := .ref d2) (C := RX1) (T := TX1) (N := 2) hx hb hts i_X1 hown hK hP 0 rfl rfl 1 (by decide) f_15 (fun _ h9 => h9) rfl dX1_takeLowest_12 ?_
        refine lv_iload_n hx hb dX1_takeLowest_15 rfl (lv_at hl 2 rfl) ?_
        refine x_iald hx hb hK hP 1 rfl i (by omega) (by decide) dX1_takeLowest_16 ?_
        refine lv_iconst (v := (-1)) hx hb dX1_takeLowest_17 (by decide) ?_
        refine lv_icmp_ne hx hb (tgt := 30) dX1_takeLowest_18 (by decide) (fun c_18 => ?_) (fun c_18 => ?_)
        · refine lv_iinc (v := nI (i + 1)) (lv' := [(2, .int (nI (i + 1))), (0, .ref d0), (1, .int x)]) hx hb dX1_takeLowest_30 hl (k := 2) rfl (x_inc _) (by decide) rfl (fun ls hl => ?_)
          refine lv_goto (tgt := 2) hx hb dX1_takeLowest_33 (by decide) ?_
          exact ih2 (i + 1) (by omega) (by omega) (fun j hj => (Nat.lt_succ_iff_lt_or_eq.mp hj).elim (hno j) (fun q => q ▸ c_18)) _ _ hP hD hS ls (lv_sub hl [1, 2, 0] rfl)
        · have elow : low g = i := low_is (by omega) c_18 hno
          refine lv_aload_n hx hb dX1_takeLowest_21 rfl (lv_at hl 0 rfl) ?_
          refine va_get (D := G.1) (ci := 2) (v := .ref d2) (C := RX1) (T := TX1) (N := 2) hx hb hts i_X1 hown hK hP 0 rfl rfl 1 (by decide) f_15 (fun _ h9 => h9) rfl dX1_takeLowest_22 ?_
          refine lv_iload_n hx hb dX1_takeLowest_25 rfl (lv_at hl 2 rfl) ?_
          refine lv_iload_n hx hb dX1_takeLowest_26 rfl (lv_at hl 1 rfl) ?_
          refine x_iast hx hb hK hP hD hS 1 rfl i (by omega) (by decide) dX1_takeLowest_27 (fun H locs hP hD hS => ?_)
          have hP : va_P G.1 vwCl [(d0, .inr (2, [.ref d1, .ref d2])), (d2, .inl (G.2 0, 40, .inl (upd g i x)))] H := hP
          have hD : va_D A [(d0, .inr (2, [.ref d1, .ref d2])), (d2, .inl (G.2 0, 40, .inl (upd g i x)))] := hD
          refine lv_iload_n hx hb dX1_takeLowest_28 rfl (lv_at hl 2 rfl) ?_
          have hP : va_P G.1 vwCl [(d0, .inr (2, [.ref d1, .ref d2])), (d2, .inl (G.2 0, 40, .inl (upd g (low g) x)))] H := by rw [elow]; exact hP
          exact x_iret hx hb hr (by rw [elow]) hP hS dX1_takeLowest_29 hlk
  exact loop2 _ 0 (Nat.lt_succ_self _) (by omega) (fun j hj => absurd hj (Nat.not_lt_zero j)) _ _ hP hD hS ls (lv_sub hl [1, 2, 0] rfl)

set_option maxHeartbeats 4000000 in
set_option maxRecDepth 100000 in
theorem c_X1_release (l : Launch) (G : xG) (d0 : Nat) (d1 : Nat) (d2 : Nat) (h0 : Nat) (h1 : Nat) (n : Nat) (f : Nat → Int32) (g : Nat → Int32) (ch : Nat → Nat) (hn : n ≤ 8) (hf : isCh f n ch) : xMet l G yX1_release wsX1_release ({ frames := 1, cells := 0, slots := 0, locals := 21 } : Room) [.ref d0, .ref h0] [(d0, .inr (2, [.ref d1, .ref d2])), (d2, .inl (G.2 0, 40, .inl g)), (h0, .inr (1, [.ref h1, .int (nI n)])), (h1, .inl (G.2 0, 8, .inl f))] none [(d0, .inr (2, [.ref d1, .ref d2])), (d2, .inl (G.2 0, 40, .inl (relN g ch n))), (h0, .inr (1, [.ref h1, .int (nI n)])), (h1, .inl (G.2 0, 8, .inl f))] := by
  refine x_of (cc := cX1_release) (maxL := 4) (ret := none) (by decide +kernel) rfl (Nat.le_of_ble_eq_true rfl) ?_
  intro p e s m below meth c A ls hx hb hml hown hts hr hlk hP hD hK hN hA hS hl
  have i_X0 : ∀ w ∈ wsX00, w ∈ wsX1_release := by decide +kernel
  have i_X1 : ∀ w ∈ wsX10, w ∈ wsX1_release := by decide +kernel
  have f_15 := hts (.fieldLink RX1 15 "GraveyardReader$Disk" "holders" "[I") (by decide +kernel)
  have f_24 : (Cond.fieldLinkNest RX1 24 "GraveyardReader$ClusterRow" "size" "I" "GraveyardReader").before [.ref d0, .ref h0].toArray s = true := va_Nw.use rfl (hN _ (by decide +kernel))
  have hl : lv_has ls 4 [(0, .ref d0), (1, .ref h0)] := hl
  have hP : va_P G.1 vwCl [(d0, .inr (2, [.ref d1, .ref d2])), (d2, .inl (G.2 0, 40, .inl g)), (h0, .inr (1, [.ref h1, .int (nI n)])), (h1, .inl (G.2 0, 8, .inl f))] s.heap := hP
  refine lv_iconst (v := nI 0) hx hb dX1_release_0 (by decide) ?_
  refine lv_istore_n (lv' := [(2, .int (nI 0)), (0, .ref d0), (1, .ref h0)]) hx hb dX1_release_1 rfl hl (by decide) rfl (fun ls hl => ?_)
  have loop2 : ∀ (n9 : Nat) (i : Nat), n - i < n9 → (i ≤ n) → ∀ (H : Heap) (locs : List Loc), va_P G.1 vwCl [(d0, .inr (2, [.ref d1, .ref d2])), (d2, .inl (G.2 0, 40, .inl (relN g ch i))), (h0, .inr (1, [.ref h1, .int (nI n)])), (h1, .inl (G.2 0, 8, .inl f))] H → va_D A [(d0, .inr (2, [.ref d1, .ref d2])), (d2, .inl (G.2 0, 40, .inl (relN g ch i))), (h0, .inr (1, [.ref h1, .int (nI n)])), (h1, .inl (G.2 0, 8, .inl f))] → va_S A s.heap H locs → ∀ (ls : Array Slot), lv_has ls 4 [(0, .ref d0), (1, .ref h0), (2, .int (nI i))] → xW p l e wsX1_release ({ frames := 1, cells := 0, slots := 0, locals := 21 } : Room) s m [.ref d0, .ref h0] below meth c G none [(d0, .inr (2, [.ref d1, .ref d2])), (d2, .inl (G.2 0, 40, .inl (relN g ch n))), (h0, .inr (1, [.ref h1, .int (nI n)])), (h1, .inl (G.2 0, 8, .inl f))] A H locs (F0 m 2 ls []) := by
    intro n9
    induction n9 with
    | zero => intro i h9; exact absurd h9 (Nat.not_lt_zero _)
    | succ n9 ih2 =>
      intro i h9 hi H locs hP hD hS ls hl
      refine lv_iload_n hx hb dX1_release_2 rfl (lv_at hl 2 rfl) ?_
      refine lv_aload_n hx hb dX1_release_3 rfl (lv_at hl 1 rfl) ?_
      refine va_getN (D := G.1) (ci := 1) (v := .int (nI n)) (C := RX0) (T := TX0) (N := 2) hx hb hts i_X0 hown hK hP 2 rfl rfl 1 (by decide) f_24 (fun _ h9 => h9) rfl dX1_release_4 ?_
      refine x_icmp_ge hx hb (tgt := 42) (a := i) (b := n) (by omega) (by omega) dX1_release_7 (by decide) (fun c_7 => ?_) (fun c_7 => ?_)
      · have e9 : n = i := by omega
        subst e9
        have hP : va_P G.1 vwCl [(d0, .inr (2, [.ref d1, .ref d2])), (d2, .inl (G.2 0, 40, .inl (relN g ch n))), (h0, .inr (1, [.ref h1, .int (nI n)])), (h1, .inl (G.2 0, 8, .inl f))] H := by exact hP
        exact x_vret hx hb hr hP hS dX1_release_42 hlk
      · refine lv_aload_n hx hb dX1_release_10 rfl (lv_at hl 1 rfl) ?_
        refine lv_iload_n hx hb dX1_release_11 rfl (lv_at hl 2 rfl) ?_
        refine x_callV (As := [.int (nI i)]) (rest := []) (w9 := [(d0, .inr (2, [.ref d1, .ref d2])), (d2, .inl (G.2 0, 40, .inl (relN g ch i))), (h0, .inr (1, [.ref h1, .int (nI n)])), (h1, .inl (G.2 0, 8, .inl f))]) ⟨hx, hb, hml, hown, hts⟩ (c_X0_at l G h0 h1 n f i hn (by omega)) (cwV 1 hts gX1_release_X0_at rfl rfl rfl (by decide +kernel) ⟨Nat.le_of_ble_eq_true rfl, Nat.le_of_ble_eq_true rfl⟩) hK hN hP hD hS hA [2, 3] (by decide) rfl rfl 2 rfl rfl rfl hl.1 rfl (Nat.le_of_ble_eq_true rfl) dX1_release_12 ⟨Nat.le_of_ble_eq_true rfl, Nat.le_of_ble_eq_true rfl⟩ rfl (fun H locs hP hD hS => ?_)
        refine W.eq (g2 := F0 m 15 ls [.int (if i < n then f i else (-1))]) rfl ?_
        refine x_top (y := nI (ch i)) (by rw [if_pos (by omega)]; exact (hf i (by omega)).1) ?_
        have hc := (hf i (by omega)).2
        refine lv_istore_n (lv' := [(3, .int (nI (ch i))), (0, .ref d0), (1, .ref h0), (2, .int (nI i))]) hx hb dX1_release_15 rfl hl (by decide) rfl (fun ls hl => ?_)
        refine lv_iload_n hx hb dX1_release_16 rfl (lv_at hl 0 rfl) ?_
        refine x_if_lt hx hb (tgt := 36) (a := ch i) (by omega) dX1_release_17 (by decide) ?_
        refine lv_iload_n hx hb dX1_release_20 rfl (lv_at hl 0 rfl) ?_
        refine lv_aload_n hx hb dX1_release_21 rfl (lv_at hl 1 rfl) ?_
        refine va_get (D := G.1) (ci := 2) (v := .ref d2) (C := RX1) (T := TX1) (N := 2) hx hb hts i_X1 hown hK hP 0 rfl rfl 1 (by decide) f_15 (fun _ h9 => h9) rfl dX1_release_22 ?_
        refine x_alen hx hb hK hP 1 0 rfl rfl dX1_release_25 ?_
        refine x_icmp_ge hx hb (tgt := 36) (a := ch i) (b := 40) (by omega) (by omega) dX1_release_26 (by decide) (fun c_26 => by omega) (fun c_26 => ?_)
        refine lv_aload_n hx hb dX1_release_29 rfl (lv_at hl 1 rfl) ?_
        refine va_get (D := G.1) (ci := 2) (v := .ref d2) (C := RX1) (T := TX1) (N := 2) hx hb hts i_X1 hown hK hP 0 rfl rfl 1 (by decide) f_15 (fun _ h9 => h9) rfl dX1_release_30 ?_
        refine lv_iload_n hx hb dX1_release_33 rfl (lv_at hl 0 rfl) ?_
        refine lv_iconst (v := (-1)) hx hb dX1_release_34 (by decide) ?_
        refine x_iast hx hb hK hP hD hS 1 rfl (ch i) (by omega) (by decide) dX1_release_35 (fun H locs hP hD hS => ?_)
        have hP : va_P G.1 vwCl [(d0, .inr (2, [.ref d1, .ref d2])), (d2, .inl (G.2 0, 40, .inl (upd (relN g ch i) (ch i) ((-1))))), (h0, .inr (1, [.ref h1, .int (nI n)])), (h1, .inl (G.2 0, 8, .inl f))] H := hP
        have hD : va_D A [(d0, .inr (2, [.ref d1, .ref d2])), (d2, .inl (G.2 0, 40, .inl (upd (relN g ch i) (ch i) ((-1))))), (h0, .inr (1, [.ref h1, .int (nI n)])), (h1, .inl (G.2 0, 8, .inl f))] := hD
        refine lv_iinc (v := nI (i + 1)) (lv' := [(2, .int (nI (i + 1))), (3, .int (nI (ch i))), (0, .ref d0), (1, .ref h0)]) hx hb dX1_release_36 hl (k := 3) rfl (x_inc _) (by decide) rfl (fun ls hl => ?_)
        refine lv_goto (tgt := 2) hx hb dX1_release_39 (by decide) ?_
        exact ih2 (i + 1) (by omega) (by omega) _ _ hP hD hS ls (lv_sub hl [2, 3, 0] rfl)
  exact loop2 _ 0 (Nat.lt_succ_self _) (by omega) _ _ hP hD hS ls (lv_sub hl [1, 2, 0] rfl)

set_option maxHeartbeats 4000000 in
set_option maxRecDepth 100000 in
theorem c_X1_read (l : Launch) (G : xG) (d0 : Nat) (d1 : Nat) (d2 : Nat) (num : Nat → Int32) (k : Nat) (q : Nat) (hk : k < 40) (hq : q < 4) : xMet l G yX1_read wsX1_read ({ frames := 0, cells := 0, slots := 0, locals := 0 } : Room) [.ref d0, .int (nI k), .int (nI q)] [(d0, .inr (2, [.ref d1, .ref d2])), (d1, .inl (G.2 0, 160, .inl num))] (some (.int (num (k * 4 + q)))) [(d0, .inr (2, [.ref d1, .ref d2])), (d1, .inl (G.2 0, 160, .inl num))] := by
  refine x_of (cc := cX1_read) (maxL := 4) (ret := (some .int)) (by decide +kernel) rfl (Nat.le_of_ble_eq_true rfl) ?_
  intro p e s m below meth c A ls hx hb hml hown hts hr hlk hP hD hK hN hA hS hl
  have i_X1 : ∀ w ∈ wsX10, w ∈ wsX1_read := by decide +kernel
  have f_9 := hts (.fieldLink RX1 9 "GraveyardReader$Disk" "numbers" "[I") (by decide +kernel)
  have hl : lv_has ls 4 [(0, .ref d0), (1, .int (nI k)), (2, .int (nI q))] := hl
  have hP : va_P G.1 vwCl [(d0, .inr (2, [.ref d1, .ref d2])), (d1, .inl (G.2 0, 160, .inl num))] s.heap := hP
  refine lv_iload_n hx hb dX1_read_0 rfl (lv_at hl 1 rfl) ?_
  refine lv_iconst (v := nI 4) hx hb dX1_read_1 (by decide) ?_
  refine lv_imul hx hb dX1_read_2 ?_
  refine x_top (y := nI (k * 4)) (pk_mul _ _) ?_
  refine lv_iload_n hx hb dX1_read_3 rfl (lv_at hl 2 rfl) ?_
  refine lv_iadd hx hb dX1_read_4 ?_
  refine x_top (y := nI ((k * 4) + q)) (nI_add _ _) ?_
  refine lv_istore_n (lv' := [(3, .int (nI ((k * 4) + q))), (0, .ref d0), (1, .int (nI k)), (2, .int (nI q))]) hx hb dX1_read_5 rfl hl (by decide) rfl (fun ls hl => ?_)
  refine lv_iload_n hx hb dX1_read_6 rfl (lv_at hl 0 rfl) ?_
  refine x_if_lt hx hb (tgt := 28) (a := (k * 4) + q) (by omega) dX1_read_7 (by decide) ?_
  refine lv_iload_n hx hb dX1_read_10 rfl (lv_at hl 0 rfl) ?_
  refine lv_aload_n hx hb dX1_read_11 rfl (lv_at hl 1 rfl) ?_
  refine va_get (D := G.1) (ci := 2) (v := .ref d1) (C := RX1) (T := TX1) (N := 2) hx hb hts i_X1 hown hK hP 0 rfl rfl 0 (by decide) f_9 (fun _ h9 => h9) rfl dX1_read_12 ?_
  refine x_alen hx hb hK hP 1 0 rfl rfl dX1_read_15 ?_
  refine x_icmp_ge hx hb (tgt := 28) (a := (k * 4) + q) (b := 160) (by omega) (by omega) dX1_read_16 (by decide) (fun c_16 => by omega) (fun c_16 => ?_)
  refine lv_aload_n hx hb dX1_read_19 rfl (lv_at hl 1 rfl) ?_
  refine va_get (D := G.1) (ci := 2) (v := .ref d1) (C := RX1) (T := TX1) (N := 2) hx hb hts i_X1 hown hK hP 0 rfl rfl 0 (by decide) f_9 (fun _ h9 => h9) rfl dX1_read_20 ?_
  refine lv_iload_n hx hb dX1_read_23 rfl (lv_at hl 0 rfl) ?_
  refine x_iald hx hb hK hP 1 rfl ((k * 4) + q) (by omega) (by decide) dX1_read_24 ?_
  refine lv_goto (tgt := 29) hx hb dX1_read_25 (by decide) ?_
  exact x_iret hx hb hr rfl hP hS dX1_read_29 hlk

set_option maxHeartbeats 4000000 in
set_option maxRecDepth 100000 in
theorem c_X1_readAlong (l : Launch) (G : xG) (d0 : Nat) (d1 : Nat) (d2 : Nat) (h0 : Nat) (h1 : Nat) (n : Nat) (f : Nat → Int32) (num : Nat → Int32) (ch : Nat → Nat) (i : Nat) (hn : n ≤ 8) (hf : isCh f n ch) (hi : i < n * 4) : xMet l G yX1_readAlong wsX1_readAlong ({ frames := 1, cells := 0, slots := 0, locals := 23 } : Room) [.ref d0, .ref h0, .int (nI i)] [(d0, .inr (2, [.ref d1, .ref d2])), (d1, .inl (G.2 0, 160, .inl num)), (h0, .inr (1, [.ref h1, .int (nI n)])), (h1, .inl (G.2 0, 8, .inl f))] (some (.int (alongN num ch i))) [(d0, .inr (2, [.ref d1, .ref d2])), (d1, .inl (G.2 0, 160, .inl num)), (h0, .inr (1, [.ref h1, .int (nI n)])), (h1, .inl (G.2 0, 8, .inl f))] := by
  refine x_of (cc := cX1_readAlong) (maxL := 3) (ret := (some .int)) (by decide +kernel) rfl (Nat.le_of_ble_eq_true rfl) ?_
  intro p e s m below meth c A ls hx hb hml hown hts hr hlk hP hD hK hN hA hS hl
  have hl : lv_has ls 3 [(0, .ref d0), (1, .ref h0), (2, .int (nI i))] := hl
  have hP : va_P G.1 vwCl [(d0, .inr (2, [.ref d1, .ref d2])), (d1, .inl (G.2 0, 160, .inl num)), (h0, .inr (1, [.ref h1, .int (nI n)])), (h1, .inl (G.2 0, 8, .inl f))] s.heap := hP
  have hi9 : i < 32 := by omega
  refine lv_aload_n hx hb dX1_readAlong_0 rfl (lv_at hl 0 rfl) ?_
  refine lv_aload_n hx hb dX1_readAlong_1 rfl (lv_at hl 1 rfl) ?_
  refine lv_iload_n hx hb dX1_readAlong_2 rfl (lv_at hl 2 rfl) ?_
  refine lv_iconst (v := nI 4) hx hb dX1_readAlong_3 (by decide) ?_
  refine x_idiv hx hb (a := i) (d := 4) (by omega) (by omega) (by omega) dX1_readAlong_4 ?_
  refine x_callV (As := [.int (nI (i / 4))]) (rest := [.ref d0]) (w9 := [(d0, .inr (2, [.ref d1, .ref d2])), (d1, .inl (G.2 0, 160, .inl num)), (h0, .inr (1, [.ref h1, .int (nI n)])), (h1, .inl (G.2 0, 8, .inl f))]) ⟨hx, hb, hml, hown, hts⟩ (c_X0_at l G h0 h1 n f (i / 4) hn (by omega)) (cwV 1 hts gX1_readAlong_X0_at rfl rfl rfl (by decide +kernel) ⟨Nat.le_of_ble_eq_true rfl, Nat.le_of_ble_eq_true rfl⟩) hK hN hP hD hS hA [2, 3] (by decide) rfl rfl 2 rfl rfl rfl hl.1 rfl (Nat.le_of_ble_eq_true rfl) dX1_readAlong_5 ⟨Nat.le_of_ble_eq_true rfl, Nat.le_of_ble_eq_true rfl⟩ rfl (fun H locs hP hD hS => ?_)
  refine W.eq (g2 := F0 m 8 ls [.int (if (i / 4) < n then f (i / 4) else (-1)), .ref d0]) rfl ?_
  refine x_top (y := nI (ch (i / 4))) (by rw [if_pos (by omega)]; exact (hf (i / 4) (by omega)).1) ?_
  have hc := (hf (i / 4) (by omega)).2
  refine lv_iload_n hx hb dX1_readAlong_8 rfl (lv_at hl 2 rfl) ?_
  refine lv_iconst (v := nI 4) hx hb dX1_readAlong_9 (by decide) ?_
  refine x_irem hx hb (a := i) (d := 4) (by omega) (by omega) (by omega) dX1_readAlong_10 ?_
  refine x_callV (As := [.int (nI (ch (i / 4))), .int (nI (i % 4))]) (rest := []) (w9 := [(d0, .inr (2, [.ref d1, .ref d2])), (d1, .inl (G.2 0, 160, .inl num)), (h0, .inr (1, [.ref h1, .int (nI n)])), (h1, .inl (G.2 0, 8, .inl f))]) ⟨hx, hb, hml, hown, hts⟩ (c_X1_read l G d0 d1 d2 num (ch (i / 4)) (i % 4) (by omega) (by omega)) (cwV 2 hts gX1_readAlong_X1_read rfl rfl rfl (by decide +kernel) ⟨Nat.le_of_ble_eq_true rfl, Nat.le_of_ble_eq_true rfl⟩) hK hN hP hD hS hA [0, 1] (by decide) rfl rfl 0 rfl rfl rfl hl.1 rfl (Nat.le_of_ble_eq_true rfl) dX1_readAlong_11 ⟨Nat.le_of_ble_eq_true rfl, Nat.le_of_ble_eq_true rfl⟩ rfl (fun H locs hP hD hS => ?_)
  refine W.eq (g2 := F0 m 14 ls [.int (num ((ch (i / 4)) * 4 + (i % 4)))]) rfl ?_
  exact x_iret hx hb hr rfl hP hS dX1_readAlong_14 hlk

set_option maxHeartbeats 4000000 in
set_option maxRecDepth 100000 in
theorem c_X1_writeAlong (l : Launch) (G : xG) (d0 : Nat) (d1 : Nat) (d2 : Nat) (h0 : Nat) (h1 : Nat) (n : Nat) (f : Nat → Int32) (num : Nat → Int32) (ch : Nat → Nat) (i : Nat) (x : Int32) (hn : n ≤ 8) (hf : isCh f n ch) (hi : i < n * 4) : xMet l G yX1_writeAlong wsX1_writeAlong ({ frames := 1, cells := 0, slots := 0, locals := 21 } : Room) [.ref d0, .ref h0, .int (nI i), .int x] [(d0, .inr (2, [.ref d1, .ref d2])), (d1, .inl (G.2 0, 160, .inl num)), (h0, .inr (1, [.ref h1, .int (nI n)])), (h1, .inl (G.2 0, 8, .inl f))] none [(d0, .inr (2, [.ref d1, .ref d2])), (d1, .inl (G.2 0, 160, .inl (upd num (ch (i / 4) * 4 + i % 4) x))), (h0, .inr (1, [.ref h1, .int (nI n)])), (h1, .inl (G.2 0, 8, .inl f))] := by
  refine x_of (cc := cX1_writeAlong) (maxL := 5) (ret := none) (by decide +kernel) rfl (Nat.le_of_ble_eq_true rfl) ?_
  intro p e s m below meth c A ls hx hb hml hown hts hr hlk hP hD hK hN hA hS hl
  have i_X1 : ∀ w ∈ wsX10, w ∈ wsX1_writeAlong := by decide +kernel
  have f_9 := hts (.fieldLink RX1 9 "GraveyardReader$Disk" "numbers" "[I") (by decide +kernel)
  have hl : lv_has ls 5 [(0, .ref d0), (1, .ref h0), (2, .int (nI i)), (3, .int x)] := hl
  have hP : va_P G.1 vwCl [(d0, .inr (2, [.ref d1, .ref d2])), (d1, .inl (G.2 0, 160, .inl num)), (h0, .inr (1, [.ref h1, .int (nI n)])), (h1, .inl (G.2 0, 8, .inl f))] s.heap := hP
  have hi9 : i < 32 := by omega
  refine lv_aload_n hx hb dX1_writeAlong_0 rfl (lv_at hl 1 rfl) ?_
  refine lv_iload_n hx hb dX1_writeAlong_1 rfl (lv_at hl 2 rfl) ?_
  refine lv_iconst (v := nI 4) hx hb dX1_writeAlong_2 (by decide) ?_
  refine x_idiv hx hb (a := i) (d := 4) (by omega) (by omega) (by omega) dX1_writeAlong_3 ?_
  refine x_callV (As := [.int (nI (i / 4))]) (rest := []) (w9 := [(d0, .inr (2, [.ref d1, .ref d2])), (d1, .inl (G.2 0, 160, .inl num)), (h0, .inr (1, [.ref h1, .int (nI n)])), (h1, .inl (G.2 0, 8, .inl f))]) ⟨hx, hb, hml, hown, hts⟩ (c_X0_at l G h0 h1 n f (i / 4) hn (by omega)) (cwV 1 hts gX1_writeAlong_X0_at rfl rfl rfl (by decide +kernel) ⟨Nat.le_of_ble_eq_true rfl, Nat.le_of_ble_eq_true rfl⟩) hK hN hP hD hS hA [2, 3] (by decide) rfl rfl 2 rfl rfl rfl hl.1 rfl (Nat.le_of_ble_eq_true rfl) dX1_writeAlong_4 ⟨Nat.le_of_ble_eq_true rfl, Nat.le_of_ble_eq_true rfl⟩ rfl (fun H locs hP hD hS => ?_)
  refine W.eq (g2 := F0 m 7 ls [.int (if (i / 4) < n then f (i / 4) else (-1))]) rfl ?_
  refine x_top (y := nI (ch (i / 4))) (by rw [if_pos (by omega)]; exact (hf (i / 4) (by omega)).1) ?_
  have hc := (hf (i / 4) (by omega)).2
  refine lv_iconst (v := nI 4) hx hb dX1_writeAlong_7 (by decide) ?_
  refine lv_imul hx hb dX1_writeAlong_8 ?_
  refine x_top (y := nI ((ch (i / 4)) * 4)) (pk_mul _ _) ?_
  refine lv_iload_n hx hb dX1_writeAlong_9 rfl (lv_at hl 2 rfl) ?_
  refine lv_iconst (v := nI 4) hx hb dX1_writeAlong_10 (by decide) ?_
  refine x_irem hx hb (a := i) (d := 4) (by omega) (by omega) (by omega) dX1_writeAlong_11 ?_
  refine lv_iadd hx hb dX1_writeAlong_12 ?_
  refine x_top (y := nI (((ch (i / 4)) * 4) + (i % 4))) (nI_add _ _) ?_
  refine lv_istore (lv' := [(4, .int (nI (((ch (i / 4)) * 4) + (i % 4)))), (0, .ref d0), (1, .ref h0), (2, .int (nI i)), (3, .int x)]) hx hb dX1_writeAlong_13 hl (by decide) rfl (fun ls hl => ?_)
  refine lv_iload hx hb dX1_writeAlong_15 (lv_at hl 0 rfl) ?_
  refine x_if_lt hx hb (tgt := 38) (a := ((ch (i / 4)) * 4) + (i % 4)) (by omega) dX1_writeAlong_17 (by decide) ?_
  refine lv_iload hx hb dX1_writeAlong_20 (lv_at hl 0 rfl) ?_
  refine lv_aload_n hx hb dX1_writeAlong_22 rfl (lv_at hl 1 rfl) ?_
  refine va_get (D := G.1) (ci := 2) (v := .ref d1) (C := RX1) (T := TX1) (N := 2) hx hb hts i_X1 hown hK hP 0 rfl rfl 0 (by decide) f_9 (fun _ h9 => h9) rfl dX1_writeAlong_23 ?_
  refine x_alen hx hb hK hP 1 0 rfl rfl dX1_writeAlong_26 ?_
  refine x_icmp_ge hx hb (tgt := 38) (a := ((ch (i / 4)) * 4) + (i % 4)) (b := 160) (by omega) (by omega) dX1_writeAlong_27 (by decide) (fun c_27 => by omega) (fun c_27 => ?_)
  refine lv_aload_n hx hb dX1_writeAlong_30 rfl (lv_at hl 1 rfl) ?_
  refine va_get (D := G.1) (ci := 2) (v := .ref d1) (C := RX1) (T := TX1) (N := 2) hx hb hts i_X1 hown hK hP 0 rfl rfl 0 (by decide) f_9 (fun _ h9 => h9) rfl dX1_writeAlong_31 ?_
  refine lv_iload hx hb dX1_writeAlong_34 (lv_at hl 0 rfl) ?_
  refine lv_iload_n hx hb dX1_writeAlong_36 rfl (lv_at hl 4 rfl) ?_
  refine x_iast hx hb hK hP hD hS 1 rfl (((ch (i / 4)) * 4) + (i % 4)) (by omega) (by decide) dX1_writeAlong_37 (fun H locs hP hD hS => ?_)
  have hP : va_P G.1 vwCl [(d0, .inr (2, [.ref d1, .ref d2])), (d1, .inl (G.2 0, 160, .inl (upd num (((ch (i / 4)) * 4) + (i % 4)) x))), (h0, .inr (1, [.ref h1, .int (nI n)])), (h1, .inl (G.2 0, 8, .inl f))] H := hP
  have hD : va_D A [(d0, .inr (2, [.ref d1, .ref d2])), (d1, .inl (G.2 0, 160, .inl (upd num (((ch (i / 4)) * 4) + (i % 4)) x))), (h0, .inr (1, [.ref h1, .int (nI n)])), (h1, .inl (G.2 0, 8, .inl f))] := hD
  have hP : va_P G.1 vwCl [(d0, .inr (2, [.ref d1, .ref d2])), (d1, .inl (G.2 0, 160, .inl (upd num (ch (i / 4) * 4 + i % 4) x))), (h0, .inr (1, [.ref h1, .int (nI n)])), (h1, .inl (G.2 0, 8, .inl f))] H := by exact hP
  exact x_vret hx hb hr hP hS dX1_writeAlong_38 hlk

set_option maxHeartbeats 4000000 in
set_option maxRecDepth 100000 in
theorem c_X1_sumOf (l : Launch) (G : xG) (d0 : Nat) (d1 : Nat) (d2 : Nat) (h0 : Nat) (h1 : Nat) (n : Nat) (f : Nat → Int32) (num : Nat → Int32) (ch : Nat → Nat) (hn : n ≤ 8) (hf : isCh f n ch) : xMet l G yX1_sumOf wsX1_sumOf ({ frames := 2, cells := 0, slots := 0, locals := 45 } : Room) [.ref d0, .ref h0] [(d0, .inr (2, [.ref d1, .ref d2])), (d1, .inl (G.2 0, 160, .inl num)), (h0, .inr (1, [.ref h1, .int (nI n)])), (h1, .inl (G.2 0, 8, .inl f))] (some (.int (r9 (csum num ch (n * 4))))) [(d0, .inr (2, [.ref d1, .ref d2])), (d1, .inl (G.2 0, 160, .inl num)), (h0, .inr (1, [.ref h1, .int (nI n)])), (h1, .inl (G.2 0, 8, .inl f))] := by
  refine x_of (cc := cX1_sumOf) (maxL := 4) (ret := (some .int)) (by decide +kernel) rfl (Nat.le_of_ble_eq_true rfl) ?_
  intro p e s m below meth c A ls hx hb hml hown hts hr hlk hP hD hK hN hA hS hl
  have i_X0 : ∀ w ∈ wsX00, w ∈ wsX1_sumOf := by decide +kernel
  have f_24 : (Cond.fieldLinkNest RX1 24 "GraveyardReader$ClusterRow" "size" "I" "GraveyardReader").before [.ref d0, .ref h0].toArray s = true := va_Nw.use rfl (hN _ (by decide +kernel))
  have hl : lv_has ls 4 [(0, .ref d0), (1, .ref h0)] := hl
  have hP : va_P G.1 vwCl [(d0, .inr (2, [.ref d1, .ref d2])), (d1, .inl (G.2 0, 160, .inl num)), (h0, .inr (1, [.ref h1, .int (nI n)])), (h1, .inl (G.2 0, 8, .inl f))] s.heap := hP
  refine lv_iconst (v := nI 0) hx hb dX1_sumOf_0 (by decide) ?_
  refine lv_istore_n (lv' := [(2, .int (nI 0)), (0, .ref d0), (1, .ref h0)]) hx hb dX1_sumOf_1 rfl hl (by decide) rfl (fun ls hl => ?_)
  refine lv_iconst (v := nI 0) hx hb dX1_sumOf_2 (by decide) ?_
  refine lv_istore_n (lv' := [(3, .int (nI 0)), (2, .int (nI 0)), (0, .ref d0), (1, .ref h0)]) hx hb dX1_sumOf_3 rfl hl (by decide) rfl (fun ls hl => ?_)
  have loop4 : ∀ (n9 : Nat) (i : Nat) (z : Int32), n * 4 - i < n9 → (i ≤ n * 4) → (z = csum num ch i) → ∀ (H : Heap) (locs : List Loc), va_P G.1 vwCl [(d0, .inr (2, [.ref d1, .ref d2])), (d1, .inl (G.2 0, 160, .inl num)), (h0, .inr (1, [.ref h1, .int (nI n)])), (h1, .inl (G.2 0, 8, .inl f))] H → va_D A [(d0, .inr (2, [.ref d1, .ref d2])), (d1, .inl (G.2 0, 160, .inl num)), (h0, .inr (1, [.ref h1, .int (nI n)])), (h1, .inl (G.2 0, 8, .inl f))] → va_S A s.heap H locs → ∀ (ls : Array Slot), lv_has ls 4 [(0, .ref d0), (1, .ref h0), (2, .int z), (3, .int (nI i))] → xW p l e wsX1_sumOf ({ frames := 2, cells := 0, slots := 0, locals := 45 } : Room) s m [.ref d0, .ref h0] below meth c G (some (.int (r9 (csum num ch (n * 4))))) [(d0, .inr (2, [.ref d1, .ref d2])), (d1, .inl (G.2 0, 160, .inl num)), (h0, .inr (1, [.ref h1, .int (nI n)])), (h1, .inl (G.2 0, 8, .inl f))] A H locs (F0 m 4 ls []) := by
    intro n9
    induction n9 with
    | zero => intro i z h9; exact absurd h9 (Nat.not_lt_zero _)
    | succ n9 ih4 =>
      intro i z h9 hi hz H locs hP hD hS ls hl
      refine lv_iload_n hx hb dX1_sumOf_4 rfl (lv_at hl 3 rfl) ?_
      refine lv_aload_n hx hb dX1_sumOf_5 rfl (lv_at hl 1 rfl) ?_
      refine va_getN (D := G.1) (ci := 1) (v := .int (nI n)) (C := RX0) (T := TX0) (N := 2) hx hb hts i_X0 hown hK hP 2 rfl rfl 1 (by decide) f_24 (fun _ h9 => h9) rfl dX1_sumOf_6 ?_
      refine lv_iconst (v := nI 4) hx hb dX1_sumOf_9 (by decide) ?_
      refine lv_imul hx hb dX1_sumOf_10 ?_
      refine x_top (y := nI (n * 4)) (pk_mul _ _) ?_
      refine x_icmp_ge hx hb (tgt := 33) (a := i) (b := n * 4) (by omega) (by omega) dX1_sumOf_11 (by decide) (fun c_11 => ?_) (fun c_11 => ?_)
      · have e9 : i = n * 4 := by omega
        subst e9
        refine lv_iload_n hx hb dX1_sumOf_33 rfl (lv_at hl 2 rfl) ?_
        refine lv_sipush (v := nI 9973) hx hb dX1_sumOf_34 (by decide) ?_
        refine lv_irem hx hb dX1_sumOf_37 (by decide) ?_
        exact x_iret hx hb hr (by rw [hz]; rfl) hP hS dX1_sumOf_38 hlk
      · refine lv_iload_n hx hb dX1_sumOf_14 rfl (lv_at hl 2 rfl) ?_
        refine lv_aload_n hx hb dX1_sumOf_15 rfl (lv_at hl 0 rfl) ?_
        refine lv_aload_n hx hb dX1_sumOf_16 rfl (lv_at hl 1 rfl) ?_
        refine lv_iload_n hx hb dX1_sumOf_17 rfl (lv_at hl 3 rfl) ?_
        refine x_callV (As := [.ref h0, .int (nI i)]) (rest := [.int z]) (w9 := [(d0, .inr (2, [.ref d1, .ref d2])), (d1, .inl (G.2 0, 160, .inl num)), (h0, .inr (1, [.ref h1, .int (nI n)])), (h1, .inl (G.2 0, 8, .inl f))]) ⟨hx, hb, hml, hown, hts⟩ (c_X1_readAlong l G d0 d1 d2 h0 h1 n f num ch i hn hf (by omega)) (cwV 2 hts gX1_sumOf_X1_readAlong rfl rfl rfl (by decide +kernel) ⟨Nat.le_of_ble_eq_true rfl, Nat.le_of_ble_eq_true rfl⟩) hK hN hP hD hS hA [0, 1, 2, 3] (by decide) rfl rfl 0 rfl rfl rfl hl.1 rfl (Nat.le_of_ble_eq_true rfl) dX1_sumOf_18 ⟨Nat.le_of_ble_eq_true rfl, Nat.le_of_ble_eq_true rfl⟩ rfl (fun H locs hP hD hS => ?_)
        refine W.eq (g2 := F0 m 21 ls [.int (alongN num ch i), .int z]) rfl ?_
        refine lv_iload_n hx hb dX1_sumOf_21 rfl (lv_at hl 3 rfl) ?_
        refine lv_iconst (v := nI 1) hx hb dX1_sumOf_22 (by decide) ?_
        refine lv_iadd hx hb dX1_sumOf_23 ?_
        refine x_top (y := nI (i + 1)) (nI_add _ _) ?_
        refine lv_imul hx hb dX1_sumOf_24 ?_
        refine lv_iadd hx hb dX1_sumOf_25 ?_
        refine lv_istore_n (lv' := [(2, .int (z + ((alongN num ch i) * (nI (i + 1))))), (0, .ref d0), (1, .ref h0), (3, .int (nI i))]) hx hb dX1_sumOf_26 rfl hl (by decide) rfl (fun ls hl => ?_)
        refine lv_iinc (v := nI (i + 1)) (lv' := [(3, .int (nI (i + 1))), (2, .int (z + ((alongN num ch i) * (nI (i + 1))))), (0, .ref d0), (1, .ref h0)]) hx hb dX1_sumOf_27 hl (k := 3) rfl (x_inc _) (by decide) rfl (fun ls hl => ?_)
        refine lv_goto (tgt := 4) hx hb dX1_sumOf_30 (by decide) ?_
        exact ih4 (i + 1) (z + ((alongN num ch i) * (nI (i + 1)))) (by omega) (by omega) (by rw [hz]; rfl) _ _ hP hD hS ls (lv_sub hl [2, 3, 1, 0] rfl)
  exact loop4 _ 0 (nI 0) (Nat.lt_succ_self _) (by omega) rfl _ _ hP hD hS ls (lv_sub hl [2, 3, 1, 0] rfl)
end
section
/-! More pure functions: those of the reference's small methods. -/
def updN (f : Nat → Nat) (k v : Nat) : Nat → Nat := fun j => if j = k then v else f j
def updB (f : Nat → Bool) (k : Nat) (v : Bool) : Nat → Bool := fun j => if j = k then v else f j
theorem x_updN (f : Nat → Nat) (k v : Nat) : upd (fun i9 => nI (f i9)) k (nI v) = fun i9 => nI (updN f k v i9) := by
  funext j
  by_cases h : j = k
  · subst h; rw [pk_us]; simp only [updN, if_pos]
  · rw [pk_un h]; simp only [updN, if_neg h]
theorem x_updB (f : Nat → Bool) (k : Nat) (v : Bool) : upd (fun i9 => bI (f i9)) k (bI v) = fun i9 => bI (updB f k v i9) := by
  funext j
  by_cases h : j = k
  · subst h; rw [pk_us]; simp only [updB, if_pos]
  · rw [pk_un h]; simp only [updB, if_neg h]
theorem updN_s {f : Nat → Nat} {k v : Nat} : updN f k v k = v := if_pos rfl
theorem updN_n {f : Nat → Nat} {k v j : Nat} (h : j ≠ k) : updN f k v j = f j := if_neg h
theorem updB_s {f : Nat → Bool} {k : Nat} {v : Bool} : updB f k v k = v := if_pos rfl
theorem updB_n {f : Nat → Bool} {k j : Nat} {v : Bool} (h : j ≠ k) : updB f k v j = f j := if_neg h
def inR (x lo hi : Int32) : Bool := decide (lo ≤ x ∧ x ≤ hi)
theorem inR_t {x lo hi : Int32} (h : lo ≤ x) (h2 : x ≤ hi) : inR x lo hi = true := decide_eq_true ⟨h, h2⟩
theorem inR_f1 {x lo hi : Int32} (h : x < lo) : inR x lo hi = false := decide_eq_false fun q => absurd h (Int32.not_lt.mpr q.1)
theorem inR_f2 {x lo hi : Int32} (h : hi < x) : inR x lo hi = false := decide_eq_false fun q => absurd h (Int32.not_lt.mpr q.2)
/-- which exception goes -/
def gz (b1 b2 b3 : Bool) : Nat := if b1 then if b2 then if b3 then 0 else 3 else 2 else 1
def prt (num : Nat → Int32) (a r : Nat) : Nat → Int32
  | 0 => 0
  | n + 1 => prt num a r n + num (4 * a + n) * nI (4 * r + n + 1)
def jsum (num : Nat → Int32) (jn : Nat → Nat) : Nat → Int32
  | 0 => 0
  | k + 1 => jsum num jn k + prt num (jn k) k 4
def okJ (num : Nat → Int32) (jn : Nat → Nat) (m : Nat) (su : Int32) : Bool := decide (r9 (jsum num jn m) = su ∧ num (4 * jn (m - 1) + 4 - 1) = nI 254)
def fitN (g : Nat → Int32) (jn : Nat → Nat) (r : Nat) : Nat → Bool
  | 0 => decide (g (jn r) = -1)
  | k + 1 => fitN g jn r k && decide (jn k ≠ jn r)
/-- the clusters of a claim: from c on, n clusters ahead of the disk's end, m wanted -/
def clm (g : Nat → Int32) : Nat → Nat → Nat → List Nat
  | 0, _, _ => []
  | n + 1, m, c => if m = 0 then [] else if g c = -1 then c :: clm g n (m - 1) (c + 1) else clm g n m (c + 1)
def clmD (g : Nat → Int32) (fst m k a : Nat) : List Nat := if g fst = -1 then clm g (40 - k) (m - a) k else []
def claim (g : Nat → Int32) (fst m : Nat) : List Nat := clmD g fst m fst 0
/-- a list laid into an array -/
def lay (f : Nat → Int32) (L : List Nat) : Nat → Int32 := fun j => if j < L.length then nI (L.getD j 0) else f j
theorem lay_nil (f : Nat → Int32) : lay f [] = f := by funext j; simp [lay]
theorem lay_at {f : Nat → Int32} {L : List Nat} {j : Nat} (h : j < L.length) : lay f L j = nI (L.getD j 0) := if_pos h
theorem lay_next {f : Nat → Int32} {L : List Nat} {a k : Nat} (h : L[a]? = some k) : upd (lay f (L.take a)) a (nI k) = lay f (L.take (a + 1)) := by
  have hl : a < L.length := (List.getElem?_eq_some_iff.mp h).1
  funext j
  have h1 : (L.take a).length = a := by rw [List.length_take]; omega
  have h2 : (L.take (a + 1)).length = a + 1 := by rw [List.length_take]; omega
  by_cases e : j = a
  · subst e
    rw [pk_us, lay, if_pos (by omega)]
    rw [List.getD_eq_getElem?_getD, List.getElem?_take_of_lt (by omega), h]
    rfl
  · rw [pk_un e, lay, lay, h1, h2]
    by_cases q : j < a
    · rw [if_pos q, if_pos (by omega), List.getD_eq_getElem?_getD, List.getD_eq_getElem?_getD, List.getElem?_take_of_lt (by omega), List.getElem?_take_of_lt (by omega)]
    · rw [if_neg q, if_neg (by omega)]
theorem clm_m0 (g : Nat → Int32) (n c : Nat) : clm g n 0 c = [] := by cases n <;> simp [clm]
theorem clm_n0 (g : Nat → Int32) (m c : Nat) : clm g 0 m c = [] := by simp [clm]
theorem clm_len (g : Nat → Int32) : ∀ (n m c : Nat), (clm g n m c).length ≤ m
  | 0, m, c => by simp [clm]
  | n + 1, m, c => by
    have h1 := clm_len g n (m - 1) (c + 1)
    have h2 := clm_len g n m (c + 1)
    rw [clm]
    split
    · simp
    · split
      · simp only [List.length_cons]; omega
      · exact h2
theorem clm_in (g : Nat → Int32) : ∀ (n m c x : Nat), x ∈ clm g n m c → c ≤ x ∧ x < c + n ∧ g x = -1
  | 0, m, c, x, h => by simp [clm] at h
  | n + 1, m, c, x, h => by
    have h1 := clm_in g n (m - 1) (c + 1) x
    have h2 := clm_in g n m (c + 1) x
    rw [clm] at h
    split at h
    · simp at h
    · split at h
      · rcases List.mem_cons.mp h with rfl | h
        · exact ⟨Nat.le_refl _, by omega, by assumption⟩
        · have := h1 h; exact ⟨by omega, by omega, this.2.2⟩
      · have := h2 h; exact ⟨by omega, by omega, this.2.2⟩
theorem clmD_40 (g : Nat → Int32) (fst m k a : Nat) (h : 40 ≤ k) : clmD g fst m k a = [] := by
  rw [clmD, Nat.sub_eq_zero_of_le h, clm_n0]; split <;> rfl
theorem clmD_m (g : Nat → Int32) (fst m k a : Nat) (h : m ≤ a) : clmD g fst m k a = [] := by
  rw [clmD, Nat.sub_eq_zero_of_le h, clm_m0]; split <;> rfl
theorem clmD_no {g : Nat → Int32} {fst m k a : Nat} (h : ¬ g fst = -1) : clmD g fst m k a = [] := if_neg h
theorem clmD_t {g : Nat → Int32} {fst m k a : Nat} (h : g fst = -1) (hk : k < 40) (ha : a < m) (h1 : g k = -1) : clmD g fst m k a = k :: clmD g fst m (k + 1) (a + 1) := by
  obtain ⟨n, hn⟩ : ∃ n, 40 - k = n + 1 := ⟨40 - k - 1, by omega⟩
  rw [clmD, clmD, if_pos h, if_pos h, hn, clm, if_neg (by omega), if_pos h1, show 40 - (k + 1) = n by omega, show m - (a + 1) = m - a - 1 by omega]
theorem clmD_f {g : Nat → Int32} {fst m k a : Nat} (h : g fst = -1) (hk : k < 40) (ha : a < m) (h1 : ¬ g k = -1) : clmD g fst m k a = clmD g fst m (k + 1) a := by
  obtain ⟨n, hn⟩ : ∃ n, 40 - k = n + 1 := ⟨40 - k - 1, by omega⟩
  rw [clmD, clmD, if_pos h, if_pos h, hn, clm, if_neg (by omega), if_neg h1, show 40 - (k + 1) = n by omega]
theorem drop_cons {L : List Nat} {a k : Nat} {T : List Nat} (h : L.drop a = k :: T) : L[a]? = some k ∧ L.drop (a + 1) = T := by
  constructor
  · have := congrArg (fun l => l[0]?) h
    simpa using this
  · have := congrArg List.tail h
    simpa [List.tail_drop] using this
theorem drop_nil {L : List Nat} {a : Nat} (h : L.drop a = []) (h2 : a ≤ L.length) : a = L.length := by
  have := List.drop_eq_nil_iff.mp h
  omega
theorem getElem?_len {L : List Nat} {a k : Nat} (h : L[a]? = some k) : a < L.length := (List.getElem?_eq_some_iff.mp h).1
theorem claim_len (g : Nat → Int32) (fst m : Nat) : (claim g fst m).length ≤ m := by
  rw [claim, clmD]
  split
  · exact clm_len g _ _ _
  · simp
theorem claim_in {g : Nat → Int32} {fst m x : Nat} (h : x ∈ claim g fst m) : fst ≤ x ∧ x < 40 ∧ g x = -1 := by
  rw [claim, clmD] at h
  split at h
  · have := clm_in g _ _ _ _ h
    exact ⟨this.1, by omega, this.2.2⟩
  · simp at h
theorem claim_at {g : Nat → Int32} {fst m j : Nat} (h : j < (claim g fst m).length) : (claim g fst m).getD j 0 < 40 ∧ g ((claim g fst m).getD j 0) = -1 := by
  have e : (claim g fst m).getD j 0 = (claim g fst m)[j] := by rw [List.getD_eq_getElem?_getD, List.getElem?_eq_getElem h]; rfl
  rw [e]
  have := claim_in (g := g) (fst := fst) (m := m) (List.getElem_mem h)
  exact ⟨this.2.1, this.2.2⟩
end
section
set_option maxHeartbeats 4000000 in
set_option maxRecDepth 100000 in
theorem c_X5_thrown (l : Launch) (G : xG) (ma : Nat → Nat) (fl : Nat) (tg : Nat) (tn : Nat) (h : tn < 2 ^ 31) : xMet l G yX5_thrown wsX5_thrown ({ frames := 0, cells := 0, slots := 0, locals := 0 } : Room) [.ref (ma 0)] [(ma 0, .inr (6, [.ref (ma 1), .ref (ma 2), .int (nI fl), .ref (ma 3), .ref (ma 4), .ref (ma 5), .ref (ma 6), .ref (ma 7), .ref (ma 8), .int (nI tg), .ref (ma 9), .ref (ma 10), .int (nI tn)]))] (some (.int (nI tn))) [(ma 0, .inr (6, [.ref (ma 1), .ref (ma 2), .int (nI fl), .ref (ma 3), .ref (ma 4), .ref (ma 5), .ref (ma 6), .ref (ma 7), .ref (ma 8), .int (nI tg), .ref (ma 9), .ref (ma 10), .int (nI tn)]))] := by
  refine x_of (cc := cX5_thrown) (maxL := 1) (ret := (some .int)) (by decide +kernel) rfl (Nat.le_of_ble_eq_true rfl) ?_
  intro p e s m below meth c A ls hx hb hml hown hts hr hlk hP hD hK hN hA hS hl
  have i_X5 : ∀ w ∈ wsX50, w ∈ wsX5_thrown := by decide +kernel
  have f_40 := hts (.fieldLink RX5 40 "GraveyardReaderModel" "thrown" "I") (by decide +kernel)
  have hl : lv_has ls 1 [(0, .ref (ma 0))] := hl
  have hP : va_P G.1 vwCl [(ma 0, .inr (6, [.ref (ma 1), .ref (ma 2), .int (nI fl), .ref (ma 3), .ref (ma 4), .ref (ma 5), .ref (ma 6), .ref (ma 7), .ref (ma 8), .int (nI tg), .ref (ma 9), .ref (ma 10), .int (nI tn)]))] s.heap := hP
  refine lv_aload_n hx hb dX5_thrown_0 rfl (lv_at hl 0 rfl) ?_
  refine va_get (D := G.1) (ci := 6) (v := .int (nI tn)) (C := RX5) (T := TX5) (N := 13) hx hb hts i_X5 hown hK hP 0 rfl rfl 12 (by decide) f_40 (fun _ h9 => h9) rfl dX5_thrown_1 ?_
  exact x_iret hx hb hr rfl hP hS dX5_thrown_4 hlk

set_option maxHeartbeats 4000000 in
set_option maxRecDepth 100000 in
theorem c_X5_in (l : Launch) (G : xG) (x : Int32) (lo : Int32) (hi : Int32)  : xMet l G yX5_in wsX5_in ({ frames := 0, cells := 0, slots := 0, locals := 0 } : Room) [.int x, .int lo, .int hi] [] (some (.int (bI (inR x lo hi)))) [] := by
  refine x_of (cc := cX5_in) (maxL := 3) (ret := (some .boolean)) (by decide +kernel) rfl (Nat.le_of_ble_eq_true rfl) ?_
  intro p e s m below meth c A ls hx hb hml hown hts hr hlk hP hD hK hN hA hS hl
  have hl : lv_has ls 3 [(0, .int x), (1, .int lo), (2, .int hi)] := hl
  have hP : va_P G.1 vwCl [] s.heap := hP
  refine lv_iload_n hx hb dX5_in_0 rfl (lv_at hl 0 rfl) ?_
  refine lv_iload_n hx hb dX5_in_1 rfl (lv_at hl 1 rfl) ?_
  refine lv_icmp_lt hx hb (tgt := 14) dX5_in_2 (by decide) (fun c_2 => ?_) (fun c_2 => ?_)
  · refine lv_iconst (v := nI 0) hx hb dX5_in_14 (by decide) ?_
    exact x_zret hx hb hr (by first | (rw [inR_f1 c_2]; rfl) | (rw [inR_f2 c_7]; rfl) | (rw [inR_t (Int32.not_lt.mp c_2) (Int32.not_lt.mp c_7)]; rfl)) (by decide) hP hS dX5_in_15 hlk
  · refine lv_iload_n hx hb dX5_in_5 rfl (lv_at hl 0 rfl) ?_
    refine lv_iload_n hx hb dX5_in_6 rfl (lv_at hl 2 rfl) ?_
    refine lv_icmp_gt hx hb (tgt := 14) dX5_in_7 (by decide) (fun c_7 => ?_) (fun c_7 => ?_)
    · refine lv_iconst (v := nI 0) hx hb dX5_in_14 (by decide) ?_
      exact x_zret hx hb hr (by first | (rw [inR_f1 c_2]; rfl) | (rw [inR_f2 c_7]; rfl) | (rw [inR_t (Int32.not_lt.mp c_2) (Int32.not_lt.mp c_7)]; rfl)) (by decide) hP hS dX5_in_15 hlk
    · refine lv_iconst (v := nI 1) hx hb dX5_in_10 (by decide) ?_
      refine lv_goto (tgt := 15) hx hb dX5_in_11 (by decide) ?_
      exact x_zret hx hb hr (by first | (rw [inR_f1 c_2]; rfl) | (rw [inR_f2 c_7]; rfl) | (rw [inR_t (Int32.not_lt.mp c_2) (Int32.not_lt.mp c_7)]; rfl)) (by decide) hP hS dX5_in_15 hlk

set_option maxHeartbeats 4000000 in
set_option maxRecDepth 100000 in
theorem c_X5_goes (l : Launch) (G : xG) (ma : Nat → Nat) (fl : Nat) (tg : Nat) (tn : Nat) (b1 : Bool) (b2 : Bool) (b3 : Bool)  : xMet l G yX5_goes wsX5_goes ({ frames := 0, cells := 0, slots := 0, locals := 0 } : Room) [.ref (ma 0), .int (bI b1), .int (bI b2), .int (bI b3)] [(ma 0, .inr (6, [.ref (ma 1), .ref (ma 2), .int (nI fl), .ref (ma 3), .ref (ma 4), .ref (ma 5), .ref (ma 6), .ref (ma 7), .ref (ma 8), .int (nI tg), .ref (ma 9), .ref (ma 10), .int (nI tn)]))] (some (.int (bI (b1 && b2 && b3)))) [(ma 0, .inr (6, [.ref (ma 1), .ref (ma 2), .int (nI fl), .ref (ma 3), .ref (ma 4), .ref (ma 5), .ref (ma 6), .ref (ma 7), .ref (ma 8), .int (nI tg), .ref (ma 9), .ref (ma 10), .int (nI (gz b1 b2 b3))]))] := by
  refine x_of (cc := cX5_goes) (maxL := 4) (ret := (some .boolean)) (by decide +kernel) rfl (Nat.le_of_ble_eq_true rfl) ?_
  intro p e s m below meth c A ls hx hb hml hown hts hr hlk hP hD hK hN hA hS hl
  have i_X5 : ∀ w ∈ wsX50, w ∈ wsX5_goes := by decide +kernel
  have f_40 := hts (.fieldLink RX5 40 "GraveyardReaderModel" "thrown" "I") (by decide +kernel)
  have hl : lv_has ls 4 [(0, .ref (ma 0)), (1, .int (bI b1)), (2, .int (bI b2)), (3, .int (bI b3))] := hl
  have hP : va_P G.1 vwCl [(ma 0, .inr (6, [.ref (ma 1), .ref (ma 2), .int (nI fl), .ref (ma 3), .ref (ma 4), .ref (ma 5), .ref (ma 6), .ref (ma 7), .ref (ma 8), .int (nI tg), .ref (ma 9), .ref (ma 10), .int (nI tn)]))] s.heap := hP
  refine lv_aload_n hx hb dX5_goes_0 rfl (lv_at hl 0 rfl) ?_
  refine lv_iload_n hx hb dX5_goes_1 rfl (lv_at hl 1 rfl) ?_
  refine x_bt hx hb (tgt := 9) dX5_goes_2 (by decide) (fun c_2 => ?_) (fun c_2 => ?_)
  · refine lv_iload_n hx hb dX5_goes_9 rfl (lv_at hl 2 rfl) ?_
    refine x_bt hx hb (tgt := 17) dX5_goes_10 (by decide) (fun c_10 => ?_) (fun c_10 => ?_)
    · refine lv_iload_n hx hb dX5_goes_17 rfl (lv_at hl 3 rfl) ?_
      refine x_bt hx hb (tgt := 25) dX5_goes_18 (by decide) (fun c_18 => ?_) (fun c_18 => ?_)
      · refine lv_iconst (v := nI 0) hx hb dX5_goes_25 (by decide) ?_
        refine va_put (D := G.1) (ci := 6) (v := .int (nI 0)) (ty := .int) (C := RX5) (T := TX5) (N := 13) hx hb hts i_X5 tyX5 tyX5_ok nmX5 hown hK hP hD hS 0 rfl rfl 12 (by decide) f_40 (fun _ h9 => h9) rfl (by decide +kernel) rfl rfl (Nat.le_of_ble_eq_true rfl) dX5_goes_26 (fun H locs hP hD hS => ?_)
        have hP : va_P G.1 vwCl [(ma 0, .inr (6, [.ref (ma 1), .ref (ma 2), .int (nI fl), .ref (ma 3), .ref (ma 4), .ref (ma 5), .ref (ma 6), .ref (ma 7), .ref (ma 8), .int (nI tg), .ref (ma 9), .ref (ma 10), .int (nI 0)]))] H := hP
        have hD : va_D A [(ma 0, .inr (6, [.ref (ma 1), .ref (ma 2), .int (nI fl), .ref (ma 3), .ref (ma 4), .ref (ma 5), .ref (ma 6), .ref (ma 7), .ref (ma 8), .int (nI tg), .ref (ma 9), .ref (ma 10), .int (nI 0)]))] := hD
        refine lv_aload_n hx hb dX5_goes_29 rfl (lv_at hl 0 rfl) ?_
        refine va_get (D := G.1) (ci := 6) (v := .int (nI 0)) (C := RX5) (T := TX5) (N := 13) hx hb hts i_X5 hown hK hP 0 rfl rfl 12 (by decide) f_40 (fun _ h9 => h9) rfl dX5_goes_30 ?_
        refine x_if_ne hx hb (tgt := 40) (a := 0) (by omega) dX5_goes_33 (by decide) (fun c_33 => by omega) (fun c_33 => ?_)
        refine lv_iconst (v := nI 1) hx hb dX5_goes_36 (by decide) ?_
        refine lv_goto (tgt := 41) hx hb dX5_goes_37 (by decide) ?_
        have hP : va_P G.1 vwCl [(ma 0, .inr (6, [.ref (ma 1), .ref (ma 2), .int (nI fl), .ref (ma 3), .ref (ma 4), .ref (ma 5), .ref (ma 6), .ref (ma 7), .ref (ma 8), .int (nI tg), .ref (ma 9), .ref (ma 10), .int (nI (gz b1 b2 b3))]))] H := by first | (rw [show gz b1 b2 b3 = 0 from by simp [gz, *]]; exact hP) | (rw [show gz b1 b2 b3 = 1 from by simp [gz, *]]; exact hP) | (rw [show gz b1 b2 b3 = 2 from by simp [gz, *]]; exact hP) | (rw [show gz b1 b2 b3 = 3 from by simp [gz, *]]; exact hP)
        exact x_zret hx hb hr (by simp_all [bI]; rfl) (by decide) hP hS dX5_goes_41 hlk
      · refine lv_iconst (v := nI 3) hx hb dX5_goes_21 (by decide) ?_
        refine lv_goto (tgt := 26) hx hb dX5_goes_22 (by decide) ?_
        refine va_put (D := G.1) (ci := 6) (v := .int (nI 3)) (ty := .int) (C := RX5) (T := TX5) (N := 13) hx hb hts i_X5 tyX5 tyX5_ok nmX5 hown hK hP hD hS 0 rfl rfl 12 (by decide) f_40 (fun _ h9 => h9) rfl (by decide +kernel) rfl rfl (Nat.le_of_ble_eq_true rfl) dX5_goes_26 (fun H locs hP hD hS => ?_)
        have hP : va_P G.1 vwCl [(ma 0, .inr (6, [.ref (ma 1), .ref (ma 2), .int (nI fl), .ref (ma 3), .ref (ma 4), .ref (ma 5), .ref (ma 6), .ref (ma 7), .ref (ma 8), .int (nI tg), .ref (ma 9), .ref (ma 10), .int (nI 3)]))] H := hP
        have hD : va_D A [(ma 0, .inr (6, [.ref (ma 1), .ref (ma 2), .int (nI fl), .ref (ma 3), .ref (ma 4), .ref (ma 5), .ref (ma 6), .ref (ma 7), .ref (ma 8), .int (nI tg), .ref (ma 9), .ref (ma 10), .int (nI 3)]))] := hD
        refine lv_aload_n hx hb dX5_goes_29 rfl (lv_at hl 0 rfl) ?_
        refine va_get (D := G.1) (ci := 6) (v := .int (nI 3)) (C := RX5) (T := TX5) (N := 13) hx hb hts i_X5 hown hK hP 0 rfl rfl 12 (by decide) f_40 (fun _ h9 => h9) rfl dX5_goes_30 ?_
        refine x_if_ne hx hb (tgt := 40) (a := 3) (by omega) dX5_goes_33 (by decide) (fun c_33 => ?_) (fun c_33 => by omega)
        refine lv_iconst (v := nI 0) hx hb dX5_goes_40 (by decide) ?_
        have hP : va_P G.1 vwCl [(ma 0, .inr (6, [.ref (ma 1), .ref (ma 2), .int (nI fl), .ref (ma 3), .ref (ma 4), .ref (ma 5), .ref (ma 6), .ref (ma 7), .ref (ma 8), .int (nI tg), .ref (ma 9), .ref (ma 10), .int (nI (gz b1 b2 b3))]))] H := by first | (rw [show gz b1 b2 b3 = 0 from by simp [gz, *]]; exact hP) | (rw [show gz b1 b2 b3 = 1 from by simp [gz, *]]; exact hP) | (rw [show gz b1 b2 b3 = 2 from by simp [gz, *]]; exact hP) | (rw [show gz b1 b2 b3 = 3 from by simp [gz, *]]; exact hP)
        exact x_zret hx hb hr (by simp_all [bI]; rfl) (by decide) hP hS dX5_goes_41 hlk
    · refine lv_iconst (v := nI 2) hx hb dX5_goes_13 (by decide) ?_
      refine lv_goto (tgt := 26) hx hb dX5_goes_14 (by decide) ?_
      refine va_put (D := G.1) (ci := 6) (v := .int (nI 2)) (ty := .int) (C := RX5) (T := TX5) (N := 13) hx hb hts i_X5 tyX5 tyX5_ok nmX5 hown hK hP hD hS 0 rfl rfl 12 (by decide) f_40 (fun _ h9 => h9) rfl (by decide +kernel) rfl rfl (Nat.le_of_ble_eq_true rfl) dX5_goes_26 (fun H locs hP hD hS => ?_)
      have hP : va_P G.1 vwCl [(ma 0, .inr (6, [.ref (ma 1), .ref (ma 2), .int (nI fl), .ref (ma 3), .ref (ma 4), .ref (ma 5), .ref (ma 6), .ref (ma 7), .ref (ma 8), .int (nI tg), .ref (ma 9), .ref (ma 10), .int (nI 2)]))] H := hP
      have hD : va_D A [(ma 0, .inr (6, [.ref (ma 1), .ref (ma 2), .int (nI fl), .ref (ma 3), .ref (ma 4), .ref (ma 5), .ref (ma 6), .ref (ma 7), .ref (ma 8), .int (nI tg), .ref (ma 9), .ref (ma 10), .int (nI 2)]))] := hD
      refine lv_aload_n hx hb dX5_goes_29 rfl (lv_at hl 0 rfl) ?_
      refine va_get (D := G.1) (ci := 6) (v := .int (nI 2)) (C := RX5) (T := TX5) (N := 13) hx hb hts i_X5 hown hK hP 0 rfl rfl 12 (by decide) f_40 (fun _ h9 => h9) rfl dX5_goes_30 ?_
      refine x_if_ne hx hb (tgt := 40) (a := 2) (by omega) dX5_goes_33 (by decide) (fun c_33 => ?_) (fun c_33 => by omega)
      refine lv_iconst (v := nI 0) hx hb dX5_goes_40 (by decide) ?_
      have hP : va_P G.1 vwCl [(ma 0, .inr (6, [.ref (ma 1), .ref (ma 2), .int (nI fl), .ref (ma 3), .ref (ma 4), .ref (ma 5), .ref (ma 6), .ref (ma 7), .ref (ma 8), .int (nI tg), .ref (ma 9), .ref (ma 10), .int (nI (gz b1 b2 b3))]))] H := by first | (rw [show gz b1 b2 b3 = 0 from by simp [gz, *]]; exact hP) | (rw [show gz b1 b2 b3 = 1 from by simp [gz, *]]; exact hP) | (rw [show gz b1 b2 b3 = 2 from by simp [gz, *]]; exact hP) | (rw [show gz b1 b2 b3 = 3 from by simp [gz, *]]; exact hP)
      exact x_zret hx hb hr (by simp_all [bI]; rfl) (by decide) hP hS dX5_goes_41 hlk
  · refine lv_iconst (v := nI 1) hx hb dX5_goes_5 (by decide) ?_
    refine lv_goto (tgt := 26) hx hb dX5_goes_6 (by decide) ?_
    refine va_put (D := G.1) (ci := 6) (v := .int (nI 1)) (ty := .int) (C := RX5) (T := TX5) (N := 13) hx hb hts i_X5 tyX5 tyX5_ok nmX5 hown hK hP hD hS 0 rfl rfl 12 (by decide) f_40 (fun _ h9 => h9) rfl (by decide +kernel) rfl rfl (Nat.le_of_ble_eq_true rfl) dX5_goes_26 (fun H locs hP hD hS => ?_)
    have hP : va_P G.1 vwCl [(ma 0, .inr (6, [.ref (ma 1), .ref (ma 2), .int (nI fl), .ref (ma 3), .ref (ma 4), .ref (ma 5), .ref (ma 6), .ref (ma 7), .ref (ma 8), .int (nI tg), .ref (ma 9), .ref (ma 10), .int (nI 1)]))] H := hP
    have hD : va_D A [(ma 0, .inr (6, [.ref (ma 1), .ref (ma 2), .int (nI fl), .ref (ma 3), .ref (ma 4), .ref (ma 5), .ref (ma 6), .ref (ma 7), .ref (ma 8), .int (nI tg), .ref (ma 9), .ref (ma 10), .int (nI 1)]))] := hD
    refine lv_aload_n hx hb dX5_goes_29 rfl (lv_at hl 0 rfl) ?_
    refine va_get (D := G.1) (ci := 6) (v := .int (nI 1)) (C := RX5) (T := TX5) (N := 13) hx hb hts i_X5 hown hK hP 0 rfl rfl 12 (by decide) f_40 (fun _ h9 => h9) rfl dX5_goes_30 ?_
    refine x_if_ne hx hb (tgt := 40) (a := 1) (by omega) dX5_goes_33 (by decide) (fun c_33 => ?_) (fun c_33 => by omega)
    refine lv_iconst (v := nI 0) hx hb dX5_goes_40 (by decide) ?_
    have hP : va_P G.1 vwCl [(ma 0, .inr (6, [.ref (ma 1), .ref (ma 2), .int (nI fl), .ref (ma 3), .ref (ma 4), .ref (ma 5), .ref (ma 6), .ref (ma 7), .ref (ma 8), .int (nI tg), .ref (ma 9), .ref (ma 10), .int (nI (gz b1 b2 b3))]))] H := by first | (rw [show gz b1 b2 b3 = 0 from by simp [gz, *]]; exact hP) | (rw [show gz b1 b2 b3 = 1 from by simp [gz, *]]; exact hP) | (rw [show gz b1 b2 b3 = 2 from by simp [gz, *]]; exact hP) | (rw [show gz b1 b2 b3 = 3 from by simp [gz, *]]; exact hP)
    exact x_zret hx hb hr (by simp_all [bI]; rfl) (by decide) hP hS dX5_goes_41 hlk

set_option maxHeartbeats 4000000 in
set_option maxRecDepth 100000 in
theorem c_X5_told (l : Launch) (G : xG) (ma : Nat → Nat) (fl : Nat) (tg : Nat) (tn : Nat) (x : Int32)  : xMet l G yX5_told wsX5_told ({ frames := 0, cells := 0, slots := 0, locals := 0 } : Room) [.ref (ma 0), .int x] [(ma 0, .inr (6, [.ref (ma 1), .ref (ma 2), .int (nI fl), .ref (ma 3), .ref (ma 4), .ref (ma 5), .ref (ma 6), .ref (ma 7), .ref (ma 8), .int (nI tg), .ref (ma 9), .ref (ma 10), .int (nI tn)]))] (some (.int x)) [(ma 0, .inr (6, [.ref (ma 1), .ref (ma 2), .int (nI fl), .ref (ma 3), .ref (ma 4), .ref (ma 5), .ref (ma 6), .ref (ma 7), .ref (ma 8), .int (nI tg), .ref (ma 9), .ref (ma 10), .int (nI 0)]))] := by
  refine x_of (cc := cX5_told) (maxL := 2) (ret := (some .int)) (by decide +kernel) rfl (Nat.le_of_ble_eq_true rfl) ?_
  intro p e s m below meth c A ls hx hb hml hown hts hr hlk hP hD hK hN hA hS hl
  have i_X5 : ∀ w ∈ wsX50, w ∈ wsX5_told := by decide +kernel
  have f_40 := hts (.fieldLink RX5 40 "GraveyardReaderModel" "thrown" "I") (by decide +kernel)
  have hl : lv_has ls 2 [(0, .ref (ma 0)), (1, .int x)] := hl
  have hP : va_P G.1 vwCl [(ma 0, .inr (6, [.ref (ma 1), .ref (ma 2), .int (nI fl), .ref (ma 3), .ref (ma 4), .ref (ma 5), .ref (ma 6), .ref (ma 7), .ref (ma 8), .int (nI tg), .ref (ma 9), .ref (ma 10), .int (nI tn)]))] s.heap := hP
  refine lv_aload_n hx hb dX5_told_0 rfl (lv_at hl 0 rfl) ?_
  refine lv_iconst (v := nI 0) hx hb dX5_told_1 (by decide) ?_
  refine va_put (D := G.1) (ci := 6) (v := .int (nI 0)) (ty := .int) (C := RX5) (T := TX5) (N := 13) hx hb hts i_X5 tyX5 tyX5_ok nmX5 hown hK hP hD hS 0 rfl rfl 12 (by decide) f_40 (fun _ h9 => h9) rfl (by decide +kernel) rfl rfl (Nat.le_of_ble_eq_true rfl) dX5_told_2 (fun H locs hP hD hS => ?_)
  have hP : va_P G.1 vwCl [(ma 0, .inr (6, [.ref (ma 1), .ref (ma 2), .int (nI fl), .ref (ma 3), .ref (ma 4), .ref (ma 5), .ref (ma 6), .ref (ma 7), .ref (ma 8), .int (nI tg), .ref (ma 9), .ref (ma 10), .int (nI 0)]))] H := hP
  have hD : va_D A [(ma 0, .inr (6, [.ref (ma 1), .ref (ma 2), .int (nI fl), .ref (ma 3), .ref (ma 4), .ref (ma 5), .ref (ma 6), .ref (ma 7), .ref (ma 8), .int (nI tg), .ref (ma 9), .ref (ma 10), .int (nI 0)]))] := hD
  refine lv_iload_n hx hb dX5_told_5 rfl (lv_at hl 1 rfl) ?_
  exact x_iret hx hb hr rfl hP hS dX5_told_6 hlk

set_option maxHeartbeats 4000000 in
set_option maxRecDepth 100000 in
theorem c_X5_isFile (l : Launch) (G : xG) (ma : Nat → Nat) (fl : Nat) (tg : Nat) (tn : Nat) (x : Int32)  : xMet l G yX5_isFile wsX5_isFile ({ frames := 1, cells := 0, slots := 0, locals := 22 } : Room) [.ref (ma 0), .int x] [(ma 0, .inr (6, [.ref (ma 1), .ref (ma 2), .int (nI fl), .ref (ma 3), .ref (ma 4), .ref (ma 5), .ref (ma 6), .ref (ma 7), .ref (ma 8), .int (nI tg), .ref (ma 9), .ref (ma 10), .int (nI tn)]))] (some (.int (bI (inR x (nI 0) (nI fl - nI 1))))) [(ma 0, .inr (6, [.ref (ma 1), .ref (ma 2), .int (nI fl), .ref (ma 3), .ref (ma 4), .ref (ma 5), .ref (ma 6), .ref (ma 7), .ref (ma 8), .int (nI tg), .ref (ma 9), .ref (ma 10), .int (nI tn)]))] := by
  refine x_of (cc := cX5_isFile) (maxL := 2) (ret := (some .boolean)) (by decide +kernel) rfl (Nat.le_of_ble_eq_true rfl) ?_
  intro p e s m below meth c A ls hx hb hml hown hts hr hlk hP hD hK hN hA hS hl
  have i_X5 : ∀ w ∈ wsX50, w ∈ wsX5_isFile := by decide +kernel
  have f_44 := hts (.fieldLink RX5 44 "GraveyardReaderModel" "files" "I") (by decide +kernel)
  have hl : lv_has ls 2 [(0, .ref (ma 0)), (1, .int x)] := hl
  have hP : va_P G.1 vwCl [(ma 0, .inr (6, [.ref (ma 1), .ref (ma 2), .int (nI fl), .ref (ma 3), .ref (ma 4), .ref (ma 5), .ref (ma 6), .ref (ma 7), .ref (ma 8), .int (nI tg), .ref (ma 9), .ref (ma 10), .int (nI tn)]))] s.heap := hP
  refine lv_iload_n hx hb dX5_isFile_0 rfl (lv_at hl 1 rfl) ?_
  refine lv_iconst (v := nI 0) hx hb dX5_isFile_1 (by decide) ?_
  refine lv_aload_n hx hb dX5_isFile_2 rfl (lv_at hl 0 rfl) ?_
  refine va_get (D := G.1) (ci := 6) (v := .int (nI fl)) (C := RX5) (T := TX5) (N := 13) hx hb hts i_X5 hown hK hP 0 rfl rfl 2 (by decide) f_44 (fun _ h9 => h9) rfl dX5_isFile_3 ?_
  refine lv_iconst (v := nI 1) hx hb dX5_isFile_6 (by decide) ?_
  refine lv_isub hx hb dX5_isFile_7 ?_
  refine x_callS (As := [.int x, .int (nI 0), .int (nI fl - nI 1)]) (rest := []) (w9 := [(ma 0, .inr (6, [.ref (ma 1), .ref (ma 2), .int (nI fl), .ref (ma 3), .ref (ma 4), .ref (ma 5), .ref (ma 6), .ref (ma 7), .ref (ma 8), .int (nI tg), .ref (ma 9), .ref (ma 10), .int (nI tn)]))]) ⟨hx, hb, hml, hown, hts⟩ (c_X5_in l G x (nI 0) (nI fl - nI 1)) (va_cwS 3 hts gX5_isFile_X5_in rfl rfl rfl (by decide +kernel) ⟨Nat.le_of_ble_eq_true rfl, Nat.le_of_ble_eq_true rfl⟩) hK hN hP hD hS hA [] (by decide) rfl rfl rfl hl.1 rfl (Nat.le_of_ble_eq_true rfl) dX5_isFile_8 ⟨Nat.le_of_ble_eq_true rfl, Nat.le_of_ble_eq_true rfl⟩ rfl (fun H locs hP hD hS => ?_)
  refine W.eq (g2 := F0 m 11 ls [.int (bI (inR x (nI 0) (nI fl - nI 1)))]) rfl ?_
  exact x_zret hx hb hr rfl (bI_01 _) hP hS dX5_isFile_11 hlk

set_option maxHeartbeats 4000000 in
set_option maxRecDepth 100000 in
theorem c_X5_isCluster (l : Launch) (G : xG) (x : Int32)  : xMet l G yX5_isCluster wsX5_isCluster ({ frames := 1, cells := 0, slots := 0, locals := 22 } : Room) [.int x] [] (some (.int (bI (inR x (nI 0) (nI 39))))) [] := by
  refine x_of (cc := cX5_isCluster) (maxL := 1) (ret := (some .boolean)) (by decide +kernel) rfl (Nat.le_of_ble_eq_true rfl) ?_
  intro p e s m below meth c A ls hx hb hml hown hts hr hlk hP hD hK hN hA hS hl
  have hl : lv_has ls 1 [(0, .int x)] := hl
  have hP : va_P G.1 vwCl [] s.heap := hP
  refine lv_iload_n hx hb dX5_isCluster_0 rfl (lv_at hl 0 rfl) ?_
  refine lv_iconst (v := nI 0) hx hb dX5_isCluster_1 (by decide) ?_
  refine lv_bipush (v := nI 39) hx hb dX5_isCluster_2 (by decide) ?_
  refine x_callS (As := [.int x, .int (nI 0), .int (nI 39)]) (rest := []) (w9 := []) ⟨hx, hb, hml, hown, hts⟩ (c_X5_in l G x (nI 0) (nI 39)) (va_cwS 3 hts gX5_isCluster_X5_in rfl rfl rfl (by decide +kernel) ⟨Nat.le_of_ble_eq_true rfl, Nat.le_of_ble_eq_true rfl⟩) hK hN hP hD hS hA [] (by decide) rfl rfl rfl hl.1 rfl (Nat.le_of_ble_eq_true rfl) dX5_isCluster_4 ⟨Nat.le_of_ble_eq_true rfl, Nat.le_of_ble_eq_true rfl⟩ rfl (fun H locs hP hD hS => ?_)
  refine W.eq (g2 := F0 m 7 ls [.int (bI (inR x (nI 0) (nI 39)))]) rfl ?_
  exact x_zret hx hb hr rfl (bI_01 _) hP hS dX5_isCluster_7 hlk

set_option maxHeartbeats 4000000 in
set_option maxRecDepth 100000 in
theorem c_X5_isGone (l : Launch) (G : xG) (ma : Nat → Nat) (fl : Nat) (tg : Nat) (tn : Nat) (gn : Nat → Nat) (i : Nat) (hi : i < 30) (hg : gn i < 2 ^ 31) : xMet l G yX5_isGone wsX5_isGone ({ frames := 0, cells := 0, slots := 0, locals := 0 } : Room) [.ref (ma 0), .int (nI i)] [(ma 0, .inr (6, [.ref (ma 1), .ref (ma 2), .int (nI fl), .ref (ma 3), .ref (ma 4), .ref (ma 5), .ref (ma 6), .ref (ma 7), .ref (ma 8), .int (nI tg), .ref (ma 9), .ref (ma 10), .int (nI tn)])), (ma 5, .inl (G.2 0, 30, .inl (fun i9 => nI (gn i9))))] (some (.int (bI (decide (0 < gn i))))) [(ma 0, .inr (6, [.ref (ma 1), .ref (ma 2), .int (nI fl), .ref (ma 3), .ref (ma 4), .ref (ma 5), .ref (ma 6), .ref (ma 7), .ref (ma 8), .int (nI tg), .ref (ma 9), .ref (ma 10), .int (nI tn)])), (ma 5, .inl (G.2 0, 30, .inl (fun i9 => nI (gn i9))))] := by
  refine x_of (cc := cX5_isGone) (maxL := 2) (ret := (some .boolean)) (by decide +kernel) rfl (Nat.le_of_ble_eq_true rfl) ?_
  intro p e s m below meth c A ls hx hb hml hown hts hr hlk hP hD hK hN hA hS hl
  have i_X5 : ∀ w ∈ wsX50, w ∈ wsX5_isGone := by decide +kernel
  have f_22 := hts (.fieldLink RX5 22 "GraveyardReaderModel" "gone" "[I") (by decide +kernel)
  have hl : lv_has ls 2 [(0, .ref (ma 0)), (1, .int (nI i))] := hl
  have hP : va_P G.1 vwCl [(ma 0, .inr (6, [.ref (ma 1), .ref (ma 2), .int (nI fl), .ref (ma 3), .ref (ma 4), .ref (ma 5), .ref (ma 6), .ref (ma 7), .ref (ma 8), .int (nI tg), .ref (ma 9), .ref (ma 10), .int (nI tn)])), (ma 5, .inl (G.2 0, 30, .inl (fun i9 => nI (gn i9))))] s.heap := hP
  refine lv_aload_n hx hb dX5_isGone_0 rfl (lv_at hl 0 rfl) ?_
  refine va_get (D := G.1) (ci := 6) (v := .ref (ma 5)) (C := RX5) (T := TX5) (N := 13) hx hb hts i_X5 hown hK hP 0 rfl rfl 5 (by decide) f_22 (fun _ h9 => h9) rfl dX5_isGone_1 ?_
  refine lv_iload_n hx hb dX5_isGone_4 rfl (lv_at hl 1 rfl) ?_
  refine x_iald hx hb hK hP 1 rfl i (by omega) (by decide) dX5_isGone_5 ?_
  refine x_if_le hx hb (tgt := 13) (a := gn i) (by omega) dX5_isGone_6 (by decide) (fun c_6 => ?_) (fun c_6 => ?_)
  · refine lv_iconst (v := nI 0) hx hb dX5_isGone_13 (by decide) ?_
    exact x_zret hx hb hr (by first | (rw [decide_eq_true c_6]; rfl) | (rw [decide_eq_false (by omega)]; rfl)) (by decide) hP hS dX5_isGone_14 hlk
  · refine lv_iconst (v := nI 1) hx hb dX5_isGone_9 (by decide) ?_
    refine lv_goto (tgt := 14) hx hb dX5_isGone_10 (by decide) ?_
    exact x_zret hx hb hr (by first | (rw [decide_eq_true c_6]; rfl) | (rw [decide_eq_false (by omega)]; rfl)) (by decide) hP hS dX5_isGone_14 hlk

set_option maxHeartbeats 4000000 in
set_option maxRecDepth 100000 in
theorem c_X5_frees (l : Launch) (G : xG) (ma : Nat → Nat) (fl : Nat) (tg : Nat) (tn : Nat) (g : Nat → Int32)  : xMet l G yX5_frees wsX5_frees ({ frames := 0, cells := 0, slots := 0, locals := 0 } : Room) [.ref (ma 0)] [(ma 0, .inr (6, [.ref (ma 1), .ref (ma 2), .int (nI fl), .ref (ma 3), .ref (ma 4), .ref (ma 5), .ref (ma 6), .ref (ma 7), .ref (ma 8), .int (nI tg), .ref (ma 9), .ref (ma 10), .int (nI tn)])), (ma 2, .inl (G.2 0, 40, .inl g))] (some (.int (nI (cFree g 40)))) [(ma 0, .inr (6, [.ref (ma 1), .ref (ma 2), .int (nI fl), .ref (ma 3), .ref (ma 4), .ref (ma 5), .ref (ma 6), .ref (ma 7), .ref (ma 8), .int (nI tg), .ref (ma 9), .ref (ma 10), .int (nI tn)])), (ma 2, .inl (G.2 0, 40, .inl g))] := by
  refine x_of (cc := cX5_frees) (maxL := 3) (ret := (some .int)) (by decide +kernel) rfl (Nat.le_of_ble_eq_true rfl) ?_
  intro p e s m below meth c A ls hx hb hml hown hts hr hlk hP hD hK hN hA hS hl
  have i_X5 : ∀ w ∈ wsX50, w ∈ wsX5_frees := by decide +kernel
  have f_13 := hts (.fieldLink RX5 13 "GraveyardReaderModel" "owner" "[I") (by decide +kernel)
  have hl : lv_has ls 3 [(0, .ref (ma 0))] := hl
  have hP : va_P G.1 vwCl [(ma 0, .inr (6, [.ref (ma 1), .ref (ma 2), .int (nI fl), .ref (ma 3), .ref (ma 4), .ref (ma 5), .ref (ma 6), .ref (ma 7), .ref (ma 8), .int (nI tg), .ref (ma 9), .ref (ma 10), .int (nI tn)])), (ma 2, .inl (G.2 0, 40, .inl g))] s.heap := hP
  refine lv_iconst (v := nI 0) hx hb dX5_frees_0 (by decide) ?_
  refine lv_istore_n (lv' := [(1, .int (nI 0)), (0, .ref (ma 0))]) hx hb dX5_frees_1 rfl hl (by decide) rfl (fun ls hl => ?_)
  refine lv_iconst (v := nI 0) hx hb dX5_frees_2 (by decide) ?_
  refine lv_istore_n (lv' := [(2, .int (nI 0)), (1, .int (nI 0)), (0, .ref (ma 0))]) hx hb dX5_frees_3 rfl hl (by decide) rfl (fun ls hl => ?_)
  have loop4 : ∀ (n9 : Nat) (i : Nat) (k : Nat), 40 - i < n9 → (i ≤ 40) → (k = cFree g i) → (k ≤ i) → ∀ (H : Heap) (locs : List Loc), va_P G.1 vwCl [(ma 0, .inr (6, [.ref (ma 1), .ref (ma 2), .int (nI fl), .ref (ma 3), .ref (ma 4), .ref (ma 5), .ref (ma 6), .ref (ma 7), .ref (ma 8), .int (nI tg), .ref (ma 9), .ref (ma 10), .int (nI tn)])), (ma 2, .inl (G.2 0, 40, .inl g))] H → va_D A [(ma 0, .inr (6, [.ref (ma 1), .ref (ma 2), .int (nI fl), .ref (ma 3), .ref (ma 4), .ref (ma 5), .ref (ma 6), .ref (ma 7), .ref (ma 8), .int (nI tg), .ref (ma 9), .ref (ma 10), .int (nI tn)])), (ma 2, .inl (G.2 0, 40, .inl g))] → va_S A s.heap H locs → ∀ (ls : Array Slot), lv_has ls 3 [(0, .ref (ma 0)), (1, .int (nI k)), (2, .int (nI i))] → xW p l e wsX5_frees ({ frames := 0, cells := 0, slots := 0, locals := 0 } : Room) s m [.ref (ma 0)] below meth c G (some (.int (nI (cFree g 40)))) [(ma 0, .inr (6, [.ref (ma 1), .ref (ma 2), .int (nI fl), .ref (ma 3), .ref (ma 4), .ref (ma 5), .ref (ma 6), .ref (ma 7), .ref (ma 8), .int (nI tg), .ref (ma 9), .ref (ma 10), .int (nI tn)])), (ma 2, .inl (G.2 0, 40, .inl g))] A H locs (F0 m 4 ls []) := by
    intro n9
    induction n9 with
    | zero => intro i k h9; exact absurd h9 (Nat.not_lt_zero _)
    | succ n9 ih4 =>
      intro i k h9 hi hk hk2 H locs hP hD hS ls hl
      refine lv_iload_n hx hb dX5_frees_4 rfl (lv_at hl 2 rfl) ?_
      refine lv_bipush (v := nI 40) hx hb dX5_frees_5 (by decide) ?_
      refine x_icmp_ge hx hb (tgt := 34) (a := i) (b := 40) (by omega) (by omega) dX5_frees_7 (by decide) (fun c_7 => ?_) (fun c_7 => ?_)
      · have e9 : i = 40 := by omega
        subst e9
        refine lv_iload_n hx hb dX5_frees_34 rfl (lv_at hl 1 rfl) ?_
        exact x_iret hx hb hr (by rw [hk]) hP hS dX5_frees_35 hlk
      · refine lv_iload_n hx hb dX5_frees_10 rfl (lv_at hl 1 rfl) ?_
        refine lv_aload_n hx hb dX5_frees_11 rfl (lv_at hl 0 rfl) ?_
        refine va_get (D := G.1) (ci := 6) (v := .ref (ma 2)) (C := RX5) (T := TX5) (N := 13) hx hb hts i_X5 hown hK hP 0 rfl rfl 1 (by decide) f_13 (fun _ h9 => h9) rfl dX5_frees_12 ?_
        refine lv_iload_n hx hb dX5_frees_15 rfl (lv_at hl 2 rfl) ?_
        refine x_iald hx hb hK hP 1 rfl i (by omega) (by decide) dX5_frees_16 ?_
        refine lv_iconst (v := (-1)) hx hb dX5_frees_17 (by decide) ?_
        refine lv_icmp_ne hx hb (tgt := 25) dX5_frees_18 (by decide) (fun c_18 => ?_) (fun c_18 => ?_)
        · refine lv_iconst (v := nI 0) hx hb dX5_frees_25 (by decide) ?_
          refine lv_iadd hx hb dX5_frees_26 ?_
          refine x_top (y := nI k) (nI_add _ _) ?_
          refine lv_istore_n (lv' := [(1, .int (nI k)), (0, .ref (ma 0)), (2, .int (nI i))]) hx hb dX5_frees_27 rfl hl (by decide) rfl (fun ls hl => ?_)
          refine lv_iinc (v := nI (i + 1)) (lv' := [(2, .int (nI (i + 1))), (1, .int (nI k)), (0, .ref (ma 0))]) hx hb dX5_frees_28 hl (k := 2) rfl (x_inc _) (by decide) rfl (fun ls hl => ?_)
          refine lv_goto (tgt := 4) hx hb dX5_frees_31 (by decide) ?_
          exact ih4 (i + 1) k (by omega) (by omega) (by first | rw [cFree_f c_18, hk] | rw [cFree_t c_18, hk]) (by omega) _ _ hP hD hS ls (lv_sub hl [2, 1, 0] rfl)
        · refine lv_iconst (v := nI 1) hx hb dX5_frees_21 (by decide) ?_
          refine lv_goto (tgt := 26) hx hb dX5_frees_22 (by decide) ?_
          refine lv_iadd hx hb dX5_frees_26 ?_
          refine x_top (y := nI (k + 1)) (nI_add _ _) ?_
          refine lv_istore_n (lv' := [(1, .int (nI (k + 1))), (0, .ref (ma 0)), (2, .int (nI i))]) hx hb dX5_frees_27 rfl hl (by decide) rfl (fun ls hl => ?_)
          refine lv_iinc (v := nI (i + 1)) (lv' := [(2, .int (nI (i + 1))), (1, .int (nI (k + 1))), (0, .ref (ma 0))]) hx hb dX5_frees_28 hl (k := 2) rfl (x_inc _) (by decide) rfl (fun ls hl => ?_)
          refine lv_goto (tgt := 4) hx hb dX5_frees_31 (by decide) ?_
          exact ih4 (i + 1) (k + 1) (by omega) (by omega) (by first | rw [cFree_f c_18, hk] | rw [cFree_t c_18, hk]) (by omega) _ _ hP hD hS ls (lv_sub hl [2, 1, 0] rfl)
  exact loop4 _ 0 0 (Nat.lt_succ_self _) (by omega) rfl (by omega) _ _ hP hD hS ls (lv_sub hl [2, 1, 0] rfl)

set_option maxHeartbeats 4000000 in
set_option maxRecDepth 100000 in
theorem c_X5_takes (l : Launch) (G : xG) (ma : Nat → Nat) (fl : Nat) (tg : Nat) (tn : Nat) (g : Nat → Int32) (x : Int32) (h : 0 < cFree g 40) : xMet l G yX5_takes wsX5_takes ({ frames := 0, cells := 0, slots := 0, locals := 0 } : Room) [.ref (ma 0), .int x] [(ma 0, .inr (6, [.ref (ma 1), .ref (ma 2), .int (nI fl), .ref (ma 3), .ref (ma 4), .ref (ma 5), .ref (ma 6), .ref (ma 7), .ref (ma 8), .int (nI tg), .ref (ma 9), .ref (ma 10), .int (nI tn)])), (ma 2, .inl (G.2 0, 40, .inl g))] (some (.int (nI (low g)))) [(ma 0, .inr (6, [.ref (ma 1), .ref (ma 2), .int (nI fl), .ref (ma 3), .ref (ma 4), .ref (ma 5), .ref (ma 6), .ref (ma 7), .ref (ma 8), .int (nI tg), .ref (ma 9), .ref (ma 10), .int (nI tn)])), (ma 2, .inl (G.2 0, 40, .inl (upd g (low g) x)))] := by
  refine x_of (cc := cX5_takes) (maxL := 3) (ret := (some .int)) (by decide +kernel) rfl (Nat.le_of_ble_eq_true rfl) ?_
  intro p e s m below meth c A ls hx hb hml hown hts hr hlk hP hD hK hN hA hS hl
  have i_X5 : ∀ w ∈ wsX50, w ∈ wsX5_takes := by decide +kernel
  have f_13 := hts (.fieldLink RX5 13 "GraveyardReaderModel" "owner" "[I") (by decide +kernel)
  have hl : lv_has ls 3 [(0, .ref (ma 0)), (1, .int x)] := hl
  have hP : va_P G.1 vwCl [(ma 0, .inr (6, [.ref (ma 1), .ref (ma 2), .int (nI fl), .ref (ma 3), .ref (ma 4), .ref (ma 5), .ref (ma 6), .ref (ma 7), .ref (ma 8), .int (nI tg), .ref (ma 9), .ref (ma 10), .int (nI tn)])), (ma 2, .inl (G.2 0, 40, .inl g))] s.heap := hP
  refine lv_iconst (v := nI 0) hx hb dX5_takes_0 (by decide) ?_
  refine lv_istore_n (lv' := [(2, .int (nI 0)), (0, .ref (ma 0)), (1, .int x)]) hx hb dX5_takes_1 rfl hl (by decide) rfl (fun ls hl => ?_)
  have loop2 : ∀ (n9 : Nat) (i : Nat), 40 - i < n9 → (i < 40) → (∀ j, j < i → g j ≠ -1) → ∀ (H : Heap) (locs : List Loc), va_P G.1 vwCl [(ma 0, .inr (6, [.ref (ma 1), .ref (ma 2), .int (nI fl), .ref (ma 3), .ref (ma 4), .ref (ma 5), .ref (ma 6), .ref (ma 7), .ref (ma 8), .int (nI tg), .ref (ma 9), .ref (ma 10), .int (nI tn)])), (ma 2, .inl (G.2 0, 40, .inl g))] H → va_D A [(ma 0, .inr (6, [.ref (ma 1), .ref (ma 2), .int (nI fl), .ref (ma 3), .ref (ma 4), .ref (ma 5), .ref (ma 6), .ref (ma 7), .ref (ma 8), .int (nI tg), .ref (ma 9), .ref (ma 10), .int (nI tn)])), (ma 2, .inl (G.2 0, 40, .inl g))] → va_S A s.heap H locs → ∀ (ls : Array Slot), lv_has ls 3 [(0, .ref (ma 0)), (1, .int x), (2, .int (nI i))] → xW p l e wsX5_takes ({ frames := 0, cells := 0, slots := 0, locals := 0 } : Room) s m [.ref (ma 0), .int x] below meth c G (some (.int (nI (low g)))) [(ma 0, .inr (6, [.ref (ma 1), .ref (ma 2), .int (nI fl), .ref (ma 3), .ref (ma 4), .ref (ma 5), .ref (ma 6), .ref (ma 7), .ref (ma 8), .int (nI tg), .ref (ma 9), .ref (ma 10), .int (nI tn)])), (ma 2, .inl (G.2 0, 40, .inl (upd g (low g) x)))] A H locs (F0 m 2 ls []) := by
    intro n9
    induction n9 with
    | zero => intro i h9; exact absurd h9 (Nat.not_lt_zero _)
    | succ n9 ih2 =>
      intro i h9 hi hno H locs hP hD hS ls hl
      refine lv_aload_n hx hb dX5_takes_2 rfl (lv_at hl 0 rfl) ?_
      refine va_get (D := G.1) (ci := 6) (v := .ref (ma 2)) (C := RX5) (T := TX5) (N := 13) hx hb hts i_X5 hown hK hP 0 rfl rfl 1 (by decide) f_13 (fun _ h9 => h9) rfl dX5_takes_3 ?_
      refine lv_iload_n hx hb dX5_takes_6 rfl (lv_at hl 2 rfl) ?_
      refine x_iald hx hb hK hP 1 rfl i (by omega) (by decide) dX5_takes_7 ?_
      refine lv_iconst (v := (-1)) hx hb dX5_takes_8 (by decide) ?_
      refine lv_icmp_eq hx hb (tgt := 18) dX5_takes_9 (by decide) (fun c_9 => ?_) (fun c_9 => ?_)
      · have elow : low g = i := low_is (by omega) c_9 hno
        refine lv_aload_n hx hb dX5_takes_18 rfl (lv_at hl 0 rfl) ?_
        refine va_get (D := G.1) (ci := 6) (v := .ref (ma 2)) (C := RX5) (T := TX5) (N := 13) hx hb hts i_X5 hown hK hP 0 rfl rfl 1 (by decide) f_13 (fun _ h9 => h9) rfl dX5_takes_19 ?_
        refine lv_iload_n hx hb dX5_takes_22 rfl (lv_at hl 2 rfl) ?_
        refine lv_iload_n hx hb dX5_takes_23 rfl (lv_at hl 1 rfl) ?_
        refine x_iast hx hb hK hP hD hS 1 rfl i (by omega) (by decide) dX5_takes_24 (fun H locs hP hD hS => ?_)
        have hP : va_P G.1 vwCl [(ma 0, .inr (6, [.ref (ma 1), .ref (ma 2), .int (nI fl), .ref (ma 3), .ref (ma 4), .ref (ma 5), .ref (ma 6), .ref (ma 7), .ref (ma 8), .int (nI tg), .ref (ma 9), .ref (ma 10), .int (nI tn)])), (ma 2, .inl (G.2 0, 40, .inl (upd g i x)))] H := hP
        have hD : va_D A [(ma 0, .inr (6, [.ref (ma 1), .ref (ma 2), .int (nI fl), .ref (ma 3), .ref (ma 4), .ref (ma 5), .ref (ma 6), .ref (ma 7), .ref (ma 8), .int (nI tg), .ref (ma 9), .ref (ma 10), .int (nI tn)])), (ma 2, .inl (G.2 0, 40, .inl (upd g i x)))] := hD
        refine lv_iload_n hx hb dX5_takes_25 rfl (lv_at hl 2 rfl) ?_
        have hP : va_P G.1 vwCl [(ma 0, .inr (6, [.ref (ma 1), .ref (ma 2), .int (nI fl), .ref (ma 3), .ref (ma 4), .ref (ma 5), .ref (ma 6), .ref (ma 7), .ref (ma 8), .int (nI tg), .ref (ma 9), .ref (ma 10), .int (nI tn)])), (ma 2, .inl (G.2 0, 40, .inl (upd g (low g) x)))] H := by rw [elow]; exact hP
        exact x_iret hx hb hr (by rw [elow]) hP hS dX5_takes_26 hlk
      · have hno9 : ∀ j, j < i + 1 → g j ≠ -1 := fun j hj => (Nat.lt_succ_iff_lt_or_eq.mp hj).elim (hno j) (fun q => q ▸ c_9)
        have hi9 : i + 1 < 40 := by
          rcases Nat.lt_or_ge (i + 1) 40 with q | q
          · exact q
          · have := cFree_zero (g := g) (n := 40) (fun j hj => hno9 j (by omega)); omega
        refine lv_iinc (v := nI (i + 1)) (lv' := [(2, .int (nI (i + 1))), (0, .ref (ma 0)), (1, .int x)]) hx hb dX5_takes_12 hl (k := 2) rfl (x_inc _) (by decide) rfl (fun ls hl => ?_)
        refine lv_goto (tgt := 2) hx hb dX5_takes_15 (by decide) ?_
        exact ih2 (i + 1) (by omega) hi9 hno9 _ _ hP hD hS ls (lv_sub hl [1, 2, 0] rfl)
  exact loop2 _ 0 (Nat.lt_succ_self _) (by omega) (fun j hj => absurd hj (Nat.not_lt_zero j)) _ _ hP hD hS ls (lv_sub hl [1, 2, 0] rfl)

set_option maxHeartbeats 4000000 in
set_option maxRecDepth 100000 in
theorem c_X5_byRule (l : Launch) (G : xG) (ma : Nat → Nat) (fl : Nat) (tg : Nat) (tn : Nat) (sd : Nat → Nat) (i : Nat) (k : Nat) (hi : i < 30) (hs : sd i ≤ 10000) (hk : k < 32) : xMet l G yX5_byRule wsX5_byRule ({ frames := 0, cells := 0, slots := 0, locals := 0 } : Room) [.ref (ma 0), .int (nI i), .int (nI k)] [(ma 0, .inr (6, [.ref (ma 1), .ref (ma 2), .int (nI fl), .ref (ma 3), .ref (ma 4), .ref (ma 5), .ref (ma 6), .ref (ma 7), .ref (ma 8), .int (nI tg), .ref (ma 9), .ref (ma 10), .int (nI tn)])), (ma 3, .inl (G.2 0, 30, .inl (fun i9 => nI (sd i9))))] (some (.int (nI ((sd i + 37 * k) % 250)))) [(ma 0, .inr (6, [.ref (ma 1), .ref (ma 2), .int (nI fl), .ref (ma 3), .ref (ma 4), .ref (ma 5), .ref (ma 6), .ref (ma 7), .ref (ma 8), .int (nI tg), .ref (ma 9), .ref (ma 10), .int (nI tn)])), (ma 3, .inl (G.2 0, 30, .inl (fun i9 => nI (sd i9))))] := by
  refine x_of (cc := cX5_byRule) (maxL := 3) (ret := (some .int)) (by decide +kernel) rfl (Nat.le_of_ble_eq_true rfl) ?_
  intro p e s m below meth c A ls hx hb hml hown hts hr hlk hP hD hK hN hA hS hl
  have i_X5 : ∀ w ∈ wsX50, w ∈ wsX5_byRule := by decide +kernel
  have f_16 := hts (.fieldLink RX5 16 "GraveyardReaderModel" "seed" "[I") (by decide +kernel)
  have hl : lv_has ls 3 [(0, .ref (ma 0)), (1, .int (nI i)), (2, .int (nI k))] := hl
  have hP : va_P G.1 vwCl [(ma 0, .inr (6, [.ref (ma 1), .ref (ma 2), .int (nI fl), .ref (ma 3), .ref (ma 4), .ref (ma 5), .ref (ma 6), .ref (ma 7), .ref (ma 8), .int (nI tg), .ref (ma 9), .ref (ma 10), .int (nI tn)])), (ma 3, .inl (G.2 0, 30, .inl (fun i9 => nI (sd i9))))] s.heap := hP
  refine lv_aload_n hx hb dX5_byRule_0 rfl (lv_at hl 0 rfl) ?_
  refine va_get (D := G.1) (ci := 6) (v := .ref (ma 3)) (C := RX5) (T := TX5) (N := 13) hx hb hts i_X5 hown hK hP 0 rfl rfl 3 (by decide) f_16 (fun _ h9 => h9) rfl dX5_byRule_1 ?_
  refine lv_iload_n hx hb dX5_byRule_4 rfl (lv_at hl 1 rfl) ?_
  refine x_iald hx hb hK hP 1 rfl i (by omega) (by decide) dX5_byRule_5 ?_
  refine lv_bipush (v := nI 37) hx hb dX5_byRule_6 (by decide) ?_
  refine lv_iload_n hx hb dX5_byRule_8 rfl (lv_at hl 2 rfl) ?_
  refine lv_imul hx hb dX5_byRule_9 ?_
  refine x_top (y := nI (37 * k)) (pk_mul _ _) ?_
  refine lv_iadd hx hb dX5_byRule_10 ?_
  refine x_top (y := nI ((sd i) + (37 * k))) (nI_add _ _) ?_
  refine lv_sipush (v := nI 250) hx hb dX5_byRule_11 (by decide) ?_
  refine x_irem hx hb (a := (sd i) + (37 * k)) (d := 250) (by omega) (by omega) (by omega) dX5_byRule_14 ?_
  exact x_iret hx hb hr rfl hP hS dX5_byRule_15 hlk

set_option maxHeartbeats 4000000 in
set_option maxRecDepth 100000 in
theorem c_X5_place (l : Launch) (G : xG) (ma : Nat → Nat) (fl : Nat) (tg : Nat) (tn : Nat) (chn : Nat → Nat) (i : Nat) (k : Nat) (hi : i < 30) (hk : k < 32) (hc : chn (8 * i + k / 4) < 40) : xMet l G yX5_place wsX5_place ({ frames := 0, cells := 0, slots := 0, locals := 0 } : Room) [.ref (ma 0), .int (nI i), .int (nI k)] [(ma 0, .inr (6, [.ref (ma 1), .ref (ma 2), .int (nI fl), .ref (ma 3), .ref (ma 4), .ref (ma 5), .ref (ma 6), .ref (ma 7), .ref (ma 8), .int (nI tg), .ref (ma 9), .ref (ma 10), .int (nI tn)])), (ma 8, .inl (G.2 0, 240, .inl (fun i9 => nI (chn i9))))] (some (.int (nI (4 * chn (8 * i + k / 4) + k % 4)))) [(ma 0, .inr (6, [.ref (ma 1), .ref (ma 2), .int (nI fl), .ref (ma 3), .ref (ma 4), .ref (ma 5), .ref (ma 6), .ref (ma 7), .ref (ma 8), .int (nI tg), .ref (ma 9), .ref (ma 10), .int (nI tn)])), (ma 8, .inl (G.2 0, 240, .inl (fun i9 => nI (chn i9))))] := by
  refine x_of (cc := cX5_place) (maxL := 3) (ret := (some .int)) (by decide +kernel) rfl (Nat.le_of_ble_eq_true rfl) ?_
  intro p e s m below meth c A ls hx hb hml hown hts hr hlk hP hD hK hN hA hS hl
  have i_X5 : ∀ w ∈ wsX50, w ∈ wsX5_place := by decide +kernel
  have f_31 := hts (.fieldLink RX5 31 "GraveyardReaderModel" "chain" "[I") (by decide +kernel)
  have hl : lv_has ls 3 [(0, .ref (ma 0)), (1, .int (nI i)), (2, .int (nI k))] := hl
  have hP : va_P G.1 vwCl [(ma 0, .inr (6, [.ref (ma 1), .ref (ma 2), .int (nI fl), .ref (ma 3), .ref (ma 4), .ref (ma 5), .ref (ma 6), .ref (ma 7), .ref (ma 8), .int (nI tg), .ref (ma 9), .ref (ma 10), .int (nI tn)])), (ma 8, .inl (G.2 0, 240, .inl (fun i9 => nI (chn i9))))] s.heap := hP
  refine lv_iconst (v := nI 4) hx hb dX5_place_0 (by decide) ?_
  refine lv_aload_n hx hb dX5_place_1 rfl (lv_at hl 0 rfl) ?_
  refine va_get (D := G.1) (ci := 6) (v := .ref (ma 8)) (C := RX5) (T := TX5) (N := 13) hx hb hts i_X5 hown hK hP 0 rfl rfl 8 (by decide) f_31 (fun _ h9 => h9) rfl dX5_place_2 ?_
  refine lv_bipush (v := nI 8) hx hb dX5_place_5 (by decide) ?_
  refine lv_iload_n hx hb dX5_place_7 rfl (lv_at hl 1 rfl) ?_
  refine lv_imul hx hb dX5_place_8 ?_
  refine x_top (y := nI (8 * i)) (pk_mul _ _) ?_
  refine lv_iload_n hx hb dX5_place_9 rfl (lv_at hl 2 rfl) ?_
  refine lv_iconst (v := nI 4) hx hb dX5_place_10 (by decide) ?_
  refine x_idiv hx hb (a := k) (d := 4) (by omega) (by omega) (by omega) dX5_place_11 ?_
  refine lv_iadd hx hb dX5_place_12 ?_
  refine x_top (y := nI ((8 * i) + (k / 4))) (nI_add _ _) ?_
  refine x_iald hx hb hK hP 1 rfl ((8 * i) + (k / 4)) (by omega) (by decide) dX5_place_13 ?_
  refine lv_imul hx hb dX5_place_14 ?_
  refine x_top (y := nI (4 * (chn ((8 * i) + (k / 4))))) (pk_mul _ _) ?_
  refine lv_iload_n hx hb dX5_place_15 rfl (lv_at hl 2 rfl) ?_
  refine lv_iconst (v := nI 4) hx hb dX5_place_16 (by decide) ?_
  refine x_irem hx hb (a := k) (d := 4) (by omega) (by omega) (by omega) dX5_place_17 ?_
  refine lv_iadd hx hb dX5_place_18 ?_
  refine x_top (y := nI ((4 * (chn ((8 * i) + (k / 4)))) + (k % 4))) (nI_add _ _) ?_
  exact x_iret hx hb hr rfl hP hS dX5_place_19 hlk

set_option maxHeartbeats 4000000 in
set_option maxRecDepth 100000 in
theorem c_X5_checksumOf (l : Launch) (G : xG) (ma : Nat → Nat) (fl : Nat) (tg : Nat) (tn : Nat) (num : Nat → Int32) (mn : Nat → Nat) (chn : Nat → Nat) (i : Nat) (hi : i < 30) (hm : mn i ≤ 8) (hc : ∀ j, j < mn i → chn (8 * i + j) < 40) : xMet l G yX5_checksumOf wsX5_checksumOf ({ frames := 1, cells := 0, slots := 0, locals := 22 } : Room) [.ref (ma 0), .int (nI i)] [(ma 0, .inr (6, [.ref (ma 1), .ref (ma 2), .int (nI fl), .ref (ma 3), .ref (ma 4), .ref (ma 5), .ref (ma 6), .ref (ma 7), .ref (ma 8), .int (nI tg), .ref (ma 9), .ref (ma 10), .int (nI tn)])), (ma 1, .inl (G.2 0, 160, .inl num)), (ma 4, .inl (G.2 0, 30, .inl (fun i9 => nI (mn i9)))), (ma 8, .inl (G.2 0, 240, .inl (fun i9 => nI (chn i9))))] (some (.int (r9 (csum num (fun j => chn (8 * i + j)) (4 * mn i))))) [(ma 0, .inr (6, [.ref (ma 1), .ref (ma 2), .int (nI fl), .ref (ma 3), .ref (ma 4), .ref (ma 5), .ref (ma 6), .ref (ma 7), .ref (ma 8), .int (nI tg), .ref (ma 9), .ref (ma 10), .int (nI tn)])), (ma 1, .inl (G.2 0, 160, .inl num)), (ma 4, .inl (G.2 0, 30, .inl (fun i9 => nI (mn i9)))), (ma 8, .inl (G.2 0, 240, .inl (fun i9 => nI (chn i9))))] := by
  refine x_of (cc := cX5_checksumOf) (maxL := 4) (ret := (some .int)) (by decide +kernel) rfl (Nat.le_of_ble_eq_true rfl) ?_
  intro p e s m below meth c A ls hx hb hml hown hts hr hlk hP hD hK hN hA hS hl
  have i_X5 : ∀ w ∈ wsX50, w ∈ wsX5_checksumOf := by decide +kernel
  have f_7 := hts (.fieldLink RX5 7 "GraveyardReaderModel" "numbers" "[I") (by decide +kernel)
  have f_19 := hts (.fieldLink RX5 19 "GraveyardReaderModel" "many" "[I") (by decide +kernel)
  have hl : lv_has ls 4 [(0, .ref (ma 0)), (1, .int (nI i))] := hl
  have hP : va_P G.1 vwCl [(ma 0, .inr (6, [.ref (ma 1), .ref (ma 2), .int (nI fl), .ref (ma 3), .ref (ma 4), .ref (ma 5), .ref (ma 6), .ref (ma 7), .ref (ma 8), .int (nI tg), .ref (ma 9), .ref (ma 10), .int (nI tn)])), (ma 1, .inl (G.2 0, 160, .inl num)), (ma 4, .inl (G.2 0, 30, .inl (fun i9 => nI (mn i9)))), (ma 8, .inl (G.2 0, 240, .inl (fun i9 => nI (chn i9))))] s.heap := hP
  refine lv_iconst (v := nI 0) hx hb dX5_checksumOf_0 (by decide) ?_
  refine lv_istore_n (lv' := [(2, .int (nI 0)), (0, .ref (ma 0)), (1, .int (nI i))]) hx hb dX5_checksumOf_1 rfl hl (by decide) rfl (fun ls hl => ?_)
  refine lv_iconst (v := nI 0) hx hb dX5_checksumOf_2 (by decide) ?_
  refine lv_istore_n (lv' := [(3, .int (nI 0)), (2, .int (nI 0)), (0, .ref (ma 0)), (1, .int (nI i))]) hx hb dX5_checksumOf_3 rfl hl (by decide) rfl (fun ls hl => ?_)
  have loop4 : ∀ (n9 : Nat) (k : Nat) (z : Int32), 4 * mn i - k < n9 → (k ≤ 4 * mn i) → (z = csum num (fun j => chn (8 * i + j)) k) → ∀ (H : Heap) (locs : List Loc), va_P G.1 vwCl [(ma 0, .inr (6, [.ref (ma 1), .ref (ma 2), .int (nI fl), .ref (ma 3), .ref (ma 4), .ref (ma 5), .ref (ma 6), .ref (ma 7), .ref (ma 8), .int (nI tg), .ref (ma 9), .ref (ma 10), .int (nI tn)])), (ma 1, .inl (G.2 0, 160, .inl num)), (ma 4, .inl (G.2 0, 30, .inl (fun i9 => nI (mn i9)))), (ma 8, .inl (G.2 0, 240, .inl (fun i9 => nI (chn i9))))] H → va_D A [(ma 0, .inr (6, [.ref (ma 1), .ref (ma 2), .int (nI fl), .ref (ma 3), .ref (ma 4), .ref (ma 5), .ref (ma 6), .ref (ma 7), .ref (ma 8), .int (nI tg), .ref (ma 9), .ref (ma 10), .int (nI tn)])), (ma 1, .inl (G.2 0, 160, .inl num)), (ma 4, .inl (G.2 0, 30, .inl (fun i9 => nI (mn i9)))), (ma 8, .inl (G.2 0, 240, .inl (fun i9 => nI (chn i9))))] → va_S A s.heap H locs → ∀ (ls : Array Slot), lv_has ls 4 [(0, .ref (ma 0)), (1, .int (nI i)), (2, .int z), (3, .int (nI k))] → xW p l e wsX5_checksumOf ({ frames := 1, cells := 0, slots := 0, locals := 22 } : Room) s m [.ref (ma 0), .int (nI i)] below meth c G (some (.int (r9 (csum num (fun j => chn (8 * i + j)) (4 * mn i))))) [(ma 0, .inr (6, [.ref (ma 1), .ref (ma 2), .int (nI fl), .ref (ma 3), .ref (ma 4), .ref (ma 5), .ref (ma 6), .ref (ma 7), .ref (ma 8), .int (nI tg), .ref (ma 9), .ref (ma 10), .int (nI tn)])), (ma 1, .inl (G.2 0, 160, .inl num)), (ma 4, .inl (G.2 0, 30, .inl (fun i9 => nI (mn i9)))), (ma 8, .inl (G.2 0, 240, .inl (fun i9 => nI (chn i9))))] A H locs (F0 m 4 ls []) := by
    intro n9
    induction n9 with
    | zero => intro k z h9; exact absurd h9 (Nat.not_lt_zero _)
    | succ n9 ih4 =>
      intro k z h9 hk hz H locs hP hD hS ls hl
      refine lv_iload_n hx hb dX5_checksumOf_4 rfl (lv_at hl 3 rfl) ?_
      refine lv_iconst (v := nI 4) hx hb dX5_checksumOf_5 (by decide) ?_
      refine lv_aload_n hx hb dX5_checksumOf_6 rfl (lv_at hl 0 rfl) ?_
      refine va_get (D := G.1) (ci := 6) (v := .ref (ma 4)) (C := RX5) (T := TX5) (N := 13) hx hb hts i_X5 hown hK hP 0 rfl rfl 4 (by decide) f_19 (fun _ h9 => h9) rfl dX5_checksumOf_7 ?_
      refine lv_iload_n hx hb dX5_checksumOf_10 rfl (lv_at hl 1 rfl) ?_
      refine x_iald hx hb hK hP 2 rfl i (by omega) (by decide) dX5_checksumOf_11 ?_
      refine lv_imul hx hb dX5_checksumOf_12 ?_
      refine x_top (y := nI (4 * (mn i))) (pk_mul _ _) ?_
      refine x_icmp_ge hx hb (tgt := 40) (a := k) (b := 4 * (mn i)) (by omega) (by omega) dX5_checksumOf_13 (by decide) (fun c_13 => ?_) (fun c_13 => ?_)
      · have e9 : k = 4 * mn i := by omega
        subst e9
        refine lv_iload_n hx hb dX5_checksumOf_40 rfl (lv_at hl 2 rfl) ?_
        refine lv_sipush (v := nI 9973) hx hb dX5_checksumOf_41 (by decide) ?_
        refine lv_irem hx hb dX5_checksumOf_44 (by decide) ?_
        exact x_iret hx hb hr (by rw [hz]; rfl) hP hS dX5_checksumOf_45 hlk
      · refine lv_iload_n hx hb dX5_checksumOf_16 rfl (lv_at hl 2 rfl) ?_
        refine lv_aload_n hx hb dX5_checksumOf_17 rfl (lv_at hl 0 rfl) ?_
        refine va_get (D := G.1) (ci := 6) (v := .ref (ma 1)) (C := RX5) (T := TX5) (N := 13) hx hb hts i_X5 hown hK hP 0 rfl rfl 0 (by decide) f_7 (fun _ h9 => h9) rfl dX5_checksumOf_18 ?_
        refine lv_aload_n hx hb dX5_checksumOf_21 rfl (lv_at hl 0 rfl) ?_
        refine lv_iload_n hx hb dX5_checksumOf_22 rfl (lv_at hl 1 rfl) ?_
        refine lv_iload_n hx hb dX5_checksumOf_23 rfl (lv_at hl 3 rfl) ?_
        refine x_callV (As := [.int (nI i), .int (nI k)]) (rest := [.ref (ma 1), .int z]) (w9 := [(ma 0, .inr (6, [.ref (ma 1), .ref (ma 2), .int (nI fl), .ref (ma 3), .ref (ma 4), .ref (ma 5), .ref (ma 6), .ref (ma 7), .ref (ma 8), .int (nI tg), .ref (ma 9), .ref (ma 10), .int (nI tn)])), (ma 1, .inl (G.2 0, 160, .inl num)), (ma 4, .inl (G.2 0, 30, .inl (fun i9 => nI (mn i9)))), (ma 8, .inl (G.2 0, 240, .inl (fun i9 => nI (chn i9))))]) ⟨hx, hb, hml, hown, hts⟩ (c_X5_place l G ma fl tg tn chn i k hi (by omega) (hc (k / 4) (by omega))) (cwV 2 hts gX5_checksumOf_X5_place rfl rfl rfl (by decide +kernel) ⟨Nat.le_of_ble_eq_true rfl, Nat.le_of_ble_eq_true rfl⟩) hK hN hP hD hS hA [0, 3] (by decide) rfl rfl 0 rfl rfl rfl hl.1 rfl (Nat.le_of_ble_eq_true rfl) dX5_checksumOf_24 ⟨Nat.le_of_ble_eq_true rfl, Nat.le_of_ble_eq_true rfl⟩ rfl (fun H locs hP hD hS => ?_)
        refine W.eq (g2 := F0 m 27 ls [.int (nI (4 * chn (8 * i + k / 4) + k % 4)), .ref (ma 1), .int z]) rfl ?_
        have hc9 := hc (k / 4) (by omega)
        refine x_iald hx hb hK hP 1 rfl (4 * chn (8 * i + k / 4) + k % 4) (by omega) (by decide) dX5_checksumOf_27 ?_
        refine x_top (y := alongN num (fun j => chn (8 * i + j)) k) (by simp only [alongN]; rw [Nat.mul_comm]) ?_
        refine lv_iload_n hx hb dX5_checksumOf_28 rfl (lv_at hl 3 rfl) ?_
        refine lv_iconst (v := nI 1) hx hb dX5_checksumOf_29 (by decide) ?_
        refine lv_iadd hx hb dX5_checksumOf_30 ?_
        refine x_top (y := nI (k + 1)) (nI_add _ _) ?_
        refine lv_imul hx hb dX5_checksumOf_31 ?_
        refine lv_iadd hx hb dX5_checksumOf_32 ?_
        refine lv_istore_n (lv' := [(2, .int (z + ((alongN num (fun j => chn (8 * i + j)) k) * (nI (k + 1))))), (0, .ref (ma 0)), (1, .int (nI i)), (3, .int (nI k))]) hx hb dX5_checksumOf_33 rfl hl (by decide) rfl (fun ls hl => ?_)
        refine lv_iinc (v := nI (k + 1)) (lv' := [(3, .int (nI (k + 1))), (2, .int (z + ((alongN num (fun j => chn (8 * i + j)) k) * (nI (k + 1))))), (0, .ref (ma 0)), (1, .int (nI i))]) hx hb dX5_checksumOf_34 hl (k := 3) rfl (x_inc _) (by decide) rfl (fun ls hl => ?_)
        refine lv_goto (tgt := 4) hx hb dX5_checksumOf_37 (by decide) ?_
        exact ih4 (k + 1) (z + ((alongN num (fun j => chn (8 * i + j)) k) * (nI (k + 1)))) (by omega) (by omega) (by rw [hz]; rfl) _ _ hP hD hS ls (lv_sub hl [2, 3, 1, 0] rfl)
  exact loop4 _ 0 (nI 0) (Nat.lt_succ_self _) (by omega) rfl _ _ hP hD hS ls (lv_sub hl [2, 3, 1, 0] rfl)

set_option maxHeartbeats 4000000 in
set_option maxRecDepth 100000 in
theorem c_X5_claims (l : Launch) (G : xG) (ma : Nat → Nat) (fl : Nat) (tg : Nat) (tn : Nat) (g : Nat → Int32) (mn : Nat → Nat) (fi : Nat → Nat) (cl : Nat → Int32) (i : Nat) (hi : i < 30) (hm : mn i ≤ 8) (hf : fi i < 40) : xMet l G yX5_claims wsX5_claims ({ frames := 0, cells := 0, slots := 0, locals := 0 } : Room) [.ref (ma 0), .int (nI i)] [(ma 0, .inr (6, [.ref (ma 1), .ref (ma 2), .int (nI fl), .ref (ma 3), .ref (ma 4), .ref (ma 5), .ref (ma 6), .ref (ma 7), .ref (ma 8), .int (nI tg), .ref (ma 9), .ref (ma 10), .int (nI tn)])), (ma 2, .inl (G.2 0, 40, .inl g)), (ma 4, .inl (G.2 0, 30, .inl (fun i9 => nI (mn i9)))), (ma 6, .inl (G.2 0, 30, .inl (fun i9 => nI (fi i9)))), (ma 9, .inl (G.2 0, 8, .inl cl))] (some (.int (nI ((claim g (fi i) (mn i)).length)))) [(ma 0, .inr (6, [.ref (ma 1), .ref (ma 2), .int (nI fl), .ref (ma 3), .ref (ma 4), .ref (ma 5), .ref (ma 6), .ref (ma 7), .ref (ma 8), .int (nI tg), .ref (ma 9), .ref (ma 10), .int (nI tn)])), (ma 2, .inl (G.2 0, 40, .inl g)), (ma 4, .inl (G.2 0, 30, .inl (fun i9 => nI (mn i9)))), (ma 6, .inl (G.2 0, 30, .inl (fun i9 => nI (fi i9)))), (ma 9, .inl (G.2 0, 8, .inl (lay cl (claim g (fi i) (mn i)))))] := by
  refine x_of (cc := cX5_claims) (maxL := 4) (ret := (some .int)) (by decide +kernel) rfl (Nat.le_of_ble_eq_true rfl) ?_
  intro p e s m below meth c A ls hx hb hml hown hts hr hlk hP hD hK hN hA hS hl
  have i_X5 : ∀ w ∈ wsX50, w ∈ wsX5_claims := by decide +kernel
  have f_13 := hts (.fieldLink RX5 13 "GraveyardReaderModel" "owner" "[I") (by decide +kernel)
  have f_19 := hts (.fieldLink RX5 19 "GraveyardReaderModel" "many" "[I") (by decide +kernel)
  have f_25 := hts (.fieldLink RX5 25 "GraveyardReaderModel" "first" "[I") (by decide +kernel)
  have f_34 := hts (.fieldLink RX5 34 "GraveyardReaderModel" "claim" "[I") (by decide +kernel)
  have hl : lv_has ls 4 [(0, .ref (ma 0)), (1, .int (nI i))] := hl
  have hP : va_P G.1 vwCl [(ma 0, .inr (6, [.ref (ma 1), .ref (ma 2), .int (nI fl), .ref (ma 3), .ref (ma 4), .ref (ma 5), .ref (ma 6), .ref (ma 7), .ref (ma 8), .int (nI tg), .ref (ma 9), .ref (ma 10), .int (nI tn)])), (ma 2, .inl (G.2 0, 40, .inl g)), (ma 4, .inl (G.2 0, 30, .inl (fun i9 => nI (mn i9)))), (ma 6, .inl (G.2 0, 30, .inl (fun i9 => nI (fi i9)))), (ma 9, .inl (G.2 0, 8, .inl cl))] s.heap := hP
  refine lv_iconst (v := nI 0) hx hb dX5_claims_0 (by decide) ?_
  refine lv_istore_n (lv' := [(2, .int (nI 0)), (0, .ref (ma 0)), (1, .int (nI i))]) hx hb dX5_claims_1 rfl hl (by decide) rfl (fun ls hl => ?_)
  refine lv_aload_n hx hb dX5_claims_2 rfl (lv_at hl 1 rfl) ?_
  refine va_get (D := G.1) (ci := 6) (v := .ref (ma 6)) (C := RX5) (T := TX5) (N := 13) hx hb hts i_X5 hown hK hP 0 rfl rfl 6 (by decide) f_25 (fun _ h9 => h9) rfl dX5_claims_3 ?_
  refine lv_iload_n hx hb dX5_claims_6 rfl (lv_at hl 2 rfl) ?_
  refine x_iald hx hb hK hP 3 rfl i (by omega) (by decide) dX5_claims_7 ?_
  refine lv_istore_n (lv' := [(3, .int (nI (fi i))), (2, .int (nI 0)), (0, .ref (ma 0)), (1, .int (nI i))]) hx hb dX5_claims_8 rfl hl (by decide) rfl (fun ls hl => ?_)
  have loop9 : ∀ (n9 : Nat) (k : Nat) (a : Nat), 40 - k < n9 → (k ≤ 40) → (a ≤ mn i) → ((claim g (fi i) (mn i)).drop a = clmD g (fi i) (mn i) k a) → (a ≤ (claim g (fi i) (mn i)).length) → ∀ (H : Heap) (locs : List Loc), va_P G.1 vwCl [(ma 0, .inr (6, [.ref (ma 1), .ref (ma 2), .int (nI fl), .ref (ma 3), .ref (ma 4), .ref (ma 5), .ref (ma 6), .ref (ma 7), .ref (ma 8), .int (nI tg), .ref (ma 9), .ref (ma 10), .int (nI tn)])), (ma 2, .inl (G.2 0, 40, .inl g)), (ma 4, .inl (G.2 0, 30, .inl (fun i9 => nI (mn i9)))), (ma 6, .inl (G.2 0, 30, .inl (fun i9 => nI (fi i9)))), (ma 9, .inl (G.2 0, 8, .inl (lay cl ((claim g (fi i) (mn i)).take a))))] H → va_D A [(ma 0, .inr (6, [.ref (ma 1), .ref (ma 2), .int (nI fl), .ref (ma 3), .ref (ma 4), .ref (ma 5), .ref (ma 6), .ref (ma 7), .ref (ma 8), .int (nI tg), .ref (ma 9), .ref (ma 10), .int (nI tn)])), (ma 2, .inl (G.2 0, 40, .inl g)), (ma 4, .inl (G.2 0, 30, .inl (fun i9 => nI (mn i9)))), (ma 6, .inl (G.2 0, 30, .inl (fun i9 => nI (fi i9)))), (ma 9, .inl (G.2 0, 8, .inl (lay cl ((claim g (fi i) (mn i)).take a))))] → va_S A s.heap H locs → ∀ (ls : Array Slot), lv_has ls 4 [(0, .ref (ma 0)), (1, .int (nI i)), (2, .int (nI a)), (3, .int (nI k))] → xW p l e wsX5_claims ({ frames := 0, cells := 0, slots := 0, locals := 0 } : Room) s m [.ref (ma 0), .int (nI i)] below meth c G (some (.int (nI ((claim g (fi i) (mn i)).length)))) [(ma 0, .inr (6, [.ref (ma 1), .ref (ma 2), .int (nI fl), .ref (ma 3), .ref (ma 4), .ref (ma 5), .ref (ma 6), .ref (ma 7), .ref (ma 8), .int (nI tg), .ref (ma 9), .ref (ma 10), .int (nI tn)])), (ma 2, .inl (G.2 0, 40, .inl g)), (ma 4, .inl (G.2 0, 30, .inl (fun i9 => nI (mn i9)))), (ma 6, .inl (G.2 0, 30, .inl (fun i9 => nI (fi i9)))), (ma 9, .inl (G.2 0, 8, .inl (lay cl (claim g (fi i) (mn i)))))] A H locs (F0 m 9 ls []) := by
    intro n9
    induction n9 with
    | zero => intro k a h9; exact absurd h9 (Nat.not_lt_zero _)
    | succ n9 ih9 =>
      intro k a h9 hk ha hd hal H locs hP hD hS ls hl
      refine lv_iload_n hx hb dX5_claims_9 rfl (lv_at hl 3 rfl) ?_
      refine lv_bipush (v := nI 40) hx hb dX5_claims_10 (by decide) ?_
      refine x_icmp_ge hx hb (tgt := 66) (a := k) (b := 40) (by omega) (by omega) dX5_claims_12 (by decide) (fun c_12 => ?_) (fun c_12 => ?_)
      · refine lv_iload_n hx hb dX5_claims_66 rfl (lv_at hl 2 rfl) ?_
        have e9 : a = (claim g (fi i) (mn i)).length := drop_nil (by first | rw [hd, clmD_40 _ _ _ _ _ c_12] | rw [hd, clmD_m _ _ _ _ _ c_22] | rw [hd, clmD_no c_37]) hal
        rw [e9, List.take_length] at hP
        have hP : va_P G.1 vwCl [(ma 0, .inr (6, [.ref (ma 1), .ref (ma 2), .int (nI fl), .ref (ma 3), .ref (ma 4), .ref (ma 5), .ref (ma 6), .ref (ma 7), .ref (ma 8), .int (nI tg), .ref (ma 9), .ref (ma 10), .int (nI tn)])), (ma 2, .inl (G.2 0, 40, .inl g)), (ma 4, .inl (G.2 0, 30, .inl (fun i9 => nI (mn i9)))), (ma 6, .inl (G.2 0, 30, .inl (fun i9 => nI (fi i9)))), (ma 9, .inl (G.2 0, 8, .inl (lay cl (claim g (fi i) (mn i)))))] H := by exact hP
        exact x_iret hx hb hr (by rw [e9]) hP hS dX5_claims_67 hlk
      · refine lv_iload_n hx hb dX5_claims_15 rfl (lv_at hl 2 rfl) ?_
        refine lv_aload_n hx hb dX5_claims_16 rfl (lv_at hl 0 rfl) ?_
        refine va_get (D := G.1) (ci := 6) (v := .ref (ma 4)) (C := RX5) (T := TX5) (N := 13) hx hb hts i_X5 hown hK hP 0 rfl rfl 4 (by decide) f_19 (fun _ h9 => h9) rfl dX5_claims_17 ?_
        refine lv_iload_n hx hb dX5_claims_20 rfl (lv_at hl 1 rfl) ?_
        refine x_iald hx hb hK hP 2 rfl i (by omega) (by decide) dX5_claims_21 ?_
        refine x_icmp_ge hx hb (tgt := 66) (a := a) (b := mn i) (by omega) (by omega) dX5_claims_22 (by decide) (fun c_22 => ?_) (fun c_22 => ?_)
        · refine lv_iload_n hx hb dX5_claims_66 rfl (lv_at hl 2 rfl) ?_
          have e9 : a = (claim g (fi i) (mn i)).length := drop_nil (by first | rw [hd, clmD_40 _ _ _ _ _ c_12] | rw [hd, clmD_m _ _ _ _ _ c_22] | rw [hd, clmD_no c_37]) hal
          rw [e9, List.take_length] at hP
          have hP : va_P G.1 vwCl [(ma 0, .inr (6, [.ref (ma 1), .ref (ma 2), .int (nI fl), .ref (ma 3), .ref (ma 4), .ref (ma 5), .ref (ma 6), .ref (ma 7), .ref (ma 8), .int (nI tg), .ref (ma 9), .ref (ma 10), .int (nI tn)])), (ma 2, .inl (G.2 0, 40, .inl g)), (ma 4, .inl (G.2 0, 30, .inl (fun i9 => nI (mn i9)))), (ma 6, .inl (G.2 0, 30, .inl (fun i9 => nI (fi i9)))), (ma 9, .inl (G.2 0, 8, .inl (lay cl (claim g (fi i) (mn i)))))] H := by exact hP
          exact x_iret hx hb hr (by rw [e9]) hP hS dX5_claims_67 hlk
        · refine lv_aload_n hx hb dX5_claims_25 rfl (lv_at hl 0 rfl) ?_
          refine va_get (D := G.1) (ci := 6) (v := .ref (ma 2)) (C := RX5) (T := TX5) (N := 13) hx hb hts i_X5 hown hK hP 0 rfl rfl 1 (by decide) f_13 (fun _ h9 => h9) rfl dX5_claims_26 ?_
          refine lv_aload_n hx hb dX5_claims_29 rfl (lv_at hl 0 rfl) ?_
          refine va_get (D := G.1) (ci := 6) (v := .ref (ma 6)) (C := RX5) (T := TX5) (N := 13) hx hb hts i_X5 hown hK hP 0 rfl rfl 6 (by decide) f_25 (fun _ h9 => h9) rfl dX5_claims_30 ?_
          refine lv_iload_n hx hb dX5_claims_33 rfl (lv_at hl 1 rfl) ?_
          refine x_iald hx hb hK hP 3 rfl i (by omega) (by decide) dX5_claims_34 ?_
          refine x_iald hx hb hK hP 1 rfl (fi i) (by omega) (by decide) dX5_claims_35 ?_
          refine lv_iconst (v := (-1)) hx hb dX5_claims_36 (by decide) ?_
          refine lv_icmp_ne hx hb (tgt := 66) dX5_claims_37 (by decide) (fun c_37 => ?_) (fun c_37 => ?_)
          · refine lv_iload_n hx hb dX5_claims_66 rfl (lv_at hl 2 rfl) ?_
            have e9 : a = (claim g (fi i) (mn i)).length := drop_nil (by first | rw [hd, clmD_40 _ _ _ _ _ c_12] | rw [hd, clmD_m _ _ _ _ _ c_22] | rw [hd, clmD_no c_37]) hal
            rw [e9, List.take_length] at hP
            have hP : va_P G.1 vwCl [(ma 0, .inr (6, [.ref (ma 1), .ref (ma 2), .int (nI fl), .ref (ma 3), .ref (ma 4), .ref (ma 5), .ref (ma 6), .ref (ma 7), .ref (ma 8), .int (nI tg), .ref (ma 9), .ref (ma 10), .int (nI tn)])), (ma 2, .inl (G.2 0, 40, .inl g)), (ma 4, .inl (G.2 0, 30, .inl (fun i9 => nI (mn i9)))), (ma 6, .inl (G.2 0, 30, .inl (fun i9 => nI (fi i9)))), (ma 9, .inl (G.2 0, 8, .inl (lay cl (claim g (fi i) (mn i)))))] H := by exact hP
            exact x_iret hx hb hr (by rw [e9]) hP hS dX5_claims_67 hlk
          · refine lv_aload_n hx hb dX5_claims_40 rfl (lv_at hl 0 rfl) ?_
            refine va_get (D := G.1) (ci := 6) (v := .ref (ma 2)) (C := RX5) (T := TX5) (N := 13) hx hb hts i_X5 hown hK hP 0 rfl rfl 1 (by decide) f_13 (fun _ h9 => h9) rfl dX5_claims_41 ?_
            refine lv_iload_n hx hb dX5_claims_44 rfl (lv_at hl 3 rfl) ?_
            refine x_iald hx hb hK hP 1 rfl k (by omega) (by decide) dX5_claims_45 ?_
            refine lv_iconst (v := (-1)) hx hb dX5_claims_46 (by decide) ?_
            refine lv_icmp_ne hx hb (tgt := 60) dX5_claims_47 (by decide) (fun c_47 => ?_) (fun c_47 => ?_)
            · have hd9 : (claim g (fi i) (mn i)).drop a = clmD g (fi i) (mn i) (k + 1) a := by rw [hd, clmD_f c_37 c_12 c_22 c_47]
              have hal9 := hal
              refine lv_iinc (v := nI (k + 1)) (lv' := [(3, .int (nI (k + 1))), (0, .ref (ma 0)), (1, .int (nI i)), (2, .int (nI a))]) hx hb dX5_claims_60 hl (k := 3) rfl (x_inc _) (by decide) rfl (fun ls hl => ?_)
              refine lv_goto (tgt := 9) hx hb dX5_claims_63 (by decide) ?_
              have e0 : lay cl (List.take 0 (claim g (fi i) (mn i))) = cl := by rw [List.take_zero]; exact lay_nil cl
              try rw [← e0] at hP hD
              exact ih9 (k + 1) a (by omega) (by omega) (by omega) hd9 hal9 _ _ hP hD hS ls (lv_sub hl [1, 2, 3, 0] rfl)
            · have hd8 := drop_cons (hd.trans (clmD_t c_37 c_12 c_22 c_47))
              have hd9 := hd8.2
              have hal9 : a + 1 ≤ (claim g (fi i) (mn i)).length := getElem?_len hd8.1
              refine lv_aload_n hx hb dX5_claims_50 rfl (lv_at hl 0 rfl) ?_
              refine va_get (D := G.1) (ci := 6) (v := .ref (ma 9)) (C := RX5) (T := TX5) (N := 13) hx hb hts i_X5 hown hK hP 0 rfl rfl 10 (by decide) f_34 (fun _ h9 => h9) rfl dX5_claims_51 ?_
              refine lv_iload_n hx hb dX5_claims_54 rfl (lv_at hl 2 rfl) ?_
              refine lv_iload_n hx hb dX5_claims_55 rfl (lv_at hl 3 rfl) ?_
              refine x_iast hx hb hK hP hD hS 4 rfl a (by omega) (by decide) dX5_claims_56 (fun H locs hP hD hS => ?_)
              have hP : va_P G.1 vwCl [(ma 0, .inr (6, [.ref (ma 1), .ref (ma 2), .int (nI fl), .ref (ma 3), .ref (ma 4), .ref (ma 5), .ref (ma 6), .ref (ma 7), .ref (ma 8), .int (nI tg), .ref (ma 9), .ref (ma 10), .int (nI tn)])), (ma 2, .inl (G.2 0, 40, .inl g)), (ma 4, .inl (G.2 0, 30, .inl (fun i9 => nI (mn i9)))), (ma 6, .inl (G.2 0, 30, .inl (fun i9 => nI (fi i9)))), (ma 9, .inl (G.2 0, 8, .inl (upd (lay cl ((claim g (fi i) (mn i)).take a)) a (nI k))))] H := hP
              have hD : va_D A [(ma 0, .inr (6, [.ref (ma 1), .ref (ma 2), .int (nI fl), .ref (ma 3), .ref (ma 4), .ref (ma 5), .ref (ma 6), .ref (ma 7), .ref (ma 8), .int (nI tg), .ref (ma 9), .ref (ma 10), .int (nI tn)])), (ma 2, .inl (G.2 0, 40, .inl g)), (ma 4, .inl (G.2 0, 30, .inl (fun i9 => nI (mn i9)))), (ma 6, .inl (G.2 0, 30, .inl (fun i9 => nI (fi i9)))), (ma 9, .inl (G.2 0, 8, .inl (upd (lay cl ((claim g (fi i) (mn i)).take a)) a (nI k))))] := hD
              rw [lay_next hd8.1] at hP hD
              have hP : va_P G.1 vwCl [(ma 0, .inr (6, [.ref (ma 1), .ref (ma 2), .int (nI fl), .ref (ma 3), .ref (ma 4), .ref (ma 5), .ref (ma 6), .ref (ma 7), .ref (ma 8), .int (nI tg), .ref (ma 9), .ref (ma 10), .int (nI tn)])), (ma 2, .inl (G.2 0, 40, .inl g)), (ma 4, .inl (G.2 0, 30, .inl (fun i9 => nI (mn i9)))), (ma 6, .inl (G.2 0, 30, .inl (fun i9 => nI (fi i9)))), (ma 9, .inl (G.2 0, 8, .inl (lay cl ((claim g (fi i) (mn i)).take (a + 1)))))] H := hP
              have hD : va_D A [(ma 0, .inr (6, [.ref (ma 1), .ref (ma 2), .int (nI fl), .ref (ma 3), .ref (ma 4), .ref (ma 5), .ref (ma 6), .ref (ma 7), .ref (ma 8), .int (nI tg), .ref (ma 9), .ref (ma 10), .int (nI tn)])), (ma 2, .inl (G.2 0, 40, .inl g)), (ma 4, .inl (G.2 0, 30, .inl (fun i9 => nI (mn i9)))), (ma 6, .inl (G.2 0, 30, .inl (fun i9 => nI (fi i9)))), (ma 9, .inl (G.2 0, 8, .inl (lay cl ((claim g (fi i) (mn i)).take (a + 1)))))] := hD
              refine lv_iinc (v := nI (a + 1)) (lv' := [(2, .int (nI (a + 1))), (0, .ref (ma 0)), (1, .int (nI i)), (3, .int (nI k))]) hx hb dX5_claims_57 hl (k := 2) rfl (x_inc _) (by decide) rfl (fun ls hl => ?_)
              refine lv_iinc (v := nI (k + 1)) (lv' := [(3, .int (nI (k + 1))), (2, .int (nI (a + 1))), (0, .ref (ma 0)), (1, .int (nI i))]) hx hb dX5_claims_60 hl (k := 3) rfl (x_inc _) (by decide) rfl (fun ls hl => ?_)
              refine lv_goto (tgt := 9) hx hb dX5_claims_63 (by decide) ?_
              have e0 : lay cl (List.take 0 (claim g (fi i) (mn i))) = cl := by rw [List.take_zero]; exact lay_nil cl
              try rw [← e0] at hP hD
              exact ih9 (k + 1) (a + 1) (by omega) (by omega) (by omega) hd9 hal9 _ _ hP hD hS ls (lv_sub hl [2, 3, 1, 0] rfl)
  have e0 : lay cl (List.take 0 (claim g (fi i) (mn i))) = cl := by rw [List.take_zero]; exact lay_nil cl
  try rw [← e0] at hP hD
  exact loop9 _ (fi i) 0 (Nat.lt_succ_self _) (by omega) (by omega) rfl (Nat.zero_le _) _ _ hP hD hS ls (lv_sub hl [2, 3, 1, 0] rfl)

set_option maxHeartbeats 4000000 in
set_option maxRecDepth 100000 in
theorem c_X5_part (l : Launch) (G : xG) (ma : Nat → Nat) (fl : Nat) (tg : Nat) (tn : Nat) (num : Nat → Int32) (a : Nat) (r : Nat) (ha : a < 40) (hr9 : r < 4) : xMet l G yX5_part wsX5_part ({ frames := 0, cells := 0, slots := 0, locals := 0 } : Room) [.ref (ma 0), .int (nI a), .int (nI r)] [(ma 0, .inr (6, [.ref (ma 1), .ref (ma 2), .int (nI fl), .ref (ma 3), .ref (ma 4), .ref (ma 5), .ref (ma 6), .ref (ma 7), .ref (ma 8), .int (nI tg), .ref (ma 9), .ref (ma 10), .int (nI tn)])), (ma 1, .inl (G.2 0, 160, .inl num))] (some (.int (prt num a r 4))) [(ma 0, .inr (6, [.ref (ma 1), .ref (ma 2), .int (nI fl), .ref (ma 3), .ref (ma 4), .ref (ma 5), .ref (ma 6), .ref (ma 7), .ref (ma 8), .int (nI tg), .ref (ma 9), .ref (ma 10), .int (nI tn)])), (ma 1, .inl (G.2 0, 160, .inl num))] := by
  refine x_of (cc := cX5_part) (maxL := 5) (ret := (some .int)) (by decide +kernel) rfl (Nat.le_of_ble_eq_true rfl) ?_
  intro p e s m below meth c A ls hx hb hml hown hts hr hlk hP hD hK hN hA hS hl
  have i_X5 : ∀ w ∈ wsX50, w ∈ wsX5_part := by decide +kernel
  have f_7 := hts (.fieldLink RX5 7 "GraveyardReaderModel" "numbers" "[I") (by decide +kernel)
  have hl : lv_has ls 5 [(0, .ref (ma 0)), (1, .int (nI a)), (2, .int (nI r))] := hl
  have hP : va_P G.1 vwCl [(ma 0, .inr (6, [.ref (ma 1), .ref (ma 2), .int (nI fl), .ref (ma 3), .ref (ma 4), .ref (ma 5), .ref (ma 6), .ref (ma 7), .ref (ma 8), .int (nI tg), .ref (ma 9), .ref (ma 10), .int (nI tn)])), (ma 1, .inl (G.2 0, 160, .inl num))] s.heap := hP
  refine lv_iconst (v := nI 0) hx hb dX5_part_0 (by decide) ?_
  refine lv_istore_n (lv' := [(3, .int (nI 0)), (0, .ref (ma 0)), (1, .int (nI a)), (2, .int (nI r))]) hx hb dX5_part_1 rfl hl (by decide) rfl (fun ls hl => ?_)
  refine lv_iconst (v := nI 0) hx hb dX5_part_2 (by decide) ?_
  refine lv_istore (lv' := [(4, .int (nI 0)), (3, .int (nI 0)), (0, .ref (ma 0)), (1, .int (nI a)), (2, .int (nI r))]) hx hb dX5_part_3 hl (by decide) rfl (fun ls hl => ?_)
  have loop5 : ∀ (n9 : Nat) (k : Nat) (z : Int32), 4 - k < n9 → (k ≤ 4) → (z = prt num a r k) → ∀ (H : Heap) (locs : List Loc), va_P G.1 vwCl [(ma 0, .inr (6, [.ref (ma 1), .ref (ma 2), .int (nI fl), .ref (ma 3), .ref (ma 4), .ref (ma 5), .ref (ma 6), .ref (ma 7), .ref (ma 8), .int (nI tg), .ref (ma 9), .ref (ma 10), .int (nI tn)])), (ma 1, .inl (G.2 0, 160, .inl num))] H → va_D A [(ma 0, .inr (6, [.ref (ma 1), .ref (ma 2), .int (nI fl), .ref (ma 3), .ref (ma 4), .ref (ma 5), .ref (ma 6), .ref (ma 7), .ref (ma 8), .int (nI tg), .ref (ma 9), .ref (ma 10), .int (nI tn)])), (ma 1, .inl (G.2 0, 160, .inl num))] → va_S A s.heap H locs → ∀ (ls : Array Slot), lv_has ls 5 [(0, .ref (ma 0)), (1, .int (nI a)), (2, .int (nI r)), (3, .int z), (4, .int (nI k))] → xW p l e wsX5_part ({ frames := 0, cells := 0, slots := 0, locals := 0 } : Room) s m [.ref (ma 0), .int (nI a), .int (nI r)] below meth c G (some (.int (prt num a r 4))) [(ma 0, .inr (6, [.ref (ma 1), .ref (ma 2), .int (nI fl), .ref (ma 3), .ref (ma 4), .ref (ma 5), .ref (ma 6), .ref (ma 7), .ref (ma 8), .int (nI tg), .ref (ma 9), .ref (ma 10), .int (nI tn)])), (ma 1, .inl (G.2 0, 160, .inl num))] A H locs (F0 m 5 ls []) := by
    intro n9
    induction n9 with
    | zero => intro k z h9; exact absurd h9 (Nat.not_lt_zero _)
    | succ n9 ih5 =>
      intro k z h9 hk hz H locs hP hD hS ls hl
      refine lv_iload hx hb dX5_part_5 (lv_at hl 4 rfl) ?_
      refine lv_iconst (v := nI 4) hx hb dX5_part_7 (by decide) ?_
      refine x_icmp_ge hx hb (tgt := 40) (a := k) (b := 4) (by omega) (by omega) dX5_part_8 (by decide) (fun c_8 => ?_) (fun c_8 => ?_)
      · have e9 : k = 4 := by omega
        subst e9
        refine lv_iload_n hx hb dX5_part_40 rfl (lv_at hl 3 rfl) ?_
        exact x_iret hx hb hr hz hP hS dX5_part_41 hlk
      · refine lv_iload_n hx hb dX5_part_11 rfl (lv_at hl 3 rfl) ?_
        refine lv_aload_n hx hb dX5_part_12 rfl (lv_at hl 0 rfl) ?_
        refine va_get (D := G.1) (ci := 6) (v := .ref (ma 1)) (C := RX5) (T := TX5) (N := 13) hx hb hts i_X5 hown hK hP 0 rfl rfl 0 (by decide) f_7 (fun _ h9 => h9) rfl dX5_part_13 ?_
        refine lv_iconst (v := nI 4) hx hb dX5_part_16 (by decide) ?_
        refine lv_iload_n hx hb dX5_part_17 rfl (lv_at hl 1 rfl) ?_
        refine lv_imul hx hb dX5_part_18 ?_
        refine x_top (y := nI (4 * a)) (pk_mul _ _) ?_
        refine lv_iload hx hb dX5_part_19 (lv_at hl 4 rfl) ?_
        refine lv_iadd hx hb dX5_part_21 ?_
        refine x_top (y := nI ((4 * a) + k)) (nI_add _ _) ?_
        refine x_iald hx hb hK hP 1 rfl ((4 * a) + k) (by omega) (by decide) dX5_part_22 ?_
        refine lv_iconst (v := nI 4) hx hb dX5_part_23 (by decide) ?_
        refine lv_iload_n hx hb dX5_part_24 rfl (lv_at hl 2 rfl) ?_
        refine lv_imul hx hb dX5_part_25 ?_
        refine x_top (y := nI (4 * r)) (pk_mul _ _) ?_
        refine lv_iload hx hb dX5_part_26 (lv_at hl 4 rfl) ?_
        refine lv_iadd hx hb dX5_part_28 ?_
        refine x_top (y := nI ((4 * r) + k)) (nI_add _ _) ?_
        refine lv_iconst (v := nI 1) hx hb dX5_part_29 (by decide) ?_
        refine lv_iadd hx hb dX5_part_30 ?_
        refine x_top (y := nI (((4 * r) + k) + 1)) (nI_add _ _) ?_
        refine lv_imul hx hb dX5_part_31 ?_
        refine lv_iadd hx hb dX5_part_32 ?_
        refine lv_istore_n (lv' := [(3, .int (z + ((num ((4 * a) + k)) * (nI (((4 * r) + k) + 1))))), (0, .ref (ma 0)), (1, .int (nI a)), (2, .int (nI r)), (4, .int (nI k))]) hx hb dX5_part_33 rfl hl (by decide) rfl (fun ls hl => ?_)
        refine lv_iinc (v := nI (k + 1)) (lv' := [(4, .int (nI (k + 1))), (3, .int (z + ((num ((4 * a) + k)) * (nI (((4 * r) + k) + 1))))), (0, .ref (ma 0)), (1, .int (nI a)), (2, .int (nI r))]) hx hb dX5_part_34 hl (k := 4) rfl (x_inc _) (by decide) rfl (fun ls hl => ?_)
        refine lv_goto (tgt := 5) hx hb dX5_part_37 (by decide) ?_
        exact ih5 (k + 1) (z + ((num ((4 * a) + k)) * (nI (((4 * r) + k) + 1)))) (by omega) (by omega) (by rw [hz]; rfl) _ _ hP hD hS ls (lv_sub hl [2, 3, 4, 1, 0] rfl)
  exact loop5 _ 0 (nI 0) (Nat.lt_succ_self _) (by omega) rfl _ _ hP hD hS ls (lv_sub hl [2, 3, 4, 1, 0] rfl)

set_option maxHeartbeats 4000000 in
set_option maxRecDepth 100000 in
theorem c_X5_isJoin (l : Launch) (G : xG) (ma : Nat → Nat) (fl : Nat) (tg : Nat) (tn : Nat) (num : Nat → Int32) (mn : Nat → Nat) (su : Nat → Int32) (jn : Nat → Int32) (ch : Nat → Nat) (i : Nat) (hi : i < 30) (hm : 1 ≤ mn i ∧ mn i ≤ 4) (hj : isCh jn (mn i) ch) : xMet l G yX5_isJoin wsX5_isJoin ({ frames := 1, cells := 0, slots := 0, locals := 24 } : Room) [.ref (ma 0), .int (nI i)] [(ma 0, .inr (6, [.ref (ma 1), .ref (ma 2), .int (nI fl), .ref (ma 3), .ref (ma 4), .ref (ma 5), .ref (ma 6), .ref (ma 7), .ref (ma 8), .int (nI tg), .ref (ma 9), .ref (ma 10), .int (nI tn)])), (ma 1, .inl (G.2 0, 160, .inl num)), (ma 4, .inl (G.2 0, 30, .inl (fun i9 => nI (mn i9)))), (ma 7, .inl (G.2 0, 30, .inl su)), (ma 10, .inl (G.2 0, 4, .inl jn))] (some (.int (bI (okJ num ch (mn i) (su i))))) [(ma 0, .inr (6, [.ref (ma 1), .ref (ma 2), .int (nI fl), .ref (ma 3), .ref (ma 4), .ref (ma 5), .ref (ma 6), .ref (ma 7), .ref (ma 8), .int (nI tg), .ref (ma 9), .ref (ma 10), .int (nI tn)])), (ma 1, .inl (G.2 0, 160, .inl num)), (ma 4, .inl (G.2 0, 30, .inl (fun i9 => nI (mn i9)))), (ma 7, .inl (G.2 0, 30, .inl su)), (ma 10, .inl (G.2 0, 4, .inl jn))] := by
  refine x_of (cc := cX5_isJoin) (maxL := 5) (ret := (some .boolean)) (by decide +kernel) rfl (Nat.le_of_ble_eq_true rfl) ?_
  intro p e s m below meth c A ls hx hb hml hown hts hr hlk hP hD hK hN hA hS hl
  have i_X5 : ∀ w ∈ wsX50, w ∈ wsX5_isJoin := by decide +kernel
  have f_7 := hts (.fieldLink RX5 7 "GraveyardReaderModel" "numbers" "[I") (by decide +kernel)
  have f_19 := hts (.fieldLink RX5 19 "GraveyardReaderModel" "many" "[I") (by decide +kernel)
  have f_28 := hts (.fieldLink RX5 28 "GraveyardReaderModel" "sum" "[I") (by decide +kernel)
  have f_37 := hts (.fieldLink RX5 37 "GraveyardReaderModel" "join" "[I") (by decide +kernel)
  have hl : lv_has ls 5 [(0, .ref (ma 0)), (1, .int (nI i))] := hl
  have hP : va_P G.1 vwCl [(ma 0, .inr (6, [.ref (ma 1), .ref (ma 2), .int (nI fl), .ref (ma 3), .ref (ma 4), .ref (ma 5), .ref (ma 6), .ref (ma 7), .ref (ma 8), .int (nI tg), .ref (ma 9), .ref (ma 10), .int (nI tn)])), (ma 1, .inl (G.2 0, 160, .inl num)), (ma 4, .inl (G.2 0, 30, .inl (fun i9 => nI (mn i9)))), (ma 7, .inl (G.2 0, 30, .inl su)), (ma 10, .inl (G.2 0, 4, .inl jn))] s.heap := hP
  obtain ⟨hm1, hm2⟩ := hm
  have hmi : mn i < 5 := by omega
  refine lv_aload_n hx hb dX5_isJoin_0 rfl (lv_at hl 0 rfl) ?_
  refine va_get (D := G.1) (ci := 6) (v := .ref (ma 4)) (C := RX5) (T := TX5) (N := 13) hx hb hts i_X5 hown hK hP 0 rfl rfl 4 (by decide) f_19 (fun _ h9 => h9) rfl dX5_isJoin_1 ?_
  refine lv_iload_n hx hb dX5_isJoin_4 rfl (lv_at hl 1 rfl) ?_
  refine x_iald hx hb hK hP 2 rfl i (by omega) (by decide) dX5_isJoin_5 ?_
  refine lv_iconst (v := nI 1) hx hb dX5_isJoin_6 (by decide) ?_
  refine lv_isub hx hb dX5_isJoin_7 ?_
  refine x_top (y := nI ((mn i) - 1)) (pk_sub (by omega)) ?_
  refine lv_istore_n (lv' := [(2, .int (nI ((mn i) - 1))), (0, .ref (ma 0)), (1, .int (nI i))]) hx hb dX5_isJoin_8 rfl hl (by decide) rfl (fun ls hl => ?_)
  refine lv_iconst (v := nI 0) hx hb dX5_isJoin_9 (by decide) ?_
  refine lv_istore_n (lv' := [(3, .int (nI 0)), (2, .int (nI ((mn i) - 1))), (0, .ref (ma 0)), (1, .int (nI i))]) hx hb dX5_isJoin_10 rfl hl (by decide) rfl (fun ls hl => ?_)
  refine lv_iconst (v := nI 0) hx hb dX5_isJoin_11 (by decide) ?_
  refine lv_istore (lv' := [(4, .int (nI 0)), (3, .int (nI 0)), (2, .int (nI ((mn i) - 1))), (0, .ref (ma 0)), (1, .int (nI i))]) hx hb dX5_isJoin_12 hl (by decide) rfl (fun ls hl => ?_)
  have loop14 : ∀ (n9 : Nat) (k : Nat) (z : Int32), mn i - k < n9 → (k ≤ mn i) → (z = jsum num ch k) → ∀ (H : Heap) (locs : List Loc), va_P G.1 vwCl [(ma 0, .inr (6, [.ref (ma 1), .ref (ma 2), .int (nI fl), .ref (ma 3), .ref (ma 4), .ref (ma 5), .ref (ma 6), .ref (ma 7), .ref (ma 8), .int (nI tg), .ref (ma 9), .ref (ma 10), .int (nI tn)])), (ma 1, .inl (G.2 0, 160, .inl num)), (ma 4, .inl (G.2 0, 30, .inl (fun i9 => nI (mn i9)))), (ma 7, .inl (G.2 0, 30, .inl su)), (ma 10, .inl (G.2 0, 4, .inl jn))] H → va_D A [(ma 0, .inr (6, [.ref (ma 1), .ref (ma 2), .int (nI fl), .ref (ma 3), .ref (ma 4), .ref (ma 5), .ref (ma 6), .ref (ma 7), .ref (ma 8), .int (nI tg), .ref (ma 9), .ref (ma 10), .int (nI tn)])), (ma 1, .inl (G.2 0, 160, .inl num)), (ma 4, .inl (G.2 0, 30, .inl (fun i9 => nI (mn i9)))), (ma 7, .inl (G.2 0, 30, .inl su)), (ma 10, .inl (G.2 0, 4, .inl jn))] → va_S A s.heap H locs → ∀ (ls : Array Slot), lv_has ls 5 [(0, .ref (ma 0)), (1, .int (nI i)), (2, .int (nI (mn i - 1))), (3, .int z), (4, .int (nI k))] → xW p l e wsX5_isJoin ({ frames := 1, cells := 0, slots := 0, locals := 24 } : Room) s m [.ref (ma 0), .int (nI i)] below meth c G (some (.int (bI (okJ num ch (mn i) (su i))))) [(ma 0, .inr (6, [.ref (ma 1), .ref (ma 2), .int (nI fl), .ref (ma 3), .ref (ma 4), .ref (ma 5), .ref (ma 6), .ref (ma 7), .ref (ma 8), .int (nI tg), .ref (ma 9), .ref (ma 10), .int (nI tn)])), (ma 1, .inl (G.2 0, 160, .inl num)), (ma 4, .inl (G.2 0, 30, .inl (fun i9 => nI (mn i9)))), (ma 7, .inl (G.2 0, 30, .inl su)), (ma 10, .inl (G.2 0, 4, .inl jn))] A H locs (F0 m 14 ls []) := by
    intro n9
    induction n9 with
    | zero => intro k z h9; exact absurd h9 (Nat.not_lt_zero _)
    | succ n9 ih14 =>
      intro k z h9 hk hz H locs hP hD hS ls hl
      refine lv_iload hx hb dX5_isJoin_14 (lv_at hl 4 rfl) ?_
      refine lv_iload_n hx hb dX5_isJoin_16 rfl (lv_at hl 2 rfl) ?_
      refine x_icmp_gt hx hb (tgt := 42) (a := k) (b := mn i - 1) (by omega) (by omega) dX5_isJoin_17 (by decide) (fun c_17 => ?_) (fun c_17 => ?_)
      · have e9 : k = mn i := by omega
        subst e9
        refine lv_iload_n hx hb dX5_isJoin_42 rfl (lv_at hl 3 rfl) ?_
        refine lv_sipush (v := nI 9973) hx hb dX5_isJoin_43 (by decide) ?_
        refine lv_irem hx hb dX5_isJoin_46 (by decide) ?_
        refine lv_aload_n hx hb dX5_isJoin_47 rfl (lv_at hl 0 rfl) ?_
        refine va_get (D := G.1) (ci := 6) (v := .ref (ma 7)) (C := RX5) (T := TX5) (N := 13) hx hb hts i_X5 hown hK hP 0 rfl rfl 7 (by decide) f_28 (fun _ h9 => h9) rfl dX5_isJoin_48 ?_
        refine lv_iload_n hx hb dX5_isJoin_51 rfl (lv_at hl 1 rfl) ?_
        refine x_iald hx hb hK hP 3 rfl i (by omega) (by decide) dX5_isJoin_52 ?_
        refine lv_icmp_ne hx hb (tgt := 83) dX5_isJoin_53 (by decide) (fun c_53 => ?_) (fun c_53 => ?_)
        · refine lv_iconst (v := nI 0) hx hb dX5_isJoin_83 (by decide) ?_
          exact x_zret hx hb hr (by subst hz; first | (rw [okJ, decide_eq_false (fun q => c_53 q.1)]; rfl) | (rw [okJ, decide_eq_false (fun q => c_76 q.2)]; rfl) | (rw [okJ, decide_eq_true ⟨c_53, c_76⟩]; rfl)) (by decide) hP hS dX5_isJoin_84 hlk
        · refine lv_aload_n hx hb dX5_isJoin_56 rfl (lv_at hl 0 rfl) ?_
          refine va_get (D := G.1) (ci := 6) (v := .ref (ma 1)) (C := RX5) (T := TX5) (N := 13) hx hb hts i_X5 hown hK hP 0 rfl rfl 0 (by decide) f_7 (fun _ h9 => h9) rfl dX5_isJoin_57 ?_
          refine lv_iconst (v := nI 4) hx hb dX5_isJoin_60 (by decide) ?_
          refine lv_aload_n hx hb dX5_isJoin_61 rfl (lv_at hl 0 rfl) ?_
          refine va_get (D := G.1) (ci := 6) (v := .ref (ma 10)) (C := RX5) (T := TX5) (N := 13) hx hb hts i_X5 hown hK hP 0 rfl rfl 11 (by decide) f_37 (fun _ h9 => h9) rfl dX5_isJoin_62 ?_
          refine lv_iload_n hx hb dX5_isJoin_65 rfl (lv_at hl 2 rfl) ?_
          refine x_iald hx hb hK hP 4 rfl (mn i - 1) (by omega) (by decide) dX5_isJoin_66 ?_
          refine x_top (y := nI (ch (mn i - 1))) ((hj (mn i - 1) (by omega)).1) ?_
          have hc8 := (hj (mn i - 1) (by omega)).2
          refine lv_imul hx hb dX5_isJoin_67 ?_
          refine x_top (y := nI (4 * (ch (mn i - 1)))) (pk_mul _ _) ?_
          refine lv_iconst (v := nI 4) hx hb dX5_isJoin_68 (by decide) ?_
          refine lv_iadd hx hb dX5_isJoin_69 ?_
          refine x_top (y := nI ((4 * (ch (mn i - 1))) + 4)) (nI_add _ _) ?_
          refine lv_iconst (v := nI 1) hx hb dX5_isJoin_70 (by decide) ?_
          refine lv_isub hx hb dX5_isJoin_71 ?_
          refine x_top (y := nI (((4 * (ch (mn i - 1))) + 4) - 1)) (pk_sub (by omega)) ?_
          refine x_iald hx hb hK hP 1 rfl (((4 * (ch (mn i - 1))) + 4) - 1) (by omega) (by decide) dX5_isJoin_72 ?_
          refine lv_sipush (v := nI 254) hx hb dX5_isJoin_73 (by decide) ?_
          refine lv_icmp_ne hx hb (tgt := 83) dX5_isJoin_76 (by decide) (fun c_76 => ?_) (fun c_76 => ?_)
          · refine lv_iconst (v := nI 0) hx hb dX5_isJoin_83 (by decide) ?_
            exact x_zret hx hb hr (by subst hz; first | (rw [okJ, decide_eq_false (fun q => c_53 q.1)]; rfl) | (rw [okJ, decide_eq_false (fun q => c_76 q.2)]; rfl) | (rw [okJ, decide_eq_true ⟨c_53, c_76⟩]; rfl)) (by decide) hP hS dX5_isJoin_84 hlk
          · refine lv_iconst (v := nI 1) hx hb dX5_isJoin_79 (by decide) ?_
            refine lv_goto (tgt := 84) hx hb dX5_isJoin_80 (by decide) ?_
            exact x_zret hx hb hr (by subst hz; first | (rw [okJ, decide_eq_false (fun q => c_53 q.1)]; rfl) | (rw [okJ, decide_eq_false (fun q => c_76 q.2)]; rfl) | (rw [okJ, decide_eq_true ⟨c_53, c_76⟩]; rfl)) (by decide) hP hS dX5_isJoin_84 hlk
      · refine lv_iload_n hx hb dX5_isJoin_20 rfl (lv_at hl 3 rfl) ?_
        refine lv_aload_n hx hb dX5_isJoin_21 rfl (lv_at hl 0 rfl) ?_
        refine lv_aload_n hx hb dX5_isJoin_22 rfl (lv_at hl 0 rfl) ?_
        refine va_get (D := G.1) (ci := 6) (v := .ref (ma 10)) (C := RX5) (T := TX5) (N := 13) hx hb hts i_X5 hown hK hP 0 rfl rfl 11 (by decide) f_37 (fun _ h9 => h9) rfl dX5_isJoin_23 ?_
        refine lv_iload hx hb dX5_isJoin_26 (lv_at hl 4 rfl) ?_
        refine x_iald hx hb hK hP 4 rfl k (by omega) (by decide) dX5_isJoin_28 ?_
        refine x_top (y := nI (ch k)) ((hj k (by omega)).1) ?_
        refine lv_iload hx hb dX5_isJoin_29 (lv_at hl 4 rfl) ?_
        have hc9 := (hj k (by omega)).2
        refine x_callV (As := [.int (nI (ch k)), .int (nI k)]) (rest := [.int z]) (w9 := [(ma 0, .inr (6, [.ref (ma 1), .ref (ma 2), .int (nI fl), .ref (ma 3), .ref (ma 4), .ref (ma 5), .ref (ma 6), .ref (ma 7), .ref (ma 8), .int (nI tg), .ref (ma 9), .ref (ma 10), .int (nI tn)])), (ma 1, .inl (G.2 0, 160, .inl num)), (ma 4, .inl (G.2 0, 30, .inl (fun i9 => nI (mn i9)))), (ma 7, .inl (G.2 0, 30, .inl su)), (ma 10, .inl (G.2 0, 4, .inl jn))]) ⟨hx, hb, hml, hown, hts⟩ (c_X5_part l G ma fl tg tn num (ch k) k hc9 (by omega)) (cwV 2 hts gX5_isJoin_X5_part rfl rfl rfl (by decide +kernel) ⟨Nat.le_of_ble_eq_true rfl, Nat.le_of_ble_eq_true rfl⟩) hK hN hP hD hS hA [0, 1] (by decide) rfl rfl 0 rfl rfl rfl hl.1 rfl (Nat.le_of_ble_eq_true rfl) dX5_isJoin_31 ⟨Nat.le_of_ble_eq_true rfl, Nat.le_of_ble_eq_true rfl⟩ rfl (fun H locs hP hD hS => ?_)
        refine W.eq (g2 := F0 m 34 ls [.int (prt num (ch k) k 4), .int z]) rfl ?_
        refine lv_iadd hx hb dX5_isJoin_34 ?_
        refine lv_istore_n (lv' := [(3, .int (z + (prt num (ch k) k 4))), (0, .ref (ma 0)), (1, .int (nI i)), (2, .int (nI (mn i - 1))), (4, .int (nI k))]) hx hb dX5_isJoin_35 rfl hl (by decide) rfl (fun ls hl => ?_)
        refine lv_iinc (v := nI (k + 1)) (lv' := [(4, .int (nI (k + 1))), (3, .int (z + (prt num (ch k) k 4))), (0, .ref (ma 0)), (1, .int (nI i)), (2, .int (nI (mn i - 1)))]) hx hb dX5_isJoin_36 hl (k := 4) rfl (x_inc _) (by decide) rfl (fun ls hl => ?_)
        refine lv_goto (tgt := 14) hx hb dX5_isJoin_39 (by decide) ?_
        exact ih14 (k + 1) (z + (prt num (ch k) k 4)) (by omega) (by omega) (by rw [hz]; rfl) _ _ hP hD hS ls (lv_sub hl [2, 3, 4, 1, 0] rfl)
  exact loop14 _ 0 (nI 0) (Nat.lt_succ_self _) (by omega) rfl _ _ hP hD hS ls (lv_sub hl [3, 4, 2, 1, 0] rfl)

set_option maxHeartbeats 4000000 in
set_option maxRecDepth 100000 in
theorem c_X5_fits (l : Launch) (G : xG) (ma : Nat → Nat) (fl : Nat) (tg : Nat) (tn : Nat) (g : Nat → Int32) (jn : Nat → Int32) (ch : Nat → Nat) (r : Nat) (hr9 : r < 4) (hj : isCh jn (r + 1) ch) : xMet l G yX5_fits wsX5_fits ({ frames := 0, cells := 0, slots := 0, locals := 0 } : Room) [.ref (ma 0), .int (nI r)] [(ma 0, .inr (6, [.ref (ma 1), .ref (ma 2), .int (nI fl), .ref (ma 3), .ref (ma 4), .ref (ma 5), .ref (ma 6), .ref (ma 7), .ref (ma 8), .int (nI tg), .ref (ma 9), .ref (ma 10), .int (nI tn)])), (ma 2, .inl (G.2 0, 40, .inl g)), (ma 10, .inl (G.2 0, 4, .inl jn))] (some (.int (bI (fitN g ch r r)))) [(ma 0, .inr (6, [.ref (ma 1), .ref (ma 2), .int (nI fl), .ref (ma 3), .ref (ma 4), .ref (ma 5), .ref (ma 6), .ref (ma 7), .ref (ma 8), .int (nI tg), .ref (ma 9), .ref (ma 10), .int (nI tn)])), (ma 2, .inl (G.2 0, 40, .inl g)), (ma 10, .inl (G.2 0, 4, .inl jn))] := by
  refine x_of (cc := cX5_fits) (maxL := 4) (ret := (some .boolean)) (by decide +kernel) rfl (Nat.le_of_ble_eq_true rfl) ?_
  intro p e s m below meth c A ls hx hb hml hown hts hr hlk hP hD hK hN hA hS hl
  have i_X5 : ∀ w ∈ wsX50, w ∈ wsX5_fits := by decide +kernel
  have f_13 := hts (.fieldLink RX5 13 "GraveyardReaderModel" "owner" "[I") (by decide +kernel)
  have f_37 := hts (.fieldLink RX5 37 "GraveyardReaderModel" "join" "[I") (by decide +kernel)
  have hl : lv_has ls 4 [(0, .ref (ma 0)), (1, .int (nI r))] := hl
  have hP : va_P G.1 vwCl [(ma 0, .inr (6, [.ref (ma 1), .ref (ma 2), .int (nI fl), .ref (ma 3), .ref (ma 4), .ref (ma 5), .ref (ma 6), .ref (ma 7), .ref (ma 8), .int (nI tg), .ref (ma 9), .ref (ma 10), .int (nI tn)])), (ma 2, .inl (G.2 0, 40, .inl g)), (ma 10, .inl (G.2 0, 4, .inl jn))] s.heap := hP
  refine lv_aload_n hx hb dX5_fits_0 rfl (lv_at hl 0 rfl) ?_
  refine va_get (D := G.1) (ci := 6) (v := .ref (ma 2)) (C := RX5) (T := TX5) (N := 13) hx hb hts i_X5 hown hK hP 0 rfl rfl 1 (by decide) f_13 (fun _ h9 => h9) rfl dX5_fits_1 ?_
  refine lv_aload_n hx hb dX5_fits_4 rfl (lv_at hl 0 rfl) ?_
  refine va_get (D := G.1) (ci := 6) (v := .ref (ma 10)) (C := RX5) (T := TX5) (N := 13) hx hb hts i_X5 hown hK hP 0 rfl rfl 11 (by decide) f_37 (fun _ h9 => h9) rfl dX5_fits_5 ?_
  refine lv_iload_n hx hb dX5_fits_8 rfl (lv_at hl 1 rfl) ?_
  refine x_iald hx hb hK hP 2 rfl r (by omega) (by decide) dX5_fits_9 ?_
  refine x_top (y := nI (ch r)) ((hj r (by omega)).1) ?_
  have hc8 := (hj r (by omega)).2
  refine x_iald hx hb hK hP 1 rfl (ch r) (by omega) (by decide) dX5_fits_10 ?_
  refine lv_iconst (v := (-1)) hx hb dX5_fits_11 (by decide) ?_
  refine lv_icmp_ne hx hb (tgt := 19) dX5_fits_12 (by decide) (fun c_12 => ?_) (fun c_12 => ?_)
  · refine lv_iconst (v := nI 0) hx hb dX5_fits_19 (by decide) ?_
    refine lv_istore_n (lv' := [(2, .int (nI 0)), (0, .ref (ma 0)), (1, .int (nI r))]) hx hb dX5_fits_20 rfl hl (by decide) rfl (fun ls hl => ?_)
    refine lv_iconst (v := nI 0) hx hb dX5_fits_21 (by decide) ?_
    refine lv_istore_n (lv' := [(3, .int (nI 0)), (2, .int (nI 0)), (0, .ref (ma 0)), (1, .int (nI r))]) hx hb dX5_fits_22 rfl hl (by decide) rfl (fun ls hl => ?_)
    have loop23 : ∀ (n9 : Nat) (k : Nat) (b : Bool), r - k < n9 → (k ≤ r) → (b = fitN g ch r k) → ∀ (H : Heap) (locs : List Loc), va_P G.1 vwCl [(ma 0, .inr (6, [.ref (ma 1), .ref (ma 2), .int (nI fl), .ref (ma 3), .ref (ma 4), .ref (ma 5), .ref (ma 6), .ref (ma 7), .ref (ma 8), .int (nI tg), .ref (ma 9), .ref (ma 10), .int (nI tn)])), (ma 2, .inl (G.2 0, 40, .inl g)), (ma 10, .inl (G.2 0, 4, .inl jn))] H → va_D A [(ma 0, .inr (6, [.ref (ma 1), .ref (ma 2), .int (nI fl), .ref (ma 3), .ref (ma 4), .ref (ma 5), .ref (ma 6), .ref (ma 7), .ref (ma 8), .int (nI tg), .ref (ma 9), .ref (ma 10), .int (nI tn)])), (ma 2, .inl (G.2 0, 40, .inl g)), (ma 10, .inl (G.2 0, 4, .inl jn))] → va_S A s.heap H locs → ∀ (ls : Array Slot), lv_has ls 4 [(0, .ref (ma 0)), (1, .int (nI r)), (2, .int (bI b)), (3, .int (nI k))] → xW p l e wsX5_fits ({ frames := 0, cells := 0, slots := 0, locals := 0 } : Room) s m [.ref (ma 0), .int (nI r)] below meth c G (some (.int (bI (fitN g ch r r)))) [(ma 0, .inr (6, [.ref (ma 1), .ref (ma 2), .int (nI fl), .ref (ma 3), .ref (ma 4), .ref (ma 5), .ref (ma 6), .ref (ma 7), .ref (ma 8), .int (nI tg), .ref (ma 9), .ref (ma 10), .int (nI tn)])), (ma 2, .inl (G.2 0, 40, .inl g)), (ma 10, .inl (G.2 0, 4, .inl jn))] A H locs (F0 m 23 ls []) := by
      intro n9
      induction n9 with
      | zero => intro k b h9; exact absurd h9 (Nat.not_lt_zero _)
      | succ n9 ih23 =>
        intro k b h9 hk hb9 H locs hP hD hS ls hl
        refine lv_iload_n hx hb dX5_fits_23 rfl (lv_at hl 3 rfl) ?_
        refine lv_iload_n hx hb dX5_fits_24 rfl (lv_at hl 1 rfl) ?_
        refine x_icmp_ge hx hb (tgt := 59) (a := k) (b := r) (by omega) (by omega) dX5_fits_25 (by decide) (fun c_25 => ?_) (fun c_25 => ?_)
        · have e9 : k = r := by omega
          subst e9
          refine lv_iload_n hx hb dX5_fits_59 rfl (lv_at hl 2 rfl) ?_
          exact x_zret hx hb hr (by rw [hb9]) (bI_01 _) hP hS dX5_fits_60 hlk
        · refine lv_iload_n hx hb dX5_fits_28 rfl (lv_at hl 2 rfl) ?_
          refine x_bf hx hb (tgt := 51) dX5_fits_29 (by decide) (fun c_29 => ?_) (fun c_29 => ?_)
          · refine lv_iconst (v := nI 0) hx hb dX5_fits_51 (by decide) ?_
            refine lv_istore_n (lv' := [(2, .int (nI 0)), (0, .ref (ma 0)), (1, .int (nI r)), (3, .int (nI k))]) hx hb dX5_fits_52 rfl hl (by decide) rfl (fun ls hl => ?_)
            refine lv_iinc (v := nI (k + 1)) (lv' := [(3, .int (nI (k + 1))), (2, .int (nI 0)), (0, .ref (ma 0)), (1, .int (nI r))]) hx hb dX5_fits_53 hl (k := 3) rfl (x_inc _) (by decide) rfl (fun ls hl => ?_)
            refine lv_goto (tgt := 23) hx hb dX5_fits_56 (by decide) ?_
            exact ih23 (k + 1) false (by omega) (by omega) (by rw [fitN, ← hb9]; simp_all) _ _ hP hD hS ls (lv_sub hl [2, 3, 1, 0] rfl)
          · refine lv_aload_n hx hb dX5_fits_32 rfl (lv_at hl 0 rfl) ?_
            refine va_get (D := G.1) (ci := 6) (v := .ref (ma 10)) (C := RX5) (T := TX5) (N := 13) hx hb hts i_X5 hown hK hP 0 rfl rfl 11 (by decide) f_37 (fun _ h9 => h9) rfl dX5_fits_33 ?_
            refine lv_iload_n hx hb dX5_fits_36 rfl (lv_at hl 3 rfl) ?_
            refine x_iald hx hb hK hP 2 rfl k (by omega) (by decide) dX5_fits_37 ?_
            refine x_top (y := nI (ch k)) ((hj k (by omega)).1) ?_
            have hc7 := (hj k (by omega)).2
            have hc8 := (hj r (by omega)).2
            refine lv_aload_n hx hb dX5_fits_38 rfl (lv_at hl 0 rfl) ?_
            refine va_get (D := G.1) (ci := 6) (v := .ref (ma 10)) (C := RX5) (T := TX5) (N := 13) hx hb hts i_X5 hown hK hP 0 rfl rfl 11 (by decide) f_37 (fun _ h9 => h9) rfl dX5_fits_39 ?_
            refine lv_iload_n hx hb dX5_fits_42 rfl (lv_at hl 1 rfl) ?_
            refine x_iald hx hb hK hP 2 rfl r (by omega) (by decide) dX5_fits_43 ?_
            refine x_top (y := nI (ch r)) ((hj r (by omega)).1) ?_
            refine x_icmp_eq hx hb (tgt := 51) (a := ch k) (b := ch r) (by omega) (by omega) dX5_fits_44 (by decide) (fun c_44 => ?_) (fun c_44 => ?_)
            · refine lv_iconst (v := nI 0) hx hb dX5_fits_51 (by decide) ?_
              refine lv_istore_n (lv' := [(2, .int (nI 0)), (0, .ref (ma 0)), (1, .int (nI r)), (3, .int (nI k))]) hx hb dX5_fits_52 rfl hl (by decide) rfl (fun ls hl => ?_)
              refine lv_iinc (v := nI (k + 1)) (lv' := [(3, .int (nI (k + 1))), (2, .int (nI 0)), (0, .ref (ma 0)), (1, .int (nI r))]) hx hb dX5_fits_53 hl (k := 3) rfl (x_inc _) (by decide) rfl (fun ls hl => ?_)
              refine lv_goto (tgt := 23) hx hb dX5_fits_56 (by decide) ?_
              exact ih23 (k + 1) false (by omega) (by omega) (by rw [fitN, ← hb9]; simp_all) _ _ hP hD hS ls (lv_sub hl [2, 3, 1, 0] rfl)
            · refine lv_iconst (v := nI 1) hx hb dX5_fits_47 (by decide) ?_
              refine lv_goto (tgt := 52) hx hb dX5_fits_48 (by decide) ?_
              refine lv_istore_n (lv' := [(2, .int (nI 1)), (0, .ref (ma 0)), (1, .int (nI r)), (3, .int (nI k))]) hx hb dX5_fits_52 rfl hl (by decide) rfl (fun ls hl => ?_)
              refine lv_iinc (v := nI (k + 1)) (lv' := [(3, .int (nI (k + 1))), (2, .int (nI 1)), (0, .ref (ma 0)), (1, .int (nI r))]) hx hb dX5_fits_53 hl (k := 3) rfl (x_inc _) (by decide) rfl (fun ls hl => ?_)
              refine lv_goto (tgt := 23) hx hb dX5_fits_56 (by decide) ?_
              exact ih23 (k + 1) true (by omega) (by omega) (by rw [fitN, ← hb9]; simp_all) _ _ hP hD hS ls (lv_sub hl [2, 3, 1, 0] rfl)
    exact loop23 _ 0 false (Nat.lt_succ_self _) (by omega) (by rw [fitN]; first | rw [decide_eq_true c_12] | rw [decide_eq_false c_12]) _ _ hP hD hS ls (lv_sub hl [2, 3, 1, 0] rfl)
  · refine lv_iconst (v := nI 1) hx hb dX5_fits_15 (by decide) ?_
    refine lv_goto (tgt := 20) hx hb dX5_fits_16 (by decide) ?_
    refine lv_istore_n (lv' := [(2, .int (nI 1)), (0, .ref (ma 0)), (1, .int (nI r))]) hx hb dX5_fits_20 rfl hl (by decide) rfl (fun ls hl => ?_)
    refine lv_iconst (v := nI 0) hx hb dX5_fits_21 (by decide) ?_
    refine lv_istore_n (lv' := [(3, .int (nI 0)), (2, .int (nI 1)), (0, .ref (ma 0)), (1, .int (nI r))]) hx hb dX5_fits_22 rfl hl (by decide) rfl (fun ls hl => ?_)
    have loop23 : ∀ (n9 : Nat) (k : Nat) (b : Bool), r - k < n9 → (k ≤ r) → (b = fitN g ch r k) → ∀ (H : Heap) (locs : List Loc), va_P G.1 vwCl [(ma 0, .inr (6, [.ref (ma 1), .ref (ma 2), .int (nI fl), .ref (ma 3), .ref (ma 4), .ref (ma 5), .ref (ma 6), .ref (ma 7), .ref (ma 8), .int (nI tg), .ref (ma 9), .ref (ma 10), .int (nI tn)])), (ma 2, .inl (G.2 0, 40, .inl g)), (ma 10, .inl (G.2 0, 4, .inl jn))] H → va_D A [(ma 0, .inr (6, [.ref (ma 1), .ref (ma 2), .int (nI fl), .ref (ma 3), .ref (ma 4), .ref (ma 5), .ref (ma 6), .ref (ma 7), .ref (ma 8), .int (nI tg), .ref (ma 9), .ref (ma 10), .int (nI tn)])), (ma 2, .inl (G.2 0, 40, .inl g)), (ma 10, .inl (G.2 0, 4, .inl jn))] → va_S A s.heap H locs → ∀ (ls : Array Slot), lv_has ls 4 [(0, .ref (ma 0)), (1, .int (nI r)), (2, .int (bI b)), (3, .int (nI k))] → xW p l e wsX5_fits ({ frames := 0, cells := 0, slots := 0, locals := 0 } : Room) s m [.ref (ma 0), .int (nI r)] below meth c G (some (.int (bI (fitN g ch r r)))) [(ma 0, .inr (6, [.ref (ma 1), .ref (ma 2), .int (nI fl), .ref (ma 3), .ref (ma 4), .ref (ma 5), .ref (ma 6), .ref (ma 7), .ref (ma 8), .int (nI tg), .ref (ma 9), .ref (ma 10), .int (nI tn)])), (ma 2, .inl (G.2 0, 40, .inl g)), (ma 10, .inl (G.2 0, 4, .inl jn))] A H locs (F0 m 23 ls []) := by
      intro n9
      induction n9 with
      | zero => intro k b h9; exact absurd h9 (Nat.not_lt_zero _)
      | succ n9 ih23 =>
        intro k b h9 hk hb9 H locs hP hD hS ls hl
        refine lv_iload_n hx hb dX5_fits_23 rfl (lv_at hl 3 rfl) ?_
        refine lv_iload_n hx hb dX5_fits_24 rfl (lv_at hl 1 rfl) ?_
        refine x_icmp_ge hx hb (tgt := 59) (a := k) (b := r) (by omega) (by omega) dX5_fits_25 (by decide) (fun c_25 => ?_) (fun c_25 => ?_)
        · have e9 : k = r := by omega
          subst e9
          refine lv_iload_n hx hb dX5_fits_59 rfl (lv_at hl 2 rfl) ?_
          exact x_zret hx hb hr (by rw [hb9]) (bI_01 _) hP hS dX5_fits_60 hlk
        · refine lv_iload_n hx hb dX5_fits_28 rfl (lv_at hl 2 rfl) ?_
          refine x_bf hx hb (tgt := 51) dX5_fits_29 (by decide) (fun c_29 => ?_) (fun c_29 => ?_)
          · refine lv_iconst (v := nI 0) hx hb dX5_fits_51 (by decide) ?_
            refine lv_istore_n (lv' := [(2, .int (nI 0)), (0, .ref (ma 0)), (1, .int (nI r)), (3, .int (nI k))]) hx hb dX5_fits_52 rfl hl (by decide) rfl (fun ls hl => ?_)
            refine lv_iinc (v := nI (k + 1)) (lv' := [(3, .int (nI (k + 1))), (2, .int (nI 0)), (0, .ref (ma 0)), (1, .int (nI r))]) hx hb dX5_fits_53 hl (k := 3) rfl (x_inc _) (by decide) rfl (fun ls hl => ?_)
            refine lv_goto (tgt := 23) hx hb dX5_fits_56 (by decide) ?_
            exact ih23 (k + 1) false (by omega) (by omega) (by rw [fitN, ← hb9]; simp_all) _ _ hP hD hS ls (lv_sub hl [2, 3, 1, 0] rfl)
          · refine lv_aload_n hx hb dX5_fits_32 rfl (lv_at hl 0 rfl) ?_
            refine va_get (D := G.1) (ci := 6) (v := .ref (ma 10)) (C := RX5) (T := TX5) (N := 13) hx hb hts i_X5 hown hK hP 0 rfl rfl 11 (by decide) f_37 (fun _ h9 => h9) rfl dX5_fits_33 ?_
            refine lv_iload_n hx hb dX5_fits_36 rfl (lv_at hl 3 rfl) ?_
            refine x_iald hx hb hK hP 2 rfl k (by omega) (by decide) dX5_fits_37 ?_
            refine x_top (y := nI (ch k)) ((hj k (by omega)).1) ?_
            have hc7 := (hj k (by omega)).2
            have hc8 := (hj r (by omega)).2
            refine lv_aload_n hx hb dX5_fits_38 rfl (lv_at hl 0 rfl) ?_
            refine va_get (D := G.1) (ci := 6) (v := .ref (ma 10)) (C := RX5) (T := TX5) (N := 13) hx hb hts i_X5 hown hK hP 0 rfl rfl 11 (by decide) f_37 (fun _ h9 => h9) rfl dX5_fits_39 ?_
            refine lv_iload_n hx hb dX5_fits_42 rfl (lv_at hl 1 rfl) ?_
            refine x_iald hx hb hK hP 2 rfl r (by omega) (by decide) dX5_fits_43 ?_
            refine x_top (y := nI (ch r)) ((hj r (by omega)).1) ?_
            refine x_icmp_eq hx hb (tgt := 51) (a := ch k) (b := ch r) (by omega) (by omega) dX5_fits_44 (by decide) (fun c_44 => ?_) (fun c_44 => ?_)
            · refine lv_iconst (v := nI 0) hx hb dX5_fits_51 (by decide) ?_
              refine lv_istore_n (lv' := [(2, .int (nI 0)), (0, .ref (ma 0)), (1, .int (nI r)), (3, .int (nI k))]) hx hb dX5_fits_52 rfl hl (by decide) rfl (fun ls hl => ?_)
              refine lv_iinc (v := nI (k + 1)) (lv' := [(3, .int (nI (k + 1))), (2, .int (nI 0)), (0, .ref (ma 0)), (1, .int (nI r))]) hx hb dX5_fits_53 hl (k := 3) rfl (x_inc _) (by decide) rfl (fun ls hl => ?_)
              refine lv_goto (tgt := 23) hx hb dX5_fits_56 (by decide) ?_
              exact ih23 (k + 1) false (by omega) (by omega) (by rw [fitN, ← hb9]; simp_all) _ _ hP hD hS ls (lv_sub hl [2, 3, 1, 0] rfl)
            · refine lv_iconst (v := nI 1) hx hb dX5_fits_47 (by decide) ?_
              refine lv_goto (tgt := 52) hx hb dX5_fits_48 (by decide) ?_
              refine lv_istore_n (lv' := [(2, .int (nI 1)), (0, .ref (ma 0)), (1, .int (nI r)), (3, .int (nI k))]) hx hb dX5_fits_52 rfl hl (by decide) rfl (fun ls hl => ?_)
              refine lv_iinc (v := nI (k + 1)) (lv' := [(3, .int (nI (k + 1))), (2, .int (nI 1)), (0, .ref (ma 0)), (1, .int (nI r))]) hx hb dX5_fits_53 hl (k := 3) rfl (x_inc _) (by decide) rfl (fun ls hl => ?_)
              refine lv_goto (tgt := 23) hx hb dX5_fits_56 (by decide) ?_
              exact ih23 (k + 1) true (by omega) (by omega) (by rw [fitN, ← hb9]; simp_all) _ _ hP hD hS ls (lv_sub hl [2, 3, 1, 0] rfl)
    exact loop23 _ 0 true (Nat.lt_succ_self _) (by omega) (by rw [fitN]; first | rw [decide_eq_true c_12] | rw [decide_eq_false c_12]) _ _ hP hD hS ls (lv_sub hl [2, 3, 1, 0] rfl)
end
section
/-! Contracts whose world behind is one of many (W w1), and worlds in another order. -/
def xQe (G : xG) (v : Option Value) (Wd : va_W → Prop) (A : Nat → Prop) : Array Value → State → Outcome → State → Prop := fun _ st oc t => (oc = .returned v ∧ ∃ w1 : va_W, Wd w1 ∧ va_P G.1 vwCl w1 t.heap) ∧ va_F A st t
def xMete (l : Launch) (G : xG) (y : MethodName) (ws : List Cond) (rm : Room) (As : List Value) (wc : va_W) (v : Option Value) (Wd : va_W → Prop) : Prop :=
  ∀ sz : Nat, Met l y ws rm (va_Pc As (xPre G wc sz)) (xQe G v Wd (va_A wc sz)) 0 0 (va_A wc sz)
section XC
variable {p : Program} {l : Launch} {e : Env} {R : Room} {s : State} {m : MethodId} {args : Array Value} {below : List Frame} {meth : Method} {c : Code} {H H0 : Heap} {locs : List Loc} {cells slots : Nat} {Q : State → Prop}
variable {pc : Nat} {ls : Array Slot} {rest st0 : List Value} {A : Nat → Prop} {G : xG}
theorem x_backe {wc ws : va_W} {Wd : va_W → Prop} {v : Option Value} {a : Array Value} {mc ms : Nat} (hr : va_Run p l e R s m args below meth c H locs cells slots mc ms (F0 m pc ls st0) rest (xQe G v Wd (va_A wc H.size) a) (va_A wc H.size))
    (hP : va_P G.1 vwCl ws H) (hD : va_D A ws) (hS : va_S A H0 H locs) (hA : ∀ q, H0.size ≤ q → A q) (is : List Nat) (hC : is.map (fun i => ws[i]?) = wc.map some) (hw : ∀ w1, Wd w1 → w1.map Prod.fst = wc.map Prod.fst)
    (kk : ∀ (w1 : va_W), Wd w1 → ∀ (H1 : Heap) (locs1 : List Loc), va_P G.1 vwCl (xup ws is w1) H1 → va_D A (xup ws is w1) → va_S A H0 H1 locs1 → W p l e R s m args below meth c H1 locs1 (cells + mc) (slots + ms) Q (F0 m (pc + 3) ls (v.toList ++ rest))) : W p l e R s m args below meth c H locs cells slots Q (F0 m pc ls st0) := by
  have hf := x_free hD hS hA is hC
  intro T hT X
  obtain ⟨v', st₀, t, T', L, h0, X', hL, e1, e2, ⟨⟨hv, w1, hw1, hb⟩, hz, hk⟩, st⟩ := hr T hT X
  cases hv
  rw [h0] at hz hk
  obtain ⟨g1, g2⟩ := x_join hP hD is hC (hw w1 hw1) (fun q h1 h2 => hk q h1 h2) hb
  obtain ⟨t2, a1, b1⟩ := kk w1 hw1 T'.heap (locs ++ L) (by rw [e1]; exact g1) g2
    ⟨Nat.le_trans hS.1 (by rw [e1]; exact hz), fun q h1 h2 => by rw [e1, hk q (Nat.lt_of_lt_of_le h1 hS.1) (fun z => h2 (hf q z))]; exact hS.2.1 q h1 h2, fun q hq => by
      rcases List.mem_append.mp hq with h | h
      · exact hS.2.2 q h
      · exact hf _ (hL q h)⟩ T' rfl X'
  exact ⟨t2, st t2 a1, b1⟩
variable {cc bytes : ByteArray} {nL maxL index n : Nat} {ret : Option FieldType} {Ts wsY : List Cond} {own Cn : String} {y : MethodName} {rm : Room} {b : Nat} {As : List Value} {wc ws : va_W} {v : Option Value} {Wd : va_W → Prop}
theorem x_callVe (C : CallFix p m c cc nL s args Ts own) (hM : xMete l G y wsY rm (.ref b :: As) wc v Wd) (cw : CallW R s args own Cn index y bytes maxL ret wsY rm 0 0 n)
    (hK : va_K G.1 vwCl (xT G) s) (hN : xN s) (hP : va_P G.1 vwCl ws H) (hD : va_D A ws) (hS : va_S A H0 H locs) (hA : ∀ q, H0.size ≤ q → A q) (is : List Nat) (hn : va_nd is = true) (hC : is.map (fun i => ws[i]?) = wc.map some) (hw : ∀ w1, Wd w1 → w1.map Prod.fst = wc.map Prod.fst)
    (k0 : Nat) {ci : Nat} {fs : List Value} {N : Nat} {TT : u_T} (he : ws[k0]? = some (b, .inr (ci, fs))) (hc : vwCl[ci]? = some (Cn, TT, N)) (hnA : As.length = n) (hl : ls.size = nL) (hst : st0 = As.reverse ++ .ref b :: rest) (hroom : (rest.map fun v => v.category).sum ≤ 8) (hdg : decode cc pc = .ok (.invokevirtual index, 3)) (hf : cells + 0 ≤ R.cells ∧ slots + 0 ≤ R.slots)
    (kk : ∀ (w1 : va_W), Wd w1 → ∀ (H1 : Heap) (locs1 : List Loc), va_P G.1 vwCl (xup ws is w1) H1 → va_D A (xup ws is w1) → va_S A H0 H1 locs1 → W p l e R s m args below meth c H1 locs1 cells slots Q (F0 m (pc + 3) ls (v.toList ++ rest))) : W p l e R s m args below meth c H locs cells slots Q (F0 m pc ls st0) :=
  x_backe (va_runV (As := As) (rest := rest) C (hM H.size) cw ⟨x_blind, va_recv hK hP hc he, x_pre hP hD hK hN is hn hC⟩ rfl hnA hl hst (lv_room hroom) hdg hf) hP hD hS hA is hC hw kk
/-- the ends of a method -/
theorem x_irete {r x : Int32} (hexec : p.tables.exec = Jvm.exec) (hb : c.code = cc) (hr : meth.sig.returnType = some .int) (hv : x = r) (hP : va_P G.1 vwCl ws H) (hW : Wd ws) (hS : va_S A s.heap H locs) (hdg : decode cc pc = .ok (.ireturn, 1)) (hlocks : meth.locks = false) :
    W p l e R s m args below meth c H locs cells slots (MQ below (xQe G (some (.int r)) Wd A) args s cells slots A) (F0 m pc ls [.int x]) := by
  subst hv
  exact W.iret hexec hb hr (fun t ht _ => ⟨⟨rfl, ws, hW, by rw [ht]; exact hP⟩, hS.F ht⟩) hS.2.2 hdg
theorem x_zrete {r x : Int32} (hexec : p.tables.exec = Jvm.exec) (hb : c.code = cc) (hr : meth.sig.returnType = some .boolean) (hv : x = r) (hz : x = 0 ∨ x = 1) (hP : va_P G.1 vwCl ws H) (hW : Wd ws) (hS : va_S A s.heap H locs) (hdg : decode cc pc = .ok (.ireturn, 1)) (hlocks : meth.locks = false) :
    W p l e R s m args below meth c H locs cells slots (MQ below (xQe G (some (.int r)) Wd A) args s cells slots A) (F0 m pc ls [.int x]) := by
  subst hv
  exact W.zret hexec hb hr (by rcases hz with rfl | rfl <;> rfl) (fun t ht _ => ⟨⟨rfl, ws, hW, by rw [ht]; exact hP⟩, hS.F ht⟩) hS.2.2 hdg
theorem x_vrete (hexec : p.tables.exec = Jvm.exec) (hb : c.code = cc) (hr : meth.sig.returnType = none) (hP : va_P G.1 vwCl ws H) (hW : Wd ws) (hS : va_S A s.heap H locs) (hdg : decode cc pc = .ok (.return_, 1)) (hlocks : meth.locks = false) :
    W p l e R s m args below meth c H locs cells slots (MQ below (xQe G none Wd A) args s cells slots A) (F0 m pc ls []) :=
  W.vret hexec hb hr (fun t ht _ => ⟨⟨rfl, ws, hW, by rw [ht]; exact hP⟩, hS.F ht⟩) hS.2.2 hdg
/-- boolean arrays, by a place that is a number -/
theorem x_zald (hexec : p.tables.exec = Jvm.exec) (hb : c.code = cc) (hK : va_K G.1 vwCl (xT G) s) (hP : va_P G.1 vwCl ws H) (q0 : Nat) {a n : Nat} {f : Nat → Int32} (ha : ws[q0]? = some (a, .inl (G.2 1, n, .inl f))) (k : Nat) (hk : k < n) (hn : n < 2 ^ 31) (hdg : decode cc pc = .ok (.baload, 1))
    (kk : W p l e R s m args below meth c H locs cells slots Q (F0 m (pc + 1) ls (.int (f k) :: rest))) : W p l e R s m args below meth c H locs cells slots Q (F0 m pc ls (.int (nI k) :: .ref a :: rest)) := by
  refine va_zald hexec hb hK hP q0 1 ha rfl (vp_in_nI hk hn) hdg ?_
  rw [nI_clamp (by omega)]
  exact kk
theorem x_zast (hexec : p.tables.exec = Jvm.exec) (hb : c.code = cc) (hK : va_K G.1 vwCl (xT G) s) (hP : va_P G.1 vwCl ws H) (hD : va_D A ws) (hS : va_S A H0 H locs) (q0 : Nat) {a n : Nat} {f : Nat → Int32} (ha : ws[q0]? = some (a, .inl (G.2 1, n, .inl f))) (k : Nat) (hk : k < n) (hn : n < 2 ^ 31) {x : Int32} (hz : x = 0 ∨ x = 1) (hdg : decode cc pc = .ok (.bastore, 1))
    (kk : ∀ (H1 : Heap) (locs1 : List Loc), va_P G.1 vwCl (ws.set q0 (a, .inl (G.2 1, n, .inl (upd f k x)))) H1 → va_D A (ws.set q0 (a, .inl (G.2 1, n, .inl (upd f k x)))) → va_S A H0 H1 locs1 → W p l e R s m args below meth c H1 locs1 cells slots Q (F0 m (pc + 1) ls rest)) : W p l e R s m args below meth c H locs cells slots Q (F0 m pc ls (.int x :: .int (nI k) :: .ref a :: rest)) := by
  refine va_zast hexec hb hK hP hD hS q0 1 ha rfl (vp_in_nI hk hn) hdg ?_
  have e1 : vp_nar .boolean x = x := by rcases hz with rfl | rfl <;> rfl
  rw [nI_clamp (by omega), e1]
  exact kk
end XC
theorem x_ofe {l : Launch} {G : xG} {y : MethodName} {ws ws' : List Cond} {cc : ByteArray} {maxL : Nat} {ret : Option FieldType} {rm : Room} {As : List Value} {wc : va_W} {Wd : va_W → Prop} {v : Option Value} (hy : plainName y.cls = true) (hw : ws = Cond.code y cc maxL ret :: ws') (hlen : (lg_sl As).length ≤ maxL)
    (body : ∀ (p : Program) (e : Env) (s : State) (m : MethodId) (below : List Frame) (meth : Method) (c : Code) (A : Nat → Prop) (ls : Array Slot), p.tables.exec = Jvm.exec → c.code = cc → c.maxLocals = maxL → s.vm.findClass y.cls = some m.cls → (∀ w ∈ ws, w.before As.toArray s = true) → meth.sig.returnType = ret → meth.locks = false → va_P G.1 vwCl wc s.heap → va_D A wc → va_K G.1 vwCl (xT G) s → xN s → (∀ q : Nat, s.heap.size ≤ q → A q) → va_S A s.heap s.heap [] → lv_has ls maxL (lv_args 0 As) →
      W p l e (headSpec ws rm).room s m As.toArray below meth c s.heap [] 0 0 (MQ below (xQe G v Wd A) As.toArray s 0 0 A) (F0 m 0 ls [])) : xMete l G y ws rm As wc v Wd := by
  intro sz
  refine Met.ofW (cc := cc) (maxL := maxL) (ret := ret) hy hw ?_
  intro p e s m args below meth c s₁ B hml hv
  obtain ⟨rfl, hsz, hP, hK, hD0, hN⟩ := hv
  subst hsz
  have hD := hD0.self (sz := s.heap.size)
  have hA : ∀ q : Nat, s.heap.size ≤ q → va_A wc s.heap.size q := fun q h => Or.inr h
  rw [lg_entry_eq]
  exact body p e s m below meth c _ _ B.exec B.bytes hml (findClass_of_methodNamed B.named) (atoms_spec (ws := ws) B.pre) B.returns B.notSynchronized hP hD hK hN hA va_S.rf (lv_entry As hlen)
abbrev xWe (p : Program) (l : Launch) (e : Env) (ws : List Cond) (rm : Room) (s : State) (m : MethodId) (As : List Value) (below : List Frame) (meth : Method) (c : Code) (G : xG) (v : Option Value) (Wd : va_W → Prop) (A : Nat → Prop) (H : Heap) (locs : List Loc) (g : JFrame) : Prop :=
  W p l e (headSpec ws rm).room s m As.toArray below meth c H locs 0 0 (MQ below (xQe G v Wd A) As.toArray s 0 0 A) g
/-- the order of a world's cells doesn't matter -/
theorem x_permP {D : va_G} {cl : List vw_C} {ws ws' : va_W} {H : Heap} (h : ws.Perm ws') (hP : va_P D cl ws H) : va_P D cl ws' H := by
  intro k q hk
  have h1 : q ∈ ws := h.mem_iff.mpr (List.mem_of_getElem? hk)
  obtain ⟨i, hi⟩ := List.getElem?_of_mem h1
  exact hP i q hi
theorem x_nodup {A : Nat → Prop} {ws : va_W} : va_D A ws ↔ (ws.map Prod.fst).Nodup ∧ ∀ q ∈ ws, A q.1 := by
  constructor
  · intro h
    refine ⟨?_, fun q hq => ?_⟩
    · rw [List.nodup_iff_pairwise_ne, List.pairwise_iff_getElem]
      intro i j hi hj hij he
      simp only [List.length_map] at hi hj
      simp only [List.getElem_map] at he
      have := h.1 i j ws[i] ws[j] (List.getElem?_eq_getElem hi) (List.getElem?_eq_getElem hj) he
      omega
    · obtain ⟨i, hi⟩ := List.getElem?_of_mem hq
      exact h.2 i q hi
  · rintro ⟨h1, h2⟩
    refine ⟨fun i j p q hp hq hpq => ?_, fun k q hk => h2 q (List.mem_of_getElem? hk)⟩
    have hi := (List.getElem?_eq_some_iff.mp hp).1
    have hj := (List.getElem?_eq_some_iff.mp hq).1
    rw [List.nodup_iff_pairwise_ne, List.pairwise_iff_getElem] at h1
    have ei : ws[i] = p := (List.getElem?_eq_some_iff.mp hp).2
    have ej : ws[j] = q := (List.getElem?_eq_some_iff.mp hq).2
    rcases Nat.lt_trichotomy i j with z | z | z
    · have h9 := h1 i j (by simpa using hi) (by simpa using hj) z
      simp only [List.getElem_map, ei, ej] at h9
      exact absurd hpq h9
    · exact z
    · have h9 := h1 j i (by simpa using hj) (by simpa using hi) z
      simp only [List.getElem_map, ei, ej] at h9
      exact absurd hpq.symm h9
theorem x_permD {A : Nat → Prop} {ws ws' : va_W} (h : ws.Perm ws') (hD : va_D A ws) : va_D A ws' := by
  rw [x_nodup] at hD ⊢
  exact ⟨(h.map Prod.fst).nodup_iff.mp hD.1, fun q hq => hD.2 q (h.mem_iff.mpr hq)⟩
/-- a pool: n times some cells -/
def pool (n : Nat) (F : Nat → va_W) : va_W := (List.range n).flatMap F
def rest (n i : Nat) (F : Nat → va_W) : va_W := ((List.range n).erase i).flatMap F
theorem flatMap_perm {F : Nat → va_W} {a b : List Nat} (h : a.Perm b) : (a.flatMap F).Perm (b.flatMap F) := by
  induction h with
  | nil => exact List.Perm.refl _
  | cons x _ ih => simp only [List.flatMap_cons]; exact ih.append_left _
  | swap x y t =>
    simp only [List.flatMap_cons, ← List.append_assoc]
    exact (List.perm_append_comm).append_right _
  | trans _ _ h1 h2 => exact h1.trans h2
theorem pool_perm {n i : Nat} (F : Nat → va_W) (hi : i < n) : (pool n F).Perm (F i ++ rest n i F) := by
  have h := List.perm_cons_erase (List.mem_range.mpr hi)
  have h2 := flatMap_perm (F := F) h
  rw [List.flatMap_cons] at h2
  exact h2
theorem flatMap_cong {F F' : Nat → va_W} {a : List Nat} (h : ∀ x ∈ a, F x = F' x) : a.flatMap F = a.flatMap F' := by
  induction a with
  | nil => rfl
  | cons x t ih => rw [List.flatMap_cons, List.flatMap_cons, h x List.mem_cons_self, ih (fun y hy => h y (List.mem_cons_of_mem _ hy))]
theorem rest_cong {n i : Nat} {F F' : Nat → va_W} (h : ∀ j, j ≠ i → F j = F' j) : rest n i F = rest n i F' :=
  flatMap_cong fun x hx => h x (List.Nodup.mem_erase_iff List.nodup_range |>.mp hx).1
theorem pool_cong {n : Nat} {F F' : Nat → va_W} (h : ∀ j, j < n → F j = F' j) : pool n F = pool n F' :=
  flatMap_cong fun x hx => h x (List.mem_range.mp hx)
theorem pool_succ (n : Nat) (F : Nat → va_W) : pool (n + 1) F = pool n F ++ F n := by
  rw [pool, pool, List.range_succ, List.flatMap_append]
  simp
/-- a file of the pool is taken to the front, and put back -/
theorem pool_out {D : va_G} {cl : List vw_C} {A : Nat → Prop} {X : va_W} {n i : Nat} {F : Nat → va_W} {H : Heap} (hi : i < n) (hP : va_P D cl (X ++ pool n F) H) (hD : va_D A (X ++ pool n F)) : va_P D cl (X ++ F i ++ rest n i F) H ∧ va_D A (X ++ F i ++ rest n i F) := by
  have h := (pool_perm F hi).append_left X
  rw [← List.append_assoc] at h
  exact ⟨x_permP h hP, x_permD h hD⟩
theorem pool_in {D : va_G} {cl : List vw_C} {A : Nat → Prop} {X : va_W} {n i : Nat} {F F' : Nat → va_W} {H : Heap} (hi : i < n) (hF : ∀ j, j ≠ i → F j = F' j) (hP : va_P D cl (X ++ F' i ++ rest n i F) H) (hD : va_D A (X ++ F' i ++ rest n i F)) : va_P D cl (X ++ pool n F') H ∧ va_D A (X ++ pool n F') := by
  rw [rest_cong hF] at hP hD
  have h := (pool_perm F' hi).append_left X
  rw [← List.append_assoc] at h
  exact ⟨x_permP h.symm hP, x_permD h.symm hD⟩
end
