section
-- ===== PART A: goes FIRST, ahead of the names: the tables' words, and 'selects' of the private methods out of them =====
/-- a private method of a class that the tables say can be made, by its rows of tables_1 -/
def lw_okq (q : MethodName × Nat) : Prop := (q.1.cls ≠ "java/lang/invoke/MethodHandle" ∧ q.1.cls ≠ "java/lang/invoke/VarHandle") ∧ Cond.instantiable q.1.cls q.2 ∈ tables_1 ∧ Cond.privateMethod q.1 ∈ tables_1 ∧ Cond.instanceMethod q.1 ∈ tables_1
theorem lw_p0 : lw_okq (⟨"Bootstay$Store", "recordWord", "(II)I"⟩, 1) := ⟨⟨by decide +kernel, by decide +kernel⟩, List.mem_of_getElem? (i := 24) (by decide +kernel), List.mem_of_getElem? (i := 177) (by decide +kernel), List.mem_of_getElem? (i := 178) (by decide +kernel)⟩
theorem lw_p1 : lw_okq (⟨"java/lang/Throwable", "fillInStackTrace", "(I)Ljava/lang/Throwable;"⟩, 6) := ⟨⟨by decide +kernel, by decide +kernel⟩, List.mem_of_getElem? (i := 314) (by decide +kernel), List.mem_of_getElem? (i := 312) (by decide +kernel), List.mem_of_getElem? (i := 313) (by decide +kernel)⟩
theorem lw_p2 : lw_okq (⟨"Bootstay$Store", "writeRecordWord", "(III)Z"⟩, 1) := ⟨⟨by decide +kernel, by decide +kernel⟩, List.mem_of_getElem? (i := 24) (by decide +kernel), List.mem_of_getElem? (i := 366) (by decide +kernel), List.mem_of_getElem? (i := 367) (by decide +kernel)⟩
theorem lw_p3 : lw_okq (⟨"Bootstay", "requireOn", "()V"⟩, 6) := ⟨⟨by decide +kernel, by decide +kernel⟩, List.mem_of_getElem? (i := 16) (by decide +kernel), List.mem_of_getElem? (i := 383) (by decide +kernel), List.mem_of_getElem? (i := 384) (by decide +kernel)⟩
theorem lw_p4 : lw_okq (⟨"Bootstay", "losePower", "()V"⟩, 6) := ⟨⟨by decide +kernel, by decide +kernel⟩, List.mem_of_getElem? (i := 16) (by decide +kernel), List.mem_of_getElem? (i := 388) (by decide +kernel), List.mem_of_getElem? (i := 389) (by decide +kernel)⟩
theorem lw_p5 : lw_okq (⟨"Bootstay", "idleSlot", "()I"⟩, 6) := ⟨⟨by decide +kernel, by decide +kernel⟩, List.mem_of_getElem? (i := 16) (by decide +kernel), List.mem_of_getElem? (i := 443) (by decide +kernel), List.mem_of_getElem? (i := 444) (by decide +kernel)⟩
theorem lw_p6 : lw_okq (⟨"Bootstay", "stayOn", "(Z)Z"⟩, 6) := ⟨⟨by decide +kernel, by decide +kernel⟩, List.mem_of_getElem? (i := 16) (by decide +kernel), List.mem_of_getElem? (i := 451) (by decide +kernel), List.mem_of_getElem? (i := 452) (by decide +kernel)⟩
theorem lw_p7 : lw_okq (⟨"Bootstay", "requireToCome", "(I)V"⟩, 6) := ⟨⟨by decide +kernel, by decide +kernel⟩, List.mem_of_getElem? (i := 16) (by decide +kernel), List.mem_of_getElem? (i := 462) (by decide +kernel), List.mem_of_getElem? (i := 463) (by decide +kernel)⟩
theorem lw_p8 : lw_okq (⟨"Bootstay", "append", "(I)Z"⟩, 6) := ⟨⟨by decide +kernel, by decide +kernel⟩, List.mem_of_getElem? (i := 16) (by decide +kernel), List.mem_of_getElem? (i := 467) (by decide +kernel), List.mem_of_getElem? (i := 468) (by decide +kernel)⟩
theorem lw_p9 : lw_okq (⟨"Bootstay", "requireFinishable", "(I)V"⟩, 6) := ⟨⟨by decide +kernel, by decide +kernel⟩, List.mem_of_getElem? (i := 16) (by decide +kernel), List.mem_of_getElem? (i := 495) (by decide +kernel), List.mem_of_getElem? (i := 496) (by decide +kernel)⟩
theorem lw_p10 : lw_okq (⟨"Bootstay", "requireStartable", "(I)V"⟩, 6) := ⟨⟨by decide +kernel, by decide +kernel⟩, List.mem_of_getElem? (i := 16) (by decide +kernel), List.mem_of_getElem? (i := 544) (by decide +kernel), List.mem_of_getElem? (i := 545) (by decide +kernel)⟩
theorem lw_p11 : lw_okq (⟨"Bootstay$Delta", "matchLength", "(III)I"⟩, 2) := ⟨⟨by decide +kernel, by decide +kernel⟩, List.mem_of_getElem? (i := 120) (by decide +kernel), List.mem_of_getElem? (i := 563) (by decide +kernel), List.mem_of_getElem? (i := 564) (by decide +kernel)⟩
theorem lw_p12 : lw_okq (⟨"BootstayModel", "hashIn", "(II)I"⟩, 14) := ⟨⟨by decide +kernel, by decide +kernel⟩, List.mem_of_getElem? (i := 657) (by decide +kernel), List.mem_of_getElem? (i := 663) (by decide +kernel), List.mem_of_getElem? (i := 664) (by decide +kernel)⟩
theorem lw_p13 : lw_okq (⟨"BootstayModel", "rightCheck", "(I)I"⟩, 14) := ⟨⟨by decide +kernel, by decide +kernel⟩, List.mem_of_getElem? (i := 657) (by decide +kernel), List.mem_of_getElem? (i := 671) (by decide +kernel), List.mem_of_getElem? (i := 672) (by decide +kernel)⟩
theorem lw_p14 : lw_okq (⟨"BootstayModel", "confirmedSlot", "()I"⟩, 14) := ⟨⟨by decide +kernel, by decide +kernel⟩, List.mem_of_getElem? (i := 657) (by decide +kernel), List.mem_of_getElem? (i := 726) (by decide +kernel), List.mem_of_getElem? (i := 727) (by decide +kernel)⟩
theorem lw_p15 : lw_okq (⟨"BootstayModel", "inForce", "(I)I"⟩, 14) := ⟨⟨by decide +kernel, by decide +kernel⟩, List.mem_of_getElem? (i := 657) (by decide +kernel), List.mem_of_getElem? (i := 730) (by decide +kernel), List.mem_of_getElem? (i := 731) (by decide +kernel)⟩
def lw_privs_1 : List (MethodName × Nat) := [(⟨"Bootstay$Store", "recordWord", "(II)I"⟩, 1), (⟨"java/lang/Throwable", "fillInStackTrace", "(I)Ljava/lang/Throwable;"⟩, 6), (⟨"Bootstay$Store", "writeRecordWord", "(III)Z"⟩, 1), (⟨"Bootstay", "requireOn", "()V"⟩, 6), (⟨"Bootstay", "losePower", "()V"⟩, 6), (⟨"Bootstay", "idleSlot", "()I"⟩, 6), (⟨"Bootstay", "stayOn", "(Z)Z"⟩, 6), (⟨"Bootstay", "requireToCome", "(I)V"⟩, 6), (⟨"Bootstay", "append", "(I)Z"⟩, 6), (⟨"Bootstay", "requireFinishable", "(I)V"⟩, 6), (⟨"Bootstay", "requireStartable", "(I)V"⟩, 6), (⟨"Bootstay$Delta", "matchLength", "(III)I"⟩, 2), (⟨"BootstayModel", "hashIn", "(II)I"⟩, 14), (⟨"BootstayModel", "rightCheck", "(I)I"⟩, 14), (⟨"BootstayModel", "confirmedSlot", "()I"⟩, 14), (⟨"BootstayModel", "inForce", "(I)I"⟩, 14)]
theorem lw_r1 : ∀ q ∈ lw_privs_1, lw_okq q := List.forall_mem_cons.mpr ⟨lw_p0, List.forall_mem_cons.mpr ⟨lw_p1, List.forall_mem_cons.mpr ⟨lw_p2, List.forall_mem_cons.mpr ⟨lw_p3, List.forall_mem_cons.mpr ⟨lw_p4, List.forall_mem_cons.mpr ⟨lw_p5, List.forall_mem_cons.mpr ⟨lw_p6, List.forall_mem_cons.mpr ⟨lw_p7, List.forall_mem_cons.mpr ⟨lw_p8, List.forall_mem_cons.mpr ⟨lw_p9, List.forall_mem_cons.mpr ⟨lw_p10, List.forall_mem_cons.mpr ⟨lw_p11, List.forall_mem_cons.mpr ⟨lw_p12, List.forall_mem_cons.mpr ⟨lw_p13, List.forall_mem_cons.mpr ⟨lw_p14, List.forall_mem_cons.mpr ⟨lw_p15, fun _ h => absurd h List.not_mem_nil⟩⟩⟩⟩⟩⟩⟩⟩⟩⟩⟩⟩⟩⟩⟩⟩
theorem lw_p16 : lw_okq (⟨"BootstayModel", "force", "()I"⟩, 14) := ⟨⟨by decide +kernel, by decide +kernel⟩, List.mem_of_getElem? (i := 657) (by decide +kernel), List.mem_of_getElem? (i := 734) (by decide +kernel), List.mem_of_getElem? (i := 735) (by decide +kernel)⟩
theorem lw_p17 : lw_okq (⟨"BootstayModel", "holds", "(I)Z"⟩, 14) := ⟨⟨by decide +kernel, by decide +kernel⟩, List.mem_of_getElem? (i := 657) (by decide +kernel), List.mem_of_getElem? (i := 738) (by decide +kernel), List.mem_of_getElem? (i := 739) (by decide +kernel)⟩
theorem lw_p18 : lw_okq (⟨"BootstayModel", "willTry", "(I)Z"⟩, 14) := ⟨⟨by decide +kernel, by decide +kernel⟩, List.mem_of_getElem? (i := 657) (by decide +kernel), List.mem_of_getElem? (i := 742) (by decide +kernel), List.mem_of_getElem? (i := 743) (by decide +kernel)⟩
theorem lw_p19 : lw_okq (⟨"BootstayModel", "isDue", "()Z"⟩, 14) := ⟨⟨by decide +kernel, by decide +kernel⟩, List.mem_of_getElem? (i := 657) (by decide +kernel), List.mem_of_getElem? (i := 746) (by decide +kernel), List.mem_of_getElem? (i := 747) (by decide +kernel)⟩
theorem lw_p20 : lw_okq (⟨"BootstayModel", "triesLeft", "()I"⟩, 14) := ⟨⟨by decide +kernel, by decide +kernel⟩, List.mem_of_getElem? (i := 657) (by decide +kernel), List.mem_of_getElem? (i := 750) (by decide +kernel), List.mem_of_getElem? (i := 751) (by decide +kernel)⟩
theorem lw_p21 : lw_okq (⟨"BootstayModel", "canStart", "(I)Z"⟩, 14) := ⟨⟨by decide +kernel, by decide +kernel⟩, List.mem_of_getElem? (i := 657) (by decide +kernel), List.mem_of_getElem? (i := 754) (by decide +kernel), List.mem_of_getElem? (i := 755) (by decide +kernel)⟩
theorem lw_p22 : lw_okq (⟨"BootstayModel", "records", "(II)Z"⟩, 14) := ⟨⟨by decide +kernel, by decide +kernel⟩, List.mem_of_getElem? (i := 657) (by decide +kernel), List.mem_of_getElem? (i := 761) (by decide +kernel), List.mem_of_getElem? (i := 762) (by decide +kernel)⟩
theorem lw_p23 : lw_okq (⟨"BootstayModel", "lays", "(II)Z"⟩, 14) := ⟨⟨by decide +kernel, by decide +kernel⟩, List.mem_of_getElem? (i := 657) (by decide +kernel), List.mem_of_getElem? (i := 765) (by decide +kernel), List.mem_of_getElem? (i := 766) (by decide +kernel)⟩
theorem lw_p24 : lw_okq (⟨"BootstayModel", "goesOff", "()V"⟩, 14) := ⟨⟨by decide +kernel, by decide +kernel⟩, List.mem_of_getElem? (i := 657) (by decide +kernel), List.mem_of_getElem? (i := 769) (by decide +kernel), List.mem_of_getElem? (i := 770) (by decide +kernel)⟩
theorem lw_p25 : lw_okq (⟨"BootstayModel", "isTrial", "()Z"⟩, 14) := ⟨⟨by decide +kernel, by decide +kernel⟩, List.mem_of_getElem? (i := 657) (by decide +kernel), List.mem_of_getElem? (i := 793) (by decide +kernel), List.mem_of_getElem? (i := 794) (by decide +kernel)⟩
theorem lw_p26 : lw_okq (⟨"BootstayModel", "goes", "(ZZ)Z"⟩, 14) := ⟨⟨by decide +kernel, by decide +kernel⟩, List.mem_of_getElem? (i := 657) (by decide +kernel), List.mem_of_getElem? (i := 806) (by decide +kernel), List.mem_of_getElem? (i := 807) (by decide +kernel)⟩
theorem lw_p27 : lw_okq (⟨"BootstayModel", "comes", "(I)Z"⟩, 14) := ⟨⟨by decide +kernel, by decide +kernel⟩, List.mem_of_getElem? (i := 657) (by decide +kernel), List.mem_of_getElem? (i := 814) (by decide +kernel), List.mem_of_getElem? (i := 815) (by decide +kernel)⟩
theorem lw_p28 : lw_okq (⟨"BootstayModel", "canFinish", "()Z"⟩, 14) := ⟨⟨by decide +kernel, by decide +kernel⟩, List.mem_of_getElem? (i := 657) (by decide +kernel), List.mem_of_getElem? (i := 826) (by decide +kernel), List.mem_of_getElem? (i := 827) (by decide +kernel)⟩
theorem lw_p29 : lw_okq (⟨"BootstayModel", "finishes", "(I)Z"⟩, 14) := ⟨⟨by decide +kernel, by decide +kernel⟩, List.mem_of_getElem? (i := 657) (by decide +kernel), List.mem_of_getElem? (i := 830) (by decide +kernel), List.mem_of_getElem? (i := 831) (by decide +kernel)⟩
theorem lw_p30 : lw_okq (⟨"BootstayModel", "isSlot", "(I)Z"⟩, 14) := ⟨⟨by decide +kernel, by decide +kernel⟩, List.mem_of_getElem? (i := 657) (by decide +kernel), List.mem_of_getElem? (i := 858) (by decide +kernel), List.mem_of_getElem? (i := 859) (by decide +kernel)⟩
theorem lw_p31 : lw_okq (⟨"BootstayModel", "countPieces", "(I)I"⟩, 14) := ⟨⟨by decide +kernel, by decide +kernel⟩, List.mem_of_getElem? (i := 657) (by decide +kernel), List.mem_of_getElem? (i := 862) (by decide +kernel), List.mem_of_getElem? (i := 863) (by decide +kernel)⟩
def lw_privs_2 : List (MethodName × Nat) := [(⟨"BootstayModel", "force", "()I"⟩, 14), (⟨"BootstayModel", "holds", "(I)Z"⟩, 14), (⟨"BootstayModel", "willTry", "(I)Z"⟩, 14), (⟨"BootstayModel", "isDue", "()Z"⟩, 14), (⟨"BootstayModel", "triesLeft", "()I"⟩, 14), (⟨"BootstayModel", "canStart", "(I)Z"⟩, 14), (⟨"BootstayModel", "records", "(II)Z"⟩, 14), (⟨"BootstayModel", "lays", "(II)Z"⟩, 14), (⟨"BootstayModel", "goesOff", "()V"⟩, 14), (⟨"BootstayModel", "isTrial", "()Z"⟩, 14), (⟨"BootstayModel", "goes", "(ZZ)Z"⟩, 14), (⟨"BootstayModel", "comes", "(I)Z"⟩, 14), (⟨"BootstayModel", "canFinish", "()Z"⟩, 14), (⟨"BootstayModel", "finishes", "(I)Z"⟩, 14), (⟨"BootstayModel", "isSlot", "(I)Z"⟩, 14), (⟨"BootstayModel", "countPieces", "(I)I"⟩, 14)]
theorem lw_r2 : ∀ q ∈ lw_privs_2, lw_okq q := List.forall_mem_cons.mpr ⟨lw_p16, List.forall_mem_cons.mpr ⟨lw_p17, List.forall_mem_cons.mpr ⟨lw_p18, List.forall_mem_cons.mpr ⟨lw_p19, List.forall_mem_cons.mpr ⟨lw_p20, List.forall_mem_cons.mpr ⟨lw_p21, List.forall_mem_cons.mpr ⟨lw_p22, List.forall_mem_cons.mpr ⟨lw_p23, List.forall_mem_cons.mpr ⟨lw_p24, List.forall_mem_cons.mpr ⟨lw_p25, List.forall_mem_cons.mpr ⟨lw_p26, List.forall_mem_cons.mpr ⟨lw_p27, List.forall_mem_cons.mpr ⟨lw_p28, List.forall_mem_cons.mpr ⟨lw_p29, List.forall_mem_cons.mpr ⟨lw_p30, List.forall_mem_cons.mpr ⟨lw_p31, fun _ h => absurd h List.not_mem_nil⟩⟩⟩⟩⟩⟩⟩⟩⟩⟩⟩⟩⟩⟩⟩⟩
theorem lw_p32 : lw_okq (⟨"BootstayModel", "pieceLength", "(II)I"⟩, 14) := ⟨⟨by decide +kernel, by decide +kernel⟩, List.mem_of_getElem? (i := 657) (by decide +kernel), List.mem_of_getElem? (i := 866) (by decide +kernel), List.mem_of_getElem? (i := 867) (by decide +kernel)⟩
theorem lw_p33 : lw_okq (⟨"BootstayModel", "bestFrom", "(II)I"⟩, 14) := ⟨⟨by decide +kernel, by decide +kernel⟩, List.mem_of_getElem? (i := 657) (by decide +kernel), List.mem_of_getElem? (i := 870) (by decide +kernel), List.mem_of_getElem? (i := 871) (by decide +kernel)⟩
theorem lw_p34 : lw_okq (⟨"BootstayModel", "alike", "(III)I"⟩, 14) := ⟨⟨by decide +kernel, by decide +kernel⟩, List.mem_of_getElem? (i := 657) (by decide +kernel), List.mem_of_getElem? (i := 874) (by decide +kernel), List.mem_of_getElem? (i := 875) (by decide +kernel)⟩
theorem lw_p35 : lw_okq (⟨"BootstayModel", "isPiece", "(II)Z"⟩, 14) := ⟨⟨by decide +kernel, by decide +kernel⟩, List.mem_of_getElem? (i := 657) (by decide +kernel), List.mem_of_getElem? (i := 882) (by decide +kernel), List.mem_of_getElem? (i := 883) (by decide +kernel)⟩
theorem lw_p36 : lw_okq (⟨"BootstayModel", "placeOf", "(II)I"⟩, 14) := ⟨⟨by decide +kernel, by decide +kernel⟩, List.mem_of_getElem? (i := 657) (by decide +kernel), List.mem_of_getElem? (i := 886) (by decide +kernel), List.mem_of_getElem? (i := 887) (by decide +kernel)⟩
theorem lw_p37 : lw_okq (⟨"BootstayModel", "nextStart", "()I"⟩, 14) := ⟨⟨by decide +kernel, by decide +kernel⟩, List.mem_of_getElem? (i := 657) (by decide +kernel), List.mem_of_getElem? (i := 930) (by decide +kernel), List.mem_of_getElem? (i := 931) (by decide +kernel)⟩
def lw_privs_3 : List (MethodName × Nat) := [(⟨"BootstayModel", "pieceLength", "(II)I"⟩, 14), (⟨"BootstayModel", "bestFrom", "(II)I"⟩, 14), (⟨"BootstayModel", "alike", "(III)I"⟩, 14), (⟨"BootstayModel", "isPiece", "(II)Z"⟩, 14), (⟨"BootstayModel", "placeOf", "(II)I"⟩, 14), (⟨"BootstayModel", "nextStart", "()I"⟩, 14)]
theorem lw_r3 : ∀ q ∈ lw_privs_3, lw_okq q := List.forall_mem_cons.mpr ⟨lw_p32, List.forall_mem_cons.mpr ⟨lw_p33, List.forall_mem_cons.mpr ⟨lw_p34, List.forall_mem_cons.mpr ⟨lw_p35, List.forall_mem_cons.mpr ⟨lw_p36, List.forall_mem_cons.mpr ⟨lw_p37, fun _ h => absurd h List.not_mem_nil⟩⟩⟩⟩⟩⟩
def lw_privs : List (MethodName × Nat) := lw_privs_1 ++ (lw_privs_2 ++ (lw_privs_3))
def lw_tbl : List Cond := k2_sels lw_privs ++ tables_1
theorem lw_privs_ok : ∀ q ∈ lw_privs, lw_okq q := by
  show ∀ q ∈ lw_privs_1 ++ (lw_privs_2 ++ (lw_privs_3)), lw_okq q
  exact List.forall_mem_append.mpr ⟨lw_r1, List.forall_mem_append.mpr ⟨lw_r2, lw_r3⟩⟩
end
section
/-! ===== BEGIN words of one list among another's, by their places ===== -/
theorem goodIn_r {big : List Cond} (ws : List Cond) (ps : List Nat) (hp : ws = ps.filterMap (fun i => big[i]?)) (h : ws.all goodWord = true) : GoodIn big ws := by
  intro w hw
  have h1 := List.all_eq_true.mp h w hw
  rw [hp] at hw
  obtain ⟨i, -, hi⟩ := List.mem_filterMap.mp hw
  have hm : w ∈ big := by first | exact List.mem_of_getElem? hi | exact List.getElem?_mem hi
  exact ⟨hm, good_of_word h1⟩
theorem goodIn_app {big a b : List Cond} (ha : GoodIn big a) (hb : GoodIn big b) : GoodIn big (a ++ b) := fun w h => (List.mem_append.mp h).elim (ha w) (hb w)
theorem goodIn_ca {big a b : List Cond} {c : Cond} (ha : GoodIn big (c :: a)) (hb : GoodIn big b) : GoodIn big (c :: (a ++ b)) := fun w h => (List.mem_cons.mp h).elim (fun e => ha w (List.mem_cons.mpr (Or.inl e))) (fun h => (List.mem_append.mp h).elim (fun h => ha w (List.mem_cons.mpr (Or.inr h))) (hb w))
theorem goodIn_sub {big ws : List Cond} (hm : ∀ w ∈ ws, w ∈ big) (h : ws.all goodWord = true) : GoodIn big ws := fun w hw => ⟨hm w hw, good_of_word (List.all_eq_true.mp h w hw)⟩
/-! ===== END ===== -/

/-! ===== BEGIN exceptions that leave a method, and their catching by the caller (launches without stack traces) ===== -/
section VXA
/-! The laws vx_back, vx_callV, vx_callS, vx_callSW, vx_throw0, vx_throwS follow proofs of the library, with one case more: JvmDerived/Free/Laws.lean (Back.of_free), Shelf42/LK1.lean (callV, callS), Shelf/KitTraced.lean (throwNew0V, throwNewS). -/
/-- where a method has thrown q: the class by its name, the cell, what was written, the world -/
def vx_T (XC : String → State → State → Prop) (st : State) (q : Addr) (t : State) (mc ms : Nat) (free : Addr → Prop) : Prop :=
  ∃ (E : String) (ce : Cell) (L : List Loc), XC E st t ∧ t.heap[q]? = some ce ∧ ce.vm = .none ∧ st.vm.findClass E = some ce.cls ∧ st.WarmedH t.vm ∧ st.sameButNew ({ t with vm := st.vm } : State) L mc ms ∧ ∀ z ∈ L, free z.base
def vx_Q (Qc : Array Value → State → Outcome → State → Prop) (XC : String → State → State → Prop) (mc ms : Nat) (free : Addr → Prop) : Array Value → State → Outcome → State → Prop := fun a st o t =>
  (Qc a st o t ∧ ∃ L, FrameEnd st o t L mc ms ∧ ∀ q ∈ L, free q.base) ∨ ∃ q, o = .threw q ∧ vx_T XC st q t mc ms free
/-- a callee that returns or throws -/
def vx_Met (l : Launch) (y : MethodName) (ws : List Cond) (rm : Room) (Pc : Array Value → State → Prop) (Qc : Array Value → State → Outcome → State → Prop) (XC : String → State → State → Prop) (mc ms : Nat) (free : Addr → Prop) : Prop :=
  MetFree l y (headSpec ws rm) Pc (fun _ _ _ _ _ => True) (vx_Q Qc XC mc ms free)
def vx_Post (XC : String → State → State → Prop) (mc ms : Nat) (free : Addr → Prop) : Pt → Array Value → Addr → Pt → Prop := fun A a q B =>
  ∃ (g : JFrame) (mk : MethodId) (t : State) (L : List Loc) (E : String) (ce : Cell), B.U.heap = t.heap ∧ B.U.vm = t.vm ∧ XC E (A.U.calling g mk a) t ∧ t.heap[q]? = some ce ∧ ce.vm = .none ∧ A.U.vm.findClass E = some ce.cls ∧ B.locs = A.locs ++ L ∧ (∀ z ∈ L, free z.base) ∧ B.cells = A.cells + mc ∧ B.slots = A.slots + ms
def vx_Back (l : Launch) (R : Room) (p : Program) (e : Env) (below : List Frame) (s : State) (sargs : Array Value) (y : MethodName) (len W9 : Nat)
    (Pre : Pt → Array Value → Prop) (Post : Pt → Array Value → Option Value → Pt → Prop) (PostX : Pt → Array Value → Addr → Pt → Prop) : Prop :=
  ∀ (m : MethodId) (meth : Method) (c : Code) (A : Pt) (g : JFrame) (ig : Instr) (mk : MethodId) (a : Array Value),
    Stand p l e R s m sargs below meth c A.U A.locs A.cells A.slots → g.method = m → g.locals.size = c.maxLocals → decode c.code g.pc = .ok (ig, len) →
    2 * g.monitorRoom + (g.stack.map fun v => v.category).sum ≤ W9 → A.U.methodNamed? y = some mk → Pre A a →
    (∃ (v : Option Value) (B : Pt), Stand p l e R s m sargs below meth c B.U B.locs B.cells B.slots ∧ Post A a v B ∧
      Steps p.tables e below (doInvoke e (A.U.setTop g) [] mk a).1 (B.U.setTop { g with pc := g.pc + len, stack := v.toList ++ g.stack })) ∨
    (∃ (q : Addr) (B : Pt), Stand p l e R s m sargs below meth c B.U B.locs B.cells B.slots ∧ PostX A a q B ∧
      Steps p.tables e below (doInvoke e (A.U.setTop g) [] mk a).1 ((B.U.setTop g).pushFrame (.throwing q)))
section Payer
variable {l : Launch} {R : Room} {p : Program} {e : Env} {below : List Frame} {s : State} {sargs : Array Value} {y : MethodName} {len W9 : Nat}
theorem vx_back {ws : List Cond} {rm : Room} {Pc : Array Value → State → Prop} {Qc : Array Value → State → Outcome → State → Prop} {XC : String → State → State → Prop} {mc ms : Nat} {free : Addr → Prop} {bytes : ByteArray} {maxL : Nat} {ret : Option FieldType}
    (hM : vx_Met l y ws rm Pc Qc XC mc ms free) (hblind : FrameBlind Pc) (hrc : rm.cells = mc) (hrs : rm.slots = ms)
    (hframes : rm.frames + 1 ≤ R.frames) (hlocals : W9 + (maxL + 11) + rm.locals ≤ R.locals)
    (hws : ∀ w ∈ ws, ∀ a' U, s.WarmedH U.vm → w.before a' U = true) (hcode : Cond.code y bytes maxL ret ∈ ws) (hinit : ∀ a' U, s.WarmedH U.vm → (Cond.initialized y.cls).before a' U = true) :
    vx_Back l R p e below s sargs y len W9 (PreOf R mc ms Pc) (PostOf Qc mc ms free) (vx_Post XC mc ms free) := by
  intro m meth c A g ig mk a X hg hsize hdg hW hn hp
  have h1 : (headSpec ws rm).pre.before a A.U = true := atoms_intro fun w hw => hws w hw _ _ X.warmed
  have h2 : (Cond.code y bytes maxL ret).before a A.U = true := hws _ hcode _ _ X.warmed
  have h3 : (Cond.initialized y.cls).before a A.U = true := hinit _ _ X.warmed
  have h4 : A.cells + (headSpec ws rm).room.cells ≤ R.cells := by rw [show (headSpec ws rm).room.cells = mc from hrc]; exact hp.1
  have h5 : A.slots + (headSpec ws rm).room.slots ≤ R.slots := by rw [show (headSpec ws rm).room.slots = ms from hrs]; exact hp.2.1
  have hPc : Pc a (A.U.calling g mk a) := hblind _ _ _ _ hp.2.2
  obtain ⟨U, Ls, c0, s0⟩ := A
  dsimp only [Pt.U, Pt.locs, Pt.cells, Pt.slots] at h1 h2 h3 h4 h5 X hn hPc ⊢
  obtain ⟨methY, cY, hmY, hcY, -, hlY, -, -, -, -⟩ := Cond.code_spec hn h2
  obtain ⟨kY, hkY, -⟩ := className_of_methodNamed hn
  have hinitY : kY.init = .initialized := Cond.initialized_spec (findClass_of_methodNamed hn) hkY h3
  have h : At U g.method c below := by rw [hg]; exact X.here
  have hlocals9 : W9 + (maxL + 11) + (headSpec ws rm).room.locals ≤ R.locals := hlocals
  have happ : (headSpec ws rm).appliesLoose y e.platform (U.calling g mk a) = true :=
    Spec.appliesLoose_calling (g := g) h hdg hn hkY hinitY
      (X.room_calling (g := g) (R' := (headSpec ws rm).room) hsize hmY hcY hframes (by rw [hlY]; omega) h4 h5) h1
  obtain ⟨mid, hmid⟩ := h.above
  have hfr : (U.setTop g).frames = (.java g :: mid) ++ below := by rw [State.frames_setTop' g h.top, hmid]; rfl
  obtain ⟨o, s₂, hsteps, -, hend, hq⟩ := Steps.callFree hM p X.admits X.cas X.clock (acts := []) hfr happ hPc trivial
  have hq' : vx_Q Qc XC mc ms free a (U.calling g mk a) o s₂ := hq
  rw [State.frames_setTop' g h.top] at hend
  obtain ⟨g₀, hg0⟩ := Option.isSome_iff_exists.mp h.top
  obtain ⟨r, hr⟩ := State.topJava?_eq_some.mp hg0
  have hr' : (({ U with heap := s₂.heap, slotsUsed := s₂.slotsUsed } : State).setVm s₂.vm).frames = .java g₀ :: r := hr
  rcases hq' with ⟨hqc, L, hfe, hL⟩ | ⟨q, rfl, E, ce, L, hx, hce, hcv, hcl, hW₂, hsm, hL⟩
  · obtain ⟨⟨v, rfl⟩, hW₂, e2, q2, q3, q4, q5, q6⟩ := id hfe
    have e3 : s₂ = ({ (U.calling g mk a).setFrames s₂.frames with heap := s₂.heap, slotsUsed := s₂.slotsUsed } : State).setVm s₂.vm := by
      have : s₂ = ({ s₂ with vm := (U.calling g mk a).vm } : State).setVm s₂.vm := rfl
      rw [e2] at this
      exact this
    obtain ⟨c₂, i₂, len₂, hc₂, hd₂, hf₂⟩ := hend
    have hW' : U.WarmedH s₂.vm := hW₂
    have hcc : c₂ = c := by
      have h1 : s₂.code? g.method = U.code? g.method := by
        rw [State.code?_eq, State.code?_eq, hW'.alike.method?]
      exact Option.some.inj (hc₂.symm.trans (h1.trans h.code))
    subst hcc
    have hlen : len₂ = len := by rw [hdg] at hd₂; cases hd₂; rfl
    subst hlen
    have hs₂ : s₂ = (({ U with heap := s₂.heap, slotsUsed := s₂.slotsUsed } : State).setVm s₂.vm).setTop { g with pc := g.pc + len₂, stack := v.toList ++ g.stack } := by
      refine e3.trans ?_
      rw [hf₂, State.calling_eq h.top, State.setFrames_setFrames, State.setTop_of_frames _ hr', hr]
      rfl
    have hsame : U.sameButNew ({ U with heap := s₂.heap, slotsUsed := s₂.slotsUsed } : State) L mc ms := by
      refine ⟨?_, q2, q3, q4, q5, q6⟩
      obtain ⟨t, ht, -⟩ := State.frames_cons hr
      show ({ U with heap := s₂.heap, slotsUsed := s₂.slotsUsed } : State) = { U.setFrames U.frames with heap := s₂.heap, slotsUsed := s₂.slotsUsed }
      rw [State.setFrames_self ht]
    subst hg
    refine Or.inl ⟨v, ⟨(({ U with heap := s₂.heap, slotsUsed := s₂.slotsUsed } : State).setVm s₂.vm), Ls ++ L, c0 + mc, s0 + ms⟩,
      ⟨X.admits, X.cas, X.clock, X.frames, X.room, X.hears, X.method, X.code, (X.here.setHeapUsed s₂.heap s₂.slotsUsed).setVm hW'.alike, X.tail, State.WarmedH.trans X.warmed hW', X.limits, X.bytes, X.same.trans (hsame.setVm s.vm)⟩,
      ⟨g, mk, s₂, L, rfl, rfl, hqc, rfl, hL, rfl, rfl⟩, ?_⟩
    show Steps p.tables e below _ ((({ U with heap := s₂.heap, slotsUsed := s₂.slotsUsed } : State).setVm s₂.vm).setTop { g with pc := g.pc + len₂, stack := v.toList ++ g.stack })
    rw [← hs₂]
    exact hsteps
  · obtain ⟨e2, q2, q3, q4, q5, q6⟩ := id hsm
    have e3 : s₂ = ({ (U.calling g mk a).setFrames s₂.frames with heap := s₂.heap, slotsUsed := s₂.slotsUsed } : State).setVm s₂.vm := by
      have : s₂ = ({ s₂ with vm := (U.calling g mk a).vm } : State).setVm s₂.vm := rfl
      rw [e2] at this
      exact this
    have hf₂ : s₂.frames = .throwing q :: .java g :: U.frames.tail := hend
    have hW' : U.WarmedH s₂.vm := hW₂
    have hs₂ : s₂ = ((({ U with heap := s₂.heap, slotsUsed := s₂.slotsUsed } : State).setVm s₂.vm).setTop g).pushFrame (.throwing q) := by
      refine e3.trans ?_
      rw [hf₂, State.calling_eq h.top, State.setFrames_setFrames, State.pushFrame, State.frames_setTop _ hr', State.setTop_of_frames _ hr', State.setFrames_setFrames, hr]
      rfl
    have hsame : U.sameButNew ({ U with heap := s₂.heap, slotsUsed := s₂.slotsUsed } : State) L mc ms := by
      refine ⟨?_, q2, q3, q4, q5, q6⟩
      obtain ⟨t, ht, -⟩ := State.frames_cons hr
      show ({ U with heap := s₂.heap, slotsUsed := s₂.slotsUsed } : State) = { U.setFrames U.frames with heap := s₂.heap, slotsUsed := s₂.slotsUsed }
      rw [State.setFrames_self ht]
    subst hg
    refine Or.inr ⟨q, ⟨(({ U with heap := s₂.heap, slotsUsed := s₂.slotsUsed } : State).setVm s₂.vm), Ls ++ L, c0 + mc, s0 + ms⟩,
      ⟨X.admits, X.cas, X.clock, X.frames, X.room, X.hears, X.method, X.code, (X.here.setHeapUsed s₂.heap s₂.slotsUsed).setVm hW'.alike, X.tail, State.WarmedH.trans X.warmed hW', X.limits, X.bytes, X.same.trans (hsame.setVm s.vm)⟩,
      ⟨g, mk, s₂, L, E, ce, rfl, rfl, hx, hce, hcv, hcl, rfl, hL, rfl, rfl⟩, ?_⟩
    show Steps p.tables e below _ (((({ U with heap := s₂.heap, slotsUsed := s₂.slotsUsed } : State).setVm s₂.vm).setTop g).pushFrame (.throwing q))
    rw [← hs₂]
    exact hsteps
end Payer
section Calls
variable {p : Program} {l : Launch} {e : Env} {R : Room} {s : State} {m : MethodId} {args : Array Value} {below : List Frame} {meth : Method} {c : Code} {T : State} {locs : List Loc} {cells slots : Nat}
theorem vx_callV (X : Stand p l e R s m args below meth c T locs cells slots) (hexec : p.tables.exec = Jvm.exec) {own C : String} {index : Nat} {y : MethodName} {bytes : ByteArray} {maxL : Nat} {ret : Option FieldType}
    (hown : s.vm.findClass own = some m.cls) (hlink : (Cond.methodLink own index y).before args s = true) (hinst : (Cond.instanceMethod y).before args s = true) (hsel : (Cond.selects C y y).before args s = true)
    (hcode : (Cond.code y bytes maxL ret).before args s = true) (hy : y.cls ≠ "java/lang/invoke/MethodHandle" ∧ y.cls ≠ "java/lang/invoke/VarHandle")
    {W9 : Nat} {Pre : Pt → Array Value → Prop} {Post : Pt → Array Value → Option Value → Pt → Prop} {PostX : Pt → Array Value → Addr → Pt → Prop} (hK : vx_Back l R p e below s args y 3 W9 Pre Post PostX)
    {b : Addr} {cellB : Cell} (hcell : T.heap[b]? = some cellB) (hobj : cellB.vm.isStatics = false) (hcls : s.vm.findClass C = some cellB.cls)
    {g : JFrame} (hg : g.method = m) (hsize : g.locals.size = c.maxLocals) {argsL rest : List Value} (hlen : ∀ sig, parseMethodDescriptor y.desc = some sig → argsL.length = sig.parameters.length)
    (hstack : g.stack = argsL.reverse ++ .ref b :: rest) (hW : 2 * g.monitorRoom + (rest.map fun v => v.category).sum ≤ W9) (hdg : decode c.code g.pc = .ok (.invokevirtual index, 3))
    (hpre : ∀ vm₁, s.WarmedH vm₁ → Pre ⟨T.setVm vm₁, locs, cells, slots⟩ (Value.ref b :: argsL).toArray) :
    (∃ (v : Option Value) (vm₁ : Vm) (B : Pt), s.WarmedH vm₁ ∧ Stand p l e R s m args below meth c B.U B.locs B.cells B.slots ∧ Post ⟨T.setVm vm₁, locs, cells, slots⟩ (Value.ref b :: argsL).toArray v B ∧
      ∀ target, Steps p.tables e below (B.U.setTop { g with pc := g.pc + 3, stack := v.toList ++ rest }) target → Steps p.tables e below (T.setTop g) target) ∨
    (∃ (q : Addr) (vm₁ : Vm) (B : Pt), s.WarmedH vm₁ ∧ Stand p l e R s m args below meth c B.U B.locs B.cells B.slots ∧ PostX ⟨T.setVm vm₁, locs, cells, slots⟩ (Value.ref b :: argsL).toArray q B ∧
      Steps p.tables e below (T.setTop g) ((B.U.setTop { g with stack := rest }).pushFrame (.throwing q))) := by
  obtain ⟨mk, methM, hnamed, hmethM, hstM, habM⟩ := Cond.instanceMethod_spec hinst
  obtain ⟨methM', cM, hmethM', -, -, -, -, -, -, hsigM⟩ := Cond.code_spec hnamed hcode
  cases hmethM.symm.trans hmethM'
  obtain ⟨c2, r2, m2, q1, q2, q3, q4, kP, hkP, hkPi⟩ := Cond.selects_spec hsel
  cases hcls.symm.trans q1
  cases (State.methodFound?_of_named hnamed hy).symm.trans q2
  cases hnamed.symm.trans q3
  have hselP : selectMethod e.platform s.vm cellB.cls mk = .method mk := by rw [Launch.admits_selectMethod X.admits]; exact q4
  obtain ⟨vm₁, X₁, hstep₁⟩ := X.invokevirtual hexec hown hlink hnamed hmethM hstM hkP hkPi hy (a := b) (cell := cellB) hcell
    (fun z h => by rw [h] at hobj; cases hobj) hselP hmethM habM hkP hkPi (g := g) hg (argsL := argsL) (rest := rest) (hlen _ hsigM) hstack hdg
  rcases hK m meth c ⟨T.setVm vm₁, locs, cells, slots⟩ { g with stack := rest } (.invokevirtual index) mk (Value.ref b :: argsL).toArray X₁ hg hsize hdg hW (X₁.named hnamed) (hpre vm₁ X₁.warmed) with ⟨v, B, X', hpost, hsteps⟩ | ⟨q, B, X', hpost, hsteps⟩
  · exact Or.inl ⟨v, vm₁, B, X₁.warmed, X', hpost, fun target h => hstep₁ _ fun acts => by rw [doInvoke_state]; exact hsteps.trans h⟩
  · exact Or.inr ⟨q, vm₁, B, X₁.warmed, X', hpost, hstep₁ _ fun acts => by rw [doInvoke_state]; exact hsteps⟩
theorem vx_callS (X : Stand p l e R s m args below meth c T locs cells slots) (hexec : p.tables.exec = Jvm.exec) {own : String} {index : Nat} {y : MethodName} {bytes : ByteArray} {maxL : Nat} {ret : Option FieldType}
    (hown : s.vm.findClass own = some m.cls) (hlink : (Cond.methodLink own index y).before args s = true) (hstat : (Cond.static y).before args s = true) (hinit : (Cond.initialized y.cls).before args s = true)
    (hcode : (Cond.code y bytes maxL ret).before args s = true) (hy : y.cls ≠ "java/lang/invoke/MethodHandle" ∧ y.cls ≠ "java/lang/invoke/VarHandle")
    {W9 : Nat} {Pre : Pt → Array Value → Prop} {Post : Pt → Array Value → Option Value → Pt → Prop} {PostX : Pt → Array Value → Addr → Pt → Prop} (hK : vx_Back l R p e below s args y 3 W9 Pre Post PostX)
    {g : JFrame} (hg : g.method = m) (hsize : g.locals.size = c.maxLocals) {argsL rest : List Value} (hlen : ∀ sig, parseMethodDescriptor y.desc = some sig → argsL.length = sig.parameters.length)
    (hstack : g.stack = argsL.reverse ++ rest) (hW : 2 * g.monitorRoom + (rest.map fun v => v.category).sum ≤ W9) (hdg : decode c.code g.pc = .ok (.invokestatic index, 3))
    (hpre : ∀ vm₁, s.WarmedH vm₁ → Pre ⟨T.setVm vm₁, locs, cells, slots⟩ argsL.toArray) :
    (∃ (v : Option Value) (vm₁ : Vm) (B : Pt), s.WarmedH vm₁ ∧ Stand p l e R s m args below meth c B.U B.locs B.cells B.slots ∧ Post ⟨T.setVm vm₁, locs, cells, slots⟩ argsL.toArray v B ∧
      ∀ target, Steps p.tables e below (B.U.setTop { g with pc := g.pc + 3, stack := v.toList ++ rest }) target → Steps p.tables e below (T.setTop g) target) ∨
    (∃ (q : Addr) (vm₁ : Vm) (B : Pt), s.WarmedH vm₁ ∧ Stand p l e R s m args below meth c B.U B.locs B.cells B.slots ∧ PostX ⟨T.setVm vm₁, locs, cells, slots⟩ argsL.toArray q B ∧
      Steps p.tables e below (T.setTop g) ((B.U.setTop { g with stack := rest }).pushFrame (.throwing q))) := by
  obtain ⟨mk, hnamed⟩ := Cond.code_named hcode
  obtain ⟨methM, cM, hmethM, -, -, -, -, -, -, hsigM⟩ := Cond.code_spec hnamed hcode
  have hstatic : methM.isStatic = true := Cond.static_spec hnamed hmethM hstat
  obtain ⟨kP, hkP, -⟩ := className_of_methodNamed hnamed
  have hinitP : kP.init = .initialized := Cond.initialized_spec (findClass_of_methodNamed hnamed) hkP hinit
  obtain ⟨vm₁, X₁, hstep₁⟩ := X.invokestatic hexec hown hlink hnamed hmethM hstatic hkP hinitP hy (g := g) hg (argsL := argsL) (rest := rest) (hlen _ hsigM) hstack hdg
  rcases hK m meth c ⟨T.setVm vm₁, locs, cells, slots⟩ { g with stack := rest } (.invokestatic index) mk argsL.toArray X₁ hg hsize hdg hW (X₁.named hnamed) (hpre vm₁ X₁.warmed) with ⟨v, B, X', hpost, hsteps⟩ | ⟨q, B, X', hpost, hsteps⟩
  · exact Or.inl ⟨v, vm₁, B, X₁.warmed, X', hpost, fun target h => hstep₁ _ fun acts => by rw [doInvoke_state]; exact hsteps.trans h⟩
  · exact Or.inr ⟨q, vm₁, B, X₁.warmed, X', hpost, hstep₁ _ fun acts => by rw [doInvoke_state]; exact hsteps⟩
end Calls
theorem vx_cls {s : State} {T : State} {vm₁ : Vm} {E : String} {k : ClassId} (hW : s.WarmedH vm₁) (h : (T.setVm vm₁).vm.findClass E = some k) : s.vm.findClass E = some k := by
  have h1 : vm₁.findClass E = some k := h
  rw [hW.alike.findClass] at h1
  exact h1
/-- the method's frame g, with q thrown over it -/
def vx_W (p : Program) (l : Launch) (e : Env) (R : Room) (s : State) (m : MethodId) (args : Array Value) (below : List Frame) (meth : Method) (c : Code) (H : Heap) (locs : List Loc) (cells slots : Nat) (Q : State → Prop) (g : JFrame) (q : Addr) : Prop :=
  ∀ T : State, T.heap = H → Stand p l e R s m args below meth c T locs cells slots → ∃ t, Steps p.tables e below ((T.setTop g).pushFrame (.throwing q)) t ∧ Q t
def vx_Run (p : Program) (l : Launch) (e : Env) (R : Room) (s : State) (m : MethodId) (args : Array Value) (below : List Frame) (meth : Method) (c : Code) (H : Heap) (locs : List Loc) (cells slots mc ms : Nat) (g : JFrame) (rest : List Value) (Qa : State → Outcome → State → Prop) (XC : String → State → State → Prop) (free : Addr → Prop) : Prop :=
  ∀ T : State, T.heap = H → Stand p l e R s m args below meth c T locs cells slots →
    (∃ (v : Option Value) (st₀ t T' : State) (L : List Loc), st₀.heap = H ∧ Stand p l e R s m args below meth c T' (locs ++ L) (cells + mc) (slots + ms) ∧ (∀ q ∈ L, free q.base) ∧ T'.heap = t.heap ∧ T'.vm = t.vm ∧ Qa st₀ (.returned v) t ∧
      Goes p e below T g T' { g with pc := g.pc + 3, stack := v.toList ++ rest }) ∨
    (∃ (q : Addr) (st₀ t T' : State) (L : List Loc) (E : String) (ce : Cell), st₀.heap = H ∧ Stand p l e R s m args below meth c T' (locs ++ L) (cells + mc) (slots + ms) ∧ (∀ z ∈ L, free z.base) ∧ T'.heap = t.heap ∧ T'.vm = t.vm ∧ XC E st₀ t ∧ t.heap[q]? = some ce ∧ ce.vm = .none ∧ s.vm.findClass E = some ce.cls ∧
      Steps p.tables e below (T.setTop g) ((T'.setTop { g with stack := rest }).pushFrame (.throwing q)))
def vx_X {S : Type} (px : S → Prop) (B : String → S → State → Prop) (A : Nat → Prop) : String → State → State → Prop := fun E st t => ∃ u : S, px u ∧ B E u t ∧ va_F A st t
section Runs
variable {p : Program} {l : Launch} {e : Env} {R : Room} {s : State} {m : MethodId} {args : Array Value} {below : List Frame} {meth : Method} {c : Code} {H : Heap} {locs : List Loc} {cells slots : Nat}
variable {y : MethodName} {bytes cc : ByteArray} {maxL nL mc ms n index : Nat} {ret : Option FieldType} {ws : List Cond} {rm : Room} {Pc : Array Value → State → Prop} {Qc : Array Value → State → Outcome → State → Prop} {XC : String → State → State → Prop} {free : Addr → Prop} {Ts : List Cond} {own C : String} {b : Addr} {As rest : List Value} {g : JFrame}
theorem vx_callBack (cb : CallB R s args own index y bytes maxL ret ws rm mc ms n) (hM : vx_Met l y ws rm Pc Qc XC mc ms free) (hbl : FrameBlind Pc) : vx_Back l R p e below s args y 3 8 (PreOf R mc ms Pc) (PostOf Qc mc ms free) (vx_Post XC mc ms free) := by
  obtain ⟨hrc, hrs, hfr, hlo, hws, hcw, -, hini, -⟩ := cb
  exact vx_back (bytes := bytes) (maxL := maxL) (ret := ret) hM hbl hrc hrs hfr hlo hws hcw (fun a' U hW => word_at hW (Or.inl (by first | rfl | simp [Cond.onTables, Cond.keeps, Cond.steady])) hini)
theorem vx_runV (S : CallFix p m c cc nL s args Ts own) (hM : vx_Met l y ws rm Pc Qc XC mc ms free) (cw : CallW R s args own C index y bytes maxL ret ws rm mc ms n) (hp : PreV s H C b Pc As)
    (hg : g.method = m) (hn : As.length = n) (hsize : g.locals.size = nL) (hstack : g.stack = As.reverse ++ .ref b :: rest) (hW : 2 * g.monitorRoom + (rest.map fun v => v.category).sum ≤ 8) (hdg : decode cc g.pc = .ok (.invokevirtual index, 3)) (hf : cells + mc ≤ R.cells ∧ slots + ms ≤ R.slots) :
    vx_Run p l e R s m args below meth c H locs cells slots mc ms g rest (Qc (Value.ref b :: As).toArray) XC free := by
  have hK : vx_Back l R p e below s args y 3 8 (PreOf R mc ms Pc) (PostOf Qc mc ms free) (vx_Post XC mc ms free) := vx_callBack cw.1 hM hp.1
  obtain ⟨⟨-, -, -, -, -, -, hcode, -, hy, hlen, hl⟩, hin, hse⟩ := cw
  obtain ⟨hx, hb, hml, ho, -⟩ := S
  obtain ⟨-, ⟨cellB, hcB, hoB, hclB⟩, hPc⟩ := hp
  intro T hT X
  rcases vx_callV X hx (C := C) (bytes := bytes) (maxL := maxL) (ret := ret) ho hl hin hse hcode hy hK (by rw [hT]; exact hcB) hoB hclB hg (hsize.trans hml.symm) (argsL := As) (rest := rest) (fun sig h => hn.trans (hlen sig h)) hstack hW (by rw [hb]; exact hdg)
    (fun vm₁ hW₁ => ⟨hf.1, hf.2, hPc (T.setVm vm₁) hT hW₁⟩) with ⟨v, vm₁, ⟨U', l2, c2, s2⟩, hW₁, X', ⟨g', mk, t, L, e1, e2, hq, h1, hL, h2, h3⟩, st⟩ | ⟨q, vm₁, ⟨U', l2, c2, s2⟩, hW₁, X', ⟨g', mk, t, L, E, ce, e1, e2, hq, hce, hcv, hcl, h1, hL, h2, h3⟩, st⟩
  · dsimp only [Pt.U, Pt.locs, Pt.cells, Pt.slots] at X' e1 e2 h1 h2 h3 st
    subst h1; subst h2; subst h3
    exact Or.inl ⟨v, (T.setVm vm₁).calling g' mk (Value.ref b :: As).toArray, t, U', L, hT, X', hL, e1, e2, hq, st⟩
  · dsimp only [Pt.U, Pt.locs, Pt.cells, Pt.slots] at X' e1 e2 h1 h2 h3 st hcl
    subst h1; subst h2; subst h3
    exact Or.inr ⟨q, (T.setVm vm₁).calling g' mk (Value.ref b :: As).toArray, t, U', L, E, ce, hT, X', hL, e1, e2, hq, hce, hcv, vx_cls hW₁ hcl, st⟩
theorem vx_runS (S : CallFix p m c cc nL s args Ts own) (hM : vx_Met l y ws rm Pc Qc XC mc ms free) (cw : CallB R s args own index y bytes maxL ret ws rm mc ms n ∧ (Cond.static y).before args s = true) (hp : PreS s H Pc As)
    (hg : g.method = m) (hn : As.length = n) (hsize : g.locals.size = nL) (hstack : g.stack = As.reverse ++ rest) (hW : 2 * g.monitorRoom + (rest.map fun v => v.category).sum ≤ 8) (hdg : decode cc g.pc = .ok (.invokestatic index, 3)) (hf : cells + mc ≤ R.cells ∧ slots + ms ≤ R.slots) :
    vx_Run p l e R s m args below meth c H locs cells slots mc ms g rest (Qc As.toArray) XC free := by
  have hK : vx_Back l R p e below s args y 3 8 (PreOf R mc ms Pc) (PostOf Qc mc ms free) (vx_Post XC mc ms free) := vx_callBack cw.1 hM hp.1
  obtain ⟨⟨-, -, -, -, -, -, hcode, hini, hy, hlen, hl⟩, hstt⟩ := cw
  obtain ⟨hx, hb, hml, ho, -⟩ := S
  intro T hT X
  rcases vx_callS X hx (bytes := bytes) (maxL := maxL) (ret := ret) ho hl hstt hini hcode hy hK hg (hsize.trans hml.symm) (argsL := As) (rest := rest) (fun sig h => hn.trans (hlen sig h)) hstack hW (by rw [hb]; exact hdg)
    (fun vm₁ hW₁ => ⟨hf.1, hf.2, hp.2 (T.setVm vm₁) hT hW₁⟩) with ⟨v, vm₁, ⟨U', l2, c2, s2⟩, hW₁, X', ⟨g', mk, t, L, e1, e2, hq, h1, hL, h2, h3⟩, st⟩ | ⟨q, vm₁, ⟨U', l2, c2, s2⟩, hW₁, X', ⟨g', mk, t, L, E, ce, e1, e2, hq, hce, hcv, hcl, h1, hL, h2, h3⟩, st⟩
  · dsimp only [Pt.U, Pt.locs, Pt.cells, Pt.slots] at X' e1 e2 h1 h2 h3 st
    subst h1; subst h2; subst h3
    exact Or.inl ⟨v, (T.setVm vm₁).calling g' mk As.toArray, t, U', L, hT, X', hL, e1, e2, hq, st⟩
  · dsimp only [Pt.U, Pt.locs, Pt.cells, Pt.slots] at X' e1 e2 h1 h2 h3 st hcl
    subst h1; subst h2; subst h3
    exact Or.inr ⟨q, (T.setVm vm₁).calling g' mk As.toArray, t, U', L, E, ce, hT, X', hL, e1, e2, hq, hce, hcv, vx_cls hW₁ hcl, st⟩
end Runs
section Rows
variable {p : Program} {l : Launch} {e : Env} {R : Room} {s : State} {m : MethodId} {args : Array Value} {below : List Frame} {meth : Method} {c : Code} {H : Heap} {locs : List Loc} {cells slots : Nat} {Q : State → Prop}
variable {mc ms : Nat} {free : Addr → Prop} {A0 A1 : Nat → Prop} {H0 : Heap} {a : Array Value} {pc : Nat} {ls : Array Slot} {st0 rest : List Value}
theorem vx_keep {st₀ t T' : State} {L : List Loc} (h0 : st₀.heap = H) (e1 : T'.heap = t.heap) (hS : va_S A0 H0 H locs) (hA : ∀ q, q < H.size → A1 q → A0 q) (hf : ∀ q, free q → A0 q) (hL : ∀ q ∈ L, free q.base) (hF : va_F A1 st₀ t) :
    H.size ≤ T'.heap.size ∧ (∀ q : Nat, q < H.size → ¬ A1 q → T'.heap[q]? = H[q]?) ∧ va_S A0 H0 T'.heap (locs ++ L) := by
  obtain ⟨hz, hk⟩ := hF
  rw [h0] at hz hk
  exact ⟨by rw [e1]; exact hz, fun q h1 h2 => by rw [e1]; exact hk q h1 h2,
    ⟨Nat.le_trans hS.1 (by rw [e1]; exact hz), fun q h1 h2 => by rw [e1, hk q (Nat.lt_of_lt_of_le h1 hS.1) (fun z => h2 (hA q (Nat.lt_of_lt_of_le h1 hS.1) z))]; exact hS.2.1 q h1 h2, fun q hq => by
      rcases List.mem_append.mp hq with h | h
      · exact hS.2.2 q h
      · exact hf _ (hL q h)⟩⟩
theorem vx_calli {S SX : Type} {post : Int32 → S → Prop} {px : SX → Prop} {B : S → State → Prop} {BX : String → SX → State → Prop} {AX : Nat → Prop} (hr : vx_Run p l e R s m args below meth c H locs cells slots mc ms (F0 m pc ls st0) rest (va_Qi post B A1 a) (vx_X px BX AX) free) (hS : va_S A0 H0 H locs) (hA : ∀ q, q < H.size → A1 q → A0 q) (hf : ∀ q, free q → A0 q) (hAX : ∀ q, q < H.size → AX q → A0 q)
    (kx : ∀ (E : String) (ce : Cell) (q9 : Addr) (u : SX) (t : State) (H1 : Heap) (locs1 : List Loc), t.heap = H1 → s.vm.Alike t.vm → px u → BX E u t → H.size ≤ H1.size → (∀ q : Nat, q < H.size → ¬ AX q → H1[q]? = H[q]?) → va_S A0 H0 H1 locs1 → H1[q9]? = some ce → ce.vm = .none → s.vm.findClass E = some ce.cls → vx_W p l e R s m args below meth c H1 locs1 (cells + mc) (slots + ms) Q (F0 m pc ls rest) q9)
    (kk : ∀ (r : Int32) (u : S) (t : State) (H1 : Heap) (locs1 : List Loc), t.heap = H1 → s.vm.Alike t.vm → post r u → B u t → H.size ≤ H1.size → (∀ q : Nat, q < H.size → ¬ A1 q → H1[q]? = H[q]?) → va_S A0 H0 H1 locs1 → W p l e R s m args below meth c H1 locs1 (cells + mc) (slots + ms) Q (F0 m (pc + 3) ls (.int r :: rest))) : W p l e R s m args below meth c H locs cells slots Q (F0 m pc ls st0) := by
  intro T hT X
  rcases hr T hT X with ⟨v, st₀, t, T', L, h0, X', hL, e1, e2, ⟨⟨r, u, hv, hp, hb⟩, hF⟩, st⟩ | ⟨q, st₀, t, T', L, E, ce, h0, X', hL, e1, e2, ⟨u, hp, hb, hF⟩, hce, hcv, hcl, st⟩
  · cases hv
    obtain ⟨k1, k2, k3⟩ := vx_keep h0 e1 hS hA hf hL hF
    obtain ⟨t2, a1, b1⟩ := kk r u t T'.heap (locs ++ L) e1.symm (by rw [← e2]; exact X'.warmed.alike) hp hb k1 k2 k3 T' rfl X'
    exact ⟨t2, st t2 a1, b1⟩
  · obtain ⟨k1, k2, k3⟩ := vx_keep h0 e1 hS hAX hf hL hF
    obtain ⟨t2, a1, b1⟩ := kx E ce q u t T'.heap (locs ++ L) e1.symm (by rw [← e2]; exact X'.warmed.alike) hp hb k1 k2 k3 (by rw [e1]; exact hce) hcv hcl T' rfl X'
    exact ⟨t2, st.trans a1, b1⟩
theorem vx_calll {S SX : Type} {post : Int64 → S → Prop} {px : SX → Prop} {B : S → State → Prop} {BX : String → SX → State → Prop} {AX : Nat → Prop} (hr : vx_Run p l e R s m args below meth c H locs cells slots mc ms (F0 m pc ls st0) rest (va_Ql post B A1 a) (vx_X px BX AX) free) (hS : va_S A0 H0 H locs) (hA : ∀ q, q < H.size → A1 q → A0 q) (hf : ∀ q, free q → A0 q) (hAX : ∀ q, q < H.size → AX q → A0 q)
    (kx : ∀ (E : String) (ce : Cell) (q9 : Addr) (u : SX) (t : State) (H1 : Heap) (locs1 : List Loc), t.heap = H1 → s.vm.Alike t.vm → px u → BX E u t → H.size ≤ H1.size → (∀ q : Nat, q < H.size → ¬ AX q → H1[q]? = H[q]?) → va_S A0 H0 H1 locs1 → H1[q9]? = some ce → ce.vm = .none → s.vm.findClass E = some ce.cls → vx_W p l e R s m args below meth c H1 locs1 (cells + mc) (slots + ms) Q (F0 m pc ls rest) q9)
    (kk : ∀ (r : Int64) (u : S) (t : State) (H1 : Heap) (locs1 : List Loc), t.heap = H1 → s.vm.Alike t.vm → post r u → B u t → H.size ≤ H1.size → (∀ q : Nat, q < H.size → ¬ A1 q → H1[q]? = H[q]?) → va_S A0 H0 H1 locs1 → W p l e R s m args below meth c H1 locs1 (cells + mc) (slots + ms) Q (F0 m (pc + 3) ls (.long r :: rest))) : W p l e R s m args below meth c H locs cells slots Q (F0 m pc ls st0) := by
  intro T hT X
  rcases hr T hT X with ⟨v, st₀, t, T', L, h0, X', hL, e1, e2, ⟨⟨r, u, hv, hp, hb⟩, hF⟩, st⟩ | ⟨q, st₀, t, T', L, E, ce, h0, X', hL, e1, e2, ⟨u, hp, hb, hF⟩, hce, hcv, hcl, st⟩
  · cases hv
    obtain ⟨k1, k2, k3⟩ := vx_keep h0 e1 hS hA hf hL hF
    obtain ⟨t2, a1, b1⟩ := kk r u t T'.heap (locs ++ L) e1.symm (by rw [← e2]; exact X'.warmed.alike) hp hb k1 k2 k3 T' rfl X'
    exact ⟨t2, st t2 a1, b1⟩
  · obtain ⟨k1, k2, k3⟩ := vx_keep h0 e1 hS hAX hf hL hF
    obtain ⟨t2, a1, b1⟩ := kx E ce q u t T'.heap (locs ++ L) e1.symm (by rw [← e2]; exact X'.warmed.alike) hp hb k1 k2 k3 (by rw [e1]; exact hce) hcv hcl T' rfl X'
    exact ⟨t2, st.trans a1, b1⟩
theorem vx_callf {S SX : Type} {post : UInt32 → S → Prop} {px : SX → Prop} {B : S → State → Prop} {BX : String → SX → State → Prop} {AX : Nat → Prop} (hr : vx_Run p l e R s m args below meth c H locs cells slots mc ms (F0 m pc ls st0) rest (va_Qf post B A1 a) (vx_X px BX AX) free) (hS : va_S A0 H0 H locs) (hA : ∀ q, q < H.size → A1 q → A0 q) (hf : ∀ q, free q → A0 q) (hAX : ∀ q, q < H.size → AX q → A0 q)
    (kx : ∀ (E : String) (ce : Cell) (q9 : Addr) (u : SX) (t : State) (H1 : Heap) (locs1 : List Loc), t.heap = H1 → s.vm.Alike t.vm → px u → BX E u t → H.size ≤ H1.size → (∀ q : Nat, q < H.size → ¬ AX q → H1[q]? = H[q]?) → va_S A0 H0 H1 locs1 → H1[q9]? = some ce → ce.vm = .none → s.vm.findClass E = some ce.cls → vx_W p l e R s m args below meth c H1 locs1 (cells + mc) (slots + ms) Q (F0 m pc ls rest) q9)
    (kk : ∀ (r : UInt32) (u : S) (t : State) (H1 : Heap) (locs1 : List Loc), t.heap = H1 → s.vm.Alike t.vm → post r u → B u t → H.size ≤ H1.size → (∀ q : Nat, q < H.size → ¬ A1 q → H1[q]? = H[q]?) → va_S A0 H0 H1 locs1 → W p l e R s m args below meth c H1 locs1 (cells + mc) (slots + ms) Q (F0 m (pc + 3) ls (.float r :: rest))) : W p l e R s m args below meth c H locs cells slots Q (F0 m pc ls st0) := by
  intro T hT X
  rcases hr T hT X with ⟨v, st₀, t, T', L, h0, X', hL, e1, e2, ⟨⟨r, u, hv, hp, hb⟩, hF⟩, st⟩ | ⟨q, st₀, t, T', L, E, ce, h0, X', hL, e1, e2, ⟨u, hp, hb, hF⟩, hce, hcv, hcl, st⟩
  · cases hv
    obtain ⟨k1, k2, k3⟩ := vx_keep h0 e1 hS hA hf hL hF
    obtain ⟨t2, a1, b1⟩ := kk r u t T'.heap (locs ++ L) e1.symm (by rw [← e2]; exact X'.warmed.alike) hp hb k1 k2 k3 T' rfl X'
    exact ⟨t2, st t2 a1, b1⟩
  · obtain ⟨k1, k2, k3⟩ := vx_keep h0 e1 hS hAX hf hL hF
    obtain ⟨t2, a1, b1⟩ := kx E ce q u t T'.heap (locs ++ L) e1.symm (by rw [← e2]; exact X'.warmed.alike) hp hb k1 k2 k3 (by rw [e1]; exact hce) hcv hcl T' rfl X'
    exact ⟨t2, st.trans a1, b1⟩
theorem vx_calld {S SX : Type} {post : UInt64 → S → Prop} {px : SX → Prop} {B : S → State → Prop} {BX : String → SX → State → Prop} {AX : Nat → Prop} (hr : vx_Run p l e R s m args below meth c H locs cells slots mc ms (F0 m pc ls st0) rest (va_Qd post B A1 a) (vx_X px BX AX) free) (hS : va_S A0 H0 H locs) (hA : ∀ q, q < H.size → A1 q → A0 q) (hf : ∀ q, free q → A0 q) (hAX : ∀ q, q < H.size → AX q → A0 q)
    (kx : ∀ (E : String) (ce : Cell) (q9 : Addr) (u : SX) (t : State) (H1 : Heap) (locs1 : List Loc), t.heap = H1 → s.vm.Alike t.vm → px u → BX E u t → H.size ≤ H1.size → (∀ q : Nat, q < H.size → ¬ AX q → H1[q]? = H[q]?) → va_S A0 H0 H1 locs1 → H1[q9]? = some ce → ce.vm = .none → s.vm.findClass E = some ce.cls → vx_W p l e R s m args below meth c H1 locs1 (cells + mc) (slots + ms) Q (F0 m pc ls rest) q9)
    (kk : ∀ (r : UInt64) (u : S) (t : State) (H1 : Heap) (locs1 : List Loc), t.heap = H1 → s.vm.Alike t.vm → post r u → B u t → H.size ≤ H1.size → (∀ q : Nat, q < H.size → ¬ A1 q → H1[q]? = H[q]?) → va_S A0 H0 H1 locs1 → W p l e R s m args below meth c H1 locs1 (cells + mc) (slots + ms) Q (F0 m (pc + 3) ls (.double r :: rest))) : W p l e R s m args below meth c H locs cells slots Q (F0 m pc ls st0) := by
  intro T hT X
  rcases hr T hT X with ⟨v, st₀, t, T', L, h0, X', hL, e1, e2, ⟨⟨r, u, hv, hp, hb⟩, hF⟩, st⟩ | ⟨q, st₀, t, T', L, E, ce, h0, X', hL, e1, e2, ⟨u, hp, hb, hF⟩, hce, hcv, hcl, st⟩
  · cases hv
    obtain ⟨k1, k2, k3⟩ := vx_keep h0 e1 hS hA hf hL hF
    obtain ⟨t2, a1, b1⟩ := kk r u t T'.heap (locs ++ L) e1.symm (by rw [← e2]; exact X'.warmed.alike) hp hb k1 k2 k3 T' rfl X'
    exact ⟨t2, st t2 a1, b1⟩
  · obtain ⟨k1, k2, k3⟩ := vx_keep h0 e1 hS hAX hf hL hF
    obtain ⟨t2, a1, b1⟩ := kx E ce q u t T'.heap (locs ++ L) e1.symm (by rw [← e2]; exact X'.warmed.alike) hp hb k1 k2 k3 (by rw [e1]; exact hce) hcv hcl T' rfl X'
    exact ⟨t2, st.trans a1, b1⟩
theorem vx_callv {S SX : Type} {post : S → Prop} {px : SX → Prop} {B : S → State → Prop} {BX : String → SX → State → Prop} {AX : Nat → Prop} (hr : vx_Run p l e R s m args below meth c H locs cells slots mc ms (F0 m pc ls st0) rest (va_Qv post B A1 a) (vx_X px BX AX) free) (hS : va_S A0 H0 H locs) (hA : ∀ q, q < H.size → A1 q → A0 q) (hf : ∀ q, free q → A0 q) (hAX : ∀ q, q < H.size → AX q → A0 q)
    (kx : ∀ (E : String) (ce : Cell) (q9 : Addr) (u : SX) (t : State) (H1 : Heap) (locs1 : List Loc), t.heap = H1 → s.vm.Alike t.vm → px u → BX E u t → H.size ≤ H1.size → (∀ q : Nat, q < H.size → ¬ AX q → H1[q]? = H[q]?) → va_S A0 H0 H1 locs1 → H1[q9]? = some ce → ce.vm = .none → s.vm.findClass E = some ce.cls → vx_W p l e R s m args below meth c H1 locs1 (cells + mc) (slots + ms) Q (F0 m pc ls rest) q9)
    (kk : ∀ (u : S) (t : State) (H1 : Heap) (locs1 : List Loc), t.heap = H1 → s.vm.Alike t.vm → post u → B u t → H.size ≤ H1.size → (∀ q : Nat, q < H.size → ¬ A1 q → H1[q]? = H[q]?) → va_S A0 H0 H1 locs1 → W p l e R s m args below meth c H1 locs1 (cells + mc) (slots + ms) Q (F0 m (pc + 3) ls (rest))) : W p l e R s m args below meth c H locs cells slots Q (F0 m pc ls st0) := by
  intro T hT X
  rcases hr T hT X with ⟨v, st₀, t, T', L, h0, X', hL, e1, e2, ⟨⟨u, hv, hp, hb⟩, hF⟩, st⟩ | ⟨q, st₀, t, T', L, E, ce, h0, X', hL, e1, e2, ⟨u, hp, hb, hF⟩, hce, hcv, hcl, st⟩
  · cases hv
    obtain ⟨k1, k2, k3⟩ := vx_keep h0 e1 hS hA hf hL hF
    obtain ⟨t2, a1, b1⟩ := kk u t T'.heap (locs ++ L) e1.symm (by rw [← e2]; exact X'.warmed.alike) hp hb k1 k2 k3 T' rfl X'
    exact ⟨t2, st t2 a1, b1⟩
  · obtain ⟨k1, k2, k3⟩ := vx_keep h0 e1 hS hAX hf hL hF
    obtain ⟨t2, a1, b1⟩ := kx E ce q u t T'.heap (locs ++ L) e1.symm (by rw [← e2]; exact X'.warmed.alike) hp hb k1 k2 k3 (by rw [e1]; exact hce) hcv hcl T' rfl X'
    exact ⟨t2, st.trans a1, b1⟩
/-- caught by the row x of this method's table; the rows ahead don't take it -/
theorem vx_catch {own name : String} {E : String} {ce : Cell} {q : Addr} (hown : s.vm.findClass own = some m.cls) (pre : List ExceptionTableEntry) (x : ExceptionTableEntry) (suf : List ExceptionTableEntry) (hsplit : c.exceptionTable.toList = pre ++ x :: suf)
    (hpass : ∀ z ∈ pre, covers z pc = false ∨ (z.catchType ≠ 0 ∧ ∃ nm : String, (Cond.classLink own z.catchType nm).before args s = true ∧ va_Nc E nm s)) (hx : covers x pc = true) (h0 : x.catchType ≠ 0)
    (hlink : (Cond.classLink own x.catchType name).before args s = true) (hcast : (Cond.castable E name).before args s = true) (hcell : H[q]? = some ce) (hv : ce.vm = .none) (hcl : s.vm.findClass E = some ce.cls)
    (kk : W p l e R s m args below meth c H locs cells slots Q (F0 m x.handlerPc ls [.ref q])) : vx_W p l e R s m args below meth c H locs cells slots Q (F0 m pc ls rest) q := by
  intro T hT X
  have hpl : e.platform.magicAccessors = ({} : Platform).magicAccessors := by rw [X.admits.platform]
  obtain ⟨c3, c4, hc3, hc4, hasg⟩ := Cond.castable_spec hcast
  cases Option.some.inj (hc3.symm.trans hcl)
  obtain ⟨c5, hc5, hcl5⟩ := Cond.classLink_spec hown hlink e.platform hpl
  cases Option.some.inj (hc4.symm.trans hc5)
  obtain ⟨vm', X', st⟩ := X.thenCaughtThrough q (g := F0 m pc ls rest) rfl (Steps.refl _) (by rw [hT]; exact hcell) (by rw [hv]; rfl) (by obtain ⟨k9, h9, -⟩ := Vm.findClass_spec hcl; exact ⟨k9, h9⟩) pre x suf hsplit
    (fun z hz => by
      rcases hpass z hz with h | ⟨hz0, nm, hl1, hn1⟩
      · exact Or.inl h
      · obtain ⟨c6, hc6, hcl6⟩ := Cond.classLink_spec hown hl1 e.platform hpl
        obtain ⟨a8, b8, h1, h2, h3⟩ := hn1
        cases Option.some.inj (h1.symm.trans hcl)
        cases Option.some.inj (h2.symm.trans hc6)
        exact Or.inr ⟨hz0, _, hcl6, h3⟩) hx (Or.inr ⟨h0, c4, hcl5, hasg⟩)
  obtain ⟨t, a1, b1⟩ := kk (T.setVm vm') hT X'
  exact ⟨t, st.trans a1, b1⟩
end Rows
section Ends
variable {p : Program} {l : Launch} {e : Env} {R : Room} {s : State} {m : MethodId} {args : Array Value} {below : List Frame} {meth : Method} {c : Code} {H : Heap} {locs : List Loc} {cells slots : Nat} {Q : State → Prop}
variable {mc ms : Nat} {free : Addr → Prop} {A0 A1 : Nat → Prop} {H0 : Heap} {a : Array Value} {ls : Array Slot} {st0 rest : List Value}
variable {Qc : Array Value → State → Outcome → State → Prop} {XC : String → State → State → Prop}
/-- what a body that may throw owes at its end -/
def vx_MQ (below : List Frame) (Qc : Array Value → State → Outcome → State → Prop) (XC : String → State → State → Prop) (a : Array Value) (s : State) (mc ms : Nat) (free : Addr → Prop) : State → Prop := fun t =>
  ∃ o, t.status = .running ∧ Ended t below o ∧ vx_Q Qc XC mc ms free a s o t
theorem vx_ret {g : JFrame} {mc ms : Nat} (k : W p l e R s m args below meth c H locs cells slots (MQ below Qc args s mc ms free) g) : W p l e R s m args below meth c H locs cells slots (vx_MQ below Qc XC args s mc ms free) g := by
  intro T hT X
  obtain ⟨t, a1, o, b1, b2, b3, b4⟩ := k T hT X
  exact ⟨t, a1, o, b1, b2, Or.inl ⟨b3, b4⟩⟩
/-- not caught here: it goes on to the caller -/
theorem vx_widen {g : JFrame} {q : Addr} {k n : Nat} (h1 : cells ≤ k) (h2 : slots ≤ n) (kk : vx_W p l e R s m args below meth c H locs k n Q g q) : vx_W p l e R s m args below meth c H locs cells slots Q g q := fun T hT X => kk T hT (stand_widen X h1 h2)
theorem vx_out {pc : Nat} {E : String} {ce : Cell} {q : Addr} {mc ms : Nat} (hout : ∀ x ∈ c.exceptionTable.toList, covers x pc = false) (hlocks : meth.locks = false) (hcell : H[q]? = some ce) (hv : ce.vm = .none) (hcl : s.vm.findClass E = some ce.cls)
    (hx : ∀ t : State, t.heap = H → s.vm.Alike t.vm → XC E s t) (hf : ∀ z ∈ locs, free z.base) (hc : cells ≤ mc) (hs : slots ≤ ms) :
    vx_W p l e R s m args below meth c H locs cells slots (vx_MQ below Qc XC args s mc ms free) (F0 m pc ls rest) q := by
  intro T hT X
  obtain ⟨st1, hrun, hend, hW, hsm⟩ := X.leaveThrown q (g := F0 m pc ls rest) rfl rfl rfl hout hlocks
  have hcell9 : (T.setFrames (.throwing q :: below)).heap[q]? = some ce := by
    show T.heap[q]? = some ce
    rw [hT]; exact hcell
  exact ⟨_, st1, .threw q, hrun, hend, Or.inr ⟨q, rfl, E, ce, locs, hx _ hT hW.alike, hcell9, hv, hcl, hW, hsm.mono hc hs, hf⟩⟩
theorem vx_frame {U : State} {k n : Nat} (h : s.sameButNew ({ U with vm := s.vm } : State) locs k n) : s.heap.size ≤ U.heap.size ∧ ∀ q : Nat, q < s.heap.size → (∀ z ∈ locs, z.base ≠ q) → U.heap[q]? = s.heap[q]? := by
  obtain ⟨-, h2, -, -, -, h6⟩ := h
  refine ⟨h2, fun q hq hz => ?_⟩
  obtain ⟨c9, e1, e2, e3, e4⟩ := h6 q _ (Array.getElem?_eq_getElem hq)
  have hs : c9.slots = (s.heap[q]).slots := Array.ext_getElem? fun i => e4 i fun hm => hz _ hm rfl
  have h9 : c9 = s.heap[q] := by
    rw [hs] at e2
    exact e2
  have e5 : U.heap[q]? = some c9 := e1
  rw [e5, h9, Array.getElem?_eq_getElem hq]
/-- the words of a throw but the four that speak of the heap -/
def vx_no (w : Cond) : Bool := decide (w ≠ .isRef (.static Bundle.tN "UNASSIGNED_STACK" Bundle.steD)) && decide (w ≠ .isRef (.static Bundle.tN "SUPPRESSED_SENTINEL" Bundle.listD)) && decide (w ≠ .laysStatic Bundle.tN "UNASSIGNED_STACK" Bundle.steD) && decide (w ≠ .laysStatic Bundle.tN "SUPPRESSED_SENTINEL" Bundle.listD)
def vx_at0 (own : String) (ic : Nat) (X : String) (names : List String) : List Cond := (Bundle.ownAtoms0 own ic X names).filter vx_no
def vx_atS (own : String) (ic : Nat) (X : String) (names : List String) : List Cond := (Bundle.ownAtoms own ic X names).filter vx_no
/-- a word that the tables alone decide, or a good one -/
def vx_ot (w : Cond) : Bool := w.onTables || goodWord w
theorem vx_ot_at {args a' : Array Value} {s U : State} {w : Cond} (hW : s.WarmedH U.vm) (hvm : s.vm = U.vm) (hg : vx_ot w = true) (h : w.before args s = true) : w.before a' U = true := by
  simp only [vx_ot, Bool.or_eq_true] at hg
  rcases hg with hg | hg
  · exact va_tabs hg hvm h
  · exact word_at hW (good_of_word hg) h
/-- a list's words: the good ones out of the method's own list, the others by premises of their own -/
theorem vx_hat {args : Array Value} {s : State} {L B : List Cond} (h1 : ∀ w ∈ L.filter goodWord, w.before args s = true) (h2 : ∀ w ∈ L.filter (fun w => !goodWord w), w ∈ B) (h3 : ∀ w ∈ B, w.before args s = true) : ∀ w ∈ L, w.before args s = true := by
  intro w hw
  by_cases g : goodWord w = true
  · exact h1 w (List.mem_filter.mpr ⟨hw, g⟩)
  · refine h3 w (h2 w (List.mem_filter.mpr ⟨hw, ?_⟩))
    show (!goodWord w) = true
    cases hgw : goodWord w
    · rfl
    · exact absurd hgw g
theorem vx_c {args : Array Value} {s : State} {w : Cond} {B : List Cond} (h : w.before args s = true) (t : ∀ w ∈ B, w.before args s = true) : ∀ w' ∈ w :: B, w'.before args s = true := fun w' h' => (List.mem_cons.mp h').elim (fun e => by rw [e]; exact h) (t w')
theorem vx_n {args : Array Value} {s : State} : ∀ w ∈ ([] : List Cond), w.before args s = true := fun _ h => nomatch h
theorem vx_own {args : Array Value} {s : State} {L : List Cond} (h1 : ∀ w ∈ L.filter vx_no, w.before args s = true)
    (hU : (Cond.isRef (.static Bundle.tN "UNASSIGNED_STACK" Bundle.steD)).before args s = true) (hN : (Cond.isRef (.static Bundle.tN "SUPPRESSED_SENTINEL" Bundle.listD)).before args s = true)
    (lU : (Cond.laysStatic Bundle.tN "UNASSIGNED_STACK" Bundle.steD).before args s = true) (lN : (Cond.laysStatic Bundle.tN "SUPPRESSED_SENTINEL" Bundle.listD).before args s = true) : ∀ w ∈ L, w.before args s = true := by
  intro w hw
  by_cases e1 : w = .isRef (.static Bundle.tN "UNASSIGNED_STACK" Bundle.steD)
  · rw [e1]; exact hU
  · by_cases e2 : w = .isRef (.static Bundle.tN "SUPPRESSED_SENTINEL" Bundle.listD)
    · rw [e2]; exact hN
    · by_cases e3 : w = .laysStatic Bundle.tN "UNASSIGNED_STACK" Bundle.steD
      · rw [e3]; exact lU
      · by_cases e4 : w = .laysStatic Bundle.tN "SUPPRESSED_SENTINEL" Bundle.listD
        · rw [e4]; exact lN
        · exact h1 w (List.mem_filter.mpr ⟨hw, by unfold vx_no; rw [decide_eq_true e1, decide_eq_true e2, decide_eq_true e3, decide_eq_true e4]; rfl⟩)
/-- where a static field lies, its class's statics cell in H -/
def vx_L (C n d : String) (A : Nat → Prop) (U : State) (H : Heap) : Prop := ∃ (c : ClassId) (k : Class) (i : Nat) (f : Field) (a : Nat) (cell : Cell), U.vm.findClass C = some c ∧ U.fieldFound? C n d = some (c, k, i, f) ∧ f.isStatic = true ∧ k.statics = some a ∧ H[a]? = some cell ∧ cell.vm.isStatics = true ∧ cell.cls = c ∧ f.slot < cell.slots.size ∧ k.staticTypes[f.slot]? = some f.type ∧ ¬ A a
theorem vx_L.moved {C n d : String} {A : Nat → Prop} {u U : State} {H : Heap} (hvm : u.vm.Alike U.vm) (h : vx_L C n d A u H) : vx_L C n d A U H := by
  obtain ⟨c, k, i, f, a, cell, h1, h2, h3, h4, h5, h6, h7, h8, h9, h10⟩ := h
  obtain ⟨k', hi', he⟩ := State.fieldFound?_setVm hvm h2
  exact ⟨c, k', i, f, a, cell, by rw [hvm.findClass]; exact h1, hi', h3, by rw [he]; exact h4, h5, h6, h7, h8, by rw [he]; exact h9, h10⟩
theorem vx_L.kept {C n d : String} {A : Nat → Prop} {U : State} {H H1 : Heap} (h : vx_L C n d A U H) (hq : ∀ a : Nat, a < H.size → ¬ A a → H1[a]? = H[a]?) : vx_L C n d A U H1 := by
  obtain ⟨c, k, i, f, a, cell, h1, h2, h3, h4, h5, h6, h7, h8, h9, h10⟩ := h
  exact ⟨c, k, i, f, a, cell, h1, h2, h3, h4, by rw [hq a (Array.getElem?_eq_some_iff.mp h5).1 h10]; exact h5, h6, h7, h8, h9, h10⟩
theorem vx_L.narrow {C n d : String} {A B : Nat → Prop} {U : State} {H : Heap} (h : vx_L C n d A U H) (hAB : ∀ q, B q → A q) : vx_L C n d B U H := by
  obtain ⟨c, k, i, f, a, cell, h1, h2, h3, h4, h5, h6, h7, h8, h9, h10⟩ := h
  exact ⟨c, k, i, f, a, cell, h1, h2, h3, h4, h5, h6, h7, h8, h9, fun z => h10 (hAB _ z)⟩
theorem vx_L.word {C n d : String} {A : Nat → Prop} {s : State} {args : Array Value} (h : vx_L C n d A s s.heap) : (Cond.laysStatic C n d).before args s = true := by
  obtain ⟨c, k, i, f, a, cell, h1, h2, h3, h4, h5, h6, h7, h8, h9, -⟩ := h
  show (Cond.laysStatic C n d).holds args s none s [] = true
  exact Cond.laysStatic_of h1 h2 h3 h4 h5 h6 h7 h8 h9
/-- .. and what it holds: null or some reference -/
def vx_Zq (C n d : String) (A : Nat → Prop) (U : State) (H : Heap) : Prop := va_Zq C n d A U H ∧ vx_L C n d A U H
theorem vx_Zq.moved {C n d : String} {A : Nat → Prop} {u U : State} {H : Heap} (hvm : u.vm.Alike U.vm) (h : vx_Zq C n d A u H) : vx_Zq C n d A U H := ⟨va_Zq.moved hvm h.1, vx_L.moved hvm h.2⟩
theorem vx_Zq.kept {C n d : String} {A : Nat → Prop} {U : State} {H H1 : Heap} (h : vx_Zq C n d A U H) (hq : ∀ a : Nat, a < H.size → ¬ A a → H1[a]? = H[a]?) : vx_Zq C n d A U H1 := ⟨va_Zq.kept h.1 hq, vx_L.kept h.2 hq⟩
theorem vx_Zq.narrow {C n d : String} {A B : Nat → Prop} {U : State} {H : Heap} (h : vx_Zq C n d A U H) (hAB : ∀ q, B q → A q) : vx_Zq C n d B U H := ⟨va_Zq.narrow h.1 hAB, vx_L.narrow h.2 hAB⟩
theorem vx_Zqof {args : Array Value} {s : State} {C n d : String} {A : Nat → Prop} (hl : (Cond.laysStatic C n d).before args s = true) (hini : (Cond.initialized C).before args s = true) (h : (Cond.isRef (.static C n d)).before args s = true) (hA : ∀ a : Nat, a < s.heap.size → ¬ A a) : vx_Zq C n d A s s.heap := by
  refine ⟨va_Zqof hl hini h hA, ?_⟩
  obtain ⟨c, k, i, f, a, cell, h1, h2, h3, h4, h5, h6, h7, h8, h9⟩ := Cond.laysStatic_spec hl
  exact ⟨c, k, i, f, a, cell, h1, h2, h3, h4, h5, h6, h7, h8, h9, hA a (Array.getElem?_eq_some_iff.mp h5).1⟩
theorem vx_isRef {C n d : String} {v : Value} {A : Nat → Prop} {s : State} {args : Array Value} (h : va_Z C n d v A s s.heap) (hv : v.isRef = true) : (Cond.isRef (.static C n d)).before args s = true := by
  obtain ⟨cf, kf, fi, f, a, cell, h1, h2, h3, h4, h5, h6, h7, -⟩ := h
  have he : (Term.static C n d).eval args s none [] s = some v := by
    simp [Term.eval, State.fieldNamed?, h1, h2, h4, h5, h6, h7]
  simp only [Cond.before, Cond.holds, Cond.value, he]
  cases v <;> simp_all [Value.isRef]
theorem vx_isRefq {C n d : String} {A : Nat → Prop} {s : State} {args : Array Value} (h : va_Zq C n d A s s.heap) : (Cond.isRef (.static C n d)).before args s = true := by
  rcases h with h | ⟨t, h⟩
  · exact vx_isRef h rfl
  · exact vx_isRef h rfl
/-- the same frame, seen from here: as if the method were called anew in this heap -/
theorem vx_rebase {T : State} (X : Stand p l e R s m args below meth c T locs cells slots) {R' : Room} (hf : R'.frames ≤ R.frames) (hl : R'.locals ≤ R.locals) (hc : cells + R'.cells ≤ R.cells) (hs : slots + R'.slots ≤ R.slots) :
    Stand p l e R' ((T.setVm s.vm).setFrames (.invoking m args :: below)) m args below meth c T [] 0 0 := by
  have htop : (T.setVm s.vm).topJava?.isSome := X.here.top
  have hF : ((T.setVm s.vm).setFrames (.invoking m args :: below)).frames = .invoking m args :: below := State.frames_setFrames _ (State.cur_lt_of_top htop)
  obtain ⟨g₀, hg0⟩ := Option.isSome_iff_exists.mp htop
  obtain ⟨r, hr⟩ := State.topJava?_eq_some.mp hg0
  have hl9 : e.platform.stackLimits (T.setVm s.vm).me = e.platform.stackLimits s.me := X.limits
  have hb9 : (T.setVm s.vm).me.stackBytes = s.me.stackBytes := X.bytes
  refine ⟨X.admits, X.cas, X.clock, hF, ?_, X.hears, X.method, X.code, X.here, X.tail, X.warmed, ?_, ?_, ?_⟩
  · have h := X.room
    have hU : ((T.setVm s.vm).setFrames (.invoking m args :: below)).localsInUse = s.localsInUse := by
      rw [State.localsInUse_invoking hF (meth := meth) (c := c) X.method X.code, State.localsInUse_invoking X.frames X.method X.code]
    simp only [State.hasRoom, Bool.and_eq_true, decide_eq_true_eq] at h ⊢
    obtain ⟨⟨⟨⟨h1, h2, h3, h4, h5, h6⟩, h7⟩, h8⟩, h9⟩ := h
    rw [X.frames, List.length_cons] at h2 h3
    have q1 := X.heapSize
    have q2 := X.used
    simp only [hF, hU, List.length_cons, State.stackLimits_setFrames, State.stackBytes_setFrames, hl9, hb9]
    refine ⟨⟨⟨⟨by omega, by omega, by omega, by omega, by omega, h6⟩, ?_⟩, ?_⟩, X.book⟩
    · show T.heap.size + R'.cells ≤ e.platform.maxCells
      omega
    · show T.slotsUsed + R'.slots ≤ e.platform.maxSlots
      omega
  · rw [State.stackLimits_setFrames]; rfl
  · rw [State.stackBytes_setFrames]; rfl
  · refine ⟨?_, Nat.le_refl _, Nat.le_refl _, ?_, ?_, fun a c9 h9 => ⟨c9, h9, rfl, rfl, fun _ _ => rfl⟩⟩
    · obtain ⟨t, ht, -⟩ := State.frames_cons hr
      show T.setVm s.vm = { ((T.setVm s.vm).setFrames (.invoking m args :: below)).setFrames (T.setVm s.vm).frames with heap := T.heap, slotsUsed := T.slotsUsed }
      rw [State.setFrames_setFrames, State.setFrames_self ht]
      rfl
    · show T.slotsUsed = T.slotsUsed + ((T.heap.toList.drop T.heap.size).map (·.slots.size)).sum
      rw [List.drop_eq_nil_of_le (Nat.le_of_eq Array.length_toList)]
      rfl
    · show ((T.heap.toList.drop T.heap.size).map (·.slots.size)).sum ≤ 0
      rw [List.drop_eq_nil_of_le (Nat.le_of_eq Array.length_toList)]
      exact Nat.le_refl _
/-- 'throw new E()': new; dup; invokespecial; athrow -/
theorem vx_throw0 {cc : ByteArray} {pc : Nat} (hexec : p.tables.exec = Jvm.exec) (hb : c.code = cc) (hl : l.stackTraces = false) {own cls : String} {names : List String} {ik ic mc ms : Nat} {A : Nat → Prop}
    (hown : s.vm.findClass own = some m.cls) (hcls : Bundle.fit cls = true) (hnames : ∀ n ∈ names, Bundle.fit n = true)
    (hk : (Cond.classLink own ik cls).before args s = true) (hini : (Cond.initialized cls).before args s = true) (hat : ∀ w ∈ vx_at0 own ic cls names, w.before args s = true)
    (hgood : ∀ w ∈ Cond.classLink own ik cls :: Cond.initialized cls :: vx_at0 own ic cls names, vx_ot w = true)
    (hU : vx_Zq Bundle.tN "UNASSIGNED_STACK" Bundle.steD A s s.heap) (hN : vx_Zq Bundle.tN "SUPPRESSED_SENTINEL" Bundle.listD A s s.heap) (hS : va_S A s.heap H locs) (hsize : ls.size = c.maxLocals)
    (d0 : decode cc pc = .ok (.new ik, 3)) (d3 : decode cc (pc + 3) = .ok (.dup, 1)) (d4 : decode cc (pc + 4) = .ok (.invokespecial ic, 3)) (d7 : decode cc (pc + 7) = .ok (.athrow, 1))
    (hout : ∀ x ∈ c.exceptionTable.toList, covers x (pc + 7) = false)
    (hRframes : names.length + 3 < R.frames) (hRlocals : (rest.map fun v => v.category).sum + (13 * (names.length + 1) + 42) ≤ R.locals) (hRcells : cells + 1 ≤ R.cells) (hRslots : slots + 6 ≤ R.slots) (hlocks : meth.locks = false)
    (hx : ∀ t : State, s.vm.Alike t.vm → H.size ≤ t.heap.size → (∀ q : Nat, q < H.size → t.heap[q]? = H[q]?) → XC cls s t)
    (hf : ∀ z ∈ locs, free z.base) (hc : cells + 1 ≤ mc) (hs : slots + 6 ≤ ms) :
    W p l e R s m args below meth c H locs cells slots (vx_MQ below Qc XC args s mc ms free) (F0 m pc ls rest) := by
  intro T hT X
  have htr : e.platform.stackTraces = false := (show e.platform.stackTraces = l.stackTraces by rw [X.admits.platform]).trans hl
  have Y := vx_rebase X (R' := { frames := R.frames, locals := R.locals, cells := 1, slots := 6 }) (Nat.le_refl _) (Nat.le_refl _) hRcells hRslots
  obtain ⟨s', hA⟩ : ∃ z, z = (T.setVm s.vm).setFrames (.invoking m args :: below) := ⟨_, rfl⟩
  rw [← hA] at Y
  have hvm : s'.vm = s.vm := by rw [hA]; rfl
  have hhp : s'.heap = H := by rw [hA]; exact hT
  have hW0 : s.WarmedH s'.vm := by rw [hvm]; exact State.WarmedH.refl s
  have hat' : ∀ w ∈ vx_at0 own ic cls names, w.before args s' = true := fun w hw => vx_ot_at hW0 hvm.symm (hgood w (List.mem_cons_of_mem _ (List.mem_cons_of_mem _ hw))) (hat w hw)
  have hk' : (Cond.classLink own ik cls).before args s' = true := vx_ot_at hW0 hvm.symm (hgood _ List.mem_cons_self) hk
  have hini' : (Cond.initialized cls).before args s' = true := vx_ot_at hW0 hvm.symm (hgood _ (List.mem_cons_of_mem _ List.mem_cons_self)) hini
  have hU' : vx_Zq Bundle.tN "UNASSIGNED_STACK" Bundle.steD A s' s'.heap := by rw [hhp]; exact vx_Zq.moved hW0.alike (hU.kept hS.2.1)
  have hN' : vx_Zq Bundle.tN "SUPPRESSED_SENTINEL" Bundle.listD A s' s'.heap := by rw [hhp]; exact vx_Zq.moved hW0.alike (hN.kept hS.2.1)
  have h : ∀ w ∈ Bundle.ownAtoms0 own ic cls names, w.before args s' = true := vx_own hat' (vx_isRefq hU'.1) (vx_isRefq hN'.1) hU'.2.word hN'.2.word
  have hown' : s'.vm.findClass own = some m.cls := by rw [hvm]; exact hown
  have hins : (Cond.instantiable cls 6).before args s' = true := h _ (by simp [Bundle.ownAtoms0])
  obtain ⟨vm₁, cX, kX, hfX, hkX, -, -, X₁, st1⟩ := Y.newCold hexec (own := own) (C := cls) (index := ik) (n := 6) hown' hk' hins hini'
    (g := F0 m pc ls rest) rfl (by rw [hb]; exact d0) (Nat.le_refl _) (Nat.le_refl _)
  generalize hT1 : (T.setVm vm₁).pushCell { cls := cX, slots := kX.instanceTypes.map defaultValue, vm := .none } = T1 at X₁ st1
  have hcat : (Value.ref T.heap.size).category = 1 := rfl
  have hcellA : T1.heap[T.heap.size]? = some (freshCell cX kX) := by rw [← hT1]; exact State.heap_pushCell_size _ _
  have d3' : decode c.code (pc + 3) = .ok (.dup, 1) := by rw [hb]; exact d3
  obtain ⟨U, hsteps, hrun, hend, hW, hsame, ce, hce, hO⟩ := X₁.ctorThrow0 hexec htr (own := own) (cls := cls) (names := names) (ic := ic) hown' hcls hnames h (fun x hx => nomatch hx) hfX hkX hcellA (by rw [hhp, hT]; exact Nat.le_refl _)
    (g := { method := m, pc := pc + 4, locals := ls, stack := .ref T.heap.size :: .ref T.heap.size :: rest, locked := none }) rfl hsize rfl rfl (rest := rest) rfl
    (by rw [hb]; exact d4) (by rw [hb]; exact d7) hout hRframes (by simp only [List.map_cons, List.sum_cons, hcat]; omega) hlocks
  obtain ⟨f1, f2⟩ := vx_frame hsame
  rw [hhp] at f1 f2
  have hWs : s.WarmedH U.vm := State.WarmedH.trans hW0 hW
  have hcl : s.vm.findClass cls = some ce.cls := by
    have h9 := hO.cls
    rw [hvm] at h9
    exact h9
  have hall : s.sameButNew ({ U with vm := s.vm } : State) locs mc ms := by
    subst hA
    obtain ⟨e1, e2⟩ := hsame
    rw [State.setFrames_setFrames] at e1
    have h2 : (T.setVm s.vm).sameButNew ({ U with vm := s.vm } : State) [] (0 + 1) (0 + 6) := ⟨e1, e2⟩
    have h3 := X.same.trans h2
    rw [List.append_nil] at h3
    exact h3.mono hc hs
  refine ⟨U, ?_, .threw T.heap.size, hrun, hend, Or.inr ⟨T.heap.size, rfl, cls, ce, locs, hx U hWs.alike f1 (fun q hq => f2 q hq (fun z hz => nomatch hz)), hce, hO.vm, hcl, hWs, hall, hf⟩⟩
  refine st1 _ ?_
  show Steps p.tables e below (T1.setTop { method := m, pc := pc + 3, locals := ls, stack := .ref T.heap.size :: rest, locked := none }) _
  jvm_step X₁.here [X₁.here.top, hexec, d3', Value.category]
  exact hsteps
/-- 'throw new E("text")': new; dup; ldc; invokespecial; athrow -/
theorem vx_throwS {cc : ByteArray} {pc : Nat} (hexec : p.tables.exec = Jvm.exec) (hb : c.code = cc) (hl : l.stackTraces = false) {own cls text : String} {names : List String} {ik is ic mc ms sa : Nat} {A : Nat → Prop}
    (hown : s.vm.findClass own = some m.cls) (hcls : Bundle.fit cls = true) (hnames : ∀ n ∈ names, Bundle.fit n = true)
    (hk : (Cond.classLink own ik cls).before args s = true) (hini : (Cond.initialized cls).before args s = true) (hstr : vk_R own is text sa s) (hat : ∀ w ∈ vx_atS own ic cls names, w.before args s = true)
    (hgood : ∀ w ∈ Cond.classLink own ik cls :: Cond.initialized cls :: vx_atS own ic cls names, vx_ot w = true)
    (hU : vx_Zq Bundle.tN "UNASSIGNED_STACK" Bundle.steD A s s.heap) (hN : vx_Zq Bundle.tN "SUPPRESSED_SENTINEL" Bundle.listD A s s.heap) (hS : va_S A s.heap H locs) (hsize : ls.size = c.maxLocals)
    (d0 : decode cc pc = .ok (.new ik, 3)) (d3 : decode cc (pc + 3) = .ok (.dup, 1)) (d4 : decode cc (pc + 4) = .ok (.ldc is, 2)) (d6 : decode cc (pc + 6) = .ok (.invokespecial ic, 3)) (d9 : decode cc (pc + 9) = .ok (.athrow, 1))
    (hout : ∀ x ∈ c.exceptionTable.toList, covers x (pc + 9) = false)
    (hRframes : names.length + 3 < R.frames) (hRlocals : (rest.map fun v => v.category).sum + (13 * (names.length + 1) + 43) ≤ R.locals) (hRcells : cells + 1 ≤ R.cells) (hRslots : slots + 6 ≤ R.slots) (hlocks : meth.locks = false)
    (hx : ∀ t : State, s.vm.Alike t.vm → H.size ≤ t.heap.size → (∀ q : Nat, q < H.size → t.heap[q]? = H[q]?) → XC cls s t)
    (hf : ∀ z ∈ locs, free z.base) (hc : cells + 1 ≤ mc) (hs : slots + 6 ≤ ms) :
    W p l e R s m args below meth c H locs cells slots (vx_MQ below Qc XC args s mc ms free) (F0 m pc ls rest) := by
  intro T hT X
  have htr : e.platform.stackTraces = false := (show e.platform.stackTraces = l.stackTraces by rw [X.admits.platform]).trans hl
  have Y := vx_rebase X (R' := { frames := R.frames, locals := R.locals, cells := 1, slots := 6 }) (Nat.le_refl _) (Nat.le_refl _) hRcells hRslots
  obtain ⟨s', hA⟩ : ∃ z, z = (T.setVm s.vm).setFrames (.invoking m args :: below) := ⟨_, rfl⟩
  rw [← hA] at Y
  have hvm : s'.vm = s.vm := by rw [hA]; rfl
  have hhp : s'.heap = H := by rw [hA]; exact hT
  have hW0 : s.WarmedH s'.vm := by rw [hvm]; exact State.WarmedH.refl s
  have hat' : ∀ w ∈ vx_atS own ic cls names, w.before args s' = true := fun w hw => vx_ot_at hW0 hvm.symm (hgood w (List.mem_cons_of_mem _ (List.mem_cons_of_mem _ hw))) (hat w hw)
  have hk' : (Cond.classLink own ik cls).before args s' = true := vx_ot_at hW0 hvm.symm (hgood _ List.mem_cons_self) hk
  have hini' : (Cond.initialized cls).before args s' = true := vx_ot_at hW0 hvm.symm (hgood _ (List.mem_cons_of_mem _ List.mem_cons_self)) hini
  have hU' : vx_Zq Bundle.tN "UNASSIGNED_STACK" Bundle.steD A s' s'.heap := by rw [hhp]; exact vx_Zq.moved hW0.alike (hU.kept hS.2.1)
  have hN' : vx_Zq Bundle.tN "SUPPRESSED_SENTINEL" Bundle.listD A s' s'.heap := by rw [hhp]; exact vx_Zq.moved hW0.alike (hN.kept hS.2.1)
  have h : ∀ w ∈ Bundle.ownAtoms own ic cls names, w.before args s' = true := vx_own hat' (vx_isRefq hU'.1) (vx_isRefq hN'.1) hU'.2.word hN'.2.word
  have hown' : s'.vm.findClass own = some m.cls := by rw [hvm]; exact hown
  have hins : (Cond.instantiable cls 6).before args s' = true := h _ (by simp [Bundle.ownAtoms])
  obtain ⟨vm₁, cX, kX, hfX, hkX, -, -, X₁, st1⟩ := Y.newCold hexec (own := own) (C := cls) (index := ik) (n := 6) hown' hk' hins hini'
    (g := F0 m pc ls rest) rfl (by rw [hb]; exact d0) (Nat.le_refl _) (Nat.le_refl _)
  generalize hT1 : (T.setVm vm₁).pushCell { cls := cX, slots := kX.instanceTypes.map defaultValue, vm := .none } = T1 at X₁ st1
  have hcat : (Value.ref T.heap.size).category = 1 := rfl
  have hcellA : T1.heap[T.heap.size]? = some (freshCell cX kX) := by rw [← hT1]; exact State.heap_pushCell_size _ _
  have d3' : decode c.code (pc + 3) = .ok (.dup, 1) := by rw [hb]; exact d3
  have d4' : decode c.code (pc + 4) = .ok (.ldc is, 2) := by rw [hb]; exact d4
  have hstr' : vk_R own is text sa s' := vk_R.warm hW0 hstr
  obtain ⟨U, hsteps, hrun, hend, hW, hsame, ce, hce, hO⟩ := X₁.ctorThrowS hexec htr (own := own) (cls := cls) (names := names) (ic := ic) hown' hcls hnames h (fun x hx => nomatch hx) hfX hkX hcellA (by rw [hhp, hT]; exact Nat.le_refl _) (msg := .ref sa) rfl
    (g := { method := m, pc := pc + 6, locals := ls, stack := .ref sa :: .ref T.heap.size :: .ref T.heap.size :: rest, locked := none }) rfl hsize rfl rfl (rest := rest) rfl
    (by rw [hb]; exact d6) (by rw [hb]; exact d9) hout hRframes (by simp only [List.map_cons, List.sum_cons, hcat]; omega) hlocks
  obtain ⟨f1, f2⟩ := vx_frame hsame
  rw [hhp] at f1 f2
  have hWs : s.WarmedH U.vm := State.WarmedH.trans hW0 hW
  have hcl : s.vm.findClass cls = some ce.cls := by
    have h9 := hO.cls
    rw [hvm] at h9
    exact h9
  have hall : s.sameButNew ({ U with vm := s.vm } : State) locs mc ms := by
    subst hA
    obtain ⟨e1, e2⟩ := hsame
    rw [State.setFrames_setFrames] at e1
    have h2 : (T.setVm s.vm).sameButNew ({ U with vm := s.vm } : State) [] (0 + 1) (0 + 6) := ⟨e1, e2⟩
    have h3 := X.same.trans h2
    rw [List.append_nil] at h3
    exact h3.mono hc hs
  refine ⟨U, ?_, .threw T.heap.size, hrun, hend, Or.inr ⟨T.heap.size, rfl, cls, ce, locs, hx U hWs.alike f1 (fun q hq => f2 q hq (fun z hz => nomatch hz)), hce, hO.vm, hcl, hWs, hall, hf⟩⟩
  refine st1 _ ?_
  show Steps p.tables e below (T1.setTop { method := m, pc := pc + 3, locals := ls, stack := .ref T.heap.size :: rest, locked := none }) _
  jvm_step X₁.here [X₁.here.top, hexec, d3', Value.category]
  exact X₁.ldcString hexec (own := own) (text := text) (index := is) (a := sa) hown' hstr'.1 hstr'.2
    (g := { method := m, pc := pc + 4, locals := ls, stack := .ref T.heap.size :: .ref T.heap.size :: rest, locked := none }) rfl d4' _ hsteps
/-- 'throw new E("text")', the text by a wide index -/
theorem vx_throwSW {cc : ByteArray} {pc : Nat} (hexec : p.tables.exec = Jvm.exec) (hb : c.code = cc) (hl : l.stackTraces = false) {own cls text : String} {names : List String} {ik is ic mc ms sa : Nat} {A : Nat → Prop}
    (hown : s.vm.findClass own = some m.cls) (hcls : Bundle.fit cls = true) (hnames : ∀ n ∈ names, Bundle.fit n = true)
    (hk : (Cond.classLink own ik cls).before args s = true) (hini : (Cond.initialized cls).before args s = true) (hstr : vk_R own is text sa s) (hat : ∀ w ∈ vx_atS own ic cls names, w.before args s = true)
    (hgood : ∀ w ∈ Cond.classLink own ik cls :: Cond.initialized cls :: vx_atS own ic cls names, vx_ot w = true)
    (hU : vx_Zq Bundle.tN "UNASSIGNED_STACK" Bundle.steD A s s.heap) (hN : vx_Zq Bundle.tN "SUPPRESSED_SENTINEL" Bundle.listD A s s.heap) (hS : va_S A s.heap H locs) (hsize : ls.size = c.maxLocals)
    (d0 : decode cc pc = .ok (.new ik, 3)) (d3 : decode cc (pc + 3) = .ok (.dup, 1)) (d4 : decode cc (pc + 4) = .ok (.ldc_w is, 3)) (d7 : decode cc (pc + 7) = .ok (.invokespecial ic, 3)) (d10 : decode cc (pc + 10) = .ok (.athrow, 1))
    (hout : ∀ x ∈ c.exceptionTable.toList, covers x (pc + 10) = false)
    (hRframes : names.length + 3 < R.frames) (hRlocals : (rest.map fun v => v.category).sum + (13 * (names.length + 1) + 43) ≤ R.locals) (hRcells : cells + 1 ≤ R.cells) (hRslots : slots + 6 ≤ R.slots) (hlocks : meth.locks = false)
    (hx : ∀ t : State, s.vm.Alike t.vm → H.size ≤ t.heap.size → (∀ q : Nat, q < H.size → t.heap[q]? = H[q]?) → XC cls s t)
    (hf : ∀ z ∈ locs, free z.base) (hc : cells + 1 ≤ mc) (hs : slots + 6 ≤ ms) :
    W p l e R s m args below meth c H locs cells slots (vx_MQ below Qc XC args s mc ms free) (F0 m pc ls rest) := by
  intro T hT X
  have htr : e.platform.stackTraces = false := (show e.platform.stackTraces = l.stackTraces by rw [X.admits.platform]).trans hl
  have Y := vx_rebase X (R' := { frames := R.frames, locals := R.locals, cells := 1, slots := 6 }) (Nat.le_refl _) (Nat.le_refl _) hRcells hRslots
  obtain ⟨s', hA⟩ : ∃ z, z = (T.setVm s.vm).setFrames (.invoking m args :: below) := ⟨_, rfl⟩
  rw [← hA] at Y
  have hvm : s'.vm = s.vm := by rw [hA]; rfl
  have hhp : s'.heap = H := by rw [hA]; exact hT
  have hW0 : s.WarmedH s'.vm := by rw [hvm]; exact State.WarmedH.refl s
  have hat' : ∀ w ∈ vx_atS own ic cls names, w.before args s' = true := fun w hw => vx_ot_at hW0 hvm.symm (hgood w (List.mem_cons_of_mem _ (List.mem_cons_of_mem _ hw))) (hat w hw)
  have hk' : (Cond.classLink own ik cls).before args s' = true := vx_ot_at hW0 hvm.symm (hgood _ List.mem_cons_self) hk
  have hini' : (Cond.initialized cls).before args s' = true := vx_ot_at hW0 hvm.symm (hgood _ (List.mem_cons_of_mem _ List.mem_cons_self)) hini
  have hU' : vx_Zq Bundle.tN "UNASSIGNED_STACK" Bundle.steD A s' s'.heap := by rw [hhp]; exact vx_Zq.moved hW0.alike (hU.kept hS.2.1)
  have hN' : vx_Zq Bundle.tN "SUPPRESSED_SENTINEL" Bundle.listD A s' s'.heap := by rw [hhp]; exact vx_Zq.moved hW0.alike (hN.kept hS.2.1)
  have h : ∀ w ∈ Bundle.ownAtoms own ic cls names, w.before args s' = true := vx_own hat' (vx_isRefq hU'.1) (vx_isRefq hN'.1) hU'.2.word hN'.2.word
  have hown' : s'.vm.findClass own = some m.cls := by rw [hvm]; exact hown
  have hins : (Cond.instantiable cls 6).before args s' = true := h _ (by simp [Bundle.ownAtoms])
  obtain ⟨vm₁, cX, kX, hfX, hkX, -, -, X₁, st1⟩ := Y.newCold hexec (own := own) (C := cls) (index := ik) (n := 6) hown' hk' hins hini'
    (g := F0 m pc ls rest) rfl (by rw [hb]; exact d0) (Nat.le_refl _) (Nat.le_refl _)
  generalize hT1 : (T.setVm vm₁).pushCell { cls := cX, slots := kX.instanceTypes.map defaultValue, vm := .none } = T1 at X₁ st1
  have hcat : (Value.ref T.heap.size).category = 1 := rfl
  have hcellA : T1.heap[T.heap.size]? = some (freshCell cX kX) := by rw [← hT1]; exact State.heap_pushCell_size _ _
  have d3' : decode c.code (pc + 3) = .ok (.dup, 1) := by rw [hb]; exact d3
  have d4' : decode c.code (pc + 4) = .ok (.ldc_w is, 3) := by rw [hb]; exact d4
  have hstr' : vk_R own is text sa s' := vk_R.warm hW0 hstr
  obtain ⟨U, hsteps, hrun, hend, hW, hsame, ce, hce, hO⟩ := X₁.ctorThrowS hexec htr (own := own) (cls := cls) (names := names) (ic := ic) hown' hcls hnames h (fun x hx => nomatch hx) hfX hkX hcellA (by rw [hhp, hT]; exact Nat.le_refl _) (msg := .ref sa) rfl
    (g := { method := m, pc := pc + 7, locals := ls, stack := .ref sa :: .ref T.heap.size :: .ref T.heap.size :: rest, locked := none }) rfl hsize rfl rfl (rest := rest) rfl
    (by rw [hb]; exact d7) (by rw [hb]; exact d10) hout hRframes (by simp only [List.map_cons, List.sum_cons, hcat]; omega) hlocks
  obtain ⟨f1, f2⟩ := vx_frame hsame
  rw [hhp] at f1 f2
  have hWs : s.WarmedH U.vm := State.WarmedH.trans hW0 hW
  have hcl : s.vm.findClass cls = some ce.cls := by
    have h9 := hO.cls
    rw [hvm] at h9
    exact h9
  have hall : s.sameButNew ({ U with vm := s.vm } : State) locs mc ms := by
    subst hA
    obtain ⟨e1, e2⟩ := hsame
    rw [State.setFrames_setFrames] at e1
    have h2 : (T.setVm s.vm).sameButNew ({ U with vm := s.vm } : State) [] (0 + 1) (0 + 6) := ⟨e1, e2⟩
    have h3 := X.same.trans h2
    rw [List.append_nil] at h3
    exact h3.mono hc hs
  refine ⟨U, ?_, .threw T.heap.size, hrun, hend, Or.inr ⟨T.heap.size, rfl, cls, ce, locs, hx U hWs.alike f1 (fun q hq => f2 q hq (fun z hz => nomatch hz)), hce, hO.vm, hcl, hWs, hall, hf⟩⟩
  refine st1 _ ?_
  show Steps p.tables e below (T1.setTop { method := m, pc := pc + 3, locals := ls, stack := .ref T.heap.size :: rest, locked := none }) _
  jvm_step X₁.here [X₁.here.top, hexec, d3', Value.category]
  exact X₁.ldcStringW hexec (own := own) (text := text) (index := is) (a := sa) hown' hstr'.1 hstr'.2
    (g := { method := m, pc := pc + 4, locals := ls, stack := .ref T.heap.size :: .ref T.heap.size :: rest, locked := none }) rfl d4' _ hsteps
end Ends
section Bodies
variable {l : Launch}
theorem vx_ofW {y : MethodName} {ws ws' : List Cond} {rm : Room} {Pc : Array Value → State → Prop} {Qc : Array Value → State → Outcome → State → Prop} {XC : String → State → State → Prop} {mc ms : Nat} {free : Addr → Prop} {cc : ByteArray} {maxL : Nat} {ret : Option FieldType}
    (hy : plainName y.cls = true) (hw : ws = Cond.code y cc maxL ret :: ws')
    (body : ∀ p e s m args below meth c s₁, BodyLoose p l y (headSpec ws rm) cc maxL ret e s m args below meth c s₁ → c.maxLocals = maxL → (∀ x ∈ c.exceptionTable.toList, False) → Pc args s →
      W p l e (headSpec ws rm).room s m args below meth c s.heap [] 0 0 (vx_MQ below Qc XC args s mc ms free) (entryFrame m args maxL)) : vx_Met l y ws rm Pc Qc XC mc ms free := by
  refine MetFree.of_bodyS (code := cc) (maxLocals := maxL) (ret := ret) hy ?_ ?_
  · intro args s m h hn
    obtain ⟨meth, c, h1, h2, h3, h4, h5, h6, -, -⟩ := Cond.code_spec hn (atoms_spec (ws := ws) h _ (by rw [hw]; exact List.mem_cons_self))
    exact ⟨meth, c, h1, h2, h3, h4, h5, h6⟩
  · intro p e s m args below meth c s₁ B hml hP _
    have hh0 : s₁.heap = s.heap := by rw [B.state]; rfl
    have ht : ∀ x ∈ c.exceptionTable.toList, False := by
      obtain ⟨meth9, c9, h1, h2, -, -, -, -, h7, -⟩ := Cond.code_spec B.named (atoms_spec (ws := ws) B.pre _ (by rw [hw]; exact List.mem_cons_self))
      cases Option.some.inj (h1.symm.trans B.method)
      cases Option.some.inj (h2.symm.trans (Stand.of_body B).code)
      intro x hx
      rw [Array.isEmpty_iff.mp h7] at hx
      cases hx
    obtain ⟨t, a1, o, b1, b2, b3⟩ := body p e s m args below meth c s₁ B hml ht hP s₁ hh0 (Stand.of_body B)
    exact ⟨t, o, a1, b1, b2, b3⟩
/-- the table of a body with handlers -/
theorem vx_table {p : Program} {x y : MethodName} {S : Spec} {cc bytes : ByteArray} {maxL maxL' : Nat} {ret ret' : Option FieldType} {e : Env} {s s₁ : State} {m : MethodId} {args : Array Value} {below : List Frame} {meth : Method} {c : Code} {hh : List (Nat × Nat × Nat × Nat)}
    (B : BodyLoose p l y S cc maxL ret e s m args below meth c s₁) (h : (Cond.codeWith y bytes maxL' ret' hh).before args s = true) : c.exceptionTable.toList = tableOf hh := by
  obtain ⟨m9, meth9, c9, hn9, h1, h2, -, -, h6, -⟩ := Cond.codeWith_spec h
  cases Option.some.inj (hn9.symm.trans B.named)
  cases Option.some.inj (h1.symm.trans B.method)
  cases Option.some.inj (h2.symm.trans (Stand.of_body B).code)
  rw [← h6, table_eq]
end Bodies
end VXA
/-! ===== END ===== -/
/-! ===== BEGIN a static call of a method with an exception table ===== -/
section VXS
variable {p : Program} {l : Launch} {e : Env} {R : Room} {s : State} {m : MethodId} {args : Array Value} {below : List Frame} {meth : Method} {c : Code} {T : State} {H : Heap} {locs : List Loc} {cells slots : Nat}
abbrev vx_CSW (R : Room) (s : State) (args : Array Value) (own : String) (index : Nat) (y : MethodName) (bytes : ByteArray) (maxL : Nat) (ret : Option FieldType) (hh : List (Nat × Nat × Nat × Nat)) (ws : List Cond) (rm : Room) (mc ms n : Nat) : Prop :=
  (rm.cells = mc ∧ rm.slots = ms ∧ rm.frames + 1 ≤ R.frames ∧ 8 + (maxL + 11) + rm.locals ≤ R.locals ∧ (∀ w ∈ ws, ∀ (a' : Array Value) (U : State), s.WarmedH U.vm → w.before a' U = true) ∧ Cond.codeWith y bytes maxL ret hh ∈ ws) ∧
  (Cond.codeWith y bytes maxL ret hh).before args s = true ∧ (Cond.initialized y.cls).before args s = true ∧ (y.cls ≠ "java/lang/invoke/MethodHandle" ∧ y.cls ≠ "java/lang/invoke/VarHandle") ∧
  (∀ sig, parseMethodDescriptor y.desc = some sig → n = sig.parameters.length) ∧ (Cond.methodLink own index y).before args s = true ∧ (Cond.static y).before args s = true
theorem vx_cwSW {own : String} {index maxL mc ms : Nat} {y : MethodName} {bytes : ByteArray} {ret : Option FieldType} {hh : List (Nat × Nat × Nat × Nat)} {Ts ws ws' : List Cond} {rm : Room} (n : Nat) (ht : ∀ w ∈ Ts, w.before args s = true) (hT : GoodIn Ts (va_wsS own index y ws)) (hw : ws = Cond.codeWith y bytes maxL ret hh :: ws') (hrc : rm.cells = mc) (hrs : rm.slots = ms)
    (hd : y.cls ≠ "java/lang/invoke/MethodHandle" ∧ y.cls ≠ "java/lang/invoke/VarHandle" ∧ (parseMethodDescriptor y.desc).map (fun d => d.parameters.length) = some n) (hR : rm.frames + 1 ≤ R.frames ∧ 8 + (maxL + 11) + rm.locals ≤ R.locals) :
    vx_CSW R s args own index y bytes maxL ret hh ws rm mc ms n := by
  have ok : ∀ w ∈ va_wsS own index y ws, w.before args s = true := fun w h => ht w (hT w h).1
  have hG : GoodIn Ts ws := fun w h => hT w (by unfold va_wsS; exact List.mem_append_right _ h)
  have hc : Cond.codeWith y bytes maxL ret hh ∈ ws := by rw [hw]; exact List.mem_cons_self
  refine ⟨⟨hrc, hrs, hR.1, hR.2, pay_in ht hG, hc⟩, ht _ (hG _ hc).1, ok _ (by simp [va_wsS]), ⟨hd.1, hd.2.1⟩, fun sig h => ?_, ok _ (by simp [va_wsS]), ok _ (by simp [va_wsS])⟩
  have h2 := hd.2.2
  rw [h] at h2
  exact (Option.some.inj h2).symm
theorem vx_callSW (X : Stand p l e R s m args below meth c T locs cells slots) (hexec : p.tables.exec = Jvm.exec) {own : String} {index : Nat} {y : MethodName} {bytes : ByteArray} {maxL : Nat} {ret : Option FieldType} {hh : List (Nat × Nat × Nat × Nat)}
    (hown : s.vm.findClass own = some m.cls) (hlink : (Cond.methodLink own index y).before args s = true) (hstat : (Cond.static y).before args s = true) (hinit : (Cond.initialized y.cls).before args s = true)
    (hcode : (Cond.codeWith y bytes maxL ret hh).before args s = true) (hy : y.cls ≠ "java/lang/invoke/MethodHandle" ∧ y.cls ≠ "java/lang/invoke/VarHandle")
    {W9 : Nat} {Pre : Pt → Array Value → Prop} {Post : Pt → Array Value → Option Value → Pt → Prop} (hK : Back l R p e below s args y 3 W9 Pre Post)
    {g : JFrame} (hg : g.method = m) (hsize : g.locals.size = c.maxLocals) {argsL rest : List Value} (hlen : ∀ sig, parseMethodDescriptor y.desc = some sig → argsL.length = sig.parameters.length)
    (hstack : g.stack = argsL.reverse ++ rest) (hW : 2 * g.monitorRoom + (rest.map fun v => v.category).sum ≤ W9) (hdg : decode c.code g.pc = .ok (.invokestatic index, 3))
    (hpre : ∀ vm₁, s.WarmedH vm₁ → Pre ⟨T.setVm vm₁, locs, cells, slots⟩ argsL.toArray) :
    ∃ (v : Option Value) (vm₁ : Vm) (B : Pt), s.WarmedH vm₁ ∧ Stand p l e R s m args below meth c B.U B.locs B.cells B.slots ∧ Post ⟨T.setVm vm₁, locs, cells, slots⟩ argsL.toArray v B ∧
      ∀ target, Steps p.tables e below (B.U.setTop { g with pc := g.pc + 3, stack := v.toList ++ rest }) target → Steps p.tables e below (T.setTop g) target := by
  obtain ⟨mk, methM, cM, hnamed, hmethM, -, -, -, -, -, -, hsigM⟩ := Cond.codeWith_spec hcode
  have hstatic : methM.isStatic = true := Cond.static_spec hnamed hmethM hstat
  obtain ⟨kP, hkP, -⟩ := className_of_methodNamed hnamed
  have hinitP : kP.init = .initialized := Cond.initialized_spec (findClass_of_methodNamed hnamed) hkP hinit
  obtain ⟨vm₁, X₁, hstep₁⟩ := X.invokestatic hexec hown hlink hnamed hmethM hstatic hkP hinitP hy (g := g) hg (argsL := argsL) (rest := rest) (hlen _ hsigM) hstack hdg
  obtain ⟨v, B, X', hpost, hsteps⟩ := hK m meth c ⟨T.setVm vm₁, locs, cells, slots⟩ { g with stack := rest } (.invokestatic index) mk argsL.toArray X₁ hg hsize hdg hW (X₁.named hnamed) (hpre vm₁ X₁.warmed)
  exact ⟨v, vm₁, B, X₁.warmed, X', hpost, fun target h => hstep₁ _ fun acts => by rw [doInvoke_state]; exact hsteps.trans h⟩
theorem vx_runSW {y : MethodName} {bytes cc : ByteArray} {maxL nL mc ms n index : Nat} {ret : Option FieldType} {hh : List (Nat × Nat × Nat × Nat)} {ws : List Cond} {rm : Room} {Pc : Array Value → State → Prop} {Qc : Array Value → State → Outcome → State → Prop} {free : Addr → Prop} {Ts : List Cond} {own : String} {As rest : List Value} {g : JFrame}
    (S : CallFix p m c cc nL s args Ts own) (hM : Met l y ws rm Pc Qc mc ms free) (cw : vx_CSW R s args own index y bytes maxL ret hh ws rm mc ms n) (hp : PreS s H Pc As)
    (hg : g.method = m) (hn : As.length = n) (hsize : g.locals.size = nL) (hstack : g.stack = As.reverse ++ rest) (hW : 2 * g.monitorRoom + (rest.map fun v => v.category).sum ≤ 8) (hdg : decode cc g.pc = .ok (.invokestatic index, 3)) (hf : cells + mc ≤ R.cells ∧ slots + ms ≤ R.slots) :
    va_Run p l e R s m args below meth c H locs cells slots mc ms g rest (Qc As.toArray) (free) := by
  obtain ⟨⟨hrc, hrs, hfr, hlo, hws, hcw⟩, hcode, hini, hy, hlen, hl, hstt⟩ := cw
  have hK : Back l R p e below s args y 3 8 (PreOf R mc ms Pc) (PostOf Qc mc ms free) := va_backW (hh := hh) (bytes := bytes) (maxL := maxL) (ret := ret) hM hp.1 hrc hrs hfr hlo hws hcw (fun a' U hW => word_at hW (Or.inl (by first | rfl | simp [Cond.onTables, Cond.keeps, Cond.steady])) hini)
  obtain ⟨hx, hb, hml, ho, -⟩ := S
  intro T hT X
  obtain ⟨v, vm₁, ⟨U', l2, c2, s2⟩, hW₁, X', ⟨g', mk, t, L, e1, e2, hq, h1, hL, h2, h3⟩, st⟩ := vx_callSW X hx (hh := hh) (bytes := bytes) (maxL := maxL) (ret := ret) ho hl hstt hini hcode hy hK hg (hsize.trans hml.symm) (argsL := As) (rest := rest) (fun sig h => hn.trans (hlen sig h)) hstack hW (by rw [hb]; exact hdg)
    (fun vm₁ hW₁ => ⟨hf.1, hf.2, hp.2 (T.setVm vm₁) hT hW₁⟩)
  dsimp only [Pt.U, Pt.locs, Pt.cells, Pt.slots] at X' e1 e2 h1 h2 h3 st
  subst h1; subst h2; subst h3
  exact ⟨v, (T.setVm vm₁).calling g' mk As.toArray, t, U', L, hT, X', hL, e1, e2, hq, st⟩
/-- not caught here, past rows that name other classes: it goes on to the caller -/
theorem vx_outP {p : Program} {l : Launch} {e : Env} {R : Room} {s : State} {m : MethodId} {args : Array Value} {below : List Frame} {meth : Method} {c : Code} {H : Heap} {locs : List Loc} {cells slots : Nat} {free : Addr → Prop} {ls : Array Slot} {rest : List Value} {Qc : Array Value → State → Outcome → State → Prop} {XC : String → State → State → Prop}
    {pc : Nat} {own E : String} {ce : Cell} {q : Addr} {mc ms : Nat} (hown : s.vm.findClass own = some m.cls) (hlocks : meth.locks = false)
    (hpass : ∀ z ∈ c.exceptionTable.toList, covers z pc = false ∨ (z.catchType ≠ 0 ∧ ∃ nm : String, (Cond.classLink own z.catchType nm).before args s = true ∧ va_Nc E nm s)) (hcell : H[q]? = some ce) (hv : ce.vm = .none) (hcl : s.vm.findClass E = some ce.cls)
    (hx : ∀ t : State, t.heap = H → s.vm.Alike t.vm → XC E s t) (hf : ∀ z ∈ locs, free z.base) (hc : cells ≤ mc) (hs : slots ≤ ms) :
    vx_W p l e R s m args below meth c H locs cells slots (vx_MQ below Qc XC args s mc ms free) (F0 m pc ls rest) q := by
  intro T hT X
  have hpl : e.platform.magicAccessors = ({} : Platform).magicAccessors := by rw [X.admits.platform]
  obtain ⟨vm', hW', X', st⟩ := X.outThrough hlocks q (g := F0 m pc ls rest) rfl rfl rfl (cell := ce) (by rw [hT]; exact hcell) (by rw [hv]; rfl)
    (by obtain ⟨k9, h9, -⟩ := Vm.findClass_spec hcl; exact ⟨k9, h9⟩) (fun z hz => by
      rcases hpass z hz with h | ⟨hz0, nm, hl1, hn1⟩
      · exact Or.inl h
      · obtain ⟨c6, hc6, hcl6⟩ := Cond.classLink_spec hown hl1 e.platform hpl
        obtain ⟨a8, b8, h1, h2, h3⟩ := hn1
        cases Option.some.inj (h1.symm.trans hcl)
        cases Option.some.inj (h2.symm.trans hc6)
        exact Or.inr ⟨hz0, _, hcl6, h3⟩)
  obtain ⟨g₀, hfr⟩ := X'.frames_eq
  have hcell9 : ((T.setVm vm').setFrames (.throwing q :: below)).heap[q]? = some ce := by
    show T.heap[q]? = some ce
    rw [hT]; exact hcell
  have hend : Ended ((T.setVm vm').setFrames (.throwing q :: below)) below (.threw q) := State.frames_setFrames _ (State.cur_lt_of_frames hfr)
  refine ⟨(T.setVm vm').setFrames (.throwing q :: below), ?_, .threw q, X'.here.running, hend, Or.inr ⟨q, rfl, E, ce, locs, hx _ hT (X'.ends _).1.alike, hcell9, hv, hcl, (X'.ends _).1, (X'.ends _).2.mono hc hs, hf⟩⟩
  rw [X.pushThrowing_eq]
  exact st
/-- a thing of a world lies in the heap -/
theorem vx_lt {D : va_G} {cl : List vw_C} {ws : va_W} {H1 : Heap} (h : va_P D cl ws H1) {k : Nat} {q : Nat × va_E} (hk : ws[k]? = some q) : q.1 < H1.size := (h k q hk).lt
end VXS
/-! ===== END ===== -/
/-! ===== BEGIN methods with a table of their own: called by a name, returning or throwing ===== -/
section VXH
/-! vx_backW, vx_callVX, vx_callSX, vx_callVW, vx_runVW, vx_runVX, vx_runSX, vx_ofWH follow the same proofs as their sisters above (Free/Laws.lean, Shelf42/LK1.lean); vx_outP calls Shelf42/NT130.lean (outThrough). -/
section
variable {l : Launch} {R : Room} {p : Program} {e : Env} {below : List Frame} {s : State} {sargs : Array Value} {y : MethodName} {len W9 : Nat}
theorem vx_backW {ws : List Cond} {rm : Room} {Pc : Array Value → State → Prop} {Qc : Array Value → State → Outcome → State → Prop} {XC : String → State → State → Prop} {mc ms : Nat} {free : Addr → Prop} {bytes : ByteArray} {maxL : Nat} {ret : Option FieldType} {hh : List (Nat × Nat × Nat × Nat)}
    (hM : vx_Met l y ws rm Pc Qc XC mc ms free) (hblind : FrameBlind Pc) (hrc : rm.cells = mc) (hrs : rm.slots = ms)
    (hframes : rm.frames + 1 ≤ R.frames) (hlocals : W9 + (maxL + 11) + rm.locals ≤ R.locals)
    (hws : ∀ w ∈ ws, ∀ a' U, s.WarmedH U.vm → w.before a' U = true) (hcode : Cond.codeWith y bytes maxL ret hh ∈ ws) (hinit : ∀ a' U, s.WarmedH U.vm → (Cond.initialized y.cls).before a' U = true) :
    vx_Back l R p e below s sargs y len W9 (PreOf R mc ms Pc) (PostOf Qc mc ms free) (vx_Post XC mc ms free) := by
  intro m meth c A g ig mk a X hg hsize hdg hW hn hp
  have h1 : (headSpec ws rm).pre.before a A.U = true := atoms_intro fun w hw => hws w hw _ _ X.warmed
  have h2 : (Cond.codeWith y bytes maxL ret hh).before a A.U = true := hws _ hcode _ _ X.warmed
  have h3 : (Cond.initialized y.cls).before a A.U = true := hinit _ _ X.warmed
  have h4 : A.cells + (headSpec ws rm).room.cells ≤ R.cells := by rw [show (headSpec ws rm).room.cells = mc from hrc]; exact hp.1
  have h5 : A.slots + (headSpec ws rm).room.slots ≤ R.slots := by rw [show (headSpec ws rm).room.slots = ms from hrs]; exact hp.2.1
  have hPc : Pc a (A.U.calling g mk a) := hblind _ _ _ _ hp.2.2
  obtain ⟨U, Ls, c0, s0⟩ := A
  dsimp only [Pt.U, Pt.locs, Pt.cells, Pt.slots] at h1 h2 h3 h4 h5 X hn hPc ⊢
  obtain ⟨m9, methY, cY, hn9, hmY, hcY, -, hlY, -⟩ := Cond.codeWith_spec h2
  cases Option.some.inj (hn9.symm.trans hn)
  obtain ⟨kY, hkY, -⟩ := className_of_methodNamed hn
  have hinitY : kY.init = .initialized := Cond.initialized_spec (findClass_of_methodNamed hn) hkY h3
  have h : At U g.method c below := by rw [hg]; exact X.here
  have hlocals9 : W9 + (maxL + 11) + (headSpec ws rm).room.locals ≤ R.locals := hlocals
  have happ : (headSpec ws rm).appliesLoose y e.platform (U.calling g mk a) = true :=
    Spec.appliesLoose_calling (g := g) h hdg hn hkY hinitY
      (X.room_calling (g := g) (R' := (headSpec ws rm).room) hsize hmY hcY hframes (by rw [hlY]; omega) h4 h5) h1
  obtain ⟨mid, hmid⟩ := h.above
  have hfr : (U.setTop g).frames = (.java g :: mid) ++ below := by rw [State.frames_setTop' g h.top, hmid]; rfl
  obtain ⟨o, s₂, hsteps, -, hend, hq⟩ := Steps.callFree hM p X.admits X.cas X.clock (acts := []) hfr happ hPc trivial
  have hq' : vx_Q Qc XC mc ms free a (U.calling g mk a) o s₂ := hq
  rw [State.frames_setTop' g h.top] at hend
  obtain ⟨g₀, hg0⟩ := Option.isSome_iff_exists.mp h.top
  obtain ⟨r, hr⟩ := State.topJava?_eq_some.mp hg0
  have hr' : (({ U with heap := s₂.heap, slotsUsed := s₂.slotsUsed } : State).setVm s₂.vm).frames = .java g₀ :: r := hr
  rcases hq' with ⟨hqc, L, hfe, hL⟩ | ⟨q, rfl, E, ce, L, hx, hce, hcv, hcl, hW₂, hsm, hL⟩
  · obtain ⟨⟨v, rfl⟩, hW₂, e2, q2, q3, q4, q5, q6⟩ := id hfe
    have e3 : s₂ = ({ (U.calling g mk a).setFrames s₂.frames with heap := s₂.heap, slotsUsed := s₂.slotsUsed } : State).setVm s₂.vm := by
      have : s₂ = ({ s₂ with vm := (U.calling g mk a).vm } : State).setVm s₂.vm := rfl
      rw [e2] at this
      exact this
    obtain ⟨c₂, i₂, len₂, hc₂, hd₂, hf₂⟩ := hend
    have hW' : U.WarmedH s₂.vm := hW₂
    have hcc : c₂ = c := by
      have h1 : s₂.code? g.method = U.code? g.method := by
        rw [State.code?_eq, State.code?_eq, hW'.alike.method?]
      exact Option.some.inj (hc₂.symm.trans (h1.trans h.code))
    subst hcc
    have hlen : len₂ = len := by rw [hdg] at hd₂; cases hd₂; rfl
    subst hlen
    have hs₂ : s₂ = (({ U with heap := s₂.heap, slotsUsed := s₂.slotsUsed } : State).setVm s₂.vm).setTop { g with pc := g.pc + len₂, stack := v.toList ++ g.stack } := by
      refine e3.trans ?_
      rw [hf₂, State.calling_eq h.top, State.setFrames_setFrames, State.setTop_of_frames _ hr', hr]
      rfl
    have hsame : U.sameButNew ({ U with heap := s₂.heap, slotsUsed := s₂.slotsUsed } : State) L mc ms := by
      refine ⟨?_, q2, q3, q4, q5, q6⟩
      obtain ⟨t, ht, -⟩ := State.frames_cons hr
      show ({ U with heap := s₂.heap, slotsUsed := s₂.slotsUsed } : State) = { U.setFrames U.frames with heap := s₂.heap, slotsUsed := s₂.slotsUsed }
      rw [State.setFrames_self ht]
    subst hg
    refine Or.inl ⟨v, ⟨(({ U with heap := s₂.heap, slotsUsed := s₂.slotsUsed } : State).setVm s₂.vm), Ls ++ L, c0 + mc, s0 + ms⟩,
      ⟨X.admits, X.cas, X.clock, X.frames, X.room, X.hears, X.method, X.code, (X.here.setHeapUsed s₂.heap s₂.slotsUsed).setVm hW'.alike, X.tail, State.WarmedH.trans X.warmed hW', X.limits, X.bytes, X.same.trans (hsame.setVm s.vm)⟩,
      ⟨g, mk, s₂, L, rfl, rfl, hqc, rfl, hL, rfl, rfl⟩, ?_⟩
    show Steps p.tables e below _ ((({ U with heap := s₂.heap, slotsUsed := s₂.slotsUsed } : State).setVm s₂.vm).setTop { g with pc := g.pc + len₂, stack := v.toList ++ g.stack })
    rw [← hs₂]
    exact hsteps
  · obtain ⟨e2, q2, q3, q4, q5, q6⟩ := id hsm
    have e3 : s₂ = ({ (U.calling g mk a).setFrames s₂.frames with heap := s₂.heap, slotsUsed := s₂.slotsUsed } : State).setVm s₂.vm := by
      have : s₂ = ({ s₂ with vm := (U.calling g mk a).vm } : State).setVm s₂.vm := rfl
      rw [e2] at this
      exact this
    have hf₂ : s₂.frames = .throwing q :: .java g :: U.frames.tail := hend
    have hW' : U.WarmedH s₂.vm := hW₂
    have hs₂ : s₂ = ((({ U with heap := s₂.heap, slotsUsed := s₂.slotsUsed } : State).setVm s₂.vm).setTop g).pushFrame (.throwing q) := by
      refine e3.trans ?_
      rw [hf₂, State.calling_eq h.top, State.setFrames_setFrames, State.pushFrame, State.frames_setTop _ hr', State.setTop_of_frames _ hr', State.setFrames_setFrames, hr]
      rfl
    have hsame : U.sameButNew ({ U with heap := s₂.heap, slotsUsed := s₂.slotsUsed } : State) L mc ms := by
      refine ⟨?_, q2, q3, q4, q5, q6⟩
      obtain ⟨t, ht, -⟩ := State.frames_cons hr
      show ({ U with heap := s₂.heap, slotsUsed := s₂.slotsUsed } : State) = { U.setFrames U.frames with heap := s₂.heap, slotsUsed := s₂.slotsUsed }
      rw [State.setFrames_self ht]
    subst hg
    refine Or.inr ⟨q, ⟨(({ U with heap := s₂.heap, slotsUsed := s₂.slotsUsed } : State).setVm s₂.vm), Ls ++ L, c0 + mc, s0 + ms⟩,
      ⟨X.admits, X.cas, X.clock, X.frames, X.room, X.hears, X.method, X.code, (X.here.setHeapUsed s₂.heap s₂.slotsUsed).setVm hW'.alike, X.tail, State.WarmedH.trans X.warmed hW', X.limits, X.bytes, X.same.trans (hsame.setVm s.vm)⟩,
      ⟨g, mk, s₂, L, E, ce, rfl, rfl, hx, hce, hcv, hcl, rfl, hL, rfl, rfl⟩, ?_⟩
    show Steps p.tables e below _ (((({ U with heap := s₂.heap, slotsUsed := s₂.slotsUsed } : State).setVm s₂.vm).setTop g).pushFrame (.throwing q))
    rw [← hs₂]
    exact hsteps
end
variable {p : Program} {l : Launch} {e : Env} {R : Room} {s : State} {m : MethodId} {args : Array Value} {below : List Frame} {meth : Method} {c : Code} {T : State} {H : Heap} {locs : List Loc} {cells slots : Nat}
theorem vx_callVX (X : Stand p l e R s m args below meth c T locs cells slots) (hexec : p.tables.exec = Jvm.exec) {own C : String} {index : Nat} {y : MethodName} {bytes : ByteArray} {maxL : Nat} {ret : Option FieldType} {hh : List (Nat × Nat × Nat × Nat)}
    (hown : s.vm.findClass own = some m.cls) (hlink : (Cond.methodLink own index y).before args s = true) (hinst : (Cond.instanceMethod y).before args s = true) (hsel : (Cond.selects C y y).before args s = true)
    (hcode : (Cond.codeWith y bytes maxL ret hh).before args s = true) (hy : y.cls ≠ "java/lang/invoke/MethodHandle" ∧ y.cls ≠ "java/lang/invoke/VarHandle")
    {W9 : Nat} {Pre : Pt → Array Value → Prop} {Post : Pt → Array Value → Option Value → Pt → Prop} {PostX : Pt → Array Value → Addr → Pt → Prop} (hK : vx_Back l R p e below s args y 3 W9 Pre Post PostX)
    {b : Addr} {cellB : Cell} (hcell : T.heap[b]? = some cellB) (hobj : cellB.vm.isStatics = false) (hcls : s.vm.findClass C = some cellB.cls)
    {g : JFrame} (hg : g.method = m) (hsize : g.locals.size = c.maxLocals) {argsL rest : List Value} (hlen : ∀ sig, parseMethodDescriptor y.desc = some sig → argsL.length = sig.parameters.length)
    (hstack : g.stack = argsL.reverse ++ .ref b :: rest) (hW : 2 * g.monitorRoom + (rest.map fun v => v.category).sum ≤ W9) (hdg : decode c.code g.pc = .ok (.invokevirtual index, 3))
    (hpre : ∀ vm₁, s.WarmedH vm₁ → Pre ⟨T.setVm vm₁, locs, cells, slots⟩ (Value.ref b :: argsL).toArray) :
    (∃ (v : Option Value) (vm₁ : Vm) (B : Pt), s.WarmedH vm₁ ∧ Stand p l e R s m args below meth c B.U B.locs B.cells B.slots ∧ Post ⟨T.setVm vm₁, locs, cells, slots⟩ (Value.ref b :: argsL).toArray v B ∧
      ∀ target, Steps p.tables e below (B.U.setTop { g with pc := g.pc + 3, stack := v.toList ++ rest }) target → Steps p.tables e below (T.setTop g) target) ∨
    (∃ (q : Addr) (vm₁ : Vm) (B : Pt), s.WarmedH vm₁ ∧ Stand p l e R s m args below meth c B.U B.locs B.cells B.slots ∧ PostX ⟨T.setVm vm₁, locs, cells, slots⟩ (Value.ref b :: argsL).toArray q B ∧
      Steps p.tables e below (T.setTop g) ((B.U.setTop { g with stack := rest }).pushFrame (.throwing q))) := by
  obtain ⟨mk, methM, hnamed, hmethM, hstM, habM⟩ := Cond.instanceMethod_spec hinst
  obtain ⟨m8, methM', cM, hn8, hmethM', -, -, -, -, -, -, hsigM⟩ := Cond.codeWith_spec hcode
  cases Option.some.inj (hn8.symm.trans hnamed)
  cases hmethM.symm.trans hmethM'
  obtain ⟨c2, r2, m2, q1, q2, q3, q4, kP, hkP, hkPi⟩ := Cond.selects_spec hsel
  cases hcls.symm.trans q1
  cases (State.methodFound?_of_named hnamed hy).symm.trans q2
  cases hnamed.symm.trans q3
  have hselP : selectMethod e.platform s.vm cellB.cls mk = .method mk := by rw [Launch.admits_selectMethod X.admits]; exact q4
  obtain ⟨vm₁, X₁, hstep₁⟩ := X.invokevirtual hexec hown hlink hnamed hmethM hstM hkP hkPi hy (a := b) (cell := cellB) hcell
    (fun z h => by rw [h] at hobj; cases hobj) hselP hmethM habM hkP hkPi (g := g) hg (argsL := argsL) (rest := rest) (hlen _ hsigM) hstack hdg
  rcases hK m meth c ⟨T.setVm vm₁, locs, cells, slots⟩ { g with stack := rest } (.invokevirtual index) mk (Value.ref b :: argsL).toArray X₁ hg hsize hdg hW (X₁.named hnamed) (hpre vm₁ X₁.warmed) with ⟨v, B, X', hpost, hsteps⟩ | ⟨q, B, X', hpost, hsteps⟩
  · exact Or.inl ⟨v, vm₁, B, X₁.warmed, X', hpost, fun target h => hstep₁ _ fun acts => by rw [doInvoke_state]; exact hsteps.trans h⟩
  · exact Or.inr ⟨q, vm₁, B, X₁.warmed, X', hpost, hstep₁ _ fun acts => by rw [doInvoke_state]; exact hsteps⟩
theorem vx_callSX (X : Stand p l e R s m args below meth c T locs cells slots) (hexec : p.tables.exec = Jvm.exec) {own : String} {index : Nat} {y : MethodName} {bytes : ByteArray} {maxL : Nat} {ret : Option FieldType} {hh : List (Nat × Nat × Nat × Nat)}
    (hown : s.vm.findClass own = some m.cls) (hlink : (Cond.methodLink own index y).before args s = true) (hstat : (Cond.static y).before args s = true) (hinit : (Cond.initialized y.cls).before args s = true)
    (hcode : (Cond.codeWith y bytes maxL ret hh).before args s = true) (hy : y.cls ≠ "java/lang/invoke/MethodHandle" ∧ y.cls ≠ "java/lang/invoke/VarHandle")
    {W9 : Nat} {Pre : Pt → Array Value → Prop} {Post : Pt → Array Value → Option Value → Pt → Prop} {PostX : Pt → Array Value → Addr → Pt → Prop} (hK : vx_Back l R p e below s args y 3 W9 Pre Post PostX)
    {g : JFrame} (hg : g.method = m) (hsize : g.locals.size = c.maxLocals) {argsL rest : List Value} (hlen : ∀ sig, parseMethodDescriptor y.desc = some sig → argsL.length = sig.parameters.length)
    (hstack : g.stack = argsL.reverse ++ rest) (hW : 2 * g.monitorRoom + (rest.map fun v => v.category).sum ≤ W9) (hdg : decode c.code g.pc = .ok (.invokestatic index, 3))
    (hpre : ∀ vm₁, s.WarmedH vm₁ → Pre ⟨T.setVm vm₁, locs, cells, slots⟩ argsL.toArray) :
    (∃ (v : Option Value) (vm₁ : Vm) (B : Pt), s.WarmedH vm₁ ∧ Stand p l e R s m args below meth c B.U B.locs B.cells B.slots ∧ Post ⟨T.setVm vm₁, locs, cells, slots⟩ argsL.toArray v B ∧
      ∀ target, Steps p.tables e below (B.U.setTop { g with pc := g.pc + 3, stack := v.toList ++ rest }) target → Steps p.tables e below (T.setTop g) target) ∨
    (∃ (q : Addr) (vm₁ : Vm) (B : Pt), s.WarmedH vm₁ ∧ Stand p l e R s m args below meth c B.U B.locs B.cells B.slots ∧ PostX ⟨T.setVm vm₁, locs, cells, slots⟩ argsL.toArray q B ∧
      Steps p.tables e below (T.setTop g) ((B.U.setTop { g with stack := rest }).pushFrame (.throwing q))) := by
  obtain ⟨mk, methM, cM, hnamed, hmethM, -, -, -, -, -, -, hsigM⟩ := Cond.codeWith_spec hcode
  have hstatic : methM.isStatic = true := Cond.static_spec hnamed hmethM hstat
  obtain ⟨kP, hkP, -⟩ := className_of_methodNamed hnamed
  have hinitP : kP.init = .initialized := Cond.initialized_spec (findClass_of_methodNamed hnamed) hkP hinit
  obtain ⟨vm₁, X₁, hstep₁⟩ := X.invokestatic hexec hown hlink hnamed hmethM hstatic hkP hinitP hy (g := g) hg (argsL := argsL) (rest := rest) (hlen _ hsigM) hstack hdg
  rcases hK m meth c ⟨T.setVm vm₁, locs, cells, slots⟩ { g with stack := rest } (.invokestatic index) mk argsL.toArray X₁ hg hsize hdg hW (X₁.named hnamed) (hpre vm₁ X₁.warmed) with ⟨v, B, X', hpost, hsteps⟩ | ⟨q, B, X', hpost, hsteps⟩
  · exact Or.inl ⟨v, vm₁, B, X₁.warmed, X', hpost, fun target h => hstep₁ _ fun acts => by rw [doInvoke_state]; exact hsteps.trans h⟩
  · exact Or.inr ⟨q, vm₁, B, X₁.warmed, X', hpost, hstep₁ _ fun acts => by rw [doInvoke_state]; exact hsteps⟩
theorem vx_callVW (X : Stand p l e R s m args below meth c T locs cells slots) (hexec : p.tables.exec = Jvm.exec) {own C : String} {index : Nat} {y : MethodName} {bytes : ByteArray} {maxL : Nat} {ret : Option FieldType} {hh : List (Nat × Nat × Nat × Nat)}
    (hown : s.vm.findClass own = some m.cls) (hlink : (Cond.methodLink own index y).before args s = true) (hinst : (Cond.instanceMethod y).before args s = true) (hsel : (Cond.selects C y y).before args s = true)
    (hcode : (Cond.codeWith y bytes maxL ret hh).before args s = true) (hy : y.cls ≠ "java/lang/invoke/MethodHandle" ∧ y.cls ≠ "java/lang/invoke/VarHandle")
    {W9 : Nat} {Pre : Pt → Array Value → Prop} {Post : Pt → Array Value → Option Value → Pt → Prop} (hK : Back l R p e below s args y 3 W9 Pre Post)
    {b : Addr} {cellB : Cell} (hcell : T.heap[b]? = some cellB) (hobj : cellB.vm.isStatics = false) (hcls : s.vm.findClass C = some cellB.cls)
    {g : JFrame} (hg : g.method = m) (hsize : g.locals.size = c.maxLocals) {argsL rest : List Value} (hlen : ∀ sig, parseMethodDescriptor y.desc = some sig → argsL.length = sig.parameters.length)
    (hstack : g.stack = argsL.reverse ++ .ref b :: rest) (hW : 2 * g.monitorRoom + (rest.map fun v => v.category).sum ≤ W9) (hdg : decode c.code g.pc = .ok (.invokevirtual index, 3))
    (hpre : ∀ vm₁, s.WarmedH vm₁ → Pre ⟨T.setVm vm₁, locs, cells, slots⟩ (Value.ref b :: argsL).toArray) :
    ∃ (v : Option Value) (vm₁ : Vm) (B : Pt), s.WarmedH vm₁ ∧ Stand p l e R s m args below meth c B.U B.locs B.cells B.slots ∧ Post ⟨T.setVm vm₁, locs, cells, slots⟩ (Value.ref b :: argsL).toArray v B ∧
      ∀ target, Steps p.tables e below (B.U.setTop { g with pc := g.pc + 3, stack := v.toList ++ rest }) target → Steps p.tables e below (T.setTop g) target := by
  obtain ⟨mk, methM, hnamed, hmethM, hstM, habM⟩ := Cond.instanceMethod_spec hinst
  obtain ⟨m8, methM', cM, hn8, hmethM', -, -, -, -, -, -, hsigM⟩ := Cond.codeWith_spec hcode
  cases Option.some.inj (hn8.symm.trans hnamed)
  cases hmethM.symm.trans hmethM'
  obtain ⟨c2, r2, m2, q1, q2, q3, q4, kP, hkP, hkPi⟩ := Cond.selects_spec hsel
  cases hcls.symm.trans q1
  cases (State.methodFound?_of_named hnamed hy).symm.trans q2
  cases hnamed.symm.trans q3
  have hselP : selectMethod e.platform s.vm cellB.cls mk = .method mk := by rw [Launch.admits_selectMethod X.admits]; exact q4
  obtain ⟨vm₁, X₁, hstep₁⟩ := X.invokevirtual hexec hown hlink hnamed hmethM hstM hkP hkPi hy (a := b) (cell := cellB) hcell
    (fun z h => by rw [h] at hobj; cases hobj) hselP hmethM habM hkP hkPi (g := g) hg (argsL := argsL) (rest := rest) (hlen _ hsigM) hstack hdg
  obtain ⟨v, B, X', hpost, hsteps⟩ := hK m meth c ⟨T.setVm vm₁, locs, cells, slots⟩ { g with stack := rest } (.invokevirtual index) mk (Value.ref b :: argsL).toArray X₁ hg hsize hdg hW (X₁.named hnamed) (hpre vm₁ X₁.warmed)
  exact ⟨v, vm₁, B, X₁.warmed, X', hpost, fun target h => hstep₁ _ fun acts => by rw [doInvoke_state]; exact hsteps.trans h⟩
abbrev vx_CVW (R : Room) (s : State) (args : Array Value) (own C : String) (index : Nat) (y : MethodName) (bytes : ByteArray) (maxL : Nat) (ret : Option FieldType) (hh : List (Nat × Nat × Nat × Nat)) (ws : List Cond) (rm : Room) (mc ms n : Nat) : Prop :=
  (rm.cells = mc ∧ rm.slots = ms ∧ rm.frames + 1 ≤ R.frames ∧ 8 + (maxL + 11) + rm.locals ≤ R.locals ∧ (∀ w ∈ ws, ∀ (a' : Array Value) (U : State), s.WarmedH U.vm → w.before a' U = true) ∧ Cond.codeWith y bytes maxL ret hh ∈ ws) ∧
  (Cond.codeWith y bytes maxL ret hh).before args s = true ∧ (Cond.initialized y.cls).before args s = true ∧ (y.cls ≠ "java/lang/invoke/MethodHandle" ∧ y.cls ≠ "java/lang/invoke/VarHandle") ∧
  (∀ sig, parseMethodDescriptor y.desc = some sig → n = sig.parameters.length) ∧ (Cond.methodLink own index y).before args s = true ∧ (Cond.instanceMethod y).before args s = true ∧ (Cond.selects C y y).before args s = true
theorem vx_cwVW {own C : String} {index maxL mc ms : Nat} {y : MethodName} {bytes : ByteArray} {ret : Option FieldType} {hh : List (Nat × Nat × Nat × Nat)} {Ts ws ws' : List Cond} {rm : Room} (n : Nat) (ht : ∀ w ∈ Ts, w.before args s = true) (hT : GoodIn Ts (wsV own index C y ws)) (hw : ws = Cond.codeWith y bytes maxL ret hh :: ws') (hrc : rm.cells = mc) (hrs : rm.slots = ms)
    (hd : y.cls = C ∧ y.cls ≠ "java/lang/invoke/MethodHandle" ∧ y.cls ≠ "java/lang/invoke/VarHandle" ∧ (parseMethodDescriptor y.desc).map (fun d => d.parameters.length) = some n) (hR : rm.frames + 1 ≤ R.frames ∧ 8 + (maxL + 11) + rm.locals ≤ R.locals) :
    vx_CVW R s args own C index y bytes maxL ret hh ws rm mc ms n := by
  obtain ⟨hC, hd⟩ := hd
  subst hC
  have ok : ∀ w ∈ wsV own index y.cls y ws, w.before args s = true := fun w h => ht w (hT w h).1
  have hG : GoodIn Ts ws := fun w h => hT w (by unfold wsV; exact List.mem_append_right _ h)
  have hc : Cond.codeWith y bytes maxL ret hh ∈ ws := by rw [hw]; exact List.mem_cons_self
  refine ⟨⟨hrc, hrs, hR.1, hR.2, pay_in ht hG, hc⟩, ht _ (hG _ hc).1, ok _ (by simp [wsV]), ⟨hd.1, hd.2.1⟩, fun sig h => ?_, ok _ (by simp [wsV]), ok _ (by simp [wsV]), ok _ (by simp [wsV])⟩
  have h2 := hd.2.2
  rw [h] at h2
  exact (Option.some.inj h2).symm
theorem vx_runVW {y : MethodName} {bytes cc : ByteArray} {maxL nL mc ms n index : Nat} {ret : Option FieldType} {hh : List (Nat × Nat × Nat × Nat)} {ws : List Cond} {rm : Room} {Pc : Array Value → State → Prop} {Qc : Array Value → State → Outcome → State → Prop} {free : Addr → Prop} {Ts : List Cond} {own C : String} {b : Addr} {As rest : List Value} {g : JFrame}
    (S : CallFix p m c cc nL s args Ts own) (hM : Met l y ws rm Pc Qc mc ms free) (cw : vx_CVW R s args own C index y bytes maxL ret hh ws rm mc ms n) (hp : PreV s H C b Pc As)
    (hg : g.method = m) (hn : As.length = n) (hsize : g.locals.size = nL) (hstack : g.stack = As.reverse ++ .ref b :: rest) (hW : 2 * g.monitorRoom + (rest.map fun v => v.category).sum ≤ 8) (hdg : decode cc g.pc = .ok (.invokevirtual index, 3)) (hf : cells + mc ≤ R.cells ∧ slots + ms ≤ R.slots) :
    va_Run p l e R s m args below meth c H locs cells slots mc ms g rest (Qc (Value.ref b :: As).toArray) free := by
  obtain ⟨⟨hrc, hrs, hfr, hlo, hws, hcw⟩, hcode, hini, hy, hlen, hl, hin, hse⟩ := cw
  have hK : Back l R p e below s args y 3 8 (PreOf R mc ms Pc) (PostOf Qc mc ms free) := va_backW (hh := hh) (bytes := bytes) (maxL := maxL) (ret := ret) hM hp.1 hrc hrs hfr hlo hws hcw (fun a' U hW => word_at hW (Or.inl (by first | rfl | simp [Cond.onTables, Cond.keeps, Cond.steady])) hini)
  obtain ⟨hx, hb, hml, ho, -⟩ := S
  obtain ⟨-, ⟨cellB, hcB, hoB, hclB⟩, hPc⟩ := hp
  intro T hT X
  obtain ⟨v, vm₁, ⟨U', l2, c2, s2⟩, hW₁, X', ⟨g', mk, t, L, e1, e2, hq, h1, hL, h2, h3⟩, st⟩ := vx_callVW X hx (C := C) (hh := hh) (bytes := bytes) (maxL := maxL) (ret := ret) ho hl hin hse hcode hy hK (by rw [hT]; exact hcB) hoB hclB hg (hsize.trans hml.symm) (argsL := As) (rest := rest) (fun sig h => hn.trans (hlen sig h)) hstack hW (by rw [hb]; exact hdg)
    (fun vm₁ hW₁ => ⟨hf.1, hf.2, hPc (T.setVm vm₁) hT hW₁⟩)
  dsimp only [Pt.U, Pt.locs, Pt.cells, Pt.slots] at X' e1 e2 h1 h2 h3 st
  subst h1; subst h2; subst h3
  exact ⟨v, (T.setVm vm₁).calling g' mk (Value.ref b :: As).toArray, t, U', L, hT, X', hL, e1, e2, hq, st⟩
section
variable {y : MethodName} {bytes cc : ByteArray} {maxL nL mc ms n index : Nat} {ret : Option FieldType} {ws : List Cond} {rm : Room} {Pc : Array Value → State → Prop} {Qc : Array Value → State → Outcome → State → Prop} {XC : String → State → State → Prop} {free : Addr → Prop} {Ts : List Cond} {own C : String} {b : Addr} {As rest : List Value} {g : JFrame}
theorem vx_runVX {hh : List (Nat × Nat × Nat × Nat)} (S : CallFix p m c cc nL s args Ts own) (hM : vx_Met l y ws rm Pc Qc XC mc ms free) (cw : vx_CVW R s args own C index y bytes maxL ret hh ws rm mc ms n) (hp : PreV s H C b Pc As)
    (hg : g.method = m) (hn : As.length = n) (hsize : g.locals.size = nL) (hstack : g.stack = As.reverse ++ .ref b :: rest) (hW : 2 * g.monitorRoom + (rest.map fun v => v.category).sum ≤ 8) (hdg : decode cc g.pc = .ok (.invokevirtual index, 3)) (hf : cells + mc ≤ R.cells ∧ slots + ms ≤ R.slots) :
    vx_Run p l e R s m args below meth c H locs cells slots mc ms g rest (Qc (Value.ref b :: As).toArray) XC free := by
  obtain ⟨⟨hrc, hrs, hfr, hlo, hws, hcw⟩, hcode, hini, hy, hlen, hl, hin, hse⟩ := cw
  have hK : vx_Back l R p e below s args y 3 8 (PreOf R mc ms Pc) (PostOf Qc mc ms free) (vx_Post XC mc ms free) := vx_backW (hh := hh) (bytes := bytes) (maxL := maxL) (ret := ret) hM hp.1 hrc hrs hfr hlo hws hcw (fun a' U hW => word_at hW (Or.inl (by first | rfl | simp [Cond.onTables, Cond.keeps, Cond.steady])) hini)
  obtain ⟨hx, hb, hml, ho, -⟩ := S
  obtain ⟨-, ⟨cellB, hcB, hoB, hclB⟩, hPc⟩ := hp
  intro T hT X
  rcases vx_callVX X hx (C := C) (hh := hh) (bytes := bytes) (maxL := maxL) (ret := ret) ho hl hin hse hcode hy hK (by rw [hT]; exact hcB) hoB hclB hg (hsize.trans hml.symm) (argsL := As) (rest := rest) (fun sig h => hn.trans (hlen sig h)) hstack hW (by rw [hb]; exact hdg)
    (fun vm₁ hW₁ => ⟨hf.1, hf.2, hPc (T.setVm vm₁) hT hW₁⟩) with ⟨v, vm₁, ⟨U', l2, c2, s2⟩, hW₁, X', ⟨g', mk, t, L, e1, e2, hq, h1, hL, h2, h3⟩, st⟩ | ⟨q, vm₁, ⟨U', l2, c2, s2⟩, hW₁, X', ⟨g', mk, t, L, E, ce, e1, e2, hq, hce, hcv, hcl, h1, hL, h2, h3⟩, st⟩
  · dsimp only [Pt.U, Pt.locs, Pt.cells, Pt.slots] at X' e1 e2 h1 h2 h3 st
    subst h1; subst h2; subst h3
    exact Or.inl ⟨v, (T.setVm vm₁).calling g' mk (Value.ref b :: As).toArray, t, U', L, hT, X', hL, e1, e2, hq, st⟩
  · dsimp only [Pt.U, Pt.locs, Pt.cells, Pt.slots] at X' e1 e2 h1 h2 h3 st hcl
    subst h1; subst h2; subst h3
    exact Or.inr ⟨q, (T.setVm vm₁).calling g' mk (Value.ref b :: As).toArray, t, U', L, E, ce, hT, X', hL, e1, e2, hq, hce, hcv, vx_cls hW₁ hcl, st⟩
theorem vx_runSX {hh : List (Nat × Nat × Nat × Nat)} (S : CallFix p m c cc nL s args Ts own) (hM : vx_Met l y ws rm Pc Qc XC mc ms free) (cw : vx_CSW R s args own index y bytes maxL ret hh ws rm mc ms n) (hp : PreS s H Pc As)
    (hg : g.method = m) (hn : As.length = n) (hsize : g.locals.size = nL) (hstack : g.stack = As.reverse ++ rest) (hW : 2 * g.monitorRoom + (rest.map fun v => v.category).sum ≤ 8) (hdg : decode cc g.pc = .ok (.invokestatic index, 3)) (hf : cells + mc ≤ R.cells ∧ slots + ms ≤ R.slots) :
    vx_Run p l e R s m args below meth c H locs cells slots mc ms g rest (Qc As.toArray) XC free := by
  obtain ⟨⟨hrc, hrs, hfr, hlo, hws, hcw⟩, hcode, hini, hy, hlen, hl, hstt⟩ := cw
  have hK : vx_Back l R p e below s args y 3 8 (PreOf R mc ms Pc) (PostOf Qc mc ms free) (vx_Post XC mc ms free) := vx_backW (hh := hh) (bytes := bytes) (maxL := maxL) (ret := ret) hM hp.1 hrc hrs hfr hlo hws hcw (fun a' U hW => word_at hW (Or.inl (by first | rfl | simp [Cond.onTables, Cond.keeps, Cond.steady])) hini)
  obtain ⟨hx, hb, hml, ho, -⟩ := S
  intro T hT X
  rcases vx_callSX X hx (hh := hh) (bytes := bytes) (maxL := maxL) (ret := ret) ho hl hstt hini hcode hy hK hg (hsize.trans hml.symm) (argsL := As) (rest := rest) (fun sig h => hn.trans (hlen sig h)) hstack hW (by rw [hb]; exact hdg)
    (fun vm₁ hW₁ => ⟨hf.1, hf.2, hp.2 (T.setVm vm₁) hT hW₁⟩) with ⟨v, vm₁, ⟨U', l2, c2, s2⟩, hW₁, X', ⟨g', mk, t, L, e1, e2, hq, h1, hL, h2, h3⟩, st⟩ | ⟨q, vm₁, ⟨U', l2, c2, s2⟩, hW₁, X', ⟨g', mk, t, L, E, ce, e1, e2, hq, hce, hcv, hcl, h1, hL, h2, h3⟩, st⟩
  · dsimp only [Pt.U, Pt.locs, Pt.cells, Pt.slots] at X' e1 e2 h1 h2 h3 st
    subst h1; subst h2; subst h3
    exact Or.inl ⟨v, (T.setVm vm₁).calling g' mk As.toArray, t, U', L, hT, X', hL, e1, e2, hq, st⟩
  · dsimp only [Pt.U, Pt.locs, Pt.cells, Pt.slots] at X' e1 e2 h1 h2 h3 st hcl
    subst h1; subst h2; subst h3
    exact Or.inr ⟨q, (T.setVm vm₁).calling g' mk As.toArray, t, U', L, E, ce, hT, X', hL, e1, e2, hq, hce, hcv, vx_cls hW₁ hcl, st⟩
end
end VXH
theorem vx_ofWH {l : Launch} {y : MethodName} {ws ws' : List Cond} {rm : Room} {Pc : Array Value → State → Prop} {Qc : Array Value → State → Outcome → State → Prop} {XC : String → State → State → Prop} {mc ms : Nat} {free : Addr → Prop} {cc : ByteArray} {maxL : Nat} {ret : Option FieldType} {hh : List (Nat × Nat × Nat × Nat)}
    (hy : plainName y.cls = true) (hw : ws = Cond.codeWith y cc maxL ret hh :: ws')
    (body : ∀ p e s m args below meth c s₁, BodyLoose p l y (headSpec ws rm) cc maxL ret e s m args below meth c s₁ → c.maxLocals = maxL → Pc args s →
      W p l e (headSpec ws rm).room s m args below meth c s.heap [] 0 0 (vx_MQ below Qc XC args s mc ms free) (entryFrame m args maxL)) : vx_Met l y ws rm Pc Qc XC mc ms free := by
  refine MetFree.of_bodyS (code := cc) (maxLocals := maxL) (ret := ret) hy ?_ ?_
  · intro args s m h hn
    obtain ⟨m9, meth, c, hn9, h1, h2, h3, h4, -, h5, h6, -⟩ := Cond.codeWith_spec (atoms_spec (ws := ws) h _ (by rw [hw]; exact List.mem_cons_self))
    cases hn.symm.trans hn9
    exact ⟨meth, c, h1, h2, h3, h4, h5, h6⟩
  · intro p e s m args below meth c s₁ B hml hP _
    have hh0 : s₁.heap = s.heap := by rw [B.state]; rfl
    obtain ⟨t, a1, o, b1, b2, b3⟩ := body p e s m args below meth c s₁ B hml hP s₁ hh0 (Stand.of_body B)
    exact ⟨t, o, a1, b1, b2, b3⟩
/-! ===== END ===== -/
end
section
/-! ===== BEGIN printed: names, fields, word lists, decode rows ===== -/
def RX0 : String := "Bootstay$Delta"
def TX0 : u_T := fun k => match k with
  | 0 => ("Bootstay$Delta", "draft", "LBootstay$Draft;", true)
  | _ => ("Bootstay$Delta", "store", "LBootstay$Store;", true)
def tyX0 : Nat → FieldType := fun k => match k with
  | 0 => .object "Bootstay$Draft"
  | _ => .object "Bootstay$Store"
abbrev wsX00 : List Cond := u_ws RX0 TX0 2
theorem nmX0 : ∀ a, a < 2 → ∀ b, b < 2 → a ≠ b → (TX0 a).2.1 ≠ (TX0 b).2.1 := by decide +kernel
theorem tyX0_ok : ∀ k, k < 2 → parseFieldDescriptor (TX0 k).2.2.1 = some (tyX0 k) := by decide +kernel
abbrev cX0_init : ByteArray := prog_2_method_1_code
def yX0_init : MethodName := ⟨RX0, "<init>", "(LBootstay$Draft;LBootstay$Store;)V"⟩
abbrev cX0_pieceCount : ByteArray := prog_2_method_2_code
def yX0_pieceCount : MethodName := ⟨RX0, "pieceCount", "(I)I"⟩
abbrev cX0_pieceStart : ByteArray := prog_2_method_3_code
def yX0_pieceStart : MethodName := ⟨RX0, "pieceStart", "(II)I"⟩
abbrev cX0_pieceLength : ByteArray := prog_2_method_4_code
def yX0_pieceLength : MethodName := ⟨RX0, "pieceLength", "(II)I"⟩
abbrev cX0_runFrom : ByteArray := prog_2_method_5_code
def yX0_runFrom : MethodName := ⟨RX0, "runFrom", "(II)I"⟩
abbrev cX0_matchLength : ByteArray := prog_2_method_6_code
def yX0_matchLength : MethodName := ⟨RX0, "matchLength", "(III)I"⟩
def RX1 : String := "Bootstay$Draft"
def TX1 : u_T := fun k => match k with
  | 0 => ("Bootstay$Draft", "size", "I", false)
  | _ => ("Bootstay$Draft", "bytes", "[I", true)
def tyX1 : Nat → FieldType := fun k => match k with
  | 0 => .int
  | _ => .array .int
abbrev wsX10 : List Cond := u_ws RX1 TX1 2
theorem nmX1 : ∀ a, a < 2 → ∀ b, b < 2 → a ≠ b → (TX1 a).2.1 ≠ (TX1 b).2.1 := by decide +kernel
theorem tyX1_ok : ∀ k, k < 2 → parseFieldDescriptor (TX1 k).2.2.1 = some (tyX1 k) := by decide +kernel
abbrev cX1_init : ByteArray := prog_3_method_1_code
def yX1_init : MethodName := ⟨RX1, "<init>", "()V"⟩
abbrev cX1_isFull : ByteArray := prog_3_method_2_code
def yX1_isFull : MethodName := ⟨RX1, "isFull", "()Z"⟩
abbrev cX1_append : ByteArray := prog_3_method_3_code
def yX1_append : MethodName := ⟨RX1, "append", "(I)I"⟩
abbrev cX1_clear : ByteArray := prog_3_method_4_code
def yX1_clear : MethodName := ⟨RX1, "clear", "()I"⟩
abbrev cX1_byteAt : ByteArray := prog_3_method_5_code
def yX1_byteAt : MethodName := ⟨RX1, "byteAt", "(I)I"⟩
abbrev cX1_hash : ByteArray := prog_3_method_6_code
def yX1_hash : MethodName := ⟨RX1, "hash", "()I"⟩
def RX2 : String := "Bootstay$Flash"
def TX2 : u_T := fun k => match k with
  | 0 => ("Bootstay$Flash", "words", "[I", true)
  | 1 => ("Bootstay$Flash", "begun", "I", false)
  | _ => ("Bootstay$Flash", "writesToFailure", "I", false)
def tyX2 : Nat → FieldType := fun k => match k with
  | 0 => .array .int
  | 1 => .int
  | _ => .int
abbrev wsX20 : List Cond := u_ws RX2 TX2 3
theorem nmX2 : ∀ a, a < 3 → ∀ b, b < 3 → a ≠ b → (TX2 a).2.1 ≠ (TX2 b).2.1 := by decide +kernel
theorem tyX2_ok : ∀ k, k < 3 → parseFieldDescriptor (TX2 k).2.2.1 = some (tyX2 k) := by decide +kernel
abbrev cX2_init : ByteArray := prog_4_method_1_code
def yX2_init : MethodName := ⟨RX2, "<init>", "()V"⟩
abbrev cX2_read : ByteArray := prog_4_method_2_code
def yX2_read : MethodName := ⟨RX2, "read", "(I)I"⟩
abbrev cX2_preset : ByteArray := prog_4_method_3_code
def yX2_preset : MethodName := ⟨RX2, "preset", "(II)V"⟩
abbrev cX2_write : ByteArray := prog_4_method_4_code
def yX2_write : MethodName := ⟨RX2, "write", "(II)Z"⟩
abbrev cX2_chooseFailure : ByteArray := prog_4_method_5_code
def yX2_chooseFailure : MethodName := ⟨RX2, "chooseFailure", "(I)V"⟩
abbrev cX2_begunWrites : ByteArray := prog_4_method_6_code
def yX2_begunWrites : MethodName := ⟨RX2, "begunWrites", "()I"⟩
abbrev cX2_mirror : ByteArray := prog_4_method_7_code
def yX2_mirror : MethodName := ⟨RX2, "mirror", "(LBootstay$Flash;)V"⟩
def RX3 : String := "Bootstay$Store"
def TX3 : u_T := fun k => match k with
  | _ => ("Bootstay$Store", "flash", "LBootstay$Flash;", true)
def tyX3 : Nat → FieldType := fun k => match k with
  | _ => .object "Bootstay$Flash"
abbrev wsX30 : List Cond := u_ws RX3 TX3 1
theorem nmX3 : ∀ a, a < 1 → ∀ b, b < 1 → a ≠ b → (TX3 a).2.1 ≠ (TX3 b).2.1 := by decide +kernel
theorem tyX3_ok : ∀ k, k < 1 → parseFieldDescriptor (TX3 k).2.2.1 = some (tyX3 k) := by decide +kernel
abbrev cX3_init : ByteArray := prog_5_method_1_code
def yX3_init : MethodName := ⟨RX3, "<init>", "()V"⟩
abbrev cX3_mirror : ByteArray := prog_5_method_2_code
def yX3_mirror : MethodName := ⟨RX3, "mirror", "(LBootstay$Store;)V"⟩
abbrev cX3_slotWord : ByteArray := prog_5_method_3_code
def yX3_slotWord : MethodName := ⟨RX3, "slotWord", "(II)I"⟩
abbrev cX3_writeSlotWord : ByteArray := prog_5_method_4_code
def yX3_writeSlotWord : MethodName := ⟨RX3, "writeSlotWord", "(III)Z"⟩
abbrev cX3_imageWord : ByteArray := prog_5_method_5_code
def yX3_imageWord : MethodName := ⟨RX3, "imageWord", "(II)I"⟩
abbrev cX3_writeImageWord : ByteArray := prog_5_method_6_code
def yX3_writeImageWord : MethodName := ⟨RX3, "writeImageWord", "(III)Z"⟩
abbrev cX3_imageHash : ByteArray := prog_5_method_7_code
def yX3_imageHash : MethodName := ⟨RX3, "imageHash", "(II)I"⟩
abbrev cX3_canStart : ByteArray := prog_5_method_8_code
def yX3_canStart : MethodName := ⟨RX3, "canStart", "(I)Z"⟩
abbrev cX3_checkOf : ByteArray := prog_5_method_9_code
def yX3_checkOf : MethodName := ⟨RX3, "checkOf", "(III)I"⟩
abbrev cX3_recordWord : ByteArray := prog_5_method_10_code
def yX3_recordWord : MethodName := ⟨RX3, "recordWord", "(II)I"⟩
abbrev cX3_writeRecordWord : ByteArray := prog_5_method_11_code
def yX3_writeRecordWord : MethodName := ⟨RX3, "writeRecordWord", "(III)Z"⟩
abbrev cX3_isRecordValid : ByteArray := prog_5_method_12_code
def yX3_isRecordValid : MethodName := ⟨RX3, "isRecordValid", "(I)Z"⟩
abbrev cX3_recordInForce : ByteArray := prog_5_method_13_code
def yX3_recordInForce : MethodName := ⟨RX3, "recordInForce", "()I"⟩
abbrev cX3_recordCounter : ByteArray := prog_5_method_14_code
def yX3_recordCounter : MethodName := ⟨RX3, "recordCounter", "()I"⟩
abbrev cX3_confirmedSlot : ByteArray := prog_5_method_15_code
def yX3_confirmedSlot : MethodName := ⟨RX3, "confirmedSlot", "()I"⟩
abbrev cX3_isTrialDue : ByteArray := prog_5_method_16_code
def yX3_isTrialDue : MethodName := ⟨RX3, "isTrialDue", "()Z"⟩
abbrev cX3_triesLeft : ByteArray := prog_5_method_17_code
def yX3_triesLeft : MethodName := ⟨RX3, "triesLeft", "()I"⟩
abbrev cX3_confirmedIn : ByteArray := prog_5_method_18_code
def yX3_confirmedIn : MethodName := ⟨RX3, "confirmedIn", "(I)I"⟩
abbrev cX3_isTrialIn : ByteArray := prog_5_method_19_code
def yX3_isTrialIn : MethodName := ⟨RX3, "isTrialIn", "(I)Z"⟩
abbrev cX3_triesIn : ByteArray := prog_5_method_20_code
def yX3_triesIn : MethodName := ⟨RX3, "triesIn", "(I)I"⟩
abbrev cX3_settledState : ByteArray := prog_5_method_21_code
def yX3_settledState : MethodName := ⟨RX3, "settledState", "(I)I"⟩
abbrev cX3_trialState : ByteArray := prog_5_method_22_code
def yX3_trialState : MethodName := ⟨RX3, "trialState", "(II)I"⟩
abbrev cX3_writeRecord : ByteArray := prog_5_method_23_code
def yX3_writeRecord : MethodName := ⟨RX3, "writeRecord", "(II)Z"⟩
abbrev cX3_slotToStart : ByteArray := prog_5_method_24_code
def yX3_slotToStart : MethodName := ⟨RX3, "slotToStart", "()I"⟩
abbrev cX3_start : ByteArray := prog_5_method_25_code
def yX3_start : MethodName := ⟨RX3, "start", "()I"⟩
abbrev cX3_writeUpdate : ByteArray := prog_5_method_26_code
def yX3_writeUpdate : MethodName := ⟨RX3, "writeUpdate", "(ILBootstay$Transfer;I)Z"⟩
def RX4 : String := "Bootstay$Transfer"
def TX4 : u_T := fun k => match k with
  | 0 => ("Bootstay$Transfer", "version", "I", false)
  | 1 => ("Bootstay$Transfer", "length", "I", false)
  | 2 => ("Bootstay$Transfer", "hash", "I", false)
  | 3 => ("Bootstay$Transfer", "counter", "I", false)
  | 4 => ("Bootstay$Transfer", "come", "I", false)
  | _ => ("Bootstay$Transfer", "isGoingOn", "Z", false)
def tyX4 : Nat → FieldType := fun k => match k with
  | 0 => .int
  | 1 => .int
  | 2 => .int
  | 3 => .int
  | 4 => .int
  | _ => .boolean
abbrev wsX40 : List Cond := u_ws RX4 TX4 6
theorem nmX4 : ∀ a, a < 6 → ∀ b, b < 6 → a ≠ b → (TX4 a).2.1 ≠ (TX4 b).2.1 := by decide +kernel
theorem tyX4_ok : ∀ k, k < 6 → parseFieldDescriptor (TX4 k).2.2.1 = some (tyX4 k) := by decide +kernel
abbrev cX4_init : ByteArray := prog_6_method_1_code
def yX4_init : MethodName := ⟨RX4, "<init>", "()V"⟩
abbrev cX4_begin : ByteArray := prog_6_method_2_code
def yX4_begin : MethodName := ⟨RX4, "begin", "(IIII)V"⟩
abbrev cX4_end : ByteArray := prog_6_method_3_code
def yX4_end : MethodName := ⟨RX4, "end", "()V"⟩
abbrev cX4_bytesToCome : ByteArray := prog_6_method_4_code
def yX4_bytesToCome : MethodName := ⟨RX4, "bytesToCome", "()I"⟩
abbrev cX4_nextPlace : ByteArray := prog_6_method_5_code
def yX4_nextPlace : MethodName := ⟨RX4, "nextPlace", "()I"⟩
def RX5 : String := "Bootstay"
def TX5 : u_T := fun k => match k with
  | 0 => ("Bootstay", "store", "LBootstay$Store;", true)
  | 1 => ("Bootstay", "rehearsal", "LBootstay$Store;", true)
  | 2 => ("Bootstay", "transfer", "LBootstay$Transfer;", true)
  | 3 => ("Bootstay", "draftImage", "LBootstay$Draft;", true)
  | 4 => ("Bootstay", "delta", "LBootstay$Delta;", true)
  | _ => ("Bootstay", "runningSlot", "I", false)
def tyX5 : Nat → FieldType := fun k => match k with
  | 0 => .object "Bootstay$Store"
  | 1 => .object "Bootstay$Store"
  | 2 => .object "Bootstay$Transfer"
  | 3 => .object "Bootstay$Draft"
  | 4 => .object "Bootstay$Delta"
  | _ => .int
abbrev wsX50 : List Cond := u_ws RX5 TX5 6
theorem nmX5 : ∀ a, a < 6 → ∀ b, b < 6 → a ≠ b → (TX5 a).2.1 ≠ (TX5 b).2.1 := by decide +kernel
theorem tyX5_ok : ∀ k, k < 6 → parseFieldDescriptor (TX5 k).2.2.1 = some (tyX5 k) := by decide +kernel
abbrev cX5_init : ByteArray := prog_1_method_1_code
def yX5_init : MethodName := ⟨RX5, "<init>", "()V"⟩
abbrev cX5_switchOn : ByteArray := prog_1_method_2_code
def yX5_switchOn : MethodName := ⟨RX5, "switchOn", "()I"⟩
abbrev cX5_switchOff : ByteArray := prog_1_method_3_code
def yX5_switchOff : MethodName := ⟨RX5, "switchOff", "()I"⟩
abbrev cX5_failAfter : ByteArray := prog_1_method_4_code
def yX5_failAfter : MethodName := ⟨RX5, "failAfter", "(I)V"⟩
abbrev cX5_isOn : ByteArray := prog_1_method_5_code
def yX5_isOn : MethodName := ⟨RX5, "isOn", "()Z"⟩
abbrev cX5_running : ByteArray := prog_1_method_6_code
def yX5_running : MethodName := ⟨RX5, "running", "()I"⟩
abbrev cX5_isOnTrial : ByteArray := prog_1_method_7_code
def yX5_isOnTrial : MethodName := ⟨RX5, "isOnTrial", "()Z"⟩
abbrev cX5_writes : ByteArray := prog_1_method_8_code
def yX5_writes : MethodName := ⟨RX5, "writes", "()I"⟩
abbrev cX5_offer : ByteArray := prog_1_method_9_code
def yX5_offer : MethodName := ⟨RX5, "offer", "(IIII)Z"⟩
abbrev cX5_put : ByteArray := prog_1_method_10_code
def yX5_put : MethodName := ⟨RX5, "put", "(I)Z"⟩
abbrev cX5_copy : ByteArray := prog_1_method_11_code
def yX5_copy : MethodName := ⟨RX5, "copy", "(II)I"⟩
abbrev cX5_finish : ByteArray := prog_1_method_12_code
def yX5_finish : MethodName := ⟨RX5, "finish", "(I)Z"⟩
abbrev cX5_confirm : ByteArray := prog_1_method_13_code
def yX5_confirm : MethodName := ⟨RX5, "confirm", "()Z"⟩
abbrev cX5_toCome : ByteArray := prog_1_method_14_code
def yX5_toCome : MethodName := ⟨RX5, "toCome", "()I"⟩
abbrev cX5_draft : ByteArray := prog_1_method_15_code
def yX5_draft : MethodName := ⟨RX5, "draft", "(I)I"⟩
abbrev cX5_clearDraft : ByteArray := prog_1_method_16_code
def yX5_clearDraft : MethodName := ⟨RX5, "clearDraft", "()I"⟩
abbrev cX5_draftHash : ByteArray := prog_1_method_17_code
def yX5_draftHash : MethodName := ⟨RX5, "draftHash", "()I"⟩
abbrev cX5_deltaPieces : ByteArray := prog_1_method_18_code
def yX5_deltaPieces : MethodName := ⟨RX5, "deltaPieces", "(I)I"⟩
abbrev cX5_deltaLength : ByteArray := prog_1_method_19_code
def yX5_deltaLength : MethodName := ⟨RX5, "deltaLength", "(II)I"⟩
abbrev cX5_deltaFrom : ByteArray := prog_1_method_20_code
def yX5_deltaFrom : MethodName := ⟨RX5, "deltaFrom", "(II)I"⟩
abbrev cX5_isStartable : ByteArray := prog_1_method_21_code
def yX5_isStartable : MethodName := ⟨RX5, "isStartable", "(I)Z"⟩
abbrev cX5_version : ByteArray := prog_1_method_22_code
def yX5_version : MethodName := ⟨RX5, "version", "(I)I"⟩
abbrev cX5_imageByte : ByteArray := prog_1_method_23_code
def yX5_imageByte : MethodName := ⟨RX5, "imageByte", "(II)I"⟩
abbrev cX5_record : ByteArray := prog_1_method_24_code
def yX5_record : MethodName := ⟨RX5, "record", "()I"⟩
abbrev cX5_isValid : ByteArray := prog_1_method_25_code
def yX5_isValid : MethodName := ⟨RX5, "isValid", "(I)Z"⟩
abbrev cX5_confirmed : ByteArray := prog_1_method_26_code
def yX5_confirmed : MethodName := ⟨RX5, "confirmed", "()I"⟩
abbrev cX5_tries : ByteArray := prog_1_method_27_code
def yX5_tries : MethodName := ⟨RX5, "tries", "()I"⟩
abbrev cX5_counter : ByteArray := prog_1_method_28_code
def yX5_counter : MethodName := ⟨RX5, "counter", "()I"⟩
abbrev cX5_safeFinish : ByteArray := prog_1_method_29_code
def yX5_safeFinish : MethodName := ⟨RX5, "safeFinish", "(I)I"⟩
abbrev cX5_wouldStart : ByteArray := prog_1_method_30_code
def yX5_wouldStart : MethodName := ⟨RX5, "wouldStart", "()I"⟩
abbrev cX5_requireWithin : ByteArray := prog_1_method_31_code
def yX5_requireWithin : MethodName := ⟨RX5, "requireWithin", "(III)V"⟩
abbrev cX5_requireOn : ByteArray := prog_1_method_32_code
def yX5_requireOn : MethodName := ⟨RX5, "requireOn", "()V"⟩
abbrev cX5_requireToCome : ByteArray := prog_1_method_33_code
def yX5_requireToCome : MethodName := ⟨RX5, "requireToCome", "(I)V"⟩
abbrev cX5_requireFinishable : ByteArray := prog_1_method_34_code
def yX5_requireFinishable : MethodName := ⟨RX5, "requireFinishable", "(I)V"⟩
abbrev cX5_requireStartable : ByteArray := prog_1_method_35_code
def yX5_requireStartable : MethodName := ⟨RX5, "requireStartable", "(I)V"⟩
abbrev cX5_requirePiece : ByteArray := prog_1_method_36_code
def yX5_requirePiece : MethodName := ⟨RX5, "requirePiece", "(I)V"⟩
abbrev cX5_idleSlot : ByteArray := prog_1_method_37_code
def yX5_idleSlot : MethodName := ⟨RX5, "idleSlot", "()I"⟩
abbrev cX5_append : ByteArray := prog_1_method_38_code
def yX5_append : MethodName := ⟨RX5, "append", "(I)Z"⟩
abbrev cX5_stayOn : ByteArray := prog_1_method_39_code
def yX5_stayOn : MethodName := ⟨RX5, "stayOn", "(Z)Z"⟩
abbrev cX5_losePower : ByteArray := prog_1_method_40_code
def yX5_losePower : MethodName := ⟨RX5, "losePower", "()V"⟩
abbrev cX5_hashWith : ByteArray := prog_1_method_41_code
def yX5_hashWith : MethodName := ⟨RX5, "hashWith", "(II)I"⟩
def RX6 : String := "BootstayModel"
def TX6 : u_T := fun k => match k with
  | 0 => ("BootstayModel", "flash", "[I", true)
  | 1 => ("BootstayModel", "kept", "[I", true)
  | 2 => ("BootstayModel", "on", "Z", false)
  | 3 => ("BootstayModel", "running", "I", false)
  | 4 => ("BootstayModel", "left", "I", false)
  | 5 => ("BootstayModel", "writes", "I", false)
  | 6 => ("BootstayModel", "newVersion", "I", false)
  | 7 => ("BootstayModel", "newLength", "I", false)
  | 8 => ("BootstayModel", "newHash", "I", false)
  | 9 => ("BootstayModel", "newCounter", "I", false)
  | 10 => ("BootstayModel", "come", "I", false)
  | 11 => ("BootstayModel", "draft", "[I", true)
  | 12 => ("BootstayModel", "drafted", "I", false)
  | _ => ("BootstayModel", "last", "I", false)
def tyX6 : Nat → FieldType := fun k => match k with
  | 0 => .array .int
  | 1 => .array .int
  | 2 => .boolean
  | 3 => .int
  | 4 => .int
  | 5 => .int
  | 6 => .int
  | 7 => .int
  | 8 => .int
  | 9 => .int
  | 10 => .int
  | 11 => .array .int
  | 12 => .int
  | _ => .int
abbrev wsX60 : List Cond := u_ws RX6 TX6 14
theorem nmX6 : ∀ a, a < 14 → ∀ b, b < 14 → a ≠ b → (TX6 a).2.1 ≠ (TX6 b).2.1 := by decide +kernel
theorem tyX6_ok : ∀ k, k < 14 → parseFieldDescriptor (TX6 k).2.2.1 = some (tyX6 k) := by decide +kernel
abbrev cX6_init : ByteArray := prog_8_method_1_code
def yX6_init : MethodName := ⟨RX6, "<init>", "()V"⟩
abbrev cX6_thrown : ByteArray := prog_8_method_2_code
def yX6_thrown : MethodName := ⟨RX6, "thrown", "()I"⟩
abbrev cX6_in : ByteArray := prog_8_method_3_code
def yX6_in : MethodName := ⟨RX6, "in", "(III)Z"⟩
abbrev cX6_goes : ByteArray := prog_8_method_4_code
def yX6_goes : MethodName := ⟨RX6, "goes", "(ZZ)Z"⟩
abbrev cX6_hashed : ByteArray := prog_8_method_5_code
def yX6_hashed : MethodName := ⟨RX6, "hashed", "(II)I"⟩
abbrev cX6_hashIn : ByteArray := prog_8_method_6_code
def yX6_hashIn : MethodName := ⟨RX6, "hashIn", "(II)I"⟩
abbrev cX6_canStart : ByteArray := prog_8_method_7_code
def yX6_canStart : MethodName := ⟨RX6, "canStart", "(I)Z"⟩
abbrev cX6_rightCheck : ByteArray := prog_8_method_8_code
def yX6_rightCheck : MethodName := ⟨RX6, "rightCheck", "(I)I"⟩
abbrev cX6_holds : ByteArray := prog_8_method_9_code
def yX6_holds : MethodName := ⟨RX6, "holds", "(I)Z"⟩
abbrev cX6_force : ByteArray := prog_8_method_10_code
def yX6_force : MethodName := ⟨RX6, "force", "()I"⟩
abbrev cX6_inForce : ByteArray := prog_8_method_11_code
def yX6_inForce : MethodName := ⟨RX6, "inForce", "(I)I"⟩
abbrev cX6_confirmedSlot : ByteArray := prog_8_method_12_code
def yX6_confirmedSlot : MethodName := ⟨RX6, "confirmedSlot", "()I"⟩
abbrev cX6_isDue : ByteArray := prog_8_method_13_code
def yX6_isDue : MethodName := ⟨RX6, "isDue", "()Z"⟩
abbrev cX6_triesLeft : ByteArray := prog_8_method_14_code
def yX6_triesLeft : MethodName := ⟨RX6, "triesLeft", "()I"⟩
abbrev cX6_goesOff : ByteArray := prog_8_method_15_code
def yX6_goesOff : MethodName := ⟨RX6, "goesOff", "()V"⟩
abbrev cX6_lays : ByteArray := prog_8_method_16_code
def yX6_lays : MethodName := ⟨RX6, "lays", "(II)Z"⟩
abbrev cX6_records : ByteArray := prog_8_method_17_code
def yX6_records : MethodName := ⟨RX6, "records", "(II)Z"⟩
abbrev cX6_willTry : ByteArray := prog_8_method_18_code
def yX6_willTry : MethodName := ⟨RX6, "willTry", "(I)Z"⟩
abbrev cX6_switchOn : ByteArray := prog_8_method_19_code
def yX6_switchOn : MethodName := ⟨RX6, "switchOn", "()I"⟩
abbrev cX6_switchOff : ByteArray := prog_8_method_20_code
def yX6_switchOff : MethodName := ⟨RX6, "switchOff", "()I"⟩
abbrev cX6_failAfter : ByteArray := prog_8_method_21_code
def yX6_failAfter : MethodName := ⟨RX6, "failAfter", "(I)V"⟩
abbrev cX6_isOn : ByteArray := prog_8_method_22_code
def yX6_isOn : MethodName := ⟨RX6, "isOn", "()Z"⟩
abbrev cX6_running : ByteArray := prog_8_method_23_code
def yX6_running : MethodName := ⟨RX6, "running", "()I"⟩
abbrev cX6_isTrial : ByteArray := prog_8_method_24_code
def yX6_isTrial : MethodName := ⟨RX6, "isTrial", "()Z"⟩
abbrev cX6_isOnTrial : ByteArray := prog_8_method_25_code
def yX6_isOnTrial : MethodName := ⟨RX6, "isOnTrial", "()Z"⟩
abbrev cX6_writes : ByteArray := prog_8_method_26_code
def yX6_writes : MethodName := ⟨RX6, "writes", "()I"⟩
abbrev cX6_offer : ByteArray := prog_8_method_27_code
def yX6_offer : MethodName := ⟨RX6, "offer", "(IIII)Z"⟩
abbrev cX6_comes : ByteArray := prog_8_method_28_code
def yX6_comes : MethodName := ⟨RX6, "comes", "(I)Z"⟩
abbrev cX6_put : ByteArray := prog_8_method_29_code
def yX6_put : MethodName := ⟨RX6, "put", "(I)Z"⟩
abbrev cX6_copy : ByteArray := prog_8_method_30_code
def yX6_copy : MethodName := ⟨RX6, "copy", "(II)I"⟩
abbrev cX6_canFinish : ByteArray := prog_8_method_31_code
def yX6_canFinish : MethodName := ⟨RX6, "canFinish", "()Z"⟩
abbrev cX6_finishes : ByteArray := prog_8_method_32_code
def yX6_finishes : MethodName := ⟨RX6, "finishes", "(I)Z"⟩
abbrev cX6_finish : ByteArray := prog_8_method_33_code
def yX6_finish : MethodName := ⟨RX6, "finish", "(I)Z"⟩
abbrev cX6_confirm : ByteArray := prog_8_method_34_code
def yX6_confirm : MethodName := ⟨RX6, "confirm", "()Z"⟩
abbrev cX6_toCome : ByteArray := prog_8_method_35_code
def yX6_toCome : MethodName := ⟨RX6, "toCome", "()I"⟩
abbrev cX6_draft : ByteArray := prog_8_method_36_code
def yX6_draft : MethodName := ⟨RX6, "draft", "(I)I"⟩
abbrev cX6_clearDraft : ByteArray := prog_8_method_37_code
def yX6_clearDraft : MethodName := ⟨RX6, "clearDraft", "()I"⟩
abbrev cX6_draftHash : ByteArray := prog_8_method_38_code
def yX6_draftHash : MethodName := ⟨RX6, "draftHash", "()I"⟩
abbrev cX6_alike : ByteArray := prog_8_method_39_code
def yX6_alike : MethodName := ⟨RX6, "alike", "(III)I"⟩
abbrev cX6_bestFrom : ByteArray := prog_8_method_40_code
def yX6_bestFrom : MethodName := ⟨RX6, "bestFrom", "(II)I"⟩
abbrev cX6_pieceLength : ByteArray := prog_8_method_41_code
def yX6_pieceLength : MethodName := ⟨RX6, "pieceLength", "(II)I"⟩
abbrev cX6_countPieces : ByteArray := prog_8_method_42_code
def yX6_countPieces : MethodName := ⟨RX6, "countPieces", "(I)I"⟩
abbrev cX6_placeOf : ByteArray := prog_8_method_43_code
def yX6_placeOf : MethodName := ⟨RX6, "placeOf", "(II)I"⟩
abbrev cX6_isSlot : ByteArray := prog_8_method_44_code
def yX6_isSlot : MethodName := ⟨RX6, "isSlot", "(I)Z"⟩
abbrev cX6_deltaPieces : ByteArray := prog_8_method_45_code
def yX6_deltaPieces : MethodName := ⟨RX6, "deltaPieces", "(I)I"⟩
abbrev cX6_isPiece : ByteArray := prog_8_method_46_code
def yX6_isPiece : MethodName := ⟨RX6, "isPiece", "(II)Z"⟩
abbrev cX6_deltaLength : ByteArray := prog_8_method_47_code
def yX6_deltaLength : MethodName := ⟨RX6, "deltaLength", "(II)I"⟩
abbrev cX6_deltaFrom : ByteArray := prog_8_method_48_code
def yX6_deltaFrom : MethodName := ⟨RX6, "deltaFrom", "(II)I"⟩
abbrev cX6_isStartable : ByteArray := prog_8_method_49_code
def yX6_isStartable : MethodName := ⟨RX6, "isStartable", "(I)Z"⟩
abbrev cX6_version : ByteArray := prog_8_method_50_code
def yX6_version : MethodName := ⟨RX6, "version", "(I)I"⟩
abbrev cX6_imageByte : ByteArray := prog_8_method_51_code
def yX6_imageByte : MethodName := ⟨RX6, "imageByte", "(II)I"⟩
abbrev cX6_record : ByteArray := prog_8_method_52_code
def yX6_record : MethodName := ⟨RX6, "record", "()I"⟩
abbrev cX6_isValid : ByteArray := prog_8_method_53_code
def yX6_isValid : MethodName := ⟨RX6, "isValid", "(I)Z"⟩
abbrev cX6_confirmed : ByteArray := prog_8_method_54_code
def yX6_confirmed : MethodName := ⟨RX6, "confirmed", "()I"⟩
abbrev cX6_tries : ByteArray := prog_8_method_55_code
def yX6_tries : MethodName := ⟨RX6, "tries", "()I"⟩
abbrev cX6_counter : ByteArray := prog_8_method_56_code
def yX6_counter : MethodName := ⟨RX6, "counter", "()I"⟩
abbrev cX6_nextStart : ByteArray := prog_8_method_57_code
def yX6_nextStart : MethodName := ⟨RX6, "nextStart", "()I"⟩
abbrev cX6_safeFinish : ByteArray := prog_8_method_58_code
def yX6_safeFinish : MethodName := ⟨RX6, "safeFinish", "(I)I"⟩
abbrev cX6_wouldStart : ByteArray := prog_8_method_59_code
def yX6_wouldStart : MethodName := ⟨RX6, "wouldStart", "()I"⟩
def RJ9 : String := "java/lang/Math"
def TJ9 : u_T := fun k => match k with
  | _ => ("", "", "", false)
def tyJ9 : Nat → FieldType := fun k => match k with
  | _ => .int
abbrev wsJ90 : List Cond := u_ws RJ9 TJ9 0
theorem nmJ9 : ∀ a, a < 0 → ∀ b, b < 0 → a ≠ b → (TJ9 a).2.1 ≠ (TJ9 b).2.1 := by decide +kernel
theorem tyJ9_ok : ∀ k, k < 0 → parseFieldDescriptor (TJ9 k).2.2.1 = some (tyJ9 k) := by decide +kernel
abbrev cJ9_max_7cf53 : ByteArray := prog_13_method_65_code
def yJ9_max_7cf53 : MethodName := ⟨RJ9, "max", "(II)I"⟩
abbrev cJ9_min_7cf53 : ByteArray := prog_13_method_69_code
def yJ9_min_7cf53 : MethodName := ⟨RJ9, "min", "(II)I"⟩
def RJ0 : String := "java/lang/String"
def TJ0 : u_T := fun k => match k with
  | _ => ("", "", "", false)
def tyJ0 : Nat → FieldType := fun k => match k with
  | _ => .int
abbrev wsJ00 : List Cond := u_ws RJ0 TJ0 0
theorem nmJ0 : ∀ a, a < 0 → ∀ b, b < 0 → a ≠ b → (TJ0 a).2.1 ≠ (TJ0 b).2.1 := by decide +kernel
theorem tyJ0_ok : ∀ k, k < 0 → parseFieldDescriptor (TJ0 k).2.2.1 = some (tyJ0 k) := by decide +kernel
def RL : String := "BootstayLaw"
abbrev cL_switchOn : ByteArray := method_3_code
def yL_switchOn : MethodName := ⟨RL, "switchOn", "(LBootstay;[J)I"⟩
abbrev cL_switchOff : ByteArray := method_4_code
def yL_switchOff : MethodName := ⟨RL, "switchOff", "(LBootstay;[J)I"⟩
abbrev cL_failAfter : ByteArray := method_5_code
def yL_failAfter : MethodName := ⟨RL, "failAfter", "(LBootstay;I)I"⟩
abbrev cL_offer : ByteArray := method_6_code
def yL_offer : MethodName := ⟨RL, "offer", "(LBootstay;IIII[J)I"⟩
abbrev cL_put : ByteArray := method_7_code
def yL_put : MethodName := ⟨RL, "put", "(LBootstay;I[J)I"⟩
abbrev cL_copy : ByteArray := method_8_code
def yL_copy : MethodName := ⟨RL, "copy", "(LBootstay;II[J)I"⟩
abbrev cL_finish : ByteArray := method_9_code
def yL_finish : MethodName := ⟨RL, "finish", "(LBootstay;I[J)I"⟩
abbrev cL_confirm : ByteArray := method_10_code
def yL_confirm : MethodName := ⟨RL, "confirm", "(LBootstay;[J)I"⟩
abbrev cL_draft : ByteArray := method_11_code
def yL_draft : MethodName := ⟨RL, "draft", "(LBootstay;I[J)I"⟩
abbrev cL_deltaPieces : ByteArray := method_12_code
def yL_deltaPieces : MethodName := ⟨RL, "deltaPieces", "(LBootstay;I[J)I"⟩
abbrev cL_deltaLength : ByteArray := method_13_code
def yL_deltaLength : MethodName := ⟨RL, "deltaLength", "(LBootstay;II[J)I"⟩
abbrev cL_deltaFrom : ByteArray := method_14_code
def yL_deltaFrom : MethodName := ⟨RL, "deltaFrom", "(LBootstay;II[J)I"⟩
abbrev cL_isStartable : ByteArray := method_15_code
def yL_isStartable : MethodName := ⟨RL, "isStartable", "(LBootstay;I[J)I"⟩
abbrev cL_version : ByteArray := method_16_code
def yL_version : MethodName := ⟨RL, "version", "(LBootstay;I[J)I"⟩
abbrev cL_imageByte : ByteArray := method_17_code
def yL_imageByte : MethodName := ⟨RL, "imageByte", "(LBootstay;II[J)I"⟩
abbrev cL_isValid : ByteArray := method_18_code
def yL_isValid : MethodName := ⟨RL, "isValid", "(LBootstay;I[J)I"⟩
abbrev cL_safeFinish : ByteArray := method_19_code
def yL_safeFinish : MethodName := ⟨RL, "safeFinish", "(LBootstay;I[J)I"⟩
abbrev cL_law : ByteArray := code
def yL_law : MethodName := ⟨RL, "law", "([I)Z"⟩
def wsX0_init : List Cond := .code yX0_init cX0_init 3 none :: ([.methodLink RX0 3 objectInit, .instanceMethod objectInit, .code objectInit ⟨#[0xb1]⟩ 1 none, .fieldLink RX0 9 "Bootstay$Delta" "draft" "LBootstay$Draft;", .fieldLink RX0 15 "Bootstay$Delta" "store" "LBootstay$Store;"] ++ wsX00)
def wsX2_read : List Cond := .code yX2_read cX2_read 2 (some .int) :: ([.fieldLink RX2 11 "Bootstay$Flash" "words" "[I"] ++ wsX20)
def wsX3_slotWord : List Cond := .code yX3_slotWord cX3_slotWord 3 (some .int) :: ([.fieldLink RX3 14 "Bootstay$Store" "flash" "LBootstay$Flash;", .methodLink RX3 34 yX2_read, .instanceMethod yX2_read, .selects RX2 yX2_read yX2_read, .initialized RX2, .code yX2_read cX2_read 2 (some .int), .fieldLink RX2 11 "Bootstay$Flash" "words" "[I"] ++ wsX30 ++ wsX20)
def wsX3_imageWord : List Cond := .code yX3_imageWord cX3_imageWord 3 (some .int) :: ([.fieldLink RX3 14 "Bootstay$Store" "flash" "LBootstay$Flash;", .methodLink RX3 34 yX2_read, .instanceMethod yX2_read, .selects RX2 yX2_read yX2_read, .initialized RX2, .code yX2_read cX2_read 2 (some .int), .fieldLink RX2 11 "Bootstay$Flash" "words" "[I"] ++ wsX30 ++ wsX20)
def wsX1_byteAt : List Cond := .code yX1_byteAt cX1_byteAt 2 (some .int) :: ([.fieldLink RX1 15 "Bootstay$Draft" "bytes" "[I"] ++ wsX10)
def wsX0_matchLength_r1 : List Cond := [Cond.fieldLink RX0 15 "Bootstay$Delta" "store" "LBootstay$Store;", Cond.fieldLink RX0 9 "Bootstay$Delta" "draft" "LBootstay$Draft;", Cond.fieldLink RX0 19 "Bootstay$Draft" "size" "I", Cond.methodLink RX0 41 Lib.Math.min.name, Cond.static Lib.Math.min.name, Cond.initialized "java/lang/Math", Cond.code Lib.Math.min.name Lib.Math.min.code 2 (some .int), Cond.methodLink RX0 38 yX3_slotWord, Cond.instanceMethod yX3_slotWord, Cond.selects RX3 yX3_slotWord yX3_slotWord, Cond.initialized RX3, Cond.code yX3_slotWord cX3_slotWord 3 (some .int), Cond.fieldLink RX3 14 "Bootstay$Store" "flash" "LBootstay$Flash;", Cond.methodLink RX3 34 yX2_read, Cond.instanceMethod yX2_read, Cond.selects RX2 yX2_read yX2_read, Cond.initialized RX2, Cond.code yX2_read cX2_read 2 (some .int), Cond.fieldLink RX2 11 "Bootstay$Flash" "words" "[I", Cond.methodLink RX0 46 yX3_imageWord, Cond.instanceMethod yX3_imageWord, Cond.selects RX3 yX3_imageWord yX3_imageWord, Cond.code yX3_imageWord cX3_imageWord 3 (some .int), Cond.methodLink RX0 49 yX1_byteAt]
def wsX0_matchLength_r2 : List Cond := [Cond.instanceMethod yX1_byteAt, Cond.selects RX1 yX1_byteAt yX1_byteAt, Cond.initialized RX1, Cond.code yX1_byteAt cX1_byteAt 2 (some .int), Cond.fieldLink RX1 15 "Bootstay$Draft" "bytes" "[I"]
def wsX0_matchLength : List Cond := .code yX0_matchLength cX0_matchLength 6 (some .int) :: ((wsX0_matchLength_r1 ++ wsX0_matchLength_r2) ++ wsX00 ++ wsX10 ++ wsX30 ++ wsX20)
def wsX0_runFrom_r1 : List Cond := [Cond.fieldLink RX0 15 "Bootstay$Delta" "store" "LBootstay$Store;", Cond.methodLink RX0 38 yX3_slotWord, Cond.instanceMethod yX3_slotWord, Cond.selects RX3 yX3_slotWord yX3_slotWord, Cond.initialized RX3, Cond.code yX3_slotWord cX3_slotWord 3 (some .int), Cond.fieldLink RX3 14 "Bootstay$Store" "flash" "LBootstay$Flash;", Cond.methodLink RX3 34 yX2_read, Cond.instanceMethod yX2_read, Cond.selects RX2 yX2_read yX2_read, Cond.initialized RX2, Cond.code yX2_read cX2_read 2 (some .int), Cond.fieldLink RX2 11 "Bootstay$Flash" "words" "[I", Cond.methodLink RX0 32 yX0_matchLength, Cond.instanceMethod yX0_matchLength, Cond.selects RX0 yX0_matchLength yX0_matchLength, Cond.initialized RX0, Cond.code yX0_matchLength cX0_matchLength 6 (some .int), Cond.fieldLink RX0 9 "Bootstay$Delta" "draft" "LBootstay$Draft;", Cond.fieldLink RX0 19 "Bootstay$Draft" "size" "I", Cond.methodLink RX0 41 Lib.Math.min.name, Cond.static Lib.Math.min.name, Cond.initialized "java/lang/Math", Cond.code Lib.Math.min.name Lib.Math.min.code 2 (some .int)]
def wsX0_runFrom_r2 : List Cond := [Cond.methodLink RX0 46 yX3_imageWord, Cond.instanceMethod yX3_imageWord, Cond.selects RX3 yX3_imageWord yX3_imageWord, Cond.code yX3_imageWord cX3_imageWord 3 (some .int), Cond.methodLink RX0 49 yX1_byteAt, Cond.instanceMethod yX1_byteAt, Cond.selects RX1 yX1_byteAt yX1_byteAt, Cond.initialized RX1, Cond.code yX1_byteAt cX1_byteAt 2 (some .int), Cond.fieldLink RX1 15 "Bootstay$Draft" "bytes" "[I"]
def wsX0_runFrom : List Cond := .code yX0_runFrom cX0_runFrom 8 (some .int) :: ((wsX0_runFrom_r1 ++ wsX0_runFrom_r2) ++ wsX00 ++ wsX30 ++ wsX20 ++ wsX10)
def wsX0_pieceLength_r1 : List Cond := [Cond.methodLink RX0 29 yX0_runFrom, Cond.instanceMethod yX0_runFrom, Cond.selects RX0 yX0_runFrom yX0_runFrom, Cond.initialized RX0, Cond.code yX0_runFrom cX0_runFrom 8 (some .int), Cond.fieldLink RX0 15 "Bootstay$Delta" "store" "LBootstay$Store;", Cond.methodLink RX0 38 yX3_slotWord, Cond.instanceMethod yX3_slotWord, Cond.selects RX3 yX3_slotWord yX3_slotWord, Cond.initialized RX3, Cond.code yX3_slotWord cX3_slotWord 3 (some .int), Cond.fieldLink RX3 14 "Bootstay$Store" "flash" "LBootstay$Flash;", Cond.methodLink RX3 34 yX2_read, Cond.instanceMethod yX2_read, Cond.selects RX2 yX2_read yX2_read, Cond.initialized RX2, Cond.code yX2_read cX2_read 2 (some .int), Cond.fieldLink RX2 11 "Bootstay$Flash" "words" "[I", Cond.methodLink RX0 32 yX0_matchLength, Cond.instanceMethod yX0_matchLength, Cond.selects RX0 yX0_matchLength yX0_matchLength, Cond.code yX0_matchLength cX0_matchLength 6 (some .int), Cond.fieldLink RX0 9 "Bootstay$Delta" "draft" "LBootstay$Draft;", Cond.fieldLink RX0 19 "Bootstay$Draft" "size" "I"]
def wsX0_pieceLength_r2 : List Cond := [Cond.methodLink RX0 41 Lib.Math.min.name, Cond.static Lib.Math.min.name, Cond.initialized "java/lang/Math", Cond.code Lib.Math.min.name Lib.Math.min.code 2 (some .int), Cond.methodLink RX0 46 yX3_imageWord, Cond.instanceMethod yX3_imageWord, Cond.selects RX3 yX3_imageWord yX3_imageWord, Cond.code yX3_imageWord cX3_imageWord 3 (some .int), Cond.methodLink RX0 49 yX1_byteAt, Cond.instanceMethod yX1_byteAt, Cond.selects RX1 yX1_byteAt yX1_byteAt, Cond.initialized RX1, Cond.code yX1_byteAt cX1_byteAt 2 (some .int), Cond.fieldLink RX1 15 "Bootstay$Draft" "bytes" "[I"]
def wsX0_pieceLength : List Cond := .code yX0_pieceLength cX0_pieceLength 4 (some .int) :: ((wsX0_pieceLength_r1 ++ wsX0_pieceLength_r2) ++ wsX00 ++ wsX30 ++ wsX20 ++ wsX10)
def wsX0_pieceCount_r1 : List Cond := [Cond.fieldLink RX0 9 "Bootstay$Delta" "draft" "LBootstay$Draft;", Cond.fieldLink RX0 19 "Bootstay$Draft" "size" "I", Cond.methodLink RX0 25 yX0_pieceLength, Cond.instanceMethod yX0_pieceLength, Cond.selects RX0 yX0_pieceLength yX0_pieceLength, Cond.initialized RX0, Cond.code yX0_pieceLength cX0_pieceLength 4 (some .int), Cond.methodLink RX0 29 yX0_runFrom, Cond.instanceMethod yX0_runFrom, Cond.selects RX0 yX0_runFrom yX0_runFrom, Cond.code yX0_runFrom cX0_runFrom 8 (some .int), Cond.fieldLink RX0 15 "Bootstay$Delta" "store" "LBootstay$Store;", Cond.methodLink RX0 38 yX3_slotWord, Cond.instanceMethod yX3_slotWord, Cond.selects RX3 yX3_slotWord yX3_slotWord, Cond.initialized RX3, Cond.code yX3_slotWord cX3_slotWord 3 (some .int), Cond.fieldLink RX3 14 "Bootstay$Store" "flash" "LBootstay$Flash;", Cond.methodLink RX3 34 yX2_read, Cond.instanceMethod yX2_read, Cond.selects RX2 yX2_read yX2_read, Cond.initialized RX2, Cond.code yX2_read cX2_read 2 (some .int), Cond.fieldLink RX2 11 "Bootstay$Flash" "words" "[I"]
def wsX0_pieceCount_r2 : List Cond := [Cond.methodLink RX0 32 yX0_matchLength, Cond.instanceMethod yX0_matchLength, Cond.selects RX0 yX0_matchLength yX0_matchLength, Cond.code yX0_matchLength cX0_matchLength 6 (some .int), Cond.methodLink RX0 41 Lib.Math.min.name, Cond.static Lib.Math.min.name, Cond.initialized "java/lang/Math", Cond.code Lib.Math.min.name Lib.Math.min.code 2 (some .int), Cond.methodLink RX0 46 yX3_imageWord, Cond.instanceMethod yX3_imageWord, Cond.selects RX3 yX3_imageWord yX3_imageWord, Cond.code yX3_imageWord cX3_imageWord 3 (some .int), Cond.methodLink RX0 49 yX1_byteAt, Cond.instanceMethod yX1_byteAt, Cond.selects RX1 yX1_byteAt yX1_byteAt, Cond.initialized RX1, Cond.code yX1_byteAt cX1_byteAt 2 (some .int), Cond.fieldLink RX1 15 "Bootstay$Draft" "bytes" "[I"]
def wsX0_pieceCount : List Cond := .code yX0_pieceCount cX0_pieceCount 4 (some .int) :: ((wsX0_pieceCount_r1 ++ wsX0_pieceCount_r2) ++ wsX00 ++ wsX10 ++ wsX30 ++ wsX20)
def wsX0_pieceStart_r1 : List Cond := [Cond.fieldLink RX0 9 "Bootstay$Delta" "draft" "LBootstay$Draft;", Cond.fieldLink RX0 19 "Bootstay$Draft" "size" "I", Cond.methodLink RX0 25 yX0_pieceLength, Cond.instanceMethod yX0_pieceLength, Cond.selects RX0 yX0_pieceLength yX0_pieceLength, Cond.initialized RX0, Cond.code yX0_pieceLength cX0_pieceLength 4 (some .int), Cond.methodLink RX0 29 yX0_runFrom, Cond.instanceMethod yX0_runFrom, Cond.selects RX0 yX0_runFrom yX0_runFrom, Cond.code yX0_runFrom cX0_runFrom 8 (some .int), Cond.fieldLink RX0 15 "Bootstay$Delta" "store" "LBootstay$Store;", Cond.methodLink RX0 38 yX3_slotWord, Cond.instanceMethod yX3_slotWord, Cond.selects RX3 yX3_slotWord yX3_slotWord, Cond.initialized RX3, Cond.code yX3_slotWord cX3_slotWord 3 (some .int), Cond.fieldLink RX3 14 "Bootstay$Store" "flash" "LBootstay$Flash;", Cond.methodLink RX3 34 yX2_read, Cond.instanceMethod yX2_read, Cond.selects RX2 yX2_read yX2_read, Cond.initialized RX2, Cond.code yX2_read cX2_read 2 (some .int), Cond.fieldLink RX2 11 "Bootstay$Flash" "words" "[I"]
def wsX0_pieceStart_r2 : List Cond := [Cond.methodLink RX0 32 yX0_matchLength, Cond.instanceMethod yX0_matchLength, Cond.selects RX0 yX0_matchLength yX0_matchLength, Cond.code yX0_matchLength cX0_matchLength 6 (some .int), Cond.methodLink RX0 41 Lib.Math.min.name, Cond.static Lib.Math.min.name, Cond.initialized "java/lang/Math", Cond.code Lib.Math.min.name Lib.Math.min.code 2 (some .int), Cond.methodLink RX0 46 yX3_imageWord, Cond.instanceMethod yX3_imageWord, Cond.selects RX3 yX3_imageWord yX3_imageWord, Cond.code yX3_imageWord cX3_imageWord 3 (some .int), Cond.methodLink RX0 49 yX1_byteAt, Cond.instanceMethod yX1_byteAt, Cond.selects RX1 yX1_byteAt yX1_byteAt, Cond.initialized RX1, Cond.code yX1_byteAt cX1_byteAt 2 (some .int), Cond.fieldLink RX1 15 "Bootstay$Draft" "bytes" "[I"]
def wsX0_pieceStart : List Cond := .code yX0_pieceStart cX0_pieceStart 5 (some .int) :: ((wsX0_pieceStart_r1 ++ wsX0_pieceStart_r2) ++ wsX00 ++ wsX10 ++ wsX30 ++ wsX20)
def wsX1_init : List Cond := .code yX1_init cX1_init 1 none :: ([.methodLink RX1 3 objectInit, .instanceMethod objectInit, .code objectInit ⟨#[0xb1]⟩ 1 none, .fieldLink RX1 9 "Bootstay$Draft" "size" "I", .arrayClass .int, .fieldLink RX1 15 "Bootstay$Draft" "bytes" "[I"] ++ wsX10)
def wsX1_isFull : List Cond := .code yX1_isFull cX1_isFull 1 (some .boolean) :: ([.fieldLink RX1 9 "Bootstay$Draft" "size" "I", .fieldLink RX1 15 "Bootstay$Draft" "bytes" "[I"] ++ wsX10)
def wsX1_append : List Cond := .code yX1_append cX1_append 2 (some .int) :: ([.fieldLink RX1 9 "Bootstay$Draft" "size" "I", .fieldLink RX1 15 "Bootstay$Draft" "bytes" "[I"] ++ wsX10)
def wsX1_clear : List Cond := .code yX1_clear cX1_clear 2 (some .int) :: ([.fieldLink RX1 9 "Bootstay$Draft" "size" "I"] ++ wsX10)
def wsX5_hashWith : List Cond := .code yX5_hashWith cX5_hashWith 2 (some .int) :: ([.constant RX5 246 (65521)])
def wsX1_hash : List Cond := .code yX1_hash cX1_hash 3 (some .int) :: ([.fieldLink RX1 9 "Bootstay$Draft" "size" "I", .methodLink RX1 19 yX1_byteAt, .instanceMethod yX1_byteAt, .selects RX1 yX1_byteAt yX1_byteAt, .initialized RX1, .code yX1_byteAt cX1_byteAt 2 (some .int), .fieldLink RX1 15 "Bootstay$Draft" "bytes" "[I", .static yX5_hashWith, .initialized RX5, .code yX5_hashWith cX5_hashWith 2 (some .int), .constant RX5 246 (65521)] ++ wsX10)
def wsX2_init : List Cond := .code yX2_init cX2_init 1 none :: ([.methodLink RX2 3 objectInit, .instanceMethod objectInit, .code objectInit ⟨#[0xb1]⟩ 1 none, .arrayClass .int, .fieldLink RX2 11 "Bootstay$Flash" "words" "[I", .fieldLink RX2 17 "Bootstay$Flash" "begun" "I", .fieldLink RX2 21 "Bootstay$Flash" "writesToFailure" "I"] ++ wsX20)
def wsX2_preset : List Cond := .code yX2_preset cX2_preset 3 none :: ([.fieldLink RX2 11 "Bootstay$Flash" "words" "[I"] ++ wsX20)
def wsX2_write : List Cond := .code yX2_write cX2_write 3 (some .boolean) :: ([.fieldLink RX2 17 "Bootstay$Flash" "begun" "I", .fieldLink RX2 21 "Bootstay$Flash" "writesToFailure" "I", .methodLink RX2 24 yX2_read, .instanceMethod yX2_read, .selects RX2 yX2_read yX2_read, .initialized RX2, .code yX2_read cX2_read 2 (some .int), .fieldLink RX2 11 "Bootstay$Flash" "words" "[I", .methodLink RX2 28 yX2_preset, .instanceMethod yX2_preset, .selects RX2 yX2_preset yX2_preset, .code yX2_preset cX2_preset 3 none] ++ wsX20)
def wsX2_chooseFailure : List Cond := .code yX2_chooseFailure cX2_chooseFailure 2 none :: ([.fieldLink RX2 21 "Bootstay$Flash" "writesToFailure" "I"] ++ wsX20)
def wsX2_begunWrites : List Cond := .code yX2_begunWrites cX2_begunWrites 1 (some .int) :: ([.fieldLink RX2 17 "Bootstay$Flash" "begun" "I"] ++ wsX20)
def wsX2_mirror : List Cond := .code yX2_mirror cX2_mirror 3 none :: ([.fieldLink RX2 11 "Bootstay$Flash" "words" "[I", .methodLink RX2 24 yX2_read, .instanceMethod yX2_read, .selects RX2 yX2_read yX2_read, .initialized RX2, .code yX2_read cX2_read 2 (some .int)] ++ wsX20)
def wsX3_imageHash : List Cond := .code yX3_imageHash cX3_imageHash 5 (some .int) :: ([.methodLink RX3 42 yX3_imageWord, .instanceMethod yX3_imageWord, .selects RX3 yX3_imageWord yX3_imageWord, .initialized RX3, .code yX3_imageWord cX3_imageWord 3 (some .int), .fieldLink RX3 14 "Bootstay$Store" "flash" "LBootstay$Flash;", .methodLink RX3 34 yX2_read, .instanceMethod yX2_read, .selects RX2 yX2_read yX2_read, .initialized RX2, .code yX2_read cX2_read 2 (some .int), .fieldLink RX2 11 "Bootstay$Flash" "words" "[I", .static yX5_hashWith, .initialized RX5, .code yX5_hashWith cX5_hashWith 2 (some .int), .constant RX5 246 (65521)] ++ wsX30 ++ wsX20)
def wsX3_checkOf : List Cond := .code yX3_checkOf cX3_checkOf 3 (some .int) :: ([])
def wsX3_init_r1 : List Cond := [Cond.methodLink RX3 5 objectInit, Cond.instanceMethod objectInit, Cond.code objectInit ⟨#[0xb1]⟩ 1 none, Cond.classLink RX3 11 RX2, Cond.instantiable RX2 3, Cond.initialized RX2, Cond.fieldLink RX3 14 "Bootstay$Store" "flash" "LBootstay$Flash;", Cond.instanceMethod yX2_init, Cond.code yX2_init cX2_init 1 none, Cond.methodLink RX2 3 objectInit, Cond.arrayClass .int, Cond.fieldLink RX2 11 "Bootstay$Flash" "words" "[I", Cond.fieldLink RX2 17 "Bootstay$Flash" "begun" "I", Cond.fieldLink RX2 21 "Bootstay$Flash" "writesToFailure" "I", Cond.methodLink RX3 18 yX2_preset, Cond.instanceMethod yX2_preset, Cond.selects RX2 yX2_preset yX2_preset, Cond.code yX2_preset cX2_preset 3 none, Cond.methodLink RX3 22 yX3_imageHash, Cond.instanceMethod yX3_imageHash, Cond.selects RX3 yX3_imageHash yX3_imageHash, Cond.initialized RX3, Cond.code yX3_imageHash cX3_imageHash 5 (some .int), Cond.methodLink RX3 42 yX3_imageWord]
def wsX3_init_r2 : List Cond := [Cond.instanceMethod yX3_imageWord, Cond.selects RX3 yX3_imageWord yX3_imageWord, Cond.code yX3_imageWord cX3_imageWord 3 (some .int), Cond.methodLink RX3 34 yX2_read, Cond.instanceMethod yX2_read, Cond.selects RX2 yX2_read yX2_read, Cond.code yX2_read cX2_read 2 (some .int), Cond.static yX5_hashWith, Cond.initialized RX5, Cond.code yX5_hashWith cX5_hashWith 2 (some .int), Cond.constant RX5 246 (65521), Cond.methodLink RX3 26 yX3_checkOf, Cond.static yX3_checkOf, Cond.code yX3_checkOf cX3_checkOf 3 (some .int)]
def wsX3_init : List Cond := .code yX3_init cX3_init 2 none :: ((wsX3_init_r1 ++ wsX3_init_r2) ++ wsX20 ++ wsX30)
def wsX3_mirror : List Cond := .code yX3_mirror cX3_mirror 2 none :: ([.fieldLink RX3 14 "Bootstay$Store" "flash" "LBootstay$Flash;", .methodLink RX3 30 yX2_mirror, .instanceMethod yX2_mirror, .selects RX2 yX2_mirror yX2_mirror, .initialized RX2, .code yX2_mirror cX2_mirror 3 none, .fieldLink RX2 11 "Bootstay$Flash" "words" "[I", .methodLink RX2 24 yX2_read, .instanceMethod yX2_read, .selects RX2 yX2_read yX2_read, .code yX2_read cX2_read 2 (some .int)] ++ wsX30 ++ wsX20)
def wsX3_writeSlotWord : List Cond := .code yX3_writeSlotWord cX3_writeSlotWord 4 (some .boolean) :: ([.fieldLink RX3 14 "Bootstay$Store" "flash" "LBootstay$Flash;", .methodLink RX3 38 yX2_write, .instanceMethod yX2_write, .selects RX2 yX2_write yX2_write, .initialized RX2, .code yX2_write cX2_write 3 (some .boolean), .fieldLink RX2 17 "Bootstay$Flash" "begun" "I", .fieldLink RX2 21 "Bootstay$Flash" "writesToFailure" "I", .methodLink RX2 24 yX2_read, .instanceMethod yX2_read, .selects RX2 yX2_read yX2_read, .code yX2_read cX2_read 2 (some .int), .fieldLink RX2 11 "Bootstay$Flash" "words" "[I", .methodLink RX2 28 yX2_preset, .instanceMethod yX2_preset, .selects RX2 yX2_preset yX2_preset, .code yX2_preset cX2_preset 3 none] ++ wsX30 ++ wsX20)
def wsX3_writeImageWord : List Cond := .code yX3_writeImageWord cX3_writeImageWord 4 (some .boolean) :: ([.fieldLink RX3 14 "Bootstay$Store" "flash" "LBootstay$Flash;", .methodLink RX3 38 yX2_write, .instanceMethod yX2_write, .selects RX2 yX2_write yX2_write, .initialized RX2, .code yX2_write cX2_write 3 (some .boolean), .fieldLink RX2 17 "Bootstay$Flash" "begun" "I", .fieldLink RX2 21 "Bootstay$Flash" "writesToFailure" "I", .methodLink RX2 24 yX2_read, .instanceMethod yX2_read, .selects RX2 yX2_read yX2_read, .code yX2_read cX2_read 2 (some .int), .fieldLink RX2 11 "Bootstay$Flash" "words" "[I", .methodLink RX2 28 yX2_preset, .instanceMethod yX2_preset, .selects RX2 yX2_preset yX2_preset, .code yX2_preset cX2_preset 3 none] ++ wsX30 ++ wsX20)
def wsX3_canStart : List Cond := .code yX3_canStart cX3_canStart 3 (some .boolean) :: ([.methodLink RX3 48 yX3_slotWord, .instanceMethod yX3_slotWord, .selects RX3 yX3_slotWord yX3_slotWord, .initialized RX3, .code yX3_slotWord cX3_slotWord 3 (some .int), .fieldLink RX3 14 "Bootstay$Store" "flash" "LBootstay$Flash;", .methodLink RX3 34 yX2_read, .instanceMethod yX2_read, .selects RX2 yX2_read yX2_read, .initialized RX2, .code yX2_read cX2_read 2 (some .int), .fieldLink RX2 11 "Bootstay$Flash" "words" "[I", .methodLink RX3 22 yX3_imageHash, .instanceMethod yX3_imageHash, .selects RX3 yX3_imageHash yX3_imageHash, .code yX3_imageHash cX3_imageHash 5 (some .int), .methodLink RX3 42 yX3_imageWord, .instanceMethod yX3_imageWord, .selects RX3 yX3_imageWord yX3_imageWord, .code yX3_imageWord cX3_imageWord 3 (some .int), .static yX5_hashWith, .initialized RX5, .code yX5_hashWith cX5_hashWith 2 (some .int), .constant RX5 246 (65521)] ++ wsX30 ++ wsX20)
def wsX3_recordWord : List Cond := .code yX3_recordWord cX3_recordWord 3 (some .int) :: ([.fieldLink RX3 14 "Bootstay$Store" "flash" "LBootstay$Flash;", .methodLink RX3 34 yX2_read, .instanceMethod yX2_read, .selects RX2 yX2_read yX2_read, .initialized RX2, .code yX2_read cX2_read 2 (some .int), .fieldLink RX2 11 "Bootstay$Flash" "words" "[I"] ++ wsX30 ++ wsX20)
def wsX3_writeRecordWord : List Cond := .code yX3_writeRecordWord cX3_writeRecordWord 4 (some .boolean) :: ([.fieldLink RX3 14 "Bootstay$Store" "flash" "LBootstay$Flash;", .methodLink RX3 38 yX2_write, .instanceMethod yX2_write, .selects RX2 yX2_write yX2_write, .initialized RX2, .code yX2_write cX2_write 3 (some .boolean), .fieldLink RX2 17 "Bootstay$Flash" "begun" "I", .fieldLink RX2 21 "Bootstay$Flash" "writesToFailure" "I", .methodLink RX2 24 yX2_read, .instanceMethod yX2_read, .selects RX2 yX2_read yX2_read, .code yX2_read cX2_read 2 (some .int), .fieldLink RX2 11 "Bootstay$Flash" "words" "[I", .methodLink RX2 28 yX2_preset, .instanceMethod yX2_preset, .selects RX2 yX2_preset yX2_preset, .code yX2_preset cX2_preset 3 none] ++ wsX30 ++ wsX20)
def wsX3_isRecordValid : List Cond := .code yX3_isRecordValid cX3_isRecordValid 2 (some .boolean) :: ([.methodLink RX3 51 yX3_recordWord, .instanceMethod yX3_recordWord, .selects RX3 yX3_recordWord yX3_recordWord, .initialized RX3, .code yX3_recordWord cX3_recordWord 3 (some .int), .fieldLink RX3 14 "Bootstay$Store" "flash" "LBootstay$Flash;", .methodLink RX3 34 yX2_read, .instanceMethod yX2_read, .selects RX2 yX2_read yX2_read, .initialized RX2, .code yX2_read cX2_read 2 (some .int), .fieldLink RX2 11 "Bootstay$Flash" "words" "[I", .methodLink RX3 26 yX3_checkOf, .static yX3_checkOf, .code yX3_checkOf cX3_checkOf 3 (some .int)] ++ wsX30 ++ wsX20)
def wsX3_recordInForce : List Cond := .code yX3_recordInForce cX3_recordInForce 1 (some .int) :: ([.methodLink RX3 54 yX3_isRecordValid, .instanceMethod yX3_isRecordValid, .selects RX3 yX3_isRecordValid yX3_isRecordValid, .initialized RX3, .code yX3_isRecordValid cX3_isRecordValid 2 (some .boolean), .methodLink RX3 51 yX3_recordWord, .instanceMethod yX3_recordWord, .selects RX3 yX3_recordWord yX3_recordWord, .code yX3_recordWord cX3_recordWord 3 (some .int), .fieldLink RX3 14 "Bootstay$Store" "flash" "LBootstay$Flash;", .methodLink RX3 34 yX2_read, .instanceMethod yX2_read, .selects RX2 yX2_read yX2_read, .initialized RX2, .code yX2_read cX2_read 2 (some .int), .fieldLink RX2 11 "Bootstay$Flash" "words" "[I", .methodLink RX3 26 yX3_checkOf, .static yX3_checkOf, .code yX3_checkOf cX3_checkOf 3 (some .int)] ++ wsX30 ++ wsX20)
def wsX3_recordCounter : List Cond := .code yX3_recordCounter cX3_recordCounter 1 (some .int) :: ([.methodLink RX3 58 yX3_recordInForce, .instanceMethod yX3_recordInForce, .selects RX3 yX3_recordInForce yX3_recordInForce, .initialized RX3, .code yX3_recordInForce cX3_recordInForce 1 (some .int), .methodLink RX3 54 yX3_isRecordValid, .instanceMethod yX3_isRecordValid, .selects RX3 yX3_isRecordValid yX3_isRecordValid, .code yX3_isRecordValid cX3_isRecordValid 2 (some .boolean), .methodLink RX3 51 yX3_recordWord, .instanceMethod yX3_recordWord, .selects RX3 yX3_recordWord yX3_recordWord, .code yX3_recordWord cX3_recordWord 3 (some .int), .fieldLink RX3 14 "Bootstay$Store" "flash" "LBootstay$Flash;", .methodLink RX3 34 yX2_read, .instanceMethod yX2_read, .selects RX2 yX2_read yX2_read, .initialized RX2, .code yX2_read cX2_read 2 (some .int), .fieldLink RX2 11 "Bootstay$Flash" "words" "[I", .methodLink RX3 26 yX3_checkOf, .static yX3_checkOf, .code yX3_checkOf cX3_checkOf 3 (some .int)] ++ wsX30 ++ wsX20)
def wsX3_confirmedIn : List Cond := .code yX3_confirmedIn cX3_confirmedIn 1 (some .int) :: ([])
def wsX3_confirmedSlot_r1 : List Cond := [Cond.methodLink RX3 58 yX3_recordInForce, Cond.instanceMethod yX3_recordInForce, Cond.selects RX3 yX3_recordInForce yX3_recordInForce, Cond.initialized RX3, Cond.code yX3_recordInForce cX3_recordInForce 1 (some .int), Cond.methodLink RX3 54 yX3_isRecordValid, Cond.instanceMethod yX3_isRecordValid, Cond.selects RX3 yX3_isRecordValid yX3_isRecordValid, Cond.code yX3_isRecordValid cX3_isRecordValid 2 (some .boolean), Cond.methodLink RX3 51 yX3_recordWord, Cond.instanceMethod yX3_recordWord, Cond.selects RX3 yX3_recordWord yX3_recordWord, Cond.code yX3_recordWord cX3_recordWord 3 (some .int), Cond.fieldLink RX3 14 "Bootstay$Store" "flash" "LBootstay$Flash;", Cond.methodLink RX3 34 yX2_read, Cond.instanceMethod yX2_read, Cond.selects RX2 yX2_read yX2_read, Cond.initialized RX2, Cond.code yX2_read cX2_read 2 (some .int), Cond.fieldLink RX2 11 "Bootstay$Flash" "words" "[I", Cond.methodLink RX3 26 yX3_checkOf, Cond.static yX3_checkOf, Cond.code yX3_checkOf cX3_checkOf 3 (some .int), Cond.methodLink RX3 62 yX3_confirmedIn]
def wsX3_confirmedSlot_r2 : List Cond := [Cond.static yX3_confirmedIn, Cond.code yX3_confirmedIn cX3_confirmedIn 1 (some .int)]
def wsX3_confirmedSlot : List Cond := .code yX3_confirmedSlot cX3_confirmedSlot 1 (some .int) :: ((wsX3_confirmedSlot_r1 ++ wsX3_confirmedSlot_r2) ++ wsX30 ++ wsX20)
def wsX3_isTrialIn : List Cond := .code yX3_isTrialIn cX3_isTrialIn 1 (some .boolean) :: ([])
def wsX3_isTrialDue_r1 : List Cond := [Cond.methodLink RX3 58 yX3_recordInForce, Cond.instanceMethod yX3_recordInForce, Cond.selects RX3 yX3_recordInForce yX3_recordInForce, Cond.initialized RX3, Cond.code yX3_recordInForce cX3_recordInForce 1 (some .int), Cond.methodLink RX3 54 yX3_isRecordValid, Cond.instanceMethod yX3_isRecordValid, Cond.selects RX3 yX3_isRecordValid yX3_isRecordValid, Cond.code yX3_isRecordValid cX3_isRecordValid 2 (some .boolean), Cond.methodLink RX3 51 yX3_recordWord, Cond.instanceMethod yX3_recordWord, Cond.selects RX3 yX3_recordWord yX3_recordWord, Cond.code yX3_recordWord cX3_recordWord 3 (some .int), Cond.fieldLink RX3 14 "Bootstay$Store" "flash" "LBootstay$Flash;", Cond.methodLink RX3 34 yX2_read, Cond.instanceMethod yX2_read, Cond.selects RX2 yX2_read yX2_read, Cond.initialized RX2, Cond.code yX2_read cX2_read 2 (some .int), Cond.fieldLink RX2 11 "Bootstay$Flash" "words" "[I", Cond.methodLink RX3 26 yX3_checkOf, Cond.static yX3_checkOf, Cond.code yX3_checkOf cX3_checkOf 3 (some .int), Cond.methodLink RX3 65 yX3_isTrialIn]
def wsX3_isTrialDue_r2 : List Cond := [Cond.static yX3_isTrialIn, Cond.code yX3_isTrialIn cX3_isTrialIn 1 (some .boolean)]
def wsX3_isTrialDue : List Cond := .code yX3_isTrialDue cX3_isTrialDue 1 (some .boolean) :: ((wsX3_isTrialDue_r1 ++ wsX3_isTrialDue_r2) ++ wsX30 ++ wsX20)
def wsX3_triesIn : List Cond := .code yX3_triesIn cX3_triesIn 1 (some .int) :: ([.methodLink RX3 65 yX3_isTrialIn, .static yX3_isTrialIn, .initialized RX3, .code yX3_isTrialIn cX3_isTrialIn 1 (some .boolean)])
def wsX3_triesLeft_r1 : List Cond := [Cond.methodLink RX3 58 yX3_recordInForce, Cond.instanceMethod yX3_recordInForce, Cond.selects RX3 yX3_recordInForce yX3_recordInForce, Cond.initialized RX3, Cond.code yX3_recordInForce cX3_recordInForce 1 (some .int), Cond.methodLink RX3 54 yX3_isRecordValid, Cond.instanceMethod yX3_isRecordValid, Cond.selects RX3 yX3_isRecordValid yX3_isRecordValid, Cond.code yX3_isRecordValid cX3_isRecordValid 2 (some .boolean), Cond.methodLink RX3 51 yX3_recordWord, Cond.instanceMethod yX3_recordWord, Cond.selects RX3 yX3_recordWord yX3_recordWord, Cond.code yX3_recordWord cX3_recordWord 3 (some .int), Cond.fieldLink RX3 14 "Bootstay$Store" "flash" "LBootstay$Flash;", Cond.methodLink RX3 34 yX2_read, Cond.instanceMethod yX2_read, Cond.selects RX2 yX2_read yX2_read, Cond.initialized RX2, Cond.code yX2_read cX2_read 2 (some .int), Cond.fieldLink RX2 11 "Bootstay$Flash" "words" "[I", Cond.methodLink RX3 26 yX3_checkOf, Cond.static yX3_checkOf, Cond.code yX3_checkOf cX3_checkOf 3 (some .int), Cond.methodLink RX3 68 yX3_triesIn]
def wsX3_triesLeft_r2 : List Cond := [Cond.static yX3_triesIn, Cond.code yX3_triesIn cX3_triesIn 1 (some .int), Cond.methodLink RX3 65 yX3_isTrialIn, Cond.static yX3_isTrialIn, Cond.code yX3_isTrialIn cX3_isTrialIn 1 (some .boolean)]
def wsX3_triesLeft : List Cond := .code yX3_triesLeft cX3_triesLeft 1 (some .int) :: ((wsX3_triesLeft_r1 ++ wsX3_triesLeft_r2) ++ wsX30 ++ wsX20)
def wsX3_settledState : List Cond := .code yX3_settledState cX3_settledState 1 (some .int) :: ([])
def wsX3_trialState : List Cond := .code yX3_trialState cX3_trialState 2 (some .int) :: ([])
def wsX3_writeRecord_r1 : List Cond := [Cond.methodLink RX3 58 yX3_recordInForce, Cond.instanceMethod yX3_recordInForce, Cond.selects RX3 yX3_recordInForce yX3_recordInForce, Cond.initialized RX3, Cond.code yX3_recordInForce cX3_recordInForce 1 (some .int), Cond.methodLink RX3 54 yX3_isRecordValid, Cond.instanceMethod yX3_isRecordValid, Cond.selects RX3 yX3_isRecordValid yX3_isRecordValid, Cond.code yX3_isRecordValid cX3_isRecordValid 2 (some .boolean), Cond.methodLink RX3 51 yX3_recordWord, Cond.instanceMethod yX3_recordWord, Cond.selects RX3 yX3_recordWord yX3_recordWord, Cond.code yX3_recordWord cX3_recordWord 3 (some .int), Cond.fieldLink RX3 14 "Bootstay$Store" "flash" "LBootstay$Flash;", Cond.methodLink RX3 34 yX2_read, Cond.instanceMethod yX2_read, Cond.selects RX2 yX2_read yX2_read, Cond.initialized RX2, Cond.code yX2_read cX2_read 2 (some .int), Cond.fieldLink RX2 11 "Bootstay$Flash" "words" "[I", Cond.methodLink RX3 26 yX3_checkOf, Cond.static yX3_checkOf, Cond.code yX3_checkOf cX3_checkOf 3 (some .int), Cond.methodLink RX3 71 yX3_writeRecordWord]
def wsX3_writeRecord_r2 : List Cond := [Cond.instanceMethod yX3_writeRecordWord, Cond.selects RX3 yX3_writeRecordWord yX3_writeRecordWord, Cond.code yX3_writeRecordWord cX3_writeRecordWord 4 (some .boolean), Cond.methodLink RX3 38 yX2_write, Cond.instanceMethod yX2_write, Cond.selects RX2 yX2_write yX2_write, Cond.code yX2_write cX2_write 3 (some .boolean), Cond.fieldLink RX2 17 "Bootstay$Flash" "begun" "I", Cond.fieldLink RX2 21 "Bootstay$Flash" "writesToFailure" "I", Cond.methodLink RX2 24 yX2_read, Cond.methodLink RX2 28 yX2_preset, Cond.instanceMethod yX2_preset, Cond.selects RX2 yX2_preset yX2_preset, Cond.code yX2_preset cX2_preset 3 none]
def wsX3_writeRecord : List Cond := .code yX3_writeRecord cX3_writeRecord 6 (some .boolean) :: ((wsX3_writeRecord_r1 ++ wsX3_writeRecord_r2) ++ wsX30 ++ wsX20)
def wsX3_slotToStart_r1 : List Cond := [Cond.methodLink RX3 58 yX3_recordInForce, Cond.instanceMethod yX3_recordInForce, Cond.selects RX3 yX3_recordInForce yX3_recordInForce, Cond.initialized RX3, Cond.code yX3_recordInForce cX3_recordInForce 1 (some .int), Cond.methodLink RX3 54 yX3_isRecordValid, Cond.instanceMethod yX3_isRecordValid, Cond.selects RX3 yX3_isRecordValid yX3_isRecordValid, Cond.code yX3_isRecordValid cX3_isRecordValid 2 (some .boolean), Cond.methodLink RX3 51 yX3_recordWord, Cond.instanceMethod yX3_recordWord, Cond.selects RX3 yX3_recordWord yX3_recordWord, Cond.code yX3_recordWord cX3_recordWord 3 (some .int), Cond.fieldLink RX3 14 "Bootstay$Store" "flash" "LBootstay$Flash;", Cond.methodLink RX3 34 yX2_read, Cond.instanceMethod yX2_read, Cond.selects RX2 yX2_read yX2_read, Cond.initialized RX2, Cond.code yX2_read cX2_read 2 (some .int), Cond.fieldLink RX2 11 "Bootstay$Flash" "words" "[I", Cond.methodLink RX3 26 yX3_checkOf, Cond.static yX3_checkOf, Cond.code yX3_checkOf cX3_checkOf 3 (some .int), Cond.methodLink RX3 62 yX3_confirmedIn]
def wsX3_slotToStart_r2 : List Cond := [Cond.static yX3_confirmedIn, Cond.code yX3_confirmedIn cX3_confirmedIn 1 (some .int), Cond.methodLink RX3 68 yX3_triesIn, Cond.static yX3_triesIn, Cond.code yX3_triesIn cX3_triesIn 1 (some .int), Cond.methodLink RX3 65 yX3_isTrialIn, Cond.static yX3_isTrialIn, Cond.code yX3_isTrialIn cX3_isTrialIn 1 (some .boolean), Cond.methodLink RX3 75 yX3_canStart, Cond.instanceMethod yX3_canStart, Cond.selects RX3 yX3_canStart yX3_canStart, Cond.code yX3_canStart cX3_canStart 3 (some .boolean), Cond.methodLink RX3 48 yX3_slotWord, Cond.instanceMethod yX3_slotWord, Cond.selects RX3 yX3_slotWord yX3_slotWord, Cond.code yX3_slotWord cX3_slotWord 3 (some .int), Cond.methodLink RX3 22 yX3_imageHash, Cond.instanceMethod yX3_imageHash, Cond.selects RX3 yX3_imageHash yX3_imageHash, Cond.code yX3_imageHash cX3_imageHash 5 (some .int), Cond.methodLink RX3 42 yX3_imageWord, Cond.instanceMethod yX3_imageWord, Cond.selects RX3 yX3_imageWord yX3_imageWord, Cond.code yX3_imageWord cX3_imageWord 3 (some .int)]
def wsX3_slotToStart_r3 : List Cond := [Cond.static yX5_hashWith, Cond.initialized RX5, Cond.code yX5_hashWith cX5_hashWith 2 (some .int), Cond.constant RX5 246 (65521)]
def wsX3_slotToStart : List Cond := .code yX3_slotToStart cX3_slotToStart 6 (some .int) :: ((wsX3_slotToStart_r1 ++ (wsX3_slotToStart_r2 ++ wsX3_slotToStart_r3)) ++ wsX30 ++ wsX20)
def wsX3_start_r1 : List Cond := [Cond.methodLink RX3 78 yX3_slotToStart, Cond.instanceMethod yX3_slotToStart, Cond.selects RX3 yX3_slotToStart yX3_slotToStart, Cond.initialized RX3, Cond.code yX3_slotToStart cX3_slotToStart 6 (some .int), Cond.methodLink RX3 58 yX3_recordInForce, Cond.instanceMethod yX3_recordInForce, Cond.selects RX3 yX3_recordInForce yX3_recordInForce, Cond.code yX3_recordInForce cX3_recordInForce 1 (some .int), Cond.methodLink RX3 54 yX3_isRecordValid, Cond.instanceMethod yX3_isRecordValid, Cond.selects RX3 yX3_isRecordValid yX3_isRecordValid, Cond.code yX3_isRecordValid cX3_isRecordValid 2 (some .boolean), Cond.methodLink RX3 51 yX3_recordWord, Cond.instanceMethod yX3_recordWord, Cond.selects RX3 yX3_recordWord yX3_recordWord, Cond.code yX3_recordWord cX3_recordWord 3 (some .int), Cond.fieldLink RX3 14 "Bootstay$Store" "flash" "LBootstay$Flash;", Cond.methodLink RX3 34 yX2_read, Cond.instanceMethod yX2_read, Cond.selects RX2 yX2_read yX2_read, Cond.initialized RX2, Cond.code yX2_read cX2_read 2 (some .int), Cond.fieldLink RX2 11 "Bootstay$Flash" "words" "[I"]
def wsX3_start_r2 : List Cond := [Cond.methodLink RX3 26 yX3_checkOf, Cond.static yX3_checkOf, Cond.code yX3_checkOf cX3_checkOf 3 (some .int), Cond.methodLink RX3 62 yX3_confirmedIn, Cond.static yX3_confirmedIn, Cond.code yX3_confirmedIn cX3_confirmedIn 1 (some .int), Cond.methodLink RX3 68 yX3_triesIn, Cond.static yX3_triesIn, Cond.code yX3_triesIn cX3_triesIn 1 (some .int), Cond.methodLink RX3 65 yX3_isTrialIn, Cond.static yX3_isTrialIn, Cond.code yX3_isTrialIn cX3_isTrialIn 1 (some .boolean), Cond.methodLink RX3 75 yX3_canStart, Cond.instanceMethod yX3_canStart, Cond.selects RX3 yX3_canStart yX3_canStart, Cond.code yX3_canStart cX3_canStart 3 (some .boolean), Cond.methodLink RX3 48 yX3_slotWord, Cond.instanceMethod yX3_slotWord, Cond.selects RX3 yX3_slotWord yX3_slotWord, Cond.code yX3_slotWord cX3_slotWord 3 (some .int), Cond.methodLink RX3 22 yX3_imageHash, Cond.instanceMethod yX3_imageHash, Cond.selects RX3 yX3_imageHash yX3_imageHash, Cond.code yX3_imageHash cX3_imageHash 5 (some .int)]
def wsX3_start_r3 : List Cond := [Cond.methodLink RX3 42 yX3_imageWord, Cond.instanceMethod yX3_imageWord, Cond.selects RX3 yX3_imageWord yX3_imageWord, Cond.code yX3_imageWord cX3_imageWord 3 (some .int), Cond.static yX5_hashWith, Cond.initialized RX5, Cond.code yX5_hashWith cX5_hashWith 2 (some .int), Cond.constant RX5 246 (65521), Cond.methodLink RX3 81 yX3_isTrialDue, Cond.instanceMethod yX3_isTrialDue, Cond.selects RX3 yX3_isTrialDue yX3_isTrialDue, Cond.code yX3_isTrialDue cX3_isTrialDue 1 (some .boolean), Cond.methodLink RX3 85 yX3_confirmedSlot, Cond.instanceMethod yX3_confirmedSlot, Cond.selects RX3 yX3_confirmedSlot yX3_confirmedSlot, Cond.code yX3_confirmedSlot cX3_confirmedSlot 1 (some .int), Cond.methodLink RX3 88 yX3_settledState, Cond.static yX3_settledState, Cond.code yX3_settledState cX3_settledState 1 (some .int), Cond.methodLink RX3 91 yX3_triesLeft, Cond.instanceMethod yX3_triesLeft, Cond.selects RX3 yX3_triesLeft yX3_triesLeft, Cond.code yX3_triesLeft cX3_triesLeft 1 (some .int), Cond.methodLink RX3 94 yX3_trialState]
def wsX3_start_r4 : List Cond := [Cond.static yX3_trialState, Cond.code yX3_trialState cX3_trialState 2 (some .int), Cond.methodLink RX3 97 yX3_recordCounter, Cond.instanceMethod yX3_recordCounter, Cond.selects RX3 yX3_recordCounter yX3_recordCounter, Cond.code yX3_recordCounter cX3_recordCounter 1 (some .int), Cond.methodLink RX3 100 yX3_writeRecord, Cond.instanceMethod yX3_writeRecord, Cond.selects RX3 yX3_writeRecord yX3_writeRecord, Cond.code yX3_writeRecord cX3_writeRecord 6 (some .boolean), Cond.methodLink RX3 71 yX3_writeRecordWord, Cond.instanceMethod yX3_writeRecordWord, Cond.selects RX3 yX3_writeRecordWord yX3_writeRecordWord, Cond.code yX3_writeRecordWord cX3_writeRecordWord 4 (some .boolean), Cond.methodLink RX3 38 yX2_write, Cond.instanceMethod yX2_write, Cond.selects RX2 yX2_write yX2_write, Cond.code yX2_write cX2_write 3 (some .boolean), Cond.fieldLink RX2 17 "Bootstay$Flash" "begun" "I", Cond.fieldLink RX2 21 "Bootstay$Flash" "writesToFailure" "I", Cond.methodLink RX2 24 yX2_read, Cond.methodLink RX2 28 yX2_preset, Cond.instanceMethod yX2_preset, Cond.selects RX2 yX2_preset yX2_preset]
def wsX3_start_r5 : List Cond := [Cond.code yX2_preset cX2_preset 3 none]
def wsX3_start : List Cond := .code yX3_start cX3_start 4 (some .int) :: ((wsX3_start_r1 ++ (wsX3_start_r2 ++ (wsX3_start_r3 ++ (wsX3_start_r4 ++ wsX3_start_r5)))) ++ wsX30 ++ wsX20)
def wsX3_writeUpdate_r1 : List Cond := [Cond.fieldLink RX3 103 "Bootstay$Transfer" "version" "I", Cond.fieldLink RX3 112 "Bootstay$Transfer" "length" "I", Cond.fieldLink RX3 115 "Bootstay$Transfer" "hash" "I", Cond.fieldLink RX3 118 "Bootstay$Transfer" "counter" "I", Cond.methodLink RX3 109 yX3_writeSlotWord, Cond.instanceMethod yX3_writeSlotWord, Cond.selects RX3 yX3_writeSlotWord yX3_writeSlotWord, Cond.initialized RX3, Cond.code yX3_writeSlotWord cX3_writeSlotWord 4 (some .boolean), Cond.fieldLink RX3 14 "Bootstay$Store" "flash" "LBootstay$Flash;", Cond.methodLink RX3 38 yX2_write, Cond.instanceMethod yX2_write, Cond.selects RX2 yX2_write yX2_write, Cond.initialized RX2, Cond.code yX2_write cX2_write 3 (some .boolean), Cond.fieldLink RX2 17 "Bootstay$Flash" "begun" "I", Cond.fieldLink RX2 21 "Bootstay$Flash" "writesToFailure" "I", Cond.methodLink RX2 24 yX2_read, Cond.instanceMethod yX2_read, Cond.selects RX2 yX2_read yX2_read, Cond.code yX2_read cX2_read 2 (some .int), Cond.fieldLink RX2 11 "Bootstay$Flash" "words" "[I", Cond.methodLink RX2 28 yX2_preset, Cond.instanceMethod yX2_preset]
def wsX3_writeUpdate_r2 : List Cond := [Cond.selects RX2 yX2_preset yX2_preset, Cond.code yX2_preset cX2_preset 3 none, Cond.methodLink RX3 85 yX3_confirmedSlot, Cond.instanceMethod yX3_confirmedSlot, Cond.selects RX3 yX3_confirmedSlot yX3_confirmedSlot, Cond.code yX3_confirmedSlot cX3_confirmedSlot 1 (some .int), Cond.methodLink RX3 58 yX3_recordInForce, Cond.instanceMethod yX3_recordInForce, Cond.selects RX3 yX3_recordInForce yX3_recordInForce, Cond.code yX3_recordInForce cX3_recordInForce 1 (some .int), Cond.methodLink RX3 54 yX3_isRecordValid, Cond.instanceMethod yX3_isRecordValid, Cond.selects RX3 yX3_isRecordValid yX3_isRecordValid, Cond.code yX3_isRecordValid cX3_isRecordValid 2 (some .boolean), Cond.methodLink RX3 51 yX3_recordWord, Cond.instanceMethod yX3_recordWord, Cond.selects RX3 yX3_recordWord yX3_recordWord, Cond.code yX3_recordWord cX3_recordWord 3 (some .int), Cond.methodLink RX3 34 yX2_read, Cond.methodLink RX3 26 yX3_checkOf, Cond.static yX3_checkOf, Cond.code yX3_checkOf cX3_checkOf 3 (some .int), Cond.methodLink RX3 62 yX3_confirmedIn, Cond.static yX3_confirmedIn]
def wsX3_writeUpdate_r3 : List Cond := [Cond.code yX3_confirmedIn cX3_confirmedIn 1 (some .int), Cond.methodLink RX3 94 yX3_trialState, Cond.static yX3_trialState, Cond.code yX3_trialState cX3_trialState 2 (some .int), Cond.methodLink RX3 97 yX3_recordCounter, Cond.instanceMethod yX3_recordCounter, Cond.selects RX3 yX3_recordCounter yX3_recordCounter, Cond.code yX3_recordCounter cX3_recordCounter 1 (some .int), Cond.methodLink RX3 100 yX3_writeRecord, Cond.instanceMethod yX3_writeRecord, Cond.selects RX3 yX3_writeRecord yX3_writeRecord, Cond.code yX3_writeRecord cX3_writeRecord 6 (some .boolean), Cond.methodLink RX3 71 yX3_writeRecordWord, Cond.instanceMethod yX3_writeRecordWord, Cond.selects RX3 yX3_writeRecordWord yX3_writeRecordWord, Cond.code yX3_writeRecordWord cX3_writeRecordWord 4 (some .boolean)]
def wsX3_writeUpdate : List Cond := .code yX3_writeUpdate cX3_writeUpdate 4 (some .boolean) :: ((wsX3_writeUpdate_r1 ++ (wsX3_writeUpdate_r2 ++ wsX3_writeUpdate_r3)) ++ wsX40 ++ wsX30 ++ wsX20)
def wsX4_init : List Cond := .code yX4_init cX4_init 1 none :: ([.methodLink RX4 3 objectInit, .instanceMethod objectInit, .code objectInit ⟨#[0xb1]⟩ 1 none, .fieldLink RX4 9 "Bootstay$Transfer" "version" "I", .fieldLink RX4 15 "Bootstay$Transfer" "length" "I", .fieldLink RX4 18 "Bootstay$Transfer" "hash" "I", .fieldLink RX4 21 "Bootstay$Transfer" "counter" "I", .fieldLink RX4 24 "Bootstay$Transfer" "come" "I", .fieldLink RX4 27 "Bootstay$Transfer" "isGoingOn" "Z"] ++ wsX40)
def wsX4_begin : List Cond := .code yX4_begin cX4_begin 5 none :: ([.fieldLink RX4 9 "Bootstay$Transfer" "version" "I", .fieldLink RX4 15 "Bootstay$Transfer" "length" "I", .fieldLink RX4 18 "Bootstay$Transfer" "hash" "I", .fieldLink RX4 21 "Bootstay$Transfer" "counter" "I", .fieldLink RX4 24 "Bootstay$Transfer" "come" "I", .fieldLink RX4 27 "Bootstay$Transfer" "isGoingOn" "Z"] ++ wsX40)
def wsX4_end : List Cond := .code yX4_end cX4_end 1 none :: ([.fieldLink RX4 27 "Bootstay$Transfer" "isGoingOn" "Z"] ++ wsX40)
def wsX4_bytesToCome : List Cond := .code yX4_bytesToCome cX4_bytesToCome 1 (some .int) :: ([.fieldLink RX4 27 "Bootstay$Transfer" "isGoingOn" "Z", .fieldLink RX4 15 "Bootstay$Transfer" "length" "I", .fieldLink RX4 24 "Bootstay$Transfer" "come" "I"] ++ wsX40)
def wsX4_nextPlace : List Cond := .code yX4_nextPlace cX4_nextPlace 2 (some .int) :: ([.fieldLink RX4 24 "Bootstay$Transfer" "come" "I"] ++ wsX40)
def wsX5_init_r1 : List Cond := [Cond.methodLink RX5 1 objectInit, Cond.instanceMethod objectInit, Cond.code objectInit ⟨#[0xb1]⟩ 1 none, Cond.classLink RX5 7 RX3, Cond.instantiable RX3 1, Cond.initialized RX3, Cond.fieldLink RX5 10 "Bootstay" "store" "LBootstay$Store;", Cond.fieldLink RX5 16 "Bootstay" "rehearsal" "LBootstay$Store;", Cond.classLink RX5 19 RX4, Cond.instantiable RX4 6, Cond.initialized RX4, Cond.fieldLink RX5 22 "Bootstay" "transfer" "LBootstay$Transfer;", Cond.classLink RX5 26 RX1, Cond.instantiable RX1 2, Cond.initialized RX1, Cond.fieldLink RX5 29 "Bootstay" "draftImage" "LBootstay$Draft;", Cond.classLink RX5 33 RX0, Cond.instantiable RX0 2, Cond.initialized RX0, Cond.fieldLink RX5 38 "Bootstay" "delta" "LBootstay$Delta;", Cond.fieldLink RX5 42 "Bootstay" "runningSlot" "I", Cond.methodLink RX5 9 yX3_init, Cond.instanceMethod yX3_init, Cond.code yX3_init cX3_init 2 none]
def wsX5_init_r2 : List Cond := [Cond.methodLink RX3 5 objectInit, Cond.classLink RX3 11 RX2, Cond.instantiable RX2 3, Cond.initialized RX2, Cond.fieldLink RX3 14 "Bootstay$Store" "flash" "LBootstay$Flash;", Cond.instanceMethod yX2_init, Cond.code yX2_init cX2_init 1 none, Cond.methodLink RX2 3 objectInit, Cond.arrayClass .int, Cond.fieldLink RX2 11 "Bootstay$Flash" "words" "[I", Cond.fieldLink RX2 17 "Bootstay$Flash" "begun" "I", Cond.fieldLink RX2 21 "Bootstay$Flash" "writesToFailure" "I", Cond.methodLink RX3 18 yX2_preset, Cond.instanceMethod yX2_preset, Cond.selects RX2 yX2_preset yX2_preset, Cond.code yX2_preset cX2_preset 3 none, Cond.methodLink RX3 22 yX3_imageHash, Cond.instanceMethod yX3_imageHash, Cond.selects RX3 yX3_imageHash yX3_imageHash, Cond.code yX3_imageHash cX3_imageHash 5 (some .int), Cond.methodLink RX3 42 yX3_imageWord, Cond.instanceMethod yX3_imageWord, Cond.selects RX3 yX3_imageWord yX3_imageWord, Cond.code yX3_imageWord cX3_imageWord 3 (some .int)]
def wsX5_init_r3 : List Cond := [Cond.methodLink RX3 34 yX2_read, Cond.instanceMethod yX2_read, Cond.selects RX2 yX2_read yX2_read, Cond.code yX2_read cX2_read 2 (some .int), Cond.static yX5_hashWith, Cond.initialized RX5, Cond.code yX5_hashWith cX5_hashWith 2 (some .int), Cond.constant RX5 246 (65521), Cond.methodLink RX3 26 yX3_checkOf, Cond.static yX3_checkOf, Cond.code yX3_checkOf cX3_checkOf 3 (some .int), Cond.instanceMethod yX4_init, Cond.code yX4_init cX4_init 1 none, Cond.methodLink RX4 3 objectInit, Cond.fieldLink RX4 9 "Bootstay$Transfer" "version" "I", Cond.fieldLink RX4 15 "Bootstay$Transfer" "length" "I", Cond.fieldLink RX4 18 "Bootstay$Transfer" "hash" "I", Cond.fieldLink RX4 21 "Bootstay$Transfer" "counter" "I", Cond.fieldLink RX4 24 "Bootstay$Transfer" "come" "I", Cond.fieldLink RX4 27 "Bootstay$Transfer" "isGoingOn" "Z", Cond.instanceMethod yX1_init, Cond.code yX1_init cX1_init 1 none, Cond.methodLink RX1 3 objectInit, Cond.fieldLink RX1 9 "Bootstay$Draft" "size" "I"]
def wsX5_init_r4 : List Cond := [Cond.fieldLink RX1 15 "Bootstay$Draft" "bytes" "[I", Cond.methodLink RX5 35 yX0_init, Cond.instanceMethod yX0_init, Cond.code yX0_init cX0_init 3 none, Cond.methodLink RX0 3 objectInit, Cond.fieldLink RX0 9 "Bootstay$Delta" "draft" "LBootstay$Draft;", Cond.fieldLink RX0 15 "Bootstay$Delta" "store" "LBootstay$Store;"]
def wsX5_init : List Cond := .code yX5_init cX5_init 1 none :: ((wsX5_init_r1 ++ (wsX5_init_r2 ++ (wsX5_init_r3 ++ wsX5_init_r4))) ++ wsX30 ++ wsX50 ++ wsX40 ++ wsX10 ++ wsX00 ++ wsX20)
def wsX5_isOn : List Cond := .code yX5_isOn cX5_isOn 1 (some .boolean) :: ([.fieldLink RX5 42 "Bootstay" "runningSlot" "I"] ++ wsX50)
def wsX5_switchOn_r1 : List Cond := [Cond.classLink RX5 50 "java/lang/IllegalStateException", Cond.initialized "java/lang/IllegalStateException", Cond.fieldLink RX5 10 "Bootstay" "store" "LBootstay$Store;", Cond.fieldLink RX5 42 "Bootstay" "runningSlot" "I", Cond.methodLink RX5 46 yX5_isOn, Cond.instanceMethod yX5_isOn, Cond.selects RX5 yX5_isOn yX5_isOn, Cond.initialized RX5, Cond.code yX5_isOn cX5_isOn 1 (some .boolean), Cond.methodLink RX5 57 yX3_start, Cond.instanceMethod yX3_start, Cond.selects RX3 yX3_start yX3_start, Cond.initialized RX3, Cond.code yX3_start cX3_start 4 (some .int), Cond.methodLink RX3 78 yX3_slotToStart, Cond.instanceMethod yX3_slotToStart, Cond.selects RX3 yX3_slotToStart yX3_slotToStart, Cond.code yX3_slotToStart cX3_slotToStart 6 (some .int), Cond.methodLink RX3 58 yX3_recordInForce, Cond.instanceMethod yX3_recordInForce, Cond.selects RX3 yX3_recordInForce yX3_recordInForce, Cond.code yX3_recordInForce cX3_recordInForce 1 (some .int), Cond.methodLink RX3 54 yX3_isRecordValid, Cond.instanceMethod yX3_isRecordValid]
def wsX5_switchOn_r2 : List Cond := [Cond.selects RX3 yX3_isRecordValid yX3_isRecordValid, Cond.code yX3_isRecordValid cX3_isRecordValid 2 (some .boolean), Cond.methodLink RX3 51 yX3_recordWord, Cond.instanceMethod yX3_recordWord, Cond.selects RX3 yX3_recordWord yX3_recordWord, Cond.code yX3_recordWord cX3_recordWord 3 (some .int), Cond.fieldLink RX3 14 "Bootstay$Store" "flash" "LBootstay$Flash;", Cond.methodLink RX3 34 yX2_read, Cond.instanceMethod yX2_read, Cond.selects RX2 yX2_read yX2_read, Cond.initialized RX2, Cond.code yX2_read cX2_read 2 (some .int), Cond.fieldLink RX2 11 "Bootstay$Flash" "words" "[I", Cond.methodLink RX3 26 yX3_checkOf, Cond.static yX3_checkOf, Cond.code yX3_checkOf cX3_checkOf 3 (some .int), Cond.methodLink RX3 62 yX3_confirmedIn, Cond.static yX3_confirmedIn, Cond.code yX3_confirmedIn cX3_confirmedIn 1 (some .int), Cond.methodLink RX3 68 yX3_triesIn, Cond.static yX3_triesIn, Cond.code yX3_triesIn cX3_triesIn 1 (some .int), Cond.methodLink RX3 65 yX3_isTrialIn, Cond.static yX3_isTrialIn]
def wsX5_switchOn_r3 : List Cond := [Cond.code yX3_isTrialIn cX3_isTrialIn 1 (some .boolean), Cond.methodLink RX3 75 yX3_canStart, Cond.instanceMethod yX3_canStart, Cond.selects RX3 yX3_canStart yX3_canStart, Cond.code yX3_canStart cX3_canStart 3 (some .boolean), Cond.methodLink RX3 48 yX3_slotWord, Cond.instanceMethod yX3_slotWord, Cond.selects RX3 yX3_slotWord yX3_slotWord, Cond.code yX3_slotWord cX3_slotWord 3 (some .int), Cond.methodLink RX3 22 yX3_imageHash, Cond.instanceMethod yX3_imageHash, Cond.selects RX3 yX3_imageHash yX3_imageHash, Cond.code yX3_imageHash cX3_imageHash 5 (some .int), Cond.methodLink RX3 42 yX3_imageWord, Cond.instanceMethod yX3_imageWord, Cond.selects RX3 yX3_imageWord yX3_imageWord, Cond.code yX3_imageWord cX3_imageWord 3 (some .int), Cond.static yX5_hashWith, Cond.code yX5_hashWith cX5_hashWith 2 (some .int), Cond.constant RX5 246 (65521), Cond.methodLink RX3 81 yX3_isTrialDue, Cond.instanceMethod yX3_isTrialDue, Cond.selects RX3 yX3_isTrialDue yX3_isTrialDue, Cond.code yX3_isTrialDue cX3_isTrialDue 1 (some .boolean)]
def wsX5_switchOn_r4 : List Cond := [Cond.methodLink RX3 85 yX3_confirmedSlot, Cond.instanceMethod yX3_confirmedSlot, Cond.selects RX3 yX3_confirmedSlot yX3_confirmedSlot, Cond.code yX3_confirmedSlot cX3_confirmedSlot 1 (some .int), Cond.methodLink RX3 88 yX3_settledState, Cond.static yX3_settledState, Cond.code yX3_settledState cX3_settledState 1 (some .int), Cond.methodLink RX3 91 yX3_triesLeft, Cond.instanceMethod yX3_triesLeft, Cond.selects RX3 yX3_triesLeft yX3_triesLeft, Cond.code yX3_triesLeft cX3_triesLeft 1 (some .int), Cond.methodLink RX3 94 yX3_trialState, Cond.static yX3_trialState, Cond.code yX3_trialState cX3_trialState 2 (some .int), Cond.methodLink RX3 97 yX3_recordCounter, Cond.instanceMethod yX3_recordCounter, Cond.selects RX3 yX3_recordCounter yX3_recordCounter, Cond.code yX3_recordCounter cX3_recordCounter 1 (some .int), Cond.methodLink RX3 100 yX3_writeRecord, Cond.instanceMethod yX3_writeRecord, Cond.selects RX3 yX3_writeRecord yX3_writeRecord, Cond.code yX3_writeRecord cX3_writeRecord 6 (some .boolean), Cond.methodLink RX3 71 yX3_writeRecordWord, Cond.instanceMethod yX3_writeRecordWord]
def wsX5_switchOn_r5 : List Cond := [Cond.selects RX3 yX3_writeRecordWord yX3_writeRecordWord, Cond.code yX3_writeRecordWord cX3_writeRecordWord 4 (some .boolean), Cond.methodLink RX3 38 yX2_write, Cond.instanceMethod yX2_write, Cond.selects RX2 yX2_write yX2_write, Cond.code yX2_write cX2_write 3 (some .boolean), Cond.fieldLink RX2 17 "Bootstay$Flash" "begun" "I", Cond.fieldLink RX2 21 "Bootstay$Flash" "writesToFailure" "I", Cond.methodLink RX2 24 yX2_read, Cond.methodLink RX2 28 yX2_preset, Cond.instanceMethod yX2_preset, Cond.selects RX2 yX2_preset yX2_preset, Cond.code yX2_preset cX2_preset 3 none]
def wsX5_switchOn : List Cond := .code yX5_switchOn cX5_switchOn 1 (some .int) :: ((wsX5_switchOn_r1 ++ (wsX5_switchOn_r2 ++ (wsX5_switchOn_r3 ++ (wsX5_switchOn_r4 ++ wsX5_switchOn_r5)))) ++ wsX50 ++ wsX30 ++ wsX20 ++ (vx_atS RX5 54 "java/lang/IllegalStateException" ["java/lang/RuntimeException", "java/lang/Exception"]).filter goodWord)
def wsX5_requireOn : List Cond := .code yX5_requireOn cX5_requireOn 1 none :: ([.classLink RX5 50 "java/lang/IllegalStateException", .initialized "java/lang/IllegalStateException", .methodLink RX5 46 yX5_isOn, .instanceMethod yX5_isOn, .selects RX5 yX5_isOn yX5_isOn, .initialized RX5, .code yX5_isOn cX5_isOn 1 (some .boolean), .fieldLink RX5 42 "Bootstay" "runningSlot" "I"] ++ wsX50 ++ (vx_atS RX5 54 "java/lang/IllegalStateException" ["java/lang/RuntimeException", "java/lang/Exception"]).filter goodWord)
def wsX5_losePower : List Cond := .code yX5_losePower cX5_losePower 1 none :: ([.fieldLink RX5 42 "Bootstay" "runningSlot" "I", .fieldLink RX5 22 "Bootstay" "transfer" "LBootstay$Transfer;", .methodLink RX5 139 yX4_end, .instanceMethod yX4_end, .selects RX4 yX4_end yX4_end, .initialized RX4, .code yX4_end cX4_end 1 none, .fieldLink RX4 27 "Bootstay$Transfer" "isGoingOn" "Z"] ++ wsX50 ++ wsX40)
def wsX5_switchOff : List Cond := .code yX5_switchOff cX5_switchOff 2 (some .int) :: ([.fieldLink RX5 42 "Bootstay" "runningSlot" "I", .methodLink RX5 61 yX5_requireOn, .instanceMethod yX5_requireOn, .selects RX5 yX5_requireOn yX5_requireOn, .initialized RX5, .code yX5_requireOn cX5_requireOn 1 none, .classLink RX5 50 "java/lang/IllegalStateException", .initialized "java/lang/IllegalStateException", .methodLink RX5 46 yX5_isOn, .instanceMethod yX5_isOn, .selects RX5 yX5_isOn yX5_isOn, .code yX5_isOn cX5_isOn 1 (some .boolean), .methodLink RX5 64 yX5_losePower, .instanceMethod yX5_losePower, .selects RX5 yX5_losePower yX5_losePower, .code yX5_losePower cX5_losePower 1 none, .fieldLink RX5 22 "Bootstay" "transfer" "LBootstay$Transfer;", .methodLink RX5 139 yX4_end, .instanceMethod yX4_end, .selects RX4 yX4_end yX4_end, .initialized RX4, .code yX4_end cX4_end 1 none, .fieldLink RX4 27 "Bootstay$Transfer" "isGoingOn" "Z"] ++ wsX50 ++ wsX40 ++ (vx_atS RX5 54 "java/lang/IllegalStateException" ["java/lang/RuntimeException", "java/lang/Exception"]).filter goodWord)
def wsX5_requireWithin : List Cond := .code yX5_requireWithin cX5_requireWithin 3 none :: ([.classLink RX5 124 "java/lang/IllegalArgumentException", .initialized "java/lang/IllegalArgumentException"] ++ (vx_atS RX5 128 "java/lang/IllegalArgumentException" ["java/lang/RuntimeException", "java/lang/Exception"]).filter goodWord)
def wsX5_failAfter : List Cond := .code yX5_failAfter cX5_failAfter 2 none :: ([.fieldLink RX5 10 "Bootstay" "store" "LBootstay$Store;", .fieldLink RX5 71 "Bootstay$Store" "flash" "LBootstay$Flash;", .methodLink RX5 67 yX5_requireWithin, .static yX5_requireWithin, .initialized RX5, .code yX5_requireWithin cX5_requireWithin 3 none, .classLink RX5 124 "java/lang/IllegalArgumentException", .initialized "java/lang/IllegalArgumentException", .methodLink RX5 75 yX2_chooseFailure, .instanceMethod yX2_chooseFailure, .selects RX2 yX2_chooseFailure yX2_chooseFailure, .initialized RX2, .code yX2_chooseFailure cX2_chooseFailure 2 none, .fieldLink RX2 21 "Bootstay$Flash" "writesToFailure" "I"] ++ wsX50 ++ wsX30 ++ wsX20 ++ (vx_atS RX5 128 "java/lang/IllegalArgumentException" ["java/lang/RuntimeException", "java/lang/Exception"]).filter goodWord)
def wsX5_running : List Cond := .code yX5_running cX5_running 1 (some .int) :: ([.fieldLink RX5 42 "Bootstay" "runningSlot" "I"] ++ wsX50)
def wsX5_isOnTrial_r1 : List Cond := [Cond.fieldLink RX5 42 "Bootstay" "runningSlot" "I", Cond.fieldLink RX5 10 "Bootstay" "store" "LBootstay$Store;", Cond.methodLink RX5 46 yX5_isOn, Cond.instanceMethod yX5_isOn, Cond.selects RX5 yX5_isOn yX5_isOn, Cond.initialized RX5, Cond.code yX5_isOn cX5_isOn 1 (some .boolean), Cond.methodLink RX5 81 yX3_confirmedSlot, Cond.instanceMethod yX3_confirmedSlot, Cond.selects RX3 yX3_confirmedSlot yX3_confirmedSlot, Cond.initialized RX3, Cond.code yX3_confirmedSlot cX3_confirmedSlot 1 (some .int), Cond.methodLink RX3 58 yX3_recordInForce, Cond.instanceMethod yX3_recordInForce, Cond.selects RX3 yX3_recordInForce yX3_recordInForce, Cond.code yX3_recordInForce cX3_recordInForce 1 (some .int), Cond.methodLink RX3 54 yX3_isRecordValid, Cond.instanceMethod yX3_isRecordValid, Cond.selects RX3 yX3_isRecordValid yX3_isRecordValid, Cond.code yX3_isRecordValid cX3_isRecordValid 2 (some .boolean), Cond.methodLink RX3 51 yX3_recordWord, Cond.instanceMethod yX3_recordWord, Cond.selects RX3 yX3_recordWord yX3_recordWord, Cond.code yX3_recordWord cX3_recordWord 3 (some .int)]
def wsX5_isOnTrial_r2 : List Cond := [Cond.fieldLink RX3 14 "Bootstay$Store" "flash" "LBootstay$Flash;", Cond.methodLink RX3 34 yX2_read, Cond.instanceMethod yX2_read, Cond.selects RX2 yX2_read yX2_read, Cond.initialized RX2, Cond.code yX2_read cX2_read 2 (some .int), Cond.fieldLink RX2 11 "Bootstay$Flash" "words" "[I", Cond.methodLink RX3 26 yX3_checkOf, Cond.static yX3_checkOf, Cond.code yX3_checkOf cX3_checkOf 3 (some .int), Cond.methodLink RX3 62 yX3_confirmedIn, Cond.static yX3_confirmedIn, Cond.code yX3_confirmedIn cX3_confirmedIn 1 (some .int)]
def wsX5_isOnTrial : List Cond := .code yX5_isOnTrial cX5_isOnTrial 1 (some .boolean) :: ((wsX5_isOnTrial_r1 ++ wsX5_isOnTrial_r2) ++ wsX50 ++ wsX30 ++ wsX20)
def wsX5_writes : List Cond := .code yX5_writes cX5_writes 1 (some .int) :: ([.fieldLink RX5 10 "Bootstay" "store" "LBootstay$Store;", .fieldLink RX5 71 "Bootstay$Store" "flash" "LBootstay$Flash;", .methodLink RX5 84 yX2_begunWrites, .instanceMethod yX2_begunWrites, .selects RX2 yX2_begunWrites yX2_begunWrites, .initialized RX2, .code yX2_begunWrites cX2_begunWrites 1 (some .int), .fieldLink RX2 17 "Bootstay$Flash" "begun" "I"] ++ wsX50 ++ wsX30 ++ wsX20)
def wsX5_idleSlot : List Cond := .code yX5_idleSlot cX5_idleSlot 1 (some .int) :: ([.fieldLink RX5 42 "Bootstay" "runningSlot" "I"] ++ wsX50)
def wsX5_stayOn : List Cond := .code yX5_stayOn cX5_stayOn 2 (some .boolean) :: ([.methodLink RX5 64 yX5_losePower, .instanceMethod yX5_losePower, .selects RX5 yX5_losePower yX5_losePower, .initialized RX5, .code yX5_losePower cX5_losePower 1 none, .fieldLink RX5 42 "Bootstay" "runningSlot" "I", .fieldLink RX5 22 "Bootstay" "transfer" "LBootstay$Transfer;", .methodLink RX5 139 yX4_end, .instanceMethod yX4_end, .selects RX4 yX4_end yX4_end, .initialized RX4, .code yX4_end cX4_end 1 none, .fieldLink RX4 27 "Bootstay$Transfer" "isGoingOn" "Z"] ++ wsX50 ++ wsX40)
def wsX5_offer_r1 : List Cond := [Cond.classLink RX5 50 "java/lang/IllegalStateException", Cond.initialized "java/lang/IllegalStateException", Cond.constant RX5 87 (65520), Cond.fieldLink RX5 10 "Bootstay" "store" "LBootstay$Store;", Cond.fieldLink RX5 42 "Bootstay" "runningSlot" "I", Cond.fieldLink RX5 22 "Bootstay" "transfer" "LBootstay$Transfer;", Cond.methodLink RX5 67 yX5_requireWithin, Cond.static yX5_requireWithin, Cond.initialized RX5, Cond.code yX5_requireWithin cX5_requireWithin 3 none, Cond.classLink RX5 124 "java/lang/IllegalArgumentException", Cond.initialized "java/lang/IllegalArgumentException", Cond.methodLink RX5 61 yX5_requireOn, Cond.instanceMethod yX5_requireOn, Cond.selects RX5 yX5_requireOn yX5_requireOn, Cond.code yX5_requireOn cX5_requireOn 1 none, Cond.methodLink RX5 46 yX5_isOn, Cond.instanceMethod yX5_isOn, Cond.selects RX5 yX5_isOn yX5_isOn, Cond.code yX5_isOn cX5_isOn 1 (some .boolean), Cond.methodLink RX5 88 yX3_isTrialDue, Cond.instanceMethod yX3_isTrialDue, Cond.selects RX3 yX3_isTrialDue yX3_isTrialDue, Cond.initialized RX3]
def wsX5_offer_r2 : List Cond := [Cond.code yX3_isTrialDue cX3_isTrialDue 1 (some .boolean), Cond.methodLink RX3 58 yX3_recordInForce, Cond.instanceMethod yX3_recordInForce, Cond.selects RX3 yX3_recordInForce yX3_recordInForce, Cond.code yX3_recordInForce cX3_recordInForce 1 (some .int), Cond.methodLink RX3 54 yX3_isRecordValid, Cond.instanceMethod yX3_isRecordValid, Cond.selects RX3 yX3_isRecordValid yX3_isRecordValid, Cond.code yX3_isRecordValid cX3_isRecordValid 2 (some .boolean), Cond.methodLink RX3 51 yX3_recordWord, Cond.instanceMethod yX3_recordWord, Cond.selects RX3 yX3_recordWord yX3_recordWord, Cond.code yX3_recordWord cX3_recordWord 3 (some .int), Cond.fieldLink RX3 14 "Bootstay$Store" "flash" "LBootstay$Flash;", Cond.methodLink RX3 34 yX2_read, Cond.instanceMethod yX2_read, Cond.selects RX2 yX2_read yX2_read, Cond.initialized RX2, Cond.code yX2_read cX2_read 2 (some .int), Cond.fieldLink RX2 11 "Bootstay$Flash" "words" "[I", Cond.methodLink RX3 26 yX3_checkOf, Cond.static yX3_checkOf, Cond.code yX3_checkOf cX3_checkOf 3 (some .int), Cond.methodLink RX3 65 yX3_isTrialIn]
def wsX5_offer_r3 : List Cond := [Cond.static yX3_isTrialIn, Cond.code yX3_isTrialIn cX3_isTrialIn 1 (some .boolean), Cond.methodLink RX5 93 yX3_slotWord, Cond.instanceMethod yX3_slotWord, Cond.selects RX3 yX3_slotWord yX3_slotWord, Cond.code yX3_slotWord cX3_slotWord 3 (some .int), Cond.methodLink RX5 97 yX3_recordCounter, Cond.instanceMethod yX3_recordCounter, Cond.selects RX3 yX3_recordCounter yX3_recordCounter, Cond.code yX3_recordCounter cX3_recordCounter 1 (some .int), Cond.methodLink RX5 102 yX4_begin, Cond.instanceMethod yX4_begin, Cond.selects RX4 yX4_begin yX4_begin, Cond.initialized RX4, Cond.code yX4_begin cX4_begin 5 none, Cond.fieldLink RX4 9 "Bootstay$Transfer" "version" "I", Cond.fieldLink RX4 15 "Bootstay$Transfer" "length" "I", Cond.fieldLink RX4 18 "Bootstay$Transfer" "hash" "I", Cond.fieldLink RX4 21 "Bootstay$Transfer" "counter" "I", Cond.fieldLink RX4 24 "Bootstay$Transfer" "come" "I", Cond.fieldLink RX4 27 "Bootstay$Transfer" "isGoingOn" "Z", Cond.methodLink RX5 106 yX5_idleSlot, Cond.instanceMethod yX5_idleSlot, Cond.selects RX5 yX5_idleSlot yX5_idleSlot]
def wsX5_offer_r4 : List Cond := [Cond.code yX5_idleSlot cX5_idleSlot 1 (some .int), Cond.methodLink RX5 109 yX3_writeSlotWord, Cond.instanceMethod yX3_writeSlotWord, Cond.selects RX3 yX3_writeSlotWord yX3_writeSlotWord, Cond.code yX3_writeSlotWord cX3_writeSlotWord 4 (some .boolean), Cond.methodLink RX3 38 yX2_write, Cond.instanceMethod yX2_write, Cond.selects RX2 yX2_write yX2_write, Cond.code yX2_write cX2_write 3 (some .boolean), Cond.fieldLink RX2 17 "Bootstay$Flash" "begun" "I", Cond.fieldLink RX2 21 "Bootstay$Flash" "writesToFailure" "I", Cond.methodLink RX2 24 yX2_read, Cond.methodLink RX2 28 yX2_preset, Cond.instanceMethod yX2_preset, Cond.selects RX2 yX2_preset yX2_preset, Cond.code yX2_preset cX2_preset 3 none, Cond.methodLink RX5 113 yX5_stayOn, Cond.instanceMethod yX5_stayOn, Cond.selects RX5 yX5_stayOn yX5_stayOn, Cond.code yX5_stayOn cX5_stayOn 2 (some .boolean), Cond.methodLink RX5 64 yX5_losePower, Cond.instanceMethod yX5_losePower, Cond.selects RX5 yX5_losePower yX5_losePower, Cond.code yX5_losePower cX5_losePower 1 none]
def wsX5_offer_r5 : List Cond := [Cond.methodLink RX5 139 yX4_end, Cond.instanceMethod yX4_end, Cond.selects RX4 yX4_end yX4_end, Cond.code yX4_end cX4_end 1 none]
def wsX5_offer : List Cond := .code yX5_offer cX5_offer 5 (some .boolean) :: ((wsX5_offer_r1 ++ (wsX5_offer_r2 ++ (wsX5_offer_r3 ++ (wsX5_offer_r4 ++ wsX5_offer_r5)))) ++ wsX50 ++ wsX30 ++ wsX20 ++ wsX40 ++ (vx_atS RX5 54 "java/lang/IllegalStateException" ["java/lang/RuntimeException", "java/lang/Exception"]).filter goodWord ++ (vx_atS RX5 128 "java/lang/IllegalArgumentException" ["java/lang/RuntimeException", "java/lang/Exception"]).filter goodWord)
def wsX5_requireToCome : List Cond := .code yX5_requireToCome cX5_requireToCome 2 none :: ([.classLink RX5 50 "java/lang/IllegalStateException", .initialized "java/lang/IllegalStateException", .fieldLink RX5 22 "Bootstay" "transfer" "LBootstay$Transfer;", .methodLink RX5 160 yX4_bytesToCome, .instanceMethod yX4_bytesToCome, .selects RX4 yX4_bytesToCome yX4_bytesToCome, .initialized RX4, .code yX4_bytesToCome cX4_bytesToCome 1 (some .int), .fieldLink RX4 27 "Bootstay$Transfer" "isGoingOn" "Z", .fieldLink RX4 15 "Bootstay$Transfer" "length" "I", .fieldLink RX4 24 "Bootstay$Transfer" "come" "I"] ++ wsX50 ++ wsX40 ++ (vx_atS RX5 54 "java/lang/IllegalStateException" ["java/lang/RuntimeException", "java/lang/Exception"]).filter goodWord)
def wsX5_append_r1 : List Cond := [Cond.fieldLink RX5 10 "Bootstay" "store" "LBootstay$Store;", Cond.fieldLink RX5 22 "Bootstay" "transfer" "LBootstay$Transfer;", Cond.methodLink RX5 106 yX5_idleSlot, Cond.instanceMethod yX5_idleSlot, Cond.selects RX5 yX5_idleSlot yX5_idleSlot, Cond.initialized RX5, Cond.code yX5_idleSlot cX5_idleSlot 1 (some .int), Cond.fieldLink RX5 42 "Bootstay" "runningSlot" "I", Cond.methodLink RX5 240 yX4_nextPlace, Cond.instanceMethod yX4_nextPlace, Cond.selects RX4 yX4_nextPlace yX4_nextPlace, Cond.initialized RX4, Cond.code yX4_nextPlace cX4_nextPlace 2 (some .int), Cond.fieldLink RX4 24 "Bootstay$Transfer" "come" "I", Cond.methodLink RX5 243 yX3_writeImageWord, Cond.instanceMethod yX3_writeImageWord, Cond.selects RX3 yX3_writeImageWord yX3_writeImageWord, Cond.initialized RX3, Cond.code yX3_writeImageWord cX3_writeImageWord 4 (some .boolean), Cond.fieldLink RX3 14 "Bootstay$Store" "flash" "LBootstay$Flash;", Cond.methodLink RX3 38 yX2_write, Cond.instanceMethod yX2_write, Cond.selects RX2 yX2_write yX2_write, Cond.initialized RX2]
def wsX5_append_r2 : List Cond := [Cond.code yX2_write cX2_write 3 (some .boolean), Cond.fieldLink RX2 17 "Bootstay$Flash" "begun" "I", Cond.fieldLink RX2 21 "Bootstay$Flash" "writesToFailure" "I", Cond.methodLink RX2 24 yX2_read, Cond.instanceMethod yX2_read, Cond.selects RX2 yX2_read yX2_read, Cond.code yX2_read cX2_read 2 (some .int), Cond.fieldLink RX2 11 "Bootstay$Flash" "words" "[I", Cond.methodLink RX2 28 yX2_preset, Cond.instanceMethod yX2_preset, Cond.selects RX2 yX2_preset yX2_preset, Cond.code yX2_preset cX2_preset 3 none, Cond.methodLink RX5 113 yX5_stayOn, Cond.instanceMethod yX5_stayOn, Cond.selects RX5 yX5_stayOn yX5_stayOn, Cond.code yX5_stayOn cX5_stayOn 2 (some .boolean), Cond.methodLink RX5 64 yX5_losePower, Cond.instanceMethod yX5_losePower, Cond.selects RX5 yX5_losePower yX5_losePower, Cond.code yX5_losePower cX5_losePower 1 none, Cond.methodLink RX5 139 yX4_end, Cond.instanceMethod yX4_end, Cond.selects RX4 yX4_end yX4_end, Cond.code yX4_end cX4_end 1 none]
def wsX5_append_r3 : List Cond := [Cond.fieldLink RX4 27 "Bootstay$Transfer" "isGoingOn" "Z"]
def wsX5_append : List Cond := .code yX5_append cX5_append 2 (some .boolean) :: ((wsX5_append_r1 ++ (wsX5_append_r2 ++ wsX5_append_r3)) ++ wsX50 ++ wsX40 ++ wsX30 ++ wsX20)
def wsX5_put_r1 : List Cond := [Cond.methodLink RX5 67 yX5_requireWithin, Cond.static yX5_requireWithin, Cond.initialized RX5, Cond.code yX5_requireWithin cX5_requireWithin 3 none, Cond.classLink RX5 124 "java/lang/IllegalArgumentException", Cond.initialized "java/lang/IllegalArgumentException", Cond.methodLink RX5 117 yX5_requireToCome, Cond.instanceMethod yX5_requireToCome, Cond.selects RX5 yX5_requireToCome yX5_requireToCome, Cond.code yX5_requireToCome cX5_requireToCome 2 none, Cond.classLink RX5 50 "java/lang/IllegalStateException", Cond.initialized "java/lang/IllegalStateException", Cond.fieldLink RX5 22 "Bootstay" "transfer" "LBootstay$Transfer;", Cond.methodLink RX5 160 yX4_bytesToCome, Cond.instanceMethod yX4_bytesToCome, Cond.selects RX4 yX4_bytesToCome yX4_bytesToCome, Cond.initialized RX4, Cond.code yX4_bytesToCome cX4_bytesToCome 1 (some .int), Cond.fieldLink RX4 27 "Bootstay$Transfer" "isGoingOn" "Z", Cond.fieldLink RX4 15 "Bootstay$Transfer" "length" "I", Cond.fieldLink RX4 24 "Bootstay$Transfer" "come" "I", Cond.methodLink RX5 120 yX5_append, Cond.instanceMethod yX5_append, Cond.selects RX5 yX5_append yX5_append]
def wsX5_put_r2 : List Cond := [Cond.code yX5_append cX5_append 2 (some .boolean), Cond.fieldLink RX5 10 "Bootstay" "store" "LBootstay$Store;", Cond.methodLink RX5 106 yX5_idleSlot, Cond.instanceMethod yX5_idleSlot, Cond.selects RX5 yX5_idleSlot yX5_idleSlot, Cond.code yX5_idleSlot cX5_idleSlot 1 (some .int), Cond.fieldLink RX5 42 "Bootstay" "runningSlot" "I", Cond.methodLink RX5 240 yX4_nextPlace, Cond.instanceMethod yX4_nextPlace, Cond.selects RX4 yX4_nextPlace yX4_nextPlace, Cond.code yX4_nextPlace cX4_nextPlace 2 (some .int), Cond.methodLink RX5 243 yX3_writeImageWord, Cond.instanceMethod yX3_writeImageWord, Cond.selects RX3 yX3_writeImageWord yX3_writeImageWord, Cond.initialized RX3, Cond.code yX3_writeImageWord cX3_writeImageWord 4 (some .boolean), Cond.fieldLink RX3 14 "Bootstay$Store" "flash" "LBootstay$Flash;", Cond.methodLink RX3 38 yX2_write, Cond.instanceMethod yX2_write, Cond.selects RX2 yX2_write yX2_write, Cond.initialized RX2, Cond.code yX2_write cX2_write 3 (some .boolean), Cond.fieldLink RX2 17 "Bootstay$Flash" "begun" "I", Cond.fieldLink RX2 21 "Bootstay$Flash" "writesToFailure" "I"]
def wsX5_put_r3 : List Cond := [Cond.methodLink RX2 24 yX2_read, Cond.instanceMethod yX2_read, Cond.selects RX2 yX2_read yX2_read, Cond.code yX2_read cX2_read 2 (some .int), Cond.fieldLink RX2 11 "Bootstay$Flash" "words" "[I", Cond.methodLink RX2 28 yX2_preset, Cond.instanceMethod yX2_preset, Cond.selects RX2 yX2_preset yX2_preset, Cond.code yX2_preset cX2_preset 3 none, Cond.methodLink RX5 113 yX5_stayOn, Cond.instanceMethod yX5_stayOn, Cond.selects RX5 yX5_stayOn yX5_stayOn, Cond.code yX5_stayOn cX5_stayOn 2 (some .boolean), Cond.methodLink RX5 64 yX5_losePower, Cond.instanceMethod yX5_losePower, Cond.selects RX5 yX5_losePower yX5_losePower, Cond.code yX5_losePower cX5_losePower 1 none, Cond.methodLink RX5 139 yX4_end, Cond.instanceMethod yX4_end, Cond.selects RX4 yX4_end yX4_end, Cond.code yX4_end cX4_end 1 none]
def wsX5_put : List Cond := .code yX5_put cX5_put 2 (some .boolean) :: ((wsX5_put_r1 ++ (wsX5_put_r2 ++ wsX5_put_r3)) ++ wsX50 ++ wsX40 ++ wsX30 ++ wsX20 ++ (vx_atS RX5 128 "java/lang/IllegalArgumentException" ["java/lang/RuntimeException", "java/lang/Exception"]).filter goodWord ++ (vx_atS RX5 54 "java/lang/IllegalStateException" ["java/lang/RuntimeException", "java/lang/Exception"]).filter goodWord)
def wsX5_copy_r1 : List Cond := [Cond.classLink RX5 124 "java/lang/IllegalArgumentException", Cond.initialized "java/lang/IllegalArgumentException", Cond.fieldLink RX5 10 "Bootstay" "store" "LBootstay$Store;", Cond.fieldLink RX5 42 "Bootstay" "runningSlot" "I", Cond.methodLink RX5 67 yX5_requireWithin, Cond.static yX5_requireWithin, Cond.initialized RX5, Cond.code yX5_requireWithin cX5_requireWithin 3 none, Cond.methodLink RX5 46 yX5_isOn, Cond.instanceMethod yX5_isOn, Cond.selects RX5 yX5_isOn yX5_isOn, Cond.code yX5_isOn cX5_isOn 1 (some .boolean), Cond.methodLink RX5 93 yX3_slotWord, Cond.instanceMethod yX3_slotWord, Cond.selects RX3 yX3_slotWord yX3_slotWord, Cond.initialized RX3, Cond.code yX3_slotWord cX3_slotWord 3 (some .int), Cond.fieldLink RX3 14 "Bootstay$Store" "flash" "LBootstay$Flash;", Cond.methodLink RX3 34 yX2_read, Cond.instanceMethod yX2_read, Cond.selects RX2 yX2_read yX2_read, Cond.initialized RX2, Cond.code yX2_read cX2_read 2 (some .int), Cond.fieldLink RX2 11 "Bootstay$Flash" "words" "[I"]
def wsX5_copy_r2 : List Cond := [Cond.methodLink RX5 117 yX5_requireToCome, Cond.instanceMethod yX5_requireToCome, Cond.selects RX5 yX5_requireToCome yX5_requireToCome, Cond.code yX5_requireToCome cX5_requireToCome 2 none, Cond.classLink RX5 50 "java/lang/IllegalStateException", Cond.initialized "java/lang/IllegalStateException", Cond.fieldLink RX5 22 "Bootstay" "transfer" "LBootstay$Transfer;", Cond.methodLink RX5 160 yX4_bytesToCome, Cond.instanceMethod yX4_bytesToCome, Cond.selects RX4 yX4_bytesToCome yX4_bytesToCome, Cond.initialized RX4, Cond.code yX4_bytesToCome cX4_bytesToCome 1 (some .int), Cond.fieldLink RX4 27 "Bootstay$Transfer" "isGoingOn" "Z", Cond.fieldLink RX4 15 "Bootstay$Transfer" "length" "I", Cond.fieldLink RX4 24 "Bootstay$Transfer" "come" "I", Cond.methodLink RX5 129 yX3_imageWord, Cond.instanceMethod yX3_imageWord, Cond.selects RX3 yX3_imageWord yX3_imageWord, Cond.code yX3_imageWord cX3_imageWord 3 (some .int), Cond.methodLink RX5 120 yX5_append, Cond.instanceMethod yX5_append, Cond.selects RX5 yX5_append yX5_append, Cond.code yX5_append cX5_append 2 (some .boolean), Cond.methodLink RX5 106 yX5_idleSlot]
def wsX5_copy_r3 : List Cond := [Cond.instanceMethod yX5_idleSlot, Cond.selects RX5 yX5_idleSlot yX5_idleSlot, Cond.code yX5_idleSlot cX5_idleSlot 1 (some .int), Cond.methodLink RX5 240 yX4_nextPlace, Cond.instanceMethod yX4_nextPlace, Cond.selects RX4 yX4_nextPlace yX4_nextPlace, Cond.code yX4_nextPlace cX4_nextPlace 2 (some .int), Cond.methodLink RX5 243 yX3_writeImageWord, Cond.instanceMethod yX3_writeImageWord, Cond.selects RX3 yX3_writeImageWord yX3_writeImageWord, Cond.code yX3_writeImageWord cX3_writeImageWord 4 (some .boolean), Cond.methodLink RX3 38 yX2_write, Cond.instanceMethod yX2_write, Cond.selects RX2 yX2_write yX2_write, Cond.code yX2_write cX2_write 3 (some .boolean), Cond.fieldLink RX2 17 "Bootstay$Flash" "begun" "I", Cond.fieldLink RX2 21 "Bootstay$Flash" "writesToFailure" "I", Cond.methodLink RX2 24 yX2_read, Cond.methodLink RX2 28 yX2_preset, Cond.instanceMethod yX2_preset, Cond.selects RX2 yX2_preset yX2_preset, Cond.code yX2_preset cX2_preset 3 none, Cond.methodLink RX5 113 yX5_stayOn, Cond.instanceMethod yX5_stayOn]
def wsX5_copy_r4 : List Cond := [Cond.selects RX5 yX5_stayOn yX5_stayOn, Cond.code yX5_stayOn cX5_stayOn 2 (some .boolean), Cond.methodLink RX5 64 yX5_losePower, Cond.instanceMethod yX5_losePower, Cond.selects RX5 yX5_losePower yX5_losePower, Cond.code yX5_losePower cX5_losePower 1 none, Cond.methodLink RX5 139 yX4_end, Cond.instanceMethod yX4_end, Cond.selects RX4 yX4_end yX4_end, Cond.code yX4_end cX4_end 1 none]
def wsX5_copy : List Cond := .code yX5_copy cX5_copy 5 (some .int) :: ((wsX5_copy_r1 ++ (wsX5_copy_r2 ++ (wsX5_copy_r3 ++ wsX5_copy_r4))) ++ wsX50 ++ wsX30 ++ wsX20 ++ wsX40 ++ (vx_atS RX5 128 "java/lang/IllegalArgumentException" ["java/lang/RuntimeException", "java/lang/Exception"]).filter goodWord ++ (vx_atS RX5 54 "java/lang/IllegalStateException" ["java/lang/RuntimeException", "java/lang/Exception"]).filter goodWord)
def wsX5_requireFinishable_r1 : List Cond := [Cond.classLink RX5 50 "java/lang/IllegalStateException", Cond.initialized "java/lang/IllegalStateException", Cond.fieldLink RX5 22 "Bootstay" "transfer" "LBootstay$Transfer;", Cond.fieldLink RX5 10 "Bootstay" "store" "LBootstay$Store;", Cond.fieldLink RX5 226 "Bootstay$Transfer" "length" "I", Cond.fieldLink RX5 232 "Bootstay$Transfer" "hash" "I", Cond.methodLink RX5 67 yX5_requireWithin, Cond.static yX5_requireWithin, Cond.initialized RX5, Cond.code yX5_requireWithin cX5_requireWithin 3 none, Cond.classLink RX5 124 "java/lang/IllegalArgumentException", Cond.initialized "java/lang/IllegalArgumentException", Cond.methodLink RX5 160 yX4_bytesToCome, Cond.instanceMethod yX4_bytesToCome, Cond.selects RX4 yX4_bytesToCome yX4_bytesToCome, Cond.initialized RX4, Cond.code yX4_bytesToCome cX4_bytesToCome 1 (some .int), Cond.fieldLink RX4 27 "Bootstay$Transfer" "isGoingOn" "Z", Cond.fieldLink RX4 15 "Bootstay$Transfer" "length" "I", Cond.fieldLink RX4 24 "Bootstay$Transfer" "come" "I", Cond.methodLink RX5 106 yX5_idleSlot, Cond.instanceMethod yX5_idleSlot, Cond.selects RX5 yX5_idleSlot yX5_idleSlot, Cond.code yX5_idleSlot cX5_idleSlot 1 (some .int)]
def wsX5_requireFinishable_r2 : List Cond := [Cond.fieldLink RX5 42 "Bootstay" "runningSlot" "I", Cond.methodLink RX5 229 yX3_imageHash, Cond.instanceMethod yX3_imageHash, Cond.selects RX3 yX3_imageHash yX3_imageHash, Cond.initialized RX3, Cond.code yX3_imageHash cX3_imageHash 5 (some .int), Cond.methodLink RX3 42 yX3_imageWord, Cond.instanceMethod yX3_imageWord, Cond.selects RX3 yX3_imageWord yX3_imageWord, Cond.code yX3_imageWord cX3_imageWord 3 (some .int), Cond.fieldLink RX3 14 "Bootstay$Store" "flash" "LBootstay$Flash;", Cond.methodLink RX3 34 yX2_read, Cond.instanceMethod yX2_read, Cond.selects RX2 yX2_read yX2_read, Cond.initialized RX2, Cond.code yX2_read cX2_read 2 (some .int), Cond.fieldLink RX2 11 "Bootstay$Flash" "words" "[I", Cond.static yX5_hashWith, Cond.code yX5_hashWith cX5_hashWith 2 (some .int), Cond.constant RX5 246 (65521)]
def wsX5_requireFinishable : List Cond := .code yX5_requireFinishable cX5_requireFinishable 2 none :: ((wsX5_requireFinishable_r1 ++ wsX5_requireFinishable_r2) ++ wsX50 ++ wsX40 ++ wsX30 ++ wsX20 ++ (vx_atS RX5 54 "java/lang/IllegalStateException" ["java/lang/RuntimeException", "java/lang/Exception"]).filter goodWord ++ (vx_atS RX5 128 "java/lang/IllegalArgumentException" ["java/lang/RuntimeException", "java/lang/Exception"]).filter goodWord)
def wsX5_finish_r1 : List Cond := [Cond.fieldLink RX5 10 "Bootstay" "store" "LBootstay$Store;", Cond.fieldLink RX5 22 "Bootstay" "transfer" "LBootstay$Transfer;", Cond.methodLink RX5 132 yX5_requireFinishable, Cond.instanceMethod yX5_requireFinishable, Cond.selects RX5 yX5_requireFinishable yX5_requireFinishable, Cond.initialized RX5, Cond.code yX5_requireFinishable cX5_requireFinishable 2 none, Cond.classLink RX5 50 "java/lang/IllegalStateException", Cond.initialized "java/lang/IllegalStateException", Cond.fieldLink RX5 226 "Bootstay$Transfer" "length" "I", Cond.fieldLink RX5 232 "Bootstay$Transfer" "hash" "I", Cond.methodLink RX5 67 yX5_requireWithin, Cond.static yX5_requireWithin, Cond.code yX5_requireWithin cX5_requireWithin 3 none, Cond.classLink RX5 124 "java/lang/IllegalArgumentException", Cond.initialized "java/lang/IllegalArgumentException", Cond.methodLink RX5 160 yX4_bytesToCome, Cond.instanceMethod yX4_bytesToCome, Cond.selects RX4 yX4_bytesToCome yX4_bytesToCome, Cond.initialized RX4, Cond.code yX4_bytesToCome cX4_bytesToCome 1 (some .int), Cond.fieldLink RX4 27 "Bootstay$Transfer" "isGoingOn" "Z", Cond.fieldLink RX4 15 "Bootstay$Transfer" "length" "I", Cond.fieldLink RX4 24 "Bootstay$Transfer" "come" "I"]
def wsX5_finish_r2 : List Cond := [Cond.methodLink RX5 106 yX5_idleSlot, Cond.instanceMethod yX5_idleSlot, Cond.selects RX5 yX5_idleSlot yX5_idleSlot, Cond.code yX5_idleSlot cX5_idleSlot 1 (some .int), Cond.fieldLink RX5 42 "Bootstay" "runningSlot" "I", Cond.methodLink RX5 229 yX3_imageHash, Cond.instanceMethod yX3_imageHash, Cond.selects RX3 yX3_imageHash yX3_imageHash, Cond.initialized RX3, Cond.code yX3_imageHash cX3_imageHash 5 (some .int), Cond.methodLink RX3 42 yX3_imageWord, Cond.instanceMethod yX3_imageWord, Cond.selects RX3 yX3_imageWord yX3_imageWord, Cond.code yX3_imageWord cX3_imageWord 3 (some .int), Cond.fieldLink RX3 14 "Bootstay$Store" "flash" "LBootstay$Flash;", Cond.methodLink RX3 34 yX2_read, Cond.instanceMethod yX2_read, Cond.selects RX2 yX2_read yX2_read, Cond.initialized RX2, Cond.code yX2_read cX2_read 2 (some .int), Cond.fieldLink RX2 11 "Bootstay$Flash" "words" "[I", Cond.static yX5_hashWith, Cond.code yX5_hashWith cX5_hashWith 2 (some .int), Cond.constant RX5 246 (65521)]
def wsX5_finish_r3 : List Cond := [Cond.methodLink RX5 135 yX3_writeUpdate, Cond.instanceMethod yX3_writeUpdate, Cond.selects RX3 yX3_writeUpdate yX3_writeUpdate, Cond.code yX3_writeUpdate cX3_writeUpdate 4 (some .boolean), Cond.fieldLink RX3 103 "Bootstay$Transfer" "version" "I", Cond.fieldLink RX3 112 "Bootstay$Transfer" "length" "I", Cond.fieldLink RX3 115 "Bootstay$Transfer" "hash" "I", Cond.fieldLink RX3 118 "Bootstay$Transfer" "counter" "I", Cond.methodLink RX3 109 yX3_writeSlotWord, Cond.instanceMethod yX3_writeSlotWord, Cond.selects RX3 yX3_writeSlotWord yX3_writeSlotWord, Cond.code yX3_writeSlotWord cX3_writeSlotWord 4 (some .boolean), Cond.methodLink RX3 38 yX2_write, Cond.instanceMethod yX2_write, Cond.selects RX2 yX2_write yX2_write, Cond.code yX2_write cX2_write 3 (some .boolean), Cond.fieldLink RX2 17 "Bootstay$Flash" "begun" "I", Cond.fieldLink RX2 21 "Bootstay$Flash" "writesToFailure" "I", Cond.methodLink RX2 24 yX2_read, Cond.methodLink RX2 28 yX2_preset, Cond.instanceMethod yX2_preset, Cond.selects RX2 yX2_preset yX2_preset, Cond.code yX2_preset cX2_preset 3 none, Cond.methodLink RX3 85 yX3_confirmedSlot]
def wsX5_finish_r4 : List Cond := [Cond.instanceMethod yX3_confirmedSlot, Cond.selects RX3 yX3_confirmedSlot yX3_confirmedSlot, Cond.code yX3_confirmedSlot cX3_confirmedSlot 1 (some .int), Cond.methodLink RX3 58 yX3_recordInForce, Cond.instanceMethod yX3_recordInForce, Cond.selects RX3 yX3_recordInForce yX3_recordInForce, Cond.code yX3_recordInForce cX3_recordInForce 1 (some .int), Cond.methodLink RX3 54 yX3_isRecordValid, Cond.instanceMethod yX3_isRecordValid, Cond.selects RX3 yX3_isRecordValid yX3_isRecordValid, Cond.code yX3_isRecordValid cX3_isRecordValid 2 (some .boolean), Cond.methodLink RX3 51 yX3_recordWord, Cond.instanceMethod yX3_recordWord, Cond.selects RX3 yX3_recordWord yX3_recordWord, Cond.code yX3_recordWord cX3_recordWord 3 (some .int), Cond.methodLink RX3 26 yX3_checkOf, Cond.static yX3_checkOf, Cond.code yX3_checkOf cX3_checkOf 3 (some .int), Cond.methodLink RX3 62 yX3_confirmedIn, Cond.static yX3_confirmedIn, Cond.code yX3_confirmedIn cX3_confirmedIn 1 (some .int), Cond.methodLink RX3 94 yX3_trialState, Cond.static yX3_trialState, Cond.code yX3_trialState cX3_trialState 2 (some .int)]
def wsX5_finish_r5 : List Cond := [Cond.methodLink RX3 97 yX3_recordCounter, Cond.instanceMethod yX3_recordCounter, Cond.selects RX3 yX3_recordCounter yX3_recordCounter, Cond.code yX3_recordCounter cX3_recordCounter 1 (some .int), Cond.methodLink RX3 100 yX3_writeRecord, Cond.instanceMethod yX3_writeRecord, Cond.selects RX3 yX3_writeRecord yX3_writeRecord, Cond.code yX3_writeRecord cX3_writeRecord 6 (some .boolean), Cond.methodLink RX3 71 yX3_writeRecordWord, Cond.instanceMethod yX3_writeRecordWord, Cond.selects RX3 yX3_writeRecordWord yX3_writeRecordWord, Cond.code yX3_writeRecordWord cX3_writeRecordWord 4 (some .boolean), Cond.methodLink RX5 139 yX4_end, Cond.instanceMethod yX4_end, Cond.selects RX4 yX4_end yX4_end, Cond.code yX4_end cX4_end 1 none, Cond.methodLink RX5 113 yX5_stayOn, Cond.instanceMethod yX5_stayOn, Cond.selects RX5 yX5_stayOn yX5_stayOn, Cond.code yX5_stayOn cX5_stayOn 2 (some .boolean), Cond.methodLink RX5 64 yX5_losePower, Cond.instanceMethod yX5_losePower, Cond.selects RX5 yX5_losePower yX5_losePower, Cond.code yX5_losePower cX5_losePower 1 none]
def wsX5_finish : List Cond := .code yX5_finish cX5_finish 3 (some .boolean) :: ((wsX5_finish_r1 ++ (wsX5_finish_r2 ++ (wsX5_finish_r3 ++ (wsX5_finish_r4 ++ wsX5_finish_r5)))) ++ wsX50 ++ wsX40 ++ wsX30 ++ wsX20 ++ (vx_atS RX5 54 "java/lang/IllegalStateException" ["java/lang/RuntimeException", "java/lang/Exception"]).filter goodWord ++ (vx_atS RX5 128 "java/lang/IllegalArgumentException" ["java/lang/RuntimeException", "java/lang/Exception"]).filter goodWord)
def wsX5_confirm_r1 : List Cond := [Cond.classLink RX5 50 "java/lang/IllegalStateException", Cond.initialized "java/lang/IllegalStateException", Cond.fieldLink RX5 10 "Bootstay" "store" "LBootstay$Store;", Cond.fieldLink RX5 42 "Bootstay" "runningSlot" "I", Cond.methodLink RX5 147 Lib.Math.max.name, Cond.static Lib.Math.max.name, Cond.initialized "java/lang/Math", Cond.code Lib.Math.max.name Lib.Math.max.code 2 (some .int), Cond.methodLink RX5 61 yX5_requireOn, Cond.instanceMethod yX5_requireOn, Cond.selects RX5 yX5_requireOn yX5_requireOn, Cond.initialized RX5, Cond.code yX5_requireOn cX5_requireOn 1 none, Cond.methodLink RX5 46 yX5_isOn, Cond.instanceMethod yX5_isOn, Cond.selects RX5 yX5_isOn yX5_isOn, Cond.code yX5_isOn cX5_isOn 1 (some .boolean), Cond.methodLink RX5 142 yX5_isOnTrial, Cond.instanceMethod yX5_isOnTrial, Cond.selects RX5 yX5_isOnTrial yX5_isOnTrial, Cond.code yX5_isOnTrial cX5_isOnTrial 1 (some .boolean), Cond.methodLink RX5 81 yX3_confirmedSlot, Cond.instanceMethod yX3_confirmedSlot, Cond.selects RX3 yX3_confirmedSlot yX3_confirmedSlot]
def wsX5_confirm_r2 : List Cond := [Cond.initialized RX3, Cond.code yX3_confirmedSlot cX3_confirmedSlot 1 (some .int), Cond.methodLink RX3 58 yX3_recordInForce, Cond.instanceMethod yX3_recordInForce, Cond.selects RX3 yX3_recordInForce yX3_recordInForce, Cond.code yX3_recordInForce cX3_recordInForce 1 (some .int), Cond.methodLink RX3 54 yX3_isRecordValid, Cond.instanceMethod yX3_isRecordValid, Cond.selects RX3 yX3_isRecordValid yX3_isRecordValid, Cond.code yX3_isRecordValid cX3_isRecordValid 2 (some .boolean), Cond.methodLink RX3 51 yX3_recordWord, Cond.instanceMethod yX3_recordWord, Cond.selects RX3 yX3_recordWord yX3_recordWord, Cond.code yX3_recordWord cX3_recordWord 3 (some .int), Cond.fieldLink RX3 14 "Bootstay$Store" "flash" "LBootstay$Flash;", Cond.methodLink RX3 34 yX2_read, Cond.instanceMethod yX2_read, Cond.selects RX2 yX2_read yX2_read, Cond.initialized RX2, Cond.code yX2_read cX2_read 2 (some .int), Cond.fieldLink RX2 11 "Bootstay$Flash" "words" "[I", Cond.methodLink RX3 26 yX3_checkOf, Cond.static yX3_checkOf, Cond.code yX3_checkOf cX3_checkOf 3 (some .int)]
def wsX5_confirm_r3 : List Cond := [Cond.methodLink RX3 62 yX3_confirmedIn, Cond.static yX3_confirmedIn, Cond.code yX3_confirmedIn cX3_confirmedIn 1 (some .int), Cond.methodLink RX5 97 yX3_recordCounter, Cond.instanceMethod yX3_recordCounter, Cond.selects RX3 yX3_recordCounter yX3_recordCounter, Cond.code yX3_recordCounter cX3_recordCounter 1 (some .int), Cond.methodLink RX5 93 yX3_slotWord, Cond.instanceMethod yX3_slotWord, Cond.selects RX3 yX3_slotWord yX3_slotWord, Cond.code yX3_slotWord cX3_slotWord 3 (some .int), Cond.methodLink RX5 152 yX3_settledState, Cond.static yX3_settledState, Cond.code yX3_settledState cX3_settledState 1 (some .int), Cond.methodLink RX5 156 yX3_writeRecord, Cond.instanceMethod yX3_writeRecord, Cond.selects RX3 yX3_writeRecord yX3_writeRecord, Cond.code yX3_writeRecord cX3_writeRecord 6 (some .boolean), Cond.methodLink RX3 71 yX3_writeRecordWord, Cond.instanceMethod yX3_writeRecordWord, Cond.selects RX3 yX3_writeRecordWord yX3_writeRecordWord, Cond.code yX3_writeRecordWord cX3_writeRecordWord 4 (some .boolean), Cond.methodLink RX3 38 yX2_write, Cond.instanceMethod yX2_write]
def wsX5_confirm_r4 : List Cond := [Cond.selects RX2 yX2_write yX2_write, Cond.code yX2_write cX2_write 3 (some .boolean), Cond.fieldLink RX2 17 "Bootstay$Flash" "begun" "I", Cond.fieldLink RX2 21 "Bootstay$Flash" "writesToFailure" "I", Cond.methodLink RX2 24 yX2_read, Cond.methodLink RX2 28 yX2_preset, Cond.instanceMethod yX2_preset, Cond.selects RX2 yX2_preset yX2_preset, Cond.code yX2_preset cX2_preset 3 none, Cond.methodLink RX5 113 yX5_stayOn, Cond.instanceMethod yX5_stayOn, Cond.selects RX5 yX5_stayOn yX5_stayOn, Cond.code yX5_stayOn cX5_stayOn 2 (some .boolean), Cond.methodLink RX5 64 yX5_losePower, Cond.instanceMethod yX5_losePower, Cond.selects RX5 yX5_losePower yX5_losePower, Cond.code yX5_losePower cX5_losePower 1 none, Cond.fieldLink RX5 22 "Bootstay" "transfer" "LBootstay$Transfer;", Cond.methodLink RX5 139 yX4_end, Cond.instanceMethod yX4_end, Cond.selects RX4 yX4_end yX4_end, Cond.initialized RX4, Cond.code yX4_end cX4_end 1 none, Cond.fieldLink RX4 27 "Bootstay$Transfer" "isGoingOn" "Z"]
def wsX5_confirm : List Cond := .code yX5_confirm cX5_confirm 2 (some .boolean) :: ((wsX5_confirm_r1 ++ (wsX5_confirm_r2 ++ (wsX5_confirm_r3 ++ wsX5_confirm_r4))) ++ wsX50 ++ wsX30 ++ wsX20 ++ wsX40 ++ (vx_atS RX5 54 "java/lang/IllegalStateException" ["java/lang/RuntimeException", "java/lang/Exception"]).filter goodWord)
def wsX5_toCome : List Cond := .code yX5_toCome cX5_toCome 1 (some .int) :: ([.fieldLink RX5 22 "Bootstay" "transfer" "LBootstay$Transfer;", .methodLink RX5 160 yX4_bytesToCome, .instanceMethod yX4_bytesToCome, .selects RX4 yX4_bytesToCome yX4_bytesToCome, .initialized RX4, .code yX4_bytesToCome cX4_bytesToCome 1 (some .int), .fieldLink RX4 27 "Bootstay$Transfer" "isGoingOn" "Z", .fieldLink RX4 15 "Bootstay$Transfer" "length" "I", .fieldLink RX4 24 "Bootstay$Transfer" "come" "I"] ++ wsX50 ++ wsX40)
def wsX5_draft : List Cond := .code yX5_draft cX5_draft 2 (some .int) :: ([.classLink RX5 50 "java/lang/IllegalStateException", .initialized "java/lang/IllegalStateException", .fieldLink RX5 29 "Bootstay" "draftImage" "LBootstay$Draft;", .methodLink RX5 67 yX5_requireWithin, .static yX5_requireWithin, .initialized RX5, .code yX5_requireWithin cX5_requireWithin 3 none, .classLink RX5 124 "java/lang/IllegalArgumentException", .initialized "java/lang/IllegalArgumentException", .methodLink RX5 163 yX1_isFull, .instanceMethod yX1_isFull, .selects RX1 yX1_isFull yX1_isFull, .initialized RX1, .code yX1_isFull cX1_isFull 1 (some .boolean), .fieldLink RX1 9 "Bootstay$Draft" "size" "I", .fieldLink RX1 15 "Bootstay$Draft" "bytes" "[I", .methodLink RX5 168 yX1_append, .instanceMethod yX1_append, .selects RX1 yX1_append yX1_append, .code yX1_append cX1_append 2 (some .int)] ++ wsX50 ++ wsX10 ++ (vx_atS RX5 54 "java/lang/IllegalStateException" ["java/lang/RuntimeException", "java/lang/Exception"]).filter goodWord ++ (vx_atS RX5 128 "java/lang/IllegalArgumentException" ["java/lang/RuntimeException", "java/lang/Exception"]).filter goodWord)
def wsX5_clearDraft : List Cond := .code yX5_clearDraft cX5_clearDraft 1 (some .int) :: ([.fieldLink RX5 29 "Bootstay" "draftImage" "LBootstay$Draft;", .methodLink RX5 170 yX1_clear, .instanceMethod yX1_clear, .selects RX1 yX1_clear yX1_clear, .initialized RX1, .code yX1_clear cX1_clear 2 (some .int), .fieldLink RX1 9 "Bootstay$Draft" "size" "I"] ++ wsX50 ++ wsX10)
def wsX5_draftHash : List Cond := .code yX5_draftHash cX5_draftHash 1 (some .int) :: ([.fieldLink RX5 29 "Bootstay" "draftImage" "LBootstay$Draft;", .methodLink RX5 173 yX1_hash, .instanceMethod yX1_hash, .selects RX1 yX1_hash yX1_hash, .initialized RX1, .code yX1_hash cX1_hash 3 (some .int), .fieldLink RX1 9 "Bootstay$Draft" "size" "I", .methodLink RX1 19 yX1_byteAt, .instanceMethod yX1_byteAt, .selects RX1 yX1_byteAt yX1_byteAt, .code yX1_byteAt cX1_byteAt 2 (some .int), .fieldLink RX1 15 "Bootstay$Draft" "bytes" "[I", .static yX5_hashWith, .initialized RX5, .code yX5_hashWith cX5_hashWith 2 (some .int), .constant RX5 246 (65521)] ++ wsX50 ++ wsX10)
def wsX5_requireStartable_r1 : List Cond := [Cond.classLink RX5 50 "java/lang/IllegalStateException", Cond.initialized "java/lang/IllegalStateException", Cond.fieldLink RX5 10 "Bootstay" "store" "LBootstay$Store;", Cond.methodLink RX5 67 yX5_requireWithin, Cond.static yX5_requireWithin, Cond.initialized RX5, Cond.code yX5_requireWithin cX5_requireWithin 3 none, Cond.classLink RX5 124 "java/lang/IllegalArgumentException", Cond.initialized "java/lang/IllegalArgumentException", Cond.methodLink RX5 194 yX3_canStart, Cond.instanceMethod yX3_canStart, Cond.selects RX3 yX3_canStart yX3_canStart, Cond.initialized RX3, Cond.code yX3_canStart cX3_canStart 3 (some .boolean), Cond.methodLink RX3 48 yX3_slotWord, Cond.instanceMethod yX3_slotWord, Cond.selects RX3 yX3_slotWord yX3_slotWord, Cond.code yX3_slotWord cX3_slotWord 3 (some .int), Cond.fieldLink RX3 14 "Bootstay$Store" "flash" "LBootstay$Flash;", Cond.methodLink RX3 34 yX2_read, Cond.instanceMethod yX2_read, Cond.selects RX2 yX2_read yX2_read, Cond.initialized RX2, Cond.code yX2_read cX2_read 2 (some .int)]
def wsX5_requireStartable_r2 : List Cond := [Cond.fieldLink RX2 11 "Bootstay$Flash" "words" "[I", Cond.methodLink RX3 22 yX3_imageHash, Cond.instanceMethod yX3_imageHash, Cond.selects RX3 yX3_imageHash yX3_imageHash, Cond.code yX3_imageHash cX3_imageHash 5 (some .int), Cond.methodLink RX3 42 yX3_imageWord, Cond.instanceMethod yX3_imageWord, Cond.selects RX3 yX3_imageWord yX3_imageWord, Cond.code yX3_imageWord cX3_imageWord 3 (some .int), Cond.static yX5_hashWith, Cond.code yX5_hashWith cX5_hashWith 2 (some .int), Cond.constant RX5 246 (65521)]
def wsX5_requireStartable : List Cond := .code yX5_requireStartable cX5_requireStartable 2 none :: ((wsX5_requireStartable_r1 ++ wsX5_requireStartable_r2) ++ wsX50 ++ wsX30 ++ wsX20 ++ (vx_atS RX5 54 "java/lang/IllegalStateException" ["java/lang/RuntimeException", "java/lang/Exception"]).filter goodWord ++ (vx_atS RX5 128 "java/lang/IllegalArgumentException" ["java/lang/RuntimeException", "java/lang/Exception"]).filter goodWord)
def wsX5_deltaPieces_r1 : List Cond := [Cond.fieldLink RX5 38 "Bootstay" "delta" "LBootstay$Delta;", Cond.methodLink RX5 176 yX5_requireStartable, Cond.instanceMethod yX5_requireStartable, Cond.selects RX5 yX5_requireStartable yX5_requireStartable, Cond.initialized RX5, Cond.code yX5_requireStartable cX5_requireStartable 2 none, Cond.classLink RX5 50 "java/lang/IllegalStateException", Cond.initialized "java/lang/IllegalStateException", Cond.fieldLink RX5 10 "Bootstay" "store" "LBootstay$Store;", Cond.methodLink RX5 67 yX5_requireWithin, Cond.static yX5_requireWithin, Cond.code yX5_requireWithin cX5_requireWithin 3 none, Cond.classLink RX5 124 "java/lang/IllegalArgumentException", Cond.initialized "java/lang/IllegalArgumentException", Cond.methodLink RX5 194 yX3_canStart, Cond.instanceMethod yX3_canStart, Cond.selects RX3 yX3_canStart yX3_canStart, Cond.initialized RX3, Cond.code yX3_canStart cX3_canStart 3 (some .boolean), Cond.methodLink RX3 48 yX3_slotWord, Cond.instanceMethod yX3_slotWord, Cond.selects RX3 yX3_slotWord yX3_slotWord, Cond.code yX3_slotWord cX3_slotWord 3 (some .int), Cond.fieldLink RX3 14 "Bootstay$Store" "flash" "LBootstay$Flash;"]
def wsX5_deltaPieces_r2 : List Cond := [Cond.methodLink RX3 34 yX2_read, Cond.instanceMethod yX2_read, Cond.selects RX2 yX2_read yX2_read, Cond.initialized RX2, Cond.code yX2_read cX2_read 2 (some .int), Cond.fieldLink RX2 11 "Bootstay$Flash" "words" "[I", Cond.methodLink RX3 22 yX3_imageHash, Cond.instanceMethod yX3_imageHash, Cond.selects RX3 yX3_imageHash yX3_imageHash, Cond.code yX3_imageHash cX3_imageHash 5 (some .int), Cond.methodLink RX3 42 yX3_imageWord, Cond.instanceMethod yX3_imageWord, Cond.selects RX3 yX3_imageWord yX3_imageWord, Cond.code yX3_imageWord cX3_imageWord 3 (some .int), Cond.static yX5_hashWith, Cond.code yX5_hashWith cX5_hashWith 2 (some .int), Cond.constant RX5 246 (65521), Cond.methodLink RX5 179 yX0_pieceCount, Cond.instanceMethod yX0_pieceCount, Cond.selects RX0 yX0_pieceCount yX0_pieceCount, Cond.initialized RX0, Cond.code yX0_pieceCount cX0_pieceCount 4 (some .int), Cond.fieldLink RX0 9 "Bootstay$Delta" "draft" "LBootstay$Draft;", Cond.fieldLink RX0 19 "Bootstay$Draft" "size" "I"]
def wsX5_deltaPieces_r3 : List Cond := [Cond.methodLink RX0 25 yX0_pieceLength, Cond.instanceMethod yX0_pieceLength, Cond.selects RX0 yX0_pieceLength yX0_pieceLength, Cond.code yX0_pieceLength cX0_pieceLength 4 (some .int), Cond.methodLink RX0 29 yX0_runFrom, Cond.instanceMethod yX0_runFrom, Cond.selects RX0 yX0_runFrom yX0_runFrom, Cond.code yX0_runFrom cX0_runFrom 8 (some .int), Cond.fieldLink RX0 15 "Bootstay$Delta" "store" "LBootstay$Store;", Cond.methodLink RX0 38 yX3_slotWord, Cond.methodLink RX0 32 yX0_matchLength, Cond.instanceMethod yX0_matchLength, Cond.selects RX0 yX0_matchLength yX0_matchLength, Cond.code yX0_matchLength cX0_matchLength 6 (some .int), Cond.methodLink RX0 41 Lib.Math.min.name, Cond.static Lib.Math.min.name, Cond.initialized "java/lang/Math", Cond.code Lib.Math.min.name Lib.Math.min.code 2 (some .int), Cond.methodLink RX0 46 yX3_imageWord, Cond.methodLink RX0 49 yX1_byteAt, Cond.instanceMethod yX1_byteAt, Cond.selects RX1 yX1_byteAt yX1_byteAt, Cond.initialized RX1, Cond.code yX1_byteAt cX1_byteAt 2 (some .int)]
def wsX5_deltaPieces_r4 : List Cond := [Cond.fieldLink RX1 15 "Bootstay$Draft" "bytes" "[I"]
def wsX5_deltaPieces : List Cond := .code yX5_deltaPieces cX5_deltaPieces 2 (some .int) :: ((wsX5_deltaPieces_r1 ++ (wsX5_deltaPieces_r2 ++ (wsX5_deltaPieces_r3 ++ wsX5_deltaPieces_r4))) ++ wsX50 ++ wsX30 ++ wsX20 ++ wsX00 ++ wsX10 ++ (vx_atS RX5 54 "java/lang/IllegalStateException" ["java/lang/RuntimeException", "java/lang/Exception"]).filter goodWord ++ (vx_atS RX5 128 "java/lang/IllegalArgumentException" ["java/lang/RuntimeException", "java/lang/Exception"]).filter goodWord)
def wsX5_requirePiece : List Cond := .code yX5_requirePiece cX5_requirePiece 1 none :: ([.classLink RX5 197 "java/lang/IndexOutOfBoundsException", .initialized "java/lang/IndexOutOfBoundsException"] ++ (vx_atS RX5 201 "java/lang/IndexOutOfBoundsException" ["java/lang/RuntimeException", "java/lang/Exception"]).filter goodWord)
def wsX5_deltaLength_r1 : List Cond := [Cond.fieldLink RX5 38 "Bootstay" "delta" "LBootstay$Delta;", Cond.methodLink RX5 176 yX5_requireStartable, Cond.instanceMethod yX5_requireStartable, Cond.selects RX5 yX5_requireStartable yX5_requireStartable, Cond.initialized RX5, Cond.code yX5_requireStartable cX5_requireStartable 2 none, Cond.classLink RX5 50 "java/lang/IllegalStateException", Cond.initialized "java/lang/IllegalStateException", Cond.fieldLink RX5 10 "Bootstay" "store" "LBootstay$Store;", Cond.methodLink RX5 67 yX5_requireWithin, Cond.static yX5_requireWithin, Cond.code yX5_requireWithin cX5_requireWithin 3 none, Cond.classLink RX5 124 "java/lang/IllegalArgumentException", Cond.initialized "java/lang/IllegalArgumentException", Cond.methodLink RX5 194 yX3_canStart, Cond.instanceMethod yX3_canStart, Cond.selects RX3 yX3_canStart yX3_canStart, Cond.initialized RX3, Cond.code yX3_canStart cX3_canStart 3 (some .boolean), Cond.methodLink RX3 48 yX3_slotWord, Cond.instanceMethod yX3_slotWord, Cond.selects RX3 yX3_slotWord yX3_slotWord, Cond.code yX3_slotWord cX3_slotWord 3 (some .int), Cond.fieldLink RX3 14 "Bootstay$Store" "flash" "LBootstay$Flash;"]
def wsX5_deltaLength_r2 : List Cond := [Cond.methodLink RX3 34 yX2_read, Cond.instanceMethod yX2_read, Cond.selects RX2 yX2_read yX2_read, Cond.initialized RX2, Cond.code yX2_read cX2_read 2 (some .int), Cond.fieldLink RX2 11 "Bootstay$Flash" "words" "[I", Cond.methodLink RX3 22 yX3_imageHash, Cond.instanceMethod yX3_imageHash, Cond.selects RX3 yX3_imageHash yX3_imageHash, Cond.code yX3_imageHash cX3_imageHash 5 (some .int), Cond.methodLink RX3 42 yX3_imageWord, Cond.instanceMethod yX3_imageWord, Cond.selects RX3 yX3_imageWord yX3_imageWord, Cond.code yX3_imageWord cX3_imageWord 3 (some .int), Cond.static yX5_hashWith, Cond.code yX5_hashWith cX5_hashWith 2 (some .int), Cond.constant RX5 246 (65521), Cond.methodLink RX5 182 yX0_pieceStart, Cond.instanceMethod yX0_pieceStart, Cond.selects RX0 yX0_pieceStart yX0_pieceStart, Cond.initialized RX0, Cond.code yX0_pieceStart cX0_pieceStart 5 (some .int), Cond.fieldLink RX0 9 "Bootstay$Delta" "draft" "LBootstay$Draft;", Cond.fieldLink RX0 19 "Bootstay$Draft" "size" "I"]
def wsX5_deltaLength_r3 : List Cond := [Cond.methodLink RX0 25 yX0_pieceLength, Cond.instanceMethod yX0_pieceLength, Cond.selects RX0 yX0_pieceLength yX0_pieceLength, Cond.code yX0_pieceLength cX0_pieceLength 4 (some .int), Cond.methodLink RX0 29 yX0_runFrom, Cond.instanceMethod yX0_runFrom, Cond.selects RX0 yX0_runFrom yX0_runFrom, Cond.code yX0_runFrom cX0_runFrom 8 (some .int), Cond.fieldLink RX0 15 "Bootstay$Delta" "store" "LBootstay$Store;", Cond.methodLink RX0 38 yX3_slotWord, Cond.methodLink RX0 32 yX0_matchLength, Cond.instanceMethod yX0_matchLength, Cond.selects RX0 yX0_matchLength yX0_matchLength, Cond.code yX0_matchLength cX0_matchLength 6 (some .int), Cond.methodLink RX0 41 Lib.Math.min.name, Cond.static Lib.Math.min.name, Cond.initialized "java/lang/Math", Cond.code Lib.Math.min.name Lib.Math.min.code 2 (some .int), Cond.methodLink RX0 46 yX3_imageWord, Cond.methodLink RX0 49 yX1_byteAt, Cond.instanceMethod yX1_byteAt, Cond.selects RX1 yX1_byteAt yX1_byteAt, Cond.initialized RX1, Cond.code yX1_byteAt cX1_byteAt 2 (some .int)]
def wsX5_deltaLength_r4 : List Cond := [Cond.fieldLink RX1 15 "Bootstay$Draft" "bytes" "[I", Cond.methodLink RX5 185 yX5_requirePiece, Cond.static yX5_requirePiece, Cond.code yX5_requirePiece cX5_requirePiece 1 none, Cond.classLink RX5 197 "java/lang/IndexOutOfBoundsException", Cond.initialized "java/lang/IndexOutOfBoundsException", Cond.methodLink RX5 188 yX0_pieceLength]
def wsX5_deltaLength : List Cond := .code yX5_deltaLength cX5_deltaLength 4 (some .int) :: ((wsX5_deltaLength_r1 ++ (wsX5_deltaLength_r2 ++ (wsX5_deltaLength_r3 ++ wsX5_deltaLength_r4))) ++ wsX50 ++ wsX30 ++ wsX20 ++ wsX00 ++ wsX10 ++ (vx_atS RX5 54 "java/lang/IllegalStateException" ["java/lang/RuntimeException", "java/lang/Exception"]).filter goodWord ++ (vx_atS RX5 128 "java/lang/IllegalArgumentException" ["java/lang/RuntimeException", "java/lang/Exception"]).filter goodWord ++ (vx_atS RX5 201 "java/lang/IndexOutOfBoundsException" ["java/lang/RuntimeException", "java/lang/Exception"]).filter goodWord)
def wsX5_deltaFrom_r1 : List Cond := [Cond.fieldLink RX5 38 "Bootstay" "delta" "LBootstay$Delta;", Cond.methodLink RX5 176 yX5_requireStartable, Cond.instanceMethod yX5_requireStartable, Cond.selects RX5 yX5_requireStartable yX5_requireStartable, Cond.initialized RX5, Cond.code yX5_requireStartable cX5_requireStartable 2 none, Cond.classLink RX5 50 "java/lang/IllegalStateException", Cond.initialized "java/lang/IllegalStateException", Cond.fieldLink RX5 10 "Bootstay" "store" "LBootstay$Store;", Cond.methodLink RX5 67 yX5_requireWithin, Cond.static yX5_requireWithin, Cond.code yX5_requireWithin cX5_requireWithin 3 none, Cond.classLink RX5 124 "java/lang/IllegalArgumentException", Cond.initialized "java/lang/IllegalArgumentException", Cond.methodLink RX5 194 yX3_canStart, Cond.instanceMethod yX3_canStart, Cond.selects RX3 yX3_canStart yX3_canStart, Cond.initialized RX3, Cond.code yX3_canStart cX3_canStart 3 (some .boolean), Cond.methodLink RX3 48 yX3_slotWord, Cond.instanceMethod yX3_slotWord, Cond.selects RX3 yX3_slotWord yX3_slotWord, Cond.code yX3_slotWord cX3_slotWord 3 (some .int), Cond.fieldLink RX3 14 "Bootstay$Store" "flash" "LBootstay$Flash;"]
def wsX5_deltaFrom_r2 : List Cond := [Cond.methodLink RX3 34 yX2_read, Cond.instanceMethod yX2_read, Cond.selects RX2 yX2_read yX2_read, Cond.initialized RX2, Cond.code yX2_read cX2_read 2 (some .int), Cond.fieldLink RX2 11 "Bootstay$Flash" "words" "[I", Cond.methodLink RX3 22 yX3_imageHash, Cond.instanceMethod yX3_imageHash, Cond.selects RX3 yX3_imageHash yX3_imageHash, Cond.code yX3_imageHash cX3_imageHash 5 (some .int), Cond.methodLink RX3 42 yX3_imageWord, Cond.instanceMethod yX3_imageWord, Cond.selects RX3 yX3_imageWord yX3_imageWord, Cond.code yX3_imageWord cX3_imageWord 3 (some .int), Cond.static yX5_hashWith, Cond.code yX5_hashWith cX5_hashWith 2 (some .int), Cond.constant RX5 246 (65521), Cond.methodLink RX5 182 yX0_pieceStart, Cond.instanceMethod yX0_pieceStart, Cond.selects RX0 yX0_pieceStart yX0_pieceStart, Cond.initialized RX0, Cond.code yX0_pieceStart cX0_pieceStart 5 (some .int), Cond.fieldLink RX0 9 "Bootstay$Delta" "draft" "LBootstay$Draft;", Cond.fieldLink RX0 19 "Bootstay$Draft" "size" "I"]
def wsX5_deltaFrom_r3 : List Cond := [Cond.methodLink RX0 25 yX0_pieceLength, Cond.instanceMethod yX0_pieceLength, Cond.selects RX0 yX0_pieceLength yX0_pieceLength, Cond.code yX0_pieceLength cX0_pieceLength 4 (some .int), Cond.methodLink RX0 29 yX0_runFrom, Cond.instanceMethod yX0_runFrom, Cond.selects RX0 yX0_runFrom yX0_runFrom, Cond.code yX0_runFrom cX0_runFrom 8 (some .int), Cond.fieldLink RX0 15 "Bootstay$Delta" "store" "LBootstay$Store;", Cond.methodLink RX0 38 yX3_slotWord, Cond.methodLink RX0 32 yX0_matchLength, Cond.instanceMethod yX0_matchLength, Cond.selects RX0 yX0_matchLength yX0_matchLength, Cond.code yX0_matchLength cX0_matchLength 6 (some .int), Cond.methodLink RX0 41 Lib.Math.min.name, Cond.static Lib.Math.min.name, Cond.initialized "java/lang/Math", Cond.code Lib.Math.min.name Lib.Math.min.code 2 (some .int), Cond.methodLink RX0 46 yX3_imageWord, Cond.methodLink RX0 49 yX1_byteAt, Cond.instanceMethod yX1_byteAt, Cond.selects RX1 yX1_byteAt yX1_byteAt, Cond.initialized RX1, Cond.code yX1_byteAt cX1_byteAt 2 (some .int)]
def wsX5_deltaFrom_r4 : List Cond := [Cond.fieldLink RX1 15 "Bootstay$Draft" "bytes" "[I", Cond.methodLink RX5 185 yX5_requirePiece, Cond.static yX5_requirePiece, Cond.code yX5_requirePiece cX5_requirePiece 1 none, Cond.classLink RX5 197 "java/lang/IndexOutOfBoundsException", Cond.initialized "java/lang/IndexOutOfBoundsException", Cond.methodLink RX5 191 yX0_runFrom]
def wsX5_deltaFrom : List Cond := .code yX5_deltaFrom cX5_deltaFrom 4 (some .int) :: ((wsX5_deltaFrom_r1 ++ (wsX5_deltaFrom_r2 ++ (wsX5_deltaFrom_r3 ++ wsX5_deltaFrom_r4))) ++ wsX50 ++ wsX30 ++ wsX20 ++ wsX00 ++ wsX10 ++ (vx_atS RX5 54 "java/lang/IllegalStateException" ["java/lang/RuntimeException", "java/lang/Exception"]).filter goodWord ++ (vx_atS RX5 128 "java/lang/IllegalArgumentException" ["java/lang/RuntimeException", "java/lang/Exception"]).filter goodWord ++ (vx_atS RX5 201 "java/lang/IndexOutOfBoundsException" ["java/lang/RuntimeException", "java/lang/Exception"]).filter goodWord)
def wsX5_isStartable_r1 : List Cond := [Cond.fieldLink RX5 10 "Bootstay" "store" "LBootstay$Store;", Cond.methodLink RX5 67 yX5_requireWithin, Cond.static yX5_requireWithin, Cond.initialized RX5, Cond.code yX5_requireWithin cX5_requireWithin 3 none, Cond.classLink RX5 124 "java/lang/IllegalArgumentException", Cond.initialized "java/lang/IllegalArgumentException", Cond.methodLink RX5 194 yX3_canStart, Cond.instanceMethod yX3_canStart, Cond.selects RX3 yX3_canStart yX3_canStart, Cond.initialized RX3, Cond.code yX3_canStart cX3_canStart 3 (some .boolean), Cond.methodLink RX3 48 yX3_slotWord, Cond.instanceMethod yX3_slotWord, Cond.selects RX3 yX3_slotWord yX3_slotWord, Cond.code yX3_slotWord cX3_slotWord 3 (some .int), Cond.fieldLink RX3 14 "Bootstay$Store" "flash" "LBootstay$Flash;", Cond.methodLink RX3 34 yX2_read, Cond.instanceMethod yX2_read, Cond.selects RX2 yX2_read yX2_read, Cond.initialized RX2, Cond.code yX2_read cX2_read 2 (some .int), Cond.fieldLink RX2 11 "Bootstay$Flash" "words" "[I", Cond.methodLink RX3 22 yX3_imageHash]
def wsX5_isStartable_r2 : List Cond := [Cond.instanceMethod yX3_imageHash, Cond.selects RX3 yX3_imageHash yX3_imageHash, Cond.code yX3_imageHash cX3_imageHash 5 (some .int), Cond.methodLink RX3 42 yX3_imageWord, Cond.instanceMethod yX3_imageWord, Cond.selects RX3 yX3_imageWord yX3_imageWord, Cond.code yX3_imageWord cX3_imageWord 3 (some .int), Cond.static yX5_hashWith, Cond.code yX5_hashWith cX5_hashWith 2 (some .int), Cond.constant RX5 246 (65521)]
def wsX5_isStartable : List Cond := .code yX5_isStartable cX5_isStartable 2 (some .boolean) :: ((wsX5_isStartable_r1 ++ wsX5_isStartable_r2) ++ wsX50 ++ wsX30 ++ wsX20 ++ (vx_atS RX5 128 "java/lang/IllegalArgumentException" ["java/lang/RuntimeException", "java/lang/Exception"]).filter goodWord)
def wsX5_version : List Cond := .code yX5_version cX5_version 2 (some .int) :: ([.fieldLink RX5 10 "Bootstay" "store" "LBootstay$Store;", .methodLink RX5 67 yX5_requireWithin, .static yX5_requireWithin, .initialized RX5, .code yX5_requireWithin cX5_requireWithin 3 none, .classLink RX5 124 "java/lang/IllegalArgumentException", .initialized "java/lang/IllegalArgumentException", .methodLink RX5 93 yX3_slotWord, .instanceMethod yX3_slotWord, .selects RX3 yX3_slotWord yX3_slotWord, .initialized RX3, .code yX3_slotWord cX3_slotWord 3 (some .int), .fieldLink RX3 14 "Bootstay$Store" "flash" "LBootstay$Flash;", .methodLink RX3 34 yX2_read, .instanceMethod yX2_read, .selects RX2 yX2_read yX2_read, .initialized RX2, .code yX2_read cX2_read 2 (some .int), .fieldLink RX2 11 "Bootstay$Flash" "words" "[I"] ++ wsX50 ++ wsX30 ++ wsX20 ++ (vx_atS RX5 128 "java/lang/IllegalArgumentException" ["java/lang/RuntimeException", "java/lang/Exception"]).filter goodWord)
def wsX5_imageByte : List Cond := .code yX5_imageByte cX5_imageByte 3 (some .int) :: ([.classLink RX5 197 "java/lang/IndexOutOfBoundsException", .initialized "java/lang/IndexOutOfBoundsException", .fieldLink RX5 10 "Bootstay" "store" "LBootstay$Store;", .methodLink RX5 67 yX5_requireWithin, .static yX5_requireWithin, .initialized RX5, .code yX5_requireWithin cX5_requireWithin 3 none, .classLink RX5 124 "java/lang/IllegalArgumentException", .initialized "java/lang/IllegalArgumentException", .methodLink RX5 129 yX3_imageWord, .instanceMethod yX3_imageWord, .selects RX3 yX3_imageWord yX3_imageWord, .initialized RX3, .code yX3_imageWord cX3_imageWord 3 (some .int), .fieldLink RX3 14 "Bootstay$Store" "flash" "LBootstay$Flash;", .methodLink RX3 34 yX2_read, .instanceMethod yX2_read, .selects RX2 yX2_read yX2_read, .initialized RX2, .code yX2_read cX2_read 2 (some .int), .fieldLink RX2 11 "Bootstay$Flash" "words" "[I"] ++ wsX50 ++ wsX30 ++ wsX20 ++ (vx_atS RX5 201 "java/lang/IndexOutOfBoundsException" ["java/lang/RuntimeException", "java/lang/Exception"]).filter goodWord ++ (vx_atS RX5 128 "java/lang/IllegalArgumentException" ["java/lang/RuntimeException", "java/lang/Exception"]).filter goodWord)
def wsX5_record : List Cond := .code yX5_record cX5_record 1 (some .int) :: ([.fieldLink RX5 10 "Bootstay" "store" "LBootstay$Store;", .methodLink RX5 202 yX3_recordInForce, .instanceMethod yX3_recordInForce, .selects RX3 yX3_recordInForce yX3_recordInForce, .initialized RX3, .code yX3_recordInForce cX3_recordInForce 1 (some .int), .methodLink RX3 54 yX3_isRecordValid, .instanceMethod yX3_isRecordValid, .selects RX3 yX3_isRecordValid yX3_isRecordValid, .code yX3_isRecordValid cX3_isRecordValid 2 (some .boolean), .methodLink RX3 51 yX3_recordWord, .instanceMethod yX3_recordWord, .selects RX3 yX3_recordWord yX3_recordWord, .code yX3_recordWord cX3_recordWord 3 (some .int), .fieldLink RX3 14 "Bootstay$Store" "flash" "LBootstay$Flash;", .methodLink RX3 34 yX2_read, .instanceMethod yX2_read, .selects RX2 yX2_read yX2_read, .initialized RX2, .code yX2_read cX2_read 2 (some .int), .fieldLink RX2 11 "Bootstay$Flash" "words" "[I", .methodLink RX3 26 yX3_checkOf, .static yX3_checkOf, .code yX3_checkOf cX3_checkOf 3 (some .int)] ++ wsX50 ++ wsX30 ++ wsX20)
def wsX5_isValid_r1 : List Cond := [Cond.fieldLink RX5 10 "Bootstay" "store" "LBootstay$Store;", Cond.methodLink RX5 67 yX5_requireWithin, Cond.static yX5_requireWithin, Cond.initialized RX5, Cond.code yX5_requireWithin cX5_requireWithin 3 none, Cond.classLink RX5 124 "java/lang/IllegalArgumentException", Cond.initialized "java/lang/IllegalArgumentException", Cond.methodLink RX5 205 yX3_isRecordValid, Cond.instanceMethod yX3_isRecordValid, Cond.selects RX3 yX3_isRecordValid yX3_isRecordValid, Cond.initialized RX3, Cond.code yX3_isRecordValid cX3_isRecordValid 2 (some .boolean), Cond.methodLink RX3 51 yX3_recordWord, Cond.instanceMethod yX3_recordWord, Cond.selects RX3 yX3_recordWord yX3_recordWord, Cond.code yX3_recordWord cX3_recordWord 3 (some .int), Cond.fieldLink RX3 14 "Bootstay$Store" "flash" "LBootstay$Flash;", Cond.methodLink RX3 34 yX2_read, Cond.instanceMethod yX2_read, Cond.selects RX2 yX2_read yX2_read, Cond.initialized RX2, Cond.code yX2_read cX2_read 2 (some .int), Cond.fieldLink RX2 11 "Bootstay$Flash" "words" "[I", Cond.methodLink RX3 26 yX3_checkOf]
def wsX5_isValid_r2 : List Cond := [Cond.static yX3_checkOf, Cond.code yX3_checkOf cX3_checkOf 3 (some .int)]
def wsX5_isValid : List Cond := .code yX5_isValid cX5_isValid 2 (some .boolean) :: ((wsX5_isValid_r1 ++ wsX5_isValid_r2) ++ wsX50 ++ wsX30 ++ wsX20 ++ (vx_atS RX5 128 "java/lang/IllegalArgumentException" ["java/lang/RuntimeException", "java/lang/Exception"]).filter goodWord)
def wsX5_confirmed_r1 : List Cond := [Cond.fieldLink RX5 10 "Bootstay" "store" "LBootstay$Store;", Cond.methodLink RX5 81 yX3_confirmedSlot, Cond.instanceMethod yX3_confirmedSlot, Cond.selects RX3 yX3_confirmedSlot yX3_confirmedSlot, Cond.initialized RX3, Cond.code yX3_confirmedSlot cX3_confirmedSlot 1 (some .int), Cond.methodLink RX3 58 yX3_recordInForce, Cond.instanceMethod yX3_recordInForce, Cond.selects RX3 yX3_recordInForce yX3_recordInForce, Cond.code yX3_recordInForce cX3_recordInForce 1 (some .int), Cond.methodLink RX3 54 yX3_isRecordValid, Cond.instanceMethod yX3_isRecordValid, Cond.selects RX3 yX3_isRecordValid yX3_isRecordValid, Cond.code yX3_isRecordValid cX3_isRecordValid 2 (some .boolean), Cond.methodLink RX3 51 yX3_recordWord, Cond.instanceMethod yX3_recordWord, Cond.selects RX3 yX3_recordWord yX3_recordWord, Cond.code yX3_recordWord cX3_recordWord 3 (some .int), Cond.fieldLink RX3 14 "Bootstay$Store" "flash" "LBootstay$Flash;", Cond.methodLink RX3 34 yX2_read, Cond.instanceMethod yX2_read, Cond.selects RX2 yX2_read yX2_read, Cond.initialized RX2, Cond.code yX2_read cX2_read 2 (some .int)]
def wsX5_confirmed_r2 : List Cond := [Cond.fieldLink RX2 11 "Bootstay$Flash" "words" "[I", Cond.methodLink RX3 26 yX3_checkOf, Cond.static yX3_checkOf, Cond.code yX3_checkOf cX3_checkOf 3 (some .int), Cond.methodLink RX3 62 yX3_confirmedIn, Cond.static yX3_confirmedIn, Cond.code yX3_confirmedIn cX3_confirmedIn 1 (some .int)]
def wsX5_confirmed : List Cond := .code yX5_confirmed cX5_confirmed 1 (some .int) :: ((wsX5_confirmed_r1 ++ wsX5_confirmed_r2) ++ wsX50 ++ wsX30 ++ wsX20)
def wsX5_tries_r1 : List Cond := [Cond.fieldLink RX5 10 "Bootstay" "store" "LBootstay$Store;", Cond.methodLink RX5 208 yX3_triesLeft, Cond.instanceMethod yX3_triesLeft, Cond.selects RX3 yX3_triesLeft yX3_triesLeft, Cond.initialized RX3, Cond.code yX3_triesLeft cX3_triesLeft 1 (some .int), Cond.methodLink RX3 58 yX3_recordInForce, Cond.instanceMethod yX3_recordInForce, Cond.selects RX3 yX3_recordInForce yX3_recordInForce, Cond.code yX3_recordInForce cX3_recordInForce 1 (some .int), Cond.methodLink RX3 54 yX3_isRecordValid, Cond.instanceMethod yX3_isRecordValid, Cond.selects RX3 yX3_isRecordValid yX3_isRecordValid, Cond.code yX3_isRecordValid cX3_isRecordValid 2 (some .boolean), Cond.methodLink RX3 51 yX3_recordWord, Cond.instanceMethod yX3_recordWord, Cond.selects RX3 yX3_recordWord yX3_recordWord, Cond.code yX3_recordWord cX3_recordWord 3 (some .int), Cond.fieldLink RX3 14 "Bootstay$Store" "flash" "LBootstay$Flash;", Cond.methodLink RX3 34 yX2_read, Cond.instanceMethod yX2_read, Cond.selects RX2 yX2_read yX2_read, Cond.initialized RX2, Cond.code yX2_read cX2_read 2 (some .int)]
def wsX5_tries_r2 : List Cond := [Cond.fieldLink RX2 11 "Bootstay$Flash" "words" "[I", Cond.methodLink RX3 26 yX3_checkOf, Cond.static yX3_checkOf, Cond.code yX3_checkOf cX3_checkOf 3 (some .int), Cond.methodLink RX3 68 yX3_triesIn, Cond.static yX3_triesIn, Cond.code yX3_triesIn cX3_triesIn 1 (some .int), Cond.methodLink RX3 65 yX3_isTrialIn, Cond.static yX3_isTrialIn, Cond.code yX3_isTrialIn cX3_isTrialIn 1 (some .boolean)]
def wsX5_tries : List Cond := .code yX5_tries cX5_tries 1 (some .int) :: ((wsX5_tries_r1 ++ wsX5_tries_r2) ++ wsX50 ++ wsX30 ++ wsX20)
def wsX5_counter_r1 : List Cond := [Cond.fieldLink RX5 10 "Bootstay" "store" "LBootstay$Store;", Cond.methodLink RX5 97 yX3_recordCounter, Cond.instanceMethod yX3_recordCounter, Cond.selects RX3 yX3_recordCounter yX3_recordCounter, Cond.initialized RX3, Cond.code yX3_recordCounter cX3_recordCounter 1 (some .int), Cond.methodLink RX3 58 yX3_recordInForce, Cond.instanceMethod yX3_recordInForce, Cond.selects RX3 yX3_recordInForce yX3_recordInForce, Cond.code yX3_recordInForce cX3_recordInForce 1 (some .int), Cond.methodLink RX3 54 yX3_isRecordValid, Cond.instanceMethod yX3_isRecordValid, Cond.selects RX3 yX3_isRecordValid yX3_isRecordValid, Cond.code yX3_isRecordValid cX3_isRecordValid 2 (some .boolean), Cond.methodLink RX3 51 yX3_recordWord, Cond.instanceMethod yX3_recordWord, Cond.selects RX3 yX3_recordWord yX3_recordWord, Cond.code yX3_recordWord cX3_recordWord 3 (some .int), Cond.fieldLink RX3 14 "Bootstay$Store" "flash" "LBootstay$Flash;", Cond.methodLink RX3 34 yX2_read, Cond.instanceMethod yX2_read, Cond.selects RX2 yX2_read yX2_read, Cond.initialized RX2, Cond.code yX2_read cX2_read 2 (some .int)]
def wsX5_counter_r2 : List Cond := [Cond.fieldLink RX2 11 "Bootstay$Flash" "words" "[I", Cond.methodLink RX3 26 yX3_checkOf, Cond.static yX3_checkOf, Cond.code yX3_checkOf cX3_checkOf 3 (some .int)]
def wsX5_counter : List Cond := .code yX5_counter cX5_counter 1 (some .int) :: ((wsX5_counter_r1 ++ wsX5_counter_r2) ++ wsX50 ++ wsX30 ++ wsX20)
def wsX5_safeFinish_r1 : List Cond := [Cond.fieldLink RX5 16 "Bootstay" "rehearsal" "LBootstay$Store;", Cond.fieldLink RX5 10 "Bootstay" "store" "LBootstay$Store;", Cond.fieldLink RX5 71 "Bootstay$Store" "flash" "LBootstay$Flash;", Cond.fieldLink RX5 22 "Bootstay" "transfer" "LBootstay$Transfer;", Cond.methodLink RX5 132 yX5_requireFinishable, Cond.instanceMethod yX5_requireFinishable, Cond.selects RX5 yX5_requireFinishable yX5_requireFinishable, Cond.initialized RX5, Cond.code yX5_requireFinishable cX5_requireFinishable 2 none, Cond.classLink RX5 50 "java/lang/IllegalStateException", Cond.initialized "java/lang/IllegalStateException", Cond.fieldLink RX5 226 "Bootstay$Transfer" "length" "I", Cond.fieldLink RX5 232 "Bootstay$Transfer" "hash" "I", Cond.methodLink RX5 67 yX5_requireWithin, Cond.static yX5_requireWithin, Cond.code yX5_requireWithin cX5_requireWithin 3 none, Cond.classLink RX5 124 "java/lang/IllegalArgumentException", Cond.initialized "java/lang/IllegalArgumentException", Cond.methodLink RX5 160 yX4_bytesToCome, Cond.instanceMethod yX4_bytesToCome, Cond.selects RX4 yX4_bytesToCome yX4_bytesToCome, Cond.initialized RX4, Cond.code yX4_bytesToCome cX4_bytesToCome 1 (some .int), Cond.fieldLink RX4 27 "Bootstay$Transfer" "isGoingOn" "Z"]
def wsX5_safeFinish_r2 : List Cond := [Cond.fieldLink RX4 15 "Bootstay$Transfer" "length" "I", Cond.fieldLink RX4 24 "Bootstay$Transfer" "come" "I", Cond.methodLink RX5 106 yX5_idleSlot, Cond.instanceMethod yX5_idleSlot, Cond.selects RX5 yX5_idleSlot yX5_idleSlot, Cond.code yX5_idleSlot cX5_idleSlot 1 (some .int), Cond.fieldLink RX5 42 "Bootstay" "runningSlot" "I", Cond.methodLink RX5 229 yX3_imageHash, Cond.instanceMethod yX3_imageHash, Cond.selects RX3 yX3_imageHash yX3_imageHash, Cond.initialized RX3, Cond.code yX3_imageHash cX3_imageHash 5 (some .int), Cond.methodLink RX3 42 yX3_imageWord, Cond.instanceMethod yX3_imageWord, Cond.selects RX3 yX3_imageWord yX3_imageWord, Cond.code yX3_imageWord cX3_imageWord 3 (some .int), Cond.fieldLink RX3 14 "Bootstay$Store" "flash" "LBootstay$Flash;", Cond.methodLink RX3 34 yX2_read, Cond.instanceMethod yX2_read, Cond.selects RX2 yX2_read yX2_read, Cond.initialized RX2, Cond.code yX2_read cX2_read 2 (some .int), Cond.fieldLink RX2 11 "Bootstay$Flash" "words" "[I", Cond.static yX5_hashWith]
def wsX5_safeFinish_r3 : List Cond := [Cond.code yX5_hashWith cX5_hashWith 2 (some .int), Cond.constant RX5 246 (65521), Cond.methodLink RX5 211 yX3_mirror, Cond.instanceMethod yX3_mirror, Cond.selects RX3 yX3_mirror yX3_mirror, Cond.code yX3_mirror cX3_mirror 2 none, Cond.methodLink RX3 30 yX2_mirror, Cond.instanceMethod yX2_mirror, Cond.selects RX2 yX2_mirror yX2_mirror, Cond.code yX2_mirror cX2_mirror 3 none, Cond.methodLink RX2 24 yX2_read, Cond.methodLink RX5 75 yX2_chooseFailure, Cond.instanceMethod yX2_chooseFailure, Cond.selects RX2 yX2_chooseFailure yX2_chooseFailure, Cond.code yX2_chooseFailure cX2_chooseFailure 2 none, Cond.fieldLink RX2 21 "Bootstay$Flash" "writesToFailure" "I", Cond.methodLink RX5 135 yX3_writeUpdate, Cond.instanceMethod yX3_writeUpdate, Cond.selects RX3 yX3_writeUpdate yX3_writeUpdate, Cond.code yX3_writeUpdate cX3_writeUpdate 4 (some .boolean), Cond.fieldLink RX3 103 "Bootstay$Transfer" "version" "I", Cond.fieldLink RX3 112 "Bootstay$Transfer" "length" "I", Cond.fieldLink RX3 115 "Bootstay$Transfer" "hash" "I", Cond.fieldLink RX3 118 "Bootstay$Transfer" "counter" "I"]
def wsX5_safeFinish_r4 : List Cond := [Cond.methodLink RX3 109 yX3_writeSlotWord, Cond.instanceMethod yX3_writeSlotWord, Cond.selects RX3 yX3_writeSlotWord yX3_writeSlotWord, Cond.code yX3_writeSlotWord cX3_writeSlotWord 4 (some .boolean), Cond.methodLink RX3 38 yX2_write, Cond.instanceMethod yX2_write, Cond.selects RX2 yX2_write yX2_write, Cond.code yX2_write cX2_write 3 (some .boolean), Cond.fieldLink RX2 17 "Bootstay$Flash" "begun" "I", Cond.methodLink RX2 28 yX2_preset, Cond.instanceMethod yX2_preset, Cond.selects RX2 yX2_preset yX2_preset, Cond.code yX2_preset cX2_preset 3 none, Cond.methodLink RX3 85 yX3_confirmedSlot, Cond.instanceMethod yX3_confirmedSlot, Cond.selects RX3 yX3_confirmedSlot yX3_confirmedSlot, Cond.code yX3_confirmedSlot cX3_confirmedSlot 1 (some .int), Cond.methodLink RX3 58 yX3_recordInForce, Cond.instanceMethod yX3_recordInForce, Cond.selects RX3 yX3_recordInForce yX3_recordInForce, Cond.code yX3_recordInForce cX3_recordInForce 1 (some .int), Cond.methodLink RX3 54 yX3_isRecordValid, Cond.instanceMethod yX3_isRecordValid, Cond.selects RX3 yX3_isRecordValid yX3_isRecordValid]
def wsX5_safeFinish_r5 : List Cond := [Cond.code yX3_isRecordValid cX3_isRecordValid 2 (some .boolean), Cond.methodLink RX3 51 yX3_recordWord, Cond.instanceMethod yX3_recordWord, Cond.selects RX3 yX3_recordWord yX3_recordWord, Cond.code yX3_recordWord cX3_recordWord 3 (some .int), Cond.methodLink RX3 26 yX3_checkOf, Cond.static yX3_checkOf, Cond.code yX3_checkOf cX3_checkOf 3 (some .int), Cond.methodLink RX3 62 yX3_confirmedIn, Cond.static yX3_confirmedIn, Cond.code yX3_confirmedIn cX3_confirmedIn 1 (some .int), Cond.methodLink RX3 94 yX3_trialState, Cond.static yX3_trialState, Cond.code yX3_trialState cX3_trialState 2 (some .int), Cond.methodLink RX3 97 yX3_recordCounter, Cond.instanceMethod yX3_recordCounter, Cond.selects RX3 yX3_recordCounter yX3_recordCounter, Cond.code yX3_recordCounter cX3_recordCounter 1 (some .int), Cond.methodLink RX3 100 yX3_writeRecord, Cond.instanceMethod yX3_writeRecord, Cond.selects RX3 yX3_writeRecord yX3_writeRecord, Cond.code yX3_writeRecord cX3_writeRecord 6 (some .boolean), Cond.methodLink RX3 71 yX3_writeRecordWord, Cond.instanceMethod yX3_writeRecordWord]
def wsX5_safeFinish_r6 : List Cond := [Cond.selects RX3 yX3_writeRecordWord yX3_writeRecordWord, Cond.code yX3_writeRecordWord cX3_writeRecordWord 4 (some .boolean), Cond.methodLink RX5 215 yX3_slotToStart, Cond.instanceMethod yX3_slotToStart, Cond.selects RX3 yX3_slotToStart yX3_slotToStart, Cond.code yX3_slotToStart cX3_slotToStart 6 (some .int), Cond.methodLink RX3 68 yX3_triesIn, Cond.static yX3_triesIn, Cond.code yX3_triesIn cX3_triesIn 1 (some .int), Cond.methodLink RX3 65 yX3_isTrialIn, Cond.static yX3_isTrialIn, Cond.code yX3_isTrialIn cX3_isTrialIn 1 (some .boolean), Cond.methodLink RX3 75 yX3_canStart, Cond.instanceMethod yX3_canStart, Cond.selects RX3 yX3_canStart yX3_canStart, Cond.code yX3_canStart cX3_canStart 3 (some .boolean), Cond.methodLink RX3 48 yX3_slotWord, Cond.instanceMethod yX3_slotWord, Cond.selects RX3 yX3_slotWord yX3_slotWord, Cond.code yX3_slotWord cX3_slotWord 3 (some .int), Cond.methodLink RX3 22 yX3_imageHash, Cond.methodLink RX5 194 yX3_canStart]
def wsX5_safeFinish : List Cond := .code yX5_safeFinish cX5_safeFinish 4 (some .int) :: ((wsX5_safeFinish_r1 ++ (wsX5_safeFinish_r2 ++ (wsX5_safeFinish_r3 ++ (wsX5_safeFinish_r4 ++ (wsX5_safeFinish_r5 ++ wsX5_safeFinish_r6))))) ++ wsX50 ++ wsX30 ++ wsX40 ++ wsX20 ++ (vx_atS RX5 54 "java/lang/IllegalStateException" ["java/lang/RuntimeException", "java/lang/Exception"]).filter goodWord ++ (vx_atS RX5 128 "java/lang/IllegalArgumentException" ["java/lang/RuntimeException", "java/lang/Exception"]).filter goodWord)
def wsX5_wouldStart_r1 : List Cond := [Cond.fieldLink RX5 10 "Bootstay" "store" "LBootstay$Store;", Cond.methodLink RX5 215 yX3_slotToStart, Cond.instanceMethod yX3_slotToStart, Cond.selects RX3 yX3_slotToStart yX3_slotToStart, Cond.initialized RX3, Cond.code yX3_slotToStart cX3_slotToStart 6 (some .int), Cond.methodLink RX3 58 yX3_recordInForce, Cond.instanceMethod yX3_recordInForce, Cond.selects RX3 yX3_recordInForce yX3_recordInForce, Cond.code yX3_recordInForce cX3_recordInForce 1 (some .int), Cond.methodLink RX3 54 yX3_isRecordValid, Cond.instanceMethod yX3_isRecordValid, Cond.selects RX3 yX3_isRecordValid yX3_isRecordValid, Cond.code yX3_isRecordValid cX3_isRecordValid 2 (some .boolean), Cond.methodLink RX3 51 yX3_recordWord, Cond.instanceMethod yX3_recordWord, Cond.selects RX3 yX3_recordWord yX3_recordWord, Cond.code yX3_recordWord cX3_recordWord 3 (some .int), Cond.fieldLink RX3 14 "Bootstay$Store" "flash" "LBootstay$Flash;", Cond.methodLink RX3 34 yX2_read, Cond.instanceMethod yX2_read, Cond.selects RX2 yX2_read yX2_read, Cond.initialized RX2, Cond.code yX2_read cX2_read 2 (some .int)]
def wsX5_wouldStart_r2 : List Cond := [Cond.fieldLink RX2 11 "Bootstay$Flash" "words" "[I", Cond.methodLink RX3 26 yX3_checkOf, Cond.static yX3_checkOf, Cond.code yX3_checkOf cX3_checkOf 3 (some .int), Cond.methodLink RX3 62 yX3_confirmedIn, Cond.static yX3_confirmedIn, Cond.code yX3_confirmedIn cX3_confirmedIn 1 (some .int), Cond.methodLink RX3 68 yX3_triesIn, Cond.static yX3_triesIn, Cond.code yX3_triesIn cX3_triesIn 1 (some .int), Cond.methodLink RX3 65 yX3_isTrialIn, Cond.static yX3_isTrialIn, Cond.code yX3_isTrialIn cX3_isTrialIn 1 (some .boolean), Cond.methodLink RX3 75 yX3_canStart, Cond.instanceMethod yX3_canStart, Cond.selects RX3 yX3_canStart yX3_canStart, Cond.code yX3_canStart cX3_canStart 3 (some .boolean), Cond.methodLink RX3 48 yX3_slotWord, Cond.instanceMethod yX3_slotWord, Cond.selects RX3 yX3_slotWord yX3_slotWord, Cond.code yX3_slotWord cX3_slotWord 3 (some .int), Cond.methodLink RX3 22 yX3_imageHash, Cond.instanceMethod yX3_imageHash, Cond.selects RX3 yX3_imageHash yX3_imageHash]
def wsX5_wouldStart_r3 : List Cond := [Cond.code yX3_imageHash cX3_imageHash 5 (some .int), Cond.methodLink RX3 42 yX3_imageWord, Cond.instanceMethod yX3_imageWord, Cond.selects RX3 yX3_imageWord yX3_imageWord, Cond.code yX3_imageWord cX3_imageWord 3 (some .int), Cond.static yX5_hashWith, Cond.initialized RX5, Cond.code yX5_hashWith cX5_hashWith 2 (some .int), Cond.constant RX5 246 (65521)]
def wsX5_wouldStart : List Cond := .code yX5_wouldStart cX5_wouldStart 1 (some .int) :: ((wsX5_wouldStart_r1 ++ (wsX5_wouldStart_r2 ++ wsX5_wouldStart_r3)) ++ wsX50 ++ wsX30 ++ wsX20)
def wsX6_hashed : List Cond := .code yX6_hashed cX6_hashed 2 (some .int) :: ([.constant RX6 40 (65521)])
def wsX6_hashIn : List Cond := .code yX6_hashIn cX6_hashIn 5 (some .int) :: ([.fieldLink RX6 7 "BootstayModel" "flash" "[I", .methodLink RX6 41 yX6_hashed, .static yX6_hashed, .initialized RX6, .code yX6_hashed cX6_hashed 2 (some .int), .constant RX6 40 (65521)] ++ wsX60)
def wsX6_rightCheck : List Cond := .code yX6_rightCheck cX6_rightCheck 3 (some .int) :: ([.fieldLink RX6 7 "BootstayModel" "flash" "[I"] ++ wsX60)
def wsX6_init : List Cond := .code yX6_init cX6_init 2 none :: ([.methodLink RX6 1 objectInit, .instanceMethod objectInit, .code objectInit ⟨#[0xb1]⟩ 1 none, .arrayClass .int, .fieldLink RX6 7 "BootstayModel" "flash" "[I", .fieldLink RX6 13 "BootstayModel" "kept" "[I", .fieldLink RX6 16 "BootstayModel" "running" "I", .fieldLink RX6 20 "BootstayModel" "left" "I", .fieldLink RX6 23 "BootstayModel" "come" "I", .fieldLink RX6 26 "BootstayModel" "draft" "[I", .methodLink RX6 29 yX6_hashIn, .instanceMethod yX6_hashIn, .selects RX6 yX6_hashIn yX6_hashIn, .initialized RX6, .code yX6_hashIn cX6_hashIn 5 (some .int), .methodLink RX6 41 yX6_hashed, .static yX6_hashed, .code yX6_hashed cX6_hashed 2 (some .int), .constant RX6 40 (65521), .methodLink RX6 33 yX6_rightCheck, .instanceMethod yX6_rightCheck, .selects RX6 yX6_rightCheck yX6_rightCheck, .code yX6_rightCheck cX6_rightCheck 3 (some .int)] ++ wsX60)
def wsX6_thrown : List Cond := .code yX6_thrown cX6_thrown 1 (some .int) :: ([.fieldLink RX6 37 "BootstayModel" "last" "I"] ++ wsX60)
def wsX6_in : List Cond := .code yX6_in cX6_in 3 (some .boolean) :: ([])
def wsX6_goes : List Cond := .code yX6_goes cX6_goes 3 (some .boolean) :: ([.fieldLink RX6 37 "BootstayModel" "last" "I"] ++ wsX60)
def wsX6_canStart : List Cond := .code yX6_canStart cX6_canStart 3 (some .boolean) :: ([.fieldLink RX6 7 "BootstayModel" "flash" "[I", .methodLink RX6 44 yX6_in, .static yX6_in, .initialized RX6, .code yX6_in cX6_in 3 (some .boolean), .methodLink RX6 29 yX6_hashIn, .instanceMethod yX6_hashIn, .selects RX6 yX6_hashIn yX6_hashIn, .code yX6_hashIn cX6_hashIn 5 (some .int), .methodLink RX6 41 yX6_hashed, .static yX6_hashed, .code yX6_hashed cX6_hashed 2 (some .int), .constant RX6 40 (65521)] ++ wsX60)
def wsX6_holds : List Cond := .code yX6_holds cX6_holds 2 (some .boolean) :: ([.fieldLink RX6 7 "BootstayModel" "flash" "[I", .methodLink RX6 33 yX6_rightCheck, .instanceMethod yX6_rightCheck, .selects RX6 yX6_rightCheck yX6_rightCheck, .initialized RX6, .code yX6_rightCheck cX6_rightCheck 3 (some .int)] ++ wsX60)
def wsX6_force : List Cond := .code yX6_force cX6_force 2 (some .int) :: ([.fieldLink RX6 7 "BootstayModel" "flash" "[I", .methodLink RX6 48 yX6_holds, .instanceMethod yX6_holds, .selects RX6 yX6_holds yX6_holds, .initialized RX6, .code yX6_holds cX6_holds 2 (some .boolean), .methodLink RX6 33 yX6_rightCheck, .instanceMethod yX6_rightCheck, .selects RX6 yX6_rightCheck yX6_rightCheck, .code yX6_rightCheck cX6_rightCheck 3 (some .int)] ++ wsX60)
def wsX6_inForce : List Cond := .code yX6_inForce cX6_inForce 2 (some .int) :: ([.fieldLink RX6 7 "BootstayModel" "flash" "[I", .methodLink RX6 52 yX6_force, .instanceMethod yX6_force, .selects RX6 yX6_force yX6_force, .initialized RX6, .code yX6_force cX6_force 2 (some .int), .methodLink RX6 48 yX6_holds, .instanceMethod yX6_holds, .selects RX6 yX6_holds yX6_holds, .code yX6_holds cX6_holds 2 (some .boolean), .methodLink RX6 33 yX6_rightCheck, .instanceMethod yX6_rightCheck, .selects RX6 yX6_rightCheck yX6_rightCheck, .code yX6_rightCheck cX6_rightCheck 3 (some .int)] ++ wsX60)
def wsX6_confirmedSlot : List Cond := .code yX6_confirmedSlot cX6_confirmedSlot 1 (some .int) :: ([.methodLink RX6 56 yX6_inForce, .instanceMethod yX6_inForce, .selects RX6 yX6_inForce yX6_inForce, .initialized RX6, .code yX6_inForce cX6_inForce 2 (some .int), .fieldLink RX6 7 "BootstayModel" "flash" "[I", .methodLink RX6 52 yX6_force, .instanceMethod yX6_force, .selects RX6 yX6_force yX6_force, .code yX6_force cX6_force 2 (some .int), .methodLink RX6 48 yX6_holds, .instanceMethod yX6_holds, .selects RX6 yX6_holds yX6_holds, .code yX6_holds cX6_holds 2 (some .boolean), .methodLink RX6 33 yX6_rightCheck, .instanceMethod yX6_rightCheck, .selects RX6 yX6_rightCheck yX6_rightCheck, .code yX6_rightCheck cX6_rightCheck 3 (some .int)] ++ wsX60)
def wsX6_isDue : List Cond := .code yX6_isDue cX6_isDue 1 (some .boolean) :: ([.methodLink RX6 56 yX6_inForce, .instanceMethod yX6_inForce, .selects RX6 yX6_inForce yX6_inForce, .initialized RX6, .code yX6_inForce cX6_inForce 2 (some .int), .fieldLink RX6 7 "BootstayModel" "flash" "[I", .methodLink RX6 52 yX6_force, .instanceMethod yX6_force, .selects RX6 yX6_force yX6_force, .code yX6_force cX6_force 2 (some .int), .methodLink RX6 48 yX6_holds, .instanceMethod yX6_holds, .selects RX6 yX6_holds yX6_holds, .code yX6_holds cX6_holds 2 (some .boolean), .methodLink RX6 33 yX6_rightCheck, .instanceMethod yX6_rightCheck, .selects RX6 yX6_rightCheck yX6_rightCheck, .code yX6_rightCheck cX6_rightCheck 3 (some .int)] ++ wsX60)
def wsX6_triesLeft : List Cond := .code yX6_triesLeft cX6_triesLeft 1 (some .int) :: ([.methodLink RX6 59 yX6_isDue, .instanceMethod yX6_isDue, .selects RX6 yX6_isDue yX6_isDue, .initialized RX6, .code yX6_isDue cX6_isDue 1 (some .boolean), .methodLink RX6 56 yX6_inForce, .instanceMethod yX6_inForce, .selects RX6 yX6_inForce yX6_inForce, .code yX6_inForce cX6_inForce 2 (some .int), .fieldLink RX6 7 "BootstayModel" "flash" "[I", .methodLink RX6 52 yX6_force, .instanceMethod yX6_force, .selects RX6 yX6_force yX6_force, .code yX6_force cX6_force 2 (some .int), .methodLink RX6 48 yX6_holds, .instanceMethod yX6_holds, .selects RX6 yX6_holds yX6_holds, .code yX6_holds cX6_holds 2 (some .boolean), .methodLink RX6 33 yX6_rightCheck, .instanceMethod yX6_rightCheck, .selects RX6 yX6_rightCheck yX6_rightCheck, .code yX6_rightCheck cX6_rightCheck 3 (some .int)] ++ wsX60)
def wsX6_goesOff : List Cond := .code yX6_goesOff cX6_goesOff 1 none :: ([.fieldLink RX6 63 "BootstayModel" "on" "Z", .fieldLink RX6 16 "BootstayModel" "running" "I", .fieldLink RX6 23 "BootstayModel" "come" "I"] ++ wsX60)
def wsX6_lays : List Cond := .code yX6_lays cX6_lays 3 (some .boolean) :: ([.fieldLink RX6 67 "BootstayModel" "writes" "I", .fieldLink RX6 20 "BootstayModel" "left" "I", .fieldLink RX6 7 "BootstayModel" "flash" "[I", .methodLink RX6 70 yX6_goesOff, .instanceMethod yX6_goesOff, .selects RX6 yX6_goesOff yX6_goesOff, .initialized RX6, .code yX6_goesOff cX6_goesOff 1 none, .fieldLink RX6 63 "BootstayModel" "on" "Z", .fieldLink RX6 16 "BootstayModel" "running" "I", .fieldLink RX6 23 "BootstayModel" "come" "I"] ++ wsX60)
def wsX6_records_r1 : List Cond := [Cond.fieldLink RX6 7 "BootstayModel" "flash" "[I", Cond.methodLink RX6 52 yX6_force, Cond.instanceMethod yX6_force, Cond.selects RX6 yX6_force yX6_force, Cond.initialized RX6, Cond.code yX6_force cX6_force 2 (some .int), Cond.methodLink RX6 48 yX6_holds, Cond.instanceMethod yX6_holds, Cond.selects RX6 yX6_holds yX6_holds, Cond.code yX6_holds cX6_holds 2 (some .boolean), Cond.methodLink RX6 33 yX6_rightCheck, Cond.instanceMethod yX6_rightCheck, Cond.selects RX6 yX6_rightCheck yX6_rightCheck, Cond.code yX6_rightCheck cX6_rightCheck 3 (some .int), Cond.methodLink RX6 73 yX6_lays, Cond.instanceMethod yX6_lays, Cond.selects RX6 yX6_lays yX6_lays, Cond.code yX6_lays cX6_lays 3 (some .boolean), Cond.fieldLink RX6 67 "BootstayModel" "writes" "I", Cond.fieldLink RX6 20 "BootstayModel" "left" "I", Cond.methodLink RX6 70 yX6_goesOff, Cond.instanceMethod yX6_goesOff, Cond.selects RX6 yX6_goesOff yX6_goesOff, Cond.code yX6_goesOff cX6_goesOff 1 none]
def wsX6_records_r2 : List Cond := [Cond.fieldLink RX6 63 "BootstayModel" "on" "Z", Cond.fieldLink RX6 16 "BootstayModel" "running" "I", Cond.fieldLink RX6 23 "BootstayModel" "come" "I"]
def wsX6_records : List Cond := .code yX6_records cX6_records 6 (some .boolean) :: ((wsX6_records_r1 ++ wsX6_records_r2) ++ wsX60)
def wsX6_willTry_r1 : List Cond := [Cond.fieldLink RX6 7 "BootstayModel" "flash" "[I", Cond.methodLink RX6 59 yX6_isDue, Cond.instanceMethod yX6_isDue, Cond.selects RX6 yX6_isDue yX6_isDue, Cond.initialized RX6, Cond.code yX6_isDue cX6_isDue 1 (some .boolean), Cond.methodLink RX6 56 yX6_inForce, Cond.instanceMethod yX6_inForce, Cond.selects RX6 yX6_inForce yX6_inForce, Cond.code yX6_inForce cX6_inForce 2 (some .int), Cond.methodLink RX6 52 yX6_force, Cond.instanceMethod yX6_force, Cond.selects RX6 yX6_force yX6_force, Cond.code yX6_force cX6_force 2 (some .int), Cond.methodLink RX6 48 yX6_holds, Cond.instanceMethod yX6_holds, Cond.selects RX6 yX6_holds yX6_holds, Cond.code yX6_holds cX6_holds 2 (some .boolean), Cond.methodLink RX6 33 yX6_rightCheck, Cond.instanceMethod yX6_rightCheck, Cond.selects RX6 yX6_rightCheck yX6_rightCheck, Cond.code yX6_rightCheck cX6_rightCheck 3 (some .int), Cond.methodLink RX6 77 yX6_triesLeft, Cond.instanceMethod yX6_triesLeft]
def wsX6_willTry_r2 : List Cond := [Cond.selects RX6 yX6_triesLeft yX6_triesLeft, Cond.code yX6_triesLeft cX6_triesLeft 1 (some .int), Cond.methodLink RX6 80 yX6_canStart, Cond.instanceMethod yX6_canStart, Cond.selects RX6 yX6_canStart yX6_canStart, Cond.code yX6_canStart cX6_canStart 3 (some .boolean), Cond.methodLink RX6 44 yX6_in, Cond.static yX6_in, Cond.code yX6_in cX6_in 3 (some .boolean), Cond.methodLink RX6 29 yX6_hashIn, Cond.instanceMethod yX6_hashIn, Cond.selects RX6 yX6_hashIn yX6_hashIn, Cond.code yX6_hashIn cX6_hashIn 5 (some .int), Cond.methodLink RX6 41 yX6_hashed, Cond.static yX6_hashed, Cond.code yX6_hashed cX6_hashed 2 (some .int), Cond.constant RX6 40 (65521)]
def wsX6_willTry : List Cond := .code yX6_willTry cX6_willTry 2 (some .boolean) :: ((wsX6_willTry_r1 ++ wsX6_willTry_r2) ++ wsX60)
def wsX6_switchOn_r1 : List Cond := [Cond.fieldLink RX6 63 "BootstayModel" "on" "Z", Cond.fieldLink RX6 37 "BootstayModel" "last" "I", Cond.fieldLink RX6 16 "BootstayModel" "running" "I", Cond.methodLink RX6 83 yX6_confirmedSlot, Cond.instanceMethod yX6_confirmedSlot, Cond.selects RX6 yX6_confirmedSlot yX6_confirmedSlot, Cond.initialized RX6, Cond.code yX6_confirmedSlot cX6_confirmedSlot 1 (some .int), Cond.methodLink RX6 56 yX6_inForce, Cond.instanceMethod yX6_inForce, Cond.selects RX6 yX6_inForce yX6_inForce, Cond.code yX6_inForce cX6_inForce 2 (some .int), Cond.fieldLink RX6 7 "BootstayModel" "flash" "[I", Cond.methodLink RX6 52 yX6_force, Cond.instanceMethod yX6_force, Cond.selects RX6 yX6_force yX6_force, Cond.code yX6_force cX6_force 2 (some .int), Cond.methodLink RX6 48 yX6_holds, Cond.instanceMethod yX6_holds, Cond.selects RX6 yX6_holds yX6_holds, Cond.code yX6_holds cX6_holds 2 (some .boolean), Cond.methodLink RX6 33 yX6_rightCheck, Cond.instanceMethod yX6_rightCheck, Cond.selects RX6 yX6_rightCheck yX6_rightCheck]
def wsX6_switchOn_r2 : List Cond := [Cond.code yX6_rightCheck cX6_rightCheck 3 (some .int), Cond.methodLink RX6 86 yX6_willTry, Cond.instanceMethod yX6_willTry, Cond.selects RX6 yX6_willTry yX6_willTry, Cond.code yX6_willTry cX6_willTry 2 (some .boolean), Cond.methodLink RX6 59 yX6_isDue, Cond.instanceMethod yX6_isDue, Cond.selects RX6 yX6_isDue yX6_isDue, Cond.code yX6_isDue cX6_isDue 1 (some .boolean), Cond.methodLink RX6 77 yX6_triesLeft, Cond.instanceMethod yX6_triesLeft, Cond.selects RX6 yX6_triesLeft yX6_triesLeft, Cond.code yX6_triesLeft cX6_triesLeft 1 (some .int), Cond.methodLink RX6 80 yX6_canStart, Cond.instanceMethod yX6_canStart, Cond.selects RX6 yX6_canStart yX6_canStart, Cond.code yX6_canStart cX6_canStart 3 (some .boolean), Cond.methodLink RX6 44 yX6_in, Cond.static yX6_in, Cond.code yX6_in cX6_in 3 (some .boolean), Cond.methodLink RX6 29 yX6_hashIn, Cond.instanceMethod yX6_hashIn, Cond.selects RX6 yX6_hashIn yX6_hashIn, Cond.code yX6_hashIn cX6_hashIn 5 (some .int)]
def wsX6_switchOn_r3 : List Cond := [Cond.methodLink RX6 41 yX6_hashed, Cond.static yX6_hashed, Cond.code yX6_hashed cX6_hashed 2 (some .int), Cond.constant RX6 40 (65521), Cond.methodLink RX6 89 yX6_records, Cond.instanceMethod yX6_records, Cond.selects RX6 yX6_records yX6_records, Cond.code yX6_records cX6_records 6 (some .boolean), Cond.methodLink RX6 73 yX6_lays, Cond.instanceMethod yX6_lays, Cond.selects RX6 yX6_lays yX6_lays, Cond.code yX6_lays cX6_lays 3 (some .boolean), Cond.fieldLink RX6 67 "BootstayModel" "writes" "I", Cond.fieldLink RX6 20 "BootstayModel" "left" "I", Cond.methodLink RX6 70 yX6_goesOff, Cond.instanceMethod yX6_goesOff, Cond.selects RX6 yX6_goesOff yX6_goesOff, Cond.code yX6_goesOff cX6_goesOff 1 none, Cond.fieldLink RX6 23 "BootstayModel" "come" "I"]
def wsX6_switchOn : List Cond := .code yX6_switchOn cX6_switchOn 4 (some .int) :: ((wsX6_switchOn_r1 ++ (wsX6_switchOn_r2 ++ wsX6_switchOn_r3)) ++ wsX60)
def wsX6_switchOff : List Cond := .code yX6_switchOff cX6_switchOff 2 (some .int) :: ([.fieldLink RX6 63 "BootstayModel" "on" "Z", .fieldLink RX6 37 "BootstayModel" "last" "I", .fieldLink RX6 16 "BootstayModel" "running" "I", .methodLink RX6 70 yX6_goesOff, .instanceMethod yX6_goesOff, .selects RX6 yX6_goesOff yX6_goesOff, .initialized RX6, .code yX6_goesOff cX6_goesOff 1 none, .fieldLink RX6 23 "BootstayModel" "come" "I"] ++ wsX60)
def wsX6_failAfter : List Cond := .code yX6_failAfter cX6_failAfter 2 none :: ([.fieldLink RX6 37 "BootstayModel" "last" "I", .fieldLink RX6 20 "BootstayModel" "left" "I", .methodLink RX6 44 yX6_in, .static yX6_in, .initialized RX6, .code yX6_in cX6_in 3 (some .boolean)] ++ wsX60)
def wsX6_isOn : List Cond := .code yX6_isOn cX6_isOn 1 (some .boolean) :: ([.fieldLink RX6 37 "BootstayModel" "last" "I", .fieldLink RX6 63 "BootstayModel" "on" "Z"] ++ wsX60)
def wsX6_running : List Cond := .code yX6_running cX6_running 1 (some .int) :: ([.fieldLink RX6 37 "BootstayModel" "last" "I", .fieldLink RX6 16 "BootstayModel" "running" "I"] ++ wsX60)
def wsX6_isTrial : List Cond := .code yX6_isTrial cX6_isTrial 1 (some .boolean) :: ([.fieldLink RX6 63 "BootstayModel" "on" "Z", .fieldLink RX6 16 "BootstayModel" "running" "I", .methodLink RX6 83 yX6_confirmedSlot, .instanceMethod yX6_confirmedSlot, .selects RX6 yX6_confirmedSlot yX6_confirmedSlot, .initialized RX6, .code yX6_confirmedSlot cX6_confirmedSlot 1 (some .int), .methodLink RX6 56 yX6_inForce, .instanceMethod yX6_inForce, .selects RX6 yX6_inForce yX6_inForce, .code yX6_inForce cX6_inForce 2 (some .int), .fieldLink RX6 7 "BootstayModel" "flash" "[I", .methodLink RX6 52 yX6_force, .instanceMethod yX6_force, .selects RX6 yX6_force yX6_force, .code yX6_force cX6_force 2 (some .int), .methodLink RX6 48 yX6_holds, .instanceMethod yX6_holds, .selects RX6 yX6_holds yX6_holds, .code yX6_holds cX6_holds 2 (some .boolean), .methodLink RX6 33 yX6_rightCheck, .instanceMethod yX6_rightCheck, .selects RX6 yX6_rightCheck yX6_rightCheck, .code yX6_rightCheck cX6_rightCheck 3 (some .int)] ++ wsX60)
def wsX6_isOnTrial_r1 : List Cond := [Cond.fieldLink RX6 37 "BootstayModel" "last" "I", Cond.methodLink RX6 92 yX6_isTrial, Cond.instanceMethod yX6_isTrial, Cond.selects RX6 yX6_isTrial yX6_isTrial, Cond.initialized RX6, Cond.code yX6_isTrial cX6_isTrial 1 (some .boolean), Cond.fieldLink RX6 63 "BootstayModel" "on" "Z", Cond.fieldLink RX6 16 "BootstayModel" "running" "I", Cond.methodLink RX6 83 yX6_confirmedSlot, Cond.instanceMethod yX6_confirmedSlot, Cond.selects RX6 yX6_confirmedSlot yX6_confirmedSlot, Cond.code yX6_confirmedSlot cX6_confirmedSlot 1 (some .int), Cond.methodLink RX6 56 yX6_inForce, Cond.instanceMethod yX6_inForce, Cond.selects RX6 yX6_inForce yX6_inForce, Cond.code yX6_inForce cX6_inForce 2 (some .int), Cond.fieldLink RX6 7 "BootstayModel" "flash" "[I", Cond.methodLink RX6 52 yX6_force, Cond.instanceMethod yX6_force, Cond.selects RX6 yX6_force yX6_force, Cond.code yX6_force cX6_force 2 (some .int), Cond.methodLink RX6 48 yX6_holds, Cond.instanceMethod yX6_holds, Cond.selects RX6 yX6_holds yX6_holds]
def wsX6_isOnTrial_r2 : List Cond := [Cond.code yX6_holds cX6_holds 2 (some .boolean), Cond.methodLink RX6 33 yX6_rightCheck, Cond.instanceMethod yX6_rightCheck, Cond.selects RX6 yX6_rightCheck yX6_rightCheck, Cond.code yX6_rightCheck cX6_rightCheck 3 (some .int)]
def wsX6_isOnTrial : List Cond := .code yX6_isOnTrial cX6_isOnTrial 1 (some .boolean) :: ((wsX6_isOnTrial_r1 ++ wsX6_isOnTrial_r2) ++ wsX60)
def wsX6_writes : List Cond := .code yX6_writes cX6_writes 1 (some .int) :: ([.fieldLink RX6 37 "BootstayModel" "last" "I", .fieldLink RX6 67 "BootstayModel" "writes" "I"] ++ wsX60)
def wsX6_offer_r1 : List Cond := [Cond.constant RX6 95 (65520), Cond.fieldLink RX6 63 "BootstayModel" "on" "Z", Cond.fieldLink RX6 7 "BootstayModel" "flash" "[I", Cond.fieldLink RX6 16 "BootstayModel" "running" "I", Cond.fieldLink RX6 23 "BootstayModel" "come" "I", Cond.fieldLink RX6 100 "BootstayModel" "newVersion" "I", Cond.fieldLink RX6 103 "BootstayModel" "newLength" "I", Cond.fieldLink RX6 106 "BootstayModel" "newHash" "I", Cond.fieldLink RX6 109 "BootstayModel" "newCounter" "I", Cond.methodLink RX6 44 yX6_in, Cond.static yX6_in, Cond.initialized RX6, Cond.code yX6_in cX6_in 3 (some .boolean), Cond.methodLink RX6 59 yX6_isDue, Cond.instanceMethod yX6_isDue, Cond.selects RX6 yX6_isDue yX6_isDue, Cond.code yX6_isDue cX6_isDue 1 (some .boolean), Cond.methodLink RX6 56 yX6_inForce, Cond.instanceMethod yX6_inForce, Cond.selects RX6 yX6_inForce yX6_inForce, Cond.code yX6_inForce cX6_inForce 2 (some .int), Cond.methodLink RX6 52 yX6_force, Cond.instanceMethod yX6_force, Cond.selects RX6 yX6_force yX6_force]
def wsX6_offer_r2 : List Cond := [Cond.code yX6_force cX6_force 2 (some .int), Cond.methodLink RX6 48 yX6_holds, Cond.instanceMethod yX6_holds, Cond.selects RX6 yX6_holds yX6_holds, Cond.code yX6_holds cX6_holds 2 (some .boolean), Cond.methodLink RX6 33 yX6_rightCheck, Cond.instanceMethod yX6_rightCheck, Cond.selects RX6 yX6_rightCheck yX6_rightCheck, Cond.code yX6_rightCheck cX6_rightCheck 3 (some .int), Cond.methodLink RX6 96 yX6_goes, Cond.instanceMethod yX6_goes, Cond.selects RX6 yX6_goes yX6_goes, Cond.code yX6_goes cX6_goes 3 (some .boolean), Cond.fieldLink RX6 37 "BootstayModel" "last" "I", Cond.methodLink RX6 73 yX6_lays, Cond.instanceMethod yX6_lays, Cond.selects RX6 yX6_lays yX6_lays, Cond.code yX6_lays cX6_lays 3 (some .boolean), Cond.fieldLink RX6 67 "BootstayModel" "writes" "I", Cond.fieldLink RX6 20 "BootstayModel" "left" "I", Cond.methodLink RX6 70 yX6_goesOff, Cond.instanceMethod yX6_goesOff, Cond.selects RX6 yX6_goesOff yX6_goesOff, Cond.code yX6_goesOff cX6_goesOff 1 none]
def wsX6_offer : List Cond := .code yX6_offer cX6_offer 6 (some .boolean) :: ((wsX6_offer_r1 ++ wsX6_offer_r2) ++ wsX60)
def wsX6_comes : List Cond := .code yX6_comes cX6_comes 3 (some .boolean) :: ([.fieldLink RX6 16 "BootstayModel" "running" "I", .fieldLink RX6 23 "BootstayModel" "come" "I", .methodLink RX6 73 yX6_lays, .instanceMethod yX6_lays, .selects RX6 yX6_lays yX6_lays, .initialized RX6, .code yX6_lays cX6_lays 3 (some .boolean), .fieldLink RX6 67 "BootstayModel" "writes" "I", .fieldLink RX6 20 "BootstayModel" "left" "I", .fieldLink RX6 7 "BootstayModel" "flash" "[I", .methodLink RX6 70 yX6_goesOff, .instanceMethod yX6_goesOff, .selects RX6 yX6_goesOff yX6_goesOff, .code yX6_goesOff cX6_goesOff 1 none, .fieldLink RX6 63 "BootstayModel" "on" "Z"] ++ wsX60)
def wsX6_put_r1 : List Cond := [Cond.fieldLink RX6 23 "BootstayModel" "come" "I", Cond.fieldLink RX6 103 "BootstayModel" "newLength" "I", Cond.methodLink RX6 44 yX6_in, Cond.static yX6_in, Cond.initialized RX6, Cond.code yX6_in cX6_in 3 (some .boolean), Cond.methodLink RX6 96 yX6_goes, Cond.instanceMethod yX6_goes, Cond.selects RX6 yX6_goes yX6_goes, Cond.code yX6_goes cX6_goes 3 (some .boolean), Cond.fieldLink RX6 37 "BootstayModel" "last" "I", Cond.methodLink RX6 112 yX6_comes, Cond.instanceMethod yX6_comes, Cond.selects RX6 yX6_comes yX6_comes, Cond.code yX6_comes cX6_comes 3 (some .boolean), Cond.fieldLink RX6 16 "BootstayModel" "running" "I", Cond.methodLink RX6 73 yX6_lays, Cond.instanceMethod yX6_lays, Cond.selects RX6 yX6_lays yX6_lays, Cond.code yX6_lays cX6_lays 3 (some .boolean), Cond.fieldLink RX6 67 "BootstayModel" "writes" "I", Cond.fieldLink RX6 20 "BootstayModel" "left" "I", Cond.fieldLink RX6 7 "BootstayModel" "flash" "[I", Cond.methodLink RX6 70 yX6_goesOff]
def wsX6_put_r2 : List Cond := [Cond.instanceMethod yX6_goesOff, Cond.selects RX6 yX6_goesOff yX6_goesOff, Cond.code yX6_goesOff cX6_goesOff 1 none, Cond.fieldLink RX6 63 "BootstayModel" "on" "Z"]
def wsX6_put : List Cond := .code yX6_put cX6_put 2 (some .boolean) :: ((wsX6_put_r1 ++ wsX6_put_r2) ++ wsX60)
def wsX6_copy_r1 : List Cond := [Cond.fieldLink RX6 63 "BootstayModel" "on" "Z", Cond.fieldLink RX6 7 "BootstayModel" "flash" "[I", Cond.fieldLink RX6 16 "BootstayModel" "running" "I", Cond.fieldLink RX6 23 "BootstayModel" "come" "I", Cond.fieldLink RX6 103 "BootstayModel" "newLength" "I", Cond.methodLink RX6 44 yX6_in, Cond.static yX6_in, Cond.initialized RX6, Cond.code yX6_in cX6_in 3 (some .boolean), Cond.methodLink RX6 96 yX6_goes, Cond.instanceMethod yX6_goes, Cond.selects RX6 yX6_goes yX6_goes, Cond.code yX6_goes cX6_goes 3 (some .boolean), Cond.fieldLink RX6 37 "BootstayModel" "last" "I", Cond.methodLink RX6 112 yX6_comes, Cond.instanceMethod yX6_comes, Cond.selects RX6 yX6_comes yX6_comes, Cond.code yX6_comes cX6_comes 3 (some .boolean), Cond.methodLink RX6 73 yX6_lays, Cond.instanceMethod yX6_lays, Cond.selects RX6 yX6_lays yX6_lays, Cond.code yX6_lays cX6_lays 3 (some .boolean), Cond.fieldLink RX6 67 "BootstayModel" "writes" "I", Cond.fieldLink RX6 20 "BootstayModel" "left" "I"]
def wsX6_copy_r2 : List Cond := [Cond.methodLink RX6 70 yX6_goesOff, Cond.instanceMethod yX6_goesOff, Cond.selects RX6 yX6_goesOff yX6_goesOff, Cond.code yX6_goesOff cX6_goesOff 1 none]
def wsX6_copy : List Cond := .code yX6_copy cX6_copy 5 (some .int) :: ((wsX6_copy_r1 ++ wsX6_copy_r2) ++ wsX60)
def wsX6_canFinish : List Cond := .code yX6_canFinish cX6_canFinish 1 (some .boolean) :: ([.fieldLink RX6 23 "BootstayModel" "come" "I", .fieldLink RX6 103 "BootstayModel" "newLength" "I", .fieldLink RX6 16 "BootstayModel" "running" "I", .fieldLink RX6 106 "BootstayModel" "newHash" "I", .methodLink RX6 29 yX6_hashIn, .instanceMethod yX6_hashIn, .selects RX6 yX6_hashIn yX6_hashIn, .initialized RX6, .code yX6_hashIn cX6_hashIn 5 (some .int), .fieldLink RX6 7 "BootstayModel" "flash" "[I", .methodLink RX6 41 yX6_hashed, .static yX6_hashed, .code yX6_hashed cX6_hashed 2 (some .int), .constant RX6 40 (65521)] ++ wsX60)
def wsX6_finishes_r1 : List Cond := [Cond.fieldLink RX6 16 "BootstayModel" "running" "I", Cond.fieldLink RX6 100 "BootstayModel" "newVersion" "I", Cond.fieldLink RX6 103 "BootstayModel" "newLength" "I", Cond.fieldLink RX6 106 "BootstayModel" "newHash" "I", Cond.fieldLink RX6 109 "BootstayModel" "newCounter" "I", Cond.methodLink RX6 73 yX6_lays, Cond.instanceMethod yX6_lays, Cond.selects RX6 yX6_lays yX6_lays, Cond.initialized RX6, Cond.code yX6_lays cX6_lays 3 (some .boolean), Cond.fieldLink RX6 67 "BootstayModel" "writes" "I", Cond.fieldLink RX6 20 "BootstayModel" "left" "I", Cond.fieldLink RX6 7 "BootstayModel" "flash" "[I", Cond.methodLink RX6 70 yX6_goesOff, Cond.instanceMethod yX6_goesOff, Cond.selects RX6 yX6_goesOff yX6_goesOff, Cond.code yX6_goesOff cX6_goesOff 1 none, Cond.fieldLink RX6 63 "BootstayModel" "on" "Z", Cond.fieldLink RX6 23 "BootstayModel" "come" "I", Cond.methodLink RX6 83 yX6_confirmedSlot, Cond.instanceMethod yX6_confirmedSlot, Cond.selects RX6 yX6_confirmedSlot yX6_confirmedSlot, Cond.code yX6_confirmedSlot cX6_confirmedSlot 1 (some .int), Cond.methodLink RX6 56 yX6_inForce]
def wsX6_finishes_r2 : List Cond := [Cond.instanceMethod yX6_inForce, Cond.selects RX6 yX6_inForce yX6_inForce, Cond.code yX6_inForce cX6_inForce 2 (some .int), Cond.methodLink RX6 52 yX6_force, Cond.instanceMethod yX6_force, Cond.selects RX6 yX6_force yX6_force, Cond.code yX6_force cX6_force 2 (some .int), Cond.methodLink RX6 48 yX6_holds, Cond.instanceMethod yX6_holds, Cond.selects RX6 yX6_holds yX6_holds, Cond.code yX6_holds cX6_holds 2 (some .boolean), Cond.methodLink RX6 33 yX6_rightCheck, Cond.instanceMethod yX6_rightCheck, Cond.selects RX6 yX6_rightCheck yX6_rightCheck, Cond.code yX6_rightCheck cX6_rightCheck 3 (some .int), Cond.methodLink RX6 89 yX6_records, Cond.instanceMethod yX6_records, Cond.selects RX6 yX6_records yX6_records, Cond.code yX6_records cX6_records 6 (some .boolean)]
def wsX6_finishes : List Cond := .code yX6_finishes cX6_finishes 4 (some .boolean) :: ((wsX6_finishes_r1 ++ wsX6_finishes_r2) ++ wsX60)
def wsX6_finish_r1 : List Cond := [Cond.fieldLink RX6 23 "BootstayModel" "come" "I", Cond.methodLink RX6 44 yX6_in, Cond.static yX6_in, Cond.initialized RX6, Cond.code yX6_in cX6_in 3 (some .boolean), Cond.methodLink RX6 115 yX6_canFinish, Cond.instanceMethod yX6_canFinish, Cond.selects RX6 yX6_canFinish yX6_canFinish, Cond.code yX6_canFinish cX6_canFinish 1 (some .boolean), Cond.fieldLink RX6 103 "BootstayModel" "newLength" "I", Cond.fieldLink RX6 16 "BootstayModel" "running" "I", Cond.fieldLink RX6 106 "BootstayModel" "newHash" "I", Cond.methodLink RX6 29 yX6_hashIn, Cond.instanceMethod yX6_hashIn, Cond.selects RX6 yX6_hashIn yX6_hashIn, Cond.code yX6_hashIn cX6_hashIn 5 (some .int), Cond.fieldLink RX6 7 "BootstayModel" "flash" "[I", Cond.methodLink RX6 41 yX6_hashed, Cond.static yX6_hashed, Cond.code yX6_hashed cX6_hashed 2 (some .int), Cond.constant RX6 40 (65521), Cond.methodLink RX6 96 yX6_goes, Cond.instanceMethod yX6_goes, Cond.selects RX6 yX6_goes yX6_goes]
def wsX6_finish_r2 : List Cond := [Cond.code yX6_goes cX6_goes 3 (some .boolean), Cond.fieldLink RX6 37 "BootstayModel" "last" "I", Cond.methodLink RX6 118 yX6_finishes, Cond.instanceMethod yX6_finishes, Cond.selects RX6 yX6_finishes yX6_finishes, Cond.code yX6_finishes cX6_finishes 4 (some .boolean), Cond.fieldLink RX6 100 "BootstayModel" "newVersion" "I", Cond.fieldLink RX6 109 "BootstayModel" "newCounter" "I", Cond.methodLink RX6 73 yX6_lays, Cond.instanceMethod yX6_lays, Cond.selects RX6 yX6_lays yX6_lays, Cond.code yX6_lays cX6_lays 3 (some .boolean), Cond.fieldLink RX6 67 "BootstayModel" "writes" "I", Cond.fieldLink RX6 20 "BootstayModel" "left" "I", Cond.methodLink RX6 70 yX6_goesOff, Cond.instanceMethod yX6_goesOff, Cond.selects RX6 yX6_goesOff yX6_goesOff, Cond.code yX6_goesOff cX6_goesOff 1 none, Cond.fieldLink RX6 63 "BootstayModel" "on" "Z", Cond.methodLink RX6 83 yX6_confirmedSlot, Cond.instanceMethod yX6_confirmedSlot, Cond.selects RX6 yX6_confirmedSlot yX6_confirmedSlot, Cond.code yX6_confirmedSlot cX6_confirmedSlot 1 (some .int), Cond.methodLink RX6 56 yX6_inForce]
def wsX6_finish_r3 : List Cond := [Cond.instanceMethod yX6_inForce, Cond.selects RX6 yX6_inForce yX6_inForce, Cond.code yX6_inForce cX6_inForce 2 (some .int), Cond.methodLink RX6 52 yX6_force, Cond.instanceMethod yX6_force, Cond.selects RX6 yX6_force yX6_force, Cond.code yX6_force cX6_force 2 (some .int), Cond.methodLink RX6 48 yX6_holds, Cond.instanceMethod yX6_holds, Cond.selects RX6 yX6_holds yX6_holds, Cond.code yX6_holds cX6_holds 2 (some .boolean), Cond.methodLink RX6 33 yX6_rightCheck, Cond.instanceMethod yX6_rightCheck, Cond.selects RX6 yX6_rightCheck yX6_rightCheck, Cond.code yX6_rightCheck cX6_rightCheck 3 (some .int), Cond.methodLink RX6 89 yX6_records, Cond.instanceMethod yX6_records, Cond.selects RX6 yX6_records yX6_records, Cond.code yX6_records cX6_records 6 (some .boolean)]
def wsX6_finish : List Cond := .code yX6_finish cX6_finish 3 (some .boolean) :: ((wsX6_finish_r1 ++ (wsX6_finish_r2 ++ wsX6_finish_r3)) ++ wsX60)
def wsX6_confirm_r1 : List Cond := [Cond.fieldLink RX6 37 "BootstayModel" "last" "I", Cond.fieldLink RX6 7 "BootstayModel" "flash" "[I", Cond.fieldLink RX6 16 "BootstayModel" "running" "I", Cond.methodLink RX6 92 yX6_isTrial, Cond.instanceMethod yX6_isTrial, Cond.selects RX6 yX6_isTrial yX6_isTrial, Cond.initialized RX6, Cond.code yX6_isTrial cX6_isTrial 1 (some .boolean), Cond.fieldLink RX6 63 "BootstayModel" "on" "Z", Cond.methodLink RX6 83 yX6_confirmedSlot, Cond.instanceMethod yX6_confirmedSlot, Cond.selects RX6 yX6_confirmedSlot yX6_confirmedSlot, Cond.code yX6_confirmedSlot cX6_confirmedSlot 1 (some .int), Cond.methodLink RX6 56 yX6_inForce, Cond.instanceMethod yX6_inForce, Cond.selects RX6 yX6_inForce yX6_inForce, Cond.code yX6_inForce cX6_inForce 2 (some .int), Cond.methodLink RX6 52 yX6_force, Cond.instanceMethod yX6_force, Cond.selects RX6 yX6_force yX6_force, Cond.code yX6_force cX6_force 2 (some .int), Cond.methodLink RX6 48 yX6_holds, Cond.instanceMethod yX6_holds, Cond.selects RX6 yX6_holds yX6_holds]
def wsX6_confirm_r2 : List Cond := [Cond.code yX6_holds cX6_holds 2 (some .boolean), Cond.methodLink RX6 33 yX6_rightCheck, Cond.instanceMethod yX6_rightCheck, Cond.selects RX6 yX6_rightCheck yX6_rightCheck, Cond.code yX6_rightCheck cX6_rightCheck 3 (some .int), Cond.methodLink RX6 89 yX6_records, Cond.instanceMethod yX6_records, Cond.selects RX6 yX6_records yX6_records, Cond.code yX6_records cX6_records 6 (some .boolean), Cond.methodLink RX6 73 yX6_lays, Cond.instanceMethod yX6_lays, Cond.selects RX6 yX6_lays yX6_lays, Cond.code yX6_lays cX6_lays 3 (some .boolean), Cond.fieldLink RX6 67 "BootstayModel" "writes" "I", Cond.fieldLink RX6 20 "BootstayModel" "left" "I", Cond.methodLink RX6 70 yX6_goesOff, Cond.instanceMethod yX6_goesOff, Cond.selects RX6 yX6_goesOff yX6_goesOff, Cond.code yX6_goesOff cX6_goesOff 1 none, Cond.fieldLink RX6 23 "BootstayModel" "come" "I"]
def wsX6_confirm : List Cond := .code yX6_confirm cX6_confirm 2 (some .boolean) :: ((wsX6_confirm_r1 ++ wsX6_confirm_r2) ++ wsX60)
def wsX6_toCome : List Cond := .code yX6_toCome cX6_toCome 1 (some .int) :: ([.fieldLink RX6 37 "BootstayModel" "last" "I", .fieldLink RX6 23 "BootstayModel" "come" "I", .fieldLink RX6 103 "BootstayModel" "newLength" "I"] ++ wsX60)
def wsX6_draft : List Cond := .code yX6_draft cX6_draft 2 (some .int) :: ([.fieldLink RX6 121 "BootstayModel" "drafted" "I", .fieldLink RX6 26 "BootstayModel" "draft" "[I", .methodLink RX6 44 yX6_in, .static yX6_in, .initialized RX6, .code yX6_in cX6_in 3 (some .boolean), .methodLink RX6 96 yX6_goes, .instanceMethod yX6_goes, .selects RX6 yX6_goes yX6_goes, .code yX6_goes cX6_goes 3 (some .boolean), .fieldLink RX6 37 "BootstayModel" "last" "I"] ++ wsX60)
def wsX6_clearDraft : List Cond := .code yX6_clearDraft cX6_clearDraft 2 (some .int) :: ([.fieldLink RX6 37 "BootstayModel" "last" "I", .fieldLink RX6 121 "BootstayModel" "drafted" "I"] ++ wsX60)
def wsX6_draftHash : List Cond := .code yX6_draftHash cX6_draftHash 3 (some .int) :: ([.fieldLink RX6 37 "BootstayModel" "last" "I", .fieldLink RX6 121 "BootstayModel" "drafted" "I", .fieldLink RX6 26 "BootstayModel" "draft" "[I", .methodLink RX6 41 yX6_hashed, .static yX6_hashed, .initialized RX6, .code yX6_hashed cX6_hashed 2 (some .int), .constant RX6 40 (65521)] ++ wsX60)
def wsX6_alike : List Cond := .code yX6_alike cX6_alike 5 (some .int) :: ([.fieldLink RX6 121 "BootstayModel" "drafted" "I", .fieldLink RX6 7 "BootstayModel" "flash" "[I", .fieldLink RX6 26 "BootstayModel" "draft" "[I"] ++ wsX60)
def wsX6_bestFrom : List Cond := .code yX6_bestFrom cX6_bestFrom 5 (some .int) :: ([.fieldLink RX6 7 "BootstayModel" "flash" "[I", .methodLink RX6 124 yX6_alike, .instanceMethod yX6_alike, .selects RX6 yX6_alike yX6_alike, .initialized RX6, .code yX6_alike cX6_alike 5 (some .int), .fieldLink RX6 121 "BootstayModel" "drafted" "I", .fieldLink RX6 26 "BootstayModel" "draft" "[I"] ++ wsX60)
def wsX6_pieceLength : List Cond := .code yX6_pieceLength cX6_pieceLength 4 (some .int) :: ([.methodLink RX6 128 yX6_bestFrom, .instanceMethod yX6_bestFrom, .selects RX6 yX6_bestFrom yX6_bestFrom, .initialized RX6, .code yX6_bestFrom cX6_bestFrom 5 (some .int), .fieldLink RX6 7 "BootstayModel" "flash" "[I", .methodLink RX6 124 yX6_alike, .instanceMethod yX6_alike, .selects RX6 yX6_alike yX6_alike, .code yX6_alike cX6_alike 5 (some .int), .fieldLink RX6 121 "BootstayModel" "drafted" "I", .fieldLink RX6 26 "BootstayModel" "draft" "[I"] ++ wsX60)
def wsX6_countPieces : List Cond := .code yX6_countPieces cX6_countPieces 4 (some .int) :: ([.fieldLink RX6 121 "BootstayModel" "drafted" "I", .methodLink RX6 131 yX6_pieceLength, .instanceMethod yX6_pieceLength, .selects RX6 yX6_pieceLength yX6_pieceLength, .initialized RX6, .code yX6_pieceLength cX6_pieceLength 4 (some .int), .methodLink RX6 128 yX6_bestFrom, .instanceMethod yX6_bestFrom, .selects RX6 yX6_bestFrom yX6_bestFrom, .code yX6_bestFrom cX6_bestFrom 5 (some .int), .fieldLink RX6 7 "BootstayModel" "flash" "[I", .methodLink RX6 124 yX6_alike, .instanceMethod yX6_alike, .selects RX6 yX6_alike yX6_alike, .code yX6_alike cX6_alike 5 (some .int), .fieldLink RX6 26 "BootstayModel" "draft" "[I"] ++ wsX60)
def wsX6_placeOf : List Cond := .code yX6_placeOf cX6_placeOf 5 (some .int) :: ([.methodLink RX6 131 yX6_pieceLength, .instanceMethod yX6_pieceLength, .selects RX6 yX6_pieceLength yX6_pieceLength, .initialized RX6, .code yX6_pieceLength cX6_pieceLength 4 (some .int), .methodLink RX6 128 yX6_bestFrom, .instanceMethod yX6_bestFrom, .selects RX6 yX6_bestFrom yX6_bestFrom, .code yX6_bestFrom cX6_bestFrom 5 (some .int), .fieldLink RX6 7 "BootstayModel" "flash" "[I", .methodLink RX6 124 yX6_alike, .instanceMethod yX6_alike, .selects RX6 yX6_alike yX6_alike, .code yX6_alike cX6_alike 5 (some .int), .fieldLink RX6 121 "BootstayModel" "drafted" "I", .fieldLink RX6 26 "BootstayModel" "draft" "[I"] ++ wsX60)
def wsX6_isSlot : List Cond := .code yX6_isSlot cX6_isSlot 2 (some .boolean) :: ([.methodLink RX6 44 yX6_in, .static yX6_in, .initialized RX6, .code yX6_in cX6_in 3 (some .boolean)])
def wsX6_deltaPieces_r1 : List Cond := [Cond.methodLink RX6 134 yX6_isSlot, Cond.instanceMethod yX6_isSlot, Cond.selects RX6 yX6_isSlot yX6_isSlot, Cond.initialized RX6, Cond.code yX6_isSlot cX6_isSlot 2 (some .boolean), Cond.methodLink RX6 44 yX6_in, Cond.static yX6_in, Cond.code yX6_in cX6_in 3 (some .boolean), Cond.methodLink RX6 80 yX6_canStart, Cond.instanceMethod yX6_canStart, Cond.selects RX6 yX6_canStart yX6_canStart, Cond.code yX6_canStart cX6_canStart 3 (some .boolean), Cond.fieldLink RX6 7 "BootstayModel" "flash" "[I", Cond.methodLink RX6 29 yX6_hashIn, Cond.instanceMethod yX6_hashIn, Cond.selects RX6 yX6_hashIn yX6_hashIn, Cond.code yX6_hashIn cX6_hashIn 5 (some .int), Cond.methodLink RX6 41 yX6_hashed, Cond.static yX6_hashed, Cond.code yX6_hashed cX6_hashed 2 (some .int), Cond.constant RX6 40 (65521), Cond.methodLink RX6 96 yX6_goes, Cond.instanceMethod yX6_goes, Cond.selects RX6 yX6_goes yX6_goes]
def wsX6_deltaPieces_r2 : List Cond := [Cond.code yX6_goes cX6_goes 3 (some .boolean), Cond.fieldLink RX6 37 "BootstayModel" "last" "I", Cond.methodLink RX6 137 yX6_countPieces, Cond.instanceMethod yX6_countPieces, Cond.selects RX6 yX6_countPieces yX6_countPieces, Cond.code yX6_countPieces cX6_countPieces 4 (some .int), Cond.fieldLink RX6 121 "BootstayModel" "drafted" "I", Cond.methodLink RX6 131 yX6_pieceLength, Cond.instanceMethod yX6_pieceLength, Cond.selects RX6 yX6_pieceLength yX6_pieceLength, Cond.code yX6_pieceLength cX6_pieceLength 4 (some .int), Cond.methodLink RX6 128 yX6_bestFrom, Cond.instanceMethod yX6_bestFrom, Cond.selects RX6 yX6_bestFrom yX6_bestFrom, Cond.code yX6_bestFrom cX6_bestFrom 5 (some .int), Cond.methodLink RX6 124 yX6_alike, Cond.instanceMethod yX6_alike, Cond.selects RX6 yX6_alike yX6_alike, Cond.code yX6_alike cX6_alike 5 (some .int), Cond.fieldLink RX6 26 "BootstayModel" "draft" "[I"]
def wsX6_deltaPieces : List Cond := .code yX6_deltaPieces cX6_deltaPieces 2 (some .int) :: ((wsX6_deltaPieces_r1 ++ wsX6_deltaPieces_r2) ++ wsX60)
def wsX6_isPiece_r1 : List Cond := [Cond.fieldLink RX6 37 "BootstayModel" "last" "I", Cond.methodLink RX6 134 yX6_isSlot, Cond.instanceMethod yX6_isSlot, Cond.selects RX6 yX6_isSlot yX6_isSlot, Cond.initialized RX6, Cond.code yX6_isSlot cX6_isSlot 2 (some .boolean), Cond.methodLink RX6 44 yX6_in, Cond.static yX6_in, Cond.code yX6_in cX6_in 3 (some .boolean), Cond.methodLink RX6 80 yX6_canStart, Cond.instanceMethod yX6_canStart, Cond.selects RX6 yX6_canStart yX6_canStart, Cond.code yX6_canStart cX6_canStart 3 (some .boolean), Cond.fieldLink RX6 7 "BootstayModel" "flash" "[I", Cond.methodLink RX6 29 yX6_hashIn, Cond.instanceMethod yX6_hashIn, Cond.selects RX6 yX6_hashIn yX6_hashIn, Cond.code yX6_hashIn cX6_hashIn 5 (some .int), Cond.methodLink RX6 41 yX6_hashed, Cond.static yX6_hashed, Cond.code yX6_hashed cX6_hashed 2 (some .int), Cond.constant RX6 40 (65521), Cond.methodLink RX6 96 yX6_goes, Cond.instanceMethod yX6_goes]
def wsX6_isPiece_r2 : List Cond := [Cond.selects RX6 yX6_goes yX6_goes, Cond.code yX6_goes cX6_goes 3 (some .boolean), Cond.methodLink RX6 137 yX6_countPieces, Cond.instanceMethod yX6_countPieces, Cond.selects RX6 yX6_countPieces yX6_countPieces, Cond.code yX6_countPieces cX6_countPieces 4 (some .int), Cond.fieldLink RX6 121 "BootstayModel" "drafted" "I", Cond.methodLink RX6 131 yX6_pieceLength, Cond.instanceMethod yX6_pieceLength, Cond.selects RX6 yX6_pieceLength yX6_pieceLength, Cond.code yX6_pieceLength cX6_pieceLength 4 (some .int), Cond.methodLink RX6 128 yX6_bestFrom, Cond.instanceMethod yX6_bestFrom, Cond.selects RX6 yX6_bestFrom yX6_bestFrom, Cond.code yX6_bestFrom cX6_bestFrom 5 (some .int), Cond.methodLink RX6 124 yX6_alike, Cond.instanceMethod yX6_alike, Cond.selects RX6 yX6_alike yX6_alike, Cond.code yX6_alike cX6_alike 5 (some .int), Cond.fieldLink RX6 26 "BootstayModel" "draft" "[I"]
def wsX6_isPiece : List Cond := .code yX6_isPiece cX6_isPiece 4 (some .boolean) :: ((wsX6_isPiece_r1 ++ wsX6_isPiece_r2) ++ wsX60)
def wsX6_deltaLength_r1 : List Cond := [Cond.methodLink RX6 140 yX6_isPiece, Cond.instanceMethod yX6_isPiece, Cond.selects RX6 yX6_isPiece yX6_isPiece, Cond.initialized RX6, Cond.code yX6_isPiece cX6_isPiece 4 (some .boolean), Cond.fieldLink RX6 37 "BootstayModel" "last" "I", Cond.methodLink RX6 134 yX6_isSlot, Cond.instanceMethod yX6_isSlot, Cond.selects RX6 yX6_isSlot yX6_isSlot, Cond.code yX6_isSlot cX6_isSlot 2 (some .boolean), Cond.methodLink RX6 44 yX6_in, Cond.static yX6_in, Cond.code yX6_in cX6_in 3 (some .boolean), Cond.methodLink RX6 80 yX6_canStart, Cond.instanceMethod yX6_canStart, Cond.selects RX6 yX6_canStart yX6_canStart, Cond.code yX6_canStart cX6_canStart 3 (some .boolean), Cond.fieldLink RX6 7 "BootstayModel" "flash" "[I", Cond.methodLink RX6 29 yX6_hashIn, Cond.instanceMethod yX6_hashIn, Cond.selects RX6 yX6_hashIn yX6_hashIn, Cond.code yX6_hashIn cX6_hashIn 5 (some .int), Cond.methodLink RX6 41 yX6_hashed, Cond.static yX6_hashed]
def wsX6_deltaLength_r2 : List Cond := [Cond.code yX6_hashed cX6_hashed 2 (some .int), Cond.constant RX6 40 (65521), Cond.methodLink RX6 96 yX6_goes, Cond.instanceMethod yX6_goes, Cond.selects RX6 yX6_goes yX6_goes, Cond.code yX6_goes cX6_goes 3 (some .boolean), Cond.methodLink RX6 137 yX6_countPieces, Cond.instanceMethod yX6_countPieces, Cond.selects RX6 yX6_countPieces yX6_countPieces, Cond.code yX6_countPieces cX6_countPieces 4 (some .int), Cond.fieldLink RX6 121 "BootstayModel" "drafted" "I", Cond.methodLink RX6 131 yX6_pieceLength, Cond.instanceMethod yX6_pieceLength, Cond.selects RX6 yX6_pieceLength yX6_pieceLength, Cond.code yX6_pieceLength cX6_pieceLength 4 (some .int), Cond.methodLink RX6 128 yX6_bestFrom, Cond.instanceMethod yX6_bestFrom, Cond.selects RX6 yX6_bestFrom yX6_bestFrom, Cond.code yX6_bestFrom cX6_bestFrom 5 (some .int), Cond.methodLink RX6 124 yX6_alike, Cond.instanceMethod yX6_alike, Cond.selects RX6 yX6_alike yX6_alike, Cond.code yX6_alike cX6_alike 5 (some .int), Cond.fieldLink RX6 26 "BootstayModel" "draft" "[I"]
def wsX6_deltaLength_r3 : List Cond := [Cond.methodLink RX6 143 yX6_placeOf, Cond.instanceMethod yX6_placeOf, Cond.selects RX6 yX6_placeOf yX6_placeOf, Cond.code yX6_placeOf cX6_placeOf 5 (some .int)]
def wsX6_deltaLength : List Cond := .code yX6_deltaLength cX6_deltaLength 3 (some .int) :: ((wsX6_deltaLength_r1 ++ (wsX6_deltaLength_r2 ++ wsX6_deltaLength_r3)) ++ wsX60)
def wsX6_deltaFrom_r1 : List Cond := [Cond.methodLink RX6 140 yX6_isPiece, Cond.instanceMethod yX6_isPiece, Cond.selects RX6 yX6_isPiece yX6_isPiece, Cond.initialized RX6, Cond.code yX6_isPiece cX6_isPiece 4 (some .boolean), Cond.fieldLink RX6 37 "BootstayModel" "last" "I", Cond.methodLink RX6 134 yX6_isSlot, Cond.instanceMethod yX6_isSlot, Cond.selects RX6 yX6_isSlot yX6_isSlot, Cond.code yX6_isSlot cX6_isSlot 2 (some .boolean), Cond.methodLink RX6 44 yX6_in, Cond.static yX6_in, Cond.code yX6_in cX6_in 3 (some .boolean), Cond.methodLink RX6 80 yX6_canStart, Cond.instanceMethod yX6_canStart, Cond.selects RX6 yX6_canStart yX6_canStart, Cond.code yX6_canStart cX6_canStart 3 (some .boolean), Cond.fieldLink RX6 7 "BootstayModel" "flash" "[I", Cond.methodLink RX6 29 yX6_hashIn, Cond.instanceMethod yX6_hashIn, Cond.selects RX6 yX6_hashIn yX6_hashIn, Cond.code yX6_hashIn cX6_hashIn 5 (some .int), Cond.methodLink RX6 41 yX6_hashed, Cond.static yX6_hashed]
def wsX6_deltaFrom_r2 : List Cond := [Cond.code yX6_hashed cX6_hashed 2 (some .int), Cond.constant RX6 40 (65521), Cond.methodLink RX6 96 yX6_goes, Cond.instanceMethod yX6_goes, Cond.selects RX6 yX6_goes yX6_goes, Cond.code yX6_goes cX6_goes 3 (some .boolean), Cond.methodLink RX6 137 yX6_countPieces, Cond.instanceMethod yX6_countPieces, Cond.selects RX6 yX6_countPieces yX6_countPieces, Cond.code yX6_countPieces cX6_countPieces 4 (some .int), Cond.fieldLink RX6 121 "BootstayModel" "drafted" "I", Cond.methodLink RX6 131 yX6_pieceLength, Cond.instanceMethod yX6_pieceLength, Cond.selects RX6 yX6_pieceLength yX6_pieceLength, Cond.code yX6_pieceLength cX6_pieceLength 4 (some .int), Cond.methodLink RX6 128 yX6_bestFrom, Cond.instanceMethod yX6_bestFrom, Cond.selects RX6 yX6_bestFrom yX6_bestFrom, Cond.code yX6_bestFrom cX6_bestFrom 5 (some .int), Cond.methodLink RX6 124 yX6_alike, Cond.instanceMethod yX6_alike, Cond.selects RX6 yX6_alike yX6_alike, Cond.code yX6_alike cX6_alike 5 (some .int), Cond.fieldLink RX6 26 "BootstayModel" "draft" "[I"]
def wsX6_deltaFrom_r3 : List Cond := [Cond.methodLink RX6 143 yX6_placeOf, Cond.instanceMethod yX6_placeOf, Cond.selects RX6 yX6_placeOf yX6_placeOf, Cond.code yX6_placeOf cX6_placeOf 5 (some .int)]
def wsX6_deltaFrom : List Cond := .code yX6_deltaFrom cX6_deltaFrom 4 (some .int) :: ((wsX6_deltaFrom_r1 ++ (wsX6_deltaFrom_r2 ++ wsX6_deltaFrom_r3)) ++ wsX60)
def wsX6_isStartable_r1 : List Cond := [Cond.methodLink RX6 134 yX6_isSlot, Cond.instanceMethod yX6_isSlot, Cond.selects RX6 yX6_isSlot yX6_isSlot, Cond.initialized RX6, Cond.code yX6_isSlot cX6_isSlot 2 (some .boolean), Cond.methodLink RX6 44 yX6_in, Cond.static yX6_in, Cond.code yX6_in cX6_in 3 (some .boolean), Cond.methodLink RX6 96 yX6_goes, Cond.instanceMethod yX6_goes, Cond.selects RX6 yX6_goes yX6_goes, Cond.code yX6_goes cX6_goes 3 (some .boolean), Cond.fieldLink RX6 37 "BootstayModel" "last" "I", Cond.methodLink RX6 80 yX6_canStart, Cond.instanceMethod yX6_canStart, Cond.selects RX6 yX6_canStart yX6_canStart, Cond.code yX6_canStart cX6_canStart 3 (some .boolean), Cond.fieldLink RX6 7 "BootstayModel" "flash" "[I", Cond.methodLink RX6 29 yX6_hashIn, Cond.instanceMethod yX6_hashIn, Cond.selects RX6 yX6_hashIn yX6_hashIn, Cond.code yX6_hashIn cX6_hashIn 5 (some .int), Cond.methodLink RX6 41 yX6_hashed, Cond.static yX6_hashed]
def wsX6_isStartable_r2 : List Cond := [Cond.code yX6_hashed cX6_hashed 2 (some .int), Cond.constant RX6 40 (65521)]
def wsX6_isStartable : List Cond := .code yX6_isStartable cX6_isStartable 2 (some .boolean) :: ((wsX6_isStartable_r1 ++ wsX6_isStartable_r2) ++ wsX60)
def wsX6_version : List Cond := .code yX6_version cX6_version 2 (some .int) :: ([.fieldLink RX6 7 "BootstayModel" "flash" "[I", .methodLink RX6 134 yX6_isSlot, .instanceMethod yX6_isSlot, .selects RX6 yX6_isSlot yX6_isSlot, .initialized RX6, .code yX6_isSlot cX6_isSlot 2 (some .boolean), .methodLink RX6 44 yX6_in, .static yX6_in, .code yX6_in cX6_in 3 (some .boolean), .methodLink RX6 96 yX6_goes, .instanceMethod yX6_goes, .selects RX6 yX6_goes yX6_goes, .code yX6_goes cX6_goes 3 (some .boolean), .fieldLink RX6 37 "BootstayModel" "last" "I"] ++ wsX60)
def wsX6_imageByte : List Cond := .code yX6_imageByte cX6_imageByte 3 (some .int) :: ([.fieldLink RX6 7 "BootstayModel" "flash" "[I", .methodLink RX6 134 yX6_isSlot, .instanceMethod yX6_isSlot, .selects RX6 yX6_isSlot yX6_isSlot, .initialized RX6, .code yX6_isSlot cX6_isSlot 2 (some .boolean), .methodLink RX6 44 yX6_in, .static yX6_in, .code yX6_in cX6_in 3 (some .boolean), .methodLink RX6 96 yX6_goes, .instanceMethod yX6_goes, .selects RX6 yX6_goes yX6_goes, .code yX6_goes cX6_goes 3 (some .boolean), .fieldLink RX6 37 "BootstayModel" "last" "I"] ++ wsX60)
def wsX6_record : List Cond := .code yX6_record cX6_record 1 (some .int) :: ([.fieldLink RX6 37 "BootstayModel" "last" "I", .methodLink RX6 52 yX6_force, .instanceMethod yX6_force, .selects RX6 yX6_force yX6_force, .initialized RX6, .code yX6_force cX6_force 2 (some .int), .fieldLink RX6 7 "BootstayModel" "flash" "[I", .methodLink RX6 48 yX6_holds, .instanceMethod yX6_holds, .selects RX6 yX6_holds yX6_holds, .code yX6_holds cX6_holds 2 (some .boolean), .methodLink RX6 33 yX6_rightCheck, .instanceMethod yX6_rightCheck, .selects RX6 yX6_rightCheck yX6_rightCheck, .code yX6_rightCheck cX6_rightCheck 3 (some .int)] ++ wsX60)
def wsX6_isValid : List Cond := .code yX6_isValid cX6_isValid 2 (some .boolean) :: ([.methodLink RX6 44 yX6_in, .static yX6_in, .initialized RX6, .code yX6_in cX6_in 3 (some .boolean), .methodLink RX6 96 yX6_goes, .instanceMethod yX6_goes, .selects RX6 yX6_goes yX6_goes, .code yX6_goes cX6_goes 3 (some .boolean), .fieldLink RX6 37 "BootstayModel" "last" "I", .methodLink RX6 48 yX6_holds, .instanceMethod yX6_holds, .selects RX6 yX6_holds yX6_holds, .code yX6_holds cX6_holds 2 (some .boolean), .fieldLink RX6 7 "BootstayModel" "flash" "[I", .methodLink RX6 33 yX6_rightCheck, .instanceMethod yX6_rightCheck, .selects RX6 yX6_rightCheck yX6_rightCheck, .code yX6_rightCheck cX6_rightCheck 3 (some .int)] ++ wsX60)
def wsX6_confirmed : List Cond := .code yX6_confirmed cX6_confirmed 1 (some .int) :: ([.fieldLink RX6 37 "BootstayModel" "last" "I", .methodLink RX6 83 yX6_confirmedSlot, .instanceMethod yX6_confirmedSlot, .selects RX6 yX6_confirmedSlot yX6_confirmedSlot, .initialized RX6, .code yX6_confirmedSlot cX6_confirmedSlot 1 (some .int), .methodLink RX6 56 yX6_inForce, .instanceMethod yX6_inForce, .selects RX6 yX6_inForce yX6_inForce, .code yX6_inForce cX6_inForce 2 (some .int), .fieldLink RX6 7 "BootstayModel" "flash" "[I", .methodLink RX6 52 yX6_force, .instanceMethod yX6_force, .selects RX6 yX6_force yX6_force, .code yX6_force cX6_force 2 (some .int), .methodLink RX6 48 yX6_holds, .instanceMethod yX6_holds, .selects RX6 yX6_holds yX6_holds, .code yX6_holds cX6_holds 2 (some .boolean), .methodLink RX6 33 yX6_rightCheck, .instanceMethod yX6_rightCheck, .selects RX6 yX6_rightCheck yX6_rightCheck, .code yX6_rightCheck cX6_rightCheck 3 (some .int)] ++ wsX60)
def wsX6_tries_r1 : List Cond := [Cond.fieldLink RX6 37 "BootstayModel" "last" "I", Cond.methodLink RX6 77 yX6_triesLeft, Cond.instanceMethod yX6_triesLeft, Cond.selects RX6 yX6_triesLeft yX6_triesLeft, Cond.initialized RX6, Cond.code yX6_triesLeft cX6_triesLeft 1 (some .int), Cond.methodLink RX6 59 yX6_isDue, Cond.instanceMethod yX6_isDue, Cond.selects RX6 yX6_isDue yX6_isDue, Cond.code yX6_isDue cX6_isDue 1 (some .boolean), Cond.methodLink RX6 56 yX6_inForce, Cond.instanceMethod yX6_inForce, Cond.selects RX6 yX6_inForce yX6_inForce, Cond.code yX6_inForce cX6_inForce 2 (some .int), Cond.fieldLink RX6 7 "BootstayModel" "flash" "[I", Cond.methodLink RX6 52 yX6_force, Cond.instanceMethod yX6_force, Cond.selects RX6 yX6_force yX6_force, Cond.code yX6_force cX6_force 2 (some .int), Cond.methodLink RX6 48 yX6_holds, Cond.instanceMethod yX6_holds, Cond.selects RX6 yX6_holds yX6_holds, Cond.code yX6_holds cX6_holds 2 (some .boolean), Cond.methodLink RX6 33 yX6_rightCheck]
def wsX6_tries_r2 : List Cond := [Cond.instanceMethod yX6_rightCheck, Cond.selects RX6 yX6_rightCheck yX6_rightCheck, Cond.code yX6_rightCheck cX6_rightCheck 3 (some .int)]
def wsX6_tries : List Cond := .code yX6_tries cX6_tries 1 (some .int) :: ((wsX6_tries_r1 ++ wsX6_tries_r2) ++ wsX60)
def wsX6_counter : List Cond := .code yX6_counter cX6_counter 1 (some .int) :: ([.fieldLink RX6 37 "BootstayModel" "last" "I", .methodLink RX6 56 yX6_inForce, .instanceMethod yX6_inForce, .selects RX6 yX6_inForce yX6_inForce, .initialized RX6, .code yX6_inForce cX6_inForce 2 (some .int), .fieldLink RX6 7 "BootstayModel" "flash" "[I", .methodLink RX6 52 yX6_force, .instanceMethod yX6_force, .selects RX6 yX6_force yX6_force, .code yX6_force cX6_force 2 (some .int), .methodLink RX6 48 yX6_holds, .instanceMethod yX6_holds, .selects RX6 yX6_holds yX6_holds, .code yX6_holds cX6_holds 2 (some .boolean), .methodLink RX6 33 yX6_rightCheck, .instanceMethod yX6_rightCheck, .selects RX6 yX6_rightCheck yX6_rightCheck, .code yX6_rightCheck cX6_rightCheck 3 (some .int)] ++ wsX60)
def wsX6_nextStart_r1 : List Cond := [Cond.methodLink RX6 83 yX6_confirmedSlot, Cond.instanceMethod yX6_confirmedSlot, Cond.selects RX6 yX6_confirmedSlot yX6_confirmedSlot, Cond.initialized RX6, Cond.code yX6_confirmedSlot cX6_confirmedSlot 1 (some .int), Cond.methodLink RX6 56 yX6_inForce, Cond.instanceMethod yX6_inForce, Cond.selects RX6 yX6_inForce yX6_inForce, Cond.code yX6_inForce cX6_inForce 2 (some .int), Cond.fieldLink RX6 7 "BootstayModel" "flash" "[I", Cond.methodLink RX6 52 yX6_force, Cond.instanceMethod yX6_force, Cond.selects RX6 yX6_force yX6_force, Cond.code yX6_force cX6_force 2 (some .int), Cond.methodLink RX6 48 yX6_holds, Cond.instanceMethod yX6_holds, Cond.selects RX6 yX6_holds yX6_holds, Cond.code yX6_holds cX6_holds 2 (some .boolean), Cond.methodLink RX6 33 yX6_rightCheck, Cond.instanceMethod yX6_rightCheck, Cond.selects RX6 yX6_rightCheck yX6_rightCheck, Cond.code yX6_rightCheck cX6_rightCheck 3 (some .int), Cond.methodLink RX6 86 yX6_willTry, Cond.instanceMethod yX6_willTry]
def wsX6_nextStart_r2 : List Cond := [Cond.selects RX6 yX6_willTry yX6_willTry, Cond.code yX6_willTry cX6_willTry 2 (some .boolean), Cond.methodLink RX6 59 yX6_isDue, Cond.instanceMethod yX6_isDue, Cond.selects RX6 yX6_isDue yX6_isDue, Cond.code yX6_isDue cX6_isDue 1 (some .boolean), Cond.methodLink RX6 77 yX6_triesLeft, Cond.instanceMethod yX6_triesLeft, Cond.selects RX6 yX6_triesLeft yX6_triesLeft, Cond.code yX6_triesLeft cX6_triesLeft 1 (some .int), Cond.methodLink RX6 80 yX6_canStart, Cond.instanceMethod yX6_canStart, Cond.selects RX6 yX6_canStart yX6_canStart, Cond.code yX6_canStart cX6_canStart 3 (some .boolean), Cond.methodLink RX6 44 yX6_in, Cond.static yX6_in, Cond.code yX6_in cX6_in 3 (some .boolean), Cond.methodLink RX6 29 yX6_hashIn, Cond.instanceMethod yX6_hashIn, Cond.selects RX6 yX6_hashIn yX6_hashIn, Cond.code yX6_hashIn cX6_hashIn 5 (some .int), Cond.methodLink RX6 41 yX6_hashed, Cond.static yX6_hashed, Cond.code yX6_hashed cX6_hashed 2 (some .int)]
def wsX6_nextStart_r3 : List Cond := [Cond.constant RX6 40 (65521)]
def wsX6_nextStart : List Cond := .code yX6_nextStart cX6_nextStart 2 (some .int) :: ((wsX6_nextStart_r1 ++ (wsX6_nextStart_r2 ++ wsX6_nextStart_r3)) ++ wsX60)
def wsX6_safeFinish_r1 : List Cond := [Cond.fieldLink RX6 13 "BootstayModel" "kept" "[I", Cond.fieldLink RX6 7 "BootstayModel" "flash" "[I", Cond.fieldLink RX6 16 "BootstayModel" "running" "I", Cond.fieldLink RX6 20 "BootstayModel" "left" "I", Cond.fieldLink RX6 67 "BootstayModel" "writes" "I", Cond.fieldLink RX6 23 "BootstayModel" "come" "I", Cond.fieldLink RX6 63 "BootstayModel" "on" "Z", Cond.methodLink RX6 44 yX6_in, Cond.static yX6_in, Cond.initialized RX6, Cond.code yX6_in cX6_in 3 (some .boolean), Cond.methodLink RX6 115 yX6_canFinish, Cond.instanceMethod yX6_canFinish, Cond.selects RX6 yX6_canFinish yX6_canFinish, Cond.code yX6_canFinish cX6_canFinish 1 (some .boolean), Cond.fieldLink RX6 103 "BootstayModel" "newLength" "I", Cond.fieldLink RX6 106 "BootstayModel" "newHash" "I", Cond.methodLink RX6 29 yX6_hashIn, Cond.instanceMethod yX6_hashIn, Cond.selects RX6 yX6_hashIn yX6_hashIn, Cond.code yX6_hashIn cX6_hashIn 5 (some .int), Cond.methodLink RX6 41 yX6_hashed, Cond.static yX6_hashed, Cond.code yX6_hashed cX6_hashed 2 (some .int)]
def wsX6_safeFinish_r2 : List Cond := [Cond.constant RX6 40 (65521), Cond.methodLink RX6 96 yX6_goes, Cond.instanceMethod yX6_goes, Cond.selects RX6 yX6_goes yX6_goes, Cond.code yX6_goes cX6_goes 3 (some .boolean), Cond.fieldLink RX6 37 "BootstayModel" "last" "I", Cond.methodLink RX6 118 yX6_finishes, Cond.instanceMethod yX6_finishes, Cond.selects RX6 yX6_finishes yX6_finishes, Cond.code yX6_finishes cX6_finishes 4 (some .boolean), Cond.fieldLink RX6 100 "BootstayModel" "newVersion" "I", Cond.fieldLink RX6 109 "BootstayModel" "newCounter" "I", Cond.methodLink RX6 73 yX6_lays, Cond.instanceMethod yX6_lays, Cond.selects RX6 yX6_lays yX6_lays, Cond.code yX6_lays cX6_lays 3 (some .boolean), Cond.methodLink RX6 70 yX6_goesOff, Cond.instanceMethod yX6_goesOff, Cond.selects RX6 yX6_goesOff yX6_goesOff, Cond.code yX6_goesOff cX6_goesOff 1 none, Cond.methodLink RX6 83 yX6_confirmedSlot, Cond.instanceMethod yX6_confirmedSlot, Cond.selects RX6 yX6_confirmedSlot yX6_confirmedSlot, Cond.code yX6_confirmedSlot cX6_confirmedSlot 1 (some .int)]
def wsX6_safeFinish_r3 : List Cond := [Cond.methodLink RX6 56 yX6_inForce, Cond.instanceMethod yX6_inForce, Cond.selects RX6 yX6_inForce yX6_inForce, Cond.code yX6_inForce cX6_inForce 2 (some .int), Cond.methodLink RX6 52 yX6_force, Cond.instanceMethod yX6_force, Cond.selects RX6 yX6_force yX6_force, Cond.code yX6_force cX6_force 2 (some .int), Cond.methodLink RX6 48 yX6_holds, Cond.instanceMethod yX6_holds, Cond.selects RX6 yX6_holds yX6_holds, Cond.code yX6_holds cX6_holds 2 (some .boolean), Cond.methodLink RX6 33 yX6_rightCheck, Cond.instanceMethod yX6_rightCheck, Cond.selects RX6 yX6_rightCheck yX6_rightCheck, Cond.code yX6_rightCheck cX6_rightCheck 3 (some .int), Cond.methodLink RX6 89 yX6_records, Cond.instanceMethod yX6_records, Cond.selects RX6 yX6_records yX6_records, Cond.code yX6_records cX6_records 6 (some .boolean), Cond.methodLink RX6 146 yX6_nextStart, Cond.instanceMethod yX6_nextStart, Cond.selects RX6 yX6_nextStart yX6_nextStart, Cond.code yX6_nextStart cX6_nextStart 2 (some .int)]
def wsX6_safeFinish_r4 : List Cond := [Cond.methodLink RX6 86 yX6_willTry, Cond.instanceMethod yX6_willTry, Cond.selects RX6 yX6_willTry yX6_willTry, Cond.code yX6_willTry cX6_willTry 2 (some .boolean), Cond.methodLink RX6 59 yX6_isDue, Cond.instanceMethod yX6_isDue, Cond.selects RX6 yX6_isDue yX6_isDue, Cond.code yX6_isDue cX6_isDue 1 (some .boolean), Cond.methodLink RX6 77 yX6_triesLeft, Cond.instanceMethod yX6_triesLeft, Cond.selects RX6 yX6_triesLeft yX6_triesLeft, Cond.code yX6_triesLeft cX6_triesLeft 1 (some .int), Cond.methodLink RX6 80 yX6_canStart, Cond.instanceMethod yX6_canStart, Cond.selects RX6 yX6_canStart yX6_canStart, Cond.code yX6_canStart cX6_canStart 3 (some .boolean)]
def wsX6_safeFinish : List Cond := .code yX6_safeFinish cX6_safeFinish 10 (some .int) :: ((wsX6_safeFinish_r1 ++ (wsX6_safeFinish_r2 ++ (wsX6_safeFinish_r3 ++ wsX6_safeFinish_r4))) ++ wsX60)
def wsX6_wouldStart_r1 : List Cond := [Cond.fieldLink RX6 37 "BootstayModel" "last" "I", Cond.methodLink RX6 146 yX6_nextStart, Cond.instanceMethod yX6_nextStart, Cond.selects RX6 yX6_nextStart yX6_nextStart, Cond.initialized RX6, Cond.code yX6_nextStart cX6_nextStart 2 (some .int), Cond.methodLink RX6 83 yX6_confirmedSlot, Cond.instanceMethod yX6_confirmedSlot, Cond.selects RX6 yX6_confirmedSlot yX6_confirmedSlot, Cond.code yX6_confirmedSlot cX6_confirmedSlot 1 (some .int), Cond.methodLink RX6 56 yX6_inForce, Cond.instanceMethod yX6_inForce, Cond.selects RX6 yX6_inForce yX6_inForce, Cond.code yX6_inForce cX6_inForce 2 (some .int), Cond.fieldLink RX6 7 "BootstayModel" "flash" "[I", Cond.methodLink RX6 52 yX6_force, Cond.instanceMethod yX6_force, Cond.selects RX6 yX6_force yX6_force, Cond.code yX6_force cX6_force 2 (some .int), Cond.methodLink RX6 48 yX6_holds, Cond.instanceMethod yX6_holds, Cond.selects RX6 yX6_holds yX6_holds, Cond.code yX6_holds cX6_holds 2 (some .boolean), Cond.methodLink RX6 33 yX6_rightCheck]
def wsX6_wouldStart_r2 : List Cond := [Cond.instanceMethod yX6_rightCheck, Cond.selects RX6 yX6_rightCheck yX6_rightCheck, Cond.code yX6_rightCheck cX6_rightCheck 3 (some .int), Cond.methodLink RX6 86 yX6_willTry, Cond.instanceMethod yX6_willTry, Cond.selects RX6 yX6_willTry yX6_willTry, Cond.code yX6_willTry cX6_willTry 2 (some .boolean), Cond.methodLink RX6 59 yX6_isDue, Cond.instanceMethod yX6_isDue, Cond.selects RX6 yX6_isDue yX6_isDue, Cond.code yX6_isDue cX6_isDue 1 (some .boolean), Cond.methodLink RX6 77 yX6_triesLeft, Cond.instanceMethod yX6_triesLeft, Cond.selects RX6 yX6_triesLeft yX6_triesLeft, Cond.code yX6_triesLeft cX6_triesLeft 1 (some .int), Cond.methodLink RX6 80 yX6_canStart, Cond.instanceMethod yX6_canStart, Cond.selects RX6 yX6_canStart yX6_canStart, Cond.code yX6_canStart cX6_canStart 3 (some .boolean), Cond.methodLink RX6 44 yX6_in, Cond.static yX6_in, Cond.code yX6_in cX6_in 3 (some .boolean), Cond.methodLink RX6 29 yX6_hashIn, Cond.instanceMethod yX6_hashIn]
def wsX6_wouldStart_r3 : List Cond := [Cond.selects RX6 yX6_hashIn yX6_hashIn, Cond.code yX6_hashIn cX6_hashIn 5 (some .int), Cond.methodLink RX6 41 yX6_hashed, Cond.static yX6_hashed, Cond.code yX6_hashed cX6_hashed 2 (some .int), Cond.constant RX6 40 (65521)]
def wsX6_wouldStart : List Cond := .code yX6_wouldStart cX6_wouldStart 1 (some .int) :: ((wsX6_wouldStart_r1 ++ (wsX6_wouldStart_r2 ++ wsX6_wouldStart_r3)) ++ wsX60)
def wsJ9_max_7cf53 : List Cond := .code yJ9_max_7cf53 cJ9_max_7cf53 2 (some .int) :: ([])
def wsJ9_min_7cf53 : List Cond := .code yJ9_min_7cf53 cJ9_min_7cf53 2 (some .int) :: ([])
def wsL_switchOn_r1 : List Cond := [Cond.classLink RL 13 "java/lang/IllegalStateException", Cond.methodLink RL 7 yX5_switchOn, Cond.instanceMethod yX5_switchOn, Cond.selects RX5 yX5_switchOn yX5_switchOn, Cond.initialized RX5, Cond.code yX5_switchOn cX5_switchOn 1 (some .int), Cond.classLink RX5 50 "java/lang/IllegalStateException", Cond.initialized "java/lang/IllegalStateException", Cond.fieldLink RX5 10 "Bootstay" "store" "LBootstay$Store;", Cond.fieldLink RX5 42 "Bootstay" "runningSlot" "I", Cond.methodLink RX5 46 yX5_isOn, Cond.instanceMethod yX5_isOn, Cond.selects RX5 yX5_isOn yX5_isOn, Cond.code yX5_isOn cX5_isOn 1 (some .boolean), Cond.methodLink RX5 57 yX3_start, Cond.instanceMethod yX3_start, Cond.selects RX3 yX3_start yX3_start, Cond.initialized RX3, Cond.code yX3_start cX3_start 4 (some .int), Cond.methodLink RX3 78 yX3_slotToStart, Cond.instanceMethod yX3_slotToStart, Cond.selects RX3 yX3_slotToStart yX3_slotToStart, Cond.code yX3_slotToStart cX3_slotToStart 6 (some .int), Cond.methodLink RX3 58 yX3_recordInForce]
def wsL_switchOn_r2 : List Cond := [Cond.instanceMethod yX3_recordInForce, Cond.selects RX3 yX3_recordInForce yX3_recordInForce, Cond.code yX3_recordInForce cX3_recordInForce 1 (some .int), Cond.methodLink RX3 54 yX3_isRecordValid, Cond.instanceMethod yX3_isRecordValid, Cond.selects RX3 yX3_isRecordValid yX3_isRecordValid, Cond.code yX3_isRecordValid cX3_isRecordValid 2 (some .boolean), Cond.methodLink RX3 51 yX3_recordWord, Cond.instanceMethod yX3_recordWord, Cond.selects RX3 yX3_recordWord yX3_recordWord, Cond.code yX3_recordWord cX3_recordWord 3 (some .int), Cond.fieldLink RX3 14 "Bootstay$Store" "flash" "LBootstay$Flash;", Cond.methodLink RX3 34 yX2_read, Cond.instanceMethod yX2_read, Cond.selects RX2 yX2_read yX2_read, Cond.initialized RX2, Cond.code yX2_read cX2_read 2 (some .int), Cond.fieldLink RX2 11 "Bootstay$Flash" "words" "[I", Cond.methodLink RX3 26 yX3_checkOf, Cond.static yX3_checkOf, Cond.code yX3_checkOf cX3_checkOf 3 (some .int), Cond.methodLink RX3 62 yX3_confirmedIn, Cond.static yX3_confirmedIn, Cond.code yX3_confirmedIn cX3_confirmedIn 1 (some .int)]
def wsL_switchOn_r3 : List Cond := [Cond.methodLink RX3 68 yX3_triesIn, Cond.static yX3_triesIn, Cond.code yX3_triesIn cX3_triesIn 1 (some .int), Cond.methodLink RX3 65 yX3_isTrialIn, Cond.static yX3_isTrialIn, Cond.code yX3_isTrialIn cX3_isTrialIn 1 (some .boolean), Cond.methodLink RX3 75 yX3_canStart, Cond.instanceMethod yX3_canStart, Cond.selects RX3 yX3_canStart yX3_canStart, Cond.code yX3_canStart cX3_canStart 3 (some .boolean), Cond.methodLink RX3 48 yX3_slotWord, Cond.instanceMethod yX3_slotWord, Cond.selects RX3 yX3_slotWord yX3_slotWord, Cond.code yX3_slotWord cX3_slotWord 3 (some .int), Cond.methodLink RX3 22 yX3_imageHash, Cond.instanceMethod yX3_imageHash, Cond.selects RX3 yX3_imageHash yX3_imageHash, Cond.code yX3_imageHash cX3_imageHash 5 (some .int), Cond.methodLink RX3 42 yX3_imageWord, Cond.instanceMethod yX3_imageWord, Cond.selects RX3 yX3_imageWord yX3_imageWord, Cond.code yX3_imageWord cX3_imageWord 3 (some .int), Cond.static yX5_hashWith, Cond.code yX5_hashWith cX5_hashWith 2 (some .int)]
def wsL_switchOn_r4 : List Cond := [Cond.constant RX5 246 (65521), Cond.methodLink RX3 81 yX3_isTrialDue, Cond.instanceMethod yX3_isTrialDue, Cond.selects RX3 yX3_isTrialDue yX3_isTrialDue, Cond.code yX3_isTrialDue cX3_isTrialDue 1 (some .boolean), Cond.methodLink RX3 85 yX3_confirmedSlot, Cond.instanceMethod yX3_confirmedSlot, Cond.selects RX3 yX3_confirmedSlot yX3_confirmedSlot, Cond.code yX3_confirmedSlot cX3_confirmedSlot 1 (some .int), Cond.methodLink RX3 88 yX3_settledState, Cond.static yX3_settledState, Cond.code yX3_settledState cX3_settledState 1 (some .int), Cond.methodLink RX3 91 yX3_triesLeft, Cond.instanceMethod yX3_triesLeft, Cond.selects RX3 yX3_triesLeft yX3_triesLeft, Cond.code yX3_triesLeft cX3_triesLeft 1 (some .int), Cond.methodLink RX3 94 yX3_trialState, Cond.static yX3_trialState, Cond.code yX3_trialState cX3_trialState 2 (some .int), Cond.methodLink RX3 97 yX3_recordCounter, Cond.instanceMethod yX3_recordCounter, Cond.selects RX3 yX3_recordCounter yX3_recordCounter, Cond.code yX3_recordCounter cX3_recordCounter 1 (some .int), Cond.methodLink RX3 100 yX3_writeRecord]
def wsL_switchOn_r5 : List Cond := [Cond.instanceMethod yX3_writeRecord, Cond.selects RX3 yX3_writeRecord yX3_writeRecord, Cond.code yX3_writeRecord cX3_writeRecord 6 (some .boolean), Cond.methodLink RX3 71 yX3_writeRecordWord, Cond.instanceMethod yX3_writeRecordWord, Cond.selects RX3 yX3_writeRecordWord yX3_writeRecordWord, Cond.code yX3_writeRecordWord cX3_writeRecordWord 4 (some .boolean), Cond.methodLink RX3 38 yX2_write, Cond.instanceMethod yX2_write, Cond.selects RX2 yX2_write yX2_write, Cond.code yX2_write cX2_write 3 (some .boolean), Cond.fieldLink RX2 17 "Bootstay$Flash" "begun" "I", Cond.fieldLink RX2 21 "Bootstay$Flash" "writesToFailure" "I", Cond.methodLink RX2 24 yX2_read, Cond.methodLink RX2 28 yX2_preset, Cond.instanceMethod yX2_preset, Cond.selects RX2 yX2_preset yX2_preset, Cond.code yX2_preset cX2_preset 3 none]
def wsL_switchOn : List Cond := .codeWith yL_switchOn cL_switchOn 3 (some .int) [(0, 8, 11, 13)] :: ((wsL_switchOn_r1 ++ (wsL_switchOn_r2 ++ (wsL_switchOn_r3 ++ (wsL_switchOn_r4 ++ wsL_switchOn_r5)))) ++ wsX50 ++ wsX30 ++ wsX20 ++ (vx_atS RX5 54 "java/lang/IllegalStateException" ["java/lang/RuntimeException", "java/lang/Exception"]).filter goodWord)
def wsL_switchOff_r1 : List Cond := [Cond.classLink RL 13 "java/lang/IllegalStateException", Cond.methodLink RL 15 yX5_switchOff, Cond.instanceMethod yX5_switchOff, Cond.selects RX5 yX5_switchOff yX5_switchOff, Cond.initialized RX5, Cond.code yX5_switchOff cX5_switchOff 2 (some .int), Cond.fieldLink RX5 42 "Bootstay" "runningSlot" "I", Cond.methodLink RX5 61 yX5_requireOn, Cond.instanceMethod yX5_requireOn, Cond.selects RX5 yX5_requireOn yX5_requireOn, Cond.code yX5_requireOn cX5_requireOn 1 none, Cond.classLink RX5 50 "java/lang/IllegalStateException", Cond.initialized "java/lang/IllegalStateException", Cond.methodLink RX5 46 yX5_isOn, Cond.instanceMethod yX5_isOn, Cond.selects RX5 yX5_isOn yX5_isOn, Cond.code yX5_isOn cX5_isOn 1 (some .boolean), Cond.methodLink RX5 64 yX5_losePower, Cond.instanceMethod yX5_losePower, Cond.selects RX5 yX5_losePower yX5_losePower, Cond.code yX5_losePower cX5_losePower 1 none, Cond.fieldLink RX5 22 "Bootstay" "transfer" "LBootstay$Transfer;", Cond.methodLink RX5 139 yX4_end, Cond.instanceMethod yX4_end]
def wsL_switchOff_r2 : List Cond := [Cond.selects RX4 yX4_end yX4_end, Cond.initialized RX4, Cond.code yX4_end cX4_end 1 none, Cond.fieldLink RX4 27 "Bootstay$Transfer" "isGoingOn" "Z"]
def wsL_switchOff : List Cond := .codeWith yL_switchOff cL_switchOff 3 (some .int) [(0, 8, 11, 13)] :: ((wsL_switchOff_r1 ++ wsL_switchOff_r2) ++ wsX50 ++ wsX40 ++ (vx_atS RX5 54 "java/lang/IllegalStateException" ["java/lang/RuntimeException", "java/lang/Exception"]).filter goodWord)
def wsL_failAfter : List Cond := .codeWith yL_failAfter cL_failAfter 3 (some .int) [(0, 5, 8, 22)] :: ([.classLink RL 22 "java/lang/IllegalArgumentException", .methodLink RL 18 yX5_failAfter, .instanceMethod yX5_failAfter, .selects RX5 yX5_failAfter yX5_failAfter, .initialized RX5, .code yX5_failAfter cX5_failAfter 2 none, .fieldLink RX5 10 "Bootstay" "store" "LBootstay$Store;", .fieldLink RX5 71 "Bootstay$Store" "flash" "LBootstay$Flash;", .methodLink RX5 67 yX5_requireWithin, .static yX5_requireWithin, .code yX5_requireWithin cX5_requireWithin 3 none, .classLink RX5 124 "java/lang/IllegalArgumentException", .initialized "java/lang/IllegalArgumentException", .methodLink RX5 75 yX2_chooseFailure, .instanceMethod yX2_chooseFailure, .selects RX2 yX2_chooseFailure yX2_chooseFailure, .initialized RX2, .code yX2_chooseFailure cX2_chooseFailure 2 none, .fieldLink RX2 21 "Bootstay$Flash" "writesToFailure" "I"] ++ wsX50 ++ wsX30 ++ wsX20 ++ (vx_atS RX5 128 "java/lang/IllegalArgumentException" ["java/lang/RuntimeException", "java/lang/Exception"]).filter goodWord)
def wsL_offer_r1 : List Cond := [Cond.classLink RL 22 "java/lang/IllegalArgumentException", Cond.classLink RL 13 "java/lang/IllegalStateException", Cond.methodLink RL 24 yX5_offer, Cond.instanceMethod yX5_offer, Cond.selects RX5 yX5_offer yX5_offer, Cond.initialized RX5, Cond.code yX5_offer cX5_offer 5 (some .boolean), Cond.classLink RX5 50 "java/lang/IllegalStateException", Cond.initialized "java/lang/IllegalStateException", Cond.constant RX5 87 (65520), Cond.fieldLink RX5 10 "Bootstay" "store" "LBootstay$Store;", Cond.fieldLink RX5 42 "Bootstay" "runningSlot" "I", Cond.fieldLink RX5 22 "Bootstay" "transfer" "LBootstay$Transfer;", Cond.methodLink RX5 67 yX5_requireWithin, Cond.static yX5_requireWithin, Cond.code yX5_requireWithin cX5_requireWithin 3 none, Cond.classLink RX5 124 "java/lang/IllegalArgumentException", Cond.initialized "java/lang/IllegalArgumentException", Cond.methodLink RX5 61 yX5_requireOn, Cond.instanceMethod yX5_requireOn, Cond.selects RX5 yX5_requireOn yX5_requireOn, Cond.code yX5_requireOn cX5_requireOn 1 none, Cond.methodLink RX5 46 yX5_isOn, Cond.instanceMethod yX5_isOn]
def wsL_offer_r2 : List Cond := [Cond.selects RX5 yX5_isOn yX5_isOn, Cond.code yX5_isOn cX5_isOn 1 (some .boolean), Cond.methodLink RX5 88 yX3_isTrialDue, Cond.instanceMethod yX3_isTrialDue, Cond.selects RX3 yX3_isTrialDue yX3_isTrialDue, Cond.initialized RX3, Cond.code yX3_isTrialDue cX3_isTrialDue 1 (some .boolean), Cond.methodLink RX3 58 yX3_recordInForce, Cond.instanceMethod yX3_recordInForce, Cond.selects RX3 yX3_recordInForce yX3_recordInForce, Cond.code yX3_recordInForce cX3_recordInForce 1 (some .int), Cond.methodLink RX3 54 yX3_isRecordValid, Cond.instanceMethod yX3_isRecordValid, Cond.selects RX3 yX3_isRecordValid yX3_isRecordValid, Cond.code yX3_isRecordValid cX3_isRecordValid 2 (some .boolean), Cond.methodLink RX3 51 yX3_recordWord, Cond.instanceMethod yX3_recordWord, Cond.selects RX3 yX3_recordWord yX3_recordWord, Cond.code yX3_recordWord cX3_recordWord 3 (some .int), Cond.fieldLink RX3 14 "Bootstay$Store" "flash" "LBootstay$Flash;", Cond.methodLink RX3 34 yX2_read, Cond.instanceMethod yX2_read, Cond.selects RX2 yX2_read yX2_read, Cond.initialized RX2]
def wsL_offer_r3 : List Cond := [Cond.code yX2_read cX2_read 2 (some .int), Cond.fieldLink RX2 11 "Bootstay$Flash" "words" "[I", Cond.methodLink RX3 26 yX3_checkOf, Cond.static yX3_checkOf, Cond.code yX3_checkOf cX3_checkOf 3 (some .int), Cond.methodLink RX3 65 yX3_isTrialIn, Cond.static yX3_isTrialIn, Cond.code yX3_isTrialIn cX3_isTrialIn 1 (some .boolean), Cond.methodLink RX5 93 yX3_slotWord, Cond.instanceMethod yX3_slotWord, Cond.selects RX3 yX3_slotWord yX3_slotWord, Cond.code yX3_slotWord cX3_slotWord 3 (some .int), Cond.methodLink RX5 97 yX3_recordCounter, Cond.instanceMethod yX3_recordCounter, Cond.selects RX3 yX3_recordCounter yX3_recordCounter, Cond.code yX3_recordCounter cX3_recordCounter 1 (some .int), Cond.methodLink RX5 102 yX4_begin, Cond.instanceMethod yX4_begin, Cond.selects RX4 yX4_begin yX4_begin, Cond.initialized RX4, Cond.code yX4_begin cX4_begin 5 none, Cond.fieldLink RX4 9 "Bootstay$Transfer" "version" "I", Cond.fieldLink RX4 15 "Bootstay$Transfer" "length" "I", Cond.fieldLink RX4 18 "Bootstay$Transfer" "hash" "I"]
def wsL_offer_r4 : List Cond := [Cond.fieldLink RX4 21 "Bootstay$Transfer" "counter" "I", Cond.fieldLink RX4 24 "Bootstay$Transfer" "come" "I", Cond.fieldLink RX4 27 "Bootstay$Transfer" "isGoingOn" "Z", Cond.methodLink RX5 106 yX5_idleSlot, Cond.instanceMethod yX5_idleSlot, Cond.selects RX5 yX5_idleSlot yX5_idleSlot, Cond.code yX5_idleSlot cX5_idleSlot 1 (some .int), Cond.methodLink RX5 109 yX3_writeSlotWord, Cond.instanceMethod yX3_writeSlotWord, Cond.selects RX3 yX3_writeSlotWord yX3_writeSlotWord, Cond.code yX3_writeSlotWord cX3_writeSlotWord 4 (some .boolean), Cond.methodLink RX3 38 yX2_write, Cond.instanceMethod yX2_write, Cond.selects RX2 yX2_write yX2_write, Cond.code yX2_write cX2_write 3 (some .boolean), Cond.fieldLink RX2 17 "Bootstay$Flash" "begun" "I", Cond.fieldLink RX2 21 "Bootstay$Flash" "writesToFailure" "I", Cond.methodLink RX2 24 yX2_read, Cond.methodLink RX2 28 yX2_preset, Cond.instanceMethod yX2_preset, Cond.selects RX2 yX2_preset yX2_preset, Cond.code yX2_preset cX2_preset 3 none, Cond.methodLink RX5 113 yX5_stayOn, Cond.instanceMethod yX5_stayOn]
def wsL_offer_r5 : List Cond := [Cond.selects RX5 yX5_stayOn yX5_stayOn, Cond.code yX5_stayOn cX5_stayOn 2 (some .boolean), Cond.methodLink RX5 64 yX5_losePower, Cond.instanceMethod yX5_losePower, Cond.selects RX5 yX5_losePower yX5_losePower, Cond.code yX5_losePower cX5_losePower 1 none, Cond.methodLink RX5 139 yX4_end, Cond.instanceMethod yX4_end, Cond.selects RX4 yX4_end yX4_end, Cond.code yX4_end cX4_end 1 none]
def wsL_offer : List Cond := .codeWith yL_offer cL_offer 7 (some .int) [(0, 21, 24, 22), (0, 21, 28, 13)] :: ((wsL_offer_r1 ++ (wsL_offer_r2 ++ (wsL_offer_r3 ++ (wsL_offer_r4 ++ wsL_offer_r5)))) ++ wsX50 ++ wsX30 ++ wsX20 ++ wsX40 ++ (vx_atS RX5 54 "java/lang/IllegalStateException" ["java/lang/RuntimeException", "java/lang/Exception"]).filter goodWord ++ (vx_atS RX5 128 "java/lang/IllegalArgumentException" ["java/lang/RuntimeException", "java/lang/Exception"]).filter goodWord)
def wsL_put_r1 : List Cond := [Cond.classLink RL 22 "java/lang/IllegalArgumentException", Cond.classLink RL 13 "java/lang/IllegalStateException", Cond.methodLink RL 28 yX5_put, Cond.instanceMethod yX5_put, Cond.selects RX5 yX5_put yX5_put, Cond.initialized RX5, Cond.code yX5_put cX5_put 2 (some .boolean), Cond.methodLink RX5 67 yX5_requireWithin, Cond.static yX5_requireWithin, Cond.code yX5_requireWithin cX5_requireWithin 3 none, Cond.classLink RX5 124 "java/lang/IllegalArgumentException", Cond.initialized "java/lang/IllegalArgumentException", Cond.methodLink RX5 117 yX5_requireToCome, Cond.instanceMethod yX5_requireToCome, Cond.selects RX5 yX5_requireToCome yX5_requireToCome, Cond.code yX5_requireToCome cX5_requireToCome 2 none, Cond.classLink RX5 50 "java/lang/IllegalStateException", Cond.initialized "java/lang/IllegalStateException", Cond.fieldLink RX5 22 "Bootstay" "transfer" "LBootstay$Transfer;", Cond.methodLink RX5 160 yX4_bytesToCome, Cond.instanceMethod yX4_bytesToCome, Cond.selects RX4 yX4_bytesToCome yX4_bytesToCome, Cond.initialized RX4, Cond.code yX4_bytesToCome cX4_bytesToCome 1 (some .int)]
def wsL_put_r2 : List Cond := [Cond.fieldLink RX4 27 "Bootstay$Transfer" "isGoingOn" "Z", Cond.fieldLink RX4 15 "Bootstay$Transfer" "length" "I", Cond.fieldLink RX4 24 "Bootstay$Transfer" "come" "I", Cond.methodLink RX5 120 yX5_append, Cond.instanceMethod yX5_append, Cond.selects RX5 yX5_append yX5_append, Cond.code yX5_append cX5_append 2 (some .boolean), Cond.fieldLink RX5 10 "Bootstay" "store" "LBootstay$Store;", Cond.methodLink RX5 106 yX5_idleSlot, Cond.instanceMethod yX5_idleSlot, Cond.selects RX5 yX5_idleSlot yX5_idleSlot, Cond.code yX5_idleSlot cX5_idleSlot 1 (some .int), Cond.fieldLink RX5 42 "Bootstay" "runningSlot" "I", Cond.methodLink RX5 240 yX4_nextPlace, Cond.instanceMethod yX4_nextPlace, Cond.selects RX4 yX4_nextPlace yX4_nextPlace, Cond.code yX4_nextPlace cX4_nextPlace 2 (some .int), Cond.methodLink RX5 243 yX3_writeImageWord, Cond.instanceMethod yX3_writeImageWord, Cond.selects RX3 yX3_writeImageWord yX3_writeImageWord, Cond.initialized RX3, Cond.code yX3_writeImageWord cX3_writeImageWord 4 (some .boolean), Cond.fieldLink RX3 14 "Bootstay$Store" "flash" "LBootstay$Flash;", Cond.methodLink RX3 38 yX2_write]
def wsL_put_r3 : List Cond := [Cond.instanceMethod yX2_write, Cond.selects RX2 yX2_write yX2_write, Cond.initialized RX2, Cond.code yX2_write cX2_write 3 (some .boolean), Cond.fieldLink RX2 17 "Bootstay$Flash" "begun" "I", Cond.fieldLink RX2 21 "Bootstay$Flash" "writesToFailure" "I", Cond.methodLink RX2 24 yX2_read, Cond.instanceMethod yX2_read, Cond.selects RX2 yX2_read yX2_read, Cond.code yX2_read cX2_read 2 (some .int), Cond.fieldLink RX2 11 "Bootstay$Flash" "words" "[I", Cond.methodLink RX2 28 yX2_preset, Cond.instanceMethod yX2_preset, Cond.selects RX2 yX2_preset yX2_preset, Cond.code yX2_preset cX2_preset 3 none, Cond.methodLink RX5 113 yX5_stayOn, Cond.instanceMethod yX5_stayOn, Cond.selects RX5 yX5_stayOn yX5_stayOn, Cond.code yX5_stayOn cX5_stayOn 2 (some .boolean), Cond.methodLink RX5 64 yX5_losePower, Cond.instanceMethod yX5_losePower, Cond.selects RX5 yX5_losePower yX5_losePower, Cond.code yX5_losePower cX5_losePower 1 none, Cond.methodLink RX5 139 yX4_end]
def wsL_put_r4 : List Cond := [Cond.instanceMethod yX4_end, Cond.selects RX4 yX4_end yX4_end, Cond.code yX4_end cX4_end 1 none]
def wsL_put : List Cond := .codeWith yL_put cL_put 4 (some .int) [(0, 16, 19, 22), (0, 16, 22, 13)] :: ((wsL_put_r1 ++ (wsL_put_r2 ++ (wsL_put_r3 ++ wsL_put_r4))) ++ wsX50 ++ wsX40 ++ wsX30 ++ wsX20 ++ (vx_atS RX5 128 "java/lang/IllegalArgumentException" ["java/lang/RuntimeException", "java/lang/Exception"]).filter goodWord ++ (vx_atS RX5 54 "java/lang/IllegalStateException" ["java/lang/RuntimeException", "java/lang/Exception"]).filter goodWord)
def wsL_copy_r1 : List Cond := [Cond.classLink RL 22 "java/lang/IllegalArgumentException", Cond.classLink RL 13 "java/lang/IllegalStateException", Cond.methodLink RL 32 yX5_copy, Cond.instanceMethod yX5_copy, Cond.selects RX5 yX5_copy yX5_copy, Cond.initialized RX5, Cond.code yX5_copy cX5_copy 5 (some .int), Cond.classLink RX5 124 "java/lang/IllegalArgumentException", Cond.initialized "java/lang/IllegalArgumentException", Cond.fieldLink RX5 10 "Bootstay" "store" "LBootstay$Store;", Cond.fieldLink RX5 42 "Bootstay" "runningSlot" "I", Cond.methodLink RX5 67 yX5_requireWithin, Cond.static yX5_requireWithin, Cond.code yX5_requireWithin cX5_requireWithin 3 none, Cond.methodLink RX5 46 yX5_isOn, Cond.instanceMethod yX5_isOn, Cond.selects RX5 yX5_isOn yX5_isOn, Cond.code yX5_isOn cX5_isOn 1 (some .boolean), Cond.methodLink RX5 93 yX3_slotWord, Cond.instanceMethod yX3_slotWord, Cond.selects RX3 yX3_slotWord yX3_slotWord, Cond.initialized RX3, Cond.code yX3_slotWord cX3_slotWord 3 (some .int), Cond.fieldLink RX3 14 "Bootstay$Store" "flash" "LBootstay$Flash;"]
def wsL_copy_r2 : List Cond := [Cond.methodLink RX3 34 yX2_read, Cond.instanceMethod yX2_read, Cond.selects RX2 yX2_read yX2_read, Cond.initialized RX2, Cond.code yX2_read cX2_read 2 (some .int), Cond.fieldLink RX2 11 "Bootstay$Flash" "words" "[I", Cond.methodLink RX5 117 yX5_requireToCome, Cond.instanceMethod yX5_requireToCome, Cond.selects RX5 yX5_requireToCome yX5_requireToCome, Cond.code yX5_requireToCome cX5_requireToCome 2 none, Cond.classLink RX5 50 "java/lang/IllegalStateException", Cond.initialized "java/lang/IllegalStateException", Cond.fieldLink RX5 22 "Bootstay" "transfer" "LBootstay$Transfer;", Cond.methodLink RX5 160 yX4_bytesToCome, Cond.instanceMethod yX4_bytesToCome, Cond.selects RX4 yX4_bytesToCome yX4_bytesToCome, Cond.initialized RX4, Cond.code yX4_bytesToCome cX4_bytesToCome 1 (some .int), Cond.fieldLink RX4 27 "Bootstay$Transfer" "isGoingOn" "Z", Cond.fieldLink RX4 15 "Bootstay$Transfer" "length" "I", Cond.fieldLink RX4 24 "Bootstay$Transfer" "come" "I", Cond.methodLink RX5 129 yX3_imageWord, Cond.instanceMethod yX3_imageWord, Cond.selects RX3 yX3_imageWord yX3_imageWord]
def wsL_copy_r3 : List Cond := [Cond.code yX3_imageWord cX3_imageWord 3 (some .int), Cond.methodLink RX5 120 yX5_append, Cond.instanceMethod yX5_append, Cond.selects RX5 yX5_append yX5_append, Cond.code yX5_append cX5_append 2 (some .boolean), Cond.methodLink RX5 106 yX5_idleSlot, Cond.instanceMethod yX5_idleSlot, Cond.selects RX5 yX5_idleSlot yX5_idleSlot, Cond.code yX5_idleSlot cX5_idleSlot 1 (some .int), Cond.methodLink RX5 240 yX4_nextPlace, Cond.instanceMethod yX4_nextPlace, Cond.selects RX4 yX4_nextPlace yX4_nextPlace, Cond.code yX4_nextPlace cX4_nextPlace 2 (some .int), Cond.methodLink RX5 243 yX3_writeImageWord, Cond.instanceMethod yX3_writeImageWord, Cond.selects RX3 yX3_writeImageWord yX3_writeImageWord, Cond.code yX3_writeImageWord cX3_writeImageWord 4 (some .boolean), Cond.methodLink RX3 38 yX2_write, Cond.instanceMethod yX2_write, Cond.selects RX2 yX2_write yX2_write, Cond.code yX2_write cX2_write 3 (some .boolean), Cond.fieldLink RX2 17 "Bootstay$Flash" "begun" "I", Cond.fieldLink RX2 21 "Bootstay$Flash" "writesToFailure" "I", Cond.methodLink RX2 24 yX2_read]
def wsL_copy_r4 : List Cond := [Cond.methodLink RX2 28 yX2_preset, Cond.instanceMethod yX2_preset, Cond.selects RX2 yX2_preset yX2_preset, Cond.code yX2_preset cX2_preset 3 none, Cond.methodLink RX5 113 yX5_stayOn, Cond.instanceMethod yX5_stayOn, Cond.selects RX5 yX5_stayOn yX5_stayOn, Cond.code yX5_stayOn cX5_stayOn 2 (some .boolean), Cond.methodLink RX5 64 yX5_losePower, Cond.instanceMethod yX5_losePower, Cond.selects RX5 yX5_losePower yX5_losePower, Cond.code yX5_losePower cX5_losePower 1 none, Cond.methodLink RX5 139 yX4_end, Cond.instanceMethod yX4_end, Cond.selects RX4 yX4_end yX4_end, Cond.code yX4_end cX4_end 1 none]
def wsL_copy : List Cond := .codeWith yL_copy cL_copy 5 (some .int) [(0, 10, 13, 22), (0, 10, 17, 13)] :: ((wsL_copy_r1 ++ (wsL_copy_r2 ++ (wsL_copy_r3 ++ wsL_copy_r4))) ++ wsX50 ++ wsX30 ++ wsX20 ++ wsX40 ++ (vx_atS RX5 128 "java/lang/IllegalArgumentException" ["java/lang/RuntimeException", "java/lang/Exception"]).filter goodWord ++ (vx_atS RX5 54 "java/lang/IllegalStateException" ["java/lang/RuntimeException", "java/lang/Exception"]).filter goodWord)
def wsL_finish_r1 : List Cond := [Cond.classLink RL 22 "java/lang/IllegalArgumentException", Cond.classLink RL 13 "java/lang/IllegalStateException", Cond.methodLink RL 36 yX5_finish, Cond.instanceMethod yX5_finish, Cond.selects RX5 yX5_finish yX5_finish, Cond.initialized RX5, Cond.code yX5_finish cX5_finish 3 (some .boolean), Cond.fieldLink RX5 10 "Bootstay" "store" "LBootstay$Store;", Cond.fieldLink RX5 22 "Bootstay" "transfer" "LBootstay$Transfer;", Cond.methodLink RX5 132 yX5_requireFinishable, Cond.instanceMethod yX5_requireFinishable, Cond.selects RX5 yX5_requireFinishable yX5_requireFinishable, Cond.code yX5_requireFinishable cX5_requireFinishable 2 none, Cond.classLink RX5 50 "java/lang/IllegalStateException", Cond.initialized "java/lang/IllegalStateException", Cond.fieldLink RX5 226 "Bootstay$Transfer" "length" "I", Cond.fieldLink RX5 232 "Bootstay$Transfer" "hash" "I", Cond.methodLink RX5 67 yX5_requireWithin, Cond.static yX5_requireWithin, Cond.code yX5_requireWithin cX5_requireWithin 3 none, Cond.classLink RX5 124 "java/lang/IllegalArgumentException", Cond.initialized "java/lang/IllegalArgumentException", Cond.methodLink RX5 160 yX4_bytesToCome, Cond.instanceMethod yX4_bytesToCome]
def wsL_finish_r2 : List Cond := [Cond.selects RX4 yX4_bytesToCome yX4_bytesToCome, Cond.initialized RX4, Cond.code yX4_bytesToCome cX4_bytesToCome 1 (some .int), Cond.fieldLink RX4 27 "Bootstay$Transfer" "isGoingOn" "Z", Cond.fieldLink RX4 15 "Bootstay$Transfer" "length" "I", Cond.fieldLink RX4 24 "Bootstay$Transfer" "come" "I", Cond.methodLink RX5 106 yX5_idleSlot, Cond.instanceMethod yX5_idleSlot, Cond.selects RX5 yX5_idleSlot yX5_idleSlot, Cond.code yX5_idleSlot cX5_idleSlot 1 (some .int), Cond.fieldLink RX5 42 "Bootstay" "runningSlot" "I", Cond.methodLink RX5 229 yX3_imageHash, Cond.instanceMethod yX3_imageHash, Cond.selects RX3 yX3_imageHash yX3_imageHash, Cond.initialized RX3, Cond.code yX3_imageHash cX3_imageHash 5 (some .int), Cond.methodLink RX3 42 yX3_imageWord, Cond.instanceMethod yX3_imageWord, Cond.selects RX3 yX3_imageWord yX3_imageWord, Cond.code yX3_imageWord cX3_imageWord 3 (some .int), Cond.fieldLink RX3 14 "Bootstay$Store" "flash" "LBootstay$Flash;", Cond.methodLink RX3 34 yX2_read, Cond.instanceMethod yX2_read, Cond.selects RX2 yX2_read yX2_read]
def wsL_finish_r3 : List Cond := [Cond.initialized RX2, Cond.code yX2_read cX2_read 2 (some .int), Cond.fieldLink RX2 11 "Bootstay$Flash" "words" "[I", Cond.static yX5_hashWith, Cond.code yX5_hashWith cX5_hashWith 2 (some .int), Cond.constant RX5 246 (65521), Cond.methodLink RX5 135 yX3_writeUpdate, Cond.instanceMethod yX3_writeUpdate, Cond.selects RX3 yX3_writeUpdate yX3_writeUpdate, Cond.code yX3_writeUpdate cX3_writeUpdate 4 (some .boolean), Cond.fieldLink RX3 103 "Bootstay$Transfer" "version" "I", Cond.fieldLink RX3 112 "Bootstay$Transfer" "length" "I", Cond.fieldLink RX3 115 "Bootstay$Transfer" "hash" "I", Cond.fieldLink RX3 118 "Bootstay$Transfer" "counter" "I", Cond.methodLink RX3 109 yX3_writeSlotWord, Cond.instanceMethod yX3_writeSlotWord, Cond.selects RX3 yX3_writeSlotWord yX3_writeSlotWord, Cond.code yX3_writeSlotWord cX3_writeSlotWord 4 (some .boolean), Cond.methodLink RX3 38 yX2_write, Cond.instanceMethod yX2_write, Cond.selects RX2 yX2_write yX2_write, Cond.code yX2_write cX2_write 3 (some .boolean), Cond.fieldLink RX2 17 "Bootstay$Flash" "begun" "I", Cond.fieldLink RX2 21 "Bootstay$Flash" "writesToFailure" "I"]
def wsL_finish_r4 : List Cond := [Cond.methodLink RX2 24 yX2_read, Cond.methodLink RX2 28 yX2_preset, Cond.instanceMethod yX2_preset, Cond.selects RX2 yX2_preset yX2_preset, Cond.code yX2_preset cX2_preset 3 none, Cond.methodLink RX3 85 yX3_confirmedSlot, Cond.instanceMethod yX3_confirmedSlot, Cond.selects RX3 yX3_confirmedSlot yX3_confirmedSlot, Cond.code yX3_confirmedSlot cX3_confirmedSlot 1 (some .int), Cond.methodLink RX3 58 yX3_recordInForce, Cond.instanceMethod yX3_recordInForce, Cond.selects RX3 yX3_recordInForce yX3_recordInForce, Cond.code yX3_recordInForce cX3_recordInForce 1 (some .int), Cond.methodLink RX3 54 yX3_isRecordValid, Cond.instanceMethod yX3_isRecordValid, Cond.selects RX3 yX3_isRecordValid yX3_isRecordValid, Cond.code yX3_isRecordValid cX3_isRecordValid 2 (some .boolean), Cond.methodLink RX3 51 yX3_recordWord, Cond.instanceMethod yX3_recordWord, Cond.selects RX3 yX3_recordWord yX3_recordWord, Cond.code yX3_recordWord cX3_recordWord 3 (some .int), Cond.methodLink RX3 26 yX3_checkOf, Cond.static yX3_checkOf, Cond.code yX3_checkOf cX3_checkOf 3 (some .int)]
def wsL_finish_r5 : List Cond := [Cond.methodLink RX3 62 yX3_confirmedIn, Cond.static yX3_confirmedIn, Cond.code yX3_confirmedIn cX3_confirmedIn 1 (some .int), Cond.methodLink RX3 94 yX3_trialState, Cond.static yX3_trialState, Cond.code yX3_trialState cX3_trialState 2 (some .int), Cond.methodLink RX3 97 yX3_recordCounter, Cond.instanceMethod yX3_recordCounter, Cond.selects RX3 yX3_recordCounter yX3_recordCounter, Cond.code yX3_recordCounter cX3_recordCounter 1 (some .int), Cond.methodLink RX3 100 yX3_writeRecord, Cond.instanceMethod yX3_writeRecord, Cond.selects RX3 yX3_writeRecord yX3_writeRecord, Cond.code yX3_writeRecord cX3_writeRecord 6 (some .boolean), Cond.methodLink RX3 71 yX3_writeRecordWord, Cond.instanceMethod yX3_writeRecordWord, Cond.selects RX3 yX3_writeRecordWord yX3_writeRecordWord, Cond.code yX3_writeRecordWord cX3_writeRecordWord 4 (some .boolean), Cond.methodLink RX5 139 yX4_end, Cond.instanceMethod yX4_end, Cond.selects RX4 yX4_end yX4_end, Cond.code yX4_end cX4_end 1 none, Cond.methodLink RX5 113 yX5_stayOn, Cond.instanceMethod yX5_stayOn]
def wsL_finish_r6 : List Cond := [Cond.selects RX5 yX5_stayOn yX5_stayOn, Cond.code yX5_stayOn cX5_stayOn 2 (some .boolean), Cond.methodLink RX5 64 yX5_losePower, Cond.instanceMethod yX5_losePower, Cond.selects RX5 yX5_losePower yX5_losePower, Cond.code yX5_losePower cX5_losePower 1 none]
def wsL_finish : List Cond := .codeWith yL_finish cL_finish 4 (some .int) [(0, 16, 19, 22), (0, 16, 22, 13)] :: ((wsL_finish_r1 ++ (wsL_finish_r2 ++ (wsL_finish_r3 ++ (wsL_finish_r4 ++ (wsL_finish_r5 ++ wsL_finish_r6))))) ++ wsX50 ++ wsX40 ++ wsX30 ++ wsX20 ++ (vx_atS RX5 54 "java/lang/IllegalStateException" ["java/lang/RuntimeException", "java/lang/Exception"]).filter goodWord ++ (vx_atS RX5 128 "java/lang/IllegalArgumentException" ["java/lang/RuntimeException", "java/lang/Exception"]).filter goodWord)
def wsL_confirm_r1 : List Cond := [Cond.classLink RL 13 "java/lang/IllegalStateException", Cond.methodLink RL 39 yX5_confirm, Cond.instanceMethod yX5_confirm, Cond.selects RX5 yX5_confirm yX5_confirm, Cond.initialized RX5, Cond.code yX5_confirm cX5_confirm 2 (some .boolean), Cond.classLink RX5 50 "java/lang/IllegalStateException", Cond.initialized "java/lang/IllegalStateException", Cond.fieldLink RX5 10 "Bootstay" "store" "LBootstay$Store;", Cond.fieldLink RX5 42 "Bootstay" "runningSlot" "I", Cond.methodLink RX5 147 Lib.Math.max.name, Cond.static Lib.Math.max.name, Cond.initialized "java/lang/Math", Cond.code Lib.Math.max.name Lib.Math.max.code 2 (some .int), Cond.methodLink RX5 61 yX5_requireOn, Cond.instanceMethod yX5_requireOn, Cond.selects RX5 yX5_requireOn yX5_requireOn, Cond.code yX5_requireOn cX5_requireOn 1 none, Cond.methodLink RX5 46 yX5_isOn, Cond.instanceMethod yX5_isOn, Cond.selects RX5 yX5_isOn yX5_isOn, Cond.code yX5_isOn cX5_isOn 1 (some .boolean), Cond.methodLink RX5 142 yX5_isOnTrial, Cond.instanceMethod yX5_isOnTrial]
def wsL_confirm_r2 : List Cond := [Cond.selects RX5 yX5_isOnTrial yX5_isOnTrial, Cond.code yX5_isOnTrial cX5_isOnTrial 1 (some .boolean), Cond.methodLink RX5 81 yX3_confirmedSlot, Cond.instanceMethod yX3_confirmedSlot, Cond.selects RX3 yX3_confirmedSlot yX3_confirmedSlot, Cond.initialized RX3, Cond.code yX3_confirmedSlot cX3_confirmedSlot 1 (some .int), Cond.methodLink RX3 58 yX3_recordInForce, Cond.instanceMethod yX3_recordInForce, Cond.selects RX3 yX3_recordInForce yX3_recordInForce, Cond.code yX3_recordInForce cX3_recordInForce 1 (some .int), Cond.methodLink RX3 54 yX3_isRecordValid, Cond.instanceMethod yX3_isRecordValid, Cond.selects RX3 yX3_isRecordValid yX3_isRecordValid, Cond.code yX3_isRecordValid cX3_isRecordValid 2 (some .boolean), Cond.methodLink RX3 51 yX3_recordWord, Cond.instanceMethod yX3_recordWord, Cond.selects RX3 yX3_recordWord yX3_recordWord, Cond.code yX3_recordWord cX3_recordWord 3 (some .int), Cond.fieldLink RX3 14 "Bootstay$Store" "flash" "LBootstay$Flash;", Cond.methodLink RX3 34 yX2_read, Cond.instanceMethod yX2_read, Cond.selects RX2 yX2_read yX2_read, Cond.initialized RX2]
def wsL_confirm_r3 : List Cond := [Cond.code yX2_read cX2_read 2 (some .int), Cond.fieldLink RX2 11 "Bootstay$Flash" "words" "[I", Cond.methodLink RX3 26 yX3_checkOf, Cond.static yX3_checkOf, Cond.code yX3_checkOf cX3_checkOf 3 (some .int), Cond.methodLink RX3 62 yX3_confirmedIn, Cond.static yX3_confirmedIn, Cond.code yX3_confirmedIn cX3_confirmedIn 1 (some .int), Cond.methodLink RX5 97 yX3_recordCounter, Cond.instanceMethod yX3_recordCounter, Cond.selects RX3 yX3_recordCounter yX3_recordCounter, Cond.code yX3_recordCounter cX3_recordCounter 1 (some .int), Cond.methodLink RX5 93 yX3_slotWord, Cond.instanceMethod yX3_slotWord, Cond.selects RX3 yX3_slotWord yX3_slotWord, Cond.code yX3_slotWord cX3_slotWord 3 (some .int), Cond.methodLink RX5 152 yX3_settledState, Cond.static yX3_settledState, Cond.code yX3_settledState cX3_settledState 1 (some .int), Cond.methodLink RX5 156 yX3_writeRecord, Cond.instanceMethod yX3_writeRecord, Cond.selects RX3 yX3_writeRecord yX3_writeRecord, Cond.code yX3_writeRecord cX3_writeRecord 6 (some .boolean), Cond.methodLink RX3 71 yX3_writeRecordWord]
def wsL_confirm_r4 : List Cond := [Cond.instanceMethod yX3_writeRecordWord, Cond.selects RX3 yX3_writeRecordWord yX3_writeRecordWord, Cond.code yX3_writeRecordWord cX3_writeRecordWord 4 (some .boolean), Cond.methodLink RX3 38 yX2_write, Cond.instanceMethod yX2_write, Cond.selects RX2 yX2_write yX2_write, Cond.code yX2_write cX2_write 3 (some .boolean), Cond.fieldLink RX2 17 "Bootstay$Flash" "begun" "I", Cond.fieldLink RX2 21 "Bootstay$Flash" "writesToFailure" "I", Cond.methodLink RX2 24 yX2_read, Cond.methodLink RX2 28 yX2_preset, Cond.instanceMethod yX2_preset, Cond.selects RX2 yX2_preset yX2_preset, Cond.code yX2_preset cX2_preset 3 none, Cond.methodLink RX5 113 yX5_stayOn, Cond.instanceMethod yX5_stayOn, Cond.selects RX5 yX5_stayOn yX5_stayOn, Cond.code yX5_stayOn cX5_stayOn 2 (some .boolean), Cond.methodLink RX5 64 yX5_losePower, Cond.instanceMethod yX5_losePower, Cond.selects RX5 yX5_losePower yX5_losePower, Cond.code yX5_losePower cX5_losePower 1 none, Cond.fieldLink RX5 22 "Bootstay" "transfer" "LBootstay$Transfer;", Cond.methodLink RX5 139 yX4_end]
def wsL_confirm_r5 : List Cond := [Cond.instanceMethod yX4_end, Cond.selects RX4 yX4_end yX4_end, Cond.initialized RX4, Cond.code yX4_end cX4_end 1 none, Cond.fieldLink RX4 27 "Bootstay$Transfer" "isGoingOn" "Z"]
def wsL_confirm : List Cond := .codeWith yL_confirm cL_confirm 3 (some .int) [(0, 15, 18, 13)] :: ((wsL_confirm_r1 ++ (wsL_confirm_r2 ++ (wsL_confirm_r3 ++ (wsL_confirm_r4 ++ wsL_confirm_r5)))) ++ wsX50 ++ wsX30 ++ wsX20 ++ wsX40 ++ (vx_atS RX5 54 "java/lang/IllegalStateException" ["java/lang/RuntimeException", "java/lang/Exception"]).filter goodWord)
def wsL_draft_r1 : List Cond := [Cond.classLink RL 22 "java/lang/IllegalArgumentException", Cond.classLink RL 13 "java/lang/IllegalStateException", Cond.methodLink RL 43 yX5_draft, Cond.instanceMethod yX5_draft, Cond.selects RX5 yX5_draft yX5_draft, Cond.initialized RX5, Cond.code yX5_draft cX5_draft 2 (some .int), Cond.classLink RX5 50 "java/lang/IllegalStateException", Cond.initialized "java/lang/IllegalStateException", Cond.fieldLink RX5 29 "Bootstay" "draftImage" "LBootstay$Draft;", Cond.methodLink RX5 67 yX5_requireWithin, Cond.static yX5_requireWithin, Cond.code yX5_requireWithin cX5_requireWithin 3 none, Cond.classLink RX5 124 "java/lang/IllegalArgumentException", Cond.initialized "java/lang/IllegalArgumentException", Cond.methodLink RX5 163 yX1_isFull, Cond.instanceMethod yX1_isFull, Cond.selects RX1 yX1_isFull yX1_isFull, Cond.initialized RX1, Cond.code yX1_isFull cX1_isFull 1 (some .boolean), Cond.fieldLink RX1 9 "Bootstay$Draft" "size" "I", Cond.fieldLink RX1 15 "Bootstay$Draft" "bytes" "[I", Cond.methodLink RX5 168 yX1_append, Cond.instanceMethod yX1_append]
def wsL_draft_r2 : List Cond := [Cond.selects RX1 yX1_append yX1_append, Cond.code yX1_append cX1_append 2 (some .int)]
def wsL_draft : List Cond := .codeWith yL_draft cL_draft 4 (some .int) [(0, 9, 12, 22), (0, 9, 15, 13)] :: ((wsL_draft_r1 ++ wsL_draft_r2) ++ wsX50 ++ wsX10 ++ (vx_atS RX5 54 "java/lang/IllegalStateException" ["java/lang/RuntimeException", "java/lang/Exception"]).filter goodWord ++ (vx_atS RX5 128 "java/lang/IllegalArgumentException" ["java/lang/RuntimeException", "java/lang/Exception"]).filter goodWord)
def wsL_deltaPieces_r1 : List Cond := [Cond.classLink RL 22 "java/lang/IllegalArgumentException", Cond.classLink RL 13 "java/lang/IllegalStateException", Cond.methodLink RL 47 yX5_deltaPieces, Cond.instanceMethod yX5_deltaPieces, Cond.selects RX5 yX5_deltaPieces yX5_deltaPieces, Cond.initialized RX5, Cond.code yX5_deltaPieces cX5_deltaPieces 2 (some .int), Cond.fieldLink RX5 38 "Bootstay" "delta" "LBootstay$Delta;", Cond.methodLink RX5 176 yX5_requireStartable, Cond.instanceMethod yX5_requireStartable, Cond.selects RX5 yX5_requireStartable yX5_requireStartable, Cond.code yX5_requireStartable cX5_requireStartable 2 none, Cond.classLink RX5 50 "java/lang/IllegalStateException", Cond.initialized "java/lang/IllegalStateException", Cond.fieldLink RX5 10 "Bootstay" "store" "LBootstay$Store;", Cond.methodLink RX5 67 yX5_requireWithin, Cond.static yX5_requireWithin, Cond.code yX5_requireWithin cX5_requireWithin 3 none, Cond.classLink RX5 124 "java/lang/IllegalArgumentException", Cond.initialized "java/lang/IllegalArgumentException", Cond.methodLink RX5 194 yX3_canStart, Cond.instanceMethod yX3_canStart, Cond.selects RX3 yX3_canStart yX3_canStart, Cond.initialized RX3]
def wsL_deltaPieces_r2 : List Cond := [Cond.code yX3_canStart cX3_canStart 3 (some .boolean), Cond.methodLink RX3 48 yX3_slotWord, Cond.instanceMethod yX3_slotWord, Cond.selects RX3 yX3_slotWord yX3_slotWord, Cond.code yX3_slotWord cX3_slotWord 3 (some .int), Cond.fieldLink RX3 14 "Bootstay$Store" "flash" "LBootstay$Flash;", Cond.methodLink RX3 34 yX2_read, Cond.instanceMethod yX2_read, Cond.selects RX2 yX2_read yX2_read, Cond.initialized RX2, Cond.code yX2_read cX2_read 2 (some .int), Cond.fieldLink RX2 11 "Bootstay$Flash" "words" "[I", Cond.methodLink RX3 22 yX3_imageHash, Cond.instanceMethod yX3_imageHash, Cond.selects RX3 yX3_imageHash yX3_imageHash, Cond.code yX3_imageHash cX3_imageHash 5 (some .int), Cond.methodLink RX3 42 yX3_imageWord, Cond.instanceMethod yX3_imageWord, Cond.selects RX3 yX3_imageWord yX3_imageWord, Cond.code yX3_imageWord cX3_imageWord 3 (some .int), Cond.static yX5_hashWith, Cond.code yX5_hashWith cX5_hashWith 2 (some .int), Cond.constant RX5 246 (65521), Cond.methodLink RX5 179 yX0_pieceCount]
def wsL_deltaPieces_r3 : List Cond := [Cond.instanceMethod yX0_pieceCount, Cond.selects RX0 yX0_pieceCount yX0_pieceCount, Cond.initialized RX0, Cond.code yX0_pieceCount cX0_pieceCount 4 (some .int), Cond.fieldLink RX0 9 "Bootstay$Delta" "draft" "LBootstay$Draft;", Cond.fieldLink RX0 19 "Bootstay$Draft" "size" "I", Cond.methodLink RX0 25 yX0_pieceLength, Cond.instanceMethod yX0_pieceLength, Cond.selects RX0 yX0_pieceLength yX0_pieceLength, Cond.code yX0_pieceLength cX0_pieceLength 4 (some .int), Cond.methodLink RX0 29 yX0_runFrom, Cond.instanceMethod yX0_runFrom, Cond.selects RX0 yX0_runFrom yX0_runFrom, Cond.code yX0_runFrom cX0_runFrom 8 (some .int), Cond.fieldLink RX0 15 "Bootstay$Delta" "store" "LBootstay$Store;", Cond.methodLink RX0 38 yX3_slotWord, Cond.methodLink RX0 32 yX0_matchLength, Cond.instanceMethod yX0_matchLength, Cond.selects RX0 yX0_matchLength yX0_matchLength, Cond.code yX0_matchLength cX0_matchLength 6 (some .int), Cond.methodLink RX0 41 Lib.Math.min.name, Cond.static Lib.Math.min.name, Cond.initialized "java/lang/Math", Cond.code Lib.Math.min.name Lib.Math.min.code 2 (some .int)]
def wsL_deltaPieces_r4 : List Cond := [Cond.methodLink RX0 46 yX3_imageWord, Cond.methodLink RX0 49 yX1_byteAt, Cond.instanceMethod yX1_byteAt, Cond.selects RX1 yX1_byteAt yX1_byteAt, Cond.initialized RX1, Cond.code yX1_byteAt cX1_byteAt 2 (some .int), Cond.fieldLink RX1 15 "Bootstay$Draft" "bytes" "[I"]
def wsL_deltaPieces : List Cond := .codeWith yL_deltaPieces cL_deltaPieces 4 (some .int) [(0, 9, 12, 22), (0, 9, 15, 13)] :: ((wsL_deltaPieces_r1 ++ (wsL_deltaPieces_r2 ++ (wsL_deltaPieces_r3 ++ wsL_deltaPieces_r4))) ++ wsX50 ++ wsX30 ++ wsX20 ++ wsX00 ++ wsX10 ++ (vx_atS RX5 54 "java/lang/IllegalStateException" ["java/lang/RuntimeException", "java/lang/Exception"]).filter goodWord ++ (vx_atS RX5 128 "java/lang/IllegalArgumentException" ["java/lang/RuntimeException", "java/lang/Exception"]).filter goodWord)
def wsL_deltaLength_r1 : List Cond := [Cond.classLink RL 22 "java/lang/IllegalArgumentException", Cond.classLink RL 13 "java/lang/IllegalStateException", Cond.classLink RL 53 "java/lang/IndexOutOfBoundsException", Cond.methodLink RL 50 yX5_deltaLength, Cond.instanceMethod yX5_deltaLength, Cond.selects RX5 yX5_deltaLength yX5_deltaLength, Cond.initialized RX5, Cond.code yX5_deltaLength cX5_deltaLength 4 (some .int), Cond.fieldLink RX5 38 "Bootstay" "delta" "LBootstay$Delta;", Cond.methodLink RX5 176 yX5_requireStartable, Cond.instanceMethod yX5_requireStartable, Cond.selects RX5 yX5_requireStartable yX5_requireStartable, Cond.code yX5_requireStartable cX5_requireStartable 2 none, Cond.classLink RX5 50 "java/lang/IllegalStateException", Cond.initialized "java/lang/IllegalStateException", Cond.fieldLink RX5 10 "Bootstay" "store" "LBootstay$Store;", Cond.methodLink RX5 67 yX5_requireWithin, Cond.static yX5_requireWithin, Cond.code yX5_requireWithin cX5_requireWithin 3 none, Cond.classLink RX5 124 "java/lang/IllegalArgumentException", Cond.initialized "java/lang/IllegalArgumentException", Cond.methodLink RX5 194 yX3_canStart, Cond.instanceMethod yX3_canStart, Cond.selects RX3 yX3_canStart yX3_canStart]
def wsL_deltaLength_r2 : List Cond := [Cond.initialized RX3, Cond.code yX3_canStart cX3_canStart 3 (some .boolean), Cond.methodLink RX3 48 yX3_slotWord, Cond.instanceMethod yX3_slotWord, Cond.selects RX3 yX3_slotWord yX3_slotWord, Cond.code yX3_slotWord cX3_slotWord 3 (some .int), Cond.fieldLink RX3 14 "Bootstay$Store" "flash" "LBootstay$Flash;", Cond.methodLink RX3 34 yX2_read, Cond.instanceMethod yX2_read, Cond.selects RX2 yX2_read yX2_read, Cond.initialized RX2, Cond.code yX2_read cX2_read 2 (some .int), Cond.fieldLink RX2 11 "Bootstay$Flash" "words" "[I", Cond.methodLink RX3 22 yX3_imageHash, Cond.instanceMethod yX3_imageHash, Cond.selects RX3 yX3_imageHash yX3_imageHash, Cond.code yX3_imageHash cX3_imageHash 5 (some .int), Cond.methodLink RX3 42 yX3_imageWord, Cond.instanceMethod yX3_imageWord, Cond.selects RX3 yX3_imageWord yX3_imageWord, Cond.code yX3_imageWord cX3_imageWord 3 (some .int), Cond.static yX5_hashWith, Cond.code yX5_hashWith cX5_hashWith 2 (some .int), Cond.constant RX5 246 (65521)]
def wsL_deltaLength_r3 : List Cond := [Cond.methodLink RX5 182 yX0_pieceStart, Cond.instanceMethod yX0_pieceStart, Cond.selects RX0 yX0_pieceStart yX0_pieceStart, Cond.initialized RX0, Cond.code yX0_pieceStart cX0_pieceStart 5 (some .int), Cond.fieldLink RX0 9 "Bootstay$Delta" "draft" "LBootstay$Draft;", Cond.fieldLink RX0 19 "Bootstay$Draft" "size" "I", Cond.methodLink RX0 25 yX0_pieceLength, Cond.instanceMethod yX0_pieceLength, Cond.selects RX0 yX0_pieceLength yX0_pieceLength, Cond.code yX0_pieceLength cX0_pieceLength 4 (some .int), Cond.methodLink RX0 29 yX0_runFrom, Cond.instanceMethod yX0_runFrom, Cond.selects RX0 yX0_runFrom yX0_runFrom, Cond.code yX0_runFrom cX0_runFrom 8 (some .int), Cond.fieldLink RX0 15 "Bootstay$Delta" "store" "LBootstay$Store;", Cond.methodLink RX0 38 yX3_slotWord, Cond.methodLink RX0 32 yX0_matchLength, Cond.instanceMethod yX0_matchLength, Cond.selects RX0 yX0_matchLength yX0_matchLength, Cond.code yX0_matchLength cX0_matchLength 6 (some .int), Cond.methodLink RX0 41 Lib.Math.min.name, Cond.static Lib.Math.min.name, Cond.initialized "java/lang/Math"]
def wsL_deltaLength_r4 : List Cond := [Cond.code Lib.Math.min.name Lib.Math.min.code 2 (some .int), Cond.methodLink RX0 46 yX3_imageWord, Cond.methodLink RX0 49 yX1_byteAt, Cond.instanceMethod yX1_byteAt, Cond.selects RX1 yX1_byteAt yX1_byteAt, Cond.initialized RX1, Cond.code yX1_byteAt cX1_byteAt 2 (some .int), Cond.fieldLink RX1 15 "Bootstay$Draft" "bytes" "[I", Cond.methodLink RX5 185 yX5_requirePiece, Cond.static yX5_requirePiece, Cond.code yX5_requirePiece cX5_requirePiece 1 none, Cond.classLink RX5 197 "java/lang/IndexOutOfBoundsException", Cond.initialized "java/lang/IndexOutOfBoundsException", Cond.methodLink RX5 188 yX0_pieceLength]
def wsL_deltaLength : List Cond := .codeWith yL_deltaLength cL_deltaLength 5 (some .int) [(0, 10, 13, 22), (0, 10, 17, 13), (0, 10, 21, 53)] :: ((wsL_deltaLength_r1 ++ (wsL_deltaLength_r2 ++ (wsL_deltaLength_r3 ++ wsL_deltaLength_r4))) ++ wsX50 ++ wsX30 ++ wsX20 ++ wsX00 ++ wsX10 ++ (vx_atS RX5 54 "java/lang/IllegalStateException" ["java/lang/RuntimeException", "java/lang/Exception"]).filter goodWord ++ (vx_atS RX5 128 "java/lang/IllegalArgumentException" ["java/lang/RuntimeException", "java/lang/Exception"]).filter goodWord ++ (vx_atS RX5 201 "java/lang/IndexOutOfBoundsException" ["java/lang/RuntimeException", "java/lang/Exception"]).filter goodWord)
def wsL_deltaFrom_r1 : List Cond := [Cond.classLink RL 22 "java/lang/IllegalArgumentException", Cond.classLink RL 13 "java/lang/IllegalStateException", Cond.classLink RL 53 "java/lang/IndexOutOfBoundsException", Cond.methodLink RL 55 yX5_deltaFrom, Cond.instanceMethod yX5_deltaFrom, Cond.selects RX5 yX5_deltaFrom yX5_deltaFrom, Cond.initialized RX5, Cond.code yX5_deltaFrom cX5_deltaFrom 4 (some .int), Cond.fieldLink RX5 38 "Bootstay" "delta" "LBootstay$Delta;", Cond.methodLink RX5 176 yX5_requireStartable, Cond.instanceMethod yX5_requireStartable, Cond.selects RX5 yX5_requireStartable yX5_requireStartable, Cond.code yX5_requireStartable cX5_requireStartable 2 none, Cond.classLink RX5 50 "java/lang/IllegalStateException", Cond.initialized "java/lang/IllegalStateException", Cond.fieldLink RX5 10 "Bootstay" "store" "LBootstay$Store;", Cond.methodLink RX5 67 yX5_requireWithin, Cond.static yX5_requireWithin, Cond.code yX5_requireWithin cX5_requireWithin 3 none, Cond.classLink RX5 124 "java/lang/IllegalArgumentException", Cond.initialized "java/lang/IllegalArgumentException", Cond.methodLink RX5 194 yX3_canStart, Cond.instanceMethod yX3_canStart, Cond.selects RX3 yX3_canStart yX3_canStart]
def wsL_deltaFrom_r2 : List Cond := [Cond.initialized RX3, Cond.code yX3_canStart cX3_canStart 3 (some .boolean), Cond.methodLink RX3 48 yX3_slotWord, Cond.instanceMethod yX3_slotWord, Cond.selects RX3 yX3_slotWord yX3_slotWord, Cond.code yX3_slotWord cX3_slotWord 3 (some .int), Cond.fieldLink RX3 14 "Bootstay$Store" "flash" "LBootstay$Flash;", Cond.methodLink RX3 34 yX2_read, Cond.instanceMethod yX2_read, Cond.selects RX2 yX2_read yX2_read, Cond.initialized RX2, Cond.code yX2_read cX2_read 2 (some .int), Cond.fieldLink RX2 11 "Bootstay$Flash" "words" "[I", Cond.methodLink RX3 22 yX3_imageHash, Cond.instanceMethod yX3_imageHash, Cond.selects RX3 yX3_imageHash yX3_imageHash, Cond.code yX3_imageHash cX3_imageHash 5 (some .int), Cond.methodLink RX3 42 yX3_imageWord, Cond.instanceMethod yX3_imageWord, Cond.selects RX3 yX3_imageWord yX3_imageWord, Cond.code yX3_imageWord cX3_imageWord 3 (some .int), Cond.static yX5_hashWith, Cond.code yX5_hashWith cX5_hashWith 2 (some .int), Cond.constant RX5 246 (65521)]
def wsL_deltaFrom_r3 : List Cond := [Cond.methodLink RX5 182 yX0_pieceStart, Cond.instanceMethod yX0_pieceStart, Cond.selects RX0 yX0_pieceStart yX0_pieceStart, Cond.initialized RX0, Cond.code yX0_pieceStart cX0_pieceStart 5 (some .int), Cond.fieldLink RX0 9 "Bootstay$Delta" "draft" "LBootstay$Draft;", Cond.fieldLink RX0 19 "Bootstay$Draft" "size" "I", Cond.methodLink RX0 25 yX0_pieceLength, Cond.instanceMethod yX0_pieceLength, Cond.selects RX0 yX0_pieceLength yX0_pieceLength, Cond.code yX0_pieceLength cX0_pieceLength 4 (some .int), Cond.methodLink RX0 29 yX0_runFrom, Cond.instanceMethod yX0_runFrom, Cond.selects RX0 yX0_runFrom yX0_runFrom, Cond.code yX0_runFrom cX0_runFrom 8 (some .int), Cond.fieldLink RX0 15 "Bootstay$Delta" "store" "LBootstay$Store;", Cond.methodLink RX0 38 yX3_slotWord, Cond.methodLink RX0 32 yX0_matchLength, Cond.instanceMethod yX0_matchLength, Cond.selects RX0 yX0_matchLength yX0_matchLength, Cond.code yX0_matchLength cX0_matchLength 6 (some .int), Cond.methodLink RX0 41 Lib.Math.min.name, Cond.static Lib.Math.min.name, Cond.initialized "java/lang/Math"]
def wsL_deltaFrom_r4 : List Cond := [Cond.code Lib.Math.min.name Lib.Math.min.code 2 (some .int), Cond.methodLink RX0 46 yX3_imageWord, Cond.methodLink RX0 49 yX1_byteAt, Cond.instanceMethod yX1_byteAt, Cond.selects RX1 yX1_byteAt yX1_byteAt, Cond.initialized RX1, Cond.code yX1_byteAt cX1_byteAt 2 (some .int), Cond.fieldLink RX1 15 "Bootstay$Draft" "bytes" "[I", Cond.methodLink RX5 185 yX5_requirePiece, Cond.static yX5_requirePiece, Cond.code yX5_requirePiece cX5_requirePiece 1 none, Cond.classLink RX5 197 "java/lang/IndexOutOfBoundsException", Cond.initialized "java/lang/IndexOutOfBoundsException", Cond.methodLink RX5 191 yX0_runFrom]
def wsL_deltaFrom : List Cond := .codeWith yL_deltaFrom cL_deltaFrom 5 (some .int) [(0, 10, 13, 22), (0, 10, 17, 13), (0, 10, 21, 53)] :: ((wsL_deltaFrom_r1 ++ (wsL_deltaFrom_r2 ++ (wsL_deltaFrom_r3 ++ wsL_deltaFrom_r4))) ++ wsX50 ++ wsX30 ++ wsX20 ++ wsX00 ++ wsX10 ++ (vx_atS RX5 54 "java/lang/IllegalStateException" ["java/lang/RuntimeException", "java/lang/Exception"]).filter goodWord ++ (vx_atS RX5 128 "java/lang/IllegalArgumentException" ["java/lang/RuntimeException", "java/lang/Exception"]).filter goodWord ++ (vx_atS RX5 201 "java/lang/IndexOutOfBoundsException" ["java/lang/RuntimeException", "java/lang/Exception"]).filter goodWord)
def wsL_isStartable_r1 : List Cond := [Cond.classLink RL 22 "java/lang/IllegalArgumentException", Cond.methodLink RL 58 yX5_isStartable, Cond.instanceMethod yX5_isStartable, Cond.selects RX5 yX5_isStartable yX5_isStartable, Cond.initialized RX5, Cond.code yX5_isStartable cX5_isStartable 2 (some .boolean), Cond.fieldLink RX5 10 "Bootstay" "store" "LBootstay$Store;", Cond.methodLink RX5 67 yX5_requireWithin, Cond.static yX5_requireWithin, Cond.code yX5_requireWithin cX5_requireWithin 3 none, Cond.classLink RX5 124 "java/lang/IllegalArgumentException", Cond.initialized "java/lang/IllegalArgumentException", Cond.methodLink RX5 194 yX3_canStart, Cond.instanceMethod yX3_canStart, Cond.selects RX3 yX3_canStart yX3_canStart, Cond.initialized RX3, Cond.code yX3_canStart cX3_canStart 3 (some .boolean), Cond.methodLink RX3 48 yX3_slotWord, Cond.instanceMethod yX3_slotWord, Cond.selects RX3 yX3_slotWord yX3_slotWord, Cond.code yX3_slotWord cX3_slotWord 3 (some .int), Cond.fieldLink RX3 14 "Bootstay$Store" "flash" "LBootstay$Flash;", Cond.methodLink RX3 34 yX2_read, Cond.instanceMethod yX2_read]
def wsL_isStartable_r2 : List Cond := [Cond.selects RX2 yX2_read yX2_read, Cond.initialized RX2, Cond.code yX2_read cX2_read 2 (some .int), Cond.fieldLink RX2 11 "Bootstay$Flash" "words" "[I", Cond.methodLink RX3 22 yX3_imageHash, Cond.instanceMethod yX3_imageHash, Cond.selects RX3 yX3_imageHash yX3_imageHash, Cond.code yX3_imageHash cX3_imageHash 5 (some .int), Cond.methodLink RX3 42 yX3_imageWord, Cond.instanceMethod yX3_imageWord, Cond.selects RX3 yX3_imageWord yX3_imageWord, Cond.code yX3_imageWord cX3_imageWord 3 (some .int), Cond.static yX5_hashWith, Cond.code yX5_hashWith cX5_hashWith 2 (some .int), Cond.constant RX5 246 (65521)]
def wsL_isStartable : List Cond := .codeWith yL_isStartable cL_isStartable 4 (some .int) [(0, 16, 19, 22)] :: ((wsL_isStartable_r1 ++ wsL_isStartable_r2) ++ wsX50 ++ wsX30 ++ wsX20 ++ (vx_atS RX5 128 "java/lang/IllegalArgumentException" ["java/lang/RuntimeException", "java/lang/Exception"]).filter goodWord)
def wsL_version : List Cond := .codeWith yL_version cL_version 4 (some .int) [(0, 9, 12, 22)] :: ([.classLink RL 22 "java/lang/IllegalArgumentException", .methodLink RL 61 yX5_version, .instanceMethod yX5_version, .selects RX5 yX5_version yX5_version, .initialized RX5, .code yX5_version cX5_version 2 (some .int), .fieldLink RX5 10 "Bootstay" "store" "LBootstay$Store;", .methodLink RX5 67 yX5_requireWithin, .static yX5_requireWithin, .code yX5_requireWithin cX5_requireWithin 3 none, .classLink RX5 124 "java/lang/IllegalArgumentException", .initialized "java/lang/IllegalArgumentException", .methodLink RX5 93 yX3_slotWord, .instanceMethod yX3_slotWord, .selects RX3 yX3_slotWord yX3_slotWord, .initialized RX3, .code yX3_slotWord cX3_slotWord 3 (some .int), .fieldLink RX3 14 "Bootstay$Store" "flash" "LBootstay$Flash;", .methodLink RX3 34 yX2_read, .instanceMethod yX2_read, .selects RX2 yX2_read yX2_read, .initialized RX2, .code yX2_read cX2_read 2 (some .int), .fieldLink RX2 11 "Bootstay$Flash" "words" "[I"] ++ wsX50 ++ wsX30 ++ wsX20 ++ (vx_atS RX5 128 "java/lang/IllegalArgumentException" ["java/lang/RuntimeException", "java/lang/Exception"]).filter goodWord)
def wsL_imageByte_r1 : List Cond := [Cond.classLink RL 22 "java/lang/IllegalArgumentException", Cond.classLink RL 53 "java/lang/IndexOutOfBoundsException", Cond.methodLink RL 64 yX5_imageByte, Cond.instanceMethod yX5_imageByte, Cond.selects RX5 yX5_imageByte yX5_imageByte, Cond.initialized RX5, Cond.code yX5_imageByte cX5_imageByte 3 (some .int), Cond.classLink RX5 197 "java/lang/IndexOutOfBoundsException", Cond.initialized "java/lang/IndexOutOfBoundsException", Cond.fieldLink RX5 10 "Bootstay" "store" "LBootstay$Store;", Cond.methodLink RX5 67 yX5_requireWithin, Cond.static yX5_requireWithin, Cond.code yX5_requireWithin cX5_requireWithin 3 none, Cond.classLink RX5 124 "java/lang/IllegalArgumentException", Cond.initialized "java/lang/IllegalArgumentException", Cond.methodLink RX5 129 yX3_imageWord, Cond.instanceMethod yX3_imageWord, Cond.selects RX3 yX3_imageWord yX3_imageWord, Cond.initialized RX3, Cond.code yX3_imageWord cX3_imageWord 3 (some .int), Cond.fieldLink RX3 14 "Bootstay$Store" "flash" "LBootstay$Flash;", Cond.methodLink RX3 34 yX2_read, Cond.instanceMethod yX2_read, Cond.selects RX2 yX2_read yX2_read]
def wsL_imageByte_r2 : List Cond := [Cond.initialized RX2, Cond.code yX2_read cX2_read 2 (some .int), Cond.fieldLink RX2 11 "Bootstay$Flash" "words" "[I"]
def wsL_imageByte : List Cond := .codeWith yL_imageByte cL_imageByte 5 (some .int) [(0, 10, 13, 22), (0, 10, 17, 53)] :: ((wsL_imageByte_r1 ++ wsL_imageByte_r2) ++ wsX50 ++ wsX30 ++ wsX20 ++ (vx_atS RX5 201 "java/lang/IndexOutOfBoundsException" ["java/lang/RuntimeException", "java/lang/Exception"]).filter goodWord ++ (vx_atS RX5 128 "java/lang/IllegalArgumentException" ["java/lang/RuntimeException", "java/lang/Exception"]).filter goodWord)
def wsL_isValid_r1 : List Cond := [Cond.classLink RL 22 "java/lang/IllegalArgumentException", Cond.methodLink RL 67 yX5_isValid, Cond.instanceMethod yX5_isValid, Cond.selects RX5 yX5_isValid yX5_isValid, Cond.initialized RX5, Cond.code yX5_isValid cX5_isValid 2 (some .boolean), Cond.fieldLink RX5 10 "Bootstay" "store" "LBootstay$Store;", Cond.methodLink RX5 67 yX5_requireWithin, Cond.static yX5_requireWithin, Cond.code yX5_requireWithin cX5_requireWithin 3 none, Cond.classLink RX5 124 "java/lang/IllegalArgumentException", Cond.initialized "java/lang/IllegalArgumentException", Cond.methodLink RX5 205 yX3_isRecordValid, Cond.instanceMethod yX3_isRecordValid, Cond.selects RX3 yX3_isRecordValid yX3_isRecordValid, Cond.initialized RX3, Cond.code yX3_isRecordValid cX3_isRecordValid 2 (some .boolean), Cond.methodLink RX3 51 yX3_recordWord, Cond.instanceMethod yX3_recordWord, Cond.selects RX3 yX3_recordWord yX3_recordWord, Cond.code yX3_recordWord cX3_recordWord 3 (some .int), Cond.fieldLink RX3 14 "Bootstay$Store" "flash" "LBootstay$Flash;", Cond.methodLink RX3 34 yX2_read, Cond.instanceMethod yX2_read]
def wsL_isValid_r2 : List Cond := [Cond.selects RX2 yX2_read yX2_read, Cond.initialized RX2, Cond.code yX2_read cX2_read 2 (some .int), Cond.fieldLink RX2 11 "Bootstay$Flash" "words" "[I", Cond.methodLink RX3 26 yX3_checkOf, Cond.static yX3_checkOf, Cond.code yX3_checkOf cX3_checkOf 3 (some .int)]
def wsL_isValid : List Cond := .codeWith yL_isValid cL_isValid 4 (some .int) [(0, 16, 19, 22)] :: ((wsL_isValid_r1 ++ wsL_isValid_r2) ++ wsX50 ++ wsX30 ++ wsX20 ++ (vx_atS RX5 128 "java/lang/IllegalArgumentException" ["java/lang/RuntimeException", "java/lang/Exception"]).filter goodWord)
def wsL_safeFinish_r1 : List Cond := [Cond.classLink RL 22 "java/lang/IllegalArgumentException", Cond.classLink RL 13 "java/lang/IllegalStateException", Cond.methodLink RL 70 yX5_safeFinish, Cond.instanceMethod yX5_safeFinish, Cond.selects RX5 yX5_safeFinish yX5_safeFinish, Cond.initialized RX5, Cond.code yX5_safeFinish cX5_safeFinish 4 (some .int), Cond.fieldLink RX5 16 "Bootstay" "rehearsal" "LBootstay$Store;", Cond.fieldLink RX5 10 "Bootstay" "store" "LBootstay$Store;", Cond.fieldLink RX5 71 "Bootstay$Store" "flash" "LBootstay$Flash;", Cond.fieldLink RX5 22 "Bootstay" "transfer" "LBootstay$Transfer;", Cond.methodLink RX5 132 yX5_requireFinishable, Cond.instanceMethod yX5_requireFinishable, Cond.selects RX5 yX5_requireFinishable yX5_requireFinishable, Cond.code yX5_requireFinishable cX5_requireFinishable 2 none, Cond.classLink RX5 50 "java/lang/IllegalStateException", Cond.initialized "java/lang/IllegalStateException", Cond.fieldLink RX5 226 "Bootstay$Transfer" "length" "I", Cond.fieldLink RX5 232 "Bootstay$Transfer" "hash" "I", Cond.methodLink RX5 67 yX5_requireWithin, Cond.static yX5_requireWithin, Cond.code yX5_requireWithin cX5_requireWithin 3 none, Cond.classLink RX5 124 "java/lang/IllegalArgumentException", Cond.initialized "java/lang/IllegalArgumentException"]
def wsL_safeFinish_r2 : List Cond := [Cond.methodLink RX5 160 yX4_bytesToCome, Cond.instanceMethod yX4_bytesToCome, Cond.selects RX4 yX4_bytesToCome yX4_bytesToCome, Cond.initialized RX4, Cond.code yX4_bytesToCome cX4_bytesToCome 1 (some .int), Cond.fieldLink RX4 27 "Bootstay$Transfer" "isGoingOn" "Z", Cond.fieldLink RX4 15 "Bootstay$Transfer" "length" "I", Cond.fieldLink RX4 24 "Bootstay$Transfer" "come" "I", Cond.methodLink RX5 106 yX5_idleSlot, Cond.instanceMethod yX5_idleSlot, Cond.selects RX5 yX5_idleSlot yX5_idleSlot, Cond.code yX5_idleSlot cX5_idleSlot 1 (some .int), Cond.fieldLink RX5 42 "Bootstay" "runningSlot" "I", Cond.methodLink RX5 229 yX3_imageHash, Cond.instanceMethod yX3_imageHash, Cond.selects RX3 yX3_imageHash yX3_imageHash, Cond.initialized RX3, Cond.code yX3_imageHash cX3_imageHash 5 (some .int), Cond.methodLink RX3 42 yX3_imageWord, Cond.instanceMethod yX3_imageWord, Cond.selects RX3 yX3_imageWord yX3_imageWord, Cond.code yX3_imageWord cX3_imageWord 3 (some .int), Cond.fieldLink RX3 14 "Bootstay$Store" "flash" "LBootstay$Flash;", Cond.methodLink RX3 34 yX2_read]
def wsL_safeFinish_r3 : List Cond := [Cond.instanceMethod yX2_read, Cond.selects RX2 yX2_read yX2_read, Cond.initialized RX2, Cond.code yX2_read cX2_read 2 (some .int), Cond.fieldLink RX2 11 "Bootstay$Flash" "words" "[I", Cond.static yX5_hashWith, Cond.code yX5_hashWith cX5_hashWith 2 (some .int), Cond.constant RX5 246 (65521), Cond.methodLink RX5 211 yX3_mirror, Cond.instanceMethod yX3_mirror, Cond.selects RX3 yX3_mirror yX3_mirror, Cond.code yX3_mirror cX3_mirror 2 none, Cond.methodLink RX3 30 yX2_mirror, Cond.instanceMethod yX2_mirror, Cond.selects RX2 yX2_mirror yX2_mirror, Cond.code yX2_mirror cX2_mirror 3 none, Cond.methodLink RX2 24 yX2_read, Cond.methodLink RX5 75 yX2_chooseFailure, Cond.instanceMethod yX2_chooseFailure, Cond.selects RX2 yX2_chooseFailure yX2_chooseFailure, Cond.code yX2_chooseFailure cX2_chooseFailure 2 none, Cond.fieldLink RX2 21 "Bootstay$Flash" "writesToFailure" "I", Cond.methodLink RX5 135 yX3_writeUpdate, Cond.instanceMethod yX3_writeUpdate]
def wsL_safeFinish_r4 : List Cond := [Cond.selects RX3 yX3_writeUpdate yX3_writeUpdate, Cond.code yX3_writeUpdate cX3_writeUpdate 4 (some .boolean), Cond.fieldLink RX3 103 "Bootstay$Transfer" "version" "I", Cond.fieldLink RX3 112 "Bootstay$Transfer" "length" "I", Cond.fieldLink RX3 115 "Bootstay$Transfer" "hash" "I", Cond.fieldLink RX3 118 "Bootstay$Transfer" "counter" "I", Cond.methodLink RX3 109 yX3_writeSlotWord, Cond.instanceMethod yX3_writeSlotWord, Cond.selects RX3 yX3_writeSlotWord yX3_writeSlotWord, Cond.code yX3_writeSlotWord cX3_writeSlotWord 4 (some .boolean), Cond.methodLink RX3 38 yX2_write, Cond.instanceMethod yX2_write, Cond.selects RX2 yX2_write yX2_write, Cond.code yX2_write cX2_write 3 (some .boolean), Cond.fieldLink RX2 17 "Bootstay$Flash" "begun" "I", Cond.methodLink RX2 28 yX2_preset, Cond.instanceMethod yX2_preset, Cond.selects RX2 yX2_preset yX2_preset, Cond.code yX2_preset cX2_preset 3 none, Cond.methodLink RX3 85 yX3_confirmedSlot, Cond.instanceMethod yX3_confirmedSlot, Cond.selects RX3 yX3_confirmedSlot yX3_confirmedSlot, Cond.code yX3_confirmedSlot cX3_confirmedSlot 1 (some .int), Cond.methodLink RX3 58 yX3_recordInForce]
def wsL_safeFinish_r5 : List Cond := [Cond.instanceMethod yX3_recordInForce, Cond.selects RX3 yX3_recordInForce yX3_recordInForce, Cond.code yX3_recordInForce cX3_recordInForce 1 (some .int), Cond.methodLink RX3 54 yX3_isRecordValid, Cond.instanceMethod yX3_isRecordValid, Cond.selects RX3 yX3_isRecordValid yX3_isRecordValid, Cond.code yX3_isRecordValid cX3_isRecordValid 2 (some .boolean), Cond.methodLink RX3 51 yX3_recordWord, Cond.instanceMethod yX3_recordWord, Cond.selects RX3 yX3_recordWord yX3_recordWord, Cond.code yX3_recordWord cX3_recordWord 3 (some .int), Cond.methodLink RX3 26 yX3_checkOf, Cond.static yX3_checkOf, Cond.code yX3_checkOf cX3_checkOf 3 (some .int), Cond.methodLink RX3 62 yX3_confirmedIn, Cond.static yX3_confirmedIn, Cond.code yX3_confirmedIn cX3_confirmedIn 1 (some .int), Cond.methodLink RX3 94 yX3_trialState, Cond.static yX3_trialState, Cond.code yX3_trialState cX3_trialState 2 (some .int), Cond.methodLink RX3 97 yX3_recordCounter, Cond.instanceMethod yX3_recordCounter, Cond.selects RX3 yX3_recordCounter yX3_recordCounter, Cond.code yX3_recordCounter cX3_recordCounter 1 (some .int)]
def wsL_safeFinish_r6 : List Cond := [Cond.methodLink RX3 100 yX3_writeRecord, Cond.instanceMethod yX3_writeRecord, Cond.selects RX3 yX3_writeRecord yX3_writeRecord, Cond.code yX3_writeRecord cX3_writeRecord 6 (some .boolean), Cond.methodLink RX3 71 yX3_writeRecordWord, Cond.instanceMethod yX3_writeRecordWord, Cond.selects RX3 yX3_writeRecordWord yX3_writeRecordWord, Cond.code yX3_writeRecordWord cX3_writeRecordWord 4 (some .boolean), Cond.methodLink RX5 215 yX3_slotToStart, Cond.instanceMethod yX3_slotToStart, Cond.selects RX3 yX3_slotToStart yX3_slotToStart, Cond.code yX3_slotToStart cX3_slotToStart 6 (some .int), Cond.methodLink RX3 68 yX3_triesIn, Cond.static yX3_triesIn, Cond.code yX3_triesIn cX3_triesIn 1 (some .int), Cond.methodLink RX3 65 yX3_isTrialIn, Cond.static yX3_isTrialIn, Cond.code yX3_isTrialIn cX3_isTrialIn 1 (some .boolean), Cond.methodLink RX3 75 yX3_canStart, Cond.instanceMethod yX3_canStart, Cond.selects RX3 yX3_canStart yX3_canStart, Cond.code yX3_canStart cX3_canStart 3 (some .boolean), Cond.methodLink RX3 48 yX3_slotWord, Cond.instanceMethod yX3_slotWord]
def wsL_safeFinish_r7 : List Cond := [Cond.selects RX3 yX3_slotWord yX3_slotWord, Cond.code yX3_slotWord cX3_slotWord 3 (some .int), Cond.methodLink RX3 22 yX3_imageHash, Cond.methodLink RX5 194 yX3_canStart]
def wsL_safeFinish : List Cond := .codeWith yL_safeFinish cL_safeFinish 4 (some .int) [(0, 9, 12, 22), (0, 9, 15, 13)] :: ((wsL_safeFinish_r1 ++ (wsL_safeFinish_r2 ++ (wsL_safeFinish_r3 ++ (wsL_safeFinish_r4 ++ (wsL_safeFinish_r5 ++ (wsL_safeFinish_r6 ++ wsL_safeFinish_r7)))))) ++ wsX50 ++ wsX30 ++ wsX40 ++ wsX20 ++ (vx_atS RX5 54 "java/lang/IllegalStateException" ["java/lang/RuntimeException", "java/lang/Exception"]).filter goodWord ++ (vx_atS RX5 128 "java/lang/IllegalArgumentException" ["java/lang/RuntimeException", "java/lang/Exception"]).filter goodWord)
def wsL_law0_r1 : List Cond := [Cond.classLink RL 8 RX5, Cond.instantiable RX5 6, Cond.initialized RX5, Cond.classLink RL 74 RX6, Cond.instantiable RX6 14, Cond.initialized RX6, Cond.arrayClass .long, Cond.methodLink RL 73 yX5_init, Cond.instanceMethod yX5_init, Cond.code yX5_init cX5_init 1 none, Cond.methodLink RX5 1 objectInit, Cond.instanceMethod objectInit, Cond.code objectInit ⟨#[0xb1]⟩ 1 none, Cond.classLink RX5 7 RX3, Cond.instantiable RX3 1, Cond.initialized RX3, Cond.fieldLink RX5 10 "Bootstay" "store" "LBootstay$Store;", Cond.fieldLink RX5 16 "Bootstay" "rehearsal" "LBootstay$Store;", Cond.classLink RX5 19 RX4, Cond.instantiable RX4 6, Cond.initialized RX4, Cond.fieldLink RX5 22 "Bootstay" "transfer" "LBootstay$Transfer;", Cond.classLink RX5 26 RX1, Cond.instantiable RX1 2]
def wsL_law0_r2 : List Cond := [Cond.initialized RX1, Cond.fieldLink RX5 29 "Bootstay" "draftImage" "LBootstay$Draft;", Cond.classLink RX5 33 RX0, Cond.instantiable RX0 2, Cond.initialized RX0, Cond.fieldLink RX5 38 "Bootstay" "delta" "LBootstay$Delta;", Cond.fieldLink RX5 42 "Bootstay" "runningSlot" "I", Cond.methodLink RX5 9 yX3_init, Cond.instanceMethod yX3_init, Cond.code yX3_init cX3_init 2 none, Cond.methodLink RX3 5 objectInit, Cond.classLink RX3 11 RX2, Cond.instantiable RX2 3, Cond.initialized RX2, Cond.fieldLink RX3 14 "Bootstay$Store" "flash" "LBootstay$Flash;", Cond.instanceMethod yX2_init, Cond.code yX2_init cX2_init 1 none, Cond.methodLink RX2 3 objectInit, Cond.arrayClass .int, Cond.fieldLink RX2 11 "Bootstay$Flash" "words" "[I", Cond.fieldLink RX2 17 "Bootstay$Flash" "begun" "I", Cond.fieldLink RX2 21 "Bootstay$Flash" "writesToFailure" "I", Cond.methodLink RX3 18 yX2_preset, Cond.instanceMethod yX2_preset]
def wsL_law0_r3 : List Cond := [Cond.selects RX2 yX2_preset yX2_preset, Cond.code yX2_preset cX2_preset 3 none, Cond.methodLink RX3 22 yX3_imageHash, Cond.instanceMethod yX3_imageHash, Cond.selects RX3 yX3_imageHash yX3_imageHash, Cond.code yX3_imageHash cX3_imageHash 5 (some .int), Cond.methodLink RX3 42 yX3_imageWord, Cond.instanceMethod yX3_imageWord, Cond.selects RX3 yX3_imageWord yX3_imageWord, Cond.code yX3_imageWord cX3_imageWord 3 (some .int), Cond.methodLink RX3 34 yX2_read, Cond.instanceMethod yX2_read, Cond.selects RX2 yX2_read yX2_read, Cond.code yX2_read cX2_read 2 (some .int), Cond.static yX5_hashWith, Cond.code yX5_hashWith cX5_hashWith 2 (some .int), Cond.constant RX5 246 (65521), Cond.methodLink RX3 26 yX3_checkOf, Cond.static yX3_checkOf, Cond.code yX3_checkOf cX3_checkOf 3 (some .int), Cond.instanceMethod yX4_init, Cond.code yX4_init cX4_init 1 none, Cond.methodLink RX4 3 objectInit, Cond.fieldLink RX4 9 "Bootstay$Transfer" "version" "I"]
def wsL_law0_r4 : List Cond := [Cond.fieldLink RX4 15 "Bootstay$Transfer" "length" "I", Cond.fieldLink RX4 18 "Bootstay$Transfer" "hash" "I", Cond.fieldLink RX4 21 "Bootstay$Transfer" "counter" "I", Cond.fieldLink RX4 24 "Bootstay$Transfer" "come" "I", Cond.fieldLink RX4 27 "Bootstay$Transfer" "isGoingOn" "Z", Cond.instanceMethod yX1_init, Cond.code yX1_init cX1_init 1 none, Cond.methodLink RX1 3 objectInit, Cond.fieldLink RX1 9 "Bootstay$Draft" "size" "I", Cond.fieldLink RX1 15 "Bootstay$Draft" "bytes" "[I", Cond.methodLink RX5 35 yX0_init, Cond.instanceMethod yX0_init, Cond.code yX0_init cX0_init 3 none, Cond.methodLink RX0 3 objectInit, Cond.fieldLink RX0 9 "Bootstay$Delta" "draft" "LBootstay$Draft;", Cond.fieldLink RX0 15 "Bootstay$Delta" "store" "LBootstay$Store;", Cond.methodLink RL 76 yX6_init, Cond.instanceMethod yX6_init, Cond.code yX6_init cX6_init 2 none, Cond.methodLink RX6 1 objectInit, Cond.fieldLink RX6 7 "BootstayModel" "flash" "[I", Cond.fieldLink RX6 13 "BootstayModel" "kept" "[I", Cond.fieldLink RX6 16 "BootstayModel" "running" "I", Cond.fieldLink RX6 20 "BootstayModel" "left" "I"]
def wsL_law0_r5 : List Cond := [Cond.fieldLink RX6 23 "BootstayModel" "come" "I", Cond.fieldLink RX6 26 "BootstayModel" "draft" "[I", Cond.methodLink RX6 29 yX6_hashIn, Cond.instanceMethod yX6_hashIn, Cond.selects RX6 yX6_hashIn yX6_hashIn, Cond.code yX6_hashIn cX6_hashIn 5 (some .int), Cond.methodLink RX6 41 yX6_hashed, Cond.static yX6_hashed, Cond.code yX6_hashed cX6_hashed 2 (some .int), Cond.constant RX6 40 (65521), Cond.methodLink RX6 33 yX6_rightCheck, Cond.instanceMethod yX6_rightCheck, Cond.selects RX6 yX6_rightCheck yX6_rightCheck, Cond.code yX6_rightCheck cX6_rightCheck 3 (some .int), Cond.methodLink RL 77 yL_switchOn, Cond.static yL_switchOn, Cond.initialized RL, Cond.codeWith yL_switchOn cL_switchOn 3 (some .int) [(0, 8, 11, 13)], Cond.classLink RL 13 "java/lang/IllegalStateException", Cond.methodLink RL 7 yX5_switchOn, Cond.instanceMethod yX5_switchOn, Cond.selects RX5 yX5_switchOn yX5_switchOn, Cond.code yX5_switchOn cX5_switchOn 1 (some .int), Cond.classLink RX5 50 "java/lang/IllegalStateException"]
def wsL_law0_r6 : List Cond := [Cond.initialized "java/lang/IllegalStateException", Cond.methodLink RX5 46 yX5_isOn, Cond.instanceMethod yX5_isOn, Cond.selects RX5 yX5_isOn yX5_isOn, Cond.code yX5_isOn cX5_isOn 1 (some .boolean), Cond.methodLink RX5 57 yX3_start, Cond.instanceMethod yX3_start, Cond.selects RX3 yX3_start yX3_start, Cond.code yX3_start cX3_start 4 (some .int), Cond.methodLink RX3 78 yX3_slotToStart, Cond.instanceMethod yX3_slotToStart, Cond.selects RX3 yX3_slotToStart yX3_slotToStart, Cond.code yX3_slotToStart cX3_slotToStart 6 (some .int), Cond.methodLink RX3 58 yX3_recordInForce, Cond.instanceMethod yX3_recordInForce, Cond.selects RX3 yX3_recordInForce yX3_recordInForce, Cond.code yX3_recordInForce cX3_recordInForce 1 (some .int), Cond.methodLink RX3 54 yX3_isRecordValid, Cond.instanceMethod yX3_isRecordValid, Cond.selects RX3 yX3_isRecordValid yX3_isRecordValid, Cond.code yX3_isRecordValid cX3_isRecordValid 2 (some .boolean), Cond.methodLink RX3 51 yX3_recordWord, Cond.instanceMethod yX3_recordWord, Cond.selects RX3 yX3_recordWord yX3_recordWord]
def wsL_law0_r7 : List Cond := [Cond.code yX3_recordWord cX3_recordWord 3 (some .int), Cond.methodLink RX3 62 yX3_confirmedIn, Cond.static yX3_confirmedIn, Cond.code yX3_confirmedIn cX3_confirmedIn 1 (some .int), Cond.methodLink RX3 68 yX3_triesIn, Cond.static yX3_triesIn, Cond.code yX3_triesIn cX3_triesIn 1 (some .int), Cond.methodLink RX3 65 yX3_isTrialIn, Cond.static yX3_isTrialIn, Cond.code yX3_isTrialIn cX3_isTrialIn 1 (some .boolean), Cond.methodLink RX3 75 yX3_canStart, Cond.instanceMethod yX3_canStart, Cond.selects RX3 yX3_canStart yX3_canStart, Cond.code yX3_canStart cX3_canStart 3 (some .boolean), Cond.methodLink RX3 48 yX3_slotWord, Cond.instanceMethod yX3_slotWord, Cond.selects RX3 yX3_slotWord yX3_slotWord, Cond.code yX3_slotWord cX3_slotWord 3 (some .int), Cond.methodLink RX3 81 yX3_isTrialDue, Cond.instanceMethod yX3_isTrialDue, Cond.selects RX3 yX3_isTrialDue yX3_isTrialDue, Cond.code yX3_isTrialDue cX3_isTrialDue 1 (some .boolean), Cond.methodLink RX3 85 yX3_confirmedSlot, Cond.instanceMethod yX3_confirmedSlot]
def wsL_law0_r8 : List Cond := [Cond.selects RX3 yX3_confirmedSlot yX3_confirmedSlot, Cond.code yX3_confirmedSlot cX3_confirmedSlot 1 (some .int), Cond.methodLink RX3 88 yX3_settledState, Cond.static yX3_settledState, Cond.code yX3_settledState cX3_settledState 1 (some .int), Cond.methodLink RX3 91 yX3_triesLeft, Cond.instanceMethod yX3_triesLeft, Cond.selects RX3 yX3_triesLeft yX3_triesLeft, Cond.code yX3_triesLeft cX3_triesLeft 1 (some .int), Cond.methodLink RX3 94 yX3_trialState, Cond.static yX3_trialState, Cond.code yX3_trialState cX3_trialState 2 (some .int), Cond.methodLink RX3 97 yX3_recordCounter, Cond.instanceMethod yX3_recordCounter, Cond.selects RX3 yX3_recordCounter yX3_recordCounter, Cond.code yX3_recordCounter cX3_recordCounter 1 (some .int), Cond.methodLink RX3 100 yX3_writeRecord, Cond.instanceMethod yX3_writeRecord, Cond.selects RX3 yX3_writeRecord yX3_writeRecord, Cond.code yX3_writeRecord cX3_writeRecord 6 (some .boolean), Cond.methodLink RX3 71 yX3_writeRecordWord, Cond.instanceMethod yX3_writeRecordWord, Cond.selects RX3 yX3_writeRecordWord yX3_writeRecordWord, Cond.code yX3_writeRecordWord cX3_writeRecordWord 4 (some .boolean)]
def wsL_law0_r9 : List Cond := [Cond.methodLink RX3 38 yX2_write, Cond.instanceMethod yX2_write, Cond.selects RX2 yX2_write yX2_write, Cond.code yX2_write cX2_write 3 (some .boolean), Cond.methodLink RX2 24 yX2_read, Cond.methodLink RX2 28 yX2_preset, Cond.methodLink RL 82 yX6_switchOn, Cond.instanceMethod yX6_switchOn, Cond.selects RX6 yX6_switchOn yX6_switchOn, Cond.code yX6_switchOn cX6_switchOn 4 (some .int), Cond.fieldLink RX6 63 "BootstayModel" "on" "Z", Cond.fieldLink RX6 37 "BootstayModel" "last" "I", Cond.methodLink RX6 83 yX6_confirmedSlot, Cond.instanceMethod yX6_confirmedSlot, Cond.selects RX6 yX6_confirmedSlot yX6_confirmedSlot, Cond.code yX6_confirmedSlot cX6_confirmedSlot 1 (some .int), Cond.methodLink RX6 56 yX6_inForce, Cond.instanceMethod yX6_inForce, Cond.selects RX6 yX6_inForce yX6_inForce, Cond.code yX6_inForce cX6_inForce 2 (some .int), Cond.methodLink RX6 52 yX6_force, Cond.instanceMethod yX6_force, Cond.selects RX6 yX6_force yX6_force, Cond.code yX6_force cX6_force 2 (some .int)]
def wsL_law0_r10 : List Cond := [Cond.methodLink RX6 48 yX6_holds, Cond.instanceMethod yX6_holds, Cond.selects RX6 yX6_holds yX6_holds, Cond.code yX6_holds cX6_holds 2 (some .boolean), Cond.methodLink RX6 86 yX6_willTry, Cond.instanceMethod yX6_willTry, Cond.selects RX6 yX6_willTry yX6_willTry, Cond.code yX6_willTry cX6_willTry 2 (some .boolean), Cond.methodLink RX6 59 yX6_isDue, Cond.instanceMethod yX6_isDue, Cond.selects RX6 yX6_isDue yX6_isDue, Cond.code yX6_isDue cX6_isDue 1 (some .boolean), Cond.methodLink RX6 77 yX6_triesLeft, Cond.instanceMethod yX6_triesLeft, Cond.selects RX6 yX6_triesLeft yX6_triesLeft, Cond.code yX6_triesLeft cX6_triesLeft 1 (some .int), Cond.methodLink RX6 80 yX6_canStart, Cond.instanceMethod yX6_canStart, Cond.selects RX6 yX6_canStart yX6_canStart, Cond.code yX6_canStart cX6_canStart 3 (some .boolean), Cond.methodLink RX6 44 yX6_in, Cond.static yX6_in, Cond.code yX6_in cX6_in 3 (some .boolean), Cond.methodLink RX6 89 yX6_records]
def wsL_law0_r11 : List Cond := [Cond.instanceMethod yX6_records, Cond.selects RX6 yX6_records yX6_records, Cond.code yX6_records cX6_records 6 (some .boolean), Cond.methodLink RX6 73 yX6_lays, Cond.instanceMethod yX6_lays, Cond.selects RX6 yX6_lays yX6_lays, Cond.code yX6_lays cX6_lays 3 (some .boolean), Cond.fieldLink RX6 67 "BootstayModel" "writes" "I", Cond.methodLink RX6 70 yX6_goesOff, Cond.instanceMethod yX6_goesOff, Cond.selects RX6 yX6_goesOff yX6_goesOff, Cond.code yX6_goesOff cX6_goesOff 1 none, Cond.methodLink RL 83 yX6_thrown, Cond.instanceMethod yX6_thrown, Cond.selects RX6 yX6_thrown yX6_thrown, Cond.code yX6_thrown cX6_thrown 1 (some .int), Cond.methodLink RL 86 yL_switchOff, Cond.static yL_switchOff, Cond.codeWith yL_switchOff cL_switchOff 3 (some .int) [(0, 8, 11, 13)], Cond.methodLink RL 15 yX5_switchOff, Cond.instanceMethod yX5_switchOff, Cond.selects RX5 yX5_switchOff yX5_switchOff, Cond.code yX5_switchOff cX5_switchOff 2 (some .int), Cond.methodLink RX5 61 yX5_requireOn]
def wsL_law0_r12 : List Cond := [Cond.instanceMethod yX5_requireOn, Cond.selects RX5 yX5_requireOn yX5_requireOn, Cond.code yX5_requireOn cX5_requireOn 1 none, Cond.methodLink RX5 64 yX5_losePower, Cond.instanceMethod yX5_losePower, Cond.selects RX5 yX5_losePower yX5_losePower, Cond.code yX5_losePower cX5_losePower 1 none, Cond.methodLink RX5 139 yX4_end, Cond.instanceMethod yX4_end, Cond.selects RX4 yX4_end yX4_end, Cond.code yX4_end cX4_end 1 none, Cond.methodLink RL 88 yX6_switchOff, Cond.instanceMethod yX6_switchOff, Cond.selects RX6 yX6_switchOff yX6_switchOff, Cond.code yX6_switchOff cX6_switchOff 2 (some .int), Cond.methodLink RL 89 yL_failAfter, Cond.static yL_failAfter, Cond.codeWith yL_failAfter cL_failAfter 3 (some .int) [(0, 5, 8, 22)], Cond.classLink RL 22 "java/lang/IllegalArgumentException", Cond.methodLink RL 18 yX5_failAfter, Cond.instanceMethod yX5_failAfter, Cond.selects RX5 yX5_failAfter yX5_failAfter, Cond.code yX5_failAfter cX5_failAfter 2 none, Cond.fieldLink RX5 71 "Bootstay$Store" "flash" "LBootstay$Flash;"]
def wsL_law0_r13 : List Cond := [Cond.methodLink RX5 67 yX5_requireWithin, Cond.static yX5_requireWithin, Cond.code yX5_requireWithin cX5_requireWithin 3 none, Cond.classLink RX5 124 "java/lang/IllegalArgumentException", Cond.initialized "java/lang/IllegalArgumentException", Cond.methodLink RX5 75 yX2_chooseFailure, Cond.instanceMethod yX2_chooseFailure, Cond.selects RX2 yX2_chooseFailure yX2_chooseFailure, Cond.code yX2_chooseFailure cX2_chooseFailure 2 none, Cond.methodLink RL 92 yX6_failAfter, Cond.instanceMethod yX6_failAfter, Cond.selects RX6 yX6_failAfter yX6_failAfter, Cond.code yX6_failAfter cX6_failAfter 2 none, Cond.methodLink RL 93 yX5_isOn, Cond.methodLink RL 96 yX6_isOn, Cond.instanceMethod yX6_isOn, Cond.selects RX6 yX6_isOn yX6_isOn, Cond.code yX6_isOn cX6_isOn 1 (some .boolean), Cond.methodLink RL 97 yX5_running, Cond.instanceMethod yX5_running, Cond.selects RX5 yX5_running yX5_running, Cond.code yX5_running cX5_running 1 (some .int), Cond.methodLink RL 100 yX6_running, Cond.instanceMethod yX6_running]
def wsL_law0_r14 : List Cond := [Cond.selects RX6 yX6_running yX6_running, Cond.code yX6_running cX6_running 1 (some .int), Cond.methodLink RL 101 yX5_isOnTrial, Cond.instanceMethod yX5_isOnTrial, Cond.selects RX5 yX5_isOnTrial yX5_isOnTrial, Cond.code yX5_isOnTrial cX5_isOnTrial 1 (some .boolean), Cond.methodLink RX5 81 yX3_confirmedSlot, Cond.methodLink RL 104 yX6_isOnTrial, Cond.instanceMethod yX6_isOnTrial, Cond.selects RX6 yX6_isOnTrial yX6_isOnTrial, Cond.code yX6_isOnTrial cX6_isOnTrial 1 (some .boolean), Cond.methodLink RX6 92 yX6_isTrial, Cond.instanceMethod yX6_isTrial, Cond.selects RX6 yX6_isTrial yX6_isTrial, Cond.code yX6_isTrial cX6_isTrial 1 (some .boolean), Cond.methodLink RL 105 yX5_writes, Cond.instanceMethod yX5_writes, Cond.selects RX5 yX5_writes yX5_writes, Cond.code yX5_writes cX5_writes 1 (some .int), Cond.methodLink RX5 84 yX2_begunWrites, Cond.instanceMethod yX2_begunWrites, Cond.selects RX2 yX2_begunWrites yX2_begunWrites, Cond.code yX2_begunWrites cX2_begunWrites 1 (some .int), Cond.methodLink RL 108 yX6_writes]
def wsL_law0_r15 : List Cond := [Cond.instanceMethod yX6_writes, Cond.selects RX6 yX6_writes yX6_writes, Cond.code yX6_writes cX6_writes 1 (some .int), Cond.methodLink RL 109 yL_offer, Cond.static yL_offer, Cond.codeWith yL_offer cL_offer 7 (some .int) [(0, 21, 24, 22), (0, 21, 28, 13)], Cond.methodLink RL 24 yX5_offer, Cond.instanceMethod yX5_offer, Cond.selects RX5 yX5_offer yX5_offer, Cond.code yX5_offer cX5_offer 5 (some .boolean), Cond.constant RX5 87 (65520), Cond.methodLink RX5 88 yX3_isTrialDue, Cond.methodLink RX5 93 yX3_slotWord, Cond.methodLink RX5 97 yX3_recordCounter, Cond.methodLink RX5 102 yX4_begin, Cond.instanceMethod yX4_begin, Cond.selects RX4 yX4_begin yX4_begin, Cond.code yX4_begin cX4_begin 5 none, Cond.methodLink RX5 106 yX5_idleSlot, Cond.instanceMethod yX5_idleSlot, Cond.selects RX5 yX5_idleSlot yX5_idleSlot, Cond.code yX5_idleSlot cX5_idleSlot 1 (some .int), Cond.methodLink RX5 109 yX3_writeSlotWord, Cond.instanceMethod yX3_writeSlotWord]
def wsL_law0_r16 : List Cond := [Cond.selects RX3 yX3_writeSlotWord yX3_writeSlotWord, Cond.code yX3_writeSlotWord cX3_writeSlotWord 4 (some .boolean), Cond.methodLink RX5 113 yX5_stayOn, Cond.instanceMethod yX5_stayOn, Cond.selects RX5 yX5_stayOn yX5_stayOn, Cond.code yX5_stayOn cX5_stayOn 2 (some .boolean), Cond.methodLink RL 112 yX6_offer, Cond.instanceMethod yX6_offer, Cond.selects RX6 yX6_offer yX6_offer, Cond.code yX6_offer cX6_offer 6 (some .boolean), Cond.constant RX6 95 (65520), Cond.fieldLink RX6 100 "BootstayModel" "newVersion" "I", Cond.fieldLink RX6 103 "BootstayModel" "newLength" "I", Cond.fieldLink RX6 106 "BootstayModel" "newHash" "I", Cond.fieldLink RX6 109 "BootstayModel" "newCounter" "I", Cond.methodLink RX6 96 yX6_goes, Cond.instanceMethod yX6_goes, Cond.selects RX6 yX6_goes yX6_goes, Cond.code yX6_goes cX6_goes 3 (some .boolean), Cond.methodLink RL 113 yL_put, Cond.static yL_put, Cond.codeWith yL_put cL_put 4 (some .int) [(0, 16, 19, 22), (0, 16, 22, 13)], Cond.methodLink RL 28 yX5_put, Cond.instanceMethod yX5_put]
def wsL_law0_r17 : List Cond := [Cond.selects RX5 yX5_put yX5_put, Cond.code yX5_put cX5_put 2 (some .boolean), Cond.methodLink RX5 117 yX5_requireToCome, Cond.instanceMethod yX5_requireToCome, Cond.selects RX5 yX5_requireToCome yX5_requireToCome, Cond.code yX5_requireToCome cX5_requireToCome 2 none, Cond.methodLink RX5 160 yX4_bytesToCome, Cond.instanceMethod yX4_bytesToCome, Cond.selects RX4 yX4_bytesToCome yX4_bytesToCome, Cond.code yX4_bytesToCome cX4_bytesToCome 1 (some .int), Cond.methodLink RX5 120 yX5_append, Cond.instanceMethod yX5_append, Cond.selects RX5 yX5_append yX5_append, Cond.code yX5_append cX5_append 2 (some .boolean), Cond.methodLink RX5 240 yX4_nextPlace, Cond.instanceMethod yX4_nextPlace, Cond.selects RX4 yX4_nextPlace yX4_nextPlace, Cond.code yX4_nextPlace cX4_nextPlace 2 (some .int), Cond.methodLink RX5 243 yX3_writeImageWord, Cond.instanceMethod yX3_writeImageWord, Cond.selects RX3 yX3_writeImageWord yX3_writeImageWord, Cond.code yX3_writeImageWord cX3_writeImageWord 4 (some .boolean), Cond.methodLink RL 116 yX6_put, Cond.instanceMethod yX6_put]
def wsL_law0_r18 : List Cond := [Cond.selects RX6 yX6_put yX6_put, Cond.code yX6_put cX6_put 2 (some .boolean), Cond.methodLink RX6 112 yX6_comes, Cond.instanceMethod yX6_comes, Cond.selects RX6 yX6_comes yX6_comes, Cond.code yX6_comes cX6_comes 3 (some .boolean), Cond.methodLink RL 117 yL_copy, Cond.static yL_copy, Cond.codeWith yL_copy cL_copy 5 (some .int) [(0, 10, 13, 22), (0, 10, 17, 13)], Cond.methodLink RL 32 yX5_copy, Cond.instanceMethod yX5_copy, Cond.selects RX5 yX5_copy yX5_copy, Cond.code yX5_copy cX5_copy 5 (some .int), Cond.methodLink RX5 129 yX3_imageWord, Cond.methodLink RL 120 yX6_copy, Cond.instanceMethod yX6_copy, Cond.selects RX6 yX6_copy yX6_copy, Cond.code yX6_copy cX6_copy 5 (some .int), Cond.methodLink RL 121 yL_finish, Cond.static yL_finish, Cond.codeWith yL_finish cL_finish 4 (some .int) [(0, 16, 19, 22), (0, 16, 22, 13)], Cond.methodLink RL 36 yX5_finish, Cond.instanceMethod yX5_finish, Cond.selects RX5 yX5_finish yX5_finish]
def wsL_law0_r19 : List Cond := [Cond.code yX5_finish cX5_finish 3 (some .boolean), Cond.methodLink RX5 132 yX5_requireFinishable, Cond.instanceMethod yX5_requireFinishable, Cond.selects RX5 yX5_requireFinishable yX5_requireFinishable, Cond.code yX5_requireFinishable cX5_requireFinishable 2 none, Cond.fieldLink RX5 226 "Bootstay$Transfer" "length" "I", Cond.fieldLink RX5 232 "Bootstay$Transfer" "hash" "I", Cond.methodLink RX5 229 yX3_imageHash, Cond.methodLink RX5 135 yX3_writeUpdate, Cond.instanceMethod yX3_writeUpdate, Cond.selects RX3 yX3_writeUpdate yX3_writeUpdate, Cond.code yX3_writeUpdate cX3_writeUpdate 4 (some .boolean), Cond.fieldLink RX3 103 "Bootstay$Transfer" "version" "I", Cond.fieldLink RX3 112 "Bootstay$Transfer" "length" "I", Cond.fieldLink RX3 115 "Bootstay$Transfer" "hash" "I", Cond.fieldLink RX3 118 "Bootstay$Transfer" "counter" "I", Cond.methodLink RX3 109 yX3_writeSlotWord, Cond.methodLink RL 123 yX6_finish, Cond.instanceMethod yX6_finish, Cond.selects RX6 yX6_finish yX6_finish, Cond.code yX6_finish cX6_finish 3 (some .boolean), Cond.methodLink RX6 115 yX6_canFinish, Cond.instanceMethod yX6_canFinish, Cond.selects RX6 yX6_canFinish yX6_canFinish]
def wsL_law0_r20 : List Cond := [Cond.code yX6_canFinish cX6_canFinish 1 (some .boolean), Cond.methodLink RX6 118 yX6_finishes, Cond.instanceMethod yX6_finishes, Cond.selects RX6 yX6_finishes yX6_finishes, Cond.code yX6_finishes cX6_finishes 4 (some .boolean), Cond.methodLink RL 124 yL_confirm, Cond.static yL_confirm, Cond.codeWith yL_confirm cL_confirm 3 (some .int) [(0, 15, 18, 13)], Cond.methodLink RL 39 yX5_confirm, Cond.instanceMethod yX5_confirm, Cond.selects RX5 yX5_confirm yX5_confirm, Cond.code yX5_confirm cX5_confirm 2 (some .boolean), Cond.methodLink RX5 147 Lib.Math.max.name, Cond.static Lib.Math.max.name, Cond.initialized "java/lang/Math", Cond.code Lib.Math.max.name Lib.Math.max.code 2 (some .int), Cond.methodLink RX5 142 yX5_isOnTrial, Cond.methodLink RX5 152 yX3_settledState, Cond.methodLink RX5 156 yX3_writeRecord, Cond.methodLink RL 126 yX6_confirm, Cond.instanceMethod yX6_confirm, Cond.selects RX6 yX6_confirm yX6_confirm, Cond.code yX6_confirm cX6_confirm 2 (some .boolean), Cond.methodLink RL 127 yX5_toCome]
def wsL_law0_r21 : List Cond := [Cond.instanceMethod yX5_toCome, Cond.selects RX5 yX5_toCome yX5_toCome, Cond.code yX5_toCome cX5_toCome 1 (some .int), Cond.methodLink RL 130 yX6_toCome, Cond.instanceMethod yX6_toCome, Cond.selects RX6 yX6_toCome yX6_toCome, Cond.code yX6_toCome cX6_toCome 1 (some .int), Cond.methodLink RL 131 yL_draft, Cond.static yL_draft, Cond.codeWith yL_draft cL_draft 4 (some .int) [(0, 9, 12, 22), (0, 9, 15, 13)], Cond.methodLink RL 43 yX5_draft, Cond.instanceMethod yX5_draft, Cond.selects RX5 yX5_draft yX5_draft, Cond.code yX5_draft cX5_draft 2 (some .int), Cond.methodLink RX5 163 yX1_isFull, Cond.instanceMethod yX1_isFull, Cond.selects RX1 yX1_isFull yX1_isFull, Cond.code yX1_isFull cX1_isFull 1 (some .boolean), Cond.methodLink RX5 168 yX1_append, Cond.instanceMethod yX1_append, Cond.selects RX1 yX1_append yX1_append, Cond.code yX1_append cX1_append 2 (some .int), Cond.methodLink RL 133 yX6_draft, Cond.instanceMethod yX6_draft]
def wsL_law0_r22 : List Cond := [Cond.selects RX6 yX6_draft yX6_draft, Cond.code yX6_draft cX6_draft 2 (some .int), Cond.fieldLink RX6 121 "BootstayModel" "drafted" "I", Cond.methodLink RL 134 yX5_clearDraft, Cond.instanceMethod yX5_clearDraft, Cond.selects RX5 yX5_clearDraft yX5_clearDraft, Cond.code yX5_clearDraft cX5_clearDraft 1 (some .int), Cond.methodLink RX5 170 yX1_clear, Cond.instanceMethod yX1_clear, Cond.selects RX1 yX1_clear yX1_clear, Cond.code yX1_clear cX1_clear 2 (some .int), Cond.methodLink RL 137 yX6_clearDraft, Cond.instanceMethod yX6_clearDraft, Cond.selects RX6 yX6_clearDraft yX6_clearDraft, Cond.code yX6_clearDraft cX6_clearDraft 2 (some .int), Cond.methodLink RL 138 yX5_draftHash, Cond.instanceMethod yX5_draftHash, Cond.selects RX5 yX5_draftHash yX5_draftHash, Cond.code yX5_draftHash cX5_draftHash 1 (some .int), Cond.methodLink RX5 173 yX1_hash, Cond.instanceMethod yX1_hash, Cond.selects RX1 yX1_hash yX1_hash, Cond.code yX1_hash cX1_hash 3 (some .int), Cond.methodLink RX1 19 yX1_byteAt]
def wsL_law0_r23 : List Cond := [Cond.instanceMethod yX1_byteAt, Cond.selects RX1 yX1_byteAt yX1_byteAt, Cond.code yX1_byteAt cX1_byteAt 2 (some .int), Cond.methodLink RL 141 yX6_draftHash, Cond.instanceMethod yX6_draftHash, Cond.selects RX6 yX6_draftHash yX6_draftHash, Cond.code yX6_draftHash cX6_draftHash 3 (some .int), Cond.methodLink RL 142 yL_deltaPieces, Cond.static yL_deltaPieces, Cond.codeWith yL_deltaPieces cL_deltaPieces 4 (some .int) [(0, 9, 12, 22), (0, 9, 15, 13)], Cond.methodLink RL 47 yX5_deltaPieces, Cond.instanceMethod yX5_deltaPieces, Cond.selects RX5 yX5_deltaPieces yX5_deltaPieces, Cond.code yX5_deltaPieces cX5_deltaPieces 2 (some .int), Cond.methodLink RX5 176 yX5_requireStartable, Cond.instanceMethod yX5_requireStartable, Cond.selects RX5 yX5_requireStartable yX5_requireStartable, Cond.code yX5_requireStartable cX5_requireStartable 2 none, Cond.methodLink RX5 194 yX3_canStart, Cond.methodLink RX5 179 yX0_pieceCount, Cond.instanceMethod yX0_pieceCount, Cond.selects RX0 yX0_pieceCount yX0_pieceCount, Cond.code yX0_pieceCount cX0_pieceCount 4 (some .int), Cond.fieldLink RX0 19 "Bootstay$Draft" "size" "I"]
def wsL_law0_r24 : List Cond := [Cond.methodLink RX0 25 yX0_pieceLength, Cond.instanceMethod yX0_pieceLength, Cond.selects RX0 yX0_pieceLength yX0_pieceLength, Cond.code yX0_pieceLength cX0_pieceLength 4 (some .int), Cond.methodLink RX0 29 yX0_runFrom, Cond.instanceMethod yX0_runFrom, Cond.selects RX0 yX0_runFrom yX0_runFrom, Cond.code yX0_runFrom cX0_runFrom 8 (some .int), Cond.methodLink RX0 38 yX3_slotWord, Cond.methodLink RX0 32 yX0_matchLength, Cond.instanceMethod yX0_matchLength, Cond.selects RX0 yX0_matchLength yX0_matchLength, Cond.code yX0_matchLength cX0_matchLength 6 (some .int), Cond.methodLink RX0 41 Lib.Math.min.name, Cond.static Lib.Math.min.name, Cond.code Lib.Math.min.name Lib.Math.min.code 2 (some .int), Cond.methodLink RX0 46 yX3_imageWord, Cond.methodLink RX0 49 yX1_byteAt, Cond.methodLink RL 144 yX6_deltaPieces, Cond.instanceMethod yX6_deltaPieces, Cond.selects RX6 yX6_deltaPieces yX6_deltaPieces, Cond.code yX6_deltaPieces cX6_deltaPieces 2 (some .int), Cond.methodLink RX6 134 yX6_isSlot, Cond.instanceMethod yX6_isSlot]
def wsL_law0_r25 : List Cond := [Cond.selects RX6 yX6_isSlot yX6_isSlot, Cond.code yX6_isSlot cX6_isSlot 2 (some .boolean), Cond.methodLink RX6 137 yX6_countPieces, Cond.instanceMethod yX6_countPieces, Cond.selects RX6 yX6_countPieces yX6_countPieces, Cond.code yX6_countPieces cX6_countPieces 4 (some .int), Cond.methodLink RX6 131 yX6_pieceLength, Cond.instanceMethod yX6_pieceLength, Cond.selects RX6 yX6_pieceLength yX6_pieceLength, Cond.code yX6_pieceLength cX6_pieceLength 4 (some .int), Cond.methodLink RX6 128 yX6_bestFrom, Cond.instanceMethod yX6_bestFrom, Cond.selects RX6 yX6_bestFrom yX6_bestFrom, Cond.code yX6_bestFrom cX6_bestFrom 5 (some .int), Cond.methodLink RX6 124 yX6_alike, Cond.instanceMethod yX6_alike, Cond.selects RX6 yX6_alike yX6_alike, Cond.code yX6_alike cX6_alike 5 (some .int), Cond.methodLink RL 145 yL_deltaLength, Cond.static yL_deltaLength, Cond.codeWith yL_deltaLength cL_deltaLength 5 (some .int) [(0, 10, 13, 22), (0, 10, 17, 13), (0, 10, 21, 53)], Cond.classLink RL 53 "java/lang/IndexOutOfBoundsException", Cond.methodLink RL 50 yX5_deltaLength, Cond.instanceMethod yX5_deltaLength]
def wsL_law0_r26 : List Cond := [Cond.selects RX5 yX5_deltaLength yX5_deltaLength, Cond.code yX5_deltaLength cX5_deltaLength 4 (some .int), Cond.methodLink RX5 182 yX0_pieceStart, Cond.instanceMethod yX0_pieceStart, Cond.selects RX0 yX0_pieceStart yX0_pieceStart, Cond.code yX0_pieceStart cX0_pieceStart 5 (some .int), Cond.methodLink RX5 185 yX5_requirePiece, Cond.static yX5_requirePiece, Cond.code yX5_requirePiece cX5_requirePiece 1 none, Cond.classLink RX5 197 "java/lang/IndexOutOfBoundsException", Cond.initialized "java/lang/IndexOutOfBoundsException", Cond.methodLink RX5 188 yX0_pieceLength, Cond.methodLink RL 147 yX6_deltaLength, Cond.instanceMethod yX6_deltaLength, Cond.selects RX6 yX6_deltaLength yX6_deltaLength, Cond.code yX6_deltaLength cX6_deltaLength 3 (some .int), Cond.methodLink RX6 140 yX6_isPiece, Cond.instanceMethod yX6_isPiece, Cond.selects RX6 yX6_isPiece yX6_isPiece, Cond.code yX6_isPiece cX6_isPiece 4 (some .boolean), Cond.methodLink RX6 143 yX6_placeOf, Cond.instanceMethod yX6_placeOf, Cond.selects RX6 yX6_placeOf yX6_placeOf, Cond.code yX6_placeOf cX6_placeOf 5 (some .int)]
def wsL_law0_r27 : List Cond := [Cond.methodLink RL 148 yL_deltaFrom, Cond.static yL_deltaFrom, Cond.codeWith yL_deltaFrom cL_deltaFrom 5 (some .int) [(0, 10, 13, 22), (0, 10, 17, 13), (0, 10, 21, 53)], Cond.methodLink RL 55 yX5_deltaFrom, Cond.instanceMethod yX5_deltaFrom, Cond.selects RX5 yX5_deltaFrom yX5_deltaFrom, Cond.code yX5_deltaFrom cX5_deltaFrom 4 (some .int), Cond.methodLink RX5 191 yX0_runFrom, Cond.methodLink RL 150 yX6_deltaFrom, Cond.instanceMethod yX6_deltaFrom, Cond.selects RX6 yX6_deltaFrom yX6_deltaFrom, Cond.code yX6_deltaFrom cX6_deltaFrom 4 (some .int), Cond.methodLink RL 151 yL_isStartable, Cond.static yL_isStartable, Cond.codeWith yL_isStartable cL_isStartable 4 (some .int) [(0, 16, 19, 22)], Cond.methodLink RL 58 yX5_isStartable, Cond.instanceMethod yX5_isStartable, Cond.selects RX5 yX5_isStartable yX5_isStartable, Cond.code yX5_isStartable cX5_isStartable 2 (some .boolean), Cond.methodLink RL 153 yX6_isStartable, Cond.instanceMethod yX6_isStartable, Cond.selects RX6 yX6_isStartable yX6_isStartable, Cond.code yX6_isStartable cX6_isStartable 2 (some .boolean), Cond.methodLink RL 154 yL_version]
def wsL_law0_r28 : List Cond := [Cond.static yL_version, Cond.codeWith yL_version cL_version 4 (some .int) [(0, 9, 12, 22)], Cond.methodLink RL 61 yX5_version, Cond.instanceMethod yX5_version, Cond.selects RX5 yX5_version yX5_version, Cond.code yX5_version cX5_version 2 (some .int), Cond.methodLink RL 156 yX6_version, Cond.instanceMethod yX6_version, Cond.selects RX6 yX6_version yX6_version, Cond.code yX6_version cX6_version 2 (some .int), Cond.methodLink RL 157 yL_imageByte, Cond.static yL_imageByte, Cond.codeWith yL_imageByte cL_imageByte 5 (some .int) [(0, 10, 13, 22), (0, 10, 17, 53)], Cond.methodLink RL 64 yX5_imageByte, Cond.instanceMethod yX5_imageByte, Cond.selects RX5 yX5_imageByte yX5_imageByte, Cond.code yX5_imageByte cX5_imageByte 3 (some .int), Cond.methodLink RL 159 yX6_imageByte, Cond.instanceMethod yX6_imageByte, Cond.selects RX6 yX6_imageByte yX6_imageByte, Cond.code yX6_imageByte cX6_imageByte 3 (some .int), Cond.methodLink RL 160 yX5_record, Cond.instanceMethod yX5_record, Cond.selects RX5 yX5_record yX5_record]
def wsL_law0_r29 : List Cond := [Cond.code yX5_record cX5_record 1 (some .int), Cond.methodLink RX5 202 yX3_recordInForce, Cond.methodLink RL 163 yX6_record, Cond.instanceMethod yX6_record, Cond.selects RX6 yX6_record yX6_record, Cond.code yX6_record cX6_record 1 (some .int), Cond.methodLink RL 164 yL_isValid, Cond.static yL_isValid, Cond.codeWith yL_isValid cL_isValid 4 (some .int) [(0, 16, 19, 22)], Cond.methodLink RL 67 yX5_isValid, Cond.instanceMethod yX5_isValid, Cond.selects RX5 yX5_isValid yX5_isValid, Cond.code yX5_isValid cX5_isValid 2 (some .boolean), Cond.methodLink RX5 205 yX3_isRecordValid, Cond.methodLink RL 166 yX6_isValid, Cond.instanceMethod yX6_isValid, Cond.selects RX6 yX6_isValid yX6_isValid, Cond.code yX6_isValid cX6_isValid 2 (some .boolean), Cond.methodLink RL 167 yX5_confirmed, Cond.instanceMethod yX5_confirmed, Cond.selects RX5 yX5_confirmed yX5_confirmed, Cond.code yX5_confirmed cX5_confirmed 1 (some .int), Cond.methodLink RL 170 yX6_confirmed, Cond.instanceMethod yX6_confirmed]
def wsL_law0_r30 : List Cond := [Cond.selects RX6 yX6_confirmed yX6_confirmed, Cond.code yX6_confirmed cX6_confirmed 1 (some .int), Cond.methodLink RL 171 yX5_tries, Cond.instanceMethod yX5_tries, Cond.selects RX5 yX5_tries yX5_tries, Cond.code yX5_tries cX5_tries 1 (some .int), Cond.methodLink RX5 208 yX3_triesLeft, Cond.methodLink RL 174 yX6_tries, Cond.instanceMethod yX6_tries, Cond.selects RX6 yX6_tries yX6_tries, Cond.code yX6_tries cX6_tries 1 (some .int), Cond.methodLink RL 175 yX5_counter, Cond.instanceMethod yX5_counter, Cond.selects RX5 yX5_counter yX5_counter, Cond.code yX5_counter cX5_counter 1 (some .int), Cond.methodLink RL 178 yX6_counter, Cond.instanceMethod yX6_counter, Cond.selects RX6 yX6_counter yX6_counter, Cond.code yX6_counter cX6_counter 1 (some .int), Cond.methodLink RL 179 yL_safeFinish, Cond.static yL_safeFinish, Cond.codeWith yL_safeFinish cL_safeFinish 4 (some .int) [(0, 9, 12, 22), (0, 9, 15, 13)], Cond.methodLink RL 70 yX5_safeFinish, Cond.instanceMethod yX5_safeFinish]
def wsL_law0_r31 : List Cond := [Cond.selects RX5 yX5_safeFinish yX5_safeFinish, Cond.code yX5_safeFinish cX5_safeFinish 4 (some .int), Cond.methodLink RX5 211 yX3_mirror, Cond.instanceMethod yX3_mirror, Cond.selects RX3 yX3_mirror yX3_mirror, Cond.code yX3_mirror cX3_mirror 2 none, Cond.methodLink RX3 30 yX2_mirror, Cond.instanceMethod yX2_mirror, Cond.selects RX2 yX2_mirror yX2_mirror, Cond.code yX2_mirror cX2_mirror 3 none, Cond.methodLink RX5 215 yX3_slotToStart, Cond.methodLink RL 181 yX6_safeFinish, Cond.instanceMethod yX6_safeFinish, Cond.selects RX6 yX6_safeFinish yX6_safeFinish, Cond.code yX6_safeFinish cX6_safeFinish 10 (some .int), Cond.methodLink RX6 146 yX6_nextStart, Cond.instanceMethod yX6_nextStart, Cond.selects RX6 yX6_nextStart yX6_nextStart, Cond.code yX6_nextStart cX6_nextStart 2 (some .int), Cond.methodLink RL 182 yX5_wouldStart, Cond.instanceMethod yX5_wouldStart, Cond.selects RX5 yX5_wouldStart yX5_wouldStart, Cond.code yX5_wouldStart cX5_wouldStart 1 (some .int), Cond.methodLink RL 185 yX6_wouldStart]
def wsL_law0_r32 : List Cond := [Cond.instanceMethod yX6_wouldStart, Cond.selects RX6 yX6_wouldStart yX6_wouldStart, Cond.code yX6_wouldStart cX6_wouldStart 1 (some .int)]
def wsL_law0 : List Cond := (wsL_law0_r1 ++ (wsL_law0_r2 ++ (wsL_law0_r3 ++ (wsL_law0_r4 ++ (wsL_law0_r5 ++ (wsL_law0_r6 ++ (wsL_law0_r7 ++ (wsL_law0_r8 ++ (wsL_law0_r9 ++ (wsL_law0_r10 ++ (wsL_law0_r11 ++ (wsL_law0_r12 ++ (wsL_law0_r13 ++ (wsL_law0_r14 ++ (wsL_law0_r15 ++ (wsL_law0_r16 ++ (wsL_law0_r17 ++ (wsL_law0_r18 ++ (wsL_law0_r19 ++ (wsL_law0_r20 ++ (wsL_law0_r21 ++ (wsL_law0_r22 ++ (wsL_law0_r23 ++ (wsL_law0_r24 ++ (wsL_law0_r25 ++ (wsL_law0_r26 ++ (wsL_law0_r27 ++ (wsL_law0_r28 ++ (wsL_law0_r29 ++ (wsL_law0_r30 ++ (wsL_law0_r31 ++ wsL_law0_r32))))))))))))))))))))))))))))))) ++ wsX50 ++ wsX60 ++ wsX30 ++ wsX40 ++ wsX10 ++ wsX00 ++ wsX20 ++ ([] : List Cond)
def wsL_law : List Cond := wsL_law0 ++ (vx_atS RX5 54 "java/lang/IllegalStateException" ["java/lang/RuntimeException", "java/lang/Exception"]).filter goodWord ++ (vx_atS RX5 128 "java/lang/IllegalArgumentException" ["java/lang/RuntimeException", "java/lang/Exception"]).filter goodWord ++ (vx_atS RX5 201 "java/lang/IndexOutOfBoundsException" ["java/lang/RuntimeException", "java/lang/Exception"]).filter goodWord
set_option maxRecDepth 20000 in
abbrev vwCl : List vw_C := [(RX0, TX0, 2), (RX1, TX1, 2), (RX2, TX2, 3), (RX3, TX3, 1), (RX4, TX4, 6), (RX5, TX5, 6), (RX6, TX6, 14)]
end
section
theorem dX0_init_0 : decode cX0_init 0 = .ok (.aload_n 0, 1) := by decide +kernel
theorem dX0_init_1 : decode cX0_init 1 = .ok (.invokespecial 3, 3) := by decide +kernel
theorem dX0_init_4 : decode cX0_init 4 = .ok (.aload_n 0, 1) := by decide +kernel
theorem dX0_init_5 : decode cX0_init 5 = .ok (.aload_n 1, 1) := by decide +kernel
theorem dX0_init_6 : decode cX0_init 6 = .ok (.putfield 9, 3) := by decide +kernel
theorem dX0_init_9 : decode cX0_init 9 = .ok (.aload_n 0, 1) := by decide +kernel
theorem dX0_init_10 : decode cX0_init 10 = .ok (.aload_n 2, 1) := by decide +kernel
theorem dX0_init_11 : decode cX0_init 11 = .ok (.putfield 15, 3) := by decide +kernel
theorem dX0_init_14 : decode cX0_init 14 = .ok (.return_, 1) := by decide +kernel
set_option maxRecDepth 20000 in
theorem ggX0_pieceCount_X0_pieceLength : GoodIn wsX0_pieceCount wsX0_pieceLength := goodIn_r _ [7, 8, 9, 10, 6, 11, 12, 13, 14, 15, 16, 17, 18, 19, 20, 21, 22, 23, 24, 25, 26, 27, 28, 1, 2, 29, 30, 31, 32, 33, 34, 35, 36, 37, 38, 39, 40, 41, 42, 43, 44, 47, 48, 49, 50, 45, 46] (by decide +kernel) (by decide +kernel)
set_option maxRecDepth 20000 in
theorem gX0_pieceCount_X0_pieceLength : GoodIn wsX0_pieceCount (wsV RX0 25 RX0 yX0_pieceLength wsX0_pieceLength) := goodIn_app (goodIn_of _ (by decide +kernel)) ggX0_pieceCount_X0_pieceLength
theorem dX0_pieceCount_0 : decode cX0_pieceCount 0 = .ok (.iconst 0, 1) := by decide +kernel
theorem dX0_pieceCount_1 : decode cX0_pieceCount 1 = .ok (.istore_n 2, 1) := by decide +kernel
theorem dX0_pieceCount_2 : decode cX0_pieceCount 2 = .ok (.iconst 0, 1) := by decide +kernel
theorem dX0_pieceCount_3 : decode cX0_pieceCount 3 = .ok (.istore_n 3, 1) := by decide +kernel
theorem dX0_pieceCount_4 : decode cX0_pieceCount 4 = .ok (.iload_n 2, 1) := by decide +kernel
theorem dX0_pieceCount_5 : decode cX0_pieceCount 5 = .ok (.bipush 24, 2) := by decide +kernel
theorem dX0_pieceCount_7 : decode cX0_pieceCount 7 = .ok (.if_icmp .ge 29, 3) := by decide +kernel
theorem dX0_pieceCount_10 : decode cX0_pieceCount 10 = .ok (.iload_n 3, 1) := by decide +kernel
theorem dX0_pieceCount_11 : decode cX0_pieceCount 11 = .ok (.aload_n 0, 1) := by decide +kernel
theorem dX0_pieceCount_12 : decode cX0_pieceCount 12 = .ok (.getfield 9, 3) := by decide +kernel
theorem dX0_pieceCount_15 : decode cX0_pieceCount 15 = .ok (.getfield 19, 3) := by decide +kernel
theorem dX0_pieceCount_18 : decode cX0_pieceCount 18 = .ok (.if_icmp .ge 18, 3) := by decide +kernel
theorem dX0_pieceCount_21 : decode cX0_pieceCount 21 = .ok (.iload_n 3, 1) := by decide +kernel
theorem dX0_pieceCount_22 : decode cX0_pieceCount 22 = .ok (.aload_n 0, 1) := by decide +kernel
theorem dX0_pieceCount_23 : decode cX0_pieceCount 23 = .ok (.iload_n 1, 1) := by decide +kernel
theorem dX0_pieceCount_24 : decode cX0_pieceCount 24 = .ok (.iload_n 3, 1) := by decide +kernel
theorem dX0_pieceCount_25 : decode cX0_pieceCount 25 = .ok (.invokevirtual 25, 3) := by decide +kernel
theorem dX0_pieceCount_28 : decode cX0_pieceCount 28 = .ok (.iadd, 1) := by decide +kernel
theorem dX0_pieceCount_29 : decode cX0_pieceCount 29 = .ok (.istore_n 3, 1) := by decide +kernel
theorem dX0_pieceCount_30 : decode cX0_pieceCount 30 = .ok (.iinc 2 1, 3) := by decide +kernel
theorem dX0_pieceCount_33 : decode cX0_pieceCount 33 = .ok (.goto (-29), 3) := by decide +kernel
theorem dX0_pieceCount_36 : decode cX0_pieceCount 36 = .ok (.iload_n 2, 1) := by decide +kernel
theorem dX0_pieceCount_37 : decode cX0_pieceCount 37 = .ok (.ireturn, 1) := by decide +kernel
set_option maxRecDepth 20000 in
theorem ggX0_pieceStart_X0_pieceLength : GoodIn wsX0_pieceStart wsX0_pieceLength := goodIn_r _ [7, 8, 9, 10, 6, 11, 12, 13, 14, 15, 16, 17, 18, 19, 20, 21, 22, 23, 24, 25, 26, 27, 28, 1, 2, 29, 30, 31, 32, 33, 34, 35, 36, 37, 38, 39, 40, 41, 42, 43, 44, 47, 48, 49, 50, 45, 46] (by decide +kernel) (by decide +kernel)
set_option maxRecDepth 20000 in
theorem gX0_pieceStart_X0_pieceLength : GoodIn wsX0_pieceStart (wsV RX0 25 RX0 yX0_pieceLength wsX0_pieceLength) := goodIn_app (goodIn_of _ (by decide +kernel)) ggX0_pieceStart_X0_pieceLength
theorem dX0_pieceStart_0 : decode cX0_pieceStart 0 = .ok (.iconst 0, 1) := by decide +kernel
theorem dX0_pieceStart_1 : decode cX0_pieceStart 1 = .ok (.istore_n 3, 1) := by decide +kernel
theorem dX0_pieceStart_2 : decode cX0_pieceStart 2 = .ok (.iconst 0, 1) := by decide +kernel
theorem dX0_pieceStart_3 : decode cX0_pieceStart 3 = .ok (.istore 4, 2) := by decide +kernel
theorem dX0_pieceStart_5 : decode cX0_pieceStart 5 = .ok (.iload 4, 2) := by decide +kernel
theorem dX0_pieceStart_7 : decode cX0_pieceStart 7 = .ok (.iload_n 2, 1) := by decide +kernel
theorem dX0_pieceStart_8 : decode cX0_pieceStart 8 = .ok (.if_icmp .ge 29, 3) := by decide +kernel
theorem dX0_pieceStart_11 : decode cX0_pieceStart 11 = .ok (.iload_n 3, 1) := by decide +kernel
theorem dX0_pieceStart_12 : decode cX0_pieceStart 12 = .ok (.aload_n 0, 1) := by decide +kernel
theorem dX0_pieceStart_13 : decode cX0_pieceStart 13 = .ok (.getfield 9, 3) := by decide +kernel
theorem dX0_pieceStart_16 : decode cX0_pieceStart 16 = .ok (.getfield 19, 3) := by decide +kernel
theorem dX0_pieceStart_19 : decode cX0_pieceStart 19 = .ok (.if_icmp .ge 18, 3) := by decide +kernel
theorem dX0_pieceStart_22 : decode cX0_pieceStart 22 = .ok (.iload_n 3, 1) := by decide +kernel
theorem dX0_pieceStart_23 : decode cX0_pieceStart 23 = .ok (.aload_n 0, 1) := by decide +kernel
theorem dX0_pieceStart_24 : decode cX0_pieceStart 24 = .ok (.iload_n 1, 1) := by decide +kernel
theorem dX0_pieceStart_25 : decode cX0_pieceStart 25 = .ok (.iload_n 3, 1) := by decide +kernel
theorem dX0_pieceStart_26 : decode cX0_pieceStart 26 = .ok (.invokevirtual 25, 3) := by decide +kernel
theorem dX0_pieceStart_29 : decode cX0_pieceStart 29 = .ok (.iadd, 1) := by decide +kernel
theorem dX0_pieceStart_30 : decode cX0_pieceStart 30 = .ok (.istore_n 3, 1) := by decide +kernel
theorem dX0_pieceStart_31 : decode cX0_pieceStart 31 = .ok (.iinc 4 1, 3) := by decide +kernel
theorem dX0_pieceStart_34 : decode cX0_pieceStart 34 = .ok (.goto (-29), 3) := by decide +kernel
theorem dX0_pieceStart_37 : decode cX0_pieceStart 37 = .ok (.iload_n 2, 1) := by decide +kernel
theorem dX0_pieceStart_38 : decode cX0_pieceStart 38 = .ok (.ifCond .lt 18, 3) := by decide +kernel
theorem dX0_pieceStart_41 : decode cX0_pieceStart 41 = .ok (.iload_n 3, 1) := by decide +kernel
theorem dX0_pieceStart_42 : decode cX0_pieceStart 42 = .ok (.aload_n 0, 1) := by decide +kernel
theorem dX0_pieceStart_43 : decode cX0_pieceStart 43 = .ok (.getfield 9, 3) := by decide +kernel
theorem dX0_pieceStart_46 : decode cX0_pieceStart 46 = .ok (.getfield 19, 3) := by decide +kernel
theorem dX0_pieceStart_49 : decode cX0_pieceStart 49 = .ok (.if_icmp .ge 7, 3) := by decide +kernel
theorem dX0_pieceStart_52 : decode cX0_pieceStart 52 = .ok (.iload_n 3, 1) := by decide +kernel
theorem dX0_pieceStart_53 : decode cX0_pieceStart 53 = .ok (.goto 4, 3) := by decide +kernel
theorem dX0_pieceStart_56 : decode cX0_pieceStart 56 = .ok (.iconst (-1), 1) := by decide +kernel
theorem dX0_pieceStart_57 : decode cX0_pieceStart 57 = .ok (.ireturn, 1) := by decide +kernel
set_option maxRecDepth 20000 in
theorem ggX0_pieceLength_X0_runFrom : GoodIn wsX0_pieceLength wsX0_runFrom := goodIn_r _ [5, 6, 7, 8, 9, 10, 11, 12, 13, 14, 15, 16, 17, 18, 19, 20, 21, 4, 22, 23, 24, 25, 26, 27, 28, 29, 30, 31, 32, 33, 34, 35, 36, 37, 38, 39, 40, 41, 42, 43, 44, 45, 46] (by decide +kernel) (by decide +kernel)
set_option maxRecDepth 20000 in
theorem gX0_pieceLength_X0_runFrom : GoodIn wsX0_pieceLength (wsV RX0 29 RX0 yX0_runFrom wsX0_runFrom) := goodIn_app (goodIn_of _ (by decide +kernel)) ggX0_pieceLength_X0_runFrom
set_option maxRecDepth 20000 in
theorem ggX0_pieceLength_X0_matchLength : GoodIn wsX0_pieceLength wsX0_matchLength := goodIn_r _ [22, 6, 23, 24, 25, 26, 27, 28, 7, 8, 9, 10, 11, 12, 13, 14, 15, 16, 17, 18, 29, 30, 31, 32, 33, 34, 35, 36, 37, 38, 39, 40, 45, 46, 41, 42, 43, 44] (by decide +kernel) (by decide +kernel)
set_option maxRecDepth 20000 in
theorem gX0_pieceLength_X0_matchLength : GoodIn wsX0_pieceLength (wsV RX0 32 RX0 yX0_matchLength wsX0_matchLength) := goodIn_app (goodIn_of _ (by decide +kernel)) ggX0_pieceLength_X0_matchLength
theorem dX0_pieceLength_0 : decode cX0_pieceLength 0 = .ok (.aload_n 0, 1) := by decide +kernel
theorem dX0_pieceLength_1 : decode cX0_pieceLength 1 = .ok (.iload_n 1, 1) := by decide +kernel
theorem dX0_pieceLength_2 : decode cX0_pieceLength 2 = .ok (.iload_n 2, 1) := by decide +kernel
theorem dX0_pieceLength_3 : decode cX0_pieceLength 3 = .ok (.invokevirtual 29, 3) := by decide +kernel
theorem dX0_pieceLength_6 : decode cX0_pieceLength 6 = .ok (.istore_n 3, 1) := by decide +kernel
theorem dX0_pieceLength_7 : decode cX0_pieceLength 7 = .ok (.iload_n 3, 1) := by decide +kernel
theorem dX0_pieceLength_8 : decode cX0_pieceLength 8 = .ok (.iconst (-1), 1) := by decide +kernel
theorem dX0_pieceLength_9 : decode cX0_pieceLength 9 = .ok (.if_icmp .ne 7, 3) := by decide +kernel
theorem dX0_pieceLength_12 : decode cX0_pieceLength 12 = .ok (.iconst 1, 1) := by decide +kernel
theorem dX0_pieceLength_13 : decode cX0_pieceLength 13 = .ok (.goto 10, 3) := by decide +kernel
theorem dX0_pieceLength_16 : decode cX0_pieceLength 16 = .ok (.aload_n 0, 1) := by decide +kernel
theorem dX0_pieceLength_17 : decode cX0_pieceLength 17 = .ok (.iload_n 1, 1) := by decide +kernel
theorem dX0_pieceLength_18 : decode cX0_pieceLength 18 = .ok (.iload_n 3, 1) := by decide +kernel
theorem dX0_pieceLength_19 : decode cX0_pieceLength 19 = .ok (.iload_n 2, 1) := by decide +kernel
theorem dX0_pieceLength_20 : decode cX0_pieceLength 20 = .ok (.invokevirtual 32, 3) := by decide +kernel
theorem dX0_pieceLength_23 : decode cX0_pieceLength 23 = .ok (.ireturn, 1) := by decide +kernel
set_option maxRecDepth 20000 in
theorem ggX0_runFrom_X3_slotWord : GoodIn wsX0_runFrom wsX3_slotWord := goodIn_r _ [6, 7, 8, 9, 10, 11, 12, 13, 37, 38, 39, 40] (by decide +kernel) (by decide +kernel)
set_option maxRecDepth 20000 in
theorem gX0_runFrom_X3_slotWord : GoodIn wsX0_runFrom (wsV RX0 38 RX3 yX3_slotWord wsX3_slotWord) := goodIn_app (goodIn_of _ (by decide +kernel)) ggX0_runFrom_X3_slotWord
set_option maxRecDepth 20000 in
theorem ggX0_runFrom_X0_matchLength : GoodIn wsX0_runFrom wsX0_matchLength := goodIn_r _ [18, 1, 19, 20, 21, 22, 23, 24, 2, 3, 4, 5, 6, 7, 8, 9, 10, 11, 12, 13, 25, 26, 27, 28, 29, 30, 31, 32, 33, 34, 35, 36, 41, 42, 37, 38, 39, 40] (by decide +kernel) (by decide +kernel)
set_option maxRecDepth 20000 in
theorem gX0_runFrom_X0_matchLength : GoodIn wsX0_runFrom (wsV RX0 32 RX0 yX0_matchLength wsX0_matchLength) := goodIn_app (goodIn_of _ (by decide +kernel)) ggX0_runFrom_X0_matchLength
theorem dX0_runFrom_0 : decode cX0_runFrom 0 = .ok (.aload_n 0, 1) := by decide +kernel
theorem dX0_runFrom_1 : decode cX0_runFrom 1 = .ok (.getfield 15, 3) := by decide +kernel
theorem dX0_runFrom_4 : decode cX0_runFrom 4 = .ok (.iload_n 1, 1) := by decide +kernel
theorem dX0_runFrom_5 : decode cX0_runFrom 5 = .ok (.iconst 2, 1) := by decide +kernel
theorem dX0_runFrom_6 : decode cX0_runFrom 6 = .ok (.invokevirtual 38, 3) := by decide +kernel
theorem dX0_runFrom_9 : decode cX0_runFrom 9 = .ok (.istore_n 3, 1) := by decide +kernel
theorem dX0_runFrom_10 : decode cX0_runFrom 10 = .ok (.iconst 1, 1) := by decide +kernel
theorem dX0_runFrom_11 : decode cX0_runFrom 11 = .ok (.istore 4, 2) := by decide +kernel
theorem dX0_runFrom_13 : decode cX0_runFrom 13 = .ok (.iconst (-1), 1) := by decide +kernel
theorem dX0_runFrom_14 : decode cX0_runFrom 14 = .ok (.istore 5, 2) := by decide +kernel
theorem dX0_runFrom_16 : decode cX0_runFrom 16 = .ok (.iconst 0, 1) := by decide +kernel
theorem dX0_runFrom_17 : decode cX0_runFrom 17 = .ok (.istore 6, 2) := by decide +kernel
theorem dX0_runFrom_19 : decode cX0_runFrom 19 = .ok (.iload 6, 2) := by decide +kernel
theorem dX0_runFrom_21 : decode cX0_runFrom 21 = .ok (.iload_n 3, 1) := by decide +kernel
theorem dX0_runFrom_22 : decode cX0_runFrom 22 = .ok (.if_icmp .ge 41, 3) := by decide +kernel
theorem dX0_runFrom_25 : decode cX0_runFrom 25 = .ok (.iload 6, 2) := by decide +kernel
theorem dX0_runFrom_27 : decode cX0_runFrom 27 = .ok (.bipush 24, 2) := by decide +kernel
theorem dX0_runFrom_29 : decode cX0_runFrom 29 = .ok (.if_icmp .ge 34, 3) := by decide +kernel
theorem dX0_runFrom_32 : decode cX0_runFrom 32 = .ok (.aload_n 0, 1) := by decide +kernel
theorem dX0_runFrom_33 : decode cX0_runFrom 33 = .ok (.iload_n 1, 1) := by decide +kernel
theorem dX0_runFrom_34 : decode cX0_runFrom 34 = .ok (.iload 6, 2) := by decide +kernel
theorem dX0_runFrom_36 : decode cX0_runFrom 36 = .ok (.iload_n 2, 1) := by decide +kernel
theorem dX0_runFrom_37 : decode cX0_runFrom 37 = .ok (.invokevirtual 32, 3) := by decide +kernel
theorem dX0_runFrom_40 : decode cX0_runFrom 40 = .ok (.istore 7, 2) := by decide +kernel
theorem dX0_runFrom_42 : decode cX0_runFrom 42 = .ok (.iload 7, 2) := by decide +kernel
theorem dX0_runFrom_44 : decode cX0_runFrom 44 = .ok (.iload 4, 2) := by decide +kernel
theorem dX0_runFrom_46 : decode cX0_runFrom 46 = .ok (.if_icmp .le 11, 3) := by decide +kernel
theorem dX0_runFrom_49 : decode cX0_runFrom 49 = .ok (.iload 7, 2) := by decide +kernel
theorem dX0_runFrom_51 : decode cX0_runFrom 51 = .ok (.istore 4, 2) := by decide +kernel
theorem dX0_runFrom_53 : decode cX0_runFrom 53 = .ok (.iload 6, 2) := by decide +kernel
theorem dX0_runFrom_55 : decode cX0_runFrom 55 = .ok (.istore 5, 2) := by decide +kernel
theorem dX0_runFrom_57 : decode cX0_runFrom 57 = .ok (.iinc 6 1, 3) := by decide +kernel
theorem dX0_runFrom_60 : decode cX0_runFrom 60 = .ok (.goto (-41), 3) := by decide +kernel
theorem dX0_runFrom_63 : decode cX0_runFrom 63 = .ok (.iload 5, 2) := by decide +kernel
theorem dX0_runFrom_65 : decode cX0_runFrom 65 = .ok (.ireturn, 1) := by decide +kernel
set_option maxRecDepth 20000 in
theorem ggX0_matchLength_X3_slotWord : GoodIn wsX0_matchLength wsX3_slotWord := goodIn_r _ [12, 13, 14, 15, 16, 17, 18, 19, 34, 35, 36, 37] (by decide +kernel) (by decide +kernel)
set_option maxRecDepth 20000 in
theorem gX0_matchLength_X3_slotWord : GoodIn wsX0_matchLength (wsV RX0 38 RX3 yX3_slotWord wsX3_slotWord) := goodIn_app (goodIn_of _ (by decide +kernel)) ggX0_matchLength_X3_slotWord
set_option maxRecDepth 20000 in
theorem ggX0_matchLength_X3_imageWord : GoodIn wsX0_matchLength wsX3_imageWord := goodIn_r _ [23, 13, 14, 15, 16, 17, 18, 19, 34, 35, 36, 37] (by decide +kernel) (by decide +kernel)
set_option maxRecDepth 20000 in
theorem gX0_matchLength_X3_imageWord : GoodIn wsX0_matchLength (wsV RX0 46 RX3 yX3_imageWord wsX3_imageWord) := goodIn_app (goodIn_of _ (by decide +kernel)) ggX0_matchLength_X3_imageWord
set_option maxRecDepth 20000 in
theorem ggX0_matchLength_X1_byteAt : GoodIn wsX0_matchLength wsX1_byteAt := goodIn_r _ [28, 29, 32, 33] (by decide +kernel) (by decide +kernel)
set_option maxRecDepth 20000 in
theorem gX0_matchLength_X1_byteAt : GoodIn wsX0_matchLength (wsV RX0 49 RX1 yX1_byteAt wsX1_byteAt) := goodIn_app (goodIn_of _ (by decide +kernel)) ggX0_matchLength_X1_byteAt
theorem dX0_matchLength_0 : decode cX0_matchLength 0 = .ok (.aload_n 0, 1) := by decide +kernel
theorem dX0_matchLength_1 : decode cX0_matchLength 1 = .ok (.getfield 15, 3) := by decide +kernel
theorem dX0_matchLength_4 : decode cX0_matchLength 4 = .ok (.iload_n 1, 1) := by decide +kernel
theorem dX0_matchLength_5 : decode cX0_matchLength 5 = .ok (.iconst 2, 1) := by decide +kernel
theorem dX0_matchLength_6 : decode cX0_matchLength 6 = .ok (.invokevirtual 38, 3) := by decide +kernel
theorem dX0_matchLength_9 : decode cX0_matchLength 9 = .ok (.iload_n 2, 1) := by decide +kernel
theorem dX0_matchLength_10 : decode cX0_matchLength 10 = .ok (.isub, 1) := by decide +kernel
theorem dX0_matchLength_11 : decode cX0_matchLength 11 = .ok (.aload_n 0, 1) := by decide +kernel
theorem dX0_matchLength_12 : decode cX0_matchLength 12 = .ok (.getfield 9, 3) := by decide +kernel
theorem dX0_matchLength_15 : decode cX0_matchLength 15 = .ok (.getfield 19, 3) := by decide +kernel
theorem dX0_matchLength_18 : decode cX0_matchLength 18 = .ok (.iload_n 3, 1) := by decide +kernel
theorem dX0_matchLength_19 : decode cX0_matchLength 19 = .ok (.isub, 1) := by decide +kernel
theorem dX0_matchLength_20 : decode cX0_matchLength 20 = .ok (.invokestatic 41, 3) := by decide +kernel
theorem dX0_matchLength_23 : decode cX0_matchLength 23 = .ok (.istore 4, 2) := by decide +kernel
theorem dX0_matchLength_25 : decode cX0_matchLength 25 = .ok (.iconst 0, 1) := by decide +kernel
theorem dX0_matchLength_26 : decode cX0_matchLength 26 = .ok (.istore 5, 2) := by decide +kernel
theorem dX0_matchLength_28 : decode cX0_matchLength 28 = .ok (.iload 5, 2) := by decide +kernel
theorem dX0_matchLength_30 : decode cX0_matchLength 30 = .ok (.iload 4, 2) := by decide +kernel
theorem dX0_matchLength_32 : decode cX0_matchLength 32 = .ok (.if_icmp .ge 35, 3) := by decide +kernel
theorem dX0_matchLength_35 : decode cX0_matchLength 35 = .ok (.aload_n 0, 1) := by decide +kernel
theorem dX0_matchLength_36 : decode cX0_matchLength 36 = .ok (.getfield 15, 3) := by decide +kernel
theorem dX0_matchLength_39 : decode cX0_matchLength 39 = .ok (.iload_n 1, 1) := by decide +kernel
theorem dX0_matchLength_40 : decode cX0_matchLength 40 = .ok (.iload_n 2, 1) := by decide +kernel
theorem dX0_matchLength_41 : decode cX0_matchLength 41 = .ok (.iload 5, 2) := by decide +kernel
theorem dX0_matchLength_43 : decode cX0_matchLength 43 = .ok (.iadd, 1) := by decide +kernel
theorem dX0_matchLength_44 : decode cX0_matchLength 44 = .ok (.invokevirtual 46, 3) := by decide +kernel
theorem dX0_matchLength_47 : decode cX0_matchLength 47 = .ok (.aload_n 0, 1) := by decide +kernel
theorem dX0_matchLength_48 : decode cX0_matchLength 48 = .ok (.getfield 9, 3) := by decide +kernel
theorem dX0_matchLength_51 : decode cX0_matchLength 51 = .ok (.iload_n 3, 1) := by decide +kernel
theorem dX0_matchLength_52 : decode cX0_matchLength 52 = .ok (.iload 5, 2) := by decide +kernel
theorem dX0_matchLength_54 : decode cX0_matchLength 54 = .ok (.iadd, 1) := by decide +kernel
theorem dX0_matchLength_55 : decode cX0_matchLength 55 = .ok (.invokevirtual 49, 3) := by decide +kernel
theorem dX0_matchLength_58 : decode cX0_matchLength 58 = .ok (.if_icmp .ne 9, 3) := by decide +kernel
theorem dX0_matchLength_61 : decode cX0_matchLength 61 = .ok (.iinc 5 1, 3) := by decide +kernel
theorem dX0_matchLength_64 : decode cX0_matchLength 64 = .ok (.goto (-36), 3) := by decide +kernel
theorem dX0_matchLength_67 : decode cX0_matchLength 67 = .ok (.iload 5, 2) := by decide +kernel
theorem dX0_matchLength_69 : decode cX0_matchLength 69 = .ok (.ireturn, 1) := by decide +kernel
theorem dX1_init_0 : decode cX1_init 0 = .ok (.aload_n 0, 1) := by decide +kernel
theorem dX1_init_1 : decode cX1_init 1 = .ok (.invokespecial 3, 3) := by decide +kernel
theorem dX1_init_4 : decode cX1_init 4 = .ok (.aload_n 0, 1) := by decide +kernel
theorem dX1_init_5 : decode cX1_init 5 = .ok (.iconst 0, 1) := by decide +kernel
theorem dX1_init_6 : decode cX1_init 6 = .ok (.putfield 9, 3) := by decide +kernel
theorem dX1_init_9 : decode cX1_init 9 = .ok (.aload_n 0, 1) := by decide +kernel
theorem dX1_init_10 : decode cX1_init 10 = .ok (.bipush 24, 2) := by decide +kernel
theorem dX1_init_12 : decode cX1_init 12 = .ok (.newarray .int, 2) := by decide +kernel
theorem dX1_init_14 : decode cX1_init 14 = .ok (.putfield 15, 3) := by decide +kernel
theorem dX1_init_17 : decode cX1_init 17 = .ok (.return_, 1) := by decide +kernel
theorem dX1_isFull_0 : decode cX1_isFull 0 = .ok (.aload_n 0, 1) := by decide +kernel
theorem dX1_isFull_1 : decode cX1_isFull 1 = .ok (.getfield 9, 3) := by decide +kernel
theorem dX1_isFull_4 : decode cX1_isFull 4 = .ok (.aload_n 0, 1) := by decide +kernel
theorem dX1_isFull_5 : decode cX1_isFull 5 = .ok (.getfield 15, 3) := by decide +kernel
theorem dX1_isFull_8 : decode cX1_isFull 8 = .ok (.arraylength, 1) := by decide +kernel
theorem dX1_isFull_9 : decode cX1_isFull 9 = .ok (.if_icmp .lt 7, 3) := by decide +kernel
theorem dX1_isFull_12 : decode cX1_isFull 12 = .ok (.iconst 1, 1) := by decide +kernel
theorem dX1_isFull_13 : decode cX1_isFull 13 = .ok (.goto 4, 3) := by decide +kernel
theorem dX1_isFull_16 : decode cX1_isFull 16 = .ok (.iconst 0, 1) := by decide +kernel
theorem dX1_isFull_17 : decode cX1_isFull 17 = .ok (.ireturn, 1) := by decide +kernel
theorem dX1_append_0 : decode cX1_append 0 = .ok (.aload_n 0, 1) := by decide +kernel
theorem dX1_append_1 : decode cX1_append 1 = .ok (.getfield 9, 3) := by decide +kernel
theorem dX1_append_4 : decode cX1_append 4 = .ok (.ifCond .lt 35, 3) := by decide +kernel
theorem dX1_append_7 : decode cX1_append 7 = .ok (.aload_n 0, 1) := by decide +kernel
theorem dX1_append_8 : decode cX1_append 8 = .ok (.getfield 9, 3) := by decide +kernel
theorem dX1_append_11 : decode cX1_append 11 = .ok (.aload_n 0, 1) := by decide +kernel
theorem dX1_append_12 : decode cX1_append 12 = .ok (.getfield 15, 3) := by decide +kernel
theorem dX1_append_15 : decode cX1_append 15 = .ok (.arraylength, 1) := by decide +kernel
theorem dX1_append_16 : decode cX1_append 16 = .ok (.if_icmp .ge 23, 3) := by decide +kernel
theorem dX1_append_19 : decode cX1_append 19 = .ok (.aload_n 0, 1) := by decide +kernel
theorem dX1_append_20 : decode cX1_append 20 = .ok (.getfield 15, 3) := by decide +kernel
theorem dX1_append_23 : decode cX1_append 23 = .ok (.aload_n 0, 1) := by decide +kernel
theorem dX1_append_24 : decode cX1_append 24 = .ok (.getfield 9, 3) := by decide +kernel
theorem dX1_append_27 : decode cX1_append 27 = .ok (.iload_n 1, 1) := by decide +kernel
theorem dX1_append_28 : decode cX1_append 28 = .ok (.iastore, 1) := by decide +kernel
theorem dX1_append_29 : decode cX1_append 29 = .ok (.aload_n 0, 1) := by decide +kernel
theorem dX1_append_30 : decode cX1_append 30 = .ok (.dup, 1) := by decide +kernel
theorem dX1_append_31 : decode cX1_append 31 = .ok (.getfield 9, 3) := by decide +kernel
theorem dX1_append_34 : decode cX1_append 34 = .ok (.iconst 1, 1) := by decide +kernel
theorem dX1_append_35 : decode cX1_append 35 = .ok (.iadd, 1) := by decide +kernel
theorem dX1_append_36 : decode cX1_append 36 = .ok (.putfield 9, 3) := by decide +kernel
theorem dX1_append_39 : decode cX1_append 39 = .ok (.aload_n 0, 1) := by decide +kernel
theorem dX1_append_40 : decode cX1_append 40 = .ok (.getfield 9, 3) := by decide +kernel
theorem dX1_append_43 : decode cX1_append 43 = .ok (.ireturn, 1) := by decide +kernel
theorem dX1_clear_0 : decode cX1_clear 0 = .ok (.aload_n 0, 1) := by decide +kernel
theorem dX1_clear_1 : decode cX1_clear 1 = .ok (.getfield 9, 3) := by decide +kernel
theorem dX1_clear_4 : decode cX1_clear 4 = .ok (.istore_n 1, 1) := by decide +kernel
theorem dX1_clear_5 : decode cX1_clear 5 = .ok (.aload_n 0, 1) := by decide +kernel
theorem dX1_clear_6 : decode cX1_clear 6 = .ok (.iconst 0, 1) := by decide +kernel
theorem dX1_clear_7 : decode cX1_clear 7 = .ok (.putfield 9, 3) := by decide +kernel
theorem dX1_clear_10 : decode cX1_clear 10 = .ok (.iload_n 1, 1) := by decide +kernel
theorem dX1_clear_11 : decode cX1_clear 11 = .ok (.ireturn, 1) := by decide +kernel
theorem dX1_byteAt_0 : decode cX1_byteAt 0 = .ok (.iload_n 1, 1) := by decide +kernel
theorem dX1_byteAt_1 : decode cX1_byteAt 1 = .ok (.ifCond .lt 21, 3) := by decide +kernel
theorem dX1_byteAt_4 : decode cX1_byteAt 4 = .ok (.iload_n 1, 1) := by decide +kernel
theorem dX1_byteAt_5 : decode cX1_byteAt 5 = .ok (.aload_n 0, 1) := by decide +kernel
theorem dX1_byteAt_6 : decode cX1_byteAt 6 = .ok (.getfield 15, 3) := by decide +kernel
theorem dX1_byteAt_9 : decode cX1_byteAt 9 = .ok (.arraylength, 1) := by decide +kernel
theorem dX1_byteAt_10 : decode cX1_byteAt 10 = .ok (.if_icmp .ge 12, 3) := by decide +kernel
theorem dX1_byteAt_13 : decode cX1_byteAt 13 = .ok (.aload_n 0, 1) := by decide +kernel
theorem dX1_byteAt_14 : decode cX1_byteAt 14 = .ok (.getfield 15, 3) := by decide +kernel
theorem dX1_byteAt_17 : decode cX1_byteAt 17 = .ok (.iload_n 1, 1) := by decide +kernel
theorem dX1_byteAt_18 : decode cX1_byteAt 18 = .ok (.iaload, 1) := by decide +kernel
theorem dX1_byteAt_19 : decode cX1_byteAt 19 = .ok (.goto 4, 3) := by decide +kernel
theorem dX1_byteAt_22 : decode cX1_byteAt 22 = .ok (.iconst 0, 1) := by decide +kernel
theorem dX1_byteAt_23 : decode cX1_byteAt 23 = .ok (.ireturn, 1) := by decide +kernel
set_option maxRecDepth 20000 in
theorem ggX1_hash_X1_byteAt : GoodIn wsX1_hash wsX1_byteAt := goodIn_r _ [6, 7, 12, 13] (by decide +kernel) (by decide +kernel)
set_option maxRecDepth 20000 in
theorem gX1_hash_X1_byteAt : GoodIn wsX1_hash (wsV RX1 19 RX1 yX1_byteAt wsX1_byteAt) := goodIn_app (goodIn_of _ (by decide +kernel)) ggX1_hash_X1_byteAt
set_option maxRecDepth 20000 in
theorem ggX1_hash_X5_hashWith : GoodIn wsX1_hash wsX5_hashWith := goodIn_r _ [10, 11] (by decide +kernel) (by decide +kernel)
set_option maxRecDepth 20000 in
theorem gX1_hash_X5_hashWith_n23 : GoodIn wsX1_hash (wsX5_hashWith) := ggX1_hash_X5_hashWith
theorem dX1_hash_0 : decode cX1_hash 0 = .ok (.bipush 17, 2) := by decide +kernel
theorem dX1_hash_2 : decode cX1_hash 2 = .ok (.istore_n 1, 1) := by decide +kernel
theorem dX1_hash_3 : decode cX1_hash 3 = .ok (.iconst 0, 1) := by decide +kernel
theorem dX1_hash_4 : decode cX1_hash 4 = .ok (.istore_n 2, 1) := by decide +kernel
theorem dX1_hash_5 : decode cX1_hash 5 = .ok (.iload_n 2, 1) := by decide +kernel
theorem dX1_hash_6 : decode cX1_hash 6 = .ok (.aload_n 0, 1) := by decide +kernel
theorem dX1_hash_7 : decode cX1_hash 7 = .ok (.getfield 9, 3) := by decide +kernel
theorem dX1_hash_10 : decode cX1_hash 10 = .ok (.if_icmp .ge 19, 3) := by decide +kernel
theorem dX1_hash_13 : decode cX1_hash 13 = .ok (.iload_n 1, 1) := by decide +kernel
theorem dX1_hash_14 : decode cX1_hash 14 = .ok (.aload_n 0, 1) := by decide +kernel
theorem dX1_hash_15 : decode cX1_hash 15 = .ok (.iload_n 2, 1) := by decide +kernel
theorem dX1_hash_16 : decode cX1_hash 16 = .ok (.invokevirtual 19, 3) := by decide +kernel
theorem dX1_hash_19 : decode cX1_hash 19 = .ok (.invokestatic 23, 3) := by decide +kernel
theorem dX1_hash_22 : decode cX1_hash 22 = .ok (.istore_n 1, 1) := by decide +kernel
theorem dX1_hash_23 : decode cX1_hash 23 = .ok (.iinc 2 1, 3) := by decide +kernel
theorem dX1_hash_26 : decode cX1_hash 26 = .ok (.goto (-21), 3) := by decide +kernel
theorem dX1_hash_29 : decode cX1_hash 29 = .ok (.iload_n 1, 1) := by decide +kernel
theorem dX1_hash_30 : decode cX1_hash 30 = .ok (.ireturn, 1) := by decide +kernel
theorem dX2_init_0 : decode cX2_init 0 = .ok (.aload_n 0, 1) := by decide +kernel
theorem dX2_init_1 : decode cX2_init 1 = .ok (.invokespecial 3, 3) := by decide +kernel
theorem dX2_init_4 : decode cX2_init 4 = .ok (.aload_n 0, 1) := by decide +kernel
theorem dX2_init_5 : decode cX2_init 5 = .ok (.bipush 66, 2) := by decide +kernel
theorem dX2_init_7 : decode cX2_init 7 = .ok (.newarray .int, 2) := by decide +kernel
theorem dX2_init_9 : decode cX2_init 9 = .ok (.putfield 11, 3) := by decide +kernel
theorem dX2_init_12 : decode cX2_init 12 = .ok (.aload_n 0, 1) := by decide +kernel
theorem dX2_init_13 : decode cX2_init 13 = .ok (.iconst 0, 1) := by decide +kernel
theorem dX2_init_14 : decode cX2_init 14 = .ok (.putfield 17, 3) := by decide +kernel
theorem dX2_init_17 : decode cX2_init 17 = .ok (.aload_n 0, 1) := by decide +kernel
theorem dX2_init_18 : decode cX2_init 18 = .ok (.iconst (-1), 1) := by decide +kernel
theorem dX2_init_19 : decode cX2_init 19 = .ok (.putfield 21, 3) := by decide +kernel
theorem dX2_init_22 : decode cX2_init 22 = .ok (.return_, 1) := by decide +kernel
theorem dX2_read_0 : decode cX2_read 0 = .ok (.iload_n 1, 1) := by decide +kernel
theorem dX2_read_1 : decode cX2_read 1 = .ok (.ifCond .lt 21, 3) := by decide +kernel
theorem dX2_read_4 : decode cX2_read 4 = .ok (.iload_n 1, 1) := by decide +kernel
theorem dX2_read_5 : decode cX2_read 5 = .ok (.aload_n 0, 1) := by decide +kernel
theorem dX2_read_6 : decode cX2_read 6 = .ok (.getfield 11, 3) := by decide +kernel
theorem dX2_read_9 : decode cX2_read 9 = .ok (.arraylength, 1) := by decide +kernel
theorem dX2_read_10 : decode cX2_read 10 = .ok (.if_icmp .ge 12, 3) := by decide +kernel
theorem dX2_read_13 : decode cX2_read 13 = .ok (.aload_n 0, 1) := by decide +kernel
theorem dX2_read_14 : decode cX2_read 14 = .ok (.getfield 11, 3) := by decide +kernel
theorem dX2_read_17 : decode cX2_read 17 = .ok (.iload_n 1, 1) := by decide +kernel
theorem dX2_read_18 : decode cX2_read 18 = .ok (.iaload, 1) := by decide +kernel
theorem dX2_read_19 : decode cX2_read 19 = .ok (.goto 4, 3) := by decide +kernel
theorem dX2_read_22 : decode cX2_read 22 = .ok (.iconst 0, 1) := by decide +kernel
theorem dX2_read_23 : decode cX2_read 23 = .ok (.ireturn, 1) := by decide +kernel
theorem dX2_preset_0 : decode cX2_preset 0 = .ok (.iload_n 1, 1) := by decide +kernel
theorem dX2_preset_1 : decode cX2_preset 1 = .ok (.ifCond .lt 19, 3) := by decide +kernel
theorem dX2_preset_4 : decode cX2_preset 4 = .ok (.iload_n 1, 1) := by decide +kernel
theorem dX2_preset_5 : decode cX2_preset 5 = .ok (.aload_n 0, 1) := by decide +kernel
theorem dX2_preset_6 : decode cX2_preset 6 = .ok (.getfield 11, 3) := by decide +kernel
theorem dX2_preset_9 : decode cX2_preset 9 = .ok (.arraylength, 1) := by decide +kernel
theorem dX2_preset_10 : decode cX2_preset 10 = .ok (.if_icmp .ge 10, 3) := by decide +kernel
theorem dX2_preset_13 : decode cX2_preset 13 = .ok (.aload_n 0, 1) := by decide +kernel
theorem dX2_preset_14 : decode cX2_preset 14 = .ok (.getfield 11, 3) := by decide +kernel
theorem dX2_preset_17 : decode cX2_preset 17 = .ok (.iload_n 1, 1) := by decide +kernel
theorem dX2_preset_18 : decode cX2_preset 18 = .ok (.iload_n 2, 1) := by decide +kernel
theorem dX2_preset_19 : decode cX2_preset 19 = .ok (.iastore, 1) := by decide +kernel
theorem dX2_preset_20 : decode cX2_preset 20 = .ok (.return_, 1) := by decide +kernel
set_option maxRecDepth 20000 in
theorem ggX2_write_X2_read : GoodIn wsX2_write wsX2_read := goodIn_r _ [7, 8, 13, 14, 15] (by decide +kernel) (by decide +kernel)
set_option maxRecDepth 20000 in
theorem gX2_write_X2_read : GoodIn wsX2_write (wsV RX2 24 RX2 yX2_read wsX2_read) := goodIn_app (goodIn_of _ (by decide +kernel)) ggX2_write_X2_read
set_option maxRecDepth 20000 in
theorem ggX2_write_X2_preset : GoodIn wsX2_write wsX2_preset := goodIn_r _ [12, 8, 13, 14, 15] (by decide +kernel) (by decide +kernel)
set_option maxRecDepth 20000 in
theorem gX2_write_X2_preset : GoodIn wsX2_write (wsV RX2 28 RX2 yX2_preset wsX2_preset) := goodIn_app (goodIn_of _ (by decide +kernel)) ggX2_write_X2_preset
theorem dX2_write_0 : decode cX2_write 0 = .ok (.aload_n 0, 1) := by decide +kernel
theorem dX2_write_1 : decode cX2_write 1 = .ok (.dup, 1) := by decide +kernel
theorem dX2_write_2 : decode cX2_write 2 = .ok (.getfield 17, 3) := by decide +kernel
theorem dX2_write_5 : decode cX2_write 5 = .ok (.iconst 1, 1) := by decide +kernel
theorem dX2_write_6 : decode cX2_write 6 = .ok (.iadd, 1) := by decide +kernel
theorem dX2_write_7 : decode cX2_write 7 = .ok (.putfield 17, 3) := by decide +kernel
theorem dX2_write_10 : decode cX2_write 10 = .ok (.aload_n 0, 1) := by decide +kernel
theorem dX2_write_11 : decode cX2_write 11 = .ok (.getfield 21, 3) := by decide +kernel
theorem dX2_write_14 : decode cX2_write 14 = .ok (.ifCond .ne 22, 3) := by decide +kernel
theorem dX2_write_17 : decode cX2_write 17 = .ok (.aload_n 0, 1) := by decide +kernel
theorem dX2_write_18 : decode cX2_write 18 = .ok (.iconst (-1), 1) := by decide +kernel
theorem dX2_write_19 : decode cX2_write 19 = .ok (.putfield 21, 3) := by decide +kernel
theorem dX2_write_22 : decode cX2_write 22 = .ok (.aload_n 0, 1) := by decide +kernel
theorem dX2_write_23 : decode cX2_write 23 = .ok (.iload_n 1, 1) := by decide +kernel
theorem dX2_write_24 : decode cX2_write 24 = .ok (.aload_n 0, 1) := by decide +kernel
theorem dX2_write_25 : decode cX2_write 25 = .ok (.iload_n 1, 1) := by decide +kernel
theorem dX2_write_26 : decode cX2_write 26 = .ok (.invokevirtual 24, 3) := by decide +kernel
theorem dX2_write_29 : decode cX2_write 29 = .ok (.iload_n 2, 1) := by decide +kernel
theorem dX2_write_30 : decode cX2_write 30 = .ok (.iand, 1) := by decide +kernel
theorem dX2_write_31 : decode cX2_write 31 = .ok (.invokevirtual 28, 3) := by decide +kernel
theorem dX2_write_34 : decode cX2_write 34 = .ok (.iconst 0, 1) := by decide +kernel
theorem dX2_write_35 : decode cX2_write 35 = .ok (.ireturn, 1) := by decide +kernel
theorem dX2_write_36 : decode cX2_write 36 = .ok (.aload_n 0, 1) := by decide +kernel
theorem dX2_write_37 : decode cX2_write 37 = .ok (.getfield 21, 3) := by decide +kernel
theorem dX2_write_40 : decode cX2_write 40 = .ok (.ifCond .le 13, 3) := by decide +kernel
theorem dX2_write_43 : decode cX2_write 43 = .ok (.aload_n 0, 1) := by decide +kernel
theorem dX2_write_44 : decode cX2_write 44 = .ok (.dup, 1) := by decide +kernel
theorem dX2_write_45 : decode cX2_write 45 = .ok (.getfield 21, 3) := by decide +kernel
theorem dX2_write_48 : decode cX2_write 48 = .ok (.iconst 1, 1) := by decide +kernel
theorem dX2_write_49 : decode cX2_write 49 = .ok (.isub, 1) := by decide +kernel
theorem dX2_write_50 : decode cX2_write 50 = .ok (.putfield 21, 3) := by decide +kernel
theorem dX2_write_53 : decode cX2_write 53 = .ok (.aload_n 0, 1) := by decide +kernel
theorem dX2_write_54 : decode cX2_write 54 = .ok (.iload_n 1, 1) := by decide +kernel
theorem dX2_write_55 : decode cX2_write 55 = .ok (.iload_n 2, 1) := by decide +kernel
theorem dX2_write_56 : decode cX2_write 56 = .ok (.invokevirtual 28, 3) := by decide +kernel
theorem dX2_write_59 : decode cX2_write 59 = .ok (.iconst 1, 1) := by decide +kernel
theorem dX2_write_60 : decode cX2_write 60 = .ok (.ireturn, 1) := by decide +kernel
theorem dX2_chooseFailure_0 : decode cX2_chooseFailure 0 = .ok (.aload_n 0, 1) := by decide +kernel
theorem dX2_chooseFailure_1 : decode cX2_chooseFailure 1 = .ok (.iload_n 1, 1) := by decide +kernel
theorem dX2_chooseFailure_2 : decode cX2_chooseFailure 2 = .ok (.putfield 21, 3) := by decide +kernel
theorem dX2_chooseFailure_5 : decode cX2_chooseFailure 5 = .ok (.return_, 1) := by decide +kernel
theorem dX2_begunWrites_0 : decode cX2_begunWrites 0 = .ok (.aload_n 0, 1) := by decide +kernel
theorem dX2_begunWrites_1 : decode cX2_begunWrites 1 = .ok (.getfield 17, 3) := by decide +kernel
theorem dX2_begunWrites_4 : decode cX2_begunWrites 4 = .ok (.ireturn, 1) := by decide +kernel
set_option maxRecDepth 20000 in
theorem ggX2_mirror_X2_read : GoodIn wsX2_mirror wsX2_read := goodIn_r _ [6, 1, 7, 8, 9] (by decide +kernel) (by decide +kernel)
set_option maxRecDepth 20000 in
theorem gX2_mirror_X2_read : GoodIn wsX2_mirror (wsV RX2 24 RX2 yX2_read wsX2_read) := goodIn_app (goodIn_of _ (by decide +kernel)) ggX2_mirror_X2_read
theorem dX2_mirror_0 : decode cX2_mirror 0 = .ok (.iconst 0, 1) := by decide +kernel
theorem dX2_mirror_1 : decode cX2_mirror 1 = .ok (.istore_n 2, 1) := by decide +kernel
theorem dX2_mirror_2 : decode cX2_mirror 2 = .ok (.iload_n 2, 1) := by decide +kernel
theorem dX2_mirror_3 : decode cX2_mirror 3 = .ok (.aload_n 0, 1) := by decide +kernel
theorem dX2_mirror_4 : decode cX2_mirror 4 = .ok (.getfield 11, 3) := by decide +kernel
theorem dX2_mirror_7 : decode cX2_mirror 7 = .ok (.arraylength, 1) := by decide +kernel
theorem dX2_mirror_8 : decode cX2_mirror 8 = .ok (.if_icmp .ge 20, 3) := by decide +kernel
theorem dX2_mirror_11 : decode cX2_mirror 11 = .ok (.aload_n 0, 1) := by decide +kernel
theorem dX2_mirror_12 : decode cX2_mirror 12 = .ok (.getfield 11, 3) := by decide +kernel
theorem dX2_mirror_15 : decode cX2_mirror 15 = .ok (.iload_n 2, 1) := by decide +kernel
theorem dX2_mirror_16 : decode cX2_mirror 16 = .ok (.aload_n 1, 1) := by decide +kernel
theorem dX2_mirror_17 : decode cX2_mirror 17 = .ok (.iload_n 2, 1) := by decide +kernel
theorem dX2_mirror_18 : decode cX2_mirror 18 = .ok (.invokevirtual 24, 3) := by decide +kernel
theorem dX2_mirror_21 : decode cX2_mirror 21 = .ok (.iastore, 1) := by decide +kernel
theorem dX2_mirror_22 : decode cX2_mirror 22 = .ok (.iinc 2 1, 3) := by decide +kernel
theorem dX2_mirror_25 : decode cX2_mirror 25 = .ok (.goto (-23), 3) := by decide +kernel
theorem dX2_mirror_28 : decode cX2_mirror 28 = .ok (.return_, 1) := by decide +kernel
set_option maxRecDepth 20000 in
theorem ggX3_init_X2_init : GoodIn wsX3_init wsX2_init := goodIn_r _ [9, 10, 2, 3, 11, 12, 13, 14, 39, 40, 41] (by decide +kernel) (by decide +kernel)
set_option maxRecDepth 20000 in
theorem gX3_init_X2_init_n13 : GoodIn wsX3_init (wsX2_init) := ggX3_init_X2_init
set_option maxRecDepth 20000 in
theorem ggX3_init_X2_preset : GoodIn wsX3_init wsX2_preset := goodIn_r _ [18, 12, 39, 40, 41] (by decide +kernel) (by decide +kernel)
set_option maxRecDepth 20000 in
theorem gX3_init_X2_preset : GoodIn wsX3_init (wsV RX3 18 RX2 yX2_preset wsX2_preset) := goodIn_app (goodIn_of _ (by decide +kernel)) ggX3_init_X2_preset
set_option maxRecDepth 20000 in
theorem ggX3_init_X3_imageHash : GoodIn wsX3_init wsX3_imageHash := goodIn_r _ [23, 24, 25, 26, 22, 27, 7, 28, 29, 30, 6, 31, 12, 32, 33, 34, 35, 42, 39, 40, 41] (by decide +kernel) (by decide +kernel)
set_option maxRecDepth 20000 in
theorem gX3_init_X3_imageHash : GoodIn wsX3_init (wsV RX3 22 RX3 yX3_imageHash wsX3_imageHash) := goodIn_app (goodIn_of _ (by decide +kernel)) ggX3_init_X3_imageHash
set_option maxRecDepth 20000 in
theorem ggX3_init_X3_checkOf : GoodIn wsX3_init wsX3_checkOf := goodIn_r _ [38] (by decide +kernel) (by decide +kernel)
set_option maxRecDepth 20000 in
theorem gX3_init_X3_checkOf : GoodIn wsX3_init (va_wsS RX3 26 yX3_checkOf wsX3_checkOf) := goodIn_app (goodIn_of _ (by decide +kernel)) ggX3_init_X3_checkOf
end
section
theorem dX3_init_0 : decode cX3_init 0 = .ok (.aload_n 0, 1) := by decide +kernel
theorem dX3_init_1 : decode cX3_init 1 = .ok (.invokespecial 5, 3) := by decide +kernel
theorem dX3_init_4 : decode cX3_init 4 = .ok (.aload_n 0, 1) := by decide +kernel
theorem dX3_init_5 : decode cX3_init 5 = .ok (.new 11, 3) := by decide +kernel
theorem dX3_init_8 : decode cX3_init 8 = .ok (.dup, 1) := by decide +kernel
theorem dX3_init_9 : decode cX3_init 9 = .ok (.invokespecial 13, 3) := by decide +kernel
theorem dX3_init_12 : decode cX3_init 12 = .ok (.putfield 14, 3) := by decide +kernel
theorem dX3_init_15 : decode cX3_init 15 = .ok (.iconst 0, 1) := by decide +kernel
theorem dX3_init_16 : decode cX3_init 16 = .ok (.istore_n 1, 1) := by decide +kernel
theorem dX3_init_17 : decode cX3_init 17 = .ok (.iload_n 1, 1) := by decide +kernel
theorem dX3_init_18 : decode cX3_init 18 = .ok (.bipush 8, 2) := by decide +kernel
theorem dX3_init_20 : decode cX3_init 20 = .ok (.if_icmp .ge 22, 3) := by decide +kernel
theorem dX3_init_23 : decode cX3_init 23 = .ok (.aload_n 0, 1) := by decide +kernel
theorem dX3_init_24 : decode cX3_init 24 = .ok (.getfield 14, 3) := by decide +kernel
theorem dX3_init_27 : decode cX3_init 27 = .ok (.iconst 5, 1) := by decide +kernel
theorem dX3_init_28 : decode cX3_init 28 = .ok (.iload_n 1, 1) := by decide +kernel
theorem dX3_init_29 : decode cX3_init 29 = .ok (.iadd, 1) := by decide +kernel
theorem dX3_init_30 : decode cX3_init 30 = .ok (.iload_n 1, 1) := by decide +kernel
theorem dX3_init_31 : decode cX3_init 31 = .ok (.iconst 1, 1) := by decide +kernel
theorem dX3_init_32 : decode cX3_init 32 = .ok (.iadd, 1) := by decide +kernel
theorem dX3_init_33 : decode cX3_init 33 = .ok (.invokevirtual 18, 3) := by decide +kernel
theorem dX3_init_36 : decode cX3_init 36 = .ok (.iinc 1 1, 3) := by decide +kernel
theorem dX3_init_39 : decode cX3_init 39 = .ok (.goto (-22), 3) := by decide +kernel
theorem dX3_init_42 : decode cX3_init 42 = .ok (.aload_n 0, 1) := by decide +kernel
theorem dX3_init_43 : decode cX3_init 43 = .ok (.getfield 14, 3) := by decide +kernel
theorem dX3_init_46 : decode cX3_init 46 = .ok (.iconst 0, 1) := by decide +kernel
theorem dX3_init_47 : decode cX3_init 47 = .ok (.iconst 1, 1) := by decide +kernel
theorem dX3_init_48 : decode cX3_init 48 = .ok (.invokevirtual 18, 3) := by decide +kernel
theorem dX3_init_51 : decode cX3_init 51 = .ok (.aload_n 0, 1) := by decide +kernel
theorem dX3_init_52 : decode cX3_init 52 = .ok (.getfield 14, 3) := by decide +kernel
theorem dX3_init_55 : decode cX3_init 55 = .ok (.iconst 1, 1) := by decide +kernel
theorem dX3_init_56 : decode cX3_init 56 = .ok (.iconst 1, 1) := by decide +kernel
theorem dX3_init_57 : decode cX3_init 57 = .ok (.invokevirtual 18, 3) := by decide +kernel
theorem dX3_init_60 : decode cX3_init 60 = .ok (.aload_n 0, 1) := by decide +kernel
theorem dX3_init_61 : decode cX3_init 61 = .ok (.getfield 14, 3) := by decide +kernel
theorem dX3_init_64 : decode cX3_init 64 = .ok (.iconst 2, 1) := by decide +kernel
theorem dX3_init_65 : decode cX3_init 65 = .ok (.bipush 8, 2) := by decide +kernel
theorem dX3_init_67 : decode cX3_init 67 = .ok (.invokevirtual 18, 3) := by decide +kernel
theorem dX3_init_70 : decode cX3_init 70 = .ok (.aload_n 0, 1) := by decide +kernel
theorem dX3_init_71 : decode cX3_init 71 = .ok (.getfield 14, 3) := by decide +kernel
theorem dX3_init_74 : decode cX3_init 74 = .ok (.iconst 3, 1) := by decide +kernel
theorem dX3_init_75 : decode cX3_init 75 = .ok (.aload_n 0, 1) := by decide +kernel
theorem dX3_init_76 : decode cX3_init 76 = .ok (.iconst 0, 1) := by decide +kernel
theorem dX3_init_77 : decode cX3_init 77 = .ok (.bipush 8, 2) := by decide +kernel
theorem dX3_init_79 : decode cX3_init 79 = .ok (.invokevirtual 22, 3) := by decide +kernel
theorem dX3_init_82 : decode cX3_init 82 = .ok (.invokevirtual 18, 3) := by decide +kernel
theorem dX3_init_85 : decode cX3_init 85 = .ok (.aload_n 0, 1) := by decide +kernel
theorem dX3_init_86 : decode cX3_init 86 = .ok (.getfield 14, 3) := by decide +kernel
theorem dX3_init_89 : decode cX3_init 89 = .ok (.bipush 59, 2) := by decide +kernel
theorem dX3_init_91 : decode cX3_init 91 = .ok (.iconst 1, 1) := by decide +kernel
theorem dX3_init_92 : decode cX3_init 92 = .ok (.invokevirtual 18, 3) := by decide +kernel
theorem dX3_init_95 : decode cX3_init 95 = .ok (.aload_n 0, 1) := by decide +kernel
theorem dX3_init_96 : decode cX3_init 96 = .ok (.getfield 14, 3) := by decide +kernel
theorem dX3_init_99 : decode cX3_init 99 = .ok (.bipush 58, 2) := by decide +kernel
theorem dX3_init_101 : decode cX3_init 101 = .ok (.iconst 1, 1) := by decide +kernel
theorem dX3_init_102 : decode cX3_init 102 = .ok (.iconst 0, 1) := by decide +kernel
theorem dX3_init_103 : decode cX3_init 103 = .ok (.iconst 0, 1) := by decide +kernel
theorem dX3_init_104 : decode cX3_init 104 = .ok (.invokestatic 26, 3) := by decide +kernel
theorem dX3_init_107 : decode cX3_init 107 = .ok (.invokevirtual 18, 3) := by decide +kernel
theorem dX3_init_110 : decode cX3_init 110 = .ok (.return_, 1) := by decide +kernel
set_option maxRecDepth 20000 in
theorem ggX3_mirror_X2_mirror : GoodIn wsX3_mirror wsX2_mirror := goodIn_r _ [6, 7, 8, 9, 10, 5, 11, 13, 14, 15] (by decide +kernel) (by decide +kernel)
set_option maxRecDepth 20000 in
theorem gX3_mirror_X2_mirror : GoodIn wsX3_mirror (wsV RX3 30 RX2 yX2_mirror wsX2_mirror) := goodIn_app (goodIn_of _ (by decide +kernel)) ggX3_mirror_X2_mirror
theorem dX3_mirror_0 : decode cX3_mirror 0 = .ok (.aload_n 0, 1) := by decide +kernel
theorem dX3_mirror_1 : decode cX3_mirror 1 = .ok (.getfield 14, 3) := by decide +kernel
theorem dX3_mirror_4 : decode cX3_mirror 4 = .ok (.aload_n 1, 1) := by decide +kernel
theorem dX3_mirror_5 : decode cX3_mirror 5 = .ok (.getfield 14, 3) := by decide +kernel
theorem dX3_mirror_8 : decode cX3_mirror 8 = .ok (.invokevirtual 30, 3) := by decide +kernel
theorem dX3_mirror_11 : decode cX3_mirror 11 = .ok (.return_, 1) := by decide +kernel
set_option maxRecDepth 20000 in
theorem ggX3_slotWord_X2_read : GoodIn wsX3_slotWord wsX2_read := goodIn_r _ [6, 7, 9, 10, 11] (by decide +kernel) (by decide +kernel)
set_option maxRecDepth 20000 in
theorem gX3_slotWord_X2_read : GoodIn wsX3_slotWord (wsV RX3 34 RX2 yX2_read wsX2_read) := goodIn_app (goodIn_of _ (by decide +kernel)) ggX3_slotWord_X2_read
theorem dX3_slotWord_0 : decode cX3_slotWord 0 = .ok (.aload_n 0, 1) := by decide +kernel
theorem dX3_slotWord_1 : decode cX3_slotWord 1 = .ok (.getfield 14, 3) := by decide +kernel
theorem dX3_slotWord_4 : decode cX3_slotWord 4 = .ok (.iload_n 1, 1) := by decide +kernel
theorem dX3_slotWord_5 : decode cX3_slotWord 5 = .ok (.bipush 29, 2) := by decide +kernel
theorem dX3_slotWord_7 : decode cX3_slotWord 7 = .ok (.imul, 1) := by decide +kernel
theorem dX3_slotWord_8 : decode cX3_slotWord 8 = .ok (.iload_n 2, 1) := by decide +kernel
theorem dX3_slotWord_9 : decode cX3_slotWord 9 = .ok (.iadd, 1) := by decide +kernel
theorem dX3_slotWord_10 : decode cX3_slotWord 10 = .ok (.invokevirtual 34, 3) := by decide +kernel
theorem dX3_slotWord_13 : decode cX3_slotWord 13 = .ok (.ireturn, 1) := by decide +kernel
set_option maxRecDepth 20000 in
theorem ggX3_writeSlotWord_X2_write : GoodIn wsX3_writeSlotWord wsX2_write := goodIn_r _ [6, 7, 8, 9, 10, 11, 5, 12, 13, 14, 15, 16, 17, 19, 20, 21] (by decide +kernel) (by decide +kernel)
set_option maxRecDepth 20000 in
theorem gX3_writeSlotWord_X2_write : GoodIn wsX3_writeSlotWord (wsV RX3 38 RX2 yX2_write wsX2_write) := goodIn_app (goodIn_of _ (by decide +kernel)) ggX3_writeSlotWord_X2_write
theorem dX3_writeSlotWord_0 : decode cX3_writeSlotWord 0 = .ok (.aload_n 0, 1) := by decide +kernel
theorem dX3_writeSlotWord_1 : decode cX3_writeSlotWord 1 = .ok (.getfield 14, 3) := by decide +kernel
theorem dX3_writeSlotWord_4 : decode cX3_writeSlotWord 4 = .ok (.iload_n 1, 1) := by decide +kernel
theorem dX3_writeSlotWord_5 : decode cX3_writeSlotWord 5 = .ok (.bipush 29, 2) := by decide +kernel
theorem dX3_writeSlotWord_7 : decode cX3_writeSlotWord 7 = .ok (.imul, 1) := by decide +kernel
theorem dX3_writeSlotWord_8 : decode cX3_writeSlotWord 8 = .ok (.iload_n 2, 1) := by decide +kernel
theorem dX3_writeSlotWord_9 : decode cX3_writeSlotWord 9 = .ok (.iadd, 1) := by decide +kernel
theorem dX3_writeSlotWord_10 : decode cX3_writeSlotWord 10 = .ok (.iload_n 3, 1) := by decide +kernel
theorem dX3_writeSlotWord_11 : decode cX3_writeSlotWord 11 = .ok (.invokevirtual 38, 3) := by decide +kernel
theorem dX3_writeSlotWord_14 : decode cX3_writeSlotWord 14 = .ok (.ireturn, 1) := by decide +kernel
set_option maxRecDepth 20000 in
theorem ggX3_imageWord_X2_read : GoodIn wsX3_imageWord wsX2_read := goodIn_r _ [6, 7, 9, 10, 11] (by decide +kernel) (by decide +kernel)
set_option maxRecDepth 20000 in
theorem gX3_imageWord_X2_read : GoodIn wsX3_imageWord (wsV RX3 34 RX2 yX2_read wsX2_read) := goodIn_app (goodIn_of _ (by decide +kernel)) ggX3_imageWord_X2_read
theorem dX3_imageWord_0 : decode cX3_imageWord 0 = .ok (.aload_n 0, 1) := by decide +kernel
theorem dX3_imageWord_1 : decode cX3_imageWord 1 = .ok (.getfield 14, 3) := by decide +kernel
theorem dX3_imageWord_4 : decode cX3_imageWord 4 = .ok (.iload_n 1, 1) := by decide +kernel
theorem dX3_imageWord_5 : decode cX3_imageWord 5 = .ok (.bipush 29, 2) := by decide +kernel
theorem dX3_imageWord_7 : decode cX3_imageWord 7 = .ok (.imul, 1) := by decide +kernel
theorem dX3_imageWord_8 : decode cX3_imageWord 8 = .ok (.iconst 5, 1) := by decide +kernel
theorem dX3_imageWord_9 : decode cX3_imageWord 9 = .ok (.iadd, 1) := by decide +kernel
theorem dX3_imageWord_10 : decode cX3_imageWord 10 = .ok (.iload_n 2, 1) := by decide +kernel
theorem dX3_imageWord_11 : decode cX3_imageWord 11 = .ok (.iadd, 1) := by decide +kernel
theorem dX3_imageWord_12 : decode cX3_imageWord 12 = .ok (.invokevirtual 34, 3) := by decide +kernel
theorem dX3_imageWord_15 : decode cX3_imageWord 15 = .ok (.ireturn, 1) := by decide +kernel
set_option maxRecDepth 20000 in
theorem ggX3_writeImageWord_X2_write : GoodIn wsX3_writeImageWord wsX2_write := goodIn_r _ [6, 7, 8, 9, 10, 11, 5, 12, 13, 14, 15, 16, 17, 19, 20, 21] (by decide +kernel) (by decide +kernel)
set_option maxRecDepth 20000 in
theorem gX3_writeImageWord_X2_write : GoodIn wsX3_writeImageWord (wsV RX3 38 RX2 yX2_write wsX2_write) := goodIn_app (goodIn_of _ (by decide +kernel)) ggX3_writeImageWord_X2_write
theorem dX3_writeImageWord_0 : decode cX3_writeImageWord 0 = .ok (.aload_n 0, 1) := by decide +kernel
theorem dX3_writeImageWord_1 : decode cX3_writeImageWord 1 = .ok (.getfield 14, 3) := by decide +kernel
theorem dX3_writeImageWord_4 : decode cX3_writeImageWord 4 = .ok (.iload_n 1, 1) := by decide +kernel
theorem dX3_writeImageWord_5 : decode cX3_writeImageWord 5 = .ok (.bipush 29, 2) := by decide +kernel
theorem dX3_writeImageWord_7 : decode cX3_writeImageWord 7 = .ok (.imul, 1) := by decide +kernel
theorem dX3_writeImageWord_8 : decode cX3_writeImageWord 8 = .ok (.iconst 5, 1) := by decide +kernel
theorem dX3_writeImageWord_9 : decode cX3_writeImageWord 9 = .ok (.iadd, 1) := by decide +kernel
theorem dX3_writeImageWord_10 : decode cX3_writeImageWord 10 = .ok (.iload_n 2, 1) := by decide +kernel
theorem dX3_writeImageWord_11 : decode cX3_writeImageWord 11 = .ok (.iadd, 1) := by decide +kernel
theorem dX3_writeImageWord_12 : decode cX3_writeImageWord 12 = .ok (.iload_n 3, 1) := by decide +kernel
theorem dX3_writeImageWord_13 : decode cX3_writeImageWord 13 = .ok (.invokevirtual 38, 3) := by decide +kernel
theorem dX3_writeImageWord_16 : decode cX3_writeImageWord 16 = .ok (.ireturn, 1) := by decide +kernel
set_option maxRecDepth 20000 in
theorem ggX3_imageHash_X3_imageWord : GoodIn wsX3_imageHash wsX3_imageWord := goodIn_r _ [5, 6, 7, 8, 9, 10, 11, 12, 17, 18, 19, 20] (by decide +kernel) (by decide +kernel)
set_option maxRecDepth 20000 in
theorem gX3_imageHash_X3_imageWord : GoodIn wsX3_imageHash (wsV RX3 42 RX3 yX3_imageWord wsX3_imageWord) := goodIn_app (goodIn_of _ (by decide +kernel)) ggX3_imageHash_X3_imageWord
set_option maxRecDepth 20000 in
theorem ggX3_imageHash_X5_hashWith : GoodIn wsX3_imageHash wsX5_hashWith := goodIn_r _ [15, 16] (by decide +kernel) (by decide +kernel)
set_option maxRecDepth 20000 in
theorem gX3_imageHash_X5_hashWith_n45 : GoodIn wsX3_imageHash (wsX5_hashWith) := ggX3_imageHash_X5_hashWith
theorem dX3_imageHash_0 : decode cX3_imageHash 0 = .ok (.bipush 17, 2) := by decide +kernel
theorem dX3_imageHash_2 : decode cX3_imageHash 2 = .ok (.istore_n 3, 1) := by decide +kernel
theorem dX3_imageHash_3 : decode cX3_imageHash 3 = .ok (.iconst 0, 1) := by decide +kernel
theorem dX3_imageHash_4 : decode cX3_imageHash 4 = .ok (.istore 4, 2) := by decide +kernel
theorem dX3_imageHash_6 : decode cX3_imageHash 6 = .ok (.iload 4, 2) := by decide +kernel
theorem dX3_imageHash_8 : decode cX3_imageHash 8 = .ok (.iload_n 2, 1) := by decide +kernel
theorem dX3_imageHash_9 : decode cX3_imageHash 9 = .ok (.if_icmp .ge 28, 3) := by decide +kernel
theorem dX3_imageHash_12 : decode cX3_imageHash 12 = .ok (.iload 4, 2) := by decide +kernel
theorem dX3_imageHash_14 : decode cX3_imageHash 14 = .ok (.bipush 24, 2) := by decide +kernel
theorem dX3_imageHash_16 : decode cX3_imageHash 16 = .ok (.if_icmp .ge 21, 3) := by decide +kernel
theorem dX3_imageHash_19 : decode cX3_imageHash 19 = .ok (.iload_n 3, 1) := by decide +kernel
theorem dX3_imageHash_20 : decode cX3_imageHash 20 = .ok (.aload_n 0, 1) := by decide +kernel
theorem dX3_imageHash_21 : decode cX3_imageHash 21 = .ok (.iload_n 1, 1) := by decide +kernel
theorem dX3_imageHash_22 : decode cX3_imageHash 22 = .ok (.iload 4, 2) := by decide +kernel
theorem dX3_imageHash_24 : decode cX3_imageHash 24 = .ok (.invokevirtual 42, 3) := by decide +kernel
theorem dX3_imageHash_27 : decode cX3_imageHash 27 = .ok (.invokestatic 45, 3) := by decide +kernel
theorem dX3_imageHash_30 : decode cX3_imageHash 30 = .ok (.istore_n 3, 1) := by decide +kernel
theorem dX3_imageHash_31 : decode cX3_imageHash 31 = .ok (.iinc 4 1, 3) := by decide +kernel
theorem dX3_imageHash_34 : decode cX3_imageHash 34 = .ok (.goto (-28), 3) := by decide +kernel
theorem dX3_imageHash_37 : decode cX3_imageHash 37 = .ok (.iload_n 3, 1) := by decide +kernel
theorem dX3_imageHash_38 : decode cX3_imageHash 38 = .ok (.ireturn, 1) := by decide +kernel
set_option maxRecDepth 20000 in
theorem ggX3_canStart_X3_slotWord : GoodIn wsX3_canStart wsX3_slotWord := goodIn_r _ [5, 6, 7, 8, 9, 10, 11, 12, 25, 26, 27, 28] (by decide +kernel) (by decide +kernel)
set_option maxRecDepth 20000 in
theorem gX3_canStart_X3_slotWord : GoodIn wsX3_canStart (wsV RX3 48 RX3 yX3_slotWord wsX3_slotWord) := goodIn_app (goodIn_of _ (by decide +kernel)) ggX3_canStart_X3_slotWord
set_option maxRecDepth 20000 in
theorem ggX3_canStart_X3_imageHash : GoodIn wsX3_canStart wsX3_imageHash := goodIn_r _ [16, 17, 18, 19, 4, 20, 6, 7, 8, 9, 10, 11, 12, 21, 22, 23, 24, 25, 26, 27, 28] (by decide +kernel) (by decide +kernel)
set_option maxRecDepth 20000 in
theorem gX3_canStart_X3_imageHash : GoodIn wsX3_canStart (wsV RX3 22 RX3 yX3_imageHash wsX3_imageHash) := goodIn_app (goodIn_of _ (by decide +kernel)) ggX3_canStart_X3_imageHash
theorem dX3_canStart_0 : decode cX3_canStart 0 = .ok (.aload_n 0, 1) := by decide +kernel
theorem dX3_canStart_1 : decode cX3_canStart 1 = .ok (.iload_n 1, 1) := by decide +kernel
theorem dX3_canStart_2 : decode cX3_canStart 2 = .ok (.iconst 2, 1) := by decide +kernel
theorem dX3_canStart_3 : decode cX3_canStart 3 = .ok (.invokevirtual 48, 3) := by decide +kernel
theorem dX3_canStart_6 : decode cX3_canStart 6 = .ok (.istore_n 2, 1) := by decide +kernel
theorem dX3_canStart_7 : decode cX3_canStart 7 = .ok (.aload_n 0, 1) := by decide +kernel
theorem dX3_canStart_8 : decode cX3_canStart 8 = .ok (.iload_n 1, 1) := by decide +kernel
theorem dX3_canStart_9 : decode cX3_canStart 9 = .ok (.iconst 0, 1) := by decide +kernel
theorem dX3_canStart_10 : decode cX3_canStart 10 = .ok (.invokevirtual 48, 3) := by decide +kernel
theorem dX3_canStart_13 : decode cX3_canStart 13 = .ok (.iconst 1, 1) := by decide +kernel
theorem dX3_canStart_14 : decode cX3_canStart 14 = .ok (.if_icmp .ne 33, 3) := by decide +kernel
theorem dX3_canStart_17 : decode cX3_canStart 17 = .ok (.iload_n 2, 1) := by decide +kernel
theorem dX3_canStart_18 : decode cX3_canStart 18 = .ok (.iconst 1, 1) := by decide +kernel
theorem dX3_canStart_19 : decode cX3_canStart 19 = .ok (.if_icmp .lt 28, 3) := by decide +kernel
theorem dX3_canStart_22 : decode cX3_canStart 22 = .ok (.iload_n 2, 1) := by decide +kernel
theorem dX3_canStart_23 : decode cX3_canStart 23 = .ok (.bipush 24, 2) := by decide +kernel
theorem dX3_canStart_25 : decode cX3_canStart 25 = .ok (.if_icmp .gt 22, 3) := by decide +kernel
theorem dX3_canStart_28 : decode cX3_canStart 28 = .ok (.aload_n 0, 1) := by decide +kernel
theorem dX3_canStart_29 : decode cX3_canStart 29 = .ok (.iload_n 1, 1) := by decide +kernel
theorem dX3_canStart_30 : decode cX3_canStart 30 = .ok (.iconst 3, 1) := by decide +kernel
theorem dX3_canStart_31 : decode cX3_canStart 31 = .ok (.invokevirtual 48, 3) := by decide +kernel
theorem dX3_canStart_34 : decode cX3_canStart 34 = .ok (.aload_n 0, 1) := by decide +kernel
theorem dX3_canStart_35 : decode cX3_canStart 35 = .ok (.iload_n 1, 1) := by decide +kernel
theorem dX3_canStart_36 : decode cX3_canStart 36 = .ok (.iload_n 2, 1) := by decide +kernel
theorem dX3_canStart_37 : decode cX3_canStart 37 = .ok (.invokevirtual 22, 3) := by decide +kernel
theorem dX3_canStart_40 : decode cX3_canStart 40 = .ok (.if_icmp .ne 7, 3) := by decide +kernel
theorem dX3_canStart_43 : decode cX3_canStart 43 = .ok (.iconst 1, 1) := by decide +kernel
theorem dX3_canStart_44 : decode cX3_canStart 44 = .ok (.goto 4, 3) := by decide +kernel
theorem dX3_canStart_47 : decode cX3_canStart 47 = .ok (.iconst 0, 1) := by decide +kernel
theorem dX3_canStart_48 : decode cX3_canStart 48 = .ok (.ireturn, 1) := by decide +kernel
theorem dX3_checkOf_0 : decode cX3_checkOf 0 = .ok (.iconst 1, 1) := by decide +kernel
theorem dX3_checkOf_1 : decode cX3_checkOf 1 = .ok (.bipush 7, 2) := by decide +kernel
theorem dX3_checkOf_3 : decode cX3_checkOf 3 = .ok (.iload_n 0, 1) := by decide +kernel
theorem dX3_checkOf_4 : decode cX3_checkOf 4 = .ok (.imul, 1) := by decide +kernel
theorem dX3_checkOf_5 : decode cX3_checkOf 5 = .ok (.bipush 13, 2) := by decide +kernel
theorem dX3_checkOf_7 : decode cX3_checkOf 7 = .ok (.iload_n 1, 1) := by decide +kernel
theorem dX3_checkOf_8 : decode cX3_checkOf 8 = .ok (.imul, 1) := by decide +kernel
theorem dX3_checkOf_9 : decode cX3_checkOf 9 = .ok (.iadd, 1) := by decide +kernel
theorem dX3_checkOf_10 : decode cX3_checkOf 10 = .ok (.bipush 29, 2) := by decide +kernel
theorem dX3_checkOf_12 : decode cX3_checkOf 12 = .ok (.iload_n 2, 1) := by decide +kernel
theorem dX3_checkOf_13 : decode cX3_checkOf 13 = .ok (.imul, 1) := by decide +kernel
theorem dX3_checkOf_14 : decode cX3_checkOf 14 = .ok (.iadd, 1) := by decide +kernel
theorem dX3_checkOf_15 : decode cX3_checkOf 15 = .ok (.sipush 250, 3) := by decide +kernel
theorem dX3_checkOf_18 : decode cX3_checkOf 18 = .ok (.irem, 1) := by decide +kernel
theorem dX3_checkOf_19 : decode cX3_checkOf 19 = .ok (.iadd, 1) := by decide +kernel
theorem dX3_checkOf_20 : decode cX3_checkOf 20 = .ok (.ireturn, 1) := by decide +kernel
set_option maxRecDepth 20000 in
theorem ggX3_recordWord_X2_read : GoodIn wsX3_recordWord wsX2_read := goodIn_r _ [6, 7, 9, 10, 11] (by decide +kernel) (by decide +kernel)
set_option maxRecDepth 20000 in
theorem gX3_recordWord_X2_read : GoodIn wsX3_recordWord (wsV RX3 34 RX2 yX2_read wsX2_read) := goodIn_app (goodIn_of _ (by decide +kernel)) ggX3_recordWord_X2_read
theorem dX3_recordWord_0 : decode cX3_recordWord 0 = .ok (.aload_n 0, 1) := by decide +kernel
theorem dX3_recordWord_1 : decode cX3_recordWord 1 = .ok (.getfield 14, 3) := by decide +kernel
theorem dX3_recordWord_4 : decode cX3_recordWord 4 = .ok (.bipush 58, 2) := by decide +kernel
theorem dX3_recordWord_6 : decode cX3_recordWord 6 = .ok (.iload_n 1, 1) := by decide +kernel
theorem dX3_recordWord_7 : decode cX3_recordWord 7 = .ok (.iconst 4, 1) := by decide +kernel
theorem dX3_recordWord_8 : decode cX3_recordWord 8 = .ok (.imul, 1) := by decide +kernel
theorem dX3_recordWord_9 : decode cX3_recordWord 9 = .ok (.iadd, 1) := by decide +kernel
theorem dX3_recordWord_10 : decode cX3_recordWord 10 = .ok (.iload_n 2, 1) := by decide +kernel
theorem dX3_recordWord_11 : decode cX3_recordWord 11 = .ok (.iadd, 1) := by decide +kernel
theorem dX3_recordWord_12 : decode cX3_recordWord 12 = .ok (.invokevirtual 34, 3) := by decide +kernel
theorem dX3_recordWord_15 : decode cX3_recordWord 15 = .ok (.ireturn, 1) := by decide +kernel
set_option maxRecDepth 20000 in
theorem ggX3_writeRecordWord_X2_write : GoodIn wsX3_writeRecordWord wsX2_write := goodIn_r _ [6, 7, 8, 9, 10, 11, 5, 12, 13, 14, 15, 16, 17, 19, 20, 21] (by decide +kernel) (by decide +kernel)
set_option maxRecDepth 20000 in
theorem gX3_writeRecordWord_X2_write : GoodIn wsX3_writeRecordWord (wsV RX3 38 RX2 yX2_write wsX2_write) := goodIn_app (goodIn_of _ (by decide +kernel)) ggX3_writeRecordWord_X2_write
theorem dX3_writeRecordWord_0 : decode cX3_writeRecordWord 0 = .ok (.aload_n 0, 1) := by decide +kernel
theorem dX3_writeRecordWord_1 : decode cX3_writeRecordWord 1 = .ok (.getfield 14, 3) := by decide +kernel
theorem dX3_writeRecordWord_4 : decode cX3_writeRecordWord 4 = .ok (.bipush 58, 2) := by decide +kernel
theorem dX3_writeRecordWord_6 : decode cX3_writeRecordWord 6 = .ok (.iload_n 1, 1) := by decide +kernel
theorem dX3_writeRecordWord_7 : decode cX3_writeRecordWord 7 = .ok (.iconst 4, 1) := by decide +kernel
theorem dX3_writeRecordWord_8 : decode cX3_writeRecordWord 8 = .ok (.imul, 1) := by decide +kernel
theorem dX3_writeRecordWord_9 : decode cX3_writeRecordWord 9 = .ok (.iadd, 1) := by decide +kernel
theorem dX3_writeRecordWord_10 : decode cX3_writeRecordWord 10 = .ok (.iload_n 2, 1) := by decide +kernel
theorem dX3_writeRecordWord_11 : decode cX3_writeRecordWord 11 = .ok (.iadd, 1) := by decide +kernel
theorem dX3_writeRecordWord_12 : decode cX3_writeRecordWord 12 = .ok (.iload_n 3, 1) := by decide +kernel
theorem dX3_writeRecordWord_13 : decode cX3_writeRecordWord 13 = .ok (.invokevirtual 38, 3) := by decide +kernel
theorem dX3_writeRecordWord_16 : decode cX3_writeRecordWord 16 = .ok (.ireturn, 1) := by decide +kernel
set_option maxRecDepth 20000 in
theorem ggX3_isRecordValid_X3_recordWord : GoodIn wsX3_isRecordValid wsX3_recordWord := goodIn_r _ [5, 6, 7, 8, 9, 10, 11, 12, 16, 17, 18, 19] (by decide +kernel) (by decide +kernel)
set_option maxRecDepth 20000 in
theorem gX3_isRecordValid_X3_recordWord : GoodIn wsX3_isRecordValid (wsV RX3 51 RX3 yX3_recordWord wsX3_recordWord) := goodIn_app (goodIn_of _ (by decide +kernel)) ggX3_isRecordValid_X3_recordWord
set_option maxRecDepth 20000 in
theorem ggX3_isRecordValid_X3_checkOf : GoodIn wsX3_isRecordValid wsX3_checkOf := goodIn_r _ [15] (by decide +kernel) (by decide +kernel)
set_option maxRecDepth 20000 in
theorem gX3_isRecordValid_X3_checkOf : GoodIn wsX3_isRecordValid (va_wsS RX3 26 yX3_checkOf wsX3_checkOf) := goodIn_app (goodIn_of _ (by decide +kernel)) ggX3_isRecordValid_X3_checkOf
theorem dX3_isRecordValid_0 : decode cX3_isRecordValid 0 = .ok (.aload_n 0, 1) := by decide +kernel
theorem dX3_isRecordValid_1 : decode cX3_isRecordValid 1 = .ok (.iload_n 1, 1) := by decide +kernel
theorem dX3_isRecordValid_2 : decode cX3_isRecordValid 2 = .ok (.iconst 0, 1) := by decide +kernel
theorem dX3_isRecordValid_3 : decode cX3_isRecordValid 3 = .ok (.invokevirtual 51, 3) := by decide +kernel
theorem dX3_isRecordValid_6 : decode cX3_isRecordValid 6 = .ok (.aload_n 0, 1) := by decide +kernel
theorem dX3_isRecordValid_7 : decode cX3_isRecordValid 7 = .ok (.iload_n 1, 1) := by decide +kernel
theorem dX3_isRecordValid_8 : decode cX3_isRecordValid 8 = .ok (.iconst 1, 1) := by decide +kernel
theorem dX3_isRecordValid_9 : decode cX3_isRecordValid 9 = .ok (.invokevirtual 51, 3) := by decide +kernel
theorem dX3_isRecordValid_12 : decode cX3_isRecordValid 12 = .ok (.aload_n 0, 1) := by decide +kernel
theorem dX3_isRecordValid_13 : decode cX3_isRecordValid 13 = .ok (.iload_n 1, 1) := by decide +kernel
theorem dX3_isRecordValid_14 : decode cX3_isRecordValid 14 = .ok (.iconst 2, 1) := by decide +kernel
theorem dX3_isRecordValid_15 : decode cX3_isRecordValid 15 = .ok (.invokevirtual 51, 3) := by decide +kernel
theorem dX3_isRecordValid_18 : decode cX3_isRecordValid 18 = .ok (.aload_n 0, 1) := by decide +kernel
theorem dX3_isRecordValid_19 : decode cX3_isRecordValid 19 = .ok (.iload_n 1, 1) := by decide +kernel
theorem dX3_isRecordValid_20 : decode cX3_isRecordValid 20 = .ok (.iconst 3, 1) := by decide +kernel
theorem dX3_isRecordValid_21 : decode cX3_isRecordValid 21 = .ok (.invokevirtual 51, 3) := by decide +kernel
theorem dX3_isRecordValid_24 : decode cX3_isRecordValid 24 = .ok (.invokestatic 26, 3) := by decide +kernel
theorem dX3_isRecordValid_27 : decode cX3_isRecordValid 27 = .ok (.if_icmp .ne 7, 3) := by decide +kernel
theorem dX3_isRecordValid_30 : decode cX3_isRecordValid 30 = .ok (.iconst 1, 1) := by decide +kernel
theorem dX3_isRecordValid_31 : decode cX3_isRecordValid 31 = .ok (.goto 4, 3) := by decide +kernel
theorem dX3_isRecordValid_34 : decode cX3_isRecordValid 34 = .ok (.iconst 0, 1) := by decide +kernel
theorem dX3_isRecordValid_35 : decode cX3_isRecordValid 35 = .ok (.ireturn, 1) := by decide +kernel
set_option maxRecDepth 20000 in
theorem ggX3_recordInForce_X3_isRecordValid : GoodIn wsX3_recordInForce wsX3_isRecordValid := goodIn_r _ [5, 6, 7, 8, 4, 9, 10, 11, 12, 13, 14, 15, 16, 17, 18, 19, 20, 21, 22, 23] (by decide +kernel) (by decide +kernel)
set_option maxRecDepth 20000 in
theorem gX3_recordInForce_X3_isRecordValid : GoodIn wsX3_recordInForce (wsV RX3 54 RX3 yX3_isRecordValid wsX3_isRecordValid) := goodIn_app (goodIn_of _ (by decide +kernel)) ggX3_recordInForce_X3_isRecordValid
set_option maxRecDepth 20000 in
theorem ggX3_recordInForce_X3_recordWord : GoodIn wsX3_recordInForce wsX3_recordWord := goodIn_r _ [9, 10, 11, 12, 13, 14, 15, 16, 20, 21, 22, 23] (by decide +kernel) (by decide +kernel)
set_option maxRecDepth 20000 in
theorem gX3_recordInForce_X3_recordWord : GoodIn wsX3_recordInForce (wsV RX3 51 RX3 yX3_recordWord wsX3_recordWord) := goodIn_app (goodIn_of _ (by decide +kernel)) ggX3_recordInForce_X3_recordWord
theorem dX3_recordInForce_0 : decode cX3_recordInForce 0 = .ok (.aload_n 0, 1) := by decide +kernel
theorem dX3_recordInForce_1 : decode cX3_recordInForce 1 = .ok (.iconst 1, 1) := by decide +kernel
theorem dX3_recordInForce_2 : decode cX3_recordInForce 2 = .ok (.invokevirtual 54, 3) := by decide +kernel
theorem dX3_recordInForce_5 : decode cX3_recordInForce 5 = .ok (.ifCond .ne 5, 3) := by decide +kernel
theorem dX3_recordInForce_8 : decode cX3_recordInForce 8 = .ok (.iconst 0, 1) := by decide +kernel
theorem dX3_recordInForce_9 : decode cX3_recordInForce 9 = .ok (.ireturn, 1) := by decide +kernel
theorem dX3_recordInForce_10 : decode cX3_recordInForce 10 = .ok (.aload_n 0, 1) := by decide +kernel
theorem dX3_recordInForce_11 : decode cX3_recordInForce 11 = .ok (.iconst 0, 1) := by decide +kernel
theorem dX3_recordInForce_12 : decode cX3_recordInForce 12 = .ok (.invokevirtual 54, 3) := by decide +kernel
theorem dX3_recordInForce_15 : decode cX3_recordInForce 15 = .ok (.ifCond .ne 5, 3) := by decide +kernel
theorem dX3_recordInForce_18 : decode cX3_recordInForce 18 = .ok (.iconst 1, 1) := by decide +kernel
theorem dX3_recordInForce_19 : decode cX3_recordInForce 19 = .ok (.ireturn, 1) := by decide +kernel
theorem dX3_recordInForce_20 : decode cX3_recordInForce 20 = .ok (.aload_n 0, 1) := by decide +kernel
theorem dX3_recordInForce_21 : decode cX3_recordInForce 21 = .ok (.iconst 1, 1) := by decide +kernel
theorem dX3_recordInForce_22 : decode cX3_recordInForce 22 = .ok (.iconst 1, 1) := by decide +kernel
theorem dX3_recordInForce_23 : decode cX3_recordInForce 23 = .ok (.invokevirtual 51, 3) := by decide +kernel
theorem dX3_recordInForce_26 : decode cX3_recordInForce 26 = .ok (.aload_n 0, 1) := by decide +kernel
theorem dX3_recordInForce_27 : decode cX3_recordInForce 27 = .ok (.iconst 0, 1) := by decide +kernel
theorem dX3_recordInForce_28 : decode cX3_recordInForce 28 = .ok (.iconst 1, 1) := by decide +kernel
theorem dX3_recordInForce_29 : decode cX3_recordInForce 29 = .ok (.invokevirtual 51, 3) := by decide +kernel
theorem dX3_recordInForce_32 : decode cX3_recordInForce 32 = .ok (.if_icmp .le 7, 3) := by decide +kernel
theorem dX3_recordInForce_35 : decode cX3_recordInForce 35 = .ok (.iconst 1, 1) := by decide +kernel
theorem dX3_recordInForce_36 : decode cX3_recordInForce 36 = .ok (.goto 4, 3) := by decide +kernel
theorem dX3_recordInForce_39 : decode cX3_recordInForce 39 = .ok (.iconst 0, 1) := by decide +kernel
theorem dX3_recordInForce_40 : decode cX3_recordInForce 40 = .ok (.ireturn, 1) := by decide +kernel
set_option maxRecDepth 20000 in
theorem ggX3_recordCounter_X3_recordInForce : GoodIn wsX3_recordCounter wsX3_recordInForce := goodIn_r _ [5, 6, 7, 8, 4, 9, 10, 11, 12, 13, 14, 15, 16, 17, 18, 19, 20, 21, 22, 23, 24, 25, 26, 27] (by decide +kernel) (by decide +kernel)
set_option maxRecDepth 20000 in
theorem gX3_recordCounter_X3_recordInForce : GoodIn wsX3_recordCounter (wsV RX3 58 RX3 yX3_recordInForce wsX3_recordInForce) := goodIn_app (goodIn_of _ (by decide +kernel)) ggX3_recordCounter_X3_recordInForce
set_option maxRecDepth 20000 in
theorem ggX3_recordCounter_X3_recordWord : GoodIn wsX3_recordCounter wsX3_recordWord := goodIn_r _ [13, 14, 15, 16, 17, 18, 19, 20, 24, 25, 26, 27] (by decide +kernel) (by decide +kernel)
set_option maxRecDepth 20000 in
theorem gX3_recordCounter_X3_recordWord : GoodIn wsX3_recordCounter (wsV RX3 51 RX3 yX3_recordWord wsX3_recordWord) := goodIn_app (goodIn_of _ (by decide +kernel)) ggX3_recordCounter_X3_recordWord
theorem dX3_recordCounter_0 : decode cX3_recordCounter 0 = .ok (.aload_n 0, 1) := by decide +kernel
theorem dX3_recordCounter_1 : decode cX3_recordCounter 1 = .ok (.aload_n 0, 1) := by decide +kernel
theorem dX3_recordCounter_2 : decode cX3_recordCounter 2 = .ok (.invokevirtual 58, 3) := by decide +kernel
theorem dX3_recordCounter_5 : decode cX3_recordCounter 5 = .ok (.iconst 3, 1) := by decide +kernel
theorem dX3_recordCounter_6 : decode cX3_recordCounter 6 = .ok (.invokevirtual 51, 3) := by decide +kernel
theorem dX3_recordCounter_9 : decode cX3_recordCounter 9 = .ok (.ireturn, 1) := by decide +kernel
set_option maxRecDepth 20000 in
theorem ggX3_confirmedSlot_X3_recordInForce : GoodIn wsX3_confirmedSlot wsX3_recordInForce := goodIn_r _ [5, 6, 7, 8, 4, 9, 10, 11, 12, 13, 14, 15, 16, 17, 18, 19, 20, 21, 22, 23, 27, 28, 29, 30] (by decide +kernel) (by decide +kernel)
set_option maxRecDepth 20000 in
theorem gX3_confirmedSlot_X3_recordInForce : GoodIn wsX3_confirmedSlot (wsV RX3 58 RX3 yX3_recordInForce wsX3_recordInForce) := goodIn_app (goodIn_of _ (by decide +kernel)) ggX3_confirmedSlot_X3_recordInForce
set_option maxRecDepth 20000 in
theorem ggX3_confirmedSlot_X3_recordWord : GoodIn wsX3_confirmedSlot wsX3_recordWord := goodIn_r _ [13, 14, 15, 16, 17, 18, 19, 20, 27, 28, 29, 30] (by decide +kernel) (by decide +kernel)
set_option maxRecDepth 20000 in
theorem gX3_confirmedSlot_X3_recordWord : GoodIn wsX3_confirmedSlot (wsV RX3 51 RX3 yX3_recordWord wsX3_recordWord) := goodIn_app (goodIn_of _ (by decide +kernel)) ggX3_confirmedSlot_X3_recordWord
set_option maxRecDepth 20000 in
theorem ggX3_confirmedSlot_X3_confirmedIn : GoodIn wsX3_confirmedSlot wsX3_confirmedIn := goodIn_r _ [26] (by decide +kernel) (by decide +kernel)
set_option maxRecDepth 20000 in
theorem gX3_confirmedSlot_X3_confirmedIn : GoodIn wsX3_confirmedSlot (va_wsS RX3 62 yX3_confirmedIn wsX3_confirmedIn) := goodIn_app (goodIn_of _ (by decide +kernel)) ggX3_confirmedSlot_X3_confirmedIn
theorem dX3_confirmedSlot_0 : decode cX3_confirmedSlot 0 = .ok (.aload_n 0, 1) := by decide +kernel
theorem dX3_confirmedSlot_1 : decode cX3_confirmedSlot 1 = .ok (.aload_n 0, 1) := by decide +kernel
theorem dX3_confirmedSlot_2 : decode cX3_confirmedSlot 2 = .ok (.invokevirtual 58, 3) := by decide +kernel
theorem dX3_confirmedSlot_5 : decode cX3_confirmedSlot 5 = .ok (.iconst 2, 1) := by decide +kernel
theorem dX3_confirmedSlot_6 : decode cX3_confirmedSlot 6 = .ok (.invokevirtual 51, 3) := by decide +kernel
theorem dX3_confirmedSlot_9 : decode cX3_confirmedSlot 9 = .ok (.invokestatic 62, 3) := by decide +kernel
theorem dX3_confirmedSlot_12 : decode cX3_confirmedSlot 12 = .ok (.ireturn, 1) := by decide +kernel
set_option maxRecDepth 20000 in
theorem ggX3_isTrialDue_X3_recordInForce : GoodIn wsX3_isTrialDue wsX3_recordInForce := goodIn_r _ [5, 6, 7, 8, 4, 9, 10, 11, 12, 13, 14, 15, 16, 17, 18, 19, 20, 21, 22, 23, 27, 28, 29, 30] (by decide +kernel) (by decide +kernel)
set_option maxRecDepth 20000 in
theorem gX3_isTrialDue_X3_recordInForce : GoodIn wsX3_isTrialDue (wsV RX3 58 RX3 yX3_recordInForce wsX3_recordInForce) := goodIn_app (goodIn_of _ (by decide +kernel)) ggX3_isTrialDue_X3_recordInForce
set_option maxRecDepth 20000 in
theorem ggX3_isTrialDue_X3_recordWord : GoodIn wsX3_isTrialDue wsX3_recordWord := goodIn_r _ [13, 14, 15, 16, 17, 18, 19, 20, 27, 28, 29, 30] (by decide +kernel) (by decide +kernel)
set_option maxRecDepth 20000 in
theorem gX3_isTrialDue_X3_recordWord : GoodIn wsX3_isTrialDue (wsV RX3 51 RX3 yX3_recordWord wsX3_recordWord) := goodIn_app (goodIn_of _ (by decide +kernel)) ggX3_isTrialDue_X3_recordWord
set_option maxRecDepth 20000 in
theorem ggX3_isTrialDue_X3_isTrialIn : GoodIn wsX3_isTrialDue wsX3_isTrialIn := goodIn_r _ [26] (by decide +kernel) (by decide +kernel)
set_option maxRecDepth 20000 in
theorem gX3_isTrialDue_X3_isTrialIn : GoodIn wsX3_isTrialDue (va_wsS RX3 65 yX3_isTrialIn wsX3_isTrialIn) := goodIn_app (goodIn_of _ (by decide +kernel)) ggX3_isTrialDue_X3_isTrialIn
theorem dX3_isTrialDue_0 : decode cX3_isTrialDue 0 = .ok (.aload_n 0, 1) := by decide +kernel
theorem dX3_isTrialDue_1 : decode cX3_isTrialDue 1 = .ok (.aload_n 0, 1) := by decide +kernel
theorem dX3_isTrialDue_2 : decode cX3_isTrialDue 2 = .ok (.invokevirtual 58, 3) := by decide +kernel
theorem dX3_isTrialDue_5 : decode cX3_isTrialDue 5 = .ok (.iconst 2, 1) := by decide +kernel
theorem dX3_isTrialDue_6 : decode cX3_isTrialDue 6 = .ok (.invokevirtual 51, 3) := by decide +kernel
theorem dX3_isTrialDue_9 : decode cX3_isTrialDue 9 = .ok (.invokestatic 65, 3) := by decide +kernel
theorem dX3_isTrialDue_12 : decode cX3_isTrialDue 12 = .ok (.ireturn, 1) := by decide +kernel
set_option maxRecDepth 20000 in
theorem ggX3_triesLeft_X3_recordInForce : GoodIn wsX3_triesLeft wsX3_recordInForce := goodIn_r _ [5, 6, 7, 8, 4, 9, 10, 11, 12, 13, 14, 15, 16, 17, 18, 19, 20, 21, 22, 23, 30, 31, 32, 33] (by decide +kernel) (by decide +kernel)
set_option maxRecDepth 20000 in
theorem gX3_triesLeft_X3_recordInForce : GoodIn wsX3_triesLeft (wsV RX3 58 RX3 yX3_recordInForce wsX3_recordInForce) := goodIn_app (goodIn_of _ (by decide +kernel)) ggX3_triesLeft_X3_recordInForce
set_option maxRecDepth 20000 in
theorem ggX3_triesLeft_X3_recordWord : GoodIn wsX3_triesLeft wsX3_recordWord := goodIn_r _ [13, 14, 15, 16, 17, 18, 19, 20, 30, 31, 32, 33] (by decide +kernel) (by decide +kernel)
set_option maxRecDepth 20000 in
theorem gX3_triesLeft_X3_recordWord : GoodIn wsX3_triesLeft (wsV RX3 51 RX3 yX3_recordWord wsX3_recordWord) := goodIn_app (goodIn_of _ (by decide +kernel)) ggX3_triesLeft_X3_recordWord
set_option maxRecDepth 20000 in
theorem ggX3_triesLeft_X3_triesIn : GoodIn wsX3_triesLeft wsX3_triesIn := goodIn_r _ [26, 27, 28, 4, 29] (by decide +kernel) (by decide +kernel)
set_option maxRecDepth 20000 in
theorem gX3_triesLeft_X3_triesIn : GoodIn wsX3_triesLeft (va_wsS RX3 68 yX3_triesIn wsX3_triesIn) := goodIn_app (goodIn_of _ (by decide +kernel)) ggX3_triesLeft_X3_triesIn
theorem dX3_triesLeft_0 : decode cX3_triesLeft 0 = .ok (.aload_n 0, 1) := by decide +kernel
theorem dX3_triesLeft_1 : decode cX3_triesLeft 1 = .ok (.aload_n 0, 1) := by decide +kernel
theorem dX3_triesLeft_2 : decode cX3_triesLeft 2 = .ok (.invokevirtual 58, 3) := by decide +kernel
theorem dX3_triesLeft_5 : decode cX3_triesLeft 5 = .ok (.iconst 2, 1) := by decide +kernel
theorem dX3_triesLeft_6 : decode cX3_triesLeft 6 = .ok (.invokevirtual 51, 3) := by decide +kernel
theorem dX3_triesLeft_9 : decode cX3_triesLeft 9 = .ok (.invokestatic 68, 3) := by decide +kernel
theorem dX3_triesLeft_12 : decode cX3_triesLeft 12 = .ok (.ireturn, 1) := by decide +kernel
theorem dX3_confirmedIn_0 : decode cX3_confirmedIn 0 = .ok (.iload_n 0, 1) := by decide +kernel
theorem dX3_confirmedIn_1 : decode cX3_confirmedIn 1 = .ok (.iconst 1, 1) := by decide +kernel
theorem dX3_confirmedIn_2 : decode cX3_confirmedIn 2 = .ok (.iand, 1) := by decide +kernel
theorem dX3_confirmedIn_3 : decode cX3_confirmedIn 3 = .ok (.ireturn, 1) := by decide +kernel
theorem dX3_isTrialIn_0 : decode cX3_isTrialIn 0 = .ok (.iload_n 0, 1) := by decide +kernel
theorem dX3_isTrialIn_1 : decode cX3_isTrialIn 1 = .ok (.iconst 2, 1) := by decide +kernel
theorem dX3_isTrialIn_2 : decode cX3_isTrialIn 2 = .ok (.iand, 1) := by decide +kernel
theorem dX3_isTrialIn_3 : decode cX3_isTrialIn 3 = .ok (.ifCond .eq 7, 3) := by decide +kernel
theorem dX3_isTrialIn_6 : decode cX3_isTrialIn 6 = .ok (.iconst 1, 1) := by decide +kernel
theorem dX3_isTrialIn_7 : decode cX3_isTrialIn 7 = .ok (.goto 4, 3) := by decide +kernel
theorem dX3_isTrialIn_10 : decode cX3_isTrialIn 10 = .ok (.iconst 0, 1) := by decide +kernel
theorem dX3_isTrialIn_11 : decode cX3_isTrialIn 11 = .ok (.ireturn, 1) := by decide +kernel
set_option maxRecDepth 20000 in
theorem ggX3_triesIn_X3_isTrialIn : GoodIn wsX3_triesIn wsX3_isTrialIn := goodIn_r _ [4] (by decide +kernel) (by decide +kernel)
set_option maxRecDepth 20000 in
theorem gX3_triesIn_X3_isTrialIn : GoodIn wsX3_triesIn (va_wsS RX3 65 yX3_isTrialIn wsX3_isTrialIn) := goodIn_app (goodIn_of _ (by decide +kernel)) ggX3_triesIn_X3_isTrialIn
theorem dX3_triesIn_0 : decode cX3_triesIn 0 = .ok (.iload_n 0, 1) := by decide +kernel
theorem dX3_triesIn_1 : decode cX3_triesIn 1 = .ok (.invokestatic 65, 3) := by decide +kernel
theorem dX3_triesIn_4 : decode cX3_triesIn 4 = .ok (.ifCond .eq 9, 3) := by decide +kernel
theorem dX3_triesIn_7 : decode cX3_triesIn 7 = .ok (.iload_n 0, 1) := by decide +kernel
theorem dX3_triesIn_8 : decode cX3_triesIn 8 = .ok (.iconst 2, 1) := by decide +kernel
theorem dX3_triesIn_9 : decode cX3_triesIn 9 = .ok (.ishr, 1) := by decide +kernel
theorem dX3_triesIn_10 : decode cX3_triesIn 10 = .ok (.goto 4, 3) := by decide +kernel
theorem dX3_triesIn_13 : decode cX3_triesIn 13 = .ok (.iconst 0, 1) := by decide +kernel
theorem dX3_triesIn_14 : decode cX3_triesIn 14 = .ok (.ireturn, 1) := by decide +kernel
theorem dX3_settledState_0 : decode cX3_settledState 0 = .ok (.iload_n 0, 1) := by decide +kernel
theorem dX3_settledState_1 : decode cX3_settledState 1 = .ok (.ireturn, 1) := by decide +kernel
theorem dX3_trialState_0 : decode cX3_trialState 0 = .ok (.iload_n 0, 1) := by decide +kernel
theorem dX3_trialState_1 : decode cX3_trialState 1 = .ok (.iconst 2, 1) := by decide +kernel
theorem dX3_trialState_2 : decode cX3_trialState 2 = .ok (.iadd, 1) := by decide +kernel
theorem dX3_trialState_3 : decode cX3_trialState 3 = .ok (.iconst 4, 1) := by decide +kernel
theorem dX3_trialState_4 : decode cX3_trialState 4 = .ok (.iload_n 1, 1) := by decide +kernel
theorem dX3_trialState_5 : decode cX3_trialState 5 = .ok (.imul, 1) := by decide +kernel
theorem dX3_trialState_6 : decode cX3_trialState 6 = .ok (.iadd, 1) := by decide +kernel
theorem dX3_trialState_7 : decode cX3_trialState 7 = .ok (.ireturn, 1) := by decide +kernel
set_option maxRecDepth 20000 in
theorem ggX3_writeRecord_X3_recordInForce : GoodIn wsX3_writeRecord wsX3_recordInForce := goodIn_r _ [5, 6, 7, 8, 4, 9, 10, 11, 12, 13, 14, 15, 16, 17, 18, 19, 20, 21, 22, 23, 39, 40, 41, 42] (by decide +kernel) (by decide +kernel)
set_option maxRecDepth 20000 in
theorem gX3_writeRecord_X3_recordInForce : GoodIn wsX3_writeRecord (wsV RX3 58 RX3 yX3_recordInForce wsX3_recordInForce) := goodIn_app (goodIn_of _ (by decide +kernel)) ggX3_writeRecord_X3_recordInForce
set_option maxRecDepth 20000 in
theorem ggX3_writeRecord_X3_recordWord : GoodIn wsX3_writeRecord wsX3_recordWord := goodIn_r _ [13, 14, 15, 16, 17, 18, 19, 20, 39, 40, 41, 42] (by decide +kernel) (by decide +kernel)
set_option maxRecDepth 20000 in
theorem gX3_writeRecord_X3_recordWord : GoodIn wsX3_writeRecord (wsV RX3 51 RX3 yX3_recordWord wsX3_recordWord) := goodIn_app (goodIn_of _ (by decide +kernel)) ggX3_writeRecord_X3_recordWord
set_option maxRecDepth 20000 in
theorem ggX3_writeRecord_X3_writeRecordWord : GoodIn wsX3_writeRecord wsX3_writeRecordWord := goodIn_r _ [27, 14, 28, 29, 30, 18, 31, 32, 33, 34, 16, 17, 19, 20, 35, 36, 37, 38, 39, 40, 41, 42] (by decide +kernel) (by decide +kernel)
set_option maxRecDepth 20000 in
theorem gX3_writeRecord_X3_writeRecordWord : GoodIn wsX3_writeRecord (wsV RX3 71 RX3 yX3_writeRecordWord wsX3_writeRecordWord) := goodIn_app (goodIn_of _ (by decide +kernel)) ggX3_writeRecord_X3_writeRecordWord
set_option maxRecDepth 20000 in
theorem ggX3_writeRecord_X3_checkOf : GoodIn wsX3_writeRecord wsX3_checkOf := goodIn_r _ [23] (by decide +kernel) (by decide +kernel)
set_option maxRecDepth 20000 in
theorem gX3_writeRecord_X3_checkOf : GoodIn wsX3_writeRecord (va_wsS RX3 26 yX3_checkOf wsX3_checkOf) := goodIn_app (goodIn_of _ (by decide +kernel)) ggX3_writeRecord_X3_checkOf
theorem dX3_writeRecord_0 : decode cX3_writeRecord 0 = .ok (.aload_n 0, 1) := by decide +kernel
theorem dX3_writeRecord_1 : decode cX3_writeRecord 1 = .ok (.invokevirtual 58, 3) := by decide +kernel
theorem dX3_writeRecord_4 : decode cX3_writeRecord 4 = .ok (.istore_n 3, 1) := by decide +kernel
theorem dX3_writeRecord_5 : decode cX3_writeRecord 5 = .ok (.iconst 1, 1) := by decide +kernel
theorem dX3_writeRecord_6 : decode cX3_writeRecord 6 = .ok (.iload_n 3, 1) := by decide +kernel
theorem dX3_writeRecord_7 : decode cX3_writeRecord 7 = .ok (.isub, 1) := by decide +kernel
theorem dX3_writeRecord_8 : decode cX3_writeRecord 8 = .ok (.istore 4, 2) := by decide +kernel
theorem dX3_writeRecord_10 : decode cX3_writeRecord 10 = .ok (.aload_n 0, 1) := by decide +kernel
theorem dX3_writeRecord_11 : decode cX3_writeRecord 11 = .ok (.iload_n 3, 1) := by decide +kernel
theorem dX3_writeRecord_12 : decode cX3_writeRecord 12 = .ok (.iconst 1, 1) := by decide +kernel
theorem dX3_writeRecord_13 : decode cX3_writeRecord 13 = .ok (.invokevirtual 51, 3) := by decide +kernel
theorem dX3_writeRecord_16 : decode cX3_writeRecord 16 = .ok (.iconst 1, 1) := by decide +kernel
theorem dX3_writeRecord_17 : decode cX3_writeRecord 17 = .ok (.iadd, 1) := by decide +kernel
theorem dX3_writeRecord_18 : decode cX3_writeRecord 18 = .ok (.istore 5, 2) := by decide +kernel
theorem dX3_writeRecord_20 : decode cX3_writeRecord 20 = .ok (.aload_n 0, 1) := by decide +kernel
theorem dX3_writeRecord_21 : decode cX3_writeRecord 21 = .ok (.iload 4, 2) := by decide +kernel
theorem dX3_writeRecord_23 : decode cX3_writeRecord 23 = .ok (.iconst 0, 1) := by decide +kernel
theorem dX3_writeRecord_24 : decode cX3_writeRecord 24 = .ok (.iconst 0, 1) := by decide +kernel
theorem dX3_writeRecord_25 : decode cX3_writeRecord 25 = .ok (.invokevirtual 71, 3) := by decide +kernel
theorem dX3_writeRecord_28 : decode cX3_writeRecord 28 = .ok (.ifCond .eq 58, 3) := by decide +kernel
theorem dX3_writeRecord_31 : decode cX3_writeRecord 31 = .ok (.aload_n 0, 1) := by decide +kernel
theorem dX3_writeRecord_32 : decode cX3_writeRecord 32 = .ok (.iload 4, 2) := by decide +kernel
theorem dX3_writeRecord_34 : decode cX3_writeRecord 34 = .ok (.iconst 1, 1) := by decide +kernel
theorem dX3_writeRecord_35 : decode cX3_writeRecord 35 = .ok (.iload 5, 2) := by decide +kernel
theorem dX3_writeRecord_37 : decode cX3_writeRecord 37 = .ok (.invokevirtual 71, 3) := by decide +kernel
theorem dX3_writeRecord_40 : decode cX3_writeRecord 40 = .ok (.ifCond .eq 46, 3) := by decide +kernel
theorem dX3_writeRecord_43 : decode cX3_writeRecord 43 = .ok (.aload_n 0, 1) := by decide +kernel
theorem dX3_writeRecord_44 : decode cX3_writeRecord 44 = .ok (.iload 4, 2) := by decide +kernel
theorem dX3_writeRecord_46 : decode cX3_writeRecord 46 = .ok (.iconst 2, 1) := by decide +kernel
theorem dX3_writeRecord_47 : decode cX3_writeRecord 47 = .ok (.iload_n 1, 1) := by decide +kernel
theorem dX3_writeRecord_48 : decode cX3_writeRecord 48 = .ok (.invokevirtual 71, 3) := by decide +kernel
theorem dX3_writeRecord_51 : decode cX3_writeRecord 51 = .ok (.ifCond .eq 35, 3) := by decide +kernel
theorem dX3_writeRecord_54 : decode cX3_writeRecord 54 = .ok (.aload_n 0, 1) := by decide +kernel
theorem dX3_writeRecord_55 : decode cX3_writeRecord 55 = .ok (.iload 4, 2) := by decide +kernel
theorem dX3_writeRecord_57 : decode cX3_writeRecord 57 = .ok (.iconst 3, 1) := by decide +kernel
theorem dX3_writeRecord_58 : decode cX3_writeRecord 58 = .ok (.iload_n 2, 1) := by decide +kernel
theorem dX3_writeRecord_59 : decode cX3_writeRecord 59 = .ok (.invokevirtual 71, 3) := by decide +kernel
theorem dX3_writeRecord_62 : decode cX3_writeRecord 62 = .ok (.ifCond .eq 24, 3) := by decide +kernel
theorem dX3_writeRecord_65 : decode cX3_writeRecord 65 = .ok (.aload_n 0, 1) := by decide +kernel
theorem dX3_writeRecord_66 : decode cX3_writeRecord 66 = .ok (.iload 4, 2) := by decide +kernel
theorem dX3_writeRecord_68 : decode cX3_writeRecord 68 = .ok (.iconst 0, 1) := by decide +kernel
theorem dX3_writeRecord_69 : decode cX3_writeRecord 69 = .ok (.iload 5, 2) := by decide +kernel
theorem dX3_writeRecord_71 : decode cX3_writeRecord 71 = .ok (.iload_n 1, 1) := by decide +kernel
theorem dX3_writeRecord_72 : decode cX3_writeRecord 72 = .ok (.iload_n 2, 1) := by decide +kernel
theorem dX3_writeRecord_73 : decode cX3_writeRecord 73 = .ok (.invokestatic 26, 3) := by decide +kernel
theorem dX3_writeRecord_76 : decode cX3_writeRecord 76 = .ok (.invokevirtual 71, 3) := by decide +kernel
theorem dX3_writeRecord_79 : decode cX3_writeRecord 79 = .ok (.ifCond .eq 7, 3) := by decide +kernel
theorem dX3_writeRecord_82 : decode cX3_writeRecord 82 = .ok (.iconst 1, 1) := by decide +kernel
theorem dX3_writeRecord_83 : decode cX3_writeRecord 83 = .ok (.goto 4, 3) := by decide +kernel
theorem dX3_writeRecord_86 : decode cX3_writeRecord 86 = .ok (.iconst 0, 1) := by decide +kernel
theorem dX3_writeRecord_87 : decode cX3_writeRecord 87 = .ok (.ireturn, 1) := by decide +kernel
set_option maxRecDepth 20000 in
theorem ggX3_slotToStart_X3_recordInForce : GoodIn wsX3_slotToStart wsX3_recordInForce := goodIn_r _ [5, 6, 7, 8, 4, 9, 10, 11, 12, 13, 14, 15, 16, 17, 18, 19, 20, 21, 22, 23, 53, 54, 55, 56] (by decide +kernel) (by decide +kernel)
set_option maxRecDepth 20000 in
theorem gX3_slotToStart_X3_recordInForce : GoodIn wsX3_slotToStart (wsV RX3 58 RX3 yX3_recordInForce wsX3_recordInForce) := goodIn_app (goodIn_of _ (by decide +kernel)) ggX3_slotToStart_X3_recordInForce
set_option maxRecDepth 20000 in
theorem ggX3_slotToStart_X3_recordWord : GoodIn wsX3_slotToStart wsX3_recordWord := goodIn_r _ [13, 14, 15, 16, 17, 18, 19, 20, 53, 54, 55, 56] (by decide +kernel) (by decide +kernel)
set_option maxRecDepth 20000 in
theorem gX3_slotToStart_X3_recordWord : GoodIn wsX3_slotToStart (wsV RX3 51 RX3 yX3_recordWord wsX3_recordWord) := goodIn_app (goodIn_of _ (by decide +kernel)) ggX3_slotToStart_X3_recordWord
set_option maxRecDepth 20000 in
theorem ggX3_slotToStart_X3_confirmedIn : GoodIn wsX3_slotToStart wsX3_confirmedIn := goodIn_r _ [26] (by decide +kernel) (by decide +kernel)
set_option maxRecDepth 20000 in
theorem gX3_slotToStart_X3_confirmedIn : GoodIn wsX3_slotToStart (va_wsS RX3 62 yX3_confirmedIn wsX3_confirmedIn) := goodIn_app (goodIn_of _ (by decide +kernel)) ggX3_slotToStart_X3_confirmedIn
set_option maxRecDepth 20000 in
theorem ggX3_slotToStart_X3_triesIn : GoodIn wsX3_slotToStart wsX3_triesIn := goodIn_r _ [29, 30, 31, 4, 32] (by decide +kernel) (by decide +kernel)
set_option maxRecDepth 20000 in
theorem gX3_slotToStart_X3_triesIn : GoodIn wsX3_slotToStart (va_wsS RX3 68 yX3_triesIn wsX3_triesIn) := goodIn_app (goodIn_of _ (by decide +kernel)) ggX3_slotToStart_X3_triesIn
set_option maxRecDepth 20000 in
theorem ggX3_slotToStart_X3_canStart : GoodIn wsX3_slotToStart wsX3_canStart := goodIn_r _ [36, 37, 38, 39, 4, 40, 14, 15, 16, 17, 18, 19, 20, 41, 42, 43, 44, 45, 46, 47, 48, 49, 50, 51, 52, 53, 54, 55, 56] (by decide +kernel) (by decide +kernel)
set_option maxRecDepth 20000 in
theorem gX3_slotToStart_X3_canStart : GoodIn wsX3_slotToStart (wsV RX3 75 RX3 yX3_canStart wsX3_canStart) := goodIn_app (goodIn_of _ (by decide +kernel)) ggX3_slotToStart_X3_canStart
set_option maxRecDepth 20000 in
theorem ggX3_slotToStart_X3_slotWord : GoodIn wsX3_slotToStart wsX3_slotWord := goodIn_r _ [40, 14, 15, 16, 17, 18, 19, 20, 53, 54, 55, 56] (by decide +kernel) (by decide +kernel)
set_option maxRecDepth 20000 in
theorem gX3_slotToStart_X3_slotWord : GoodIn wsX3_slotToStart (wsV RX3 48 RX3 yX3_slotWord wsX3_slotWord) := goodIn_app (goodIn_of _ (by decide +kernel)) ggX3_slotToStart_X3_slotWord
theorem dX3_slotToStart_0 : decode cX3_slotToStart 0 = .ok (.aload_n 0, 1) := by decide +kernel
theorem dX3_slotToStart_1 : decode cX3_slotToStart 1 = .ok (.invokevirtual 58, 3) := by decide +kernel
theorem dX3_slotToStart_4 : decode cX3_slotToStart 4 = .ok (.istore_n 1, 1) := by decide +kernel
theorem dX3_slotToStart_5 : decode cX3_slotToStart 5 = .ok (.aload_n 0, 1) := by decide +kernel
theorem dX3_slotToStart_6 : decode cX3_slotToStart 6 = .ok (.iload_n 1, 1) := by decide +kernel
theorem dX3_slotToStart_7 : decode cX3_slotToStart 7 = .ok (.iconst 2, 1) := by decide +kernel
theorem dX3_slotToStart_8 : decode cX3_slotToStart 8 = .ok (.invokevirtual 51, 3) := by decide +kernel
theorem dX3_slotToStart_11 : decode cX3_slotToStart 11 = .ok (.istore_n 2, 1) := by decide +kernel
theorem dX3_slotToStart_12 : decode cX3_slotToStart 12 = .ok (.iload_n 2, 1) := by decide +kernel
theorem dX3_slotToStart_13 : decode cX3_slotToStart 13 = .ok (.invokestatic 62, 3) := by decide +kernel
theorem dX3_slotToStart_16 : decode cX3_slotToStart 16 = .ok (.istore_n 3, 1) := by decide +kernel
theorem dX3_slotToStart_17 : decode cX3_slotToStart 17 = .ok (.iconst 1, 1) := by decide +kernel
theorem dX3_slotToStart_18 : decode cX3_slotToStart 18 = .ok (.iload_n 3, 1) := by decide +kernel
theorem dX3_slotToStart_19 : decode cX3_slotToStart 19 = .ok (.isub, 1) := by decide +kernel
theorem dX3_slotToStart_20 : decode cX3_slotToStart 20 = .ok (.istore 4, 2) := by decide +kernel
theorem dX3_slotToStart_22 : decode cX3_slotToStart 22 = .ok (.iload_n 2, 1) := by decide +kernel
theorem dX3_slotToStart_23 : decode cX3_slotToStart 23 = .ok (.invokestatic 68, 3) := by decide +kernel
theorem dX3_slotToStart_26 : decode cX3_slotToStart 26 = .ok (.ifCond .le 32, 3) := by decide +kernel
theorem dX3_slotToStart_29 : decode cX3_slotToStart 29 = .ok (.aload_n 0, 1) := by decide +kernel
theorem dX3_slotToStart_30 : decode cX3_slotToStart 30 = .ok (.iload 4, 2) := by decide +kernel
theorem dX3_slotToStart_32 : decode cX3_slotToStart 32 = .ok (.invokevirtual 75, 3) := by decide +kernel
theorem dX3_slotToStart_35 : decode cX3_slotToStart 35 = .ok (.ifCond .eq 23, 3) := by decide +kernel
theorem dX3_slotToStart_38 : decode cX3_slotToStart 38 = .ok (.aload_n 0, 1) := by decide +kernel
theorem dX3_slotToStart_39 : decode cX3_slotToStart 39 = .ok (.iload 4, 2) := by decide +kernel
theorem dX3_slotToStart_41 : decode cX3_slotToStart 41 = .ok (.iconst 4, 1) := by decide +kernel
theorem dX3_slotToStart_42 : decode cX3_slotToStart 42 = .ok (.invokevirtual 48, 3) := by decide +kernel
theorem dX3_slotToStart_45 : decode cX3_slotToStart 45 = .ok (.aload_n 0, 1) := by decide +kernel
theorem dX3_slotToStart_46 : decode cX3_slotToStart 46 = .ok (.iload_n 1, 1) := by decide +kernel
theorem dX3_slotToStart_47 : decode cX3_slotToStart 47 = .ok (.iconst 3, 1) := by decide +kernel
theorem dX3_slotToStart_48 : decode cX3_slotToStart 48 = .ok (.invokevirtual 51, 3) := by decide +kernel
theorem dX3_slotToStart_51 : decode cX3_slotToStart 51 = .ok (.if_icmp .lt 7, 3) := by decide +kernel
theorem dX3_slotToStart_54 : decode cX3_slotToStart 54 = .ok (.iconst 1, 1) := by decide +kernel
theorem dX3_slotToStart_55 : decode cX3_slotToStart 55 = .ok (.goto 4, 3) := by decide +kernel
theorem dX3_slotToStart_58 : decode cX3_slotToStart 58 = .ok (.iconst 0, 1) := by decide +kernel
theorem dX3_slotToStart_59 : decode cX3_slotToStart 59 = .ok (.istore 5, 2) := by decide +kernel
theorem dX3_slotToStart_61 : decode cX3_slotToStart 61 = .ok (.iload 5, 2) := by decide +kernel
theorem dX3_slotToStart_63 : decode cX3_slotToStart 63 = .ok (.ifCond .eq 8, 3) := by decide +kernel
theorem dX3_slotToStart_66 : decode cX3_slotToStart 66 = .ok (.iload 4, 2) := by decide +kernel
theorem dX3_slotToStart_68 : decode cX3_slotToStart 68 = .ok (.goto 4, 3) := by decide +kernel
theorem dX3_slotToStart_71 : decode cX3_slotToStart 71 = .ok (.iload_n 3, 1) := by decide +kernel
theorem dX3_slotToStart_72 : decode cX3_slotToStart 72 = .ok (.ireturn, 1) := by decide +kernel
set_option maxRecDepth 20000 in
theorem ggX3_start_X3_slotToStart : GoodIn wsX3_start wsX3_slotToStart := goodIn_r _ [5, 6, 7, 8, 4, 9, 10, 11, 12, 13, 14, 15, 16, 17, 18, 19, 20, 21, 22, 23, 24, 25, 26, 27, 28, 29, 30, 31, 32, 33, 34, 35, 36, 37, 38, 39, 40, 41, 42, 43, 44, 45, 46, 47, 48, 49, 50, 51, 52, 53, 54, 55, 56, 98, 99, 100, 101] (by decide +kernel) (by decide +kernel)
set_option maxRecDepth 20000 in
theorem gX3_start_X3_slotToStart : GoodIn wsX3_start (wsV RX3 78 RX3 yX3_slotToStart wsX3_slotToStart) := goodIn_app (goodIn_of _ (by decide +kernel)) ggX3_start_X3_slotToStart
set_option maxRecDepth 20000 in
theorem ggX3_start_X3_isTrialDue : GoodIn wsX3_start wsX3_isTrialDue := goodIn_r _ [60, 6, 7, 8, 4, 9, 10, 11, 12, 13, 14, 15, 16, 17, 18, 19, 20, 21, 22, 23, 24, 25, 26, 27, 34, 35, 36, 98, 99, 100, 101] (by decide +kernel) (by decide +kernel)
set_option maxRecDepth 20000 in
theorem gX3_start_X3_isTrialDue : GoodIn wsX3_start (wsV RX3 81 RX3 yX3_isTrialDue wsX3_isTrialDue) := goodIn_app (goodIn_of _ (by decide +kernel)) ggX3_start_X3_isTrialDue
set_option maxRecDepth 20000 in
theorem ggX3_start_X3_confirmedSlot : GoodIn wsX3_start wsX3_confirmedSlot := goodIn_r _ [64, 6, 7, 8, 4, 9, 10, 11, 12, 13, 14, 15, 16, 17, 18, 19, 20, 21, 22, 23, 24, 25, 26, 27, 28, 29, 30, 98, 99, 100, 101] (by decide +kernel) (by decide +kernel)
set_option maxRecDepth 20000 in
theorem gX3_start_X3_confirmedSlot : GoodIn wsX3_start (wsV RX3 85 RX3 yX3_confirmedSlot wsX3_confirmedSlot) := goodIn_app (goodIn_of _ (by decide +kernel)) ggX3_start_X3_confirmedSlot
set_option maxRecDepth 20000 in
theorem ggX3_start_X3_settledState : GoodIn wsX3_start wsX3_settledState := goodIn_r _ [67] (by decide +kernel) (by decide +kernel)
set_option maxRecDepth 20000 in
theorem gX3_start_X3_settledState : GoodIn wsX3_start (va_wsS RX3 88 yX3_settledState wsX3_settledState) := goodIn_app (goodIn_of _ (by decide +kernel)) ggX3_start_X3_settledState
set_option maxRecDepth 20000 in
theorem ggX3_start_X3_triesLeft : GoodIn wsX3_start wsX3_triesLeft := goodIn_r _ [71, 6, 7, 8, 4, 9, 10, 11, 12, 13, 14, 15, 16, 17, 18, 19, 20, 21, 22, 23, 24, 25, 26, 27, 31, 32, 33, 34, 35, 36, 98, 99, 100, 101] (by decide +kernel) (by decide +kernel)
set_option maxRecDepth 20000 in
theorem gX3_start_X3_triesLeft : GoodIn wsX3_start (wsV RX3 91 RX3 yX3_triesLeft wsX3_triesLeft) := goodIn_app (goodIn_of _ (by decide +kernel)) ggX3_start_X3_triesLeft
set_option maxRecDepth 20000 in
theorem ggX3_start_X3_trialState : GoodIn wsX3_start wsX3_trialState := goodIn_r _ [74] (by decide +kernel) (by decide +kernel)
set_option maxRecDepth 20000 in
theorem gX3_start_X3_trialState : GoodIn wsX3_start (va_wsS RX3 94 yX3_trialState wsX3_trialState) := goodIn_app (goodIn_of _ (by decide +kernel)) ggX3_start_X3_trialState
set_option maxRecDepth 20000 in
theorem ggX3_start_X3_recordCounter : GoodIn wsX3_start wsX3_recordCounter := goodIn_r _ [78, 6, 7, 8, 4, 9, 10, 11, 12, 13, 14, 15, 16, 17, 18, 19, 20, 21, 22, 23, 24, 25, 26, 27, 98, 99, 100, 101] (by decide +kernel) (by decide +kernel)
set_option maxRecDepth 20000 in
theorem gX3_start_X3_recordCounter : GoodIn wsX3_start (wsV RX3 97 RX3 yX3_recordCounter wsX3_recordCounter) := goodIn_app (goodIn_of _ (by decide +kernel)) ggX3_start_X3_recordCounter
set_option maxRecDepth 20000 in
theorem ggX3_start_X3_writeRecord : GoodIn wsX3_start wsX3_writeRecord := goodIn_r _ [82, 6, 7, 8, 4, 9, 10, 11, 12, 13, 14, 15, 16, 17, 18, 19, 20, 21, 22, 23, 24, 25, 26, 27, 83, 84, 85, 86, 87, 88, 89, 90, 91, 92, 93, 94, 95, 96, 97, 98, 99, 100, 101] (by decide +kernel) (by decide +kernel)
set_option maxRecDepth 20000 in
theorem gX3_start_X3_writeRecord : GoodIn wsX3_start (wsV RX3 100 RX3 yX3_writeRecord wsX3_writeRecord) := goodIn_app (goodIn_of _ (by decide +kernel)) ggX3_start_X3_writeRecord
theorem dX3_start_0 : decode cX3_start 0 = .ok (.aload_n 0, 1) := by decide +kernel
theorem dX3_start_1 : decode cX3_start 1 = .ok (.invokevirtual 78, 3) := by decide +kernel
theorem dX3_start_4 : decode cX3_start 4 = .ok (.istore_n 1, 1) := by decide +kernel
theorem dX3_start_5 : decode cX3_start 5 = .ok (.aload_n 0, 1) := by decide +kernel
theorem dX3_start_6 : decode cX3_start 6 = .ok (.invokevirtual 81, 3) := by decide +kernel
theorem dX3_start_9 : decode cX3_start 9 = .ok (.ifCond .ne 5, 3) := by decide +kernel
theorem dX3_start_12 : decode cX3_start 12 = .ok (.iload_n 1, 1) := by decide +kernel
theorem dX3_start_13 : decode cX3_start 13 = .ok (.ireturn, 1) := by decide +kernel
theorem dX3_start_14 : decode cX3_start 14 = .ok (.aload_n 0, 1) := by decide +kernel
theorem dX3_start_15 : decode cX3_start 15 = .ok (.invokevirtual 85, 3) := by decide +kernel
theorem dX3_start_18 : decode cX3_start 18 = .ok (.istore_n 2, 1) := by decide +kernel
theorem dX3_start_19 : decode cX3_start 19 = .ok (.iload_n 1, 1) := by decide +kernel
theorem dX3_start_20 : decode cX3_start 20 = .ok (.iload_n 2, 1) := by decide +kernel
theorem dX3_start_21 : decode cX3_start 21 = .ok (.if_icmp .ne 10, 3) := by decide +kernel
theorem dX3_start_24 : decode cX3_start 24 = .ok (.iload_n 2, 1) := by decide +kernel
theorem dX3_start_25 : decode cX3_start 25 = .ok (.invokestatic 88, 3) := by decide +kernel
theorem dX3_start_28 : decode cX3_start 28 = .ok (.goto 13, 3) := by decide +kernel
theorem dX3_start_31 : decode cX3_start 31 = .ok (.iload_n 2, 1) := by decide +kernel
theorem dX3_start_32 : decode cX3_start 32 = .ok (.aload_n 0, 1) := by decide +kernel
theorem dX3_start_33 : decode cX3_start 33 = .ok (.invokevirtual 91, 3) := by decide +kernel
theorem dX3_start_36 : decode cX3_start 36 = .ok (.iconst 1, 1) := by decide +kernel
theorem dX3_start_37 : decode cX3_start 37 = .ok (.isub, 1) := by decide +kernel
theorem dX3_start_38 : decode cX3_start 38 = .ok (.invokestatic 94, 3) := by decide +kernel
theorem dX3_start_41 : decode cX3_start 41 = .ok (.istore_n 3, 1) := by decide +kernel
theorem dX3_start_42 : decode cX3_start 42 = .ok (.aload_n 0, 1) := by decide +kernel
theorem dX3_start_43 : decode cX3_start 43 = .ok (.iload_n 3, 1) := by decide +kernel
theorem dX3_start_44 : decode cX3_start 44 = .ok (.aload_n 0, 1) := by decide +kernel
theorem dX3_start_45 : decode cX3_start 45 = .ok (.invokevirtual 97, 3) := by decide +kernel
theorem dX3_start_48 : decode cX3_start 48 = .ok (.invokevirtual 100, 3) := by decide +kernel
theorem dX3_start_51 : decode cX3_start 51 = .ok (.ifCond .eq 7, 3) := by decide +kernel
theorem dX3_start_54 : decode cX3_start 54 = .ok (.iload_n 1, 1) := by decide +kernel
theorem dX3_start_55 : decode cX3_start 55 = .ok (.goto 4, 3) := by decide +kernel
theorem dX3_start_58 : decode cX3_start 58 = .ok (.iconst (-1), 1) := by decide +kernel
theorem dX3_start_59 : decode cX3_start 59 = .ok (.ireturn, 1) := by decide +kernel
set_option maxRecDepth 20000 in
theorem ggX3_writeUpdate_X3_writeSlotWord : GoodIn wsX3_writeUpdate wsX3_writeSlotWord := goodIn_r _ [9, 10, 11, 12, 13, 14, 15, 16, 17, 18, 19, 20, 21, 22, 23, 24, 25, 26, 71, 72, 73, 74] (by decide +kernel) (by decide +kernel)
set_option maxRecDepth 20000 in
theorem gX3_writeUpdate_X3_writeSlotWord : GoodIn wsX3_writeUpdate (wsV RX3 109 RX3 yX3_writeSlotWord wsX3_writeSlotWord) := goodIn_app (goodIn_of _ (by decide +kernel)) ggX3_writeUpdate_X3_writeSlotWord
set_option maxRecDepth 20000 in
theorem ggX3_writeUpdate_X3_confirmedSlot : GoodIn wsX3_writeUpdate wsX3_confirmedSlot := goodIn_r _ [30, 31, 32, 33, 8, 34, 35, 36, 37, 38, 39, 40, 41, 42, 10, 43, 19, 20, 14, 21, 22, 44, 45, 46, 47, 48, 49, 71, 72, 73, 74] (by decide +kernel) (by decide +kernel)
set_option maxRecDepth 20000 in
theorem gX3_writeUpdate_X3_confirmedSlot : GoodIn wsX3_writeUpdate (wsV RX3 85 RX3 yX3_confirmedSlot wsX3_confirmedSlot) := goodIn_app (goodIn_of _ (by decide +kernel)) ggX3_writeUpdate_X3_confirmedSlot
set_option maxRecDepth 20000 in
theorem ggX3_writeUpdate_X3_trialState : GoodIn wsX3_writeUpdate wsX3_trialState := goodIn_r _ [52] (by decide +kernel) (by decide +kernel)
set_option maxRecDepth 20000 in
theorem gX3_writeUpdate_X3_trialState : GoodIn wsX3_writeUpdate (va_wsS RX3 94 yX3_trialState wsX3_trialState) := goodIn_app (goodIn_of _ (by decide +kernel)) ggX3_writeUpdate_X3_trialState
set_option maxRecDepth 20000 in
theorem ggX3_writeUpdate_X3_recordCounter : GoodIn wsX3_writeUpdate wsX3_recordCounter := goodIn_r _ [56, 31, 32, 33, 8, 34, 35, 36, 37, 38, 39, 40, 41, 42, 10, 43, 19, 20, 14, 21, 22, 44, 45, 46, 71, 72, 73, 74] (by decide +kernel) (by decide +kernel)
set_option maxRecDepth 20000 in
theorem gX3_writeUpdate_X3_recordCounter : GoodIn wsX3_writeUpdate (wsV RX3 97 RX3 yX3_recordCounter wsX3_recordCounter) := goodIn_app (goodIn_of _ (by decide +kernel)) ggX3_writeUpdate_X3_recordCounter
set_option maxRecDepth 20000 in
theorem ggX3_writeUpdate_X3_writeRecord : GoodIn wsX3_writeUpdate wsX3_writeRecord := goodIn_r _ [60, 31, 32, 33, 8, 34, 35, 36, 37, 38, 39, 40, 41, 42, 10, 43, 19, 20, 14, 21, 22, 44, 45, 46, 61, 62, 63, 64, 11, 12, 13, 15, 16, 17, 18, 23, 24, 25, 26, 71, 72, 73, 74] (by decide +kernel) (by decide +kernel)
set_option maxRecDepth 20000 in
theorem gX3_writeUpdate_X3_writeRecord : GoodIn wsX3_writeUpdate (wsV RX3 100 RX3 yX3_writeRecord wsX3_writeRecord) := goodIn_app (goodIn_of _ (by decide +kernel)) ggX3_writeUpdate_X3_writeRecord
theorem dX3_writeUpdate_0 : decode cX3_writeUpdate 0 = .ok (.aload_n 0, 1) := by decide +kernel
theorem dX3_writeUpdate_1 : decode cX3_writeUpdate 1 = .ok (.iload_n 1, 1) := by decide +kernel
theorem dX3_writeUpdate_2 : decode cX3_writeUpdate 2 = .ok (.iconst 1, 1) := by decide +kernel
theorem dX3_writeUpdate_3 : decode cX3_writeUpdate 3 = .ok (.aload_n 2, 1) := by decide +kernel
theorem dX3_writeUpdate_4 : decode cX3_writeUpdate 4 = .ok (.getfield 103, 3) := by decide +kernel
theorem dX3_writeUpdate_7 : decode cX3_writeUpdate 7 = .ok (.invokevirtual 109, 3) := by decide +kernel
theorem dX3_writeUpdate_10 : decode cX3_writeUpdate 10 = .ok (.ifCond .eq 75, 3) := by decide +kernel
theorem dX3_writeUpdate_13 : decode cX3_writeUpdate 13 = .ok (.aload_n 0, 1) := by decide +kernel
theorem dX3_writeUpdate_14 : decode cX3_writeUpdate 14 = .ok (.iload_n 1, 1) := by decide +kernel
theorem dX3_writeUpdate_15 : decode cX3_writeUpdate 15 = .ok (.iconst 2, 1) := by decide +kernel
theorem dX3_writeUpdate_16 : decode cX3_writeUpdate 16 = .ok (.aload_n 2, 1) := by decide +kernel
theorem dX3_writeUpdate_17 : decode cX3_writeUpdate 17 = .ok (.getfield 112, 3) := by decide +kernel
theorem dX3_writeUpdate_20 : decode cX3_writeUpdate 20 = .ok (.invokevirtual 109, 3) := by decide +kernel
theorem dX3_writeUpdate_23 : decode cX3_writeUpdate 23 = .ok (.ifCond .eq 62, 3) := by decide +kernel
theorem dX3_writeUpdate_26 : decode cX3_writeUpdate 26 = .ok (.aload_n 0, 1) := by decide +kernel
theorem dX3_writeUpdate_27 : decode cX3_writeUpdate 27 = .ok (.iload_n 1, 1) := by decide +kernel
theorem dX3_writeUpdate_28 : decode cX3_writeUpdate 28 = .ok (.iconst 3, 1) := by decide +kernel
theorem dX3_writeUpdate_29 : decode cX3_writeUpdate 29 = .ok (.aload_n 2, 1) := by decide +kernel
theorem dX3_writeUpdate_30 : decode cX3_writeUpdate 30 = .ok (.getfield 115, 3) := by decide +kernel
theorem dX3_writeUpdate_33 : decode cX3_writeUpdate 33 = .ok (.invokevirtual 109, 3) := by decide +kernel
theorem dX3_writeUpdate_36 : decode cX3_writeUpdate 36 = .ok (.ifCond .eq 49, 3) := by decide +kernel
theorem dX3_writeUpdate_39 : decode cX3_writeUpdate 39 = .ok (.aload_n 0, 1) := by decide +kernel
theorem dX3_writeUpdate_40 : decode cX3_writeUpdate 40 = .ok (.iload_n 1, 1) := by decide +kernel
theorem dX3_writeUpdate_41 : decode cX3_writeUpdate 41 = .ok (.iconst 4, 1) := by decide +kernel
theorem dX3_writeUpdate_42 : decode cX3_writeUpdate 42 = .ok (.aload_n 2, 1) := by decide +kernel
theorem dX3_writeUpdate_43 : decode cX3_writeUpdate 43 = .ok (.getfield 118, 3) := by decide +kernel
theorem dX3_writeUpdate_46 : decode cX3_writeUpdate 46 = .ok (.invokevirtual 109, 3) := by decide +kernel
theorem dX3_writeUpdate_49 : decode cX3_writeUpdate 49 = .ok (.ifCond .eq 36, 3) := by decide +kernel
theorem dX3_writeUpdate_52 : decode cX3_writeUpdate 52 = .ok (.aload_n 0, 1) := by decide +kernel
theorem dX3_writeUpdate_53 : decode cX3_writeUpdate 53 = .ok (.iload_n 1, 1) := by decide +kernel
theorem dX3_writeUpdate_54 : decode cX3_writeUpdate 54 = .ok (.iconst 0, 1) := by decide +kernel
theorem dX3_writeUpdate_55 : decode cX3_writeUpdate 55 = .ok (.iconst 1, 1) := by decide +kernel
theorem dX3_writeUpdate_56 : decode cX3_writeUpdate 56 = .ok (.invokevirtual 109, 3) := by decide +kernel
theorem dX3_writeUpdate_59 : decode cX3_writeUpdate 59 = .ok (.ifCond .eq 26, 3) := by decide +kernel
theorem dX3_writeUpdate_62 : decode cX3_writeUpdate 62 = .ok (.aload_n 0, 1) := by decide +kernel
theorem dX3_writeUpdate_63 : decode cX3_writeUpdate 63 = .ok (.aload_n 0, 1) := by decide +kernel
theorem dX3_writeUpdate_64 : decode cX3_writeUpdate 64 = .ok (.invokevirtual 85, 3) := by decide +kernel
theorem dX3_writeUpdate_67 : decode cX3_writeUpdate 67 = .ok (.iload_n 3, 1) := by decide +kernel
theorem dX3_writeUpdate_68 : decode cX3_writeUpdate 68 = .ok (.invokestatic 94, 3) := by decide +kernel
theorem dX3_writeUpdate_71 : decode cX3_writeUpdate 71 = .ok (.aload_n 0, 1) := by decide +kernel
theorem dX3_writeUpdate_72 : decode cX3_writeUpdate 72 = .ok (.invokevirtual 97, 3) := by decide +kernel
theorem dX3_writeUpdate_75 : decode cX3_writeUpdate 75 = .ok (.invokevirtual 100, 3) := by decide +kernel
theorem dX3_writeUpdate_78 : decode cX3_writeUpdate 78 = .ok (.ifCond .eq 7, 3) := by decide +kernel
theorem dX3_writeUpdate_81 : decode cX3_writeUpdate 81 = .ok (.iconst 1, 1) := by decide +kernel
theorem dX3_writeUpdate_82 : decode cX3_writeUpdate 82 = .ok (.goto 4, 3) := by decide +kernel
theorem dX3_writeUpdate_85 : decode cX3_writeUpdate 85 = .ok (.iconst 0, 1) := by decide +kernel
theorem dX3_writeUpdate_86 : decode cX3_writeUpdate 86 = .ok (.ireturn, 1) := by decide +kernel
theorem dX4_init_0 : decode cX4_init 0 = .ok (.aload_n 0, 1) := by decide +kernel
theorem dX4_init_1 : decode cX4_init 1 = .ok (.invokespecial 3, 3) := by decide +kernel
theorem dX4_init_4 : decode cX4_init 4 = .ok (.aload_n 0, 1) := by decide +kernel
theorem dX4_init_5 : decode cX4_init 5 = .ok (.iconst 0, 1) := by decide +kernel
theorem dX4_init_6 : decode cX4_init 6 = .ok (.putfield 9, 3) := by decide +kernel
theorem dX4_init_9 : decode cX4_init 9 = .ok (.aload_n 0, 1) := by decide +kernel
theorem dX4_init_10 : decode cX4_init 10 = .ok (.iconst 0, 1) := by decide +kernel
theorem dX4_init_11 : decode cX4_init 11 = .ok (.putfield 15, 3) := by decide +kernel
theorem dX4_init_14 : decode cX4_init 14 = .ok (.aload_n 0, 1) := by decide +kernel
theorem dX4_init_15 : decode cX4_init 15 = .ok (.iconst 0, 1) := by decide +kernel
theorem dX4_init_16 : decode cX4_init 16 = .ok (.putfield 18, 3) := by decide +kernel
theorem dX4_init_19 : decode cX4_init 19 = .ok (.aload_n 0, 1) := by decide +kernel
theorem dX4_init_20 : decode cX4_init 20 = .ok (.iconst 0, 1) := by decide +kernel
theorem dX4_init_21 : decode cX4_init 21 = .ok (.putfield 21, 3) := by decide +kernel
theorem dX4_init_24 : decode cX4_init 24 = .ok (.aload_n 0, 1) := by decide +kernel
theorem dX4_init_25 : decode cX4_init 25 = .ok (.iconst 0, 1) := by decide +kernel
theorem dX4_init_26 : decode cX4_init 26 = .ok (.putfield 24, 3) := by decide +kernel
theorem dX4_init_29 : decode cX4_init 29 = .ok (.aload_n 0, 1) := by decide +kernel
theorem dX4_init_30 : decode cX4_init 30 = .ok (.iconst 0, 1) := by decide +kernel
theorem dX4_init_31 : decode cX4_init 31 = .ok (.putfield 27, 3) := by decide +kernel
theorem dX4_init_34 : decode cX4_init 34 = .ok (.return_, 1) := by decide +kernel
theorem dX4_begin_0 : decode cX4_begin 0 = .ok (.aload_n 0, 1) := by decide +kernel
theorem dX4_begin_1 : decode cX4_begin 1 = .ok (.iload_n 1, 1) := by decide +kernel
theorem dX4_begin_2 : decode cX4_begin 2 = .ok (.putfield 9, 3) := by decide +kernel
theorem dX4_begin_5 : decode cX4_begin 5 = .ok (.aload_n 0, 1) := by decide +kernel
theorem dX4_begin_6 : decode cX4_begin 6 = .ok (.iload_n 2, 1) := by decide +kernel
theorem dX4_begin_7 : decode cX4_begin 7 = .ok (.putfield 15, 3) := by decide +kernel
theorem dX4_begin_10 : decode cX4_begin 10 = .ok (.aload_n 0, 1) := by decide +kernel
theorem dX4_begin_11 : decode cX4_begin 11 = .ok (.iload_n 3, 1) := by decide +kernel
theorem dX4_begin_12 : decode cX4_begin 12 = .ok (.putfield 18, 3) := by decide +kernel
theorem dX4_begin_15 : decode cX4_begin 15 = .ok (.aload_n 0, 1) := by decide +kernel
theorem dX4_begin_16 : decode cX4_begin 16 = .ok (.iload 4, 2) := by decide +kernel
theorem dX4_begin_18 : decode cX4_begin 18 = .ok (.putfield 21, 3) := by decide +kernel
theorem dX4_begin_21 : decode cX4_begin 21 = .ok (.aload_n 0, 1) := by decide +kernel
theorem dX4_begin_22 : decode cX4_begin 22 = .ok (.iconst 0, 1) := by decide +kernel
theorem dX4_begin_23 : decode cX4_begin 23 = .ok (.putfield 24, 3) := by decide +kernel
theorem dX4_begin_26 : decode cX4_begin 26 = .ok (.aload_n 0, 1) := by decide +kernel
theorem dX4_begin_27 : decode cX4_begin 27 = .ok (.iconst 1, 1) := by decide +kernel
theorem dX4_begin_28 : decode cX4_begin 28 = .ok (.putfield 27, 3) := by decide +kernel
theorem dX4_begin_31 : decode cX4_begin 31 = .ok (.return_, 1) := by decide +kernel
theorem dX4_end_0 : decode cX4_end 0 = .ok (.aload_n 0, 1) := by decide +kernel
theorem dX4_end_1 : decode cX4_end 1 = .ok (.iconst 0, 1) := by decide +kernel
theorem dX4_end_2 : decode cX4_end 2 = .ok (.putfield 27, 3) := by decide +kernel
theorem dX4_end_5 : decode cX4_end 5 = .ok (.return_, 1) := by decide +kernel
theorem dX4_bytesToCome_0 : decode cX4_bytesToCome 0 = .ok (.aload_n 0, 1) := by decide +kernel
theorem dX4_bytesToCome_1 : decode cX4_bytesToCome 1 = .ok (.getfield 27, 3) := by decide +kernel
theorem dX4_bytesToCome_4 : decode cX4_bytesToCome 4 = .ok (.ifCond .eq 15, 3) := by decide +kernel
theorem dX4_bytesToCome_7 : decode cX4_bytesToCome 7 = .ok (.aload_n 0, 1) := by decide +kernel
theorem dX4_bytesToCome_8 : decode cX4_bytesToCome 8 = .ok (.getfield 15, 3) := by decide +kernel
theorem dX4_bytesToCome_11 : decode cX4_bytesToCome 11 = .ok (.aload_n 0, 1) := by decide +kernel
theorem dX4_bytesToCome_12 : decode cX4_bytesToCome 12 = .ok (.getfield 24, 3) := by decide +kernel
theorem dX4_bytesToCome_15 : decode cX4_bytesToCome 15 = .ok (.isub, 1) := by decide +kernel
theorem dX4_bytesToCome_16 : decode cX4_bytesToCome 16 = .ok (.goto 4, 3) := by decide +kernel
theorem dX4_bytesToCome_19 : decode cX4_bytesToCome 19 = .ok (.iconst (-1), 1) := by decide +kernel
theorem dX4_bytesToCome_20 : decode cX4_bytesToCome 20 = .ok (.ireturn, 1) := by decide +kernel
theorem dX4_nextPlace_0 : decode cX4_nextPlace 0 = .ok (.aload_n 0, 1) := by decide +kernel
theorem dX4_nextPlace_1 : decode cX4_nextPlace 1 = .ok (.getfield 24, 3) := by decide +kernel
theorem dX4_nextPlace_4 : decode cX4_nextPlace 4 = .ok (.istore_n 1, 1) := by decide +kernel
theorem dX4_nextPlace_5 : decode cX4_nextPlace 5 = .ok (.aload_n 0, 1) := by decide +kernel
theorem dX4_nextPlace_6 : decode cX4_nextPlace 6 = .ok (.dup, 1) := by decide +kernel
theorem dX4_nextPlace_7 : decode cX4_nextPlace 7 = .ok (.getfield 24, 3) := by decide +kernel
theorem dX4_nextPlace_10 : decode cX4_nextPlace 10 = .ok (.iconst 1, 1) := by decide +kernel
theorem dX4_nextPlace_11 : decode cX4_nextPlace 11 = .ok (.iadd, 1) := by decide +kernel
theorem dX4_nextPlace_12 : decode cX4_nextPlace 12 = .ok (.putfield 24, 3) := by decide +kernel
theorem dX4_nextPlace_15 : decode cX4_nextPlace 15 = .ok (.iload_n 1, 1) := by decide +kernel
theorem dX4_nextPlace_16 : decode cX4_nextPlace 16 = .ok (.ireturn, 1) := by decide +kernel
set_option maxRecDepth 20000 in
theorem ggX5_init_X3_init : GoodIn wsX5_init wsX3_init := goodIn_r _ [24, 25, 2, 3, 26, 27, 28, 29, 30, 31, 32, 33, 34, 35, 36, 37, 38, 39, 40, 41, 42, 43, 6, 44, 45, 46, 47, 48, 49, 50, 51, 52, 53, 54, 55, 56, 57, 58, 59, 97, 98, 99, 80] (by decide +kernel) (by decide +kernel)
set_option maxRecDepth 20000 in
theorem gX5_init_X3_init : GoodIn wsX5_init (wsX3_init) := ggX5_init_X3_init
set_option maxRecDepth 20000 in
theorem ggX5_init_X4_init : GoodIn wsX5_init wsX4_init := goodIn_r _ [61, 62, 2, 3, 63, 64, 65, 66, 67, 68, 87, 88, 89, 90, 91, 92] (by decide +kernel) (by decide +kernel)
set_option maxRecDepth 20000 in
theorem gX5_init_X4_init_n21 : GoodIn wsX5_init (wsX4_init) := ggX5_init_X4_init
set_option maxRecDepth 20000 in
theorem ggX5_init_X1_init : GoodIn wsX5_init wsX1_init := goodIn_r _ [70, 71, 2, 3, 72, 33, 73, 93, 94] (by decide +kernel) (by decide +kernel)
set_option maxRecDepth 20000 in
theorem gX5_init_X1_init_n28 : GoodIn wsX5_init (wsX1_init) := ggX5_init_X1_init
set_option maxRecDepth 20000 in
theorem ggX5_init_X0_init : GoodIn wsX5_init wsX0_init := goodIn_r _ [76, 77, 2, 3, 78, 79, 95, 96] (by decide +kernel) (by decide +kernel)
set_option maxRecDepth 20000 in
theorem gX5_init_X0_init : GoodIn wsX5_init (wsX0_init) := ggX5_init_X0_init
end
section
theorem dX5_init_0 : decode cX5_init 0 = .ok (.aload_n 0, 1) := by decide +kernel
theorem dX5_init_1 : decode cX5_init 1 = .ok (.invokespecial 1, 3) := by decide +kernel
theorem dX5_init_4 : decode cX5_init 4 = .ok (.aload_n 0, 1) := by decide +kernel
theorem dX5_init_5 : decode cX5_init 5 = .ok (.new 7, 3) := by decide +kernel
theorem dX5_init_8 : decode cX5_init 8 = .ok (.dup, 1) := by decide +kernel
theorem dX5_init_9 : decode cX5_init 9 = .ok (.invokespecial 9, 3) := by decide +kernel
theorem dX5_init_12 : decode cX5_init 12 = .ok (.putfield 10, 3) := by decide +kernel
theorem dX5_init_15 : decode cX5_init 15 = .ok (.aload_n 0, 1) := by decide +kernel
theorem dX5_init_16 : decode cX5_init 16 = .ok (.new 7, 3) := by decide +kernel
theorem dX5_init_19 : decode cX5_init 19 = .ok (.dup, 1) := by decide +kernel
theorem dX5_init_20 : decode cX5_init 20 = .ok (.invokespecial 9, 3) := by decide +kernel
theorem dX5_init_23 : decode cX5_init 23 = .ok (.putfield 16, 3) := by decide +kernel
theorem dX5_init_26 : decode cX5_init 26 = .ok (.aload_n 0, 1) := by decide +kernel
theorem dX5_init_27 : decode cX5_init 27 = .ok (.new 19, 3) := by decide +kernel
theorem dX5_init_30 : decode cX5_init 30 = .ok (.dup, 1) := by decide +kernel
theorem dX5_init_31 : decode cX5_init 31 = .ok (.invokespecial 21, 3) := by decide +kernel
theorem dX5_init_34 : decode cX5_init 34 = .ok (.putfield 22, 3) := by decide +kernel
theorem dX5_init_37 : decode cX5_init 37 = .ok (.aload_n 0, 1) := by decide +kernel
theorem dX5_init_38 : decode cX5_init 38 = .ok (.new 26, 3) := by decide +kernel
theorem dX5_init_41 : decode cX5_init 41 = .ok (.dup, 1) := by decide +kernel
theorem dX5_init_42 : decode cX5_init 42 = .ok (.invokespecial 28, 3) := by decide +kernel
theorem dX5_init_45 : decode cX5_init 45 = .ok (.putfield 29, 3) := by decide +kernel
theorem dX5_init_48 : decode cX5_init 48 = .ok (.aload_n 0, 1) := by decide +kernel
theorem dX5_init_49 : decode cX5_init 49 = .ok (.new 33, 3) := by decide +kernel
theorem dX5_init_52 : decode cX5_init 52 = .ok (.dup, 1) := by decide +kernel
theorem dX5_init_53 : decode cX5_init 53 = .ok (.aload_n 0, 1) := by decide +kernel
theorem dX5_init_54 : decode cX5_init 54 = .ok (.getfield 29, 3) := by decide +kernel
theorem dX5_init_57 : decode cX5_init 57 = .ok (.aload_n 0, 1) := by decide +kernel
theorem dX5_init_58 : decode cX5_init 58 = .ok (.getfield 10, 3) := by decide +kernel
theorem dX5_init_61 : decode cX5_init 61 = .ok (.invokespecial 35, 3) := by decide +kernel
theorem dX5_init_64 : decode cX5_init 64 = .ok (.putfield 38, 3) := by decide +kernel
theorem dX5_init_67 : decode cX5_init 67 = .ok (.aload_n 0, 1) := by decide +kernel
theorem dX5_init_68 : decode cX5_init 68 = .ok (.iconst (-1), 1) := by decide +kernel
theorem dX5_init_69 : decode cX5_init 69 = .ok (.putfield 42, 3) := by decide +kernel
theorem dX5_init_72 : decode cX5_init 72 = .ok (.return_, 1) := by decide +kernel
set_option maxRecDepth 20000 in
theorem ggX5_switchOn_X5_isOn : GoodIn wsX5_switchOn wsX5_isOn := goodIn_r _ [9, 4, 110, 111, 112, 113, 114, 115] (by decide +kernel) (by decide +kernel)
set_option maxRecDepth 20000 in
theorem gX5_switchOn_X5_isOn : GoodIn wsX5_switchOn (wsV RX5 46 RX5 yX5_isOn wsX5_isOn) := goodIn_app (goodIn_of _ (by decide +kernel)) ggX5_switchOn_X5_isOn
set_option maxRecDepth 20000 in
theorem ggX5_switchOn_X3_start : GoodIn wsX5_switchOn wsX3_start := goodIn_r _ [14, 15, 16, 17, 13, 18, 19, 20, 21, 22, 23, 24, 25, 26, 27, 28, 29, 30, 31, 32, 33, 34, 35, 36, 37, 38, 39, 40, 41, 42, 43, 44, 45, 46, 47, 48, 49, 50, 51, 52, 53, 54, 55, 56, 57, 58, 59, 60, 61, 62, 63, 64, 65, 66, 8, 67, 68, 69, 70, 71, 72, 73, 74, 75, 76, 77, 78, 79, 80, 81, 82, 83, 84, 85, 86, 87, 88, 89, 90, 91, 92, 93, 94, 95, 96, 97, 98, 99, 100, 101, 102, 103, 104, 105, 106, 107, 108, 109, 116, 117, 118, 119] (by decide +kernel) (by decide +kernel)
set_option maxRecDepth 20000 in
theorem gX5_switchOn_X3_start : GoodIn wsX5_switchOn (wsV RX5 57 RX3 yX3_start wsX3_start) := goodIn_app (goodIn_of _ (by decide +kernel)) ggX5_switchOn_X3_start
theorem dX5_switchOn_0 : decode cX5_switchOn 0 = .ok (.aload_n 0, 1) := by decide +kernel
theorem dX5_switchOn_1 : decode cX5_switchOn 1 = .ok (.invokevirtual 46, 3) := by decide +kernel
theorem dX5_switchOn_4 : decode cX5_switchOn 4 = .ok (.ifCond .eq 13, 3) := by decide +kernel
theorem dX5_switchOn_7 : decode cX5_switchOn 7 = .ok (.new 50, 3) := by decide +kernel
theorem dX5_switchOn_10 : decode cX5_switchOn 10 = .ok (.dup, 1) := by decide +kernel
theorem dX5_switchOn_11 : decode cX5_switchOn 11 = .ok (.ldc 52, 2) := by decide +kernel
theorem dX5_switchOn_13 : decode cX5_switchOn 13 = .ok (.invokespecial 54, 3) := by decide +kernel
theorem dX5_switchOn_16 : decode cX5_switchOn 16 = .ok (.athrow, 1) := by decide +kernel
theorem dX5_switchOn_17 : decode cX5_switchOn 17 = .ok (.aload_n 0, 1) := by decide +kernel
theorem dX5_switchOn_18 : decode cX5_switchOn 18 = .ok (.aload_n 0, 1) := by decide +kernel
theorem dX5_switchOn_19 : decode cX5_switchOn 19 = .ok (.getfield 10, 3) := by decide +kernel
theorem dX5_switchOn_22 : decode cX5_switchOn 22 = .ok (.invokevirtual 57, 3) := by decide +kernel
theorem dX5_switchOn_25 : decode cX5_switchOn 25 = .ok (.putfield 42, 3) := by decide +kernel
theorem dX5_switchOn_28 : decode cX5_switchOn 28 = .ok (.aload_n 0, 1) := by decide +kernel
theorem dX5_switchOn_29 : decode cX5_switchOn 29 = .ok (.getfield 42, 3) := by decide +kernel
theorem dX5_switchOn_32 : decode cX5_switchOn 32 = .ok (.ireturn, 1) := by decide +kernel
set_option maxRecDepth 20000 in
theorem ggX5_switchOff_X5_requireOn : GoodIn wsX5_switchOff wsX5_requireOn := goodIn_ca (goodIn_r _ [6, 7, 8, 9, 10, 11, 5, 12, 1, 24, 25, 26, 27, 28, 29] (by decide +kernel) (by decide +kernel)) (goodIn_sub (fun _ h => List.mem_cons_of_mem _ (List.mem_append_right _ h)) (by decide +kernel))
set_option maxRecDepth 20000 in
theorem gX5_switchOff_X5_requireOn : GoodIn wsX5_switchOff (wsV RX5 61 RX5 yX5_requireOn wsX5_requireOn) := goodIn_app (goodIn_of _ (by decide +kernel)) ggX5_switchOff_X5_requireOn
set_option maxRecDepth 20000 in
theorem ggX5_switchOff_X5_losePower : GoodIn wsX5_switchOff wsX5_losePower := goodIn_r _ [16, 1, 17, 18, 19, 20, 21, 22, 23, 24, 25, 26, 27, 28, 29, 30, 31, 32, 33, 34, 35] (by decide +kernel) (by decide +kernel)
set_option maxRecDepth 20000 in
theorem gX5_switchOff_X5_losePower : GoodIn wsX5_switchOff (wsV RX5 64 RX5 yX5_losePower wsX5_losePower) := goodIn_app (goodIn_of _ (by decide +kernel)) ggX5_switchOff_X5_losePower
theorem dX5_switchOff_0 : decode cX5_switchOff 0 = .ok (.aload_n 0, 1) := by decide +kernel
theorem dX5_switchOff_1 : decode cX5_switchOff 1 = .ok (.invokevirtual 61, 3) := by decide +kernel
theorem dX5_switchOff_4 : decode cX5_switchOff 4 = .ok (.aload_n 0, 1) := by decide +kernel
theorem dX5_switchOff_5 : decode cX5_switchOff 5 = .ok (.getfield 42, 3) := by decide +kernel
theorem dX5_switchOff_8 : decode cX5_switchOff 8 = .ok (.istore_n 1, 1) := by decide +kernel
theorem dX5_switchOff_9 : decode cX5_switchOff 9 = .ok (.aload_n 0, 1) := by decide +kernel
theorem dX5_switchOff_10 : decode cX5_switchOff 10 = .ok (.invokevirtual 64, 3) := by decide +kernel
theorem dX5_switchOff_13 : decode cX5_switchOff 13 = .ok (.iload_n 1, 1) := by decide +kernel
theorem dX5_switchOff_14 : decode cX5_switchOff 14 = .ok (.ireturn, 1) := by decide +kernel
set_option maxRecDepth 20000 in
theorem ggX5_failAfter_X5_requireWithin : GoodIn wsX5_failAfter wsX5_requireWithin := goodIn_ca (goodIn_r _ [6, 7, 8] (by decide +kernel) (by decide +kernel)) (goodIn_sub (fun _ h => List.mem_cons_of_mem _ (List.mem_append_right _ h)) (by decide +kernel))
set_option maxRecDepth 20000 in
theorem gX5_failAfter_X5_requireWithin : GoodIn wsX5_failAfter (va_wsS RX5 67 yX5_requireWithin wsX5_requireWithin) := goodIn_app (goodIn_of _ (by decide +kernel)) ggX5_failAfter_X5_requireWithin
set_option maxRecDepth 20000 in
theorem ggX5_failAfter_X2_chooseFailure : GoodIn wsX5_failAfter wsX2_chooseFailure := goodIn_r _ [13, 14, 22, 23, 24] (by decide +kernel) (by decide +kernel)
set_option maxRecDepth 20000 in
theorem gX5_failAfter_X2_chooseFailure : GoodIn wsX5_failAfter (wsV RX5 75 RX2 yX2_chooseFailure wsX2_chooseFailure) := goodIn_app (goodIn_of _ (by decide +kernel)) ggX5_failAfter_X2_chooseFailure
theorem dX5_failAfter_0 : decode cX5_failAfter 0 = .ok (.iload_n 1, 1) := by decide +kernel
theorem dX5_failAfter_1 : decode cX5_failAfter 1 = .ok (.iconst (-1), 1) := by decide +kernel
theorem dX5_failAfter_2 : decode cX5_failAfter 2 = .ok (.sipush 1000, 3) := by decide +kernel
theorem dX5_failAfter_5 : decode cX5_failAfter 5 = .ok (.invokestatic 67, 3) := by decide +kernel
theorem dX5_failAfter_8 : decode cX5_failAfter 8 = .ok (.aload_n 0, 1) := by decide +kernel
theorem dX5_failAfter_9 : decode cX5_failAfter 9 = .ok (.getfield 10, 3) := by decide +kernel
theorem dX5_failAfter_12 : decode cX5_failAfter 12 = .ok (.getfield 71, 3) := by decide +kernel
theorem dX5_failAfter_15 : decode cX5_failAfter 15 = .ok (.iload_n 1, 1) := by decide +kernel
theorem dX5_failAfter_16 : decode cX5_failAfter 16 = .ok (.invokevirtual 75, 3) := by decide +kernel
theorem dX5_failAfter_19 : decode cX5_failAfter 19 = .ok (.return_, 1) := by decide +kernel
theorem dX5_isOn_0 : decode cX5_isOn 0 = .ok (.aload_n 0, 1) := by decide +kernel
theorem dX5_isOn_1 : decode cX5_isOn 1 = .ok (.getfield 42, 3) := by decide +kernel
theorem dX5_isOn_4 : decode cX5_isOn 4 = .ok (.iconst (-1), 1) := by decide +kernel
theorem dX5_isOn_5 : decode cX5_isOn 5 = .ok (.if_icmp .eq 7, 3) := by decide +kernel
theorem dX5_isOn_8 : decode cX5_isOn 8 = .ok (.iconst 1, 1) := by decide +kernel
theorem dX5_isOn_9 : decode cX5_isOn 9 = .ok (.goto 4, 3) := by decide +kernel
theorem dX5_isOn_12 : decode cX5_isOn 12 = .ok (.iconst 0, 1) := by decide +kernel
theorem dX5_isOn_13 : decode cX5_isOn 13 = .ok (.ireturn, 1) := by decide +kernel
theorem dX5_running_0 : decode cX5_running 0 = .ok (.aload_n 0, 1) := by decide +kernel
theorem dX5_running_1 : decode cX5_running 1 = .ok (.getfield 42, 3) := by decide +kernel
theorem dX5_running_4 : decode cX5_running 4 = .ok (.ireturn, 1) := by decide +kernel
set_option maxRecDepth 20000 in
theorem ggX5_isOnTrial_X5_isOn : GoodIn wsX5_isOnTrial wsX5_isOn := goodIn_r _ [7, 1, 38, 39, 40, 41, 42, 43] (by decide +kernel) (by decide +kernel)
set_option maxRecDepth 20000 in
theorem gX5_isOnTrial_X5_isOn : GoodIn wsX5_isOnTrial (wsV RX5 46 RX5 yX5_isOn wsX5_isOn) := goodIn_app (goodIn_of _ (by decide +kernel)) ggX5_isOnTrial_X5_isOn
set_option maxRecDepth 20000 in
theorem ggX5_isOnTrial_X3_confirmedSlot : GoodIn wsX5_isOnTrial wsX3_confirmedSlot := goodIn_r _ [12, 13, 14, 15, 11, 16, 17, 18, 19, 20, 21, 22, 23, 24, 25, 26, 27, 28, 29, 30, 31, 32, 33, 34, 35, 36, 37, 44, 45, 46, 47] (by decide +kernel) (by decide +kernel)
set_option maxRecDepth 20000 in
theorem gX5_isOnTrial_X3_confirmedSlot : GoodIn wsX5_isOnTrial (wsV RX5 81 RX3 yX3_confirmedSlot wsX3_confirmedSlot) := goodIn_app (goodIn_of _ (by decide +kernel)) ggX5_isOnTrial_X3_confirmedSlot
theorem dX5_isOnTrial_0 : decode cX5_isOnTrial 0 = .ok (.aload_n 0, 1) := by decide +kernel
theorem dX5_isOnTrial_1 : decode cX5_isOnTrial 1 = .ok (.invokevirtual 46, 3) := by decide +kernel
theorem dX5_isOnTrial_4 : decode cX5_isOnTrial 4 = .ok (.ifCond .eq 21, 3) := by decide +kernel
theorem dX5_isOnTrial_7 : decode cX5_isOnTrial 7 = .ok (.aload_n 0, 1) := by decide +kernel
theorem dX5_isOnTrial_8 : decode cX5_isOnTrial 8 = .ok (.getfield 42, 3) := by decide +kernel
theorem dX5_isOnTrial_11 : decode cX5_isOnTrial 11 = .ok (.aload_n 0, 1) := by decide +kernel
theorem dX5_isOnTrial_12 : decode cX5_isOnTrial 12 = .ok (.getfield 10, 3) := by decide +kernel
theorem dX5_isOnTrial_15 : decode cX5_isOnTrial 15 = .ok (.invokevirtual 81, 3) := by decide +kernel
theorem dX5_isOnTrial_18 : decode cX5_isOnTrial 18 = .ok (.if_icmp .eq 7, 3) := by decide +kernel
theorem dX5_isOnTrial_21 : decode cX5_isOnTrial 21 = .ok (.iconst 1, 1) := by decide +kernel
theorem dX5_isOnTrial_22 : decode cX5_isOnTrial 22 = .ok (.goto 4, 3) := by decide +kernel
theorem dX5_isOnTrial_25 : decode cX5_isOnTrial 25 = .ok (.iconst 0, 1) := by decide +kernel
theorem dX5_isOnTrial_26 : decode cX5_isOnTrial 26 = .ok (.ireturn, 1) := by decide +kernel
set_option maxRecDepth 20000 in
theorem ggX5_writes_X2_begunWrites : GoodIn wsX5_writes wsX2_begunWrites := goodIn_r _ [7, 8, 16, 17, 18] (by decide +kernel) (by decide +kernel)
set_option maxRecDepth 20000 in
theorem gX5_writes_X2_begunWrites : GoodIn wsX5_writes (wsV RX5 84 RX2 yX2_begunWrites wsX2_begunWrites) := goodIn_app (goodIn_of _ (by decide +kernel)) ggX5_writes_X2_begunWrites
theorem dX5_writes_0 : decode cX5_writes 0 = .ok (.aload_n 0, 1) := by decide +kernel
theorem dX5_writes_1 : decode cX5_writes 1 = .ok (.getfield 10, 3) := by decide +kernel
theorem dX5_writes_4 : decode cX5_writes 4 = .ok (.getfield 71, 3) := by decide +kernel
theorem dX5_writes_7 : decode cX5_writes 7 = .ok (.invokevirtual 84, 3) := by decide +kernel
theorem dX5_writes_10 : decode cX5_writes 10 = .ok (.ireturn, 1) := by decide +kernel
set_option maxRecDepth 20000 in
theorem ggX5_offer_X5_requireWithin : GoodIn wsX5_offer wsX5_requireWithin := goodIn_ca (goodIn_r _ [10, 11, 12] (by decide +kernel) (by decide +kernel)) (goodIn_sub (fun _ h => List.mem_cons_of_mem _ (List.mem_append_right _ h)) (by decide +kernel))
set_option maxRecDepth 20000 in
theorem gX5_offer_X5_requireWithin : GoodIn wsX5_offer (va_wsS RX5 67 yX5_requireWithin wsX5_requireWithin) := goodIn_app (goodIn_of _ (by decide +kernel)) ggX5_offer_X5_requireWithin
set_option maxRecDepth 20000 in
theorem ggX5_offer_X5_requireOn : GoodIn wsX5_offer wsX5_requireOn := goodIn_ca (goodIn_r _ [16, 1, 2, 17, 18, 19, 9, 20, 5, 101, 102, 103, 104, 105, 106] (by decide +kernel) (by decide +kernel)) (goodIn_sub (fun _ h => List.mem_cons_of_mem _ (List.mem_append_left _ (List.mem_append_right _ h))) (by decide +kernel))
set_option maxRecDepth 20000 in
theorem gX5_offer_X5_requireOn : GoodIn wsX5_offer (wsV RX5 61 RX5 yX5_requireOn wsX5_requireOn) := goodIn_app (goodIn_of _ (by decide +kernel)) ggX5_offer_X5_requireOn
set_option maxRecDepth 20000 in
theorem ggX5_offer_X3_isTrialDue : GoodIn wsX5_offer wsX3_isTrialDue := goodIn_r _ [25, 26, 27, 28, 24, 29, 30, 31, 32, 33, 34, 35, 36, 37, 38, 39, 40, 41, 42, 43, 44, 45, 46, 47, 48, 49, 50, 107, 108, 109, 110] (by decide +kernel) (by decide +kernel)
set_option maxRecDepth 20000 in
theorem gX5_offer_X3_isTrialDue : GoodIn wsX5_offer (wsV RX5 88 RX3 yX3_isTrialDue wsX3_isTrialDue) := goodIn_app (goodIn_of _ (by decide +kernel)) ggX5_offer_X3_isTrialDue
set_option maxRecDepth 20000 in
theorem ggX5_offer_X3_slotWord : GoodIn wsX5_offer wsX3_slotWord := goodIn_r _ [54, 38, 39, 40, 41, 42, 43, 44, 107, 108, 109, 110] (by decide +kernel) (by decide +kernel)
set_option maxRecDepth 20000 in
theorem gX5_offer_X3_slotWord : GoodIn wsX5_offer (wsV RX5 93 RX3 yX3_slotWord wsX3_slotWord) := goodIn_app (goodIn_of _ (by decide +kernel)) ggX5_offer_X3_slotWord
set_option maxRecDepth 20000 in
theorem ggX5_offer_X3_recordCounter : GoodIn wsX5_offer wsX3_recordCounter := goodIn_r _ [58, 26, 27, 28, 24, 29, 30, 31, 32, 33, 34, 35, 36, 37, 38, 39, 40, 41, 42, 43, 44, 45, 46, 47, 107, 108, 109, 110] (by decide +kernel) (by decide +kernel)
set_option maxRecDepth 20000 in
theorem gX5_offer_X3_recordCounter : GoodIn wsX5_offer (wsV RX5 97 RX3 yX3_recordCounter wsX3_recordCounter) := goodIn_app (goodIn_of _ (by decide +kernel)) ggX5_offer_X3_recordCounter
set_option maxRecDepth 20000 in
theorem ggX5_offer_X4_begin : GoodIn wsX5_offer wsX4_begin := goodIn_r _ [63, 64, 65, 66, 67, 68, 69, 111, 112, 113, 114, 115, 116] (by decide +kernel) (by decide +kernel)
set_option maxRecDepth 20000 in
theorem gX5_offer_X4_begin : GoodIn wsX5_offer (wsV RX5 102 RX4 yX4_begin wsX4_begin) := goodIn_app (goodIn_of _ (by decide +kernel)) ggX5_offer_X4_begin
set_option maxRecDepth 20000 in
theorem ggX5_offer_X5_idleSlot : GoodIn wsX5_offer wsX5_idleSlot := goodIn_r _ [73, 5, 101, 102, 103, 104, 105, 106] (by decide +kernel) (by decide +kernel)
set_option maxRecDepth 20000 in
theorem gX5_offer_X5_idleSlot : GoodIn wsX5_offer (wsV RX5 106 RX5 yX5_idleSlot wsX5_idleSlot) := goodIn_app (goodIn_of _ (by decide +kernel)) ggX5_offer_X5_idleSlot
set_option maxRecDepth 20000 in
theorem ggX5_offer_X3_writeSlotWord : GoodIn wsX5_offer wsX3_writeSlotWord := goodIn_r _ [77, 38, 78, 79, 80, 42, 81, 82, 83, 84, 40, 41, 43, 44, 85, 86, 87, 88, 107, 108, 109, 110] (by decide +kernel) (by decide +kernel)
set_option maxRecDepth 20000 in
theorem gX5_offer_X3_writeSlotWord : GoodIn wsX5_offer (wsV RX5 109 RX3 yX3_writeSlotWord wsX3_writeSlotWord) := goodIn_app (goodIn_of _ (by decide +kernel)) ggX5_offer_X3_writeSlotWord
set_option maxRecDepth 20000 in
theorem ggX5_offer_X5_stayOn : GoodIn wsX5_offer wsX5_stayOn := goodIn_r _ [92, 93, 94, 95, 9, 96, 5, 6, 97, 98, 99, 62, 100, 69, 101, 102, 103, 104, 105, 106, 111, 112, 113, 114, 115, 116] (by decide +kernel) (by decide +kernel)
set_option maxRecDepth 20000 in
theorem gX5_offer_X5_stayOn : GoodIn wsX5_offer (wsV RX5 113 RX5 yX5_stayOn wsX5_stayOn) := goodIn_app (goodIn_of _ (by decide +kernel)) ggX5_offer_X5_stayOn
theorem dX5_offer_0 : decode cX5_offer 0 = .ok (.iload_n 1, 1) := by decide +kernel
theorem dX5_offer_1 : decode cX5_offer 1 = .ok (.iconst 1, 1) := by decide +kernel
theorem dX5_offer_2 : decode cX5_offer 2 = .ok (.sipush 9999, 3) := by decide +kernel
theorem dX5_offer_5 : decode cX5_offer 5 = .ok (.invokestatic 67, 3) := by decide +kernel
theorem dX5_offer_8 : decode cX5_offer 8 = .ok (.iload_n 2, 1) := by decide +kernel
theorem dX5_offer_9 : decode cX5_offer 9 = .ok (.iconst 1, 1) := by decide +kernel
theorem dX5_offer_10 : decode cX5_offer 10 = .ok (.bipush 24, 2) := by decide +kernel
theorem dX5_offer_12 : decode cX5_offer 12 = .ok (.invokestatic 67, 3) := by decide +kernel
theorem dX5_offer_15 : decode cX5_offer 15 = .ok (.iload_n 3, 1) := by decide +kernel
theorem dX5_offer_16 : decode cX5_offer 16 = .ok (.iconst 0, 1) := by decide +kernel
theorem dX5_offer_17 : decode cX5_offer 17 = .ok (.ldc 87, 2) := by decide +kernel
theorem dX5_offer_19 : decode cX5_offer 19 = .ok (.invokestatic 67, 3) := by decide +kernel
theorem dX5_offer_22 : decode cX5_offer 22 = .ok (.iload 4, 2) := by decide +kernel
theorem dX5_offer_24 : decode cX5_offer 24 = .ok (.iconst 0, 1) := by decide +kernel
theorem dX5_offer_25 : decode cX5_offer 25 = .ok (.sipush 9999, 3) := by decide +kernel
theorem dX5_offer_28 : decode cX5_offer 28 = .ok (.invokestatic 67, 3) := by decide +kernel
theorem dX5_offer_31 : decode cX5_offer 31 = .ok (.aload_n 0, 1) := by decide +kernel
theorem dX5_offer_32 : decode cX5_offer 32 = .ok (.invokevirtual 61, 3) := by decide +kernel
theorem dX5_offer_35 : decode cX5_offer 35 = .ok (.aload_n 0, 1) := by decide +kernel
theorem dX5_offer_36 : decode cX5_offer 36 = .ok (.getfield 10, 3) := by decide +kernel
theorem dX5_offer_39 : decode cX5_offer 39 = .ok (.invokevirtual 88, 3) := by decide +kernel
theorem dX5_offer_42 : decode cX5_offer 42 = .ok (.ifCond .eq 13, 3) := by decide +kernel
theorem dX5_offer_45 : decode cX5_offer 45 = .ok (.new 50, 3) := by decide +kernel
theorem dX5_offer_48 : decode cX5_offer 48 = .ok (.dup, 1) := by decide +kernel
theorem dX5_offer_49 : decode cX5_offer 49 = .ok (.ldc 91, 2) := by decide +kernel
theorem dX5_offer_51 : decode cX5_offer 51 = .ok (.invokespecial 54, 3) := by decide +kernel
theorem dX5_offer_54 : decode cX5_offer 54 = .ok (.athrow, 1) := by decide +kernel
theorem dX5_offer_55 : decode cX5_offer 55 = .ok (.iload_n 1, 1) := by decide +kernel
theorem dX5_offer_56 : decode cX5_offer 56 = .ok (.aload_n 0, 1) := by decide +kernel
theorem dX5_offer_57 : decode cX5_offer 57 = .ok (.getfield 10, 3) := by decide +kernel
theorem dX5_offer_60 : decode cX5_offer 60 = .ok (.aload_n 0, 1) := by decide +kernel
theorem dX5_offer_61 : decode cX5_offer 61 = .ok (.getfield 42, 3) := by decide +kernel
theorem dX5_offer_64 : decode cX5_offer 64 = .ok (.iconst 1, 1) := by decide +kernel
theorem dX5_offer_65 : decode cX5_offer 65 = .ok (.invokevirtual 93, 3) := by decide +kernel
theorem dX5_offer_68 : decode cX5_offer 68 = .ok (.if_icmp .le 15, 3) := by decide +kernel
theorem dX5_offer_71 : decode cX5_offer 71 = .ok (.iload 4, 2) := by decide +kernel
theorem dX5_offer_73 : decode cX5_offer 73 = .ok (.aload_n 0, 1) := by decide +kernel
theorem dX5_offer_74 : decode cX5_offer 74 = .ok (.getfield 10, 3) := by decide +kernel
theorem dX5_offer_77 : decode cX5_offer 77 = .ok (.invokevirtual 97, 3) := by decide +kernel
theorem dX5_offer_80 : decode cX5_offer 80 = .ok (.if_icmp .ge 13, 3) := by decide +kernel
theorem dX5_offer_83 : decode cX5_offer 83 = .ok (.new 50, 3) := by decide +kernel
theorem dX5_offer_86 : decode cX5_offer 86 = .ok (.dup, 1) := by decide +kernel
theorem dX5_offer_87 : decode cX5_offer 87 = .ok (.ldc 100, 2) := by decide +kernel
theorem dX5_offer_89 : decode cX5_offer 89 = .ok (.invokespecial 54, 3) := by decide +kernel
theorem dX5_offer_92 : decode cX5_offer 92 = .ok (.athrow, 1) := by decide +kernel
theorem dX5_offer_93 : decode cX5_offer 93 = .ok (.aload_n 0, 1) := by decide +kernel
theorem dX5_offer_94 : decode cX5_offer 94 = .ok (.getfield 22, 3) := by decide +kernel
theorem dX5_offer_97 : decode cX5_offer 97 = .ok (.iload_n 1, 1) := by decide +kernel
theorem dX5_offer_98 : decode cX5_offer 98 = .ok (.iload_n 2, 1) := by decide +kernel
theorem dX5_offer_99 : decode cX5_offer 99 = .ok (.iload_n 3, 1) := by decide +kernel
theorem dX5_offer_100 : decode cX5_offer 100 = .ok (.iload 4, 2) := by decide +kernel
theorem dX5_offer_102 : decode cX5_offer 102 = .ok (.invokevirtual 102, 3) := by decide +kernel
theorem dX5_offer_105 : decode cX5_offer 105 = .ok (.aload_n 0, 1) := by decide +kernel
theorem dX5_offer_106 : decode cX5_offer 106 = .ok (.aload_n 0, 1) := by decide +kernel
theorem dX5_offer_107 : decode cX5_offer 107 = .ok (.getfield 10, 3) := by decide +kernel
theorem dX5_offer_110 : decode cX5_offer 110 = .ok (.aload_n 0, 1) := by decide +kernel
theorem dX5_offer_111 : decode cX5_offer 111 = .ok (.invokevirtual 106, 3) := by decide +kernel
theorem dX5_offer_114 : decode cX5_offer 114 = .ok (.iconst 0, 1) := by decide +kernel
theorem dX5_offer_115 : decode cX5_offer 115 = .ok (.iconst 0, 1) := by decide +kernel
theorem dX5_offer_116 : decode cX5_offer 116 = .ok (.invokevirtual 109, 3) := by decide +kernel
theorem dX5_offer_119 : decode cX5_offer 119 = .ok (.invokevirtual 113, 3) := by decide +kernel
theorem dX5_offer_122 : decode cX5_offer 122 = .ok (.ireturn, 1) := by decide +kernel
set_option maxRecDepth 20000 in
theorem ggX5_put_X5_requireWithin : GoodIn wsX5_put wsX5_requireWithin := goodIn_ca (goodIn_r _ [4, 5, 6] (by decide +kernel) (by decide +kernel)) (goodIn_sub (fun _ h => List.mem_cons_of_mem _ (List.mem_append_left _ (List.mem_append_right _ h))) (by decide +kernel))
set_option maxRecDepth 20000 in
theorem gX5_put_X5_requireWithin : GoodIn wsX5_put (va_wsS RX5 67 yX5_requireWithin wsX5_requireWithin) := goodIn_app (goodIn_of _ (by decide +kernel)) ggX5_put_X5_requireWithin
set_option maxRecDepth 20000 in
theorem ggX5_put_X5_requireToCome : GoodIn wsX5_put wsX5_requireToCome := goodIn_ca (goodIn_r _ [10, 11, 12, 13, 14, 15, 16, 17, 18, 19, 20, 21, 70, 71, 72, 73, 74, 75, 76, 77, 78, 79, 80, 81] (by decide +kernel) (by decide +kernel)) (goodIn_sub (fun _ h => List.mem_cons_of_mem _ (List.mem_append_right _ h)) (by decide +kernel))
set_option maxRecDepth 20000 in
theorem gX5_put_X5_requireToCome : GoodIn wsX5_put (wsV RX5 117 RX5 yX5_requireToCome wsX5_requireToCome) := goodIn_app (goodIn_of _ (by decide +kernel)) ggX5_put_X5_requireToCome
set_option maxRecDepth 20000 in
theorem ggX5_put_X5_append : GoodIn wsX5_put wsX5_append := goodIn_r _ [25, 26, 13, 27, 28, 29, 3, 30, 31, 32, 33, 34, 17, 35, 21, 36, 37, 38, 39, 40, 41, 42, 43, 44, 45, 46, 47, 48, 49, 50, 51, 52, 53, 54, 55, 56, 57, 58, 59, 60, 61, 62, 63, 64, 65, 66, 67, 68, 69, 19, 70, 71, 72, 73, 74, 75, 76, 77, 78, 79, 80, 81, 82, 83, 84, 85] (by decide +kernel) (by decide +kernel)
set_option maxRecDepth 20000 in
theorem gX5_put_X5_append : GoodIn wsX5_put (wsV RX5 120 RX5 yX5_append wsX5_append) := goodIn_app (goodIn_of _ (by decide +kernel)) ggX5_put_X5_append
theorem dX5_put_0 : decode cX5_put 0 = .ok (.iload_n 1, 1) := by decide +kernel
theorem dX5_put_1 : decode cX5_put 1 = .ok (.iconst 0, 1) := by decide +kernel
theorem dX5_put_2 : decode cX5_put 2 = .ok (.sipush 255, 3) := by decide +kernel
theorem dX5_put_5 : decode cX5_put 5 = .ok (.invokestatic 67, 3) := by decide +kernel
theorem dX5_put_8 : decode cX5_put 8 = .ok (.aload_n 0, 1) := by decide +kernel
theorem dX5_put_9 : decode cX5_put 9 = .ok (.iconst 1, 1) := by decide +kernel
theorem dX5_put_10 : decode cX5_put 10 = .ok (.invokevirtual 117, 3) := by decide +kernel
theorem dX5_put_13 : decode cX5_put 13 = .ok (.aload_n 0, 1) := by decide +kernel
theorem dX5_put_14 : decode cX5_put 14 = .ok (.iload_n 1, 1) := by decide +kernel
theorem dX5_put_15 : decode cX5_put 15 = .ok (.invokevirtual 120, 3) := by decide +kernel
theorem dX5_put_18 : decode cX5_put 18 = .ok (.ireturn, 1) := by decide +kernel
set_option maxRecDepth 20000 in
theorem ggX5_copy_X5_requireWithin : GoodIn wsX5_copy wsX5_requireWithin := goodIn_ca (goodIn_r _ [8, 1, 2] (by decide +kernel) (by decide +kernel)) (goodIn_sub (fun _ h => List.mem_cons_of_mem _ (List.mem_append_left _ (List.mem_append_right _ h))) (by decide +kernel))
set_option maxRecDepth 20000 in
theorem gX5_copy_X5_requireWithin : GoodIn wsX5_copy (va_wsS RX5 67 yX5_requireWithin wsX5_requireWithin) := goodIn_app (goodIn_of _ (by decide +kernel)) ggX5_copy_X5_requireWithin
set_option maxRecDepth 20000 in
theorem ggX5_copy_X5_isOn : GoodIn wsX5_copy wsX5_isOn := goodIn_r _ [12, 4, 83, 84, 85, 86, 87, 88] (by decide +kernel) (by decide +kernel)
set_option maxRecDepth 20000 in
theorem gX5_copy_X5_isOn : GoodIn wsX5_copy (wsV RX5 46 RX5 yX5_isOn wsX5_isOn) := goodIn_app (goodIn_of _ (by decide +kernel)) ggX5_copy_X5_isOn
set_option maxRecDepth 20000 in
theorem ggX5_copy_X3_slotWord : GoodIn wsX5_copy wsX3_slotWord := goodIn_r _ [17, 18, 19, 20, 21, 22, 23, 24, 89, 90, 91, 92] (by decide +kernel) (by decide +kernel)
set_option maxRecDepth 20000 in
theorem gX5_copy_X3_slotWord : GoodIn wsX5_copy (wsV RX5 93 RX3 yX3_slotWord wsX3_slotWord) := goodIn_app (goodIn_of _ (by decide +kernel)) ggX5_copy_X3_slotWord
set_option maxRecDepth 20000 in
theorem ggX5_copy_X5_requireToCome : GoodIn wsX5_copy wsX5_requireToCome := goodIn_ca (goodIn_r _ [28, 29, 30, 31, 32, 33, 34, 35, 36, 37, 38, 39, 83, 84, 85, 86, 87, 88, 93, 94, 95, 96, 97, 98] (by decide +kernel) (by decide +kernel)) (goodIn_sub (fun _ h => List.mem_cons_of_mem _ (List.mem_append_right _ h)) (by decide +kernel))
set_option maxRecDepth 20000 in
theorem gX5_copy_X5_requireToCome : GoodIn wsX5_copy (wsV RX5 117 RX5 yX5_requireToCome wsX5_requireToCome) := goodIn_app (goodIn_of _ (by decide +kernel)) ggX5_copy_X5_requireToCome
set_option maxRecDepth 20000 in
theorem ggX5_copy_X3_imageWord : GoodIn wsX5_copy wsX3_imageWord := goodIn_r _ [43, 18, 19, 20, 21, 22, 23, 24, 89, 90, 91, 92] (by decide +kernel) (by decide +kernel)
set_option maxRecDepth 20000 in
theorem gX5_copy_X3_imageWord : GoodIn wsX5_copy (wsV RX5 129 RX3 yX3_imageWord wsX3_imageWord) := goodIn_app (goodIn_of _ (by decide +kernel)) ggX5_copy_X3_imageWord
set_option maxRecDepth 20000 in
theorem ggX5_copy_X5_append : GoodIn wsX5_copy wsX5_append := goodIn_r _ [47, 3, 31, 48, 49, 50, 7, 51, 4, 52, 53, 54, 35, 55, 39, 56, 57, 58, 16, 59, 18, 60, 61, 62, 22, 63, 64, 65, 66, 20, 21, 23, 24, 67, 68, 69, 70, 71, 72, 73, 74, 75, 76, 77, 78, 79, 80, 81, 82, 37, 83, 84, 85, 86, 87, 88, 93, 94, 95, 96, 97, 98, 89, 90, 91, 92] (by decide +kernel) (by decide +kernel)
set_option maxRecDepth 20000 in
theorem gX5_copy_X5_append : GoodIn wsX5_copy (wsV RX5 120 RX5 yX5_append wsX5_append) := goodIn_app (goodIn_of _ (by decide +kernel)) ggX5_copy_X5_append
theorem dX5_copy_0 : decode cX5_copy 0 = .ok (.iload_n 1, 1) := by decide +kernel
theorem dX5_copy_1 : decode cX5_copy 1 = .ok (.iconst 0, 1) := by decide +kernel
theorem dX5_copy_2 : decode cX5_copy 2 = .ok (.bipush 23, 2) := by decide +kernel
theorem dX5_copy_4 : decode cX5_copy 4 = .ok (.invokestatic 67, 3) := by decide +kernel
theorem dX5_copy_7 : decode cX5_copy 7 = .ok (.iload_n 2, 1) := by decide +kernel
theorem dX5_copy_8 : decode cX5_copy 8 = .ok (.iconst 1, 1) := by decide +kernel
theorem dX5_copy_9 : decode cX5_copy 9 = .ok (.bipush 24, 2) := by decide +kernel
theorem dX5_copy_11 : decode cX5_copy 11 = .ok (.invokestatic 67, 3) := by decide +kernel
theorem dX5_copy_14 : decode cX5_copy 14 = .ok (.aload_n 0, 1) := by decide +kernel
theorem dX5_copy_15 : decode cX5_copy 15 = .ok (.invokevirtual 46, 3) := by decide +kernel
theorem dX5_copy_18 : decode cX5_copy 18 = .ok (.ifCond .eq 31, 3) := by decide +kernel
theorem dX5_copy_21 : decode cX5_copy 21 = .ok (.iload_n 1, 1) := by decide +kernel
theorem dX5_copy_22 : decode cX5_copy 22 = .ok (.iload_n 2, 1) := by decide +kernel
theorem dX5_copy_23 : decode cX5_copy 23 = .ok (.iadd, 1) := by decide +kernel
theorem dX5_copy_24 : decode cX5_copy 24 = .ok (.aload_n 0, 1) := by decide +kernel
theorem dX5_copy_25 : decode cX5_copy 25 = .ok (.getfield 10, 3) := by decide +kernel
theorem dX5_copy_28 : decode cX5_copy 28 = .ok (.aload_n 0, 1) := by decide +kernel
theorem dX5_copy_29 : decode cX5_copy 29 = .ok (.getfield 42, 3) := by decide +kernel
theorem dX5_copy_32 : decode cX5_copy 32 = .ok (.iconst 2, 1) := by decide +kernel
theorem dX5_copy_33 : decode cX5_copy 33 = .ok (.invokevirtual 93, 3) := by decide +kernel
theorem dX5_copy_36 : decode cX5_copy 36 = .ok (.if_icmp .le 13, 3) := by decide +kernel
theorem dX5_copy_39 : decode cX5_copy 39 = .ok (.new 124, 3) := by decide +kernel
theorem dX5_copy_42 : decode cX5_copy 42 = .ok (.dup, 1) := by decide +kernel
theorem dX5_copy_43 : decode cX5_copy 43 = .ok (.ldc 126, 2) := by decide +kernel
theorem dX5_copy_45 : decode cX5_copy 45 = .ok (.invokespecial 128, 3) := by decide +kernel
theorem dX5_copy_48 : decode cX5_copy 48 = .ok (.athrow, 1) := by decide +kernel
theorem dX5_copy_49 : decode cX5_copy 49 = .ok (.aload_n 0, 1) := by decide +kernel
theorem dX5_copy_50 : decode cX5_copy 50 = .ok (.iload_n 2, 1) := by decide +kernel
theorem dX5_copy_51 : decode cX5_copy 51 = .ok (.invokevirtual 117, 3) := by decide +kernel
theorem dX5_copy_54 : decode cX5_copy 54 = .ok (.aload_n 0, 1) := by decide +kernel
theorem dX5_copy_55 : decode cX5_copy 55 = .ok (.getfield 42, 3) := by decide +kernel
theorem dX5_copy_58 : decode cX5_copy 58 = .ok (.istore_n 3, 1) := by decide +kernel
theorem dX5_copy_59 : decode cX5_copy 59 = .ok (.iconst 0, 1) := by decide +kernel
theorem dX5_copy_60 : decode cX5_copy 60 = .ok (.istore 4, 2) := by decide +kernel
theorem dX5_copy_62 : decode cX5_copy 62 = .ok (.iload 4, 2) := by decide +kernel
theorem dX5_copy_64 : decode cX5_copy 64 = .ok (.iload_n 2, 1) := by decide +kernel
theorem dX5_copy_65 : decode cX5_copy 65 = .ok (.if_icmp .ge 28, 3) := by decide +kernel
theorem dX5_copy_68 : decode cX5_copy 68 = .ok (.aload_n 0, 1) := by decide +kernel
theorem dX5_copy_69 : decode cX5_copy 69 = .ok (.aload_n 0, 1) := by decide +kernel
theorem dX5_copy_70 : decode cX5_copy 70 = .ok (.getfield 10, 3) := by decide +kernel
theorem dX5_copy_73 : decode cX5_copy 73 = .ok (.iload_n 3, 1) := by decide +kernel
theorem dX5_copy_74 : decode cX5_copy 74 = .ok (.iload_n 1, 1) := by decide +kernel
theorem dX5_copy_75 : decode cX5_copy 75 = .ok (.iload 4, 2) := by decide +kernel
theorem dX5_copy_77 : decode cX5_copy 77 = .ok (.iadd, 1) := by decide +kernel
theorem dX5_copy_78 : decode cX5_copy 78 = .ok (.invokevirtual 129, 3) := by decide +kernel
theorem dX5_copy_81 : decode cX5_copy 81 = .ok (.invokevirtual 120, 3) := by decide +kernel
theorem dX5_copy_84 : decode cX5_copy 84 = .ok (.ifCond .eq 9, 3) := by decide +kernel
theorem dX5_copy_87 : decode cX5_copy 87 = .ok (.iinc 4 1, 3) := by decide +kernel
theorem dX5_copy_90 : decode cX5_copy 90 = .ok (.goto (-28), 3) := by decide +kernel
theorem dX5_copy_93 : decode cX5_copy 93 = .ok (.iload 4, 2) := by decide +kernel
theorem dX5_copy_95 : decode cX5_copy 95 = .ok (.ireturn, 1) := by decide +kernel
set_option maxRecDepth 20000 in
theorem ggX5_finish_X5_requireFinishable : GoodIn wsX5_finish wsX5_requireFinishable := goodIn_ca (goodIn_ca (goodIn_r _ [7, 8, 9, 2, 1, 10, 11, 12, 13, 6, 14, 15, 16, 17, 18, 19, 20, 21, 22, 23, 24, 25, 26, 27, 28, 29, 30, 31, 32, 33, 34, 35, 36, 37, 38, 39, 40, 41, 42, 43, 44, 45, 46, 47, 48, 121, 122, 123, 124, 125, 126, 127, 128, 129, 130, 131, 132, 133, 134, 135, 136] (by decide +kernel) (by decide +kernel)) (goodIn_sub (fun _ h => List.mem_cons_of_mem _ (List.mem_append_left _ (List.mem_append_right _ h))) (by decide +kernel))) (goodIn_sub (fun _ h => List.mem_cons_of_mem _ (List.mem_append_right _ h)) (by decide +kernel))
set_option maxRecDepth 20000 in
theorem gX5_finish_X5_requireFinishable : GoodIn wsX5_finish (wsV RX5 132 RX5 yX5_requireFinishable wsX5_requireFinishable) := goodIn_app (goodIn_of _ (by decide +kernel)) ggX5_finish_X5_requireFinishable
set_option maxRecDepth 20000 in
theorem ggX5_finish_X5_idleSlot : GoodIn wsX5_finish wsX5_idleSlot := goodIn_r _ [28, 29, 121, 122, 123, 124, 125, 126] (by decide +kernel) (by decide +kernel)
set_option maxRecDepth 20000 in
theorem gX5_finish_X5_idleSlot : GoodIn wsX5_finish (wsV RX5 106 RX5 yX5_idleSlot wsX5_idleSlot) := goodIn_app (goodIn_of _ (by decide +kernel)) ggX5_finish_X5_idleSlot
set_option maxRecDepth 20000 in
theorem ggX5_finish_X3_writeUpdate : GoodIn wsX5_finish wsX3_writeUpdate := goodIn_r _ [52, 53, 54, 55, 56, 57, 58, 59, 33, 60, 39, 61, 62, 63, 43, 64, 65, 66, 67, 41, 42, 44, 45, 68, 69, 70, 71, 72, 73, 74, 75, 76, 77, 78, 79, 80, 81, 82, 83, 84, 85, 86, 87, 40, 88, 89, 90, 91, 92, 93, 94, 95, 96, 97, 98, 99, 100, 101, 102, 103, 104, 105, 106, 107, 108, 127, 128, 129, 130, 131, 132, 133, 134, 135, 136] (by decide +kernel) (by decide +kernel)
set_option maxRecDepth 20000 in
theorem gX5_finish_X3_writeUpdate : GoodIn wsX5_finish (wsV RX5 135 RX3 yX3_writeUpdate wsX3_writeUpdate) := goodIn_app (goodIn_of _ (by decide +kernel)) ggX5_finish_X3_writeUpdate
set_option maxRecDepth 20000 in
theorem ggX5_finish_X4_end : GoodIn wsX5_finish wsX4_end := goodIn_r _ [112, 22, 127, 128, 129, 130, 131, 132] (by decide +kernel) (by decide +kernel)
set_option maxRecDepth 20000 in
theorem gX5_finish_X4_end : GoodIn wsX5_finish (wsV RX5 139 RX4 yX4_end wsX4_end) := goodIn_app (goodIn_of _ (by decide +kernel)) ggX5_finish_X4_end
set_option maxRecDepth 20000 in
theorem ggX5_finish_X5_stayOn : GoodIn wsX5_finish wsX5_stayOn := goodIn_r _ [116, 117, 118, 119, 6, 120, 29, 2, 109, 110, 111, 20, 112, 22, 121, 122, 123, 124, 125, 126, 127, 128, 129, 130, 131, 132] (by decide +kernel) (by decide +kernel)
set_option maxRecDepth 20000 in
theorem gX5_finish_X5_stayOn : GoodIn wsX5_finish (wsV RX5 113 RX5 yX5_stayOn wsX5_stayOn) := goodIn_app (goodIn_of _ (by decide +kernel)) ggX5_finish_X5_stayOn
theorem dX5_finish_0 : decode cX5_finish 0 = .ok (.aload_n 0, 1) := by decide +kernel
theorem dX5_finish_1 : decode cX5_finish 1 = .ok (.iload_n 1, 1) := by decide +kernel
theorem dX5_finish_2 : decode cX5_finish 2 = .ok (.invokevirtual 132, 3) := by decide +kernel
theorem dX5_finish_5 : decode cX5_finish 5 = .ok (.aload_n 0, 1) := by decide +kernel
theorem dX5_finish_6 : decode cX5_finish 6 = .ok (.getfield 10, 3) := by decide +kernel
theorem dX5_finish_9 : decode cX5_finish 9 = .ok (.aload_n 0, 1) := by decide +kernel
theorem dX5_finish_10 : decode cX5_finish 10 = .ok (.invokevirtual 106, 3) := by decide +kernel
theorem dX5_finish_13 : decode cX5_finish 13 = .ok (.aload_n 0, 1) := by decide +kernel
theorem dX5_finish_14 : decode cX5_finish 14 = .ok (.getfield 22, 3) := by decide +kernel
theorem dX5_finish_17 : decode cX5_finish 17 = .ok (.iload_n 1, 1) := by decide +kernel
theorem dX5_finish_18 : decode cX5_finish 18 = .ok (.invokevirtual 135, 3) := by decide +kernel
theorem dX5_finish_21 : decode cX5_finish 21 = .ok (.istore_n 2, 1) := by decide +kernel
theorem dX5_finish_22 : decode cX5_finish 22 = .ok (.aload_n 0, 1) := by decide +kernel
theorem dX5_finish_23 : decode cX5_finish 23 = .ok (.getfield 22, 3) := by decide +kernel
theorem dX5_finish_26 : decode cX5_finish 26 = .ok (.invokevirtual 139, 3) := by decide +kernel
theorem dX5_finish_29 : decode cX5_finish 29 = .ok (.aload_n 0, 1) := by decide +kernel
theorem dX5_finish_30 : decode cX5_finish 30 = .ok (.iload_n 2, 1) := by decide +kernel
theorem dX5_finish_31 : decode cX5_finish 31 = .ok (.invokevirtual 113, 3) := by decide +kernel
theorem dX5_finish_34 : decode cX5_finish 34 = .ok (.ireturn, 1) := by decide +kernel
set_option maxRecDepth 20000 in
theorem ggX5_confirm_X5_requireOn : GoodIn wsX5_confirm wsX5_requireOn := goodIn_ca (goodIn_r _ [13, 1, 2, 14, 15, 16, 12, 17, 4, 97, 98, 99, 100, 101, 102] (by decide +kernel) (by decide +kernel)) (goodIn_sub (fun _ h => List.mem_cons_of_mem _ (List.mem_append_right _ h)) (by decide +kernel))
set_option maxRecDepth 20000 in
theorem gX5_confirm_X5_requireOn : GoodIn wsX5_confirm (wsV RX5 61 RX5 yX5_requireOn wsX5_requireOn) := goodIn_app (goodIn_of _ (by decide +kernel)) ggX5_confirm_X5_requireOn
set_option maxRecDepth 20000 in
theorem ggX5_confirm_X5_isOnTrial : GoodIn wsX5_confirm wsX5_isOnTrial := goodIn_r _ [21, 4, 3, 14, 15, 16, 12, 17, 22, 23, 24, 25, 26, 27, 28, 29, 30, 31, 32, 33, 34, 35, 36, 37, 38, 39, 40, 41, 42, 43, 44, 45, 46, 47, 48, 49, 50, 51, 97, 98, 99, 100, 101, 102, 103, 104, 105, 106] (by decide +kernel) (by decide +kernel)
set_option maxRecDepth 20000 in
theorem gX5_confirm_X5_isOnTrial : GoodIn wsX5_confirm (wsV RX5 142 RX5 yX5_isOnTrial wsX5_isOnTrial) := goodIn_app (goodIn_of _ (by decide +kernel)) ggX5_confirm_X5_isOnTrial
set_option maxRecDepth 20000 in
theorem ggX5_confirm_X3_recordCounter : GoodIn wsX5_confirm wsX3_recordCounter := goodIn_r _ [55, 27, 28, 29, 25, 30, 31, 32, 33, 34, 35, 36, 37, 38, 39, 40, 41, 42, 43, 44, 45, 46, 47, 48, 103, 104, 105, 106] (by decide +kernel) (by decide +kernel)
set_option maxRecDepth 20000 in
theorem gX5_confirm_X3_recordCounter : GoodIn wsX5_confirm (wsV RX5 97 RX3 yX3_recordCounter wsX3_recordCounter) := goodIn_app (goodIn_of _ (by decide +kernel)) ggX5_confirm_X3_recordCounter
set_option maxRecDepth 20000 in
theorem ggX5_confirm_X3_slotWord : GoodIn wsX5_confirm wsX3_slotWord := goodIn_r _ [59, 39, 40, 41, 42, 43, 44, 45, 103, 104, 105, 106] (by decide +kernel) (by decide +kernel)
set_option maxRecDepth 20000 in
theorem gX5_confirm_X3_slotWord : GoodIn wsX5_confirm (wsV RX5 93 RX3 yX3_slotWord wsX3_slotWord) := goodIn_app (goodIn_of _ (by decide +kernel)) ggX5_confirm_X3_slotWord
set_option maxRecDepth 20000 in
theorem ggX5_confirm_X3_settledState : GoodIn wsX5_confirm wsX3_settledState := goodIn_r _ [62] (by decide +kernel) (by decide +kernel)
set_option maxRecDepth 20000 in
theorem gX5_confirm_X3_settledState : GoodIn wsX5_confirm (va_wsS RX5 152 yX3_settledState wsX3_settledState) := goodIn_app (goodIn_of _ (by decide +kernel)) ggX5_confirm_X3_settledState
set_option maxRecDepth 20000 in
theorem ggX5_confirm_X3_writeRecord : GoodIn wsX5_confirm wsX3_writeRecord := goodIn_r _ [66, 27, 28, 29, 25, 30, 31, 32, 33, 34, 35, 36, 37, 38, 39, 40, 41, 42, 43, 44, 45, 46, 47, 48, 67, 68, 69, 70, 71, 72, 73, 74, 75, 76, 77, 78, 79, 80, 81, 103, 104, 105, 106] (by decide +kernel) (by decide +kernel)
set_option maxRecDepth 20000 in
theorem gX5_confirm_X3_writeRecord : GoodIn wsX5_confirm (wsV RX5 156 RX3 yX3_writeRecord wsX3_writeRecord) := goodIn_app (goodIn_of _ (by decide +kernel)) ggX5_confirm_X3_writeRecord
set_option maxRecDepth 20000 in
theorem ggX5_confirm_X5_stayOn : GoodIn wsX5_confirm wsX5_stayOn := goodIn_r _ [85, 86, 87, 88, 12, 89, 4, 90, 91, 92, 93, 94, 95, 96, 97, 98, 99, 100, 101, 102, 107, 108, 109, 110, 111, 112] (by decide +kernel) (by decide +kernel)
set_option maxRecDepth 20000 in
theorem gX5_confirm_X5_stayOn : GoodIn wsX5_confirm (wsV RX5 113 RX5 yX5_stayOn wsX5_stayOn) := goodIn_app (goodIn_of _ (by decide +kernel)) ggX5_confirm_X5_stayOn
theorem dX5_confirm_0 : decode cX5_confirm 0 = .ok (.aload_n 0, 1) := by decide +kernel
theorem dX5_confirm_1 : decode cX5_confirm 1 = .ok (.invokevirtual 61, 3) := by decide +kernel
theorem dX5_confirm_4 : decode cX5_confirm 4 = .ok (.aload_n 0, 1) := by decide +kernel
theorem dX5_confirm_5 : decode cX5_confirm 5 = .ok (.invokevirtual 142, 3) := by decide +kernel
theorem dX5_confirm_8 : decode cX5_confirm 8 = .ok (.ifCond .ne 13, 3) := by decide +kernel
theorem dX5_confirm_11 : decode cX5_confirm 11 = .ok (.new 50, 3) := by decide +kernel
theorem dX5_confirm_14 : decode cX5_confirm 14 = .ok (.dup, 1) := by decide +kernel
theorem dX5_confirm_15 : decode cX5_confirm 15 = .ok (.ldc 145, 2) := by decide +kernel
theorem dX5_confirm_17 : decode cX5_confirm 17 = .ok (.invokespecial 54, 3) := by decide +kernel
theorem dX5_confirm_20 : decode cX5_confirm 20 = .ok (.athrow, 1) := by decide +kernel
theorem dX5_confirm_21 : decode cX5_confirm 21 = .ok (.aload_n 0, 1) := by decide +kernel
theorem dX5_confirm_22 : decode cX5_confirm 22 = .ok (.getfield 10, 3) := by decide +kernel
theorem dX5_confirm_25 : decode cX5_confirm 25 = .ok (.invokevirtual 97, 3) := by decide +kernel
theorem dX5_confirm_28 : decode cX5_confirm 28 = .ok (.aload_n 0, 1) := by decide +kernel
theorem dX5_confirm_29 : decode cX5_confirm 29 = .ok (.getfield 10, 3) := by decide +kernel
theorem dX5_confirm_32 : decode cX5_confirm 32 = .ok (.aload_n 0, 1) := by decide +kernel
theorem dX5_confirm_33 : decode cX5_confirm 33 = .ok (.getfield 42, 3) := by decide +kernel
theorem dX5_confirm_36 : decode cX5_confirm 36 = .ok (.iconst 4, 1) := by decide +kernel
theorem dX5_confirm_37 : decode cX5_confirm 37 = .ok (.invokevirtual 93, 3) := by decide +kernel
theorem dX5_confirm_40 : decode cX5_confirm 40 = .ok (.invokestatic 147, 3) := by decide +kernel
theorem dX5_confirm_43 : decode cX5_confirm 43 = .ok (.istore_n 1, 1) := by decide +kernel
theorem dX5_confirm_44 : decode cX5_confirm 44 = .ok (.aload_n 0, 1) := by decide +kernel
theorem dX5_confirm_45 : decode cX5_confirm 45 = .ok (.aload_n 0, 1) := by decide +kernel
theorem dX5_confirm_46 : decode cX5_confirm 46 = .ok (.getfield 10, 3) := by decide +kernel
theorem dX5_confirm_49 : decode cX5_confirm 49 = .ok (.aload_n 0, 1) := by decide +kernel
theorem dX5_confirm_50 : decode cX5_confirm 50 = .ok (.getfield 42, 3) := by decide +kernel
theorem dX5_confirm_53 : decode cX5_confirm 53 = .ok (.invokestatic 152, 3) := by decide +kernel
theorem dX5_confirm_56 : decode cX5_confirm 56 = .ok (.iload_n 1, 1) := by decide +kernel
theorem dX5_confirm_57 : decode cX5_confirm 57 = .ok (.invokevirtual 156, 3) := by decide +kernel
theorem dX5_confirm_60 : decode cX5_confirm 60 = .ok (.invokevirtual 113, 3) := by decide +kernel
theorem dX5_confirm_63 : decode cX5_confirm 63 = .ok (.ireturn, 1) := by decide +kernel
set_option maxRecDepth 20000 in
theorem ggX5_toCome_X4_bytesToCome : GoodIn wsX5_toCome wsX4_bytesToCome := goodIn_r _ [6, 7, 8, 9, 16, 17, 18, 19, 20, 21] (by decide +kernel) (by decide +kernel)
set_option maxRecDepth 20000 in
theorem gX5_toCome_X4_bytesToCome : GoodIn wsX5_toCome (wsV RX5 160 RX4 yX4_bytesToCome wsX4_bytesToCome) := goodIn_app (goodIn_of _ (by decide +kernel)) ggX5_toCome_X4_bytesToCome
theorem dX5_toCome_0 : decode cX5_toCome 0 = .ok (.aload_n 0, 1) := by decide +kernel
theorem dX5_toCome_1 : decode cX5_toCome 1 = .ok (.getfield 22, 3) := by decide +kernel
theorem dX5_toCome_4 : decode cX5_toCome 4 = .ok (.invokevirtual 160, 3) := by decide +kernel
theorem dX5_toCome_7 : decode cX5_toCome 7 = .ok (.ireturn, 1) := by decide +kernel
set_option maxRecDepth 20000 in
theorem ggX5_draft_X5_requireWithin : GoodIn wsX5_draft wsX5_requireWithin := goodIn_ca (goodIn_r _ [7, 8, 9] (by decide +kernel) (by decide +kernel)) (goodIn_sub (fun _ h => List.mem_cons_of_mem _ (List.mem_append_right _ h)) (by decide +kernel))
set_option maxRecDepth 20000 in
theorem gX5_draft_X5_requireWithin : GoodIn wsX5_draft (va_wsS RX5 67 yX5_requireWithin wsX5_requireWithin) := goodIn_app (goodIn_of _ (by decide +kernel)) ggX5_draft_X5_requireWithin
set_option maxRecDepth 20000 in
theorem ggX5_draft_X1_isFull : GoodIn wsX5_draft wsX1_isFull := goodIn_r _ [14, 15, 16, 27, 28] (by decide +kernel) (by decide +kernel)
set_option maxRecDepth 20000 in
theorem gX5_draft_X1_isFull : GoodIn wsX5_draft (wsV RX5 163 RX1 yX1_isFull wsX1_isFull) := goodIn_app (goodIn_of _ (by decide +kernel)) ggX5_draft_X1_isFull
set_option maxRecDepth 20000 in
theorem ggX5_draft_X1_append : GoodIn wsX5_draft wsX1_append := goodIn_r _ [20, 15, 16, 27, 28] (by decide +kernel) (by decide +kernel)
set_option maxRecDepth 20000 in
theorem gX5_draft_X1_append : GoodIn wsX5_draft (wsV RX5 168 RX1 yX1_append wsX1_append) := goodIn_app (goodIn_of _ (by decide +kernel)) ggX5_draft_X1_append
end
section
theorem dX5_draft_0 : decode cX5_draft 0 = .ok (.iload_n 1, 1) := by decide +kernel
theorem dX5_draft_1 : decode cX5_draft 1 = .ok (.iconst 0, 1) := by decide +kernel
theorem dX5_draft_2 : decode cX5_draft 2 = .ok (.sipush 255, 3) := by decide +kernel
theorem dX5_draft_5 : decode cX5_draft 5 = .ok (.invokestatic 67, 3) := by decide +kernel
theorem dX5_draft_8 : decode cX5_draft 8 = .ok (.aload_n 0, 1) := by decide +kernel
theorem dX5_draft_9 : decode cX5_draft 9 = .ok (.getfield 29, 3) := by decide +kernel
theorem dX5_draft_12 : decode cX5_draft 12 = .ok (.invokevirtual 163, 3) := by decide +kernel
theorem dX5_draft_15 : decode cX5_draft 15 = .ok (.ifCond .eq 13, 3) := by decide +kernel
theorem dX5_draft_18 : decode cX5_draft 18 = .ok (.new 50, 3) := by decide +kernel
theorem dX5_draft_21 : decode cX5_draft 21 = .ok (.dup, 1) := by decide +kernel
theorem dX5_draft_22 : decode cX5_draft 22 = .ok (.ldc 166, 2) := by decide +kernel
theorem dX5_draft_24 : decode cX5_draft 24 = .ok (.invokespecial 54, 3) := by decide +kernel
theorem dX5_draft_27 : decode cX5_draft 27 = .ok (.athrow, 1) := by decide +kernel
theorem dX5_draft_28 : decode cX5_draft 28 = .ok (.aload_n 0, 1) := by decide +kernel
theorem dX5_draft_29 : decode cX5_draft 29 = .ok (.getfield 29, 3) := by decide +kernel
theorem dX5_draft_32 : decode cX5_draft 32 = .ok (.iload_n 1, 1) := by decide +kernel
theorem dX5_draft_33 : decode cX5_draft 33 = .ok (.invokevirtual 168, 3) := by decide +kernel
theorem dX5_draft_36 : decode cX5_draft 36 = .ok (.ireturn, 1) := by decide +kernel
set_option maxRecDepth 20000 in
theorem ggX5_clearDraft_X1_clear : GoodIn wsX5_clearDraft wsX1_clear := goodIn_r _ [6, 7, 14, 15] (by decide +kernel) (by decide +kernel)
set_option maxRecDepth 20000 in
theorem gX5_clearDraft_X1_clear : GoodIn wsX5_clearDraft (wsV RX5 170 RX1 yX1_clear wsX1_clear) := goodIn_app (goodIn_of _ (by decide +kernel)) ggX5_clearDraft_X1_clear
theorem dX5_clearDraft_0 : decode cX5_clearDraft 0 = .ok (.aload_n 0, 1) := by decide +kernel
theorem dX5_clearDraft_1 : decode cX5_clearDraft 1 = .ok (.getfield 29, 3) := by decide +kernel
theorem dX5_clearDraft_4 : decode cX5_clearDraft 4 = .ok (.invokevirtual 170, 3) := by decide +kernel
theorem dX5_clearDraft_7 : decode cX5_clearDraft 7 = .ok (.ireturn, 1) := by decide +kernel
set_option maxRecDepth 20000 in
theorem ggX5_draftHash_X1_hash : GoodIn wsX5_draftHash wsX1_hash := goodIn_r _ [6, 7, 8, 9, 10, 5, 11, 12, 13, 14, 15, 16, 23, 24] (by decide +kernel) (by decide +kernel)
set_option maxRecDepth 20000 in
theorem gX5_draftHash_X1_hash : GoodIn wsX5_draftHash (wsV RX5 173 RX1 yX1_hash wsX1_hash) := goodIn_app (goodIn_of _ (by decide +kernel)) ggX5_draftHash_X1_hash
theorem dX5_draftHash_0 : decode cX5_draftHash 0 = .ok (.aload_n 0, 1) := by decide +kernel
theorem dX5_draftHash_1 : decode cX5_draftHash 1 = .ok (.getfield 29, 3) := by decide +kernel
theorem dX5_draftHash_4 : decode cX5_draftHash 4 = .ok (.invokevirtual 173, 3) := by decide +kernel
theorem dX5_draftHash_7 : decode cX5_draftHash 7 = .ok (.ireturn, 1) := by decide +kernel
set_option maxRecDepth 20000 in
theorem ggX5_deltaPieces_X5_requireStartable : GoodIn wsX5_deltaPieces wsX5_requireStartable := goodIn_ca (goodIn_ca (goodIn_r _ [6, 7, 8, 9, 10, 11, 5, 12, 13, 14, 15, 16, 17, 18, 19, 20, 21, 22, 23, 24, 25, 26, 27, 28, 29, 30, 31, 32, 33, 34, 35, 36, 37, 38, 39, 40, 41, 74, 75, 76, 77, 78, 79, 80, 81, 82, 83] (by decide +kernel) (by decide +kernel)) (goodIn_sub (fun _ h => List.mem_cons_of_mem _ (List.mem_append_left _ (List.mem_append_right _ h))) (by decide +kernel))) (goodIn_sub (fun _ h => List.mem_cons_of_mem _ (List.mem_append_right _ h)) (by decide +kernel))
set_option maxRecDepth 20000 in
theorem gX5_deltaPieces_X5_requireStartable : GoodIn wsX5_deltaPieces (wsV RX5 176 RX5 yX5_requireStartable wsX5_requireStartable) := goodIn_app (goodIn_of _ (by decide +kernel)) ggX5_deltaPieces_X5_requireStartable
set_option maxRecDepth 20000 in
theorem ggX5_deltaPieces_X0_pieceCount : GoodIn wsX5_deltaPieces wsX0_pieceCount := goodIn_r _ [46, 47, 48, 49, 50, 51, 45, 52, 53, 54, 55, 56, 57, 58, 21, 22, 18, 23, 24, 25, 26, 27, 28, 29, 30, 59, 60, 61, 62, 63, 64, 65, 66, 67, 36, 37, 38, 68, 69, 70, 71, 72, 73, 84, 85, 86, 87, 80, 81, 82, 83] (by decide +kernel) (by decide +kernel)
set_option maxRecDepth 20000 in
theorem gX5_deltaPieces_X0_pieceCount : GoodIn wsX5_deltaPieces (wsV RX5 179 RX0 yX0_pieceCount wsX0_pieceCount) := goodIn_app (goodIn_of _ (by decide +kernel)) ggX5_deltaPieces_X0_pieceCount
theorem dX5_deltaPieces_0 : decode cX5_deltaPieces 0 = .ok (.aload_n 0, 1) := by decide +kernel
theorem dX5_deltaPieces_1 : decode cX5_deltaPieces 1 = .ok (.iload_n 1, 1) := by decide +kernel
theorem dX5_deltaPieces_2 : decode cX5_deltaPieces 2 = .ok (.invokevirtual 176, 3) := by decide +kernel
theorem dX5_deltaPieces_5 : decode cX5_deltaPieces 5 = .ok (.aload_n 0, 1) := by decide +kernel
theorem dX5_deltaPieces_6 : decode cX5_deltaPieces 6 = .ok (.getfield 38, 3) := by decide +kernel
theorem dX5_deltaPieces_9 : decode cX5_deltaPieces 9 = .ok (.iload_n 1, 1) := by decide +kernel
theorem dX5_deltaPieces_10 : decode cX5_deltaPieces 10 = .ok (.invokevirtual 179, 3) := by decide +kernel
theorem dX5_deltaPieces_13 : decode cX5_deltaPieces 13 = .ok (.ireturn, 1) := by decide +kernel
set_option maxRecDepth 20000 in
theorem ggX5_deltaLength_X5_requireStartable : GoodIn wsX5_deltaLength wsX5_requireStartable := goodIn_ca (goodIn_ca (goodIn_r _ [6, 7, 8, 9, 10, 11, 5, 12, 13, 14, 15, 16, 17, 18, 19, 20, 21, 22, 23, 24, 25, 26, 27, 28, 29, 30, 31, 32, 33, 34, 35, 36, 37, 38, 39, 40, 41, 80, 81, 82, 83, 84, 85, 86, 87, 88, 89] (by decide +kernel) (by decide +kernel)) (goodIn_sub (fun _ h => List.mem_cons_of_mem _ (List.mem_append_left _ (List.mem_append_left _ (List.mem_append_right _ h)))) (by decide +kernel))) (goodIn_sub (fun _ h => List.mem_cons_of_mem _ (List.mem_append_left _ (List.mem_append_right _ h))) (by decide +kernel))
set_option maxRecDepth 20000 in
theorem gX5_deltaLength_X5_requireStartable : GoodIn wsX5_deltaLength (wsV RX5 176 RX5 yX5_requireStartable wsX5_requireStartable) := goodIn_app (goodIn_of _ (by decide +kernel)) ggX5_deltaLength_X5_requireStartable
set_option maxRecDepth 20000 in
theorem ggX5_deltaLength_X0_pieceStart : GoodIn wsX5_deltaLength wsX0_pieceStart := goodIn_r _ [46, 47, 48, 49, 50, 51, 45, 52, 53, 54, 55, 56, 57, 58, 21, 22, 18, 23, 24, 25, 26, 27, 28, 29, 30, 59, 60, 61, 62, 63, 64, 65, 66, 67, 36, 37, 38, 68, 69, 70, 71, 72, 73, 90, 91, 92, 93, 86, 87, 88, 89] (by decide +kernel) (by decide +kernel)
set_option maxRecDepth 20000 in
theorem gX5_deltaLength_X0_pieceStart : GoodIn wsX5_deltaLength (wsV RX5 182 RX0 yX0_pieceStart wsX0_pieceStart) := goodIn_app (goodIn_of _ (by decide +kernel)) ggX5_deltaLength_X0_pieceStart
set_option maxRecDepth 20000 in
theorem ggX5_deltaLength_X5_requirePiece : GoodIn wsX5_deltaLength wsX5_requirePiece := goodIn_ca (goodIn_r _ [76, 77, 78] (by decide +kernel) (by decide +kernel)) (goodIn_sub (fun _ h => List.mem_cons_of_mem _ (List.mem_append_right _ h)) (by decide +kernel))
set_option maxRecDepth 20000 in
theorem gX5_deltaLength_X5_requirePiece : GoodIn wsX5_deltaLength (va_wsS RX5 185 yX5_requirePiece wsX5_requirePiece) := goodIn_app (goodIn_of _ (by decide +kernel)) ggX5_deltaLength_X5_requirePiece
set_option maxRecDepth 20000 in
theorem ggX5_deltaLength_X0_pieceLength : GoodIn wsX5_deltaLength wsX0_pieceLength := goodIn_r _ [52, 53, 54, 55, 45, 56, 57, 58, 21, 22, 18, 23, 24, 25, 26, 27, 28, 29, 30, 59, 60, 61, 62, 47, 48, 63, 64, 65, 66, 67, 36, 37, 38, 68, 69, 70, 71, 72, 73, 90, 91, 86, 87, 88, 89, 92, 93] (by decide +kernel) (by decide +kernel)
set_option maxRecDepth 20000 in
theorem gX5_deltaLength_X0_pieceLength : GoodIn wsX5_deltaLength (wsV RX5 188 RX0 yX0_pieceLength wsX0_pieceLength) := goodIn_app (goodIn_of _ (by decide +kernel)) ggX5_deltaLength_X0_pieceLength
theorem dX5_deltaLength_0 : decode cX5_deltaLength 0 = .ok (.aload_n 0, 1) := by decide +kernel
theorem dX5_deltaLength_1 : decode cX5_deltaLength 1 = .ok (.iload_n 1, 1) := by decide +kernel
theorem dX5_deltaLength_2 : decode cX5_deltaLength 2 = .ok (.invokevirtual 176, 3) := by decide +kernel
theorem dX5_deltaLength_5 : decode cX5_deltaLength 5 = .ok (.aload_n 0, 1) := by decide +kernel
theorem dX5_deltaLength_6 : decode cX5_deltaLength 6 = .ok (.getfield 38, 3) := by decide +kernel
theorem dX5_deltaLength_9 : decode cX5_deltaLength 9 = .ok (.iload_n 1, 1) := by decide +kernel
theorem dX5_deltaLength_10 : decode cX5_deltaLength 10 = .ok (.iload_n 2, 1) := by decide +kernel
theorem dX5_deltaLength_11 : decode cX5_deltaLength 11 = .ok (.invokevirtual 182, 3) := by decide +kernel
theorem dX5_deltaLength_14 : decode cX5_deltaLength 14 = .ok (.istore_n 3, 1) := by decide +kernel
theorem dX5_deltaLength_15 : decode cX5_deltaLength 15 = .ok (.iload_n 3, 1) := by decide +kernel
theorem dX5_deltaLength_16 : decode cX5_deltaLength 16 = .ok (.invokestatic 185, 3) := by decide +kernel
theorem dX5_deltaLength_19 : decode cX5_deltaLength 19 = .ok (.aload_n 0, 1) := by decide +kernel
theorem dX5_deltaLength_20 : decode cX5_deltaLength 20 = .ok (.getfield 38, 3) := by decide +kernel
theorem dX5_deltaLength_23 : decode cX5_deltaLength 23 = .ok (.iload_n 1, 1) := by decide +kernel
theorem dX5_deltaLength_24 : decode cX5_deltaLength 24 = .ok (.iload_n 3, 1) := by decide +kernel
theorem dX5_deltaLength_25 : decode cX5_deltaLength 25 = .ok (.invokevirtual 188, 3) := by decide +kernel
theorem dX5_deltaLength_28 : decode cX5_deltaLength 28 = .ok (.ireturn, 1) := by decide +kernel
set_option maxRecDepth 20000 in
theorem ggX5_deltaFrom_X5_requireStartable : GoodIn wsX5_deltaFrom wsX5_requireStartable := goodIn_ca (goodIn_ca (goodIn_r _ [6, 7, 8, 9, 10, 11, 5, 12, 13, 14, 15, 16, 17, 18, 19, 20, 21, 22, 23, 24, 25, 26, 27, 28, 29, 30, 31, 32, 33, 34, 35, 36, 37, 38, 39, 40, 41, 80, 81, 82, 83, 84, 85, 86, 87, 88, 89] (by decide +kernel) (by decide +kernel)) (goodIn_sub (fun _ h => List.mem_cons_of_mem _ (List.mem_append_left _ (List.mem_append_left _ (List.mem_append_right _ h)))) (by decide +kernel))) (goodIn_sub (fun _ h => List.mem_cons_of_mem _ (List.mem_append_left _ (List.mem_append_right _ h))) (by decide +kernel))
set_option maxRecDepth 20000 in
theorem gX5_deltaFrom_X5_requireStartable : GoodIn wsX5_deltaFrom (wsV RX5 176 RX5 yX5_requireStartable wsX5_requireStartable) := goodIn_app (goodIn_of _ (by decide +kernel)) ggX5_deltaFrom_X5_requireStartable
set_option maxRecDepth 20000 in
theorem ggX5_deltaFrom_X0_pieceStart : GoodIn wsX5_deltaFrom wsX0_pieceStart := goodIn_r _ [46, 47, 48, 49, 50, 51, 45, 52, 53, 54, 55, 56, 57, 58, 21, 22, 18, 23, 24, 25, 26, 27, 28, 29, 30, 59, 60, 61, 62, 63, 64, 65, 66, 67, 36, 37, 38, 68, 69, 70, 71, 72, 73, 90, 91, 92, 93, 86, 87, 88, 89] (by decide +kernel) (by decide +kernel)
set_option maxRecDepth 20000 in
theorem gX5_deltaFrom_X0_pieceStart : GoodIn wsX5_deltaFrom (wsV RX5 182 RX0 yX0_pieceStart wsX0_pieceStart) := goodIn_app (goodIn_of _ (by decide +kernel)) ggX5_deltaFrom_X0_pieceStart
set_option maxRecDepth 20000 in
theorem ggX5_deltaFrom_X5_requirePiece : GoodIn wsX5_deltaFrom wsX5_requirePiece := goodIn_ca (goodIn_r _ [76, 77, 78] (by decide +kernel) (by decide +kernel)) (goodIn_sub (fun _ h => List.mem_cons_of_mem _ (List.mem_append_right _ h)) (by decide +kernel))
set_option maxRecDepth 20000 in
theorem gX5_deltaFrom_X5_requirePiece : GoodIn wsX5_deltaFrom (va_wsS RX5 185 yX5_requirePiece wsX5_requirePiece) := goodIn_app (goodIn_of _ (by decide +kernel)) ggX5_deltaFrom_X5_requirePiece
set_option maxRecDepth 20000 in
theorem ggX5_deltaFrom_X0_runFrom : GoodIn wsX5_deltaFrom wsX0_runFrom := goodIn_r _ [56, 57, 58, 21, 22, 18, 23, 24, 25, 26, 27, 28, 29, 30, 59, 60, 61, 45, 62, 47, 48, 63, 64, 65, 66, 67, 36, 37, 38, 68, 69, 70, 71, 72, 73, 90, 91, 86, 87, 88, 89, 92, 93] (by decide +kernel) (by decide +kernel)
set_option maxRecDepth 20000 in
theorem gX5_deltaFrom_X0_runFrom : GoodIn wsX5_deltaFrom (wsV RX5 191 RX0 yX0_runFrom wsX0_runFrom) := goodIn_app (goodIn_of _ (by decide +kernel)) ggX5_deltaFrom_X0_runFrom
theorem dX5_deltaFrom_0 : decode cX5_deltaFrom 0 = .ok (.aload_n 0, 1) := by decide +kernel
theorem dX5_deltaFrom_1 : decode cX5_deltaFrom 1 = .ok (.iload_n 1, 1) := by decide +kernel
theorem dX5_deltaFrom_2 : decode cX5_deltaFrom 2 = .ok (.invokevirtual 176, 3) := by decide +kernel
theorem dX5_deltaFrom_5 : decode cX5_deltaFrom 5 = .ok (.aload_n 0, 1) := by decide +kernel
theorem dX5_deltaFrom_6 : decode cX5_deltaFrom 6 = .ok (.getfield 38, 3) := by decide +kernel
theorem dX5_deltaFrom_9 : decode cX5_deltaFrom 9 = .ok (.iload_n 1, 1) := by decide +kernel
theorem dX5_deltaFrom_10 : decode cX5_deltaFrom 10 = .ok (.iload_n 2, 1) := by decide +kernel
theorem dX5_deltaFrom_11 : decode cX5_deltaFrom 11 = .ok (.invokevirtual 182, 3) := by decide +kernel
theorem dX5_deltaFrom_14 : decode cX5_deltaFrom 14 = .ok (.istore_n 3, 1) := by decide +kernel
theorem dX5_deltaFrom_15 : decode cX5_deltaFrom 15 = .ok (.iload_n 3, 1) := by decide +kernel
theorem dX5_deltaFrom_16 : decode cX5_deltaFrom 16 = .ok (.invokestatic 185, 3) := by decide +kernel
theorem dX5_deltaFrom_19 : decode cX5_deltaFrom 19 = .ok (.aload_n 0, 1) := by decide +kernel
theorem dX5_deltaFrom_20 : decode cX5_deltaFrom 20 = .ok (.getfield 38, 3) := by decide +kernel
theorem dX5_deltaFrom_23 : decode cX5_deltaFrom 23 = .ok (.iload_n 1, 1) := by decide +kernel
theorem dX5_deltaFrom_24 : decode cX5_deltaFrom 24 = .ok (.iload_n 3, 1) := by decide +kernel
theorem dX5_deltaFrom_25 : decode cX5_deltaFrom 25 = .ok (.invokevirtual 191, 3) := by decide +kernel
theorem dX5_deltaFrom_28 : decode cX5_deltaFrom 28 = .ok (.ireturn, 1) := by decide +kernel
set_option maxRecDepth 20000 in
theorem ggX5_isStartable_X5_requireWithin : GoodIn wsX5_isStartable wsX5_requireWithin := goodIn_ca (goodIn_r _ [5, 6, 7] (by decide +kernel) (by decide +kernel)) (goodIn_sub (fun _ h => List.mem_cons_of_mem _ (List.mem_append_right _ h)) (by decide +kernel))
set_option maxRecDepth 20000 in
theorem gX5_isStartable_X5_requireWithin : GoodIn wsX5_isStartable (va_wsS RX5 67 yX5_requireWithin wsX5_requireWithin) := goodIn_app (goodIn_of _ (by decide +kernel)) ggX5_isStartable_X5_requireWithin
set_option maxRecDepth 20000 in
theorem ggX5_isStartable_X3_canStart : GoodIn wsX5_isStartable wsX3_canStart := goodIn_r _ [12, 13, 14, 15, 11, 16, 17, 18, 19, 20, 21, 22, 23, 24, 25, 26, 27, 28, 29, 30, 31, 32, 4, 33, 34, 41, 42, 43, 44] (by decide +kernel) (by decide +kernel)
set_option maxRecDepth 20000 in
theorem gX5_isStartable_X3_canStart : GoodIn wsX5_isStartable (wsV RX5 194 RX3 yX3_canStart wsX3_canStart) := goodIn_app (goodIn_of _ (by decide +kernel)) ggX5_isStartable_X3_canStart
theorem dX5_isStartable_0 : decode cX5_isStartable 0 = .ok (.iload_n 1, 1) := by decide +kernel
theorem dX5_isStartable_1 : decode cX5_isStartable 1 = .ok (.iconst 0, 1) := by decide +kernel
theorem dX5_isStartable_2 : decode cX5_isStartable 2 = .ok (.iconst 1, 1) := by decide +kernel
theorem dX5_isStartable_3 : decode cX5_isStartable 3 = .ok (.invokestatic 67, 3) := by decide +kernel
theorem dX5_isStartable_6 : decode cX5_isStartable 6 = .ok (.aload_n 0, 1) := by decide +kernel
theorem dX5_isStartable_7 : decode cX5_isStartable 7 = .ok (.getfield 10, 3) := by decide +kernel
theorem dX5_isStartable_10 : decode cX5_isStartable 10 = .ok (.iload_n 1, 1) := by decide +kernel
theorem dX5_isStartable_11 : decode cX5_isStartable 11 = .ok (.invokevirtual 194, 3) := by decide +kernel
theorem dX5_isStartable_14 : decode cX5_isStartable 14 = .ok (.ireturn, 1) := by decide +kernel
set_option maxRecDepth 20000 in
theorem ggX5_version_X5_requireWithin : GoodIn wsX5_version wsX5_requireWithin := goodIn_ca (goodIn_r _ [5, 6, 7] (by decide +kernel) (by decide +kernel)) (goodIn_sub (fun _ h => List.mem_cons_of_mem _ (List.mem_append_right _ h)) (by decide +kernel))
set_option maxRecDepth 20000 in
theorem gX5_version_X5_requireWithin : GoodIn wsX5_version (va_wsS RX5 67 yX5_requireWithin wsX5_requireWithin) := goodIn_app (goodIn_of _ (by decide +kernel)) ggX5_version_X5_requireWithin
set_option maxRecDepth 20000 in
theorem ggX5_version_X3_slotWord : GoodIn wsX5_version wsX3_slotWord := goodIn_r _ [12, 13, 14, 15, 16, 17, 18, 19, 26, 27, 28, 29] (by decide +kernel) (by decide +kernel)
set_option maxRecDepth 20000 in
theorem gX5_version_X3_slotWord : GoodIn wsX5_version (wsV RX5 93 RX3 yX3_slotWord wsX3_slotWord) := goodIn_app (goodIn_of _ (by decide +kernel)) ggX5_version_X3_slotWord
theorem dX5_version_0 : decode cX5_version 0 = .ok (.iload_n 1, 1) := by decide +kernel
theorem dX5_version_1 : decode cX5_version 1 = .ok (.iconst 0, 1) := by decide +kernel
theorem dX5_version_2 : decode cX5_version 2 = .ok (.iconst 1, 1) := by decide +kernel
theorem dX5_version_3 : decode cX5_version 3 = .ok (.invokestatic 67, 3) := by decide +kernel
theorem dX5_version_6 : decode cX5_version 6 = .ok (.aload_n 0, 1) := by decide +kernel
theorem dX5_version_7 : decode cX5_version 7 = .ok (.getfield 10, 3) := by decide +kernel
theorem dX5_version_10 : decode cX5_version 10 = .ok (.iload_n 1, 1) := by decide +kernel
theorem dX5_version_11 : decode cX5_version 11 = .ok (.iconst 1, 1) := by decide +kernel
theorem dX5_version_12 : decode cX5_version 12 = .ok (.invokevirtual 93, 3) := by decide +kernel
theorem dX5_version_15 : decode cX5_version 15 = .ok (.ireturn, 1) := by decide +kernel
set_option maxRecDepth 20000 in
theorem ggX5_imageByte_X5_requireWithin : GoodIn wsX5_imageByte wsX5_requireWithin := goodIn_ca (goodIn_r _ [7, 8, 9] (by decide +kernel) (by decide +kernel)) (goodIn_sub (fun _ h => List.mem_cons_of_mem _ (List.mem_append_right _ h)) (by decide +kernel))
set_option maxRecDepth 20000 in
theorem gX5_imageByte_X5_requireWithin : GoodIn wsX5_imageByte (va_wsS RX5 67 yX5_requireWithin wsX5_requireWithin) := goodIn_app (goodIn_of _ (by decide +kernel)) ggX5_imageByte_X5_requireWithin
set_option maxRecDepth 20000 in
theorem ggX5_imageByte_X3_imageWord : GoodIn wsX5_imageByte wsX3_imageWord := goodIn_r _ [14, 15, 16, 17, 18, 19, 20, 21, 28, 29, 30, 31] (by decide +kernel) (by decide +kernel)
set_option maxRecDepth 20000 in
theorem gX5_imageByte_X3_imageWord : GoodIn wsX5_imageByte (wsV RX5 129 RX3 yX3_imageWord wsX3_imageWord) := goodIn_app (goodIn_of _ (by decide +kernel)) ggX5_imageByte_X3_imageWord
theorem dX5_imageByte_0 : decode cX5_imageByte 0 = .ok (.iload_n 1, 1) := by decide +kernel
theorem dX5_imageByte_1 : decode cX5_imageByte 1 = .ok (.iconst 0, 1) := by decide +kernel
theorem dX5_imageByte_2 : decode cX5_imageByte 2 = .ok (.iconst 1, 1) := by decide +kernel
theorem dX5_imageByte_3 : decode cX5_imageByte 3 = .ok (.invokestatic 67, 3) := by decide +kernel
theorem dX5_imageByte_6 : decode cX5_imageByte 6 = .ok (.iload_n 2, 1) := by decide +kernel
theorem dX5_imageByte_7 : decode cX5_imageByte 7 = .ok (.ifCond .lt 9, 3) := by decide +kernel
theorem dX5_imageByte_10 : decode cX5_imageByte 10 = .ok (.iload_n 2, 1) := by decide +kernel
theorem dX5_imageByte_11 : decode cX5_imageByte 11 = .ok (.bipush 24, 2) := by decide +kernel
theorem dX5_imageByte_13 : decode cX5_imageByte 13 = .ok (.if_icmp .lt 13, 3) := by decide +kernel
theorem dX5_imageByte_16 : decode cX5_imageByte 16 = .ok (.new 197, 3) := by decide +kernel
theorem dX5_imageByte_19 : decode cX5_imageByte 19 = .ok (.dup, 1) := by decide +kernel
theorem dX5_imageByte_20 : decode cX5_imageByte 20 = .ok (.ldc 199, 2) := by decide +kernel
theorem dX5_imageByte_22 : decode cX5_imageByte 22 = .ok (.invokespecial 201, 3) := by decide +kernel
theorem dX5_imageByte_25 : decode cX5_imageByte 25 = .ok (.athrow, 1) := by decide +kernel
theorem dX5_imageByte_26 : decode cX5_imageByte 26 = .ok (.aload_n 0, 1) := by decide +kernel
theorem dX5_imageByte_27 : decode cX5_imageByte 27 = .ok (.getfield 10, 3) := by decide +kernel
theorem dX5_imageByte_30 : decode cX5_imageByte 30 = .ok (.iload_n 1, 1) := by decide +kernel
theorem dX5_imageByte_31 : decode cX5_imageByte 31 = .ok (.iload_n 2, 1) := by decide +kernel
theorem dX5_imageByte_32 : decode cX5_imageByte 32 = .ok (.invokevirtual 129, 3) := by decide +kernel
theorem dX5_imageByte_35 : decode cX5_imageByte 35 = .ok (.ireturn, 1) := by decide +kernel
set_option maxRecDepth 20000 in
theorem ggX5_record_X3_recordInForce : GoodIn wsX5_record wsX3_recordInForce := goodIn_r _ [6, 7, 8, 9, 5, 10, 11, 12, 13, 14, 15, 16, 17, 18, 19, 20, 21, 22, 23, 24, 31, 32, 33, 34] (by decide +kernel) (by decide +kernel)
set_option maxRecDepth 20000 in
theorem gX5_record_X3_recordInForce : GoodIn wsX5_record (wsV RX5 202 RX3 yX3_recordInForce wsX3_recordInForce) := goodIn_app (goodIn_of _ (by decide +kernel)) ggX5_record_X3_recordInForce
theorem dX5_record_0 : decode cX5_record 0 = .ok (.aload_n 0, 1) := by decide +kernel
theorem dX5_record_1 : decode cX5_record 1 = .ok (.getfield 10, 3) := by decide +kernel
theorem dX5_record_4 : decode cX5_record 4 = .ok (.invokevirtual 202, 3) := by decide +kernel
theorem dX5_record_7 : decode cX5_record 7 = .ok (.ireturn, 1) := by decide +kernel
set_option maxRecDepth 20000 in
theorem ggX5_isValid_X5_requireWithin : GoodIn wsX5_isValid wsX5_requireWithin := goodIn_ca (goodIn_r _ [5, 6, 7] (by decide +kernel) (by decide +kernel)) (goodIn_sub (fun _ h => List.mem_cons_of_mem _ (List.mem_append_right _ h)) (by decide +kernel))
set_option maxRecDepth 20000 in
theorem gX5_isValid_X5_requireWithin : GoodIn wsX5_isValid (va_wsS RX5 67 yX5_requireWithin wsX5_requireWithin) := goodIn_app (goodIn_of _ (by decide +kernel)) ggX5_isValid_X5_requireWithin
set_option maxRecDepth 20000 in
theorem ggX5_isValid_X3_isRecordValid : GoodIn wsX5_isValid wsX3_isRecordValid := goodIn_r _ [12, 13, 14, 15, 11, 16, 17, 18, 19, 20, 21, 22, 23, 24, 25, 26, 33, 34, 35, 36] (by decide +kernel) (by decide +kernel)
set_option maxRecDepth 20000 in
theorem gX5_isValid_X3_isRecordValid : GoodIn wsX5_isValid (wsV RX5 205 RX3 yX3_isRecordValid wsX3_isRecordValid) := goodIn_app (goodIn_of _ (by decide +kernel)) ggX5_isValid_X3_isRecordValid
theorem dX5_isValid_0 : decode cX5_isValid 0 = .ok (.iload_n 1, 1) := by decide +kernel
theorem dX5_isValid_1 : decode cX5_isValid 1 = .ok (.iconst 0, 1) := by decide +kernel
theorem dX5_isValid_2 : decode cX5_isValid 2 = .ok (.iconst 1, 1) := by decide +kernel
theorem dX5_isValid_3 : decode cX5_isValid 3 = .ok (.invokestatic 67, 3) := by decide +kernel
theorem dX5_isValid_6 : decode cX5_isValid 6 = .ok (.aload_n 0, 1) := by decide +kernel
theorem dX5_isValid_7 : decode cX5_isValid 7 = .ok (.getfield 10, 3) := by decide +kernel
theorem dX5_isValid_10 : decode cX5_isValid 10 = .ok (.iload_n 1, 1) := by decide +kernel
theorem dX5_isValid_11 : decode cX5_isValid 11 = .ok (.invokevirtual 205, 3) := by decide +kernel
theorem dX5_isValid_14 : decode cX5_isValid 14 = .ok (.ireturn, 1) := by decide +kernel
set_option maxRecDepth 20000 in
theorem ggX5_confirmed_X3_confirmedSlot : GoodIn wsX5_confirmed wsX3_confirmedSlot := goodIn_r _ [6, 7, 8, 9, 5, 10, 11, 12, 13, 14, 15, 16, 17, 18, 19, 20, 21, 22, 23, 24, 25, 26, 27, 28, 29, 30, 31, 38, 39, 40, 41] (by decide +kernel) (by decide +kernel)
set_option maxRecDepth 20000 in
theorem gX5_confirmed_X3_confirmedSlot : GoodIn wsX5_confirmed (wsV RX5 81 RX3 yX3_confirmedSlot wsX3_confirmedSlot) := goodIn_app (goodIn_of _ (by decide +kernel)) ggX5_confirmed_X3_confirmedSlot
theorem dX5_confirmed_0 : decode cX5_confirmed 0 = .ok (.aload_n 0, 1) := by decide +kernel
theorem dX5_confirmed_1 : decode cX5_confirmed 1 = .ok (.getfield 10, 3) := by decide +kernel
theorem dX5_confirmed_4 : decode cX5_confirmed 4 = .ok (.invokevirtual 81, 3) := by decide +kernel
theorem dX5_confirmed_7 : decode cX5_confirmed 7 = .ok (.ireturn, 1) := by decide +kernel
set_option maxRecDepth 20000 in
theorem ggX5_tries_X3_triesLeft : GoodIn wsX5_tries wsX3_triesLeft := goodIn_r _ [6, 7, 8, 9, 5, 10, 11, 12, 13, 14, 15, 16, 17, 18, 19, 20, 21, 22, 23, 24, 25, 26, 27, 28, 29, 30, 31, 32, 33, 34, 41, 42, 43, 44] (by decide +kernel) (by decide +kernel)
set_option maxRecDepth 20000 in
theorem gX5_tries_X3_triesLeft : GoodIn wsX5_tries (wsV RX5 208 RX3 yX3_triesLeft wsX3_triesLeft) := goodIn_app (goodIn_of _ (by decide +kernel)) ggX5_tries_X3_triesLeft
theorem dX5_tries_0 : decode cX5_tries 0 = .ok (.aload_n 0, 1) := by decide +kernel
theorem dX5_tries_1 : decode cX5_tries 1 = .ok (.getfield 10, 3) := by decide +kernel
theorem dX5_tries_4 : decode cX5_tries 4 = .ok (.invokevirtual 208, 3) := by decide +kernel
theorem dX5_tries_7 : decode cX5_tries 7 = .ok (.ireturn, 1) := by decide +kernel
set_option maxRecDepth 20000 in
theorem ggX5_counter_X3_recordCounter : GoodIn wsX5_counter wsX3_recordCounter := goodIn_r _ [6, 7, 8, 9, 5, 10, 11, 12, 13, 14, 15, 16, 17, 18, 19, 20, 21, 22, 23, 24, 25, 26, 27, 28, 35, 36, 37, 38] (by decide +kernel) (by decide +kernel)
set_option maxRecDepth 20000 in
theorem gX5_counter_X3_recordCounter : GoodIn wsX5_counter (wsV RX5 97 RX3 yX3_recordCounter wsX3_recordCounter) := goodIn_app (goodIn_of _ (by decide +kernel)) ggX5_counter_X3_recordCounter
theorem dX5_counter_0 : decode cX5_counter 0 = .ok (.aload_n 0, 1) := by decide +kernel
theorem dX5_counter_1 : decode cX5_counter 1 = .ok (.getfield 10, 3) := by decide +kernel
theorem dX5_counter_4 : decode cX5_counter 4 = .ok (.invokevirtual 97, 3) := by decide +kernel
theorem dX5_counter_7 : decode cX5_counter 7 = .ok (.ireturn, 1) := by decide +kernel
set_option maxRecDepth 20000 in
theorem ggX5_safeFinish_X5_requireFinishable : GoodIn wsX5_safeFinish wsX5_requireFinishable := goodIn_ca (goodIn_ca (goodIn_r _ [9, 10, 11, 4, 2, 12, 13, 14, 15, 8, 16, 17, 18, 19, 20, 21, 22, 23, 24, 25, 26, 27, 28, 29, 30, 31, 32, 33, 34, 35, 36, 37, 38, 39, 40, 41, 42, 43, 44, 45, 46, 47, 48, 49, 50, 143, 144, 145, 146, 147, 148, 150, 151, 152, 153, 154, 155, 149, 156, 157, 158] (by decide +kernel) (by decide +kernel)) (goodIn_sub (fun _ h => List.mem_cons_of_mem _ (List.mem_append_left _ (List.mem_append_right _ h))) (by decide +kernel))) (goodIn_sub (fun _ h => List.mem_cons_of_mem _ (List.mem_append_right _ h)) (by decide +kernel))
set_option maxRecDepth 20000 in
theorem gX5_safeFinish_X5_requireFinishable : GoodIn wsX5_safeFinish (wsV RX5 132 RX5 yX5_requireFinishable wsX5_requireFinishable) := goodIn_app (goodIn_of _ (by decide +kernel)) ggX5_safeFinish_X5_requireFinishable
set_option maxRecDepth 20000 in
theorem ggX5_safeFinish_X3_mirror : GoodIn wsX5_safeFinish wsX3_mirror := goodIn_r _ [54, 41, 55, 56, 57, 45, 58, 47, 59, 43, 44, 46, 149, 156, 157, 158] (by decide +kernel) (by decide +kernel)
set_option maxRecDepth 20000 in
theorem gX5_safeFinish_X3_mirror : GoodIn wsX5_safeFinish (wsV RX5 211 RX3 yX3_mirror wsX3_mirror) := goodIn_app (goodIn_of _ (by decide +kernel)) ggX5_safeFinish_X3_mirror
set_option maxRecDepth 20000 in
theorem ggX5_safeFinish_X2_chooseFailure : GoodIn wsX5_safeFinish wsX2_chooseFailure := goodIn_r _ [63, 64, 156, 157, 158] (by decide +kernel) (by decide +kernel)
set_option maxRecDepth 20000 in
theorem gX5_safeFinish_X2_chooseFailure : GoodIn wsX5_safeFinish (wsV RX5 75 RX2 yX2_chooseFailure wsX2_chooseFailure) := goodIn_app (goodIn_of _ (by decide +kernel)) ggX5_safeFinish_X2_chooseFailure
set_option maxRecDepth 20000 in
theorem ggX5_safeFinish_X5_idleSlot : GoodIn wsX5_safeFinish wsX5_idleSlot := goodIn_r _ [30, 31, 143, 144, 145, 146, 147, 148] (by decide +kernel) (by decide +kernel)
set_option maxRecDepth 20000 in
theorem gX5_safeFinish_X5_idleSlot : GoodIn wsX5_safeFinish (wsV RX5 106 RX5 yX5_idleSlot wsX5_idleSlot) := goodIn_app (goodIn_of _ (by decide +kernel)) ggX5_safeFinish_X5_idleSlot
set_option maxRecDepth 20000 in
theorem ggX5_safeFinish_X3_writeUpdate : GoodIn wsX5_safeFinish wsX3_writeUpdate := goodIn_r _ [68, 69, 70, 71, 72, 73, 74, 75, 35, 76, 41, 77, 78, 79, 45, 80, 81, 64, 59, 43, 44, 46, 47, 82, 83, 84, 85, 86, 87, 88, 89, 90, 91, 92, 93, 94, 95, 96, 97, 98, 99, 100, 101, 42, 102, 103, 104, 105, 106, 107, 108, 109, 110, 111, 112, 113, 114, 115, 116, 117, 118, 119, 120, 121, 122, 150, 151, 152, 153, 154, 155, 149, 156, 157, 158] (by decide +kernel) (by decide +kernel)
set_option maxRecDepth 20000 in
theorem gX5_safeFinish_X3_writeUpdate : GoodIn wsX5_safeFinish (wsV RX5 135 RX3 yX3_writeUpdate wsX3_writeUpdate) := goodIn_app (goodIn_of _ (by decide +kernel)) ggX5_safeFinish_X3_writeUpdate
set_option maxRecDepth 20000 in
theorem ggX5_safeFinish_X3_slotToStart : GoodIn wsX5_safeFinish wsX3_slotToStart := goodIn_r _ [126, 90, 91, 92, 35, 93, 94, 95, 96, 97, 98, 99, 100, 101, 41, 42, 43, 44, 45, 46, 47, 102, 103, 104, 105, 106, 107, 127, 128, 129, 130, 131, 132, 133, 134, 135, 136, 137, 138, 139, 140, 141, 33, 34, 36, 37, 38, 39, 40, 48, 8, 49, 50, 149, 156, 157, 158] (by decide +kernel) (by decide +kernel)
set_option maxRecDepth 20000 in
theorem gX5_safeFinish_X3_slotToStart : GoodIn wsX5_safeFinish (wsV RX5 215 RX3 yX3_slotToStart wsX3_slotToStart) := goodIn_app (goodIn_of _ (by decide +kernel)) ggX5_safeFinish_X3_slotToStart
set_option maxRecDepth 20000 in
theorem ggX5_safeFinish_X3_canStart : GoodIn wsX5_safeFinish wsX3_canStart := goodIn_r _ [136, 137, 138, 139, 35, 140, 41, 42, 43, 44, 45, 46, 47, 141, 33, 34, 36, 37, 38, 39, 40, 48, 8, 49, 50, 149, 156, 157, 158] (by decide +kernel) (by decide +kernel)
set_option maxRecDepth 20000 in
theorem gX5_safeFinish_X3_canStart : GoodIn wsX5_safeFinish (wsV RX5 194 RX3 yX3_canStart wsX3_canStart) := goodIn_app (goodIn_of _ (by decide +kernel)) ggX5_safeFinish_X3_canStart
theorem dX5_safeFinish_0 : decode cX5_safeFinish 0 = .ok (.aload_n 0, 1) := by decide +kernel
theorem dX5_safeFinish_1 : decode cX5_safeFinish 1 = .ok (.iload_n 1, 1) := by decide +kernel
theorem dX5_safeFinish_2 : decode cX5_safeFinish 2 = .ok (.invokevirtual 132, 3) := by decide +kernel
theorem dX5_safeFinish_5 : decode cX5_safeFinish 5 = .ok (.iconst 0, 1) := by decide +kernel
theorem dX5_safeFinish_6 : decode cX5_safeFinish 6 = .ok (.istore_n 2, 1) := by decide +kernel
theorem dX5_safeFinish_7 : decode cX5_safeFinish 7 = .ok (.iconst 0, 1) := by decide +kernel
theorem dX5_safeFinish_8 : decode cX5_safeFinish 8 = .ok (.istore_n 3, 1) := by decide +kernel
theorem dX5_safeFinish_9 : decode cX5_safeFinish 9 = .ok (.iload_n 3, 1) := by decide +kernel
theorem dX5_safeFinish_10 : decode cX5_safeFinish 10 = .ok (.bipush 10, 2) := by decide +kernel
theorem dX5_safeFinish_12 : decode cX5_safeFinish 12 = .ok (.if_icmp .ge 68, 3) := by decide +kernel
theorem dX5_safeFinish_15 : decode cX5_safeFinish 15 = .ok (.aload_n 0, 1) := by decide +kernel
theorem dX5_safeFinish_16 : decode cX5_safeFinish 16 = .ok (.getfield 16, 3) := by decide +kernel
theorem dX5_safeFinish_19 : decode cX5_safeFinish 19 = .ok (.aload_n 0, 1) := by decide +kernel
theorem dX5_safeFinish_20 : decode cX5_safeFinish 20 = .ok (.getfield 10, 3) := by decide +kernel
theorem dX5_safeFinish_23 : decode cX5_safeFinish 23 = .ok (.invokevirtual 211, 3) := by decide +kernel
theorem dX5_safeFinish_26 : decode cX5_safeFinish 26 = .ok (.aload_n 0, 1) := by decide +kernel
theorem dX5_safeFinish_27 : decode cX5_safeFinish 27 = .ok (.getfield 16, 3) := by decide +kernel
theorem dX5_safeFinish_30 : decode cX5_safeFinish 30 = .ok (.getfield 71, 3) := by decide +kernel
theorem dX5_safeFinish_33 : decode cX5_safeFinish 33 = .ok (.iload_n 3, 1) := by decide +kernel
theorem dX5_safeFinish_34 : decode cX5_safeFinish 34 = .ok (.invokevirtual 75, 3) := by decide +kernel
theorem dX5_safeFinish_37 : decode cX5_safeFinish 37 = .ok (.aload_n 0, 1) := by decide +kernel
theorem dX5_safeFinish_38 : decode cX5_safeFinish 38 = .ok (.getfield 16, 3) := by decide +kernel
theorem dX5_safeFinish_41 : decode cX5_safeFinish 41 = .ok (.aload_n 0, 1) := by decide +kernel
theorem dX5_safeFinish_42 : decode cX5_safeFinish 42 = .ok (.invokevirtual 106, 3) := by decide +kernel
theorem dX5_safeFinish_45 : decode cX5_safeFinish 45 = .ok (.aload_n 0, 1) := by decide +kernel
theorem dX5_safeFinish_46 : decode cX5_safeFinish 46 = .ok (.getfield 22, 3) := by decide +kernel
theorem dX5_safeFinish_49 : decode cX5_safeFinish 49 = .ok (.iload_n 1, 1) := by decide +kernel
theorem dX5_safeFinish_50 : decode cX5_safeFinish 50 = .ok (.invokevirtual 135, 3) := by decide +kernel
theorem dX5_safeFinish_53 : decode cX5_safeFinish 53 = .ok (.pop, 1) := by decide +kernel
theorem dX5_safeFinish_54 : decode cX5_safeFinish 54 = .ok (.aload_n 0, 1) := by decide +kernel
theorem dX5_safeFinish_55 : decode cX5_safeFinish 55 = .ok (.getfield 16, 3) := by decide +kernel
theorem dX5_safeFinish_58 : decode cX5_safeFinish 58 = .ok (.aload_n 0, 1) := by decide +kernel
theorem dX5_safeFinish_59 : decode cX5_safeFinish 59 = .ok (.getfield 16, 3) := by decide +kernel
theorem dX5_safeFinish_62 : decode cX5_safeFinish 62 = .ok (.invokevirtual 215, 3) := by decide +kernel
theorem dX5_safeFinish_65 : decode cX5_safeFinish 65 = .ok (.invokevirtual 194, 3) := by decide +kernel
theorem dX5_safeFinish_68 : decode cX5_safeFinish 68 = .ok (.ifCond .eq 6, 3) := by decide +kernel
theorem dX5_safeFinish_71 : decode cX5_safeFinish 71 = .ok (.iinc 2 1, 3) := by decide +kernel
theorem dX5_safeFinish_74 : decode cX5_safeFinish 74 = .ok (.iinc 3 1, 3) := by decide +kernel
theorem dX5_safeFinish_77 : decode cX5_safeFinish 77 = .ok (.goto (-68), 3) := by decide +kernel
theorem dX5_safeFinish_80 : decode cX5_safeFinish 80 = .ok (.iload_n 2, 1) := by decide +kernel
theorem dX5_safeFinish_81 : decode cX5_safeFinish 81 = .ok (.ireturn, 1) := by decide +kernel
set_option maxRecDepth 20000 in
theorem ggX5_wouldStart_X3_slotToStart : GoodIn wsX5_wouldStart wsX3_slotToStart := goodIn_r _ [6, 7, 8, 9, 5, 10, 11, 12, 13, 14, 15, 16, 17, 18, 19, 20, 21, 22, 23, 24, 25, 26, 27, 28, 29, 30, 31, 32, 33, 34, 35, 36, 37, 38, 39, 40, 41, 42, 43, 44, 45, 46, 47, 48, 49, 50, 51, 52, 53, 54, 55, 56, 57, 64, 65, 66, 67] (by decide +kernel) (by decide +kernel)
set_option maxRecDepth 20000 in
theorem gX5_wouldStart_X3_slotToStart : GoodIn wsX5_wouldStart (wsV RX5 215 RX3 yX3_slotToStart wsX3_slotToStart) := goodIn_app (goodIn_of _ (by decide +kernel)) ggX5_wouldStart_X3_slotToStart
theorem dX5_wouldStart_0 : decode cX5_wouldStart 0 = .ok (.aload_n 0, 1) := by decide +kernel
theorem dX5_wouldStart_1 : decode cX5_wouldStart 1 = .ok (.getfield 10, 3) := by decide +kernel
theorem dX5_wouldStart_4 : decode cX5_wouldStart 4 = .ok (.invokevirtual 215, 3) := by decide +kernel
theorem dX5_wouldStart_7 : decode cX5_wouldStart 7 = .ok (.ireturn, 1) := by decide +kernel
theorem dX5_requireWithin_0 : decode cX5_requireWithin 0 = .ok (.iload_n 0, 1) := by decide +kernel
theorem dX5_requireWithin_1 : decode cX5_requireWithin 1 = .ok (.iload_n 1, 1) := by decide +kernel
theorem dX5_requireWithin_2 : decode cX5_requireWithin 2 = .ok (.if_icmp .lt 8, 3) := by decide +kernel
theorem dX5_requireWithin_5 : decode cX5_requireWithin 5 = .ok (.iload_n 0, 1) := by decide +kernel
theorem dX5_requireWithin_6 : decode cX5_requireWithin 6 = .ok (.iload_n 2, 1) := by decide +kernel
theorem dX5_requireWithin_7 : decode cX5_requireWithin 7 = .ok (.if_icmp .le 13, 3) := by decide +kernel
theorem dX5_requireWithin_10 : decode cX5_requireWithin 10 = .ok (.new 124, 3) := by decide +kernel
theorem dX5_requireWithin_13 : decode cX5_requireWithin 13 = .ok (.dup, 1) := by decide +kernel
theorem dX5_requireWithin_14 : decode cX5_requireWithin 14 = .ok (.ldc 218, 2) := by decide +kernel
theorem dX5_requireWithin_16 : decode cX5_requireWithin 16 = .ok (.invokespecial 128, 3) := by decide +kernel
theorem dX5_requireWithin_19 : decode cX5_requireWithin 19 = .ok (.athrow, 1) := by decide +kernel
theorem dX5_requireWithin_20 : decode cX5_requireWithin 20 = .ok (.return_, 1) := by decide +kernel
set_option maxRecDepth 20000 in
theorem ggX5_requireOn_X5_isOn : GoodIn wsX5_requireOn wsX5_isOn := goodIn_r _ [7, 8, 9, 10, 11, 12, 13, 14] (by decide +kernel) (by decide +kernel)
set_option maxRecDepth 20000 in
theorem gX5_requireOn_X5_isOn : GoodIn wsX5_requireOn (wsV RX5 46 RX5 yX5_isOn wsX5_isOn) := goodIn_app (goodIn_of _ (by decide +kernel)) ggX5_requireOn_X5_isOn
theorem dX5_requireOn_0 : decode cX5_requireOn 0 = .ok (.aload_n 0, 1) := by decide +kernel
theorem dX5_requireOn_1 : decode cX5_requireOn 1 = .ok (.invokevirtual 46, 3) := by decide +kernel
theorem dX5_requireOn_4 : decode cX5_requireOn 4 = .ok (.ifCond .ne 13, 3) := by decide +kernel
theorem dX5_requireOn_7 : decode cX5_requireOn 7 = .ok (.new 50, 3) := by decide +kernel
theorem dX5_requireOn_10 : decode cX5_requireOn 10 = .ok (.dup, 1) := by decide +kernel
theorem dX5_requireOn_11 : decode cX5_requireOn 11 = .ok (.ldc 220, 2) := by decide +kernel
theorem dX5_requireOn_13 : decode cX5_requireOn 13 = .ok (.invokespecial 54, 3) := by decide +kernel
theorem dX5_requireOn_16 : decode cX5_requireOn 16 = .ok (.athrow, 1) := by decide +kernel
theorem dX5_requireOn_17 : decode cX5_requireOn 17 = .ok (.return_, 1) := by decide +kernel
set_option maxRecDepth 20000 in
theorem ggX5_requireToCome_X4_bytesToCome : GoodIn wsX5_requireToCome wsX4_bytesToCome := goodIn_r _ [8, 9, 10, 11, 18, 19, 20, 21, 22, 23] (by decide +kernel) (by decide +kernel)
set_option maxRecDepth 20000 in
theorem gX5_requireToCome_X4_bytesToCome : GoodIn wsX5_requireToCome (wsV RX5 160 RX4 yX4_bytesToCome wsX4_bytesToCome) := goodIn_app (goodIn_of _ (by decide +kernel)) ggX5_requireToCome_X4_bytesToCome
theorem dX5_requireToCome_0 : decode cX5_requireToCome 0 = .ok (.aload_n 0, 1) := by decide +kernel
theorem dX5_requireToCome_1 : decode cX5_requireToCome 1 = .ok (.getfield 22, 3) := by decide +kernel
theorem dX5_requireToCome_4 : decode cX5_requireToCome 4 = .ok (.invokevirtual 160, 3) := by decide +kernel
theorem dX5_requireToCome_7 : decode cX5_requireToCome 7 = .ok (.iload_n 1, 1) := by decide +kernel
theorem dX5_requireToCome_8 : decode cX5_requireToCome 8 = .ok (.if_icmp .ge 13, 3) := by decide +kernel
theorem dX5_requireToCome_11 : decode cX5_requireToCome 11 = .ok (.new 50, 3) := by decide +kernel
theorem dX5_requireToCome_14 : decode cX5_requireToCome 14 = .ok (.dup, 1) := by decide +kernel
theorem dX5_requireToCome_15 : decode cX5_requireToCome 15 = .ok (.ldc 222, 2) := by decide +kernel
theorem dX5_requireToCome_17 : decode cX5_requireToCome 17 = .ok (.invokespecial 54, 3) := by decide +kernel
theorem dX5_requireToCome_20 : decode cX5_requireToCome 20 = .ok (.athrow, 1) := by decide +kernel
theorem dX5_requireToCome_21 : decode cX5_requireToCome 21 = .ok (.return_, 1) := by decide +kernel
set_option maxRecDepth 20000 in
theorem ggX5_requireFinishable_X5_requireWithin : GoodIn wsX5_requireFinishable wsX5_requireWithin := goodIn_ca (goodIn_r _ [10, 11, 12] (by decide +kernel) (by decide +kernel)) (goodIn_sub (fun _ h => List.mem_cons_of_mem _ (List.mem_append_right _ h)) (by decide +kernel))
set_option maxRecDepth 20000 in
theorem gX5_requireFinishable_X5_requireWithin : GoodIn wsX5_requireFinishable (va_wsS RX5 67 yX5_requireWithin wsX5_requireWithin) := goodIn_app (goodIn_of _ (by decide +kernel)) ggX5_requireFinishable_X5_requireWithin
set_option maxRecDepth 20000 in
theorem ggX5_requireFinishable_X4_bytesToCome : GoodIn wsX5_requireFinishable wsX4_bytesToCome := goodIn_r _ [17, 18, 19, 20, 51, 52, 53, 54, 55, 56] (by decide +kernel) (by decide +kernel)
set_option maxRecDepth 20000 in
theorem gX5_requireFinishable_X4_bytesToCome : GoodIn wsX5_requireFinishable (wsV RX5 160 RX4 yX4_bytesToCome wsX4_bytesToCome) := goodIn_app (goodIn_of _ (by decide +kernel)) ggX5_requireFinishable_X4_bytesToCome
set_option maxRecDepth 20000 in
theorem ggX5_requireFinishable_X5_idleSlot : GoodIn wsX5_requireFinishable wsX5_idleSlot := goodIn_r _ [24, 25, 45, 46, 47, 48, 49, 50] (by decide +kernel) (by decide +kernel)
set_option maxRecDepth 20000 in
theorem gX5_requireFinishable_X5_idleSlot : GoodIn wsX5_requireFinishable (wsV RX5 106 RX5 yX5_idleSlot wsX5_idleSlot) := goodIn_app (goodIn_of _ (by decide +kernel)) ggX5_requireFinishable_X5_idleSlot
set_option maxRecDepth 20000 in
theorem ggX5_requireFinishable_X3_imageHash : GoodIn wsX5_requireFinishable wsX3_imageHash := goodIn_r _ [30, 31, 32, 33, 29, 34, 35, 36, 37, 38, 39, 40, 41, 42, 9, 43, 44, 57, 58, 59, 60] (by decide +kernel) (by decide +kernel)
set_option maxRecDepth 20000 in
theorem gX5_requireFinishable_X3_imageHash : GoodIn wsX5_requireFinishable (wsV RX5 229 RX3 yX3_imageHash wsX3_imageHash) := goodIn_app (goodIn_of _ (by decide +kernel)) ggX5_requireFinishable_X3_imageHash
theorem dX5_requireFinishable_0 : decode cX5_requireFinishable 0 = .ok (.iload_n 1, 1) := by decide +kernel
theorem dX5_requireFinishable_1 : decode cX5_requireFinishable 1 = .ok (.iconst 1, 1) := by decide +kernel
theorem dX5_requireFinishable_2 : decode cX5_requireFinishable 2 = .ok (.iconst 3, 1) := by decide +kernel
theorem dX5_requireFinishable_3 : decode cX5_requireFinishable 3 = .ok (.invokestatic 67, 3) := by decide +kernel
theorem dX5_requireFinishable_6 : decode cX5_requireFinishable 6 = .ok (.aload_n 0, 1) := by decide +kernel
theorem dX5_requireFinishable_7 : decode cX5_requireFinishable 7 = .ok (.getfield 22, 3) := by decide +kernel
theorem dX5_requireFinishable_10 : decode cX5_requireFinishable 10 = .ok (.invokevirtual 160, 3) := by decide +kernel
theorem dX5_requireFinishable_13 : decode cX5_requireFinishable 13 = .ok (.ifCond .eq 13, 3) := by decide +kernel
theorem dX5_requireFinishable_16 : decode cX5_requireFinishable 16 = .ok (.new 50, 3) := by decide +kernel
theorem dX5_requireFinishable_19 : decode cX5_requireFinishable 19 = .ok (.dup, 1) := by decide +kernel
theorem dX5_requireFinishable_20 : decode cX5_requireFinishable 20 = .ok (.ldc 224, 2) := by decide +kernel
theorem dX5_requireFinishable_22 : decode cX5_requireFinishable 22 = .ok (.invokespecial 54, 3) := by decide +kernel
theorem dX5_requireFinishable_25 : decode cX5_requireFinishable 25 = .ok (.athrow, 1) := by decide +kernel
theorem dX5_requireFinishable_26 : decode cX5_requireFinishable 26 = .ok (.aload_n 0, 1) := by decide +kernel
theorem dX5_requireFinishable_27 : decode cX5_requireFinishable 27 = .ok (.getfield 10, 3) := by decide +kernel
theorem dX5_requireFinishable_30 : decode cX5_requireFinishable 30 = .ok (.aload_n 0, 1) := by decide +kernel
theorem dX5_requireFinishable_31 : decode cX5_requireFinishable 31 = .ok (.invokevirtual 106, 3) := by decide +kernel
theorem dX5_requireFinishable_34 : decode cX5_requireFinishable 34 = .ok (.aload_n 0, 1) := by decide +kernel
theorem dX5_requireFinishable_35 : decode cX5_requireFinishable 35 = .ok (.getfield 22, 3) := by decide +kernel
theorem dX5_requireFinishable_38 : decode cX5_requireFinishable 38 = .ok (.getfield 226, 3) := by decide +kernel
theorem dX5_requireFinishable_41 : decode cX5_requireFinishable 41 = .ok (.invokevirtual 229, 3) := by decide +kernel
theorem dX5_requireFinishable_44 : decode cX5_requireFinishable 44 = .ok (.aload_n 0, 1) := by decide +kernel
theorem dX5_requireFinishable_45 : decode cX5_requireFinishable 45 = .ok (.getfield 22, 3) := by decide +kernel
theorem dX5_requireFinishable_48 : decode cX5_requireFinishable 48 = .ok (.getfield 232, 3) := by decide +kernel
theorem dX5_requireFinishable_51 : decode cX5_requireFinishable 51 = .ok (.if_icmp .eq 13, 3) := by decide +kernel
theorem dX5_requireFinishable_54 : decode cX5_requireFinishable 54 = .ok (.new 50, 3) := by decide +kernel
theorem dX5_requireFinishable_57 : decode cX5_requireFinishable 57 = .ok (.dup, 1) := by decide +kernel
theorem dX5_requireFinishable_58 : decode cX5_requireFinishable 58 = .ok (.ldc 234, 2) := by decide +kernel
theorem dX5_requireFinishable_60 : decode cX5_requireFinishable 60 = .ok (.invokespecial 54, 3) := by decide +kernel
theorem dX5_requireFinishable_63 : decode cX5_requireFinishable 63 = .ok (.athrow, 1) := by decide +kernel
theorem dX5_requireFinishable_64 : decode cX5_requireFinishable 64 = .ok (.return_, 1) := by decide +kernel
set_option maxRecDepth 20000 in
theorem ggX5_requireStartable_X5_requireWithin : GoodIn wsX5_requireStartable wsX5_requireWithin := goodIn_ca (goodIn_r _ [7, 8, 9] (by decide +kernel) (by decide +kernel)) (goodIn_sub (fun _ h => List.mem_cons_of_mem _ (List.mem_append_right _ h)) (by decide +kernel))
set_option maxRecDepth 20000 in
theorem gX5_requireStartable_X5_requireWithin : GoodIn wsX5_requireStartable (va_wsS RX5 67 yX5_requireWithin wsX5_requireWithin) := goodIn_app (goodIn_of _ (by decide +kernel)) ggX5_requireStartable_X5_requireWithin
set_option maxRecDepth 20000 in
theorem ggX5_requireStartable_X3_canStart : GoodIn wsX5_requireStartable wsX3_canStart := goodIn_r _ [14, 15, 16, 17, 13, 18, 19, 20, 21, 22, 23, 24, 25, 26, 27, 28, 29, 30, 31, 32, 33, 34, 6, 35, 36, 43, 44, 45, 46] (by decide +kernel) (by decide +kernel)
set_option maxRecDepth 20000 in
theorem gX5_requireStartable_X3_canStart : GoodIn wsX5_requireStartable (wsV RX5 194 RX3 yX3_canStart wsX3_canStart) := goodIn_app (goodIn_of _ (by decide +kernel)) ggX5_requireStartable_X3_canStart
theorem dX5_requireStartable_0 : decode cX5_requireStartable 0 = .ok (.iload_n 1, 1) := by decide +kernel
theorem dX5_requireStartable_1 : decode cX5_requireStartable 1 = .ok (.iconst 0, 1) := by decide +kernel
theorem dX5_requireStartable_2 : decode cX5_requireStartable 2 = .ok (.iconst 1, 1) := by decide +kernel
theorem dX5_requireStartable_3 : decode cX5_requireStartable 3 = .ok (.invokestatic 67, 3) := by decide +kernel
theorem dX5_requireStartable_6 : decode cX5_requireStartable 6 = .ok (.aload_n 0, 1) := by decide +kernel
theorem dX5_requireStartable_7 : decode cX5_requireStartable 7 = .ok (.getfield 10, 3) := by decide +kernel
theorem dX5_requireStartable_10 : decode cX5_requireStartable 10 = .ok (.iload_n 1, 1) := by decide +kernel
theorem dX5_requireStartable_11 : decode cX5_requireStartable 11 = .ok (.invokevirtual 194, 3) := by decide +kernel
theorem dX5_requireStartable_14 : decode cX5_requireStartable 14 = .ok (.ifCond .ne 13, 3) := by decide +kernel
theorem dX5_requireStartable_17 : decode cX5_requireStartable 17 = .ok (.new 50, 3) := by decide +kernel
theorem dX5_requireStartable_20 : decode cX5_requireStartable 20 = .ok (.dup, 1) := by decide +kernel
theorem dX5_requireStartable_21 : decode cX5_requireStartable 21 = .ok (.ldc 236, 2) := by decide +kernel
theorem dX5_requireStartable_23 : decode cX5_requireStartable 23 = .ok (.invokespecial 54, 3) := by decide +kernel
theorem dX5_requireStartable_26 : decode cX5_requireStartable 26 = .ok (.athrow, 1) := by decide +kernel
theorem dX5_requireStartable_27 : decode cX5_requireStartable 27 = .ok (.return_, 1) := by decide +kernel
theorem dX5_requirePiece_0 : decode cX5_requirePiece 0 = .ok (.iload_n 0, 1) := by decide +kernel
theorem dX5_requirePiece_1 : decode cX5_requirePiece 1 = .ok (.iconst (-1), 1) := by decide +kernel
theorem dX5_requirePiece_2 : decode cX5_requirePiece 2 = .ok (.if_icmp .ne 13, 3) := by decide +kernel
theorem dX5_requirePiece_5 : decode cX5_requirePiece 5 = .ok (.new 197, 3) := by decide +kernel
theorem dX5_requirePiece_8 : decode cX5_requirePiece 8 = .ok (.dup, 1) := by decide +kernel
theorem dX5_requirePiece_9 : decode cX5_requirePiece 9 = .ok (.ldc 238, 2) := by decide +kernel
theorem dX5_requirePiece_11 : decode cX5_requirePiece 11 = .ok (.invokespecial 201, 3) := by decide +kernel
theorem dX5_requirePiece_14 : decode cX5_requirePiece 14 = .ok (.athrow, 1) := by decide +kernel
theorem dX5_requirePiece_15 : decode cX5_requirePiece 15 = .ok (.return_, 1) := by decide +kernel
theorem dX5_idleSlot_0 : decode cX5_idleSlot 0 = .ok (.iconst 1, 1) := by decide +kernel
theorem dX5_idleSlot_1 : decode cX5_idleSlot 1 = .ok (.aload_n 0, 1) := by decide +kernel
theorem dX5_idleSlot_2 : decode cX5_idleSlot 2 = .ok (.getfield 42, 3) := by decide +kernel
theorem dX5_idleSlot_5 : decode cX5_idleSlot 5 = .ok (.isub, 1) := by decide +kernel
theorem dX5_idleSlot_6 : decode cX5_idleSlot 6 = .ok (.ireturn, 1) := by decide +kernel
set_option maxRecDepth 20000 in
theorem ggX5_append_X5_idleSlot : GoodIn wsX5_append wsX5_idleSlot := goodIn_r _ [7, 8, 50, 51, 52, 53, 54, 55] (by decide +kernel) (by decide +kernel)
set_option maxRecDepth 20000 in
theorem gX5_append_X5_idleSlot : GoodIn wsX5_append (wsV RX5 106 RX5 yX5_idleSlot wsX5_idleSlot) := goodIn_app (goodIn_of _ (by decide +kernel)) ggX5_append_X5_idleSlot
set_option maxRecDepth 20000 in
theorem ggX5_append_X4_nextPlace : GoodIn wsX5_append wsX4_nextPlace := goodIn_r _ [13, 14, 56, 57, 58, 59, 60, 61] (by decide +kernel) (by decide +kernel)
set_option maxRecDepth 20000 in
theorem gX5_append_X4_nextPlace : GoodIn wsX5_append (wsV RX5 240 RX4 yX4_nextPlace wsX4_nextPlace) := goodIn_app (goodIn_of _ (by decide +kernel)) ggX5_append_X4_nextPlace
set_option maxRecDepth 20000 in
theorem ggX5_append_X3_writeImageWord : GoodIn wsX5_append wsX3_writeImageWord := goodIn_r _ [19, 20, 21, 22, 23, 24, 25, 26, 27, 28, 29, 30, 31, 32, 33, 34, 35, 36, 62, 63, 64, 65] (by decide +kernel) (by decide +kernel)
set_option maxRecDepth 20000 in
theorem gX5_append_X3_writeImageWord : GoodIn wsX5_append (wsV RX5 243 RX3 yX3_writeImageWord wsX3_writeImageWord) := goodIn_app (goodIn_of _ (by decide +kernel)) ggX5_append_X3_writeImageWord
set_option maxRecDepth 20000 in
theorem ggX5_append_X5_stayOn : GoodIn wsX5_append wsX5_stayOn := goodIn_r _ [40, 41, 42, 43, 6, 44, 8, 2, 45, 46, 47, 12, 48, 49, 50, 51, 52, 53, 54, 55, 56, 57, 58, 59, 60, 61] (by decide +kernel) (by decide +kernel)
set_option maxRecDepth 20000 in
theorem gX5_append_X5_stayOn : GoodIn wsX5_append (wsV RX5 113 RX5 yX5_stayOn wsX5_stayOn) := goodIn_app (goodIn_of _ (by decide +kernel)) ggX5_append_X5_stayOn
theorem dX5_append_0 : decode cX5_append 0 = .ok (.aload_n 0, 1) := by decide +kernel
theorem dX5_append_1 : decode cX5_append 1 = .ok (.aload_n 0, 1) := by decide +kernel
theorem dX5_append_2 : decode cX5_append 2 = .ok (.getfield 10, 3) := by decide +kernel
theorem dX5_append_5 : decode cX5_append 5 = .ok (.aload_n 0, 1) := by decide +kernel
theorem dX5_append_6 : decode cX5_append 6 = .ok (.invokevirtual 106, 3) := by decide +kernel
theorem dX5_append_9 : decode cX5_append 9 = .ok (.aload_n 0, 1) := by decide +kernel
theorem dX5_append_10 : decode cX5_append 10 = .ok (.getfield 22, 3) := by decide +kernel
theorem dX5_append_13 : decode cX5_append 13 = .ok (.invokevirtual 240, 3) := by decide +kernel
theorem dX5_append_16 : decode cX5_append 16 = .ok (.iload_n 1, 1) := by decide +kernel
theorem dX5_append_17 : decode cX5_append 17 = .ok (.invokevirtual 243, 3) := by decide +kernel
theorem dX5_append_20 : decode cX5_append 20 = .ok (.invokevirtual 113, 3) := by decide +kernel
theorem dX5_append_23 : decode cX5_append 23 = .ok (.ireturn, 1) := by decide +kernel
set_option maxRecDepth 20000 in
theorem ggX5_stayOn_X5_losePower : GoodIn wsX5_stayOn wsX5_losePower := goodIn_r _ [5, 6, 7, 8, 9, 10, 11, 12, 13, 14, 15, 16, 17, 18, 19, 20, 21, 22, 23, 24, 25] (by decide +kernel) (by decide +kernel)
set_option maxRecDepth 20000 in
theorem gX5_stayOn_X5_losePower : GoodIn wsX5_stayOn (wsV RX5 64 RX5 yX5_losePower wsX5_losePower) := goodIn_app (goodIn_of _ (by decide +kernel)) ggX5_stayOn_X5_losePower
theorem dX5_stayOn_0 : decode cX5_stayOn 0 = .ok (.iload_n 1, 1) := by decide +kernel
theorem dX5_stayOn_1 : decode cX5_stayOn 1 = .ok (.ifCond .ne 7, 3) := by decide +kernel
theorem dX5_stayOn_4 : decode cX5_stayOn 4 = .ok (.aload_n 0, 1) := by decide +kernel
theorem dX5_stayOn_5 : decode cX5_stayOn 5 = .ok (.invokevirtual 64, 3) := by decide +kernel
theorem dX5_stayOn_8 : decode cX5_stayOn 8 = .ok (.iload_n 1, 1) := by decide +kernel
theorem dX5_stayOn_9 : decode cX5_stayOn 9 = .ok (.ireturn, 1) := by decide +kernel
set_option maxRecDepth 20000 in
theorem ggX5_losePower_X4_end : GoodIn wsX5_losePower wsX4_end := goodIn_r _ [7, 8, 15, 16, 17, 18, 19, 20] (by decide +kernel) (by decide +kernel)
set_option maxRecDepth 20000 in
theorem gX5_losePower_X4_end : GoodIn wsX5_losePower (wsV RX5 139 RX4 yX4_end wsX4_end) := goodIn_app (goodIn_of _ (by decide +kernel)) ggX5_losePower_X4_end
theorem dX5_losePower_0 : decode cX5_losePower 0 = .ok (.aload_n 0, 1) := by decide +kernel
theorem dX5_losePower_1 : decode cX5_losePower 1 = .ok (.iconst (-1), 1) := by decide +kernel
theorem dX5_losePower_2 : decode cX5_losePower 2 = .ok (.putfield 42, 3) := by decide +kernel
theorem dX5_losePower_5 : decode cX5_losePower 5 = .ok (.aload_n 0, 1) := by decide +kernel
theorem dX5_losePower_6 : decode cX5_losePower 6 = .ok (.getfield 22, 3) := by decide +kernel
theorem dX5_losePower_9 : decode cX5_losePower 9 = .ok (.invokevirtual 139, 3) := by decide +kernel
theorem dX5_losePower_12 : decode cX5_losePower 12 = .ok (.return_, 1) := by decide +kernel
theorem dX5_hashWith_0 : decode cX5_hashWith 0 = .ok (.iload_n 0, 1) := by decide +kernel
theorem dX5_hashWith_1 : decode cX5_hashWith 1 = .ok (.bipush 31, 2) := by decide +kernel
theorem dX5_hashWith_3 : decode cX5_hashWith 3 = .ok (.imul, 1) := by decide +kernel
theorem dX5_hashWith_4 : decode cX5_hashWith 4 = .ok (.iload_n 1, 1) := by decide +kernel
theorem dX5_hashWith_5 : decode cX5_hashWith 5 = .ok (.iadd, 1) := by decide +kernel
theorem dX5_hashWith_6 : decode cX5_hashWith 6 = .ok (.iconst 1, 1) := by decide +kernel
theorem dX5_hashWith_7 : decode cX5_hashWith 7 = .ok (.iadd, 1) := by decide +kernel
theorem dX5_hashWith_8 : decode cX5_hashWith 8 = .ok (.ldc 246, 2) := by decide +kernel
theorem dX5_hashWith_10 : decode cX5_hashWith 10 = .ok (.irem, 1) := by decide +kernel
theorem dX5_hashWith_11 : decode cX5_hashWith 11 = .ok (.ireturn, 1) := by decide +kernel
set_option maxRecDepth 20000 in
theorem ggX6_init_X6_hashIn : GoodIn wsX6_init wsX6_hashIn := goodIn_r _ [15, 5, 16, 17, 14, 18, 19, 24, 25, 26, 27, 28, 29, 30, 31, 32, 33, 34, 35, 36, 37] (by decide +kernel) (by decide +kernel)
set_option maxRecDepth 20000 in
theorem gX6_init_X6_hashIn : GoodIn wsX6_init (wsV RX6 29 RX6 yX6_hashIn wsX6_hashIn) := goodIn_app (goodIn_of _ (by decide +kernel)) ggX6_init_X6_hashIn
set_option maxRecDepth 20000 in
theorem ggX6_init_X6_rightCheck : GoodIn wsX6_init wsX6_rightCheck := goodIn_r _ [23, 5, 24, 25, 26, 27, 28, 29, 30, 31, 32, 33, 34, 35, 36, 37] (by decide +kernel) (by decide +kernel)
set_option maxRecDepth 20000 in
theorem gX6_init_X6_rightCheck : GoodIn wsX6_init (wsV RX6 33 RX6 yX6_rightCheck wsX6_rightCheck) := goodIn_app (goodIn_of _ (by decide +kernel)) ggX6_init_X6_rightCheck
end
section
/-! my own words: what a method starts from and ends with; one row a call -/
abbrev FS : Type := (Nat → Int32) × Int32 × Int32
abbrev TS : Type := Int32 × Int32 × Int32 × Int32 × Int32 × Int32
abbrev DS : Type := Int32 × (Nat → Int32)
def rd (f : Nat → Int32) (i : Int32) : Int32 := f i.toNatClampNeg
def wr (f : Nat → Int32) (i x : Int32) : Nat → Int32 := upd f i.toNatClampNeg x
abbrev bx_iae : String := "java/lang/IllegalArgumentException"
abbrev bx_ise : String := "java/lang/IllegalStateException"
abbrev bx_ioe : String := "java/lang/IndexOutOfBoundsException"
/-- words of the tables that a call does not hand on by itself: links to private members of nest mates, casts -/
def bx_ws : List Cond := [.methodLinkNest RX5 21 yX4_init RX5, .methodLinkNest RX5 28 yX1_init RX5, .methodLinkNest RX1 23 yX5_hashWith RX5, .methodLinkNest RX3 13 yX2_init RX5, .methodLinkNest RX3 45 yX5_hashWith RX5, .castable bx_iae bx_iae, .castable bx_ise bx_ise, .castable bx_ioe bx_ioe]
def bx_ncs : List (String × String) := [(bx_ise, bx_iae), (bx_ioe, bx_iae), (bx_ioe, bx_ise)]
def bx_str : List (Nat × String) := [(100, "the offer is older than what the device has"), (126, "the running image ends before that"), (145, "the running slot is not on trial"), (166, "the draft is full"), (199, "an image has no such place"), (218, "an argument is out of range"), (220, "the device is off"), (222, "no transfer has that many bytes to come"), (224, "no transfer has all its bytes"), (234, "the bytes have another hash than was offered"), (236, "the slot is not startable"), (238, "the delta has no such piece"), (52, "the device is on"), (91, "a trial is due")]
/-- what holds of the machine from the start on -/
def bx_G (U : State) : Prop := (∀ w ∈ bx_ws, va_Nw w U) ∧ (∀ q ∈ bx_ncs, va_Nc q.1 q.2 U) ∧ ∀ q ∈ bx_str, ∃ sa : Nat, vk_R RX5 q.1 q.2 sa U
theorem bx_G.warm {s U : State} (hW : s.WarmedH U.vm) (h : bx_G s) : bx_G U := by
  refine ⟨fun w hw => ?_, fun q hq => (h.2.1 q hq).moved hW.alike, fun q hq => ?_⟩
  · have h1 := h.1 w hw
    simp only [bx_ws, List.mem_cons, List.not_mem_nil, or_false] at hw
    rcases hw with rfl | rfl | rfl | rfl | rfl | rfl | rfl | rfl <;> first | exact va_Nw.warmM hW h1 | exact va_Nw.warmC hW h1
  · obtain ⟨sa, h1⟩ := h.2.2 q hq
    exact ⟨sa, vk_R.warm hW h1⟩
theorem bx_G.calling {U : State} {g : JFrame} {mk : MethodId} {a : Array Value} (h : bx_G U) : bx_G (U.calling g mk a) := bx_G.warm (s := U) (U := U.calling g mk a) (State.WarmedH.refl U) h
/-- the two statics of Throwable that a throw reads -/
def bx_Z (A : Nat → Prop) (U : State) (H : Heap) : Prop := vx_Zq Bundle.tN "UNASSIGNED_STACK" Bundle.steD A U H ∧ vx_Zq Bundle.tN "SUPPRESSED_SENTINEL" Bundle.listD A U H
theorem bx_Z.moved {A : Nat → Prop} {u U : State} {H : Heap} (hvm : u.vm.Alike U.vm) (h : bx_Z A u H) : bx_Z A U H := ⟨vx_Zq.moved hvm h.1, vx_Zq.moved hvm h.2⟩
theorem bx_Z.kept {A : Nat → Prop} {U : State} {H H1 : Heap} (h : bx_Z A U H) (hq : ∀ a : Nat, a < H.size → ¬ A a → H1[a]? = H[a]?) : bx_Z A U H1 := ⟨h.1.kept hq, h.2.kept hq⟩
theorem bx_Z.narrow {A B : Nat → Prop} {U : State} {H : Heap} (h : bx_Z A U H) (hAB : ∀ q, B q → A q) : bx_Z B U H := ⟨h.1.narrow hAB, h.2.narrow hAB⟩
/-- which exception a code tells -/
def bx_E (k : Int32) (E : String) : Prop := (k = 1 ∧ E = bx_iae) ∨ (k = 2 ∧ E = bx_ise) ∨ (k = 3 ∧ E = bx_ioe)
theorem bx_e1 : bx_E 1 bx_iae := Or.inl ⟨rfl, rfl⟩
theorem bx_e2 : bx_E 2 bx_ise := Or.inr (Or.inl ⟨rfl, rfl⟩)
theorem bx_e3 : bx_E 3 bx_ioe := Or.inr (Or.inr ⟨rfl, rfl⟩)
theorem bx_ne {k : Int32} {E : String} (h : bx_E k E) : ¬ k = 0 := by rcases h with ⟨rfl, -⟩ | ⟨rfl, -⟩ | ⟨rfl, -⟩ <;> decide
def bx_XC (k : Int32) : String → State → State → Prop := fun E st t => bx_E k E ∧ va_F (fun _ => False) st t
/-- a read-only method's start -/
def bx_ro (D : va_G) (tys : List (ClassId × FieldType)) (ws : va_W) : State → Prop := fun U => va_P D vwCl ws U.heap ∧ va_K D vwCl tys U ∧ bx_G U
/-- a writing method's start -/
def bx_pre (D : va_G) (tys : List (ClassId × FieldType)) (ws : va_W) (sz : Nat) : State → Prop := fun U => U.heap.size = sz ∧ va_P D vwCl ws U.heap ∧ va_K D vwCl tys U ∧ va_D (fun _ => True) ws ∧ bx_G U
/-- the same where it may throw -/
def bx_rox (D : va_G) (tys : List (ClassId × FieldType)) (ws : va_W) : State → Prop := fun U => va_P D vwCl ws U.heap ∧ va_K D vwCl tys U ∧ bx_G U ∧ bx_Z (fun _ => False) U U.heap
def bx_prx (D : va_G) (tys : List (ClassId × FieldType)) (ws : va_W) (sz : Nat) : State → Prop := fun U => U.heap.size = sz ∧ va_P D vwCl ws U.heap ∧ va_K D vwCl tys U ∧ va_D (fun _ => True) ws ∧ bx_G U ∧ bx_Z (fun _ => False) U U.heap
/-- the world behind a writing method -/
def bx_at (D : va_G) (ws : va_W) (A : Nat → Prop) (t : State) : Prop := va_P D vwCl ws t.heap ∧ va_D A ws
theorem bx_nb {v : Int32} (h : v = 0 ∨ v = 1) : narrow .boolean (.int v) = .int v := by rcases h with rfl | rfl <;> rfl
theorem bx_fb {v : Int32} (h : v = 0 ∨ v = 1) : fits .boolean (.int v) = true := by rcases h with rfl | rfl <;> rfl
theorem bx_in {i N : Int32} {n : Nat} (h1 : ¬ i < 0) (h2 : ¬ N ≤ i) (hn : N.toInt = n) : vp_in i n := by
  have h3 : 0 ≤ i.toInt := Int.le_of_not_gt (fun h => h1 (Int32.lt_iff_toInt_lt.mpr h))
  have h4 : i.toInt < n := by
    rw [← hn]
    exact Int.lt_of_not_ge (fun h => h2 (Int32.le_iff_toInt_le.mpr h))
  exact vp_in_iff.mpr ⟨h3, h4⟩
theorem bx_le {N : Int32} {j : Nat} (hj : j < 2 ^ 31) : N ≤ nI j ↔ N.toNatClampNeg ≤ j := by
  rw [Int32.le_iff_toInt_le, nI_toInt hj]
  show _ ↔ N.toInt.toNat ≤ j
  omega
theorem bx_cl (N : Int32) : N.toNatClampNeg < 2 ^ 31 := by
  have h := Int32.toInt_lt N
  show N.toInt.toNat < 2 ^ 31
  omega
section BX
variable {D : va_G} {tys : List (ClassId × FieldType)} {ws : va_W} {s : State} {H : Heap} {A : Nat → Prop} {As : List Value}
theorem bx_kc {U : State} {g : JFrame} {mk : MethodId} {a : Array Value} (qK : va_K D vwCl tys U) : va_K D vwCl tys (U.calling g mk a) := va_K.moved (u := U) (U := U.calling g mk a) (Vm.Alike.refl U.vm) qK
theorem bx_zc {U : State} {g : JFrame} {mk : MethodId} {a : Array Value} (q : bx_Z A U U.heap) : bx_Z A (U.calling g mk a) (U.calling g mk a).heap := bx_Z.moved (u := U) (U := U.calling g mk a) (Vm.Alike.refl U.vm) q
theorem bx_blr {av : List Value} : FrameBlind (va_Pc av (bx_ro D tys ws)) := fun a U g mk q => by
  obtain ⟨q0, qP, qK, qG⟩ := q
  exact ⟨q0, qP, bx_kc qK, qG.calling⟩
theorem bx_blw {av : List Value} {sz : Nat} : FrameBlind (va_Pc av (bx_pre D tys ws sz)) := fun a U g mk q => by
  obtain ⟨q0, q1, qP, qK, qD, qG⟩ := q
  exact ⟨q0, q1, qP, bx_kc qK, qD, qG.calling⟩
theorem bx_blrx {av : List Value} : FrameBlind (va_Pc av (bx_rox D tys ws)) := fun a U g mk q => by
  obtain ⟨q0, qP, qK, qG, qZ⟩ := q
  exact ⟨q0, qP, bx_kc qK, qG.calling, bx_zc qZ⟩
theorem bx_blwx {av : List Value} {sz : Nat} : FrameBlind (va_Pc av (bx_prx D tys ws sz)) := fun a U g mk q => by
  obtain ⟨q0, q1, qP, qK, qD, qG, qZ⟩ := q
  exact ⟨q0, q1, qP, bx_kc qK, qD, qG.calling, bx_zc qZ⟩
section R
theorem bx_psr (hK : va_K D vwCl tys s) (hG : bx_G s) (hP : va_P D vwCl ws H) : PreS s H (va_Pc As (bx_ro D tys ws)) As :=
  ⟨bx_blr, fun U hU hW => ⟨rfl, by rw [hU]; exact hP, va_K.moved hW.alike hK, hG.warm hW⟩⟩
theorem bx_psrx (hK : va_K D vwCl tys s) (hG : bx_G s) (hZ : bx_Z (fun _ => False) s H) (hP : va_P D vwCl ws H) : PreS s H (va_Pc As (bx_rox D tys ws)) As :=
  ⟨bx_blrx, fun U hU hW => ⟨rfl, by rw [hU]; exact hP, va_K.moved hW.alike hK, hG.warm hW, by rw [hU]; exact hZ.moved hW.alike⟩⟩
theorem bx_pvr (hK : va_K D vwCl tys s) (hG : bx_G s) (hP : va_P D vwCl ws H) {b ci q0 N : Nat} {C : String} {T : u_T} {fs : List Value} (hc : vwCl[ci]? = some (C, T, N)) (he : ws[q0]? = some (b, .inr (ci, fs))) : PreV s H C b (va_Pc (.ref b :: As) (bx_ro D tys ws)) As :=
  ⟨bx_blr, va_recv hK hP hc he, (bx_psr hK hG hP).2⟩
theorem bx_pvrx (hK : va_K D vwCl tys s) (hG : bx_G s) (hZ : bx_Z (fun _ => False) s H) (hP : va_P D vwCl ws H) {b ci q0 N : Nat} {C : String} {T : u_T} {fs : List Value} (hc : vwCl[ci]? = some (C, T, N)) (he : ws[q0]? = some (b, .inr (ci, fs))) : PreV s H C b (va_Pc (.ref b :: As) (bx_rox D tys ws)) As :=
  ⟨bx_blrx, va_recv hK hP hc he, (bx_psrx hK hG hZ hP).2⟩
theorem bx_ps (hK : va_K D vwCl tys s) (hG : bx_G s) (hP : va_P D vwCl ws H) (hD : va_D A ws) : PreS s H (va_Pc As (bx_pre D tys ws H.size)) As :=
  ⟨bx_blw, fun U hU hW => ⟨rfl, by rw [hU], by rw [hU]; exact hP, va_K.moved hW.alike hK, hD.weaken (fun _ _ _ _ => trivial), hG.warm hW⟩⟩
theorem bx_psx (hK : va_K D vwCl tys s) (hG : bx_G s) (hZ : bx_Z (fun _ => False) s H) (hP : va_P D vwCl ws H) (hD : va_D A ws) : PreS s H (va_Pc As (bx_prx D tys ws H.size)) As :=
  ⟨bx_blwx, fun U hU hW => ⟨rfl, by rw [hU], by rw [hU]; exact hP, va_K.moved hW.alike hK, hD.weaken (fun _ _ _ _ => trivial), hG.warm hW, by rw [hU]; exact hZ.moved hW.alike⟩⟩
theorem bx_pv (hK : va_K D vwCl tys s) (hG : bx_G s) (hP : va_P D vwCl ws H) (hD : va_D A ws) {b ci q0 N : Nat} {C : String} {T : u_T} {fs : List Value} (hc : vwCl[ci]? = some (C, T, N)) (he : ws[q0]? = some (b, .inr (ci, fs))) : PreV s H C b (va_Pc (.ref b :: As) (bx_pre D tys ws H.size)) As :=
  ⟨bx_blw, va_recv hK hP hc he, (bx_ps hK hG hP hD).2⟩
theorem bx_pvx (hK : va_K D vwCl tys s) (hG : bx_G s) (hZ : bx_Z (fun _ => False) s H) (hP : va_P D vwCl ws H) (hD : va_D A ws) {b ci q0 N : Nat} {C : String} {T : u_T} {fs : List Value} (hc : vwCl[ci]? = some (C, T, N)) (he : ws[q0]? = some (b, .inr (ci, fs))) : PreV s H C b (va_Pc (.ref b :: As) (bx_prx D tys ws H.size)) As :=
  ⟨bx_blwx, va_recv hK hP hc he, (bx_psx hK hG hZ hP hD).2⟩
end R
end BX
section BY
variable {p : Program} {l : Launch} {e : Env} {R : Room} {s : State} {m : MethodId} {args : Array Value} {below : List Frame} {meth : Method} {c : Code} {H : Heap} {locs : List Loc} {cells slots : Nat} {Q : State → Prop}
variable {pc : Nat} {ls : Array Slot} {rest st0 : List Value} {a : Array Value} {D : va_G} {A0 : Nat → Prop} {H0 : Heap} {mc ms : Nat} {cc : ByteArray} {ws : va_W} {tys : List (ClassId × FieldType)}
theorem bx_ald {b : Nat} (hx : p.tables.exec = Jvm.exec) (hb : c.code = cc) (hK : va_K D vwCl tys s) (hP : va_P D vwCl ws H) (q0 t0 : Nat) {cA : ClassId} {n : Nat} {f : Nat → Int32} (ha : ws[q0]? = some (b, .inl (cA, n, .inl f))) (ht : tys[t0]? = some (cA, .int)) {i : Int32} (hin : vp_in i n) (hdg : decode cc pc = .ok (.iaload, 1))
    (kk : W p l e R s m args below meth c H locs cells slots Q (F0 m (pc + 1) ls (.int (rd f i) :: rest))) : W p l e R s m args below meth c H locs cells slots Q (F0 m pc ls (.int i :: .ref b :: rest)) := va_iald hx hb hK hP q0 t0 ha ht hin hdg kk
theorem bx_ast {b : Nat} (hx : p.tables.exec = Jvm.exec) (hb : c.code = cc) (hK : va_K D vwCl tys s) (hP : va_P D vwCl ws H) (hD : va_D A0 ws) (hS : va_S A0 H0 H locs) (q0 t0 : Nat) {cA : ClassId} {n : Nat} {f : Nat → Int32} (ha : ws[q0]? = some (b, .inl (cA, n, .inl f))) (ht : tys[t0]? = some (cA, .int)) {i x : Int32} (hin : vp_in i n) (hdg : decode cc pc = .ok (.iastore, 1))
    (kk : ∀ (H1 : Heap) (locs1 : List Loc), va_P D vwCl (ws.set q0 (b, .inl (cA, n, .inl (wr f i x)))) H1 → va_D A0 (ws.set q0 (b, .inl (cA, n, .inl (wr f i x)))) → va_S A0 H0 H1 locs1 → W p l e R s m args below meth c H1 locs1 cells slots Q (F0 m (pc + 1) ls rest)) : W p l e R s m args below meth c H locs cells slots Q (F0 m pc ls (.int x :: .int i :: .ref b :: rest)) := va_iast hx hb hK hP hD hS q0 t0 ha ht hin hdg kk
theorem bx_ri {post : Int32 → Prop} (hr : va_Run p l e R s m args below meth c H locs cells slots 0 0 (F0 m pc ls st0) rest (vp_Si post a) (fun _ => False))
    (kk : ∀ r : Int32, post r → W p l e R s m args below meth c H locs cells slots Q (F0 m (pc + 3) ls (.int r :: rest))) : W p l e R s m args below meth c H locs cells slots Q (F0 m pc ls st0) := by
  intro T hT X
  obtain ⟨v, st₀, t, T', L, h0, X', hL, e1, -, ⟨r, hv, hp, hh⟩, st⟩ := hr T hT X
  cases hv
  obtain ⟨t2, a1, b1⟩ := kk r hp T' (by rw [e1, hh, h0]) (Stand.forget X' (fun q h => (hL q h).elim))
  exact ⟨t2, st t2 a1, b1⟩
theorem bx_wi {S : Type} {post : Int32 → S → Prop} {wc wr : va_W} {wf wn : S → va_W} (hP : va_P D vwCl ws H) (hD : va_D A0 ws) (hS : va_S A0 H0 H locs) (hA : ∀ q, H0.size ≤ q → A0 q) (isC isR pm : List Nat) (hC : isC.map (fun i => ws[i]?) = wc.map some) (hR : isR.map (fun i => ws[i]?) = wr.map some) (hn : va_nd isR = true) (hdis : ∀ i ∈ isR, i ∉ isC)
    (hm : ∀ u, pm.map (fun i => (wr ++ wf u)[i]?) = (wn u).map some) (hpn : va_nd pm = true)
    (hr : va_Run p l e R s m args below meth c H locs cells slots mc ms (F0 m pc ls st0) rest (va_Qi post (fun u t => bx_at D (wf u) (va_A wc H.size) t) (va_A wc H.size) a) (va_A wc H.size))
    (kk : ∀ (r : Int32) (u : S) (H1 : Heap) (locs1 : List Loc), post r u → va_P D vwCl (wn u) H1 → va_D A0 (wn u) → va_S A0 H0 H1 locs1 → W p l e R s m args below meth c H1 locs1 (cells + mc) (slots + ms) Q (F0 m (pc + 3) ls (.int r :: rest))) : W p l e R s m args below meth c H locs cells slots Q (F0 m pc ls st0) := by
  have hF := va_free (wc := wc) hD hS hA isC hC
  refine va_calli hr hS (fun q _ h => hF q h) hF (fun r u t H1 locs1 ht hvm hw hB hz1 hk1 hS1 => ?_)
  obtain ⟨hP1, hD1⟩ := hB
  rw [ht] at hP1
  obtain ⟨hP2, hD2⟩ := va_join (wr := wr) (w1 := wf u) hP hD isC isR hC hR hn hdis hk1 hF hP1 hD1
  have hD3 := hD2.sub (ws' := wn u) pm hpn (hm u)
  have hP3 : va_P D vwCl (wn u) H1 := hP2.sub pm (by
    have h9 := congrArg (List.filterMap id) (hm u)
    simpa [List.filterMap_map, Function.comp_def] using h9)
  exact kk r u H1 locs1 hw hP3 hD3 hS1
theorem bx_wv {S : Type} {post : S → Prop} {wc wr : va_W} {wf wn : S → va_W} (hP : va_P D vwCl ws H) (hD : va_D A0 ws) (hS : va_S A0 H0 H locs) (hA : ∀ q, H0.size ≤ q → A0 q) (isC isR pm : List Nat) (hC : isC.map (fun i => ws[i]?) = wc.map some) (hR : isR.map (fun i => ws[i]?) = wr.map some) (hn : va_nd isR = true) (hdis : ∀ i ∈ isR, i ∉ isC)
    (hm : ∀ u, pm.map (fun i => (wr ++ wf u)[i]?) = (wn u).map some) (hpn : va_nd pm = true)
    (hr : va_Run p l e R s m args below meth c H locs cells slots mc ms (F0 m pc ls st0) rest (va_Qv post (fun u t => bx_at D (wf u) (va_A wc H.size) t) (va_A wc H.size) a) (va_A wc H.size))
    (kk : ∀ (u : S) (H1 : Heap) (locs1 : List Loc), post u → va_P D vwCl (wn u) H1 → va_D A0 (wn u) → va_S A0 H0 H1 locs1 → W p l e R s m args below meth c H1 locs1 (cells + mc) (slots + ms) Q (F0 m (pc + 3) ls rest)) : W p l e R s m args below meth c H locs cells slots Q (F0 m pc ls st0) := by
  have hF := va_free (wc := wc) hD hS hA isC hC
  refine va_callv hr hS (fun q _ h => hF q h) hF (fun u t H1 locs1 ht hvm hw hB hz1 hk1 hS1 => ?_)
  obtain ⟨hP1, hD1⟩ := hB
  rw [ht] at hP1
  obtain ⟨hP2, hD2⟩ := va_join (wr := wr) (w1 := wf u) hP hD isC isR hC hR hn hdis hk1 hF hP1 hD1
  have hD3 := hD2.sub (ws' := wn u) pm hpn (hm u)
  have hP3 : va_P D vwCl (wn u) H1 := hP2.sub pm (by
    have h9 := congrArg (List.filterMap id) (hm u)
    simpa [List.filterMap_map, Function.comp_def] using h9)
  exact kk u H1 locs1 hw hP3 hD3 hS1
/-- a return that left the heap as it was costs no room -/
theorem bx_back {T T' : State} {locs' : List Loc} {c' n' : Nat} (X : Stand p l e R s m args below meth c T locs cells slots) (X' : Stand p l e R s m args below meth c T' locs' c' n') (h : T'.heap = T.heap) : Stand p l e R s m args below meth c T' locs cells slots := by
  have e1 : (T'.setVm s.vm).heap = (T.setVm s.vm).heap := h
  refine { X' with same := ⟨X'.same.1, ?_, ?_, X'.same.2.2.2.1, ?_, ?_⟩ }
  · rw [e1]; exact X.same.2.1
  · rw [e1]; exact X.same.2.2.1
  · rw [e1]; exact X.same.2.2.2.2.1
  · rw [e1]; exact X.same.2.2.2.2.2
/-- a call that throws, or returns with the heap as it was -/
theorem bx_xsv {k : Int32} {post : Unit → Prop} {free : Addr → Prop} (hr : vx_Run p l e R s m args below meth c H locs cells slots mc ms (F0 m pc ls st0) rest (va_Sv post a) (bx_XC k) free) (hS : va_S A0 H0 H locs) (hf : ∀ q, free q → A0 q)
    (kx : ∀ (E : String) (ce : Cell) (q9 : Addr) (H1 : Heap) (locs1 : List Loc), bx_E k E → H.size ≤ H1.size → (∀ q : Nat, q < H.size → H1[q]? = H[q]?) → va_S A0 H0 H1 locs1 → H1[q9]? = some ce → ce.vm = .none → s.vm.findClass E = some ce.cls → vx_W p l e R s m args below meth c H1 locs1 (cells + mc) (slots + ms) Q (F0 m pc ls rest) q9)
    (kk : post () → W p l e R s m args below meth c H locs cells slots Q (F0 m (pc + 3) ls rest)) : W p l e R s m args below meth c H locs cells slots Q (F0 m pc ls st0) := by
  intro T hT X
  rcases hr T hT X with ⟨v, st₀, t, T', L, h0, X', hL, e1, -, ⟨hv, hp, hh⟩, st⟩ | ⟨q, st₀, t, T', L, E, ce, h0, X', hL, e1, e2, ⟨hE, hF⟩, hce, hcv, hcl, st⟩
  · cases hv
    obtain ⟨t2, a1, b1⟩ := kk hp T' (by rw [e1, hh, h0]) (bx_back X X' (by rw [e1, hh, h0, hT]))
    exact ⟨t2, st t2 a1, b1⟩
  · obtain ⟨hz, hk, hS1⟩ := vx_keep (A0 := A0) (A1 := fun _ => False) h0 e1 hS (fun _ _ z => z.elim) hf hL hF
    obtain ⟨t2, a1, b1⟩ := kx E ce q T'.heap (locs ++ L) hE hz (fun q hq => hk q hq (fun z => z)) hS1 (by rw [e1]; exact hce) hcv hcl T' rfl X'
    exact ⟨t2, Steps.trans st a1, b1⟩
end BY
end
section
abbrev wFl (cA : ClassId) (f w : Nat) (σ : FS) : va_W := [(f, .inr (2, [.ref w, .int σ.2.1, .int σ.2.2])), (w, .inl (cA, 66, .inl σ.1))]
abbrev wSt (cA : ClassId) (s0 f w : Nat) (σ : FS) : va_W := [(s0, .inr (3, [.ref f])), (f, .inr (2, [.ref w, .int σ.2.1, .int σ.2.2])), (w, .inl (cA, 66, .inl σ.1))]
abbrev wFF (cA : ClassId) (f w f2 w2 : Nat) (σ : FS) (ρ : FS) : va_W := [(f, .inr (2, [.ref w, .int σ.2.1, .int σ.2.2])), (w, .inl (cA, 66, .inl σ.1)), (f2, .inr (2, [.ref w2, .int ρ.2.1, .int ρ.2.2])), (w2, .inl (cA, 66, .inl ρ.1))]
abbrev wSS (cA : ClassId) (s0 f w s2 f2 w2 : Nat) (σ : FS) (ρ : FS) : va_W := [(s0, .inr (3, [.ref f])), (f, .inr (2, [.ref w, .int σ.2.1, .int σ.2.2])), (w, .inl (cA, 66, .inl σ.1)), (s2, .inr (3, [.ref f2])), (f2, .inr (2, [.ref w2, .int ρ.2.1, .int ρ.2.2])), (w2, .inl (cA, 66, .inl ρ.1))]
abbrev wTr (t0 : Nat) (τ : TS) : va_W := [(t0, .inr (4, [.int τ.1, .int τ.2.1, .int τ.2.2.1, .int τ.2.2.2.1, .int τ.2.2.2.2.1, .int τ.2.2.2.2.2]))]
abbrev wDr (cA : ClassId) (d db : Nat) (δ : DS) : va_W := [(d, .inr (1, [.int δ.1, .ref db])), (db, .inl (cA, 24, .inl δ.2))]
abbrev wDe (cA : ClassId) (e0 d db s0 f w : Nat) (δ : DS) (σ : FS) : va_W := [(e0, .inr (0, [.ref d, .ref s0])), (d, .inr (1, [.int δ.1, .ref db])), (db, .inl (cA, 24, .inl δ.2)), (s0, .inr (3, [.ref f])), (f, .inr (2, [.ref w, .int σ.2.1, .int σ.2.2])), (w, .inl (cA, 66, .inl σ.1))]
abbrev wST (cA : ClassId) (s0 f w t0 : Nat) (σ : FS) (τ : TS) : va_W := [(s0, .inr (3, [.ref f])), (f, .inr (2, [.ref w, .int σ.2.1, .int σ.2.2])), (w, .inl (cA, 66, .inl σ.1)), (t0, .inr (4, [.int τ.1, .int τ.2.1, .int τ.2.2.1, .int τ.2.2.2.1, .int τ.2.2.2.2.1, .int τ.2.2.2.2.2]))]
abbrev wBo (cA : ClassId) (b s0 f w s2 f2 w2 t0 d db e0 : Nat) (σ : FS) (ρ : FS) (τ : TS) (δ : DS) (run : Int32) : va_W := [(b, .inr (5, [.ref s0, .ref s2, .ref t0, .ref d, .ref e0, .int run])), (s0, .inr (3, [.ref f])), (f, .inr (2, [.ref w, .int σ.2.1, .int σ.2.2])), (w, .inl (cA, 66, .inl σ.1)), (s2, .inr (3, [.ref f2])), (f2, .inr (2, [.ref w2, .int ρ.2.1, .int ρ.2.2])), (w2, .inl (cA, 66, .inl ρ.1)), (t0, .inr (4, [.int τ.1, .int τ.2.1, .int τ.2.2.1, .int τ.2.2.2.1, .int τ.2.2.2.2.1, .int τ.2.2.2.2.2])), (d, .inr (1, [.int δ.1, .ref db])), (db, .inl (cA, 24, .inl δ.2)), (e0, .inr (0, [.ref d, .ref s0]))]
abbrev wNil : va_W := []
def F_X2_read (σ : FS) (p0 : Int32) : Int32 := (if p0 < 0 then 0 else (if 66 ≤ p0 then 0 else (rd σ.1 p0)))
set_option maxHeartbeats 4000000 in
set_option maxRecDepth 100000 in
theorem c_X2_read (l : Launch) (D : va_G) (cA : ClassId) (f w : Nat) (σ : FS) (p0 : Int32) : Met l yX2_read wsX2_read ({ frames := 0, cells := 0, slots := 0, locals := 0 }) (va_Pc [.ref f, .int p0] (bx_ro D [(cA, .int)] (wFl cA f w σ))) (vp_Si (fun r => r = F_X2_read σ p0)) 0 0 (fun _ => False) := by
  refine Met.ofW (cc := cX2_read) (maxL := 2) (ret := (some .int)) (by decide) rfl ?_
  intro p e s m args below meth c s₁ B hml hv
  obtain ⟨rfl, hP, hK, hG⟩ := hv
  have hx := B.exec
  have hb := B.bytes
  have hr := B.returns
  have hts := atoms_spec (ws := wsX2_read) B.pre
  have hown : s.vm.findClass RX2 = some m.cls := findClass_of_methodNamed B.named
  have hlocks := B.notSynchronized
  have hP : va_P D vwCl [(f, .inr (2, [.ref w, .int σ.2.1, .int σ.2.2])), (w, .inl (cA, 66, .inl σ.1))] s.heap := hP
  have hl := lv_entry ([.ref f, .int p0]) (n := 2) (Nat.le_of_ble_eq_true rfl)
  rw [lg_entry_eq]
  generalize (lg_sl ([.ref f, .int p0]) ++ List.replicate (2 - (lg_sl ([.ref f, .int p0])).length) Slot.unset).toArray = ls at hl ⊢
  have hl : lv_has ls 2 [(0, .ref f), (1, .int p0)] := hl
  have hi2 : ∀ w ∈ u_ws RX2 TX2 3, w ∈ wsX2_read := by decide +kernel
  refine lv_iload_n hx hb dX2_read_0 rfl (lv_at hl 1 rfl) ?_
  refine lv_if_lt (tgt := 22) hx hb dX2_read_1 (by decide) (fun c_1 => ?_) (fun c_1 => ?_)
  · skip
    refine lv_iconst (v := 0) hx hb dX2_read_22 (by decide) ?_
    exact W.iret (v := 0) hx hb hr (fun t ht hW => ⟨0, rfl, (by simp only [F_X2_read, if_pos c_1]), ht⟩) (fun _ h => nomatch h) dX2_read_23
  · skip
    refine lv_iload_n hx hb dX2_read_4 rfl (lv_at hl 1 rfl) ?_
    refine lv_aload_n hx hb dX2_read_5 rfl (lv_at hl 0 rfl) ?_
    refine va_get (D := D) (ci := 2) (v := .ref w) (C := RX2) (T := TX2) (N := 3) hx hb hts hi2 hown hK hP 0 rfl rfl 0 (by decide) (hts (.fieldLink RX2 11 "Bootstay$Flash" "words" "[I") (by decide +kernel)) (fun _ h9 => h9) rfl dX2_read_6 ?_
    refine va_alen (D := D) (v := 66) hx hb hK hP 1 0 rfl rfl rfl dX2_read_9 ?_
    refine lv_icmp_ge (tgt := 22) hx hb dX2_read_10 (by decide) (fun c_2 => ?_) (fun c_2 => ?_)
    · skip
      refine lv_iconst (v := 0) hx hb dX2_read_22 (by decide) ?_
      exact W.iret (v := 0) hx hb hr (fun t ht hW => ⟨0, rfl, (by simp only [F_X2_read, if_neg c_1, if_pos c_2]), ht⟩) (fun _ h => nomatch h) dX2_read_23
    · skip
      refine lv_aload_n hx hb dX2_read_13 rfl (lv_at hl 0 rfl) ?_
      refine va_get (D := D) (ci := 2) (v := .ref w) (C := RX2) (T := TX2) (N := 3) hx hb hts hi2 hown hK hP 0 rfl rfl 0 (by decide) (hts (.fieldLink RX2 11 "Bootstay$Flash" "words" "[I") (by decide +kernel)) (fun _ h9 => h9) rfl dX2_read_14 ?_
      refine lv_iload_n hx hb dX2_read_17 rfl (lv_at hl 1 rfl) ?_
      refine bx_ald (D := D) hx hb hK hP 1 0 rfl rfl (bx_in c_1 c_2 (by decide)) dX2_read_18 ?_
      refine lv_goto (tgt := 23) hx hb dX2_read_19 (by decide) ?_
      exact W.iret (v := (rd σ.1 p0)) hx hb hr (fun t ht hW => ⟨(rd σ.1 p0), rfl, (by simp only [F_X2_read, if_neg c_1, if_neg c_2]), ht⟩) (fun _ h => nomatch h) dX2_read_23
def F_X2_preset (σ : FS) (p0 : Int32) (p1 : Int32) : (FS) := (if p0 < 0 then σ else (if 66 ≤ p0 then σ else ((wr σ.1 p0 p1), σ.2.1, σ.2.2)))
set_option maxHeartbeats 4000000 in
set_option maxRecDepth 100000 in
theorem c_X2_preset (l : Launch) (D : va_G) (cA : ClassId) (f w : Nat) (sz : Nat) (σ : FS) (p0 : Int32) (p1 : Int32) : Met l yX2_preset wsX2_preset ({ frames := 0, cells := 0, slots := 0, locals := 0 }) (va_Pc [.ref f, .int p0, .int p1] (bx_pre D [(cA, .int)] (wFl cA f w σ) sz)) (va_Qv (fun u => u = F_X2_preset σ p0 p1) (fun u t => bx_at D (wFl cA f w u) (va_A (wFl cA f w σ) sz) t) (va_A (wFl cA f w σ) sz)) 0 0 (va_A (wFl cA f w σ) sz) := by
  refine Met.ofW (cc := cX2_preset) (maxL := 3) (ret := none) (by decide) rfl ?_
  intro p e s m args below meth c s₁ B hml hv
  obtain ⟨rfl, hsz, hP, hK, hD0, hG⟩ := hv
  have hx := B.exec
  have hb := B.bytes
  have hr := B.returns
  have hts := atoms_spec (ws := wsX2_preset) B.pre
  have hown : s.vm.findClass RX2 = some m.cls := findClass_of_methodNamed B.named
  have hlocks := B.notSynchronized
  subst hsz
  have hD := hD0.self (sz := s.heap.size)
  generalize hAe : va_A (wFl cA f w σ) s.heap.size = A at hD ⊢
  have hA : ∀ q : Nat, s.heap.size ≤ q → A q := fun q h => by rw [← hAe]; exact Or.inr h
  have hS : va_S A s.heap s.heap [] := va_S.rf
  have hD : va_D A [(f, .inr (2, [.ref w, .int σ.2.1, .int σ.2.2])), (w, .inl (cA, 66, .inl σ.1))] := hD
  have hP : va_P D vwCl [(f, .inr (2, [.ref w, .int σ.2.1, .int σ.2.2])), (w, .inl (cA, 66, .inl σ.1))] s.heap := hP
  have hl := lv_entry ([.ref f, .int p0, .int p1]) (n := 3) (Nat.le_of_ble_eq_true rfl)
  rw [lg_entry_eq]
  generalize (lg_sl ([.ref f, .int p0, .int p1]) ++ List.replicate (3 - (lg_sl ([.ref f, .int p0, .int p1])).length) Slot.unset).toArray = ls at hl ⊢
  have hl : lv_has ls 3 [(0, .ref f), (1, .int p0), (2, .int p1)] := hl
  have hi2 : ∀ w ∈ u_ws RX2 TX2 3, w ∈ wsX2_preset := by decide +kernel
  refine lv_iload_n hx hb dX2_preset_0 rfl (lv_at hl 1 rfl) ?_
  refine lv_if_lt (tgt := 20) hx hb dX2_preset_1 (by decide) (fun c_1 => ?_) (fun c_1 => ?_)
  · skip
    exact W.vret hx hb hr (fun t ht hW => ⟨⟨σ, rfl, (by simp only [F_X2_preset, if_pos c_1]), ⟨by rw [ht]; exact hP, hD⟩⟩, hS.F ht⟩) hS.2.2 dX2_preset_20
  · skip
    refine lv_iload_n hx hb dX2_preset_4 rfl (lv_at hl 1 rfl) ?_
    refine lv_aload_n hx hb dX2_preset_5 rfl (lv_at hl 0 rfl) ?_
    refine va_get (D := D) (ci := 2) (v := .ref w) (C := RX2) (T := TX2) (N := 3) hx hb hts hi2 hown hK hP 0 rfl rfl 0 (by decide) (hts (.fieldLink RX2 11 "Bootstay$Flash" "words" "[I") (by decide +kernel)) (fun _ h9 => h9) rfl dX2_preset_6 ?_
    refine va_alen (D := D) (v := 66) hx hb hK hP 1 0 rfl rfl rfl dX2_preset_9 ?_
    refine lv_icmp_ge (tgt := 20) hx hb dX2_preset_10 (by decide) (fun c_2 => ?_) (fun c_2 => ?_)
    · skip
      exact W.vret hx hb hr (fun t ht hW => ⟨⟨σ, rfl, (by simp only [F_X2_preset, if_neg c_1, if_pos c_2]), ⟨by rw [ht]; exact hP, hD⟩⟩, hS.F ht⟩) hS.2.2 dX2_preset_20
    · skip
      refine lv_aload_n hx hb dX2_preset_13 rfl (lv_at hl 0 rfl) ?_
      refine va_get (D := D) (ci := 2) (v := .ref w) (C := RX2) (T := TX2) (N := 3) hx hb hts hi2 hown hK hP 0 rfl rfl 0 (by decide) (hts (.fieldLink RX2 11 "Bootstay$Flash" "words" "[I") (by decide +kernel)) (fun _ h9 => h9) rfl dX2_preset_14 ?_
      refine lv_iload_n hx hb dX2_preset_17 rfl (lv_at hl 1 rfl) ?_
      refine lv_iload_n hx hb dX2_preset_18 rfl (lv_at hl 2 rfl) ?_
      refine bx_ast (D := D) hx hb hK hP hD hS 1 0 rfl rfl (bx_in c_1 c_2 (by decide)) dX2_preset_19 (fun H locs hP hD hS => ?_)
      have hP : va_P D vwCl [(f, .inr (2, [.ref w, .int σ.2.1, .int σ.2.2])), (w, .inl (cA, 66, .inl (wr σ.1 p0 p1)))] H := hP
      have hD : va_D A [(f, .inr (2, [.ref w, .int σ.2.1, .int σ.2.2])), (w, .inl (cA, 66, .inl (wr σ.1 p0 p1)))] := hD
      exact W.vret hx hb hr (fun t ht hW => ⟨⟨((wr σ.1 p0 p1), σ.2.1, σ.2.2), rfl, (by simp only [F_X2_preset, if_neg c_1, if_neg c_2]), ⟨by rw [ht]; exact hP, hD⟩⟩, hS.F ht⟩) hS.2.2 dX2_preset_20
def F_X2_write (σ : FS) (p0 : Int32) (p1 : Int32) : Int32 × (FS) := (if σ.2.2 = 0 then (let u_12 := (F_X2_preset (σ.1, (σ.2.1 + 1), (-1)) p0 ((F_X2_read (σ.1, (σ.2.1 + 1), (-1)) p0) &&& p1)); (0, u_12)) else (if σ.2.2 ≤ 0 then (let u_4 := (F_X2_preset (σ.1, (σ.2.1 + 1), σ.2.2) p0 p1); (1, u_4)) else (let u_7 := (F_X2_preset (σ.1, (σ.2.1 + 1), (σ.2.2 - 1)) p0 p1); (1, u_7))))
set_option maxHeartbeats 4000000 in
set_option maxRecDepth 100000 in
theorem c_X2_write (l : Launch) (D : va_G) (cA : ClassId) (f w : Nat) (sz : Nat) (σ : FS) (p0 : Int32) (p1 : Int32) : Met l yX2_write wsX2_write ({ frames := 1, cells := 0, slots := 0, locals := 22 }) (va_Pc [.ref f, .int p0, .int p1] (bx_pre D [(cA, .int)] (wFl cA f w σ) sz)) (va_Qi (fun r u => (r, u) = F_X2_write σ p0 p1 ∧ (r = 0 ∨ r = 1)) (fun u t => bx_at D (wFl cA f w u) (va_A (wFl cA f w σ) sz) t) (va_A (wFl cA f w σ) sz)) 0 0 (va_A (wFl cA f w σ) sz) := by
  refine Met.ofW (cc := cX2_write) (maxL := 3) (ret := (some .boolean)) (by decide) rfl ?_
  intro p e s m args below meth c s₁ B hml hv
  obtain ⟨rfl, hsz, hP, hK, hD0, hG⟩ := hv
  have hx := B.exec
  have hb := B.bytes
  have hr := B.returns
  have hts := atoms_spec (ws := wsX2_write) B.pre
  have hown : s.vm.findClass RX2 = some m.cls := findClass_of_methodNamed B.named
  have hlocks := B.notSynchronized
  subst hsz
  have hD := hD0.self (sz := s.heap.size)
  generalize hAe : va_A (wFl cA f w σ) s.heap.size = A at hD ⊢
  have hA : ∀ q : Nat, s.heap.size ≤ q → A q := fun q h => by rw [← hAe]; exact Or.inr h
  have hS : va_S A s.heap s.heap [] := va_S.rf
  have hD : va_D A [(f, .inr (2, [.ref w, .int σ.2.1, .int σ.2.2])), (w, .inl (cA, 66, .inl σ.1))] := hD
  have hP : va_P D vwCl [(f, .inr (2, [.ref w, .int σ.2.1, .int σ.2.2])), (w, .inl (cA, 66, .inl σ.1))] s.heap := hP
  have hl := lv_entry ([.ref f, .int p0, .int p1]) (n := 3) (Nat.le_of_ble_eq_true rfl)
  rw [lg_entry_eq]
  generalize (lg_sl ([.ref f, .int p0, .int p1]) ++ List.replicate (3 - (lg_sl ([.ref f, .int p0, .int p1])).length) Slot.unset).toArray = ls at hl ⊢
  have hl : lv_has ls 3 [(0, .ref f), (1, .int p0), (2, .int p1)] := hl
  have hi2 : ∀ w ∈ u_ws RX2 TX2 3, w ∈ wsX2_write := by decide +kernel
  refine lv_aload_n hx hb dX2_write_0 rfl (lv_at hl 0 rfl) ?_
  refine lv_dup hx hb dX2_write_1 rfl ?_
  refine va_get (D := D) (ci := 2) (v := .int σ.2.1) (C := RX2) (T := TX2) (N := 3) hx hb hts hi2 hown hK hP 0 rfl rfl 1 (by decide) (hts (.fieldLink RX2 17 "Bootstay$Flash" "begun" "I") (by decide +kernel)) (fun _ h9 => h9) rfl dX2_write_2 ?_
  refine lv_iconst (v := 1) hx hb dX2_write_5 (by decide) ?_
  refine lv_iadd hx hb dX2_write_6 ?_
  refine va_put (D := D) (ci := 2) (v := .int (σ.2.1 + 1)) (ty := .int) (C := RX2) (T := TX2) (N := 3) hx hb hts hi2 tyX2 tyX2_ok nmX2 hown hK hP hD hS 0 rfl rfl 1 (by decide) (hts (.fieldLink RX2 17 "Bootstay$Flash" "begun" "I") (by decide +kernel)) (fun _ h9 => h9) rfl (by decide +kernel) rfl rfl (Nat.le_of_ble_eq_true rfl) dX2_write_7 (fun H locs hP hD hS => ?_)
  have hP : va_P D vwCl [(f, .inr (2, [.ref w, .int (σ.2.1 + 1), .int σ.2.2])), (w, .inl (cA, 66, .inl σ.1))] H := hP
  have hD : va_D A [(f, .inr (2, [.ref w, .int (σ.2.1 + 1), .int σ.2.2])), (w, .inl (cA, 66, .inl σ.1))] := hD
  refine lv_aload_n hx hb dX2_write_10 rfl (lv_at hl 0 rfl) ?_
  refine va_get (D := D) (ci := 2) (v := .int σ.2.2) (C := RX2) (T := TX2) (N := 3) hx hb hts hi2 hown hK hP 0 rfl rfl 2 (by decide) (hts (.fieldLink RX2 21 "Bootstay$Flash" "writesToFailure" "I") (by decide +kernel)) (fun _ h9 => h9) rfl dX2_write_11 ?_
  refine lv_if_ne (tgt := 36) hx hb dX2_write_14 (by decide) (fun c_1 => ?_) (fun c_1 => ?_)
  · skip
    refine lv_aload_n hx hb dX2_write_36 rfl (lv_at hl 0 rfl) ?_
    refine va_get (D := D) (ci := 2) (v := .int σ.2.2) (C := RX2) (T := TX2) (N := 3) hx hb hts hi2 hown hK hP 0 rfl rfl 2 (by decide) (hts (.fieldLink RX2 21 "Bootstay$Flash" "writesToFailure" "I") (by decide +kernel)) (fun _ h9 => h9) rfl dX2_write_37 ?_
    refine lv_if_le (tgt := 53) hx hb dX2_write_40 (by decide) (fun c_2 => ?_) (fun c_2 => ?_)
    · skip
      refine lv_aload_n hx hb dX2_write_53 rfl (lv_at hl 0 rfl) ?_
      refine lv_iload_n hx hb dX2_write_54 rfl (lv_at hl 1 rfl) ?_
      refine lv_iload_n hx hb dX2_write_55 rfl (lv_at hl 2 rfl) ?_
      refine bx_wv (wc := [(f, .inr (2, [.ref w, .int (σ.2.1 + 1), .int σ.2.2])), (w, .inl (cA, 66, .inl σ.1))]) (wr := []) (wf := fun (u : (FS)) => [(f, .inr (2, [.ref w, .int u.2.1, .int u.2.2])), (w, .inl (cA, 66, .inl u.1))]) (wn := fun (u : (FS)) => [(f, .inr (2, [.ref w, .int u.2.1, .int u.2.2])), (w, .inl (cA, 66, .inl u.1))]) hP hD hS hA [0, 1] [] [0, 1] rfl rfl (by decide) (by decide) (fun u => rfl) (by decide) (va_runV (As := [.int p0, .int p1]) (rest := []) ⟨hx, hb, hml, hown, hts⟩ (c_X2_preset l D cA f w H.size (σ.1, (σ.2.1 + 1), σ.2.2) p0 p1) (cwV 2 hts gX2_write_X2_preset rfl rfl rfl (by decide +kernel) ⟨Nat.le_of_ble_eq_true rfl, Nat.le_of_ble_eq_true rfl⟩) (bx_pv (ci := 2) (q0 := 0) hK hG (hP.sub (ws' := [(f, .inr (2, [.ref w, .int (σ.2.1 + 1), .int σ.2.2])), (w, .inl (cA, 66, .inl σ.1))]) [0, 1] rfl) (hD.sub (ws' := [(f, .inr (2, [.ref w, .int (σ.2.1 + 1), .int σ.2.2])), (w, .inl (cA, 66, .inl σ.1))]) [0, 1] (by decide) rfl) rfl rfl) rfl rfl hl.1 rfl (lv_room (Nat.le_of_ble_eq_true rfl)) dX2_write_56 ⟨Nat.zero_le _, Nat.zero_le _⟩) (fun  u_4 H locs h_3 hP hD hS => ?_)
      have hP : va_P D vwCl [(f, .inr (2, [.ref w, .int u_4.2.1, .int u_4.2.2])), (w, .inl (cA, 66, .inl u_4.1))] H := hP
      have hD : va_D A [(f, .inr (2, [.ref w, .int u_4.2.1, .int u_4.2.2])), (w, .inl (cA, 66, .inl u_4.1))] := hD
      refine lv_iconst (v := 1) hx hb dX2_write_59 (by decide) ?_
      exact W.zret (v := 1) hx hb hr rfl (fun t ht hW => ⟨⟨1, u_4, rfl, ⟨(by simp only [F_X2_write, if_neg c_1, if_pos c_2, ← h_3]), (by decide)⟩, ⟨by rw [ht]; exact hP, hD⟩⟩, hS.F ht⟩) hS.2.2 dX2_write_60
    · skip
      refine lv_aload_n hx hb dX2_write_43 rfl (lv_at hl 0 rfl) ?_
      refine lv_dup hx hb dX2_write_44 rfl ?_
      refine va_get (D := D) (ci := 2) (v := .int σ.2.2) (C := RX2) (T := TX2) (N := 3) hx hb hts hi2 hown hK hP 0 rfl rfl 2 (by decide) (hts (.fieldLink RX2 21 "Bootstay$Flash" "writesToFailure" "I") (by decide +kernel)) (fun _ h9 => h9) rfl dX2_write_45 ?_
      refine lv_iconst (v := 1) hx hb dX2_write_48 (by decide) ?_
      refine lv_isub hx hb dX2_write_49 ?_
      refine va_put (D := D) (ci := 2) (v := .int (σ.2.2 - 1)) (ty := .int) (C := RX2) (T := TX2) (N := 3) hx hb hts hi2 tyX2 tyX2_ok nmX2 hown hK hP hD hS 0 rfl rfl 2 (by decide) (hts (.fieldLink RX2 21 "Bootstay$Flash" "writesToFailure" "I") (by decide +kernel)) (fun _ h9 => h9) rfl (by decide +kernel) rfl rfl (Nat.le_of_ble_eq_true rfl) dX2_write_50 (fun H locs hP hD hS => ?_)
      have hP : va_P D vwCl [(f, .inr (2, [.ref w, .int (σ.2.1 + 1), .int (σ.2.2 - 1)])), (w, .inl (cA, 66, .inl σ.1))] H := hP
      have hD : va_D A [(f, .inr (2, [.ref w, .int (σ.2.1 + 1), .int (σ.2.2 - 1)])), (w, .inl (cA, 66, .inl σ.1))] := hD
      refine lv_aload_n hx hb dX2_write_53 rfl (lv_at hl 0 rfl) ?_
      refine lv_iload_n hx hb dX2_write_54 rfl (lv_at hl 1 rfl) ?_
      refine lv_iload_n hx hb dX2_write_55 rfl (lv_at hl 2 rfl) ?_
      refine bx_wv (wc := [(f, .inr (2, [.ref w, .int (σ.2.1 + 1), .int (σ.2.2 - 1)])), (w, .inl (cA, 66, .inl σ.1))]) (wr := []) (wf := fun (u : (FS)) => [(f, .inr (2, [.ref w, .int u.2.1, .int u.2.2])), (w, .inl (cA, 66, .inl u.1))]) (wn := fun (u : (FS)) => [(f, .inr (2, [.ref w, .int u.2.1, .int u.2.2])), (w, .inl (cA, 66, .inl u.1))]) hP hD hS hA [0, 1] [] [0, 1] rfl rfl (by decide) (by decide) (fun u => rfl) (by decide) (va_runV (As := [.int p0, .int p1]) (rest := []) ⟨hx, hb, hml, hown, hts⟩ (c_X2_preset l D cA f w H.size (σ.1, (σ.2.1 + 1), (σ.2.2 - 1)) p0 p1) (cwV 2 hts gX2_write_X2_preset rfl rfl rfl (by decide +kernel) ⟨Nat.le_of_ble_eq_true rfl, Nat.le_of_ble_eq_true rfl⟩) (bx_pv (ci := 2) (q0 := 0) hK hG (hP.sub (ws' := [(f, .inr (2, [.ref w, .int (σ.2.1 + 1), .int (σ.2.2 - 1)])), (w, .inl (cA, 66, .inl σ.1))]) [0, 1] rfl) (hD.sub (ws' := [(f, .inr (2, [.ref w, .int (σ.2.1 + 1), .int (σ.2.2 - 1)])), (w, .inl (cA, 66, .inl σ.1))]) [0, 1] (by decide) rfl) rfl rfl) rfl rfl hl.1 rfl (lv_room (Nat.le_of_ble_eq_true rfl)) dX2_write_56 ⟨Nat.zero_le _, Nat.zero_le _⟩) (fun  u_7 H locs h_6 hP hD hS => ?_)
      have hP : va_P D vwCl [(f, .inr (2, [.ref w, .int u_7.2.1, .int u_7.2.2])), (w, .inl (cA, 66, .inl u_7.1))] H := hP
      have hD : va_D A [(f, .inr (2, [.ref w, .int u_7.2.1, .int u_7.2.2])), (w, .inl (cA, 66, .inl u_7.1))] := hD
      refine lv_iconst (v := 1) hx hb dX2_write_59 (by decide) ?_
      exact W.zret (v := 1) hx hb hr rfl (fun t ht hW => ⟨⟨1, u_7, rfl, ⟨(by simp only [F_X2_write, if_neg c_1, if_neg c_2, ← h_6]), (by decide)⟩, ⟨by rw [ht]; exact hP, hD⟩⟩, hS.F ht⟩) hS.2.2 dX2_write_60
  · skip
    refine lv_aload_n hx hb dX2_write_17 rfl (lv_at hl 0 rfl) ?_
    refine lv_iconst (v := (-1)) hx hb dX2_write_18 (by decide) ?_
    refine va_put (D := D) (ci := 2) (v := .int (-1)) (ty := .int) (C := RX2) (T := TX2) (N := 3) hx hb hts hi2 tyX2 tyX2_ok nmX2 hown hK hP hD hS 0 rfl rfl 2 (by decide) (hts (.fieldLink RX2 21 "Bootstay$Flash" "writesToFailure" "I") (by decide +kernel)) (fun _ h9 => h9) rfl (by decide +kernel) rfl rfl (Nat.le_of_ble_eq_true rfl) dX2_write_19 (fun H locs hP hD hS => ?_)
    have hP : va_P D vwCl [(f, .inr (2, [.ref w, .int (σ.2.1 + 1), .int (-1)])), (w, .inl (cA, 66, .inl σ.1))] H := hP
    have hD : va_D A [(f, .inr (2, [.ref w, .int (σ.2.1 + 1), .int (-1)])), (w, .inl (cA, 66, .inl σ.1))] := hD
    refine lv_aload_n hx hb dX2_write_22 rfl (lv_at hl 0 rfl) ?_
    refine lv_iload_n hx hb dX2_write_23 rfl (lv_at hl 1 rfl) ?_
    refine lv_aload_n hx hb dX2_write_24 rfl (lv_at hl 0 rfl) ?_
    refine lv_iload_n hx hb dX2_write_25 rfl (lv_at hl 1 rfl) ?_
    refine bx_ri (va_runV (As := [.int p0]) (rest := [.int p0, .ref f]) ⟨hx, hb, hml, hown, hts⟩ (c_X2_read l D cA f w (σ.1, (σ.2.1 + 1), (-1)) p0) (cwV 1 hts gX2_write_X2_read rfl rfl rfl (by decide +kernel) ⟨Nat.le_of_ble_eq_true rfl, Nat.le_of_ble_eq_true rfl⟩) (bx_pvr (ci := 2) (q0 := 0) hK hG (hP.sub (ws' := [(f, .inr (2, [.ref w, .int (σ.2.1 + 1), .int (-1)])), (w, .inl (cA, 66, .inl σ.1))]) [0, 1] rfl) rfl rfl) rfl rfl hl.1 rfl (lv_room (Nat.le_of_ble_eq_true rfl)) dX2_write_26 ⟨Nat.zero_le _, Nat.zero_le _⟩) (fun r_9 h_10 => ?_)
    subst h_10
    refine lv_iload_n hx hb dX2_write_29 rfl (lv_at hl 2 rfl) ?_
    refine lv_iand hx hb dX2_write_30 ?_
    refine bx_wv (wc := [(f, .inr (2, [.ref w, .int (σ.2.1 + 1), .int (-1)])), (w, .inl (cA, 66, .inl σ.1))]) (wr := []) (wf := fun (u : (FS)) => [(f, .inr (2, [.ref w, .int u.2.1, .int u.2.2])), (w, .inl (cA, 66, .inl u.1))]) (wn := fun (u : (FS)) => [(f, .inr (2, [.ref w, .int u.2.1, .int u.2.2])), (w, .inl (cA, 66, .inl u.1))]) hP hD hS hA [0, 1] [] [0, 1] rfl rfl (by decide) (by decide) (fun u => rfl) (by decide) (va_runV (As := [.int p0, .int ((F_X2_read (σ.1, (σ.2.1 + 1), (-1)) p0) &&& p1)]) (rest := []) ⟨hx, hb, hml, hown, hts⟩ (c_X2_preset l D cA f w H.size (σ.1, (σ.2.1 + 1), (-1)) p0 ((F_X2_read (σ.1, (σ.2.1 + 1), (-1)) p0) &&& p1)) (cwV 2 hts gX2_write_X2_preset rfl rfl rfl (by decide +kernel) ⟨Nat.le_of_ble_eq_true rfl, Nat.le_of_ble_eq_true rfl⟩) (bx_pv (ci := 2) (q0 := 0) hK hG (hP.sub (ws' := [(f, .inr (2, [.ref w, .int (σ.2.1 + 1), .int (-1)])), (w, .inl (cA, 66, .inl σ.1))]) [0, 1] rfl) (hD.sub (ws' := [(f, .inr (2, [.ref w, .int (σ.2.1 + 1), .int (-1)])), (w, .inl (cA, 66, .inl σ.1))]) [0, 1] (by decide) rfl) rfl rfl) rfl rfl hl.1 rfl (lv_room (Nat.le_of_ble_eq_true rfl)) dX2_write_31 ⟨Nat.zero_le _, Nat.zero_le _⟩) (fun  u_12 H locs h_11 hP hD hS => ?_)
    have hP : va_P D vwCl [(f, .inr (2, [.ref w, .int u_12.2.1, .int u_12.2.2])), (w, .inl (cA, 66, .inl u_12.1))] H := hP
    have hD : va_D A [(f, .inr (2, [.ref w, .int u_12.2.1, .int u_12.2.2])), (w, .inl (cA, 66, .inl u_12.1))] := hD
    refine lv_iconst (v := 0) hx hb dX2_write_34 (by decide) ?_
    exact W.zret (v := 0) hx hb hr rfl (fun t ht hW => ⟨⟨0, u_12, rfl, ⟨(by simp only [F_X2_write, if_pos c_1, ← h_11]), (by decide)⟩, ⟨by rw [ht]; exact hP, hD⟩⟩, hS.F ht⟩) hS.2.2 dX2_write_35
def F_X2_chooseFailure (σ : FS) (p0 : Int32) : (FS) := (σ.1, σ.2.1, p0)
set_option maxHeartbeats 4000000 in
set_option maxRecDepth 100000 in
theorem c_X2_chooseFailure (l : Launch) (D : va_G) (cA : ClassId) (f w : Nat) (sz : Nat) (σ : FS) (p0 : Int32) : Met l yX2_chooseFailure wsX2_chooseFailure ({ frames := 0, cells := 0, slots := 0, locals := 0 }) (va_Pc [.ref f, .int p0] (bx_pre D [(cA, .int)] (wFl cA f w σ) sz)) (va_Qv (fun u => u = F_X2_chooseFailure σ p0) (fun u t => bx_at D (wFl cA f w u) (va_A (wFl cA f w σ) sz) t) (va_A (wFl cA f w σ) sz)) 0 0 (va_A (wFl cA f w σ) sz) := by
  refine Met.ofW (cc := cX2_chooseFailure) (maxL := 2) (ret := none) (by decide) rfl ?_
  intro p e s m args below meth c s₁ B hml hv
  obtain ⟨rfl, hsz, hP, hK, hD0, hG⟩ := hv
  have hx := B.exec
  have hb := B.bytes
  have hr := B.returns
  have hts := atoms_spec (ws := wsX2_chooseFailure) B.pre
  have hown : s.vm.findClass RX2 = some m.cls := findClass_of_methodNamed B.named
  have hlocks := B.notSynchronized
  subst hsz
  have hD := hD0.self (sz := s.heap.size)
  generalize hAe : va_A (wFl cA f w σ) s.heap.size = A at hD ⊢
  have hA : ∀ q : Nat, s.heap.size ≤ q → A q := fun q h => by rw [← hAe]; exact Or.inr h
  have hS : va_S A s.heap s.heap [] := va_S.rf
  have hD : va_D A [(f, .inr (2, [.ref w, .int σ.2.1, .int σ.2.2])), (w, .inl (cA, 66, .inl σ.1))] := hD
  have hP : va_P D vwCl [(f, .inr (2, [.ref w, .int σ.2.1, .int σ.2.2])), (w, .inl (cA, 66, .inl σ.1))] s.heap := hP
  have hl := lv_entry ([.ref f, .int p0]) (n := 2) (Nat.le_of_ble_eq_true rfl)
  rw [lg_entry_eq]
  generalize (lg_sl ([.ref f, .int p0]) ++ List.replicate (2 - (lg_sl ([.ref f, .int p0])).length) Slot.unset).toArray = ls at hl ⊢
  have hl : lv_has ls 2 [(0, .ref f), (1, .int p0)] := hl
  have hi2 : ∀ w ∈ u_ws RX2 TX2 3, w ∈ wsX2_chooseFailure := by decide +kernel
  refine lv_aload_n hx hb dX2_chooseFailure_0 rfl (lv_at hl 0 rfl) ?_
  refine lv_iload_n hx hb dX2_chooseFailure_1 rfl (lv_at hl 1 rfl) ?_
  refine va_put (D := D) (ci := 2) (v := .int p0) (ty := .int) (C := RX2) (T := TX2) (N := 3) hx hb hts hi2 tyX2 tyX2_ok nmX2 hown hK hP hD hS 0 rfl rfl 2 (by decide) (hts (.fieldLink RX2 21 "Bootstay$Flash" "writesToFailure" "I") (by decide +kernel)) (fun _ h9 => h9) rfl (by decide +kernel) rfl rfl (Nat.le_of_ble_eq_true rfl) dX2_chooseFailure_2 (fun H locs hP hD hS => ?_)
  have hP : va_P D vwCl [(f, .inr (2, [.ref w, .int σ.2.1, .int p0])), (w, .inl (cA, 66, .inl σ.1))] H := hP
  have hD : va_D A [(f, .inr (2, [.ref w, .int σ.2.1, .int p0])), (w, .inl (cA, 66, .inl σ.1))] := hD
  exact W.vret hx hb hr (fun t ht hW => ⟨⟨(σ.1, σ.2.1, p0), rfl, rfl, ⟨by rw [ht]; exact hP, hD⟩⟩, hS.F ht⟩) hS.2.2 dX2_chooseFailure_5
def F_X2_begunWrites (σ : FS) : Int32 := σ.2.1
set_option maxHeartbeats 4000000 in
set_option maxRecDepth 100000 in
theorem c_X2_begunWrites (l : Launch) (D : va_G) (cA : ClassId) (f w : Nat) (σ : FS) : Met l yX2_begunWrites wsX2_begunWrites ({ frames := 0, cells := 0, slots := 0, locals := 0 }) (va_Pc [.ref f] (bx_ro D [(cA, .int)] (wFl cA f w σ))) (vp_Si (fun r => r = F_X2_begunWrites σ)) 0 0 (fun _ => False) := by
  refine Met.ofW (cc := cX2_begunWrites) (maxL := 1) (ret := (some .int)) (by decide) rfl ?_
  intro p e s m args below meth c s₁ B hml hv
  obtain ⟨rfl, hP, hK, hG⟩ := hv
  have hx := B.exec
  have hb := B.bytes
  have hr := B.returns
  have hts := atoms_spec (ws := wsX2_begunWrites) B.pre
  have hown : s.vm.findClass RX2 = some m.cls := findClass_of_methodNamed B.named
  have hlocks := B.notSynchronized
  have hP : va_P D vwCl [(f, .inr (2, [.ref w, .int σ.2.1, .int σ.2.2])), (w, .inl (cA, 66, .inl σ.1))] s.heap := hP
  have hl := lv_entry ([.ref f]) (n := 1) (Nat.le_of_ble_eq_true rfl)
  rw [lg_entry_eq]
  generalize (lg_sl ([.ref f]) ++ List.replicate (1 - (lg_sl ([.ref f])).length) Slot.unset).toArray = ls at hl ⊢
  have hl : lv_has ls 1 [(0, .ref f)] := hl
  have hi2 : ∀ w ∈ u_ws RX2 TX2 3, w ∈ wsX2_begunWrites := by decide +kernel
  refine lv_aload_n hx hb dX2_begunWrites_0 rfl (lv_at hl 0 rfl) ?_
  refine va_get (D := D) (ci := 2) (v := .int σ.2.1) (C := RX2) (T := TX2) (N := 3) hx hb hts hi2 hown hK hP 0 rfl rfl 1 (by decide) (hts (.fieldLink RX2 17 "Bootstay$Flash" "begun" "I") (by decide +kernel)) (fun _ h9 => h9) rfl dX2_begunWrites_1 ?_
  exact W.iret (v := σ.2.1) hx hb hr (fun t ht hW => ⟨σ.2.1, rfl, rfl, ht⟩) (fun _ h => nomatch h) dX2_begunWrites_4
/-- the first n words of g, then those of f -/
def mirr (f g : Nat → Int32) (n : Nat) : Nat → Int32 := fun k => if k < n then g k else f k
theorem mirr_0 (f g : Nat → Int32) : mirr f g 0 = f := by funext k; simp [mirr]
theorem mirr_s {f g : Nat → Int32} {j : Nat} (hj : j < 66) {x : Int32} (hx : x = g j) : wr (mirr f g j) (nI j) x = mirr f g (j + 1) := by
  funext k
  show upd (mirr f g j) (nI j).toNatClampNeg x k = _
  rw [nI_clamp (by omega)]
  unfold mirr upd
  subst hx
  by_cases h : k = j
  · subst h; simp
  · simp only [h, if_false]
    by_cases h2 : k < j
    · rw [if_pos h2, if_pos (by omega)]
    · rw [if_neg h2, if_neg (by omega)]
theorem read_nI {σ : FS} {j : Nat} (hj : j < 66) : F_X2_read σ (nI j) = σ.1 j := by
  unfold F_X2_read
  rw [if_neg (nI_pos (by omega)), if_neg (by have := @nI_ge j 66 (by omega) (by omega); exact this)]
  show σ.1 (nI j).toNatClampNeg = _
  rw [nI_clamp (by omega)]
def F_X2_mirror (σ ρ : FS) : FS := (mirr σ.1 ρ.1 66, σ.2.1, σ.2.2)
 
set_option maxHeartbeats 4000000 in
set_option maxRecDepth 100000 in
theorem c_X2_mirror (l : Launch) (D : va_G) (cA : ClassId) (f w f2 w2 : Nat) (sz : Nat) (σ : FS) (ρ : FS) : Met l yX2_mirror wsX2_mirror ({ frames := 1, cells := 0, slots := 0, locals := 21 }) (va_Pc [.ref f, .ref f2] (bx_pre D [(cA, .int)] (wFF cA f w f2 w2 σ ρ) sz)) (va_Qv (fun u => u = F_X2_mirror σ ρ) (fun u t => bx_at D (wFF cA f w f2 w2 u ρ) (va_A (wFF cA f w f2 w2 σ ρ) sz) t) (va_A (wFF cA f w f2 w2 σ ρ) sz)) 0 0 (va_A (wFF cA f w f2 w2 σ ρ) sz) := by
  refine Met.ofW (cc := cX2_mirror) (maxL := 3) (ret := none) (by decide) rfl ?_
  intro p e s m args below meth c s₁ B hml hv
  obtain ⟨rfl, hsz, hP, hK, hD0, hG⟩ := hv
  have hx := B.exec
  have hb := B.bytes
  have hr := B.returns
  have hts := atoms_spec (ws := wsX2_mirror) B.pre
  have hown : s.vm.findClass RX2 = some m.cls := findClass_of_methodNamed B.named
  have hlocks := B.notSynchronized
  subst hsz
  have hD := hD0.self (sz := s.heap.size)
  generalize hAe : va_A (wFF cA f w f2 w2 σ ρ) s.heap.size = A at hD ⊢
  have hA : ∀ q : Nat, s.heap.size ≤ q → A q := fun q h => by rw [← hAe]; exact Or.inr h
  have hS : va_S A s.heap s.heap [] := va_S.rf
  have hD : va_D A [(f, .inr (2, [.ref w, .int σ.2.1, .int σ.2.2])), (w, .inl (cA, 66, .inl σ.1)), (f2, .inr (2, [.ref w2, .int ρ.2.1, .int ρ.2.2])), (w2, .inl (cA, 66, .inl ρ.1))] := hD
  have hP : va_P D vwCl [(f, .inr (2, [.ref w, .int σ.2.1, .int σ.2.2])), (w, .inl (cA, 66, .inl σ.1)), (f2, .inr (2, [.ref w2, .int ρ.2.1, .int ρ.2.2])), (w2, .inl (cA, 66, .inl ρ.1))] s.heap := hP
  have hl := lv_entry ([.ref f, .ref f2]) (n := 3) (Nat.le_of_ble_eq_true rfl)
  rw [lg_entry_eq]
  generalize (lg_sl ([.ref f, .ref f2]) ++ List.replicate (3 - (lg_sl ([.ref f, .ref f2])).length) Slot.unset).toArray = ls at hl ⊢
  have hl : lv_has ls 3 [(0, .ref f), (1, .ref f2)] := hl
  have hi2 : ∀ w ∈ u_ws RX2 TX2 3, w ∈ wsX2_mirror := by decide +kernel
  refine lv_iconst (v := 0) hx hb dX2_mirror_0 (by decide) ?_
  refine lv_istore_n (lv' := [(2, .int 0), (0, .ref f), (1, .ref f2)]) hx hb dX2_mirror_1 rfl hl (by decide) rfl (fun ls hl => ?_)
  have loop2 : ∀ (n : Nat) (j : Nat) (k : Int32) (σ9 : FS), 66 - j < n → j ≤ 66 → k = nI j → σ9 = (mirr σ.1 ρ.1 j, σ.2.1, σ.2.2) → ∀ (H : Heap) (locs : List Loc), va_P D vwCl [(f, .inr (2, [.ref w, .int σ9.2.1, .int σ9.2.2])), (w, .inl (cA, 66, .inl σ9.1)), (f2, .inr (2, [.ref w2, .int ρ.2.1, .int ρ.2.2])), (w2, .inl (cA, 66, .inl ρ.1))] H → va_D A [(f, .inr (2, [.ref w, .int σ9.2.1, .int σ9.2.2])), (w, .inl (cA, 66, .inl σ9.1)), (f2, .inr (2, [.ref w2, .int ρ.2.1, .int ρ.2.2])), (w2, .inl (cA, 66, .inl ρ.1))] → va_S A s.heap H locs → ∀ (ls : Array Slot), lv_has ls 3 [(2, .int k), (0, .ref f), (1, .ref f2)] → W p l e (headSpec wsX2_mirror ({ frames := 1, cells := 0, slots := 0, locals := 21 })).room s m ([.ref f, .ref f2] : List Value).toArray below meth c H locs 0 0 (MQ below (va_Qv (fun u => u = F_X2_mirror σ ρ) (fun u t => bx_at D (wFF cA f w f2 w2 u ρ) (A) t) (A)) ([.ref f, .ref f2] : List Value).toArray s 0 0 (A)) (F0 m 2 ls []) := by
    intro n
    induction n with
    | zero =>
      intro j k σ9 h_f ij ik iσ H locs hP hD hS ls hl
      exact absurd h_f (Nat.not_lt_zero _)
    | succ n ih2 =>
      intro j k σ9 h_f ij ik iσ H locs hP hD hS ls hl
      refine lv_iload_n hx hb dX2_mirror_2 rfl (lv_at hl 0 rfl) ?_
      refine lv_aload_n hx hb dX2_mirror_3 rfl (lv_at hl 1 rfl) ?_
      refine va_get (D := D) (ci := 2) (v := .ref w) (C := RX2) (T := TX2) (N := 3) hx hb hts hi2 hown hK hP 0 rfl rfl 0 (by decide) (hts (.fieldLink RX2 11 "Bootstay$Flash" "words" "[I") (by decide +kernel)) (fun _ h9 => h9) rfl dX2_mirror_4 ?_
      refine va_alen (D := D) (v := 66) hx hb hK hP 1 0 rfl rfl rfl dX2_mirror_7 ?_
      refine lv_icmp_ge (tgt := 28) hx hb dX2_mirror_8 (by decide) (fun c_1 => ?_) (fun c_1 => ?_)
      · skip
        have hj : 66 ≤ j := (bx_le (by omega)).mp (ik ▸ c_1)
        exact W.vret hx hb hr (fun t ht hW => ⟨⟨σ9, rfl, (by rw [iσ, Nat.le_antisymm ij hj]; rfl), ⟨by rw [ht]; exact hP, hD⟩⟩, hS.F ht⟩) hS.2.2 dX2_mirror_28
      · skip
        have hj : j < 66 := Nat.lt_of_not_le (fun h => c_1 (by rw [ik]; exact (bx_le (by omega)).mpr h))
        refine lv_aload_n hx hb dX2_mirror_11 rfl (lv_at hl 1 rfl) ?_
        refine va_get (D := D) (ci := 2) (v := .ref w) (C := RX2) (T := TX2) (N := 3) hx hb hts hi2 hown hK hP 0 rfl rfl 0 (by decide) (hts (.fieldLink RX2 11 "Bootstay$Flash" "words" "[I") (by decide +kernel)) (fun _ h9 => h9) rfl dX2_mirror_12 ?_
        refine lv_iload_n hx hb dX2_mirror_15 rfl (lv_at hl 0 rfl) ?_
        refine lv_aload_n hx hb dX2_mirror_16 rfl (lv_at hl 2 rfl) ?_
        refine lv_iload_n hx hb dX2_mirror_17 rfl (lv_at hl 0 rfl) ?_
        refine bx_ri (va_runV (As := [.int k]) (rest := [.int k, .ref w]) ⟨hx, hb, hml, hown, hts⟩ (c_X2_read l D cA f2 w2 ρ k) (cwV 1 hts gX2_mirror_X2_read rfl rfl rfl (by decide +kernel) ⟨Nat.le_of_ble_eq_true rfl, Nat.le_of_ble_eq_true rfl⟩) (bx_pvr (ci := 2) (q0 := 0) hK hG (hP.sub (ws' := [(f2, .inr (2, [.ref w2, .int ρ.2.1, .int ρ.2.2])), (w2, .inl (cA, 66, .inl ρ.1))]) [2, 3] rfl) rfl rfl) rfl rfl hl.1 rfl (lv_room (Nat.le_of_ble_eq_true rfl)) dX2_mirror_18 ⟨Nat.zero_le _, Nat.zero_le _⟩) (fun r_2 h_3 => ?_)
        subst h_3
        refine bx_ast (D := D) hx hb hK hP hD hS 1 0 rfl rfl (by rw [ik]; exact vp_in_nI hj (by decide)) dX2_mirror_21 (fun H locs hP hD hS => ?_)
        have hP : va_P D vwCl [(f, .inr (2, [.ref w, .int σ9.2.1, .int σ9.2.2])), (w, .inl (cA, 66, .inl (wr σ9.1 k (F_X2_read ρ k)))), (f2, .inr (2, [.ref w2, .int ρ.2.1, .int ρ.2.2])), (w2, .inl (cA, 66, .inl ρ.1))] H := hP
        have hD : va_D A [(f, .inr (2, [.ref w, .int σ9.2.1, .int σ9.2.2])), (w, .inl (cA, 66, .inl (wr σ9.1 k (F_X2_read ρ k)))), (f2, .inr (2, [.ref w2, .int ρ.2.1, .int ρ.2.2])), (w2, .inl (cA, 66, .inl ρ.1))] := hD
        refine lv_iinc (v := (k + 1)) (lv' := [(2, .int (k + 1)), (0, .ref f), (1, .ref f2)]) hx hb dX2_mirror_22 hl (k := 0) rfl rfl (by decide) rfl (fun ls hl => ?_)
        refine lv_goto (tgt := 2) hx hb dX2_mirror_25 (by decide) ?_
        exact ih2 (j + 1) (k + 1) ((wr σ9.1 k (F_X2_read ρ k)), σ9.2.1, σ9.2.2) (by omega) hj (by rw [ik]; exact nI_1 j) (by rw [iσ, ik, mirr_s hj (read_nI hj)]) _ _ hP hD hS ls (lv_sub hl [0, 1, 2] rfl)
  exact loop2 67 0 0 σ (by omega) (by omega) nI_0.symm (by rw [mirr_0]) _ _ hP hD hS ls (lv_sub hl [0, 1, 2] rfl)
end
section
def F_X5_hashWith (p0 : Int32) (p1 : Int32) : Int32 := ((((p0 * 31) + p1) + 1) - (((p0 * 31) + p1) + 1) / 65521 * 65521)
set_option maxHeartbeats 4000000 in
set_option maxRecDepth 100000 in
theorem c_X5_hashWith (l : Launch) (D : va_G) (p0 : Int32) (p1 : Int32) : Met l yX5_hashWith wsX5_hashWith ({ frames := 0, cells := 0, slots := 0, locals := 0 }) (va_Pc [.int p0, .int p1] (bx_ro D [] (wNil))) (vp_Si (fun r => r = F_X5_hashWith p0 p1)) 0 0 (fun _ => False) := by
  refine Met.ofW (cc := cX5_hashWith) (maxL := 2) (ret := (some .int)) (by decide) rfl ?_
  intro p e s m args below meth c s₁ B hml hv
  obtain ⟨rfl, hP, hK, hG⟩ := hv
  have hx := B.exec
  have hb := B.bytes
  have hr := B.returns
  have hts := atoms_spec (ws := wsX5_hashWith) B.pre
  have hown : s.vm.findClass RX5 = some m.cls := findClass_of_methodNamed B.named
  have hlocks := B.notSynchronized
  have hP : va_P D vwCl [] s.heap := hP
  have hl := lv_entry ([.int p0, .int p1]) (n := 2) (Nat.le_of_ble_eq_true rfl)
  rw [lg_entry_eq]
  generalize (lg_sl ([.int p0, .int p1]) ++ List.replicate (2 - (lg_sl ([.int p0, .int p1])).length) Slot.unset).toArray = ls at hl ⊢
  have hl : lv_has ls 2 [(0, .int p0), (1, .int p1)] := hl
  refine lv_iload_n hx hb dX5_hashWith_0 rfl (lv_at hl 0 rfl) ?_
  refine lv_bipush (v := 31) hx hb dX5_hashWith_1 (by decide) ?_
  refine lv_imul hx hb dX5_hashWith_3 ?_
  refine lv_iload_n hx hb dX5_hashWith_4 rfl (lv_at hl 1 rfl) ?_
  refine lv_iadd hx hb dX5_hashWith_5 ?_
  refine lv_iconst (v := 1) hx hb dX5_hashWith_6 (by decide) ?_
  refine lv_iadd hx hb dX5_hashWith_7 ?_
  refine lv_ldc (v := 65521) hx hb hown (hts (.constant RX5 246 (65521)) (by decide +kernel)) dX5_hashWith_8 ?_
  refine lv_irem hx hb dX5_hashWith_10 (by decide) ?_
  exact W.iret (v := ((((p0 * 31) + p1) + 1) - (((p0 * 31) + p1) + 1) / 65521 * 65521)) hx hb hr (fun t ht hW => ⟨((((p0 * 31) + p1) + 1) - (((p0 * 31) + p1) + 1) / 65521 * 65521), rfl, rfl, ht⟩) (fun _ h => nomatch h) dX5_hashWith_11
def F_X4_begin (p0 : Int32) (p1 : Int32) (p2 : Int32) (p3 : Int32) : (TS) := (p0, p1, p2, p3, 0, 1)
set_option maxHeartbeats 4000000 in
set_option maxRecDepth 100000 in
theorem c_X4_begin (l : Launch) (D : va_G) (t0 : Nat) (sz : Nat) (τ : TS) (p0 : Int32) (p1 : Int32) (p2 : Int32) (p3 : Int32) : Met l yX4_begin wsX4_begin ({ frames := 0, cells := 0, slots := 0, locals := 0 }) (va_Pc [.ref t0, .int p0, .int p1, .int p2, .int p3] (bx_pre D [] (wTr t0 τ) sz)) (va_Qv (fun u => u = F_X4_begin p0 p1 p2 p3) (fun u t => bx_at D (wTr t0 u) (va_A (wTr t0 τ) sz) t) (va_A (wTr t0 τ) sz)) 0 0 (va_A (wTr t0 τ) sz) := by
  refine Met.ofW (cc := cX4_begin) (maxL := 5) (ret := none) (by decide) rfl ?_
  intro p e s m args below meth c s₁ B hml hv
  obtain ⟨rfl, hsz, hP, hK, hD0, hG⟩ := hv
  have hx := B.exec
  have hb := B.bytes
  have hr := B.returns
  have hts := atoms_spec (ws := wsX4_begin) B.pre
  have hown : s.vm.findClass RX4 = some m.cls := findClass_of_methodNamed B.named
  have hlocks := B.notSynchronized
  subst hsz
  have hD := hD0.self (sz := s.heap.size)
  generalize hAe : va_A (wTr t0 τ) s.heap.size = A at hD ⊢
  have hA : ∀ q : Nat, s.heap.size ≤ q → A q := fun q h => by rw [← hAe]; exact Or.inr h
  have hS : va_S A s.heap s.heap [] := va_S.rf
  have hD : va_D A [(t0, .inr (4, [.int τ.1, .int τ.2.1, .int τ.2.2.1, .int τ.2.2.2.1, .int τ.2.2.2.2.1, .int τ.2.2.2.2.2]))] := hD
  have hP : va_P D vwCl [(t0, .inr (4, [.int τ.1, .int τ.2.1, .int τ.2.2.1, .int τ.2.2.2.1, .int τ.2.2.2.2.1, .int τ.2.2.2.2.2]))] s.heap := hP
  have hl := lv_entry ([.ref t0, .int p0, .int p1, .int p2, .int p3]) (n := 5) (Nat.le_of_ble_eq_true rfl)
  rw [lg_entry_eq]
  generalize (lg_sl ([.ref t0, .int p0, .int p1, .int p2, .int p3]) ++ List.replicate (5 - (lg_sl ([.ref t0, .int p0, .int p1, .int p2, .int p3])).length) Slot.unset).toArray = ls at hl ⊢
  have hl : lv_has ls 5 [(0, .ref t0), (1, .int p0), (2, .int p1), (3, .int p2), (4, .int p3)] := hl
  have hi4 : ∀ w ∈ u_ws RX4 TX4 6, w ∈ wsX4_begin := by decide +kernel
  refine lv_aload_n hx hb dX4_begin_0 rfl (lv_at hl 0 rfl) ?_
  refine lv_iload_n hx hb dX4_begin_1 rfl (lv_at hl 1 rfl) ?_
  refine va_put (D := D) (ci := 4) (v := .int p0) (ty := .int) (C := RX4) (T := TX4) (N := 6) hx hb hts hi4 tyX4 tyX4_ok nmX4 hown hK hP hD hS 0 rfl rfl 0 (by decide) (hts (.fieldLink RX4 9 "Bootstay$Transfer" "version" "I") (by decide +kernel)) (fun _ h9 => h9) rfl (by decide +kernel) rfl rfl (Nat.le_of_ble_eq_true rfl) dX4_begin_2 (fun H locs hP hD hS => ?_)
  have hP : va_P D vwCl [(t0, .inr (4, [.int p0, .int τ.2.1, .int τ.2.2.1, .int τ.2.2.2.1, .int τ.2.2.2.2.1, .int τ.2.2.2.2.2]))] H := hP
  have hD : va_D A [(t0, .inr (4, [.int p0, .int τ.2.1, .int τ.2.2.1, .int τ.2.2.2.1, .int τ.2.2.2.2.1, .int τ.2.2.2.2.2]))] := hD
  refine lv_aload_n hx hb dX4_begin_5 rfl (lv_at hl 0 rfl) ?_
  refine lv_iload_n hx hb dX4_begin_6 rfl (lv_at hl 2 rfl) ?_
  refine va_put (D := D) (ci := 4) (v := .int p1) (ty := .int) (C := RX4) (T := TX4) (N := 6) hx hb hts hi4 tyX4 tyX4_ok nmX4 hown hK hP hD hS 0 rfl rfl 1 (by decide) (hts (.fieldLink RX4 15 "Bootstay$Transfer" "length" "I") (by decide +kernel)) (fun _ h9 => h9) rfl (by decide +kernel) rfl rfl (Nat.le_of_ble_eq_true rfl) dX4_begin_7 (fun H locs hP hD hS => ?_)
  have hP : va_P D vwCl [(t0, .inr (4, [.int p0, .int p1, .int τ.2.2.1, .int τ.2.2.2.1, .int τ.2.2.2.2.1, .int τ.2.2.2.2.2]))] H := hP
  have hD : va_D A [(t0, .inr (4, [.int p0, .int p1, .int τ.2.2.1, .int τ.2.2.2.1, .int τ.2.2.2.2.1, .int τ.2.2.2.2.2]))] := hD
  refine lv_aload_n hx hb dX4_begin_10 rfl (lv_at hl 0 rfl) ?_
  refine lv_iload_n hx hb dX4_begin_11 rfl (lv_at hl 3 rfl) ?_
  refine va_put (D := D) (ci := 4) (v := .int p2) (ty := .int) (C := RX4) (T := TX4) (N := 6) hx hb hts hi4 tyX4 tyX4_ok nmX4 hown hK hP hD hS 0 rfl rfl 2 (by decide) (hts (.fieldLink RX4 18 "Bootstay$Transfer" "hash" "I") (by decide +kernel)) (fun _ h9 => h9) rfl (by decide +kernel) rfl rfl (Nat.le_of_ble_eq_true rfl) dX4_begin_12 (fun H locs hP hD hS => ?_)
  have hP : va_P D vwCl [(t0, .inr (4, [.int p0, .int p1, .int p2, .int τ.2.2.2.1, .int τ.2.2.2.2.1, .int τ.2.2.2.2.2]))] H := hP
  have hD : va_D A [(t0, .inr (4, [.int p0, .int p1, .int p2, .int τ.2.2.2.1, .int τ.2.2.2.2.1, .int τ.2.2.2.2.2]))] := hD
  refine lv_aload_n hx hb dX4_begin_15 rfl (lv_at hl 0 rfl) ?_
  refine lv_iload hx hb dX4_begin_16 (lv_at hl 4 rfl) ?_
  refine va_put (D := D) (ci := 4) (v := .int p3) (ty := .int) (C := RX4) (T := TX4) (N := 6) hx hb hts hi4 tyX4 tyX4_ok nmX4 hown hK hP hD hS 0 rfl rfl 3 (by decide) (hts (.fieldLink RX4 21 "Bootstay$Transfer" "counter" "I") (by decide +kernel)) (fun _ h9 => h9) rfl (by decide +kernel) rfl rfl (Nat.le_of_ble_eq_true rfl) dX4_begin_18 (fun H locs hP hD hS => ?_)
  have hP : va_P D vwCl [(t0, .inr (4, [.int p0, .int p1, .int p2, .int p3, .int τ.2.2.2.2.1, .int τ.2.2.2.2.2]))] H := hP
  have hD : va_D A [(t0, .inr (4, [.int p0, .int p1, .int p2, .int p3, .int τ.2.2.2.2.1, .int τ.2.2.2.2.2]))] := hD
  refine lv_aload_n hx hb dX4_begin_21 rfl (lv_at hl 0 rfl) ?_
  refine lv_iconst (v := 0) hx hb dX4_begin_22 (by decide) ?_
  refine va_put (D := D) (ci := 4) (v := .int 0) (ty := .int) (C := RX4) (T := TX4) (N := 6) hx hb hts hi4 tyX4 tyX4_ok nmX4 hown hK hP hD hS 0 rfl rfl 4 (by decide) (hts (.fieldLink RX4 24 "Bootstay$Transfer" "come" "I") (by decide +kernel)) (fun _ h9 => h9) rfl (by decide +kernel) rfl rfl (Nat.le_of_ble_eq_true rfl) dX4_begin_23 (fun H locs hP hD hS => ?_)
  have hP : va_P D vwCl [(t0, .inr (4, [.int p0, .int p1, .int p2, .int p3, .int 0, .int τ.2.2.2.2.2]))] H := hP
  have hD : va_D A [(t0, .inr (4, [.int p0, .int p1, .int p2, .int p3, .int 0, .int τ.2.2.2.2.2]))] := hD
  refine lv_aload_n hx hb dX4_begin_26 rfl (lv_at hl 0 rfl) ?_
  refine lv_iconst (v := 1) hx hb dX4_begin_27 (by decide) ?_
  refine va_put (D := D) (ci := 4) (v := .int 1) (ty := .boolean) (C := RX4) (T := TX4) (N := 6) hx hb hts hi4 tyX4 tyX4_ok nmX4 hown hK hP hD hS 0 rfl rfl 5 (by decide) (hts (.fieldLink RX4 27 "Bootstay$Transfer" "isGoingOn" "Z") (by decide +kernel)) (fun _ h9 => h9) rfl (by decide +kernel) rfl rfl (Nat.le_of_ble_eq_true rfl) dX4_begin_28 (fun H locs hP hD hS => ?_)
  have hP : va_P D vwCl [(t0, .inr (4, [.int p0, .int p1, .int p2, .int p3, .int 0, .int 1]))] H := hP
  have hD : va_D A [(t0, .inr (4, [.int p0, .int p1, .int p2, .int p3, .int 0, .int 1]))] := hD
  exact W.vret hx hb hr (fun t ht hW => ⟨⟨(p0, p1, p2, p3, 0, 1), rfl, rfl, ⟨by rw [ht]; exact hP, hD⟩⟩, hS.F ht⟩) hS.2.2 dX4_begin_31
def F_X4_end (τ : TS) : (TS) := (τ.1, τ.2.1, τ.2.2.1, τ.2.2.2.1, τ.2.2.2.2.1, 0)
set_option maxHeartbeats 4000000 in
set_option maxRecDepth 100000 in
theorem c_X4_end (l : Launch) (D : va_G) (t0 : Nat) (sz : Nat) (τ : TS) : Met l yX4_end wsX4_end ({ frames := 0, cells := 0, slots := 0, locals := 0 }) (va_Pc [.ref t0] (bx_pre D [] (wTr t0 τ) sz)) (va_Qv (fun u => u = F_X4_end τ) (fun u t => bx_at D (wTr t0 u) (va_A (wTr t0 τ) sz) t) (va_A (wTr t0 τ) sz)) 0 0 (va_A (wTr t0 τ) sz) := by
  refine Met.ofW (cc := cX4_end) (maxL := 1) (ret := none) (by decide) rfl ?_
  intro p e s m args below meth c s₁ B hml hv
  obtain ⟨rfl, hsz, hP, hK, hD0, hG⟩ := hv
  have hx := B.exec
  have hb := B.bytes
  have hr := B.returns
  have hts := atoms_spec (ws := wsX4_end) B.pre
  have hown : s.vm.findClass RX4 = some m.cls := findClass_of_methodNamed B.named
  have hlocks := B.notSynchronized
  subst hsz
  have hD := hD0.self (sz := s.heap.size)
  generalize hAe : va_A (wTr t0 τ) s.heap.size = A at hD ⊢
  have hA : ∀ q : Nat, s.heap.size ≤ q → A q := fun q h => by rw [← hAe]; exact Or.inr h
  have hS : va_S A s.heap s.heap [] := va_S.rf
  have hD : va_D A [(t0, .inr (4, [.int τ.1, .int τ.2.1, .int τ.2.2.1, .int τ.2.2.2.1, .int τ.2.2.2.2.1, .int τ.2.2.2.2.2]))] := hD
  have hP : va_P D vwCl [(t0, .inr (4, [.int τ.1, .int τ.2.1, .int τ.2.2.1, .int τ.2.2.2.1, .int τ.2.2.2.2.1, .int τ.2.2.2.2.2]))] s.heap := hP
  have hl := lv_entry ([.ref t0]) (n := 1) (Nat.le_of_ble_eq_true rfl)
  rw [lg_entry_eq]
  generalize (lg_sl ([.ref t0]) ++ List.replicate (1 - (lg_sl ([.ref t0])).length) Slot.unset).toArray = ls at hl ⊢
  have hl : lv_has ls 1 [(0, .ref t0)] := hl
  have hi4 : ∀ w ∈ u_ws RX4 TX4 6, w ∈ wsX4_end := by decide +kernel
  refine lv_aload_n hx hb dX4_end_0 rfl (lv_at hl 0 rfl) ?_
  refine lv_iconst (v := 0) hx hb dX4_end_1 (by decide) ?_
  refine va_put (D := D) (ci := 4) (v := .int 0) (ty := .boolean) (C := RX4) (T := TX4) (N := 6) hx hb hts hi4 tyX4 tyX4_ok nmX4 hown hK hP hD hS 0 rfl rfl 5 (by decide) (hts (.fieldLink RX4 27 "Bootstay$Transfer" "isGoingOn" "Z") (by decide +kernel)) (fun _ h9 => h9) rfl (by decide +kernel) rfl rfl (Nat.le_of_ble_eq_true rfl) dX4_end_2 (fun H locs hP hD hS => ?_)
  have hP : va_P D vwCl [(t0, .inr (4, [.int τ.1, .int τ.2.1, .int τ.2.2.1, .int τ.2.2.2.1, .int τ.2.2.2.2.1, .int 0]))] H := hP
  have hD : va_D A [(t0, .inr (4, [.int τ.1, .int τ.2.1, .int τ.2.2.1, .int τ.2.2.2.1, .int τ.2.2.2.2.1, .int 0]))] := hD
  exact W.vret hx hb hr (fun t ht hW => ⟨⟨(τ.1, τ.2.1, τ.2.2.1, τ.2.2.2.1, τ.2.2.2.2.1, 0), rfl, rfl, ⟨by rw [ht]; exact hP, hD⟩⟩, hS.F ht⟩) hS.2.2 dX4_end_5
def F_X4_bytesToCome (τ : TS) : Int32 := (if τ.2.2.2.2.2 = 0 then (-1) else (τ.2.1 - τ.2.2.2.2.1))
set_option maxHeartbeats 4000000 in
set_option maxRecDepth 100000 in
theorem c_X4_bytesToCome (l : Launch) (D : va_G) (t0 : Nat) (τ : TS) : Met l yX4_bytesToCome wsX4_bytesToCome ({ frames := 0, cells := 0, slots := 0, locals := 0 }) (va_Pc [.ref t0] (bx_ro D [] (wTr t0 τ))) (vp_Si (fun r => r = F_X4_bytesToCome τ)) 0 0 (fun _ => False) := by
  refine Met.ofW (cc := cX4_bytesToCome) (maxL := 1) (ret := (some .int)) (by decide) rfl ?_
  intro p e s m args below meth c s₁ B hml hv
  obtain ⟨rfl, hP, hK, hG⟩ := hv
  have hx := B.exec
  have hb := B.bytes
  have hr := B.returns
  have hts := atoms_spec (ws := wsX4_bytesToCome) B.pre
  have hown : s.vm.findClass RX4 = some m.cls := findClass_of_methodNamed B.named
  have hlocks := B.notSynchronized
  have hP : va_P D vwCl [(t0, .inr (4, [.int τ.1, .int τ.2.1, .int τ.2.2.1, .int τ.2.2.2.1, .int τ.2.2.2.2.1, .int τ.2.2.2.2.2]))] s.heap := hP
  have hl := lv_entry ([.ref t0]) (n := 1) (Nat.le_of_ble_eq_true rfl)
  rw [lg_entry_eq]
  generalize (lg_sl ([.ref t0]) ++ List.replicate (1 - (lg_sl ([.ref t0])).length) Slot.unset).toArray = ls at hl ⊢
  have hl : lv_has ls 1 [(0, .ref t0)] := hl
  have hi4 : ∀ w ∈ u_ws RX4 TX4 6, w ∈ wsX4_bytesToCome := by decide +kernel
  refine lv_aload_n hx hb dX4_bytesToCome_0 rfl (lv_at hl 0 rfl) ?_
  refine va_get (D := D) (ci := 4) (v := .int τ.2.2.2.2.2) (C := RX4) (T := TX4) (N := 6) hx hb hts hi4 hown hK hP 0 rfl rfl 5 (by decide) (hts (.fieldLink RX4 27 "Bootstay$Transfer" "isGoingOn" "Z") (by decide +kernel)) (fun _ h9 => h9) rfl dX4_bytesToCome_1 ?_
  refine lv_if_eq (tgt := 19) hx hb dX4_bytesToCome_4 (by decide) (fun c_1 => ?_) (fun c_1 => ?_)
  · skip
    refine lv_iconst (v := (-1)) hx hb dX4_bytesToCome_19 (by decide) ?_
    exact W.iret (v := (-1)) hx hb hr (fun t ht hW => ⟨(-1), rfl, (by simp only [F_X4_bytesToCome, if_pos c_1]), ht⟩) (fun _ h => nomatch h) dX4_bytesToCome_20
  · skip
    refine lv_aload_n hx hb dX4_bytesToCome_7 rfl (lv_at hl 0 rfl) ?_
    refine va_get (D := D) (ci := 4) (v := .int τ.2.1) (C := RX4) (T := TX4) (N := 6) hx hb hts hi4 hown hK hP 0 rfl rfl 1 (by decide) (hts (.fieldLink RX4 15 "Bootstay$Transfer" "length" "I") (by decide +kernel)) (fun _ h9 => h9) rfl dX4_bytesToCome_8 ?_
    refine lv_aload_n hx hb dX4_bytesToCome_11 rfl (lv_at hl 0 rfl) ?_
    refine va_get (D := D) (ci := 4) (v := .int τ.2.2.2.2.1) (C := RX4) (T := TX4) (N := 6) hx hb hts hi4 hown hK hP 0 rfl rfl 4 (by decide) (hts (.fieldLink RX4 24 "Bootstay$Transfer" "come" "I") (by decide +kernel)) (fun _ h9 => h9) rfl dX4_bytesToCome_12 ?_
    refine lv_isub hx hb dX4_bytesToCome_15 ?_
    refine lv_goto (tgt := 20) hx hb dX4_bytesToCome_16 (by decide) ?_
    exact W.iret (v := (τ.2.1 - τ.2.2.2.2.1)) hx hb hr (fun t ht hW => ⟨(τ.2.1 - τ.2.2.2.2.1), rfl, (by simp only [F_X4_bytesToCome, if_neg c_1]), ht⟩) (fun _ h => nomatch h) dX4_bytesToCome_20
def F_X4_nextPlace (τ : TS) : Int32 × (TS) := (τ.2.2.2.2.1, (τ.1, τ.2.1, τ.2.2.1, τ.2.2.2.1, (τ.2.2.2.2.1 + 1), τ.2.2.2.2.2))
set_option maxHeartbeats 4000000 in
set_option maxRecDepth 100000 in
theorem c_X4_nextPlace (l : Launch) (D : va_G) (t0 : Nat) (sz : Nat) (τ : TS) : Met l yX4_nextPlace wsX4_nextPlace ({ frames := 0, cells := 0, slots := 0, locals := 0 }) (va_Pc [.ref t0] (bx_pre D [] (wTr t0 τ) sz)) (va_Qi (fun r u => (r, u) = F_X4_nextPlace τ) (fun u t => bx_at D (wTr t0 u) (va_A (wTr t0 τ) sz) t) (va_A (wTr t0 τ) sz)) 0 0 (va_A (wTr t0 τ) sz) := by
  refine Met.ofW (cc := cX4_nextPlace) (maxL := 2) (ret := (some .int)) (by decide) rfl ?_
  intro p e s m args below meth c s₁ B hml hv
  obtain ⟨rfl, hsz, hP, hK, hD0, hG⟩ := hv
  have hx := B.exec
  have hb := B.bytes
  have hr := B.returns
  have hts := atoms_spec (ws := wsX4_nextPlace) B.pre
  have hown : s.vm.findClass RX4 = some m.cls := findClass_of_methodNamed B.named
  have hlocks := B.notSynchronized
  subst hsz
  have hD := hD0.self (sz := s.heap.size)
  generalize hAe : va_A (wTr t0 τ) s.heap.size = A at hD ⊢
  have hA : ∀ q : Nat, s.heap.size ≤ q → A q := fun q h => by rw [← hAe]; exact Or.inr h
  have hS : va_S A s.heap s.heap [] := va_S.rf
  have hD : va_D A [(t0, .inr (4, [.int τ.1, .int τ.2.1, .int τ.2.2.1, .int τ.2.2.2.1, .int τ.2.2.2.2.1, .int τ.2.2.2.2.2]))] := hD
  have hP : va_P D vwCl [(t0, .inr (4, [.int τ.1, .int τ.2.1, .int τ.2.2.1, .int τ.2.2.2.1, .int τ.2.2.2.2.1, .int τ.2.2.2.2.2]))] s.heap := hP
  have hl := lv_entry ([.ref t0]) (n := 2) (Nat.le_of_ble_eq_true rfl)
  rw [lg_entry_eq]
  generalize (lg_sl ([.ref t0]) ++ List.replicate (2 - (lg_sl ([.ref t0])).length) Slot.unset).toArray = ls at hl ⊢
  have hl : lv_has ls 2 [(0, .ref t0)] := hl
  have hi4 : ∀ w ∈ u_ws RX4 TX4 6, w ∈ wsX4_nextPlace := by decide +kernel
  refine lv_aload_n hx hb dX4_nextPlace_0 rfl (lv_at hl 0 rfl) ?_
  refine va_get (D := D) (ci := 4) (v := .int τ.2.2.2.2.1) (C := RX4) (T := TX4) (N := 6) hx hb hts hi4 hown hK hP 0 rfl rfl 4 (by decide) (hts (.fieldLink RX4 24 "Bootstay$Transfer" "come" "I") (by decide +kernel)) (fun _ h9 => h9) rfl dX4_nextPlace_1 ?_
  refine lv_istore_n (lv' := [(1, .int τ.2.2.2.2.1), (0, .ref t0)]) hx hb dX4_nextPlace_4 rfl hl (by decide) rfl (fun ls hl => ?_)
  refine lv_aload_n hx hb dX4_nextPlace_5 rfl (lv_at hl 1 rfl) ?_
  refine lv_dup hx hb dX4_nextPlace_6 rfl ?_
  refine va_get (D := D) (ci := 4) (v := .int τ.2.2.2.2.1) (C := RX4) (T := TX4) (N := 6) hx hb hts hi4 hown hK hP 0 rfl rfl 4 (by decide) (hts (.fieldLink RX4 24 "Bootstay$Transfer" "come" "I") (by decide +kernel)) (fun _ h9 => h9) rfl dX4_nextPlace_7 ?_
  refine lv_iconst (v := 1) hx hb dX4_nextPlace_10 (by decide) ?_
  refine lv_iadd hx hb dX4_nextPlace_11 ?_
  refine va_put (D := D) (ci := 4) (v := .int (τ.2.2.2.2.1 + 1)) (ty := .int) (C := RX4) (T := TX4) (N := 6) hx hb hts hi4 tyX4 tyX4_ok nmX4 hown hK hP hD hS 0 rfl rfl 4 (by decide) (hts (.fieldLink RX4 24 "Bootstay$Transfer" "come" "I") (by decide +kernel)) (fun _ h9 => h9) rfl (by decide +kernel) rfl rfl (Nat.le_of_ble_eq_true rfl) dX4_nextPlace_12 (fun H locs hP hD hS => ?_)
  have hP : va_P D vwCl [(t0, .inr (4, [.int τ.1, .int τ.2.1, .int τ.2.2.1, .int τ.2.2.2.1, .int (τ.2.2.2.2.1 + 1), .int τ.2.2.2.2.2]))] H := hP
  have hD : va_D A [(t0, .inr (4, [.int τ.1, .int τ.2.1, .int τ.2.2.1, .int τ.2.2.2.1, .int (τ.2.2.2.2.1 + 1), .int τ.2.2.2.2.2]))] := hD
  refine lv_iload_n hx hb dX4_nextPlace_15 rfl (lv_at hl 0 rfl) ?_
  exact W.iret (v := τ.2.2.2.2.1) hx hb hr (fun t ht hW => ⟨⟨τ.2.2.2.2.1, (τ.1, τ.2.1, τ.2.2.1, τ.2.2.2.1, (τ.2.2.2.2.1 + 1), τ.2.2.2.2.2), rfl, rfl, ⟨by rw [ht]; exact hP, hD⟩⟩, hS.F ht⟩) hS.2.2 dX4_nextPlace_16
def F_X1_isFull (δ : DS) : Int32 := (if δ.1 < 24 then 0 else 1)
set_option maxHeartbeats 4000000 in
set_option maxRecDepth 100000 in
theorem c_X1_isFull (l : Launch) (D : va_G) (cA : ClassId) (d db : Nat) (δ : DS) : Met l yX1_isFull wsX1_isFull ({ frames := 0, cells := 0, slots := 0, locals := 0 }) (va_Pc [.ref d] (bx_ro D [(cA, .int)] (wDr cA d db δ))) (vp_Si (fun r => r = F_X1_isFull δ ∧ (r = 0 ∨ r = 1))) 0 0 (fun _ => False) := by
  refine Met.ofW (cc := cX1_isFull) (maxL := 1) (ret := (some .boolean)) (by decide) rfl ?_
  intro p e s m args below meth c s₁ B hml hv
  obtain ⟨rfl, hP, hK, hG⟩ := hv
  have hx := B.exec
  have hb := B.bytes
  have hr := B.returns
  have hts := atoms_spec (ws := wsX1_isFull) B.pre
  have hown : s.vm.findClass RX1 = some m.cls := findClass_of_methodNamed B.named
  have hlocks := B.notSynchronized
  have hP : va_P D vwCl [(d, .inr (1, [.int δ.1, .ref db])), (db, .inl (cA, 24, .inl δ.2))] s.heap := hP
  have hl := lv_entry ([.ref d]) (n := 1) (Nat.le_of_ble_eq_true rfl)
  rw [lg_entry_eq]
  generalize (lg_sl ([.ref d]) ++ List.replicate (1 - (lg_sl ([.ref d])).length) Slot.unset).toArray = ls at hl ⊢
  have hl : lv_has ls 1 [(0, .ref d)] := hl
  have hi1 : ∀ w ∈ u_ws RX1 TX1 2, w ∈ wsX1_isFull := by decide +kernel
  refine lv_aload_n hx hb dX1_isFull_0 rfl (lv_at hl 0 rfl) ?_
  refine va_get (D := D) (ci := 1) (v := .int δ.1) (C := RX1) (T := TX1) (N := 2) hx hb hts hi1 hown hK hP 0 rfl rfl 0 (by decide) (hts (.fieldLink RX1 9 "Bootstay$Draft" "size" "I") (by decide +kernel)) (fun _ h9 => h9) rfl dX1_isFull_1 ?_
  refine lv_aload_n hx hb dX1_isFull_4 rfl (lv_at hl 0 rfl) ?_
  refine va_get (D := D) (ci := 1) (v := .ref db) (C := RX1) (T := TX1) (N := 2) hx hb hts hi1 hown hK hP 0 rfl rfl 1 (by decide) (hts (.fieldLink RX1 15 "Bootstay$Draft" "bytes" "[I") (by decide +kernel)) (fun _ h9 => h9) rfl dX1_isFull_5 ?_
  refine va_alen (D := D) (v := 24) hx hb hK hP 1 0 rfl rfl rfl dX1_isFull_8 ?_
  refine lv_icmp_lt (tgt := 16) hx hb dX1_isFull_9 (by decide) (fun c_1 => ?_) (fun c_1 => ?_)
  · skip
    refine lv_iconst (v := 0) hx hb dX1_isFull_16 (by decide) ?_
    exact W.zret (v := 0) hx hb hr rfl (fun t ht hW => ⟨0, rfl, ⟨(by simp only [F_X1_isFull, if_pos c_1]), (by decide)⟩, ht⟩) (fun _ h => nomatch h) dX1_isFull_17
  · skip
    refine lv_iconst (v := 1) hx hb dX1_isFull_12 (by decide) ?_
    refine lv_goto (tgt := 17) hx hb dX1_isFull_13 (by decide) ?_
    exact W.zret (v := 1) hx hb hr rfl (fun t ht hW => ⟨1, rfl, ⟨(by simp only [F_X1_isFull, if_neg c_1]), (by decide)⟩, ht⟩) (fun _ h => nomatch h) dX1_isFull_17
def F_X1_append (δ : DS) (p0 : Int32) : Int32 × (DS) := (if δ.1 < 0 then (δ.1, δ) else (if 24 ≤ δ.1 then (δ.1, δ) else ((δ.1 + 1), ((δ.1 + 1), (wr δ.2 δ.1 p0)))))
set_option maxHeartbeats 4000000 in
set_option maxRecDepth 100000 in
theorem c_X1_append (l : Launch) (D : va_G) (cA : ClassId) (d db : Nat) (sz : Nat) (δ : DS) (p0 : Int32) : Met l yX1_append wsX1_append ({ frames := 0, cells := 0, slots := 0, locals := 0 }) (va_Pc [.ref d, .int p0] (bx_pre D [(cA, .int)] (wDr cA d db δ) sz)) (va_Qi (fun r u => (r, u) = F_X1_append δ p0) (fun u t => bx_at D (wDr cA d db u) (va_A (wDr cA d db δ) sz) t) (va_A (wDr cA d db δ) sz)) 0 0 (va_A (wDr cA d db δ) sz) := by
  refine Met.ofW (cc := cX1_append) (maxL := 2) (ret := (some .int)) (by decide) rfl ?_
  intro p e s m args below meth c s₁ B hml hv
  obtain ⟨rfl, hsz, hP, hK, hD0, hG⟩ := hv
  have hx := B.exec
  have hb := B.bytes
  have hr := B.returns
  have hts := atoms_spec (ws := wsX1_append) B.pre
  have hown : s.vm.findClass RX1 = some m.cls := findClass_of_methodNamed B.named
  have hlocks := B.notSynchronized
  subst hsz
  have hD := hD0.self (sz := s.heap.size)
  generalize hAe : va_A (wDr cA d db δ) s.heap.size = A at hD ⊢
  have hA : ∀ q : Nat, s.heap.size ≤ q → A q := fun q h => by rw [← hAe]; exact Or.inr h
  have hS : va_S A s.heap s.heap [] := va_S.rf
  have hD : va_D A [(d, .inr (1, [.int δ.1, .ref db])), (db, .inl (cA, 24, .inl δ.2))] := hD
  have hP : va_P D vwCl [(d, .inr (1, [.int δ.1, .ref db])), (db, .inl (cA, 24, .inl δ.2))] s.heap := hP
  have hl := lv_entry ([.ref d, .int p0]) (n := 2) (Nat.le_of_ble_eq_true rfl)
  rw [lg_entry_eq]
  generalize (lg_sl ([.ref d, .int p0]) ++ List.replicate (2 - (lg_sl ([.ref d, .int p0])).length) Slot.unset).toArray = ls at hl ⊢
  have hl : lv_has ls 2 [(0, .ref d), (1, .int p0)] := hl
  have hi1 : ∀ w ∈ u_ws RX1 TX1 2, w ∈ wsX1_append := by decide +kernel
  refine lv_aload_n hx hb dX1_append_0 rfl (lv_at hl 0 rfl) ?_
  refine va_get (D := D) (ci := 1) (v := .int δ.1) (C := RX1) (T := TX1) (N := 2) hx hb hts hi1 hown hK hP 0 rfl rfl 0 (by decide) (hts (.fieldLink RX1 9 "Bootstay$Draft" "size" "I") (by decide +kernel)) (fun _ h9 => h9) rfl dX1_append_1 ?_
  refine lv_if_lt (tgt := 39) hx hb dX1_append_4 (by decide) (fun c_1 => ?_) (fun c_1 => ?_)
  · skip
    refine lv_aload_n hx hb dX1_append_39 rfl (lv_at hl 0 rfl) ?_
    refine va_get (D := D) (ci := 1) (v := .int δ.1) (C := RX1) (T := TX1) (N := 2) hx hb hts hi1 hown hK hP 0 rfl rfl 0 (by decide) (hts (.fieldLink RX1 9 "Bootstay$Draft" "size" "I") (by decide +kernel)) (fun _ h9 => h9) rfl dX1_append_40 ?_
    exact W.iret (v := δ.1) hx hb hr (fun t ht hW => ⟨⟨δ.1, δ, rfl, (by simp only [F_X1_append, if_pos c_1]), ⟨by rw [ht]; exact hP, hD⟩⟩, hS.F ht⟩) hS.2.2 dX1_append_43
  · skip
    refine lv_aload_n hx hb dX1_append_7 rfl (lv_at hl 0 rfl) ?_
    refine va_get (D := D) (ci := 1) (v := .int δ.1) (C := RX1) (T := TX1) (N := 2) hx hb hts hi1 hown hK hP 0 rfl rfl 0 (by decide) (hts (.fieldLink RX1 9 "Bootstay$Draft" "size" "I") (by decide +kernel)) (fun _ h9 => h9) rfl dX1_append_8 ?_
    refine lv_aload_n hx hb dX1_append_11 rfl (lv_at hl 0 rfl) ?_
    refine va_get (D := D) (ci := 1) (v := .ref db) (C := RX1) (T := TX1) (N := 2) hx hb hts hi1 hown hK hP 0 rfl rfl 1 (by decide) (hts (.fieldLink RX1 15 "Bootstay$Draft" "bytes" "[I") (by decide +kernel)) (fun _ h9 => h9) rfl dX1_append_12 ?_
    refine va_alen (D := D) (v := 24) hx hb hK hP 1 0 rfl rfl rfl dX1_append_15 ?_
    refine lv_icmp_ge (tgt := 39) hx hb dX1_append_16 (by decide) (fun c_2 => ?_) (fun c_2 => ?_)
    · skip
      refine lv_aload_n hx hb dX1_append_39 rfl (lv_at hl 0 rfl) ?_
      refine va_get (D := D) (ci := 1) (v := .int δ.1) (C := RX1) (T := TX1) (N := 2) hx hb hts hi1 hown hK hP 0 rfl rfl 0 (by decide) (hts (.fieldLink RX1 9 "Bootstay$Draft" "size" "I") (by decide +kernel)) (fun _ h9 => h9) rfl dX1_append_40 ?_
      exact W.iret (v := δ.1) hx hb hr (fun t ht hW => ⟨⟨δ.1, δ, rfl, (by simp only [F_X1_append, if_neg c_1, if_pos c_2]), ⟨by rw [ht]; exact hP, hD⟩⟩, hS.F ht⟩) hS.2.2 dX1_append_43
    · skip
      refine lv_aload_n hx hb dX1_append_19 rfl (lv_at hl 0 rfl) ?_
      refine va_get (D := D) (ci := 1) (v := .ref db) (C := RX1) (T := TX1) (N := 2) hx hb hts hi1 hown hK hP 0 rfl rfl 1 (by decide) (hts (.fieldLink RX1 15 "Bootstay$Draft" "bytes" "[I") (by decide +kernel)) (fun _ h9 => h9) rfl dX1_append_20 ?_
      refine lv_aload_n hx hb dX1_append_23 rfl (lv_at hl 0 rfl) ?_
      refine va_get (D := D) (ci := 1) (v := .int δ.1) (C := RX1) (T := TX1) (N := 2) hx hb hts hi1 hown hK hP 0 rfl rfl 0 (by decide) (hts (.fieldLink RX1 9 "Bootstay$Draft" "size" "I") (by decide +kernel)) (fun _ h9 => h9) rfl dX1_append_24 ?_
      refine lv_iload_n hx hb dX1_append_27 rfl (lv_at hl 1 rfl) ?_
      refine bx_ast (D := D) hx hb hK hP hD hS 1 0 rfl rfl (bx_in c_1 c_2 (by decide)) dX1_append_28 (fun H locs hP hD hS => ?_)
      have hP : va_P D vwCl [(d, .inr (1, [.int δ.1, .ref db])), (db, .inl (cA, 24, .inl (wr δ.2 δ.1 p0)))] H := hP
      have hD : va_D A [(d, .inr (1, [.int δ.1, .ref db])), (db, .inl (cA, 24, .inl (wr δ.2 δ.1 p0)))] := hD
      refine lv_aload_n hx hb dX1_append_29 rfl (lv_at hl 0 rfl) ?_
      refine lv_dup hx hb dX1_append_30 rfl ?_
      refine va_get (D := D) (ci := 1) (v := .int δ.1) (C := RX1) (T := TX1) (N := 2) hx hb hts hi1 hown hK hP 0 rfl rfl 0 (by decide) (hts (.fieldLink RX1 9 "Bootstay$Draft" "size" "I") (by decide +kernel)) (fun _ h9 => h9) rfl dX1_append_31 ?_
      refine lv_iconst (v := 1) hx hb dX1_append_34 (by decide) ?_
      refine lv_iadd hx hb dX1_append_35 ?_
      refine va_put (D := D) (ci := 1) (v := .int (δ.1 + 1)) (ty := .int) (C := RX1) (T := TX1) (N := 2) hx hb hts hi1 tyX1 tyX1_ok nmX1 hown hK hP hD hS 0 rfl rfl 0 (by decide) (hts (.fieldLink RX1 9 "Bootstay$Draft" "size" "I") (by decide +kernel)) (fun _ h9 => h9) rfl (by decide +kernel) rfl rfl (Nat.le_of_ble_eq_true rfl) dX1_append_36 (fun H locs hP hD hS => ?_)
      have hP : va_P D vwCl [(d, .inr (1, [.int (δ.1 + 1), .ref db])), (db, .inl (cA, 24, .inl (wr δ.2 δ.1 p0)))] H := hP
      have hD : va_D A [(d, .inr (1, [.int (δ.1 + 1), .ref db])), (db, .inl (cA, 24, .inl (wr δ.2 δ.1 p0)))] := hD
      refine lv_aload_n hx hb dX1_append_39 rfl (lv_at hl 0 rfl) ?_
      refine va_get (D := D) (ci := 1) (v := .int (δ.1 + 1)) (C := RX1) (T := TX1) (N := 2) hx hb hts hi1 hown hK hP 0 rfl rfl 0 (by decide) (hts (.fieldLink RX1 9 "Bootstay$Draft" "size" "I") (by decide +kernel)) (fun _ h9 => h9) rfl dX1_append_40 ?_
      exact W.iret (v := (δ.1 + 1)) hx hb hr (fun t ht hW => ⟨⟨(δ.1 + 1), ((δ.1 + 1), (wr δ.2 δ.1 p0)), rfl, (by simp only [F_X1_append, if_neg c_1, if_neg c_2]), ⟨by rw [ht]; exact hP, hD⟩⟩, hS.F ht⟩) hS.2.2 dX1_append_43
def F_X1_clear (δ : DS) : Int32 × (DS) := (δ.1, (0, δ.2))
set_option maxHeartbeats 4000000 in
set_option maxRecDepth 100000 in
theorem c_X1_clear (l : Launch) (D : va_G) (cA : ClassId) (d db : Nat) (sz : Nat) (δ : DS) : Met l yX1_clear wsX1_clear ({ frames := 0, cells := 0, slots := 0, locals := 0 }) (va_Pc [.ref d] (bx_pre D [(cA, .int)] (wDr cA d db δ) sz)) (va_Qi (fun r u => (r, u) = F_X1_clear δ) (fun u t => bx_at D (wDr cA d db u) (va_A (wDr cA d db δ) sz) t) (va_A (wDr cA d db δ) sz)) 0 0 (va_A (wDr cA d db δ) sz) := by
  refine Met.ofW (cc := cX1_clear) (maxL := 2) (ret := (some .int)) (by decide) rfl ?_
  intro p e s m args below meth c s₁ B hml hv
  obtain ⟨rfl, hsz, hP, hK, hD0, hG⟩ := hv
  have hx := B.exec
  have hb := B.bytes
  have hr := B.returns
  have hts := atoms_spec (ws := wsX1_clear) B.pre
  have hown : s.vm.findClass RX1 = some m.cls := findClass_of_methodNamed B.named
  have hlocks := B.notSynchronized
  subst hsz
  have hD := hD0.self (sz := s.heap.size)
  generalize hAe : va_A (wDr cA d db δ) s.heap.size = A at hD ⊢
  have hA : ∀ q : Nat, s.heap.size ≤ q → A q := fun q h => by rw [← hAe]; exact Or.inr h
  have hS : va_S A s.heap s.heap [] := va_S.rf
  have hD : va_D A [(d, .inr (1, [.int δ.1, .ref db])), (db, .inl (cA, 24, .inl δ.2))] := hD
  have hP : va_P D vwCl [(d, .inr (1, [.int δ.1, .ref db])), (db, .inl (cA, 24, .inl δ.2))] s.heap := hP
  have hl := lv_entry ([.ref d]) (n := 2) (Nat.le_of_ble_eq_true rfl)
  rw [lg_entry_eq]
  generalize (lg_sl ([.ref d]) ++ List.replicate (2 - (lg_sl ([.ref d])).length) Slot.unset).toArray = ls at hl ⊢
  have hl : lv_has ls 2 [(0, .ref d)] := hl
  have hi1 : ∀ w ∈ u_ws RX1 TX1 2, w ∈ wsX1_clear := by decide +kernel
  refine lv_aload_n hx hb dX1_clear_0 rfl (lv_at hl 0 rfl) ?_
  refine va_get (D := D) (ci := 1) (v := .int δ.1) (C := RX1) (T := TX1) (N := 2) hx hb hts hi1 hown hK hP 0 rfl rfl 0 (by decide) (hts (.fieldLink RX1 9 "Bootstay$Draft" "size" "I") (by decide +kernel)) (fun _ h9 => h9) rfl dX1_clear_1 ?_
  refine lv_istore_n (lv' := [(1, .int δ.1), (0, .ref d)]) hx hb dX1_clear_4 rfl hl (by decide) rfl (fun ls hl => ?_)
  refine lv_aload_n hx hb dX1_clear_5 rfl (lv_at hl 1 rfl) ?_
  refine lv_iconst (v := 0) hx hb dX1_clear_6 (by decide) ?_
  refine va_put (D := D) (ci := 1) (v := .int 0) (ty := .int) (C := RX1) (T := TX1) (N := 2) hx hb hts hi1 tyX1 tyX1_ok nmX1 hown hK hP hD hS 0 rfl rfl 0 (by decide) (hts (.fieldLink RX1 9 "Bootstay$Draft" "size" "I") (by decide +kernel)) (fun _ h9 => h9) rfl (by decide +kernel) rfl rfl (Nat.le_of_ble_eq_true rfl) dX1_clear_7 (fun H locs hP hD hS => ?_)
  have hP : va_P D vwCl [(d, .inr (1, [.int 0, .ref db])), (db, .inl (cA, 24, .inl δ.2))] H := hP
  have hD : va_D A [(d, .inr (1, [.int 0, .ref db])), (db, .inl (cA, 24, .inl δ.2))] := hD
  refine lv_iload_n hx hb dX1_clear_10 rfl (lv_at hl 0 rfl) ?_
  exact W.iret (v := δ.1) hx hb hr (fun t ht hW => ⟨⟨δ.1, (0, δ.2), rfl, rfl, ⟨by rw [ht]; exact hP, hD⟩⟩, hS.F ht⟩) hS.2.2 dX1_clear_11
def F_X1_byteAt (δ : DS) (p0 : Int32) : Int32 := (if p0 < 0 then 0 else (if 24 ≤ p0 then 0 else (rd δ.2 p0)))
set_option maxHeartbeats 4000000 in
set_option maxRecDepth 100000 in
theorem c_X1_byteAt (l : Launch) (D : va_G) (cA : ClassId) (d db : Nat) (δ : DS) (p0 : Int32) : Met l yX1_byteAt wsX1_byteAt ({ frames := 0, cells := 0, slots := 0, locals := 0 }) (va_Pc [.ref d, .int p0] (bx_ro D [(cA, .int)] (wDr cA d db δ))) (vp_Si (fun r => r = F_X1_byteAt δ p0)) 0 0 (fun _ => False) := by
  refine Met.ofW (cc := cX1_byteAt) (maxL := 2) (ret := (some .int)) (by decide) rfl ?_
  intro p e s m args below meth c s₁ B hml hv
  obtain ⟨rfl, hP, hK, hG⟩ := hv
  have hx := B.exec
  have hb := B.bytes
  have hr := B.returns
  have hts := atoms_spec (ws := wsX1_byteAt) B.pre
  have hown : s.vm.findClass RX1 = some m.cls := findClass_of_methodNamed B.named
  have hlocks := B.notSynchronized
  have hP : va_P D vwCl [(d, .inr (1, [.int δ.1, .ref db])), (db, .inl (cA, 24, .inl δ.2))] s.heap := hP
  have hl := lv_entry ([.ref d, .int p0]) (n := 2) (Nat.le_of_ble_eq_true rfl)
  rw [lg_entry_eq]
  generalize (lg_sl ([.ref d, .int p0]) ++ List.replicate (2 - (lg_sl ([.ref d, .int p0])).length) Slot.unset).toArray = ls at hl ⊢
  have hl : lv_has ls 2 [(0, .ref d), (1, .int p0)] := hl
  have hi1 : ∀ w ∈ u_ws RX1 TX1 2, w ∈ wsX1_byteAt := by decide +kernel
  refine lv_iload_n hx hb dX1_byteAt_0 rfl (lv_at hl 1 rfl) ?_
  refine lv_if_lt (tgt := 22) hx hb dX1_byteAt_1 (by decide) (fun c_1 => ?_) (fun c_1 => ?_)
  · skip
    refine lv_iconst (v := 0) hx hb dX1_byteAt_22 (by decide) ?_
    exact W.iret (v := 0) hx hb hr (fun t ht hW => ⟨0, rfl, (by simp only [F_X1_byteAt, if_pos c_1]), ht⟩) (fun _ h => nomatch h) dX1_byteAt_23
  · skip
    refine lv_iload_n hx hb dX1_byteAt_4 rfl (lv_at hl 1 rfl) ?_
    refine lv_aload_n hx hb dX1_byteAt_5 rfl (lv_at hl 0 rfl) ?_
    refine va_get (D := D) (ci := 1) (v := .ref db) (C := RX1) (T := TX1) (N := 2) hx hb hts hi1 hown hK hP 0 rfl rfl 1 (by decide) (hts (.fieldLink RX1 15 "Bootstay$Draft" "bytes" "[I") (by decide +kernel)) (fun _ h9 => h9) rfl dX1_byteAt_6 ?_
    refine va_alen (D := D) (v := 24) hx hb hK hP 1 0 rfl rfl rfl dX1_byteAt_9 ?_
    refine lv_icmp_ge (tgt := 22) hx hb dX1_byteAt_10 (by decide) (fun c_2 => ?_) (fun c_2 => ?_)
    · skip
      refine lv_iconst (v := 0) hx hb dX1_byteAt_22 (by decide) ?_
      exact W.iret (v := 0) hx hb hr (fun t ht hW => ⟨0, rfl, (by simp only [F_X1_byteAt, if_neg c_1, if_pos c_2]), ht⟩) (fun _ h => nomatch h) dX1_byteAt_23
    · skip
      refine lv_aload_n hx hb dX1_byteAt_13 rfl (lv_at hl 0 rfl) ?_
      refine va_get (D := D) (ci := 1) (v := .ref db) (C := RX1) (T := TX1) (N := 2) hx hb hts hi1 hown hK hP 0 rfl rfl 1 (by decide) (hts (.fieldLink RX1 15 "Bootstay$Draft" "bytes" "[I") (by decide +kernel)) (fun _ h9 => h9) rfl dX1_byteAt_14 ?_
      refine lv_iload_n hx hb dX1_byteAt_17 rfl (lv_at hl 1 rfl) ?_
      refine bx_ald (D := D) hx hb hK hP 1 0 rfl rfl (bx_in c_1 c_2 (by decide)) dX1_byteAt_18 ?_
      refine lv_goto (tgt := 23) hx hb dX1_byteAt_19 (by decide) ?_
      exact W.iret (v := (rd δ.2 p0)) hx hb hr (fun t ht hW => ⟨(rd δ.2 p0), rfl, (by simp only [F_X1_byteAt, if_neg c_1, if_neg c_2]), ht⟩) (fun _ h => nomatch h) dX1_byteAt_23
/-- the hash of n bytes -/
def hashN (f : Nat → Int32) : Nat → Int32
  | 0 => 17
  | n + 1 => F_X5_hashWith (hashN f n) (f n)
def F_X1_hash (δ : DS) : Int32 := hashN (fun k => F_X1_byteAt δ (nI k)) δ.1.toNatClampNeg
 
set_option maxHeartbeats 4000000 in
set_option maxRecDepth 100000 in
theorem c_X1_hash (l : Launch) (D : va_G) (cA : ClassId) (d db : Nat) (δ : DS) : Met l yX1_hash wsX1_hash ({ frames := 1, cells := 0, slots := 0, locals := 21 }) (va_Pc [.ref d] (bx_ro D [(cA, .int)] (wDr cA d db δ))) (vp_Si (fun r => r = F_X1_hash δ)) 0 0 (fun _ => False) := by
  refine Met.ofW (cc := cX1_hash) (maxL := 3) (ret := (some .int)) (by decide) rfl ?_
  intro p e s m args below meth c s₁ B hml hv
  obtain ⟨rfl, hP, hK, hG⟩ := hv
  have hx := B.exec
  have hb := B.bytes
  have hr := B.returns
  have hts := atoms_spec (ws := wsX1_hash) B.pre
  have hown : s.vm.findClass RX1 = some m.cls := findClass_of_methodNamed B.named
  have hlocks := B.notSynchronized
  have hP : va_P D vwCl [(d, .inr (1, [.int δ.1, .ref db])), (db, .inl (cA, 24, .inl δ.2))] s.heap := hP
  have hl := lv_entry ([.ref d]) (n := 3) (Nat.le_of_ble_eq_true rfl)
  rw [lg_entry_eq]
  generalize (lg_sl ([.ref d]) ++ List.replicate (3 - (lg_sl ([.ref d])).length) Slot.unset).toArray = ls at hl ⊢
  have hl : lv_has ls 3 [(0, .ref d)] := hl
  have hi1 : ∀ w ∈ u_ws RX1 TX1 2, w ∈ wsX1_hash := by decide +kernel
  refine lv_bipush (v := 17) hx hb dX1_hash_0 (by decide) ?_
  refine lv_istore_n (lv' := [(1, .int 17), (0, .ref d)]) hx hb dX1_hash_2 rfl hl (by decide) rfl (fun ls hl => ?_)
  refine lv_iconst (v := 0) hx hb dX1_hash_3 (by decide) ?_
  refine lv_istore_n (lv' := [(2, .int 0), (1, .int 17), (0, .ref d)]) hx hb dX1_hash_4 rfl hl (by decide) rfl (fun ls hl => ?_)
  have loop5 : ∀ (n : Nat) (j : Nat) (h k : Int32), δ.1.toNatClampNeg - j < n → j ≤ δ.1.toNatClampNeg → k = nI j → h = hashN (fun k => F_X1_byteAt δ (nI k)) j → ∀ (ls : Array Slot), lv_has ls 3 [(2, .int k), (1, .int h), (0, .ref d)] → W p l e (headSpec wsX1_hash ({ frames := 1, cells := 0, slots := 0, locals := 21 })).room s m ([.ref d] : List Value).toArray below meth c s.heap [] 0 0 (MQ below (vp_Si (fun r => r = F_X1_hash δ)) ([.ref d] : List Value).toArray s 0 0 (fun _ => False)) (F0 m 5 ls []) := by
    intro n
    induction n with
    | zero =>
      intro j h k h_f ij ik ih ls hl
      exact absurd h_f (Nat.not_lt_zero _)
    | succ n ih5 =>
      intro j h k h_f ij ik ih ls hl
      have hcl := bx_cl δ.1
      refine lv_iload_n hx hb dX1_hash_5 rfl (lv_at hl 0 rfl) ?_
      refine lv_aload_n hx hb dX1_hash_6 rfl (lv_at hl 2 rfl) ?_
      refine va_get (D := D) (ci := 1) (v := .int δ.1) (C := RX1) (T := TX1) (N := 2) hx hb hts hi1 hown hK hP 0 rfl rfl 0 (by decide) (hts (.fieldLink RX1 9 "Bootstay$Draft" "size" "I") (by decide +kernel)) (fun _ h9 => h9) rfl dX1_hash_7 ?_
      refine lv_icmp_ge (tgt := 29) hx hb dX1_hash_10 (by decide) (fun c_1 => ?_) (fun c_1 => ?_)
      · skip
        have hj : δ.1.toNatClampNeg ≤ j := (bx_le (by omega)).mp (ik ▸ c_1)
        refine lv_iload_n hx hb dX1_hash_29 rfl (lv_at hl 1 rfl) ?_
        exact W.iret (v := h) hx hb hr (fun t ht hW => ⟨h, rfl, (by rw [ih, Nat.le_antisymm ij hj]; rfl), ht⟩) (fun _ h => nomatch h) dX1_hash_30
      · skip
        have hj : j < δ.1.toNatClampNeg := Nat.lt_of_not_le (fun h => c_1 (by rw [ik]; exact (bx_le (by omega)).mpr h))
        refine lv_iload_n hx hb dX1_hash_13 rfl (lv_at hl 1 rfl) ?_
        refine lv_aload_n hx hb dX1_hash_14 rfl (lv_at hl 2 rfl) ?_
        refine lv_iload_n hx hb dX1_hash_15 rfl (lv_at hl 0 rfl) ?_
        refine bx_ri (va_runV (As := [.int k]) (rest := [.int h]) ⟨hx, hb, hml, hown, hts⟩ (c_X1_byteAt l D cA d db δ k) (cwV 1 hts gX1_hash_X1_byteAt rfl rfl rfl (by decide +kernel) ⟨Nat.le_of_ble_eq_true rfl, Nat.le_of_ble_eq_true rfl⟩) (bx_pvr (ci := 1) (q0 := 0) hK hG (hP.sub (ws' := [(d, .inr (1, [.int δ.1, .ref db])), (db, .inl (cA, 24, .inl δ.2))]) [0, 1] rfl) rfl rfl) rfl rfl hl.1 rfl (lv_room (Nat.le_of_ble_eq_true rfl)) dX1_hash_16 ⟨Nat.zero_le _, Nat.zero_le _⟩) (fun r_2 h_3 => ?_)
        subst h_3
        refine bx_ri (va_runSN (As := [.int h, .int (F_X1_byteAt δ k)]) (rest := []) ⟨hx, hb, hml, hown, hts⟩ (c_X5_hashWith l D h (F_X1_byteAt δ k)) ⟨(va_cnB 2 hts gX1_hash_X5_hashWith_n23 rfl rfl rfl (hG.1 (.methodLinkNest RX1 23 yX5_hashWith RX5) (by decide +kernel)) (hts (.initialized RX5) (by decide +kernel)) (by decide +kernel) ⟨Nat.le_of_ble_eq_true rfl, Nat.le_of_ble_eq_true rfl⟩), hts (.static yX5_hashWith) (by decide +kernel), trivial⟩ (bx_psr (hK.sub (tys' := []) [] rfl) hG (hP.sub (ws' := []) [] rfl)) rfl rfl hl.1 rfl (lv_room (Nat.le_of_ble_eq_true rfl)) dX1_hash_19 ⟨Nat.zero_le _, Nat.zero_le _⟩) (fun r_4 h_5 => ?_)
        subst h_5
        refine lv_istore_n (lv' := [(1, .int (F_X5_hashWith h (F_X1_byteAt δ k))), (2, .int k), (0, .ref d)]) hx hb dX1_hash_22 rfl hl (by decide) rfl (fun ls hl => ?_)
        refine lv_iinc (v := (k + 1)) (lv' := [(2, .int (k + 1)), (1, .int (F_X5_hashWith h (F_X1_byteAt δ k))), (0, .ref d)]) hx hb dX1_hash_23 hl (k := 1) rfl rfl (by decide) rfl (fun ls hl => ?_)
        refine lv_goto (tgt := 5) hx hb dX1_hash_26 (by decide) ?_
        exact ih5 (j + 1) (F_X5_hashWith h (F_X1_byteAt δ k)) (k + 1) (by omega) hj (by rw [ik]; exact nI_1 j) (by rw [ih, ik]; rfl) ls (lv_sub hl [0, 1, 2] rfl)
  exact loop5 (δ.1.toNatClampNeg + 1) 0 17 0 (by omega) (Nat.zero_le _) nI_0.symm rfl ls (lv_sub hl [0, 1, 2] rfl)
end
section
def F_X3_slotWord (σ : FS) (p0 : Int32) (p1 : Int32) : Int32 := (F_X2_read σ ((p0 * 29) + p1))
set_option maxHeartbeats 4000000 in
set_option maxRecDepth 100000 in
theorem c_X3_slotWord (l : Launch) (D : va_G) (cA : ClassId) (s0 f w : Nat) (σ : FS) (p0 : Int32) (p1 : Int32) : Met l yX3_slotWord wsX3_slotWord ({ frames := 1, cells := 0, slots := 0, locals := 21 }) (va_Pc [.ref s0, .int p0, .int p1] (bx_ro D [(cA, .int)] (wSt cA s0 f w σ))) (vp_Si (fun r => r = F_X3_slotWord σ p0 p1)) 0 0 (fun _ => False) := by
  refine Met.ofW (cc := cX3_slotWord) (maxL := 3) (ret := (some .int)) (by decide) rfl ?_
  intro p e s m args below meth c s₁ B hml hv
  obtain ⟨rfl, hP, hK, hG⟩ := hv
  have hx := B.exec
  have hb := B.bytes
  have hr := B.returns
  have hts := atoms_spec (ws := wsX3_slotWord) B.pre
  have hown : s.vm.findClass RX3 = some m.cls := findClass_of_methodNamed B.named
  have hlocks := B.notSynchronized
  have hP : va_P D vwCl [(s0, .inr (3, [.ref f])), (f, .inr (2, [.ref w, .int σ.2.1, .int σ.2.2])), (w, .inl (cA, 66, .inl σ.1))] s.heap := hP
  have hl := lv_entry ([.ref s0, .int p0, .int p1]) (n := 3) (Nat.le_of_ble_eq_true rfl)
  rw [lg_entry_eq]
  generalize (lg_sl ([.ref s0, .int p0, .int p1]) ++ List.replicate (3 - (lg_sl ([.ref s0, .int p0, .int p1])).length) Slot.unset).toArray = ls at hl ⊢
  have hl : lv_has ls 3 [(0, .ref s0), (1, .int p0), (2, .int p1)] := hl
  have hi3 : ∀ w ∈ u_ws RX3 TX3 1, w ∈ wsX3_slotWord := by decide +kernel
  refine lv_aload_n hx hb dX3_slotWord_0 rfl (lv_at hl 0 rfl) ?_
  refine va_get (D := D) (ci := 3) (v := .ref f) (C := RX3) (T := TX3) (N := 1) hx hb hts hi3 hown hK hP 0 rfl rfl 0 (by decide) (hts (.fieldLink RX3 14 "Bootstay$Store" "flash" "LBootstay$Flash;") (by decide +kernel)) (fun _ h9 => h9) rfl dX3_slotWord_1 ?_
  refine lv_iload_n hx hb dX3_slotWord_4 rfl (lv_at hl 1 rfl) ?_
  refine lv_bipush (v := 29) hx hb dX3_slotWord_5 (by decide) ?_
  refine lv_imul hx hb dX3_slotWord_7 ?_
  refine lv_iload_n hx hb dX3_slotWord_8 rfl (lv_at hl 2 rfl) ?_
  refine lv_iadd hx hb dX3_slotWord_9 ?_
  refine bx_ri (va_runV (As := [.int ((p0 * 29) + p1)]) (rest := []) ⟨hx, hb, hml, hown, hts⟩ (c_X2_read l D cA f w σ ((p0 * 29) + p1)) (cwV 1 hts gX3_slotWord_X2_read rfl rfl rfl (by decide +kernel) ⟨Nat.le_of_ble_eq_true rfl, Nat.le_of_ble_eq_true rfl⟩) (bx_pvr (ci := 2) (q0 := 0) hK hG (hP.sub (ws' := [(f, .inr (2, [.ref w, .int σ.2.1, .int σ.2.2])), (w, .inl (cA, 66, .inl σ.1))]) [1, 2] rfl) rfl rfl) rfl rfl hl.1 rfl (lv_room (Nat.le_of_ble_eq_true rfl)) dX3_slotWord_10 ⟨Nat.zero_le _, Nat.zero_le _⟩) (fun r_1 h_2 => ?_)
  subst h_2
  exact W.iret (v := (F_X2_read σ ((p0 * 29) + p1))) hx hb hr (fun t ht hW => ⟨(F_X2_read σ ((p0 * 29) + p1)), rfl, rfl, ht⟩) (fun _ h => nomatch h) dX3_slotWord_13
def F_X3_imageWord (σ : FS) (p0 : Int32) (p1 : Int32) : Int32 := (F_X2_read σ (((p0 * 29) + 5) + p1))
set_option maxHeartbeats 4000000 in
set_option maxRecDepth 100000 in
theorem c_X3_imageWord (l : Launch) (D : va_G) (cA : ClassId) (s0 f w : Nat) (σ : FS) (p0 : Int32) (p1 : Int32) : Met l yX3_imageWord wsX3_imageWord ({ frames := 1, cells := 0, slots := 0, locals := 21 }) (va_Pc [.ref s0, .int p0, .int p1] (bx_ro D [(cA, .int)] (wSt cA s0 f w σ))) (vp_Si (fun r => r = F_X3_imageWord σ p0 p1)) 0 0 (fun _ => False) := by
  refine Met.ofW (cc := cX3_imageWord) (maxL := 3) (ret := (some .int)) (by decide) rfl ?_
  intro p e s m args below meth c s₁ B hml hv
  obtain ⟨rfl, hP, hK, hG⟩ := hv
  have hx := B.exec
  have hb := B.bytes
  have hr := B.returns
  have hts := atoms_spec (ws := wsX3_imageWord) B.pre
  have hown : s.vm.findClass RX3 = some m.cls := findClass_of_methodNamed B.named
  have hlocks := B.notSynchronized
  have hP : va_P D vwCl [(s0, .inr (3, [.ref f])), (f, .inr (2, [.ref w, .int σ.2.1, .int σ.2.2])), (w, .inl (cA, 66, .inl σ.1))] s.heap := hP
  have hl := lv_entry ([.ref s0, .int p0, .int p1]) (n := 3) (Nat.le_of_ble_eq_true rfl)
  rw [lg_entry_eq]
  generalize (lg_sl ([.ref s0, .int p0, .int p1]) ++ List.replicate (3 - (lg_sl ([.ref s0, .int p0, .int p1])).length) Slot.unset).toArray = ls at hl ⊢
  have hl : lv_has ls 3 [(0, .ref s0), (1, .int p0), (2, .int p1)] := hl
  have hi3 : ∀ w ∈ u_ws RX3 TX3 1, w ∈ wsX3_imageWord := by decide +kernel
  refine lv_aload_n hx hb dX3_imageWord_0 rfl (lv_at hl 0 rfl) ?_
  refine va_get (D := D) (ci := 3) (v := .ref f) (C := RX3) (T := TX3) (N := 1) hx hb hts hi3 hown hK hP 0 rfl rfl 0 (by decide) (hts (.fieldLink RX3 14 "Bootstay$Store" "flash" "LBootstay$Flash;") (by decide +kernel)) (fun _ h9 => h9) rfl dX3_imageWord_1 ?_
  refine lv_iload_n hx hb dX3_imageWord_4 rfl (lv_at hl 1 rfl) ?_
  refine lv_bipush (v := 29) hx hb dX3_imageWord_5 (by decide) ?_
  refine lv_imul hx hb dX3_imageWord_7 ?_
  refine lv_iconst (v := 5) hx hb dX3_imageWord_8 (by decide) ?_
  refine lv_iadd hx hb dX3_imageWord_9 ?_
  refine lv_iload_n hx hb dX3_imageWord_10 rfl (lv_at hl 2 rfl) ?_
  refine lv_iadd hx hb dX3_imageWord_11 ?_
  refine bx_ri (va_runV (As := [.int (((p0 * 29) + 5) + p1)]) (rest := []) ⟨hx, hb, hml, hown, hts⟩ (c_X2_read l D cA f w σ (((p0 * 29) + 5) + p1)) (cwV 1 hts gX3_imageWord_X2_read rfl rfl rfl (by decide +kernel) ⟨Nat.le_of_ble_eq_true rfl, Nat.le_of_ble_eq_true rfl⟩) (bx_pvr (ci := 2) (q0 := 0) hK hG (hP.sub (ws' := [(f, .inr (2, [.ref w, .int σ.2.1, .int σ.2.2])), (w, .inl (cA, 66, .inl σ.1))]) [1, 2] rfl) rfl rfl) rfl rfl hl.1 rfl (lv_room (Nat.le_of_ble_eq_true rfl)) dX3_imageWord_12 ⟨Nat.zero_le _, Nat.zero_le _⟩) (fun r_1 h_2 => ?_)
  subst h_2
  exact W.iret (v := (F_X2_read σ (((p0 * 29) + 5) + p1))) hx hb hr (fun t ht hW => ⟨(F_X2_read σ (((p0 * 29) + 5) + p1)), rfl, rfl, ht⟩) (fun _ h => nomatch h) dX3_imageWord_15
def F_X3_writeSlotWord (σ : FS) (p0 : Int32) (p1 : Int32) (p2 : Int32) : Int32 × (FS) := (match (F_X2_write σ ((p0 * 29) + p1) p2) with | (r_3, u_2) => (r_3, u_2))
set_option maxHeartbeats 4000000 in
set_option maxRecDepth 100000 in
theorem c_X3_writeSlotWord (l : Launch) (D : va_G) (cA : ClassId) (s0 f w : Nat) (sz : Nat) (σ : FS) (p0 : Int32) (p1 : Int32) (p2 : Int32) : Met l yX3_writeSlotWord wsX3_writeSlotWord ({ frames := 2, cells := 0, slots := 0, locals := 44 }) (va_Pc [.ref s0, .int p0, .int p1, .int p2] (bx_pre D [(cA, .int)] (wSt cA s0 f w σ) sz)) (va_Qi (fun r u => (r, u) = F_X3_writeSlotWord σ p0 p1 p2 ∧ (r = 0 ∨ r = 1)) (fun u t => bx_at D (wSt cA s0 f w u) (va_A (wSt cA s0 f w σ) sz) t) (va_A (wSt cA s0 f w σ) sz)) 0 0 (va_A (wSt cA s0 f w σ) sz) := by
  refine Met.ofW (cc := cX3_writeSlotWord) (maxL := 4) (ret := (some .boolean)) (by decide) rfl ?_
  intro p e s m args below meth c s₁ B hml hv
  obtain ⟨rfl, hsz, hP, hK, hD0, hG⟩ := hv
  have hx := B.exec
  have hb := B.bytes
  have hr := B.returns
  have hts := atoms_spec (ws := wsX3_writeSlotWord) B.pre
  have hown : s.vm.findClass RX3 = some m.cls := findClass_of_methodNamed B.named
  have hlocks := B.notSynchronized
  subst hsz
  have hD := hD0.self (sz := s.heap.size)
  generalize hAe : va_A (wSt cA s0 f w σ) s.heap.size = A at hD ⊢
  have hA : ∀ q : Nat, s.heap.size ≤ q → A q := fun q h => by rw [← hAe]; exact Or.inr h
  have hS : va_S A s.heap s.heap [] := va_S.rf
  have hD : va_D A [(s0, .inr (3, [.ref f])), (f, .inr (2, [.ref w, .int σ.2.1, .int σ.2.2])), (w, .inl (cA, 66, .inl σ.1))] := hD
  have hP : va_P D vwCl [(s0, .inr (3, [.ref f])), (f, .inr (2, [.ref w, .int σ.2.1, .int σ.2.2])), (w, .inl (cA, 66, .inl σ.1))] s.heap := hP
  have hl := lv_entry ([.ref s0, .int p0, .int p1, .int p2]) (n := 4) (Nat.le_of_ble_eq_true rfl)
  rw [lg_entry_eq]
  generalize (lg_sl ([.ref s0, .int p0, .int p1, .int p2]) ++ List.replicate (4 - (lg_sl ([.ref s0, .int p0, .int p1, .int p2])).length) Slot.unset).toArray = ls at hl ⊢
  have hl : lv_has ls 4 [(0, .ref s0), (1, .int p0), (2, .int p1), (3, .int p2)] := hl
  have hi3 : ∀ w ∈ u_ws RX3 TX3 1, w ∈ wsX3_writeSlotWord := by decide +kernel
  refine lv_aload_n hx hb dX3_writeSlotWord_0 rfl (lv_at hl 0 rfl) ?_
  refine va_get (D := D) (ci := 3) (v := .ref f) (C := RX3) (T := TX3) (N := 1) hx hb hts hi3 hown hK hP 0 rfl rfl 0 (by decide) (hts (.fieldLink RX3 14 "Bootstay$Store" "flash" "LBootstay$Flash;") (by decide +kernel)) (fun _ h9 => h9) rfl dX3_writeSlotWord_1 ?_
  refine lv_iload_n hx hb dX3_writeSlotWord_4 rfl (lv_at hl 1 rfl) ?_
  refine lv_bipush (v := 29) hx hb dX3_writeSlotWord_5 (by decide) ?_
  refine lv_imul hx hb dX3_writeSlotWord_7 ?_
  refine lv_iload_n hx hb dX3_writeSlotWord_8 rfl (lv_at hl 2 rfl) ?_
  refine lv_iadd hx hb dX3_writeSlotWord_9 ?_
  refine lv_iload_n hx hb dX3_writeSlotWord_10 rfl (lv_at hl 3 rfl) ?_
  refine bx_wi (wc := [(f, .inr (2, [.ref w, .int σ.2.1, .int σ.2.2])), (w, .inl (cA, 66, .inl σ.1))]) (wr := [(s0, .inr (3, [.ref f]))]) (wf := fun (u : (FS)) => [(f, .inr (2, [.ref w, .int u.2.1, .int u.2.2])), (w, .inl (cA, 66, .inl u.1))]) (wn := fun (u : (FS)) => [(s0, .inr (3, [.ref f])), (f, .inr (2, [.ref w, .int u.2.1, .int u.2.2])), (w, .inl (cA, 66, .inl u.1))]) hP hD hS hA [1, 2] [0] [0, 1, 2] rfl rfl (by decide) (by decide) (fun u => rfl) (by decide) (va_runV (As := [.int ((p0 * 29) + p1), .int p2]) (rest := []) ⟨hx, hb, hml, hown, hts⟩ (c_X2_write l D cA f w s.heap.size σ ((p0 * 29) + p1) p2) (cwV 2 hts gX3_writeSlotWord_X2_write rfl rfl rfl (by decide +kernel) ⟨Nat.le_of_ble_eq_true rfl, Nat.le_of_ble_eq_true rfl⟩) (bx_pv (ci := 2) (q0 := 0) hK hG (hP.sub (ws' := [(f, .inr (2, [.ref w, .int σ.2.1, .int σ.2.2])), (w, .inl (cA, 66, .inl σ.1))]) [1, 2] rfl) (hD.sub (ws' := [(f, .inr (2, [.ref w, .int σ.2.1, .int σ.2.2])), (w, .inl (cA, 66, .inl σ.1))]) [1, 2] (by decide) rfl) rfl rfl) rfl rfl hl.1 rfl (lv_room (Nat.le_of_ble_eq_true rfl)) dX3_writeSlotWord_11 ⟨Nat.zero_le _, Nat.zero_le _⟩) (fun r_3 u_2 H locs h_1 hP hD hS => ?_)
  obtain ⟨h_1, b_5⟩ := h_1
  have hP : va_P D vwCl [(s0, .inr (3, [.ref f])), (f, .inr (2, [.ref w, .int u_2.2.1, .int u_2.2.2])), (w, .inl (cA, 66, .inl u_2.1))] H := hP
  have hD : va_D A [(s0, .inr (3, [.ref f])), (f, .inr (2, [.ref w, .int u_2.2.1, .int u_2.2.2])), (w, .inl (cA, 66, .inl u_2.1))] := hD
  exact W.zret (v := r_3) hx hb hr (bx_nb b_5) (fun t ht hW => ⟨⟨r_3, u_2, rfl, ⟨(by simp only [F_X3_writeSlotWord, ← h_1]), b_5⟩, ⟨by rw [ht]; exact hP, hD⟩⟩, hS.F ht⟩) hS.2.2 dX3_writeSlotWord_14
def F_X3_writeImageWord (σ : FS) (p0 : Int32) (p1 : Int32) (p2 : Int32) : Int32 × (FS) := (match (F_X2_write σ (((p0 * 29) + 5) + p1) p2) with | (r_3, u_2) => (r_3, u_2))
set_option maxHeartbeats 4000000 in
set_option maxRecDepth 100000 in
theorem c_X3_writeImageWord (l : Launch) (D : va_G) (cA : ClassId) (s0 f w : Nat) (sz : Nat) (σ : FS) (p0 : Int32) (p1 : Int32) (p2 : Int32) : Met l yX3_writeImageWord wsX3_writeImageWord ({ frames := 2, cells := 0, slots := 0, locals := 44 }) (va_Pc [.ref s0, .int p0, .int p1, .int p2] (bx_pre D [(cA, .int)] (wSt cA s0 f w σ) sz)) (va_Qi (fun r u => (r, u) = F_X3_writeImageWord σ p0 p1 p2 ∧ (r = 0 ∨ r = 1)) (fun u t => bx_at D (wSt cA s0 f w u) (va_A (wSt cA s0 f w σ) sz) t) (va_A (wSt cA s0 f w σ) sz)) 0 0 (va_A (wSt cA s0 f w σ) sz) := by
  refine Met.ofW (cc := cX3_writeImageWord) (maxL := 4) (ret := (some .boolean)) (by decide) rfl ?_
  intro p e s m args below meth c s₁ B hml hv
  obtain ⟨rfl, hsz, hP, hK, hD0, hG⟩ := hv
  have hx := B.exec
  have hb := B.bytes
  have hr := B.returns
  have hts := atoms_spec (ws := wsX3_writeImageWord) B.pre
  have hown : s.vm.findClass RX3 = some m.cls := findClass_of_methodNamed B.named
  have hlocks := B.notSynchronized
  subst hsz
  have hD := hD0.self (sz := s.heap.size)
  generalize hAe : va_A (wSt cA s0 f w σ) s.heap.size = A at hD ⊢
  have hA : ∀ q : Nat, s.heap.size ≤ q → A q := fun q h => by rw [← hAe]; exact Or.inr h
  have hS : va_S A s.heap s.heap [] := va_S.rf
  have hD : va_D A [(s0, .inr (3, [.ref f])), (f, .inr (2, [.ref w, .int σ.2.1, .int σ.2.2])), (w, .inl (cA, 66, .inl σ.1))] := hD
  have hP : va_P D vwCl [(s0, .inr (3, [.ref f])), (f, .inr (2, [.ref w, .int σ.2.1, .int σ.2.2])), (w, .inl (cA, 66, .inl σ.1))] s.heap := hP
  have hl := lv_entry ([.ref s0, .int p0, .int p1, .int p2]) (n := 4) (Nat.le_of_ble_eq_true rfl)
  rw [lg_entry_eq]
  generalize (lg_sl ([.ref s0, .int p0, .int p1, .int p2]) ++ List.replicate (4 - (lg_sl ([.ref s0, .int p0, .int p1, .int p2])).length) Slot.unset).toArray = ls at hl ⊢
  have hl : lv_has ls 4 [(0, .ref s0), (1, .int p0), (2, .int p1), (3, .int p2)] := hl
  have hi3 : ∀ w ∈ u_ws RX3 TX3 1, w ∈ wsX3_writeImageWord := by decide +kernel
  refine lv_aload_n hx hb dX3_writeImageWord_0 rfl (lv_at hl 0 rfl) ?_
  refine va_get (D := D) (ci := 3) (v := .ref f) (C := RX3) (T := TX3) (N := 1) hx hb hts hi3 hown hK hP 0 rfl rfl 0 (by decide) (hts (.fieldLink RX3 14 "Bootstay$Store" "flash" "LBootstay$Flash;") (by decide +kernel)) (fun _ h9 => h9) rfl dX3_writeImageWord_1 ?_
  refine lv_iload_n hx hb dX3_writeImageWord_4 rfl (lv_at hl 1 rfl) ?_
  refine lv_bipush (v := 29) hx hb dX3_writeImageWord_5 (by decide) ?_
  refine lv_imul hx hb dX3_writeImageWord_7 ?_
  refine lv_iconst (v := 5) hx hb dX3_writeImageWord_8 (by decide) ?_
  refine lv_iadd hx hb dX3_writeImageWord_9 ?_
  refine lv_iload_n hx hb dX3_writeImageWord_10 rfl (lv_at hl 2 rfl) ?_
  refine lv_iadd hx hb dX3_writeImageWord_11 ?_
  refine lv_iload_n hx hb dX3_writeImageWord_12 rfl (lv_at hl 3 rfl) ?_
  refine bx_wi (wc := [(f, .inr (2, [.ref w, .int σ.2.1, .int σ.2.2])), (w, .inl (cA, 66, .inl σ.1))]) (wr := [(s0, .inr (3, [.ref f]))]) (wf := fun (u : (FS)) => [(f, .inr (2, [.ref w, .int u.2.1, .int u.2.2])), (w, .inl (cA, 66, .inl u.1))]) (wn := fun (u : (FS)) => [(s0, .inr (3, [.ref f])), (f, .inr (2, [.ref w, .int u.2.1, .int u.2.2])), (w, .inl (cA, 66, .inl u.1))]) hP hD hS hA [1, 2] [0] [0, 1, 2] rfl rfl (by decide) (by decide) (fun u => rfl) (by decide) (va_runV (As := [.int (((p0 * 29) + 5) + p1), .int p2]) (rest := []) ⟨hx, hb, hml, hown, hts⟩ (c_X2_write l D cA f w s.heap.size σ (((p0 * 29) + 5) + p1) p2) (cwV 2 hts gX3_writeImageWord_X2_write rfl rfl rfl (by decide +kernel) ⟨Nat.le_of_ble_eq_true rfl, Nat.le_of_ble_eq_true rfl⟩) (bx_pv (ci := 2) (q0 := 0) hK hG (hP.sub (ws' := [(f, .inr (2, [.ref w, .int σ.2.1, .int σ.2.2])), (w, .inl (cA, 66, .inl σ.1))]) [1, 2] rfl) (hD.sub (ws' := [(f, .inr (2, [.ref w, .int σ.2.1, .int σ.2.2])), (w, .inl (cA, 66, .inl σ.1))]) [1, 2] (by decide) rfl) rfl rfl) rfl rfl hl.1 rfl (lv_room (Nat.le_of_ble_eq_true rfl)) dX3_writeImageWord_13 ⟨Nat.zero_le _, Nat.zero_le _⟩) (fun r_3 u_2 H locs h_1 hP hD hS => ?_)
  obtain ⟨h_1, b_5⟩ := h_1
  have hP : va_P D vwCl [(s0, .inr (3, [.ref f])), (f, .inr (2, [.ref w, .int u_2.2.1, .int u_2.2.2])), (w, .inl (cA, 66, .inl u_2.1))] H := hP
  have hD : va_D A [(s0, .inr (3, [.ref f])), (f, .inr (2, [.ref w, .int u_2.2.1, .int u_2.2.2])), (w, .inl (cA, 66, .inl u_2.1))] := hD
  exact W.zret (v := r_3) hx hb hr (bx_nb b_5) (fun t ht hW => ⟨⟨r_3, u_2, rfl, ⟨(by simp only [F_X3_writeImageWord, ← h_1]), b_5⟩, ⟨by rw [ht]; exact hP, hD⟩⟩, hS.F ht⟩) hS.2.2 dX3_writeImageWord_16
def F_X3_imageHash (σ : FS) (p0 p1 : Int32) : Int32 := hashN (fun k => F_X3_imageWord σ p0 (nI k)) (min p1.toNatClampNeg 24)
 
set_option maxHeartbeats 4000000 in
set_option maxRecDepth 100000 in
theorem c_X3_imageHash (l : Launch) (D : va_G) (cA : ClassId) (s0 f w : Nat) (σ : FS) (p0 : Int32) (p1 : Int32) : Met l yX3_imageHash wsX3_imageHash ({ frames := 2, cells := 0, slots := 0, locals := 43 }) (va_Pc [.ref s0, .int p0, .int p1] (bx_ro D [(cA, .int)] (wSt cA s0 f w σ))) (vp_Si (fun r => r = F_X3_imageHash σ p0 p1)) 0 0 (fun _ => False) := by
  refine Met.ofW (cc := cX3_imageHash) (maxL := 5) (ret := (some .int)) (by decide) rfl ?_
  intro p e s m args below meth c s₁ B hml hv
  obtain ⟨rfl, hP, hK, hG⟩ := hv
  have hx := B.exec
  have hb := B.bytes
  have hr := B.returns
  have hts := atoms_spec (ws := wsX3_imageHash) B.pre
  have hown : s.vm.findClass RX3 = some m.cls := findClass_of_methodNamed B.named
  have hlocks := B.notSynchronized
  have hP : va_P D vwCl [(s0, .inr (3, [.ref f])), (f, .inr (2, [.ref w, .int σ.2.1, .int σ.2.2])), (w, .inl (cA, 66, .inl σ.1))] s.heap := hP
  have hl := lv_entry ([.ref s0, .int p0, .int p1]) (n := 5) (Nat.le_of_ble_eq_true rfl)
  rw [lg_entry_eq]
  generalize (lg_sl ([.ref s0, .int p0, .int p1]) ++ List.replicate (5 - (lg_sl ([.ref s0, .int p0, .int p1])).length) Slot.unset).toArray = ls at hl ⊢
  have hl : lv_has ls 5 [(0, .ref s0), (1, .int p0), (2, .int p1)] := hl
  refine lv_bipush (v := 17) hx hb dX3_imageHash_0 (by decide) ?_
  refine lv_istore_n (lv' := [(3, .int 17), (0, .ref s0), (1, .int p0), (2, .int p1)]) hx hb dX3_imageHash_2 rfl hl (by decide) rfl (fun ls hl => ?_)
  refine lv_iconst (v := 0) hx hb dX3_imageHash_3 (by decide) ?_
  refine lv_istore (lv' := [(4, .int 0), (3, .int 17), (0, .ref s0), (1, .int p0), (2, .int p1)]) hx hb dX3_imageHash_4 hl (by decide) rfl (fun ls hl => ?_)
  have loop6 : ∀ (n : Nat) (j : Nat) (h k : Int32), min p1.toNatClampNeg 24 - j < n → j ≤ min p1.toNatClampNeg 24 → k = nI j → h = hashN (fun k => F_X3_imageWord σ p0 (nI k)) j → ∀ (ls : Array Slot), lv_has ls 5 [(4, .int k), (3, .int h), (0, .ref s0), (1, .int p0), (2, .int p1)] → W p l e (headSpec wsX3_imageHash ({ frames := 2, cells := 0, slots := 0, locals := 43 })).room s m ([.ref s0, .int p0, .int p1] : List Value).toArray below meth c s.heap [] 0 0 (MQ below (vp_Si (fun r => r = F_X3_imageHash σ p0 p1)) ([.ref s0, .int p0, .int p1] : List Value).toArray s 0 0 (fun _ => False)) (F0 m 6 ls []) := by
    intro n
    induction n with
    | zero =>
      intro j h k h_f ij ik ih ls hl
      exact absurd h_f (Nat.not_lt_zero _)
    | succ n ih6 =>
      intro j h k h_f ij ik ih ls hl
      have hcl := bx_cl p1
      refine lv_iload hx hb dX3_imageHash_6 (lv_at hl 0 rfl) ?_
      refine lv_iload_n hx hb dX3_imageHash_8 rfl (lv_at hl 4 rfl) ?_
      refine lv_icmp_ge (tgt := 37) hx hb dX3_imageHash_9 (by decide) (fun c_1 => ?_) (fun c_1 => ?_)
      · skip
        have hj3 : min p1.toNatClampNeg 24 ≤ j := by
          have := (bx_le (N := p1) (j := j) (by omega)).mp (ik ▸ c_1)
          have e24 : (24 : Int32).toNatClampNeg = 24 := rfl
          omega
        refine lv_iload_n hx hb dX3_imageHash_37 rfl (lv_at hl 1 rfl) ?_
        exact W.iret (v := h) hx hb hr (fun t ht hW => ⟨h, rfl, (by rw [ih, Nat.le_antisymm ij hj3]; rfl), ht⟩) (fun _ h => nomatch h) dX3_imageHash_38
      · skip
        have hj : j < p1.toNatClampNeg := Nat.lt_of_not_le (fun h => c_1 (by rw [ik]; exact (bx_le (by omega)).mpr h))
        refine lv_iload hx hb dX3_imageHash_12 (lv_at hl 0 rfl) ?_
        refine lv_bipush (v := 24) hx hb dX3_imageHash_14 (by decide) ?_
        refine lv_icmp_ge (tgt := 37) hx hb dX3_imageHash_16 (by decide) (fun c_2 => ?_) (fun c_2 => ?_)
        · skip
          have hj3 : min p1.toNatClampNeg 24 ≤ j := by
            have := (bx_le (N := 24) (j := j) (by omega)).mp (ik ▸ c_2)
            have e24 : (24 : Int32).toNatClampNeg = 24 := rfl
            omega
          refine lv_iload_n hx hb dX3_imageHash_37 rfl (lv_at hl 1 rfl) ?_
          exact W.iret (v := h) hx hb hr (fun t ht hW => ⟨h, rfl, (by rw [ih, Nat.le_antisymm ij hj3]; rfl), ht⟩) (fun _ h => nomatch h) dX3_imageHash_38
        · skip
          have hj2 : j < 24 := Nat.lt_of_not_le (fun h => c_2 (by rw [ik]; exact (bx_le (by omega)).mpr h))
          refine lv_iload_n hx hb dX3_imageHash_19 rfl (lv_at hl 1 rfl) ?_
          refine lv_aload_n hx hb dX3_imageHash_20 rfl (lv_at hl 2 rfl) ?_
          refine lv_iload_n hx hb dX3_imageHash_21 rfl (lv_at hl 3 rfl) ?_
          refine lv_iload hx hb dX3_imageHash_22 (lv_at hl 0 rfl) ?_
          refine bx_ri (va_runV (As := [.int p0, .int k]) (rest := [.int h]) ⟨hx, hb, hml, hown, hts⟩ (c_X3_imageWord l D cA s0 f w σ p0 k) (cwV 2 hts gX3_imageHash_X3_imageWord rfl rfl rfl (by decide +kernel) ⟨Nat.le_of_ble_eq_true rfl, Nat.le_of_ble_eq_true rfl⟩) (bx_pvr (ci := 3) (q0 := 0) hK hG (hP.sub (ws' := [(s0, .inr (3, [.ref f])), (f, .inr (2, [.ref w, .int σ.2.1, .int σ.2.2])), (w, .inl (cA, 66, .inl σ.1))]) [0, 1, 2] rfl) rfl rfl) rfl rfl hl.1 rfl (lv_room (Nat.le_of_ble_eq_true rfl)) dX3_imageHash_24 ⟨Nat.zero_le _, Nat.zero_le _⟩) (fun r_3 h_4 => ?_)
          subst h_4
          refine bx_ri (va_runSN (As := [.int h, .int (F_X3_imageWord σ p0 k)]) (rest := []) ⟨hx, hb, hml, hown, hts⟩ (c_X5_hashWith l D h (F_X3_imageWord σ p0 k)) ⟨(va_cnB 2 hts gX3_imageHash_X5_hashWith_n45 rfl rfl rfl (hG.1 (.methodLinkNest RX3 45 yX5_hashWith RX5) (by decide +kernel)) (hts (.initialized RX5) (by decide +kernel)) (by decide +kernel) ⟨Nat.le_of_ble_eq_true rfl, Nat.le_of_ble_eq_true rfl⟩), hts (.static yX5_hashWith) (by decide +kernel), trivial⟩ (bx_psr (hK.sub (tys' := []) [] rfl) hG (hP.sub (ws' := []) [] rfl)) rfl rfl hl.1 rfl (lv_room (Nat.le_of_ble_eq_true rfl)) dX3_imageHash_27 ⟨Nat.zero_le _, Nat.zero_le _⟩) (fun r_5 h_6 => ?_)
          subst h_6
          refine lv_istore_n (lv' := [(3, .int (F_X5_hashWith h (F_X3_imageWord σ p0 k))), (4, .int k), (0, .ref s0), (1, .int p0), (2, .int p1)]) hx hb dX3_imageHash_30 rfl hl (by decide) rfl (fun ls hl => ?_)
          refine lv_iinc (v := (k + 1)) (lv' := [(4, .int (k + 1)), (3, .int (F_X5_hashWith h (F_X3_imageWord σ p0 k))), (0, .ref s0), (1, .int p0), (2, .int p1)]) hx hb dX3_imageHash_31 hl (k := 1) rfl rfl (by decide) rfl (fun ls hl => ?_)
          refine lv_goto (tgt := 6) hx hb dX3_imageHash_34 (by decide) ?_
          exact ih6 (j + 1) (F_X5_hashWith h (F_X3_imageWord σ p0 k)) (k + 1) (by omega) (by omega) (by rw [ik]; exact nI_1 j) (by rw [ih, ik]; rfl) ls (lv_sub hl [0, 1, 2, 3, 4] rfl)
  exact loop6 (min p1.toNatClampNeg 24 + 1) 0 17 0 (by omega) (Nat.zero_le _) nI_0.symm rfl ls (lv_sub hl [0, 1, 2, 3, 4] rfl)
def F_X3_canStart (σ : FS) (p0 : Int32) : Int32 := (if (F_X3_slotWord σ p0 0) = 1 then (if (F_X3_slotWord σ p0 2) < 1 then 0 else (if 24 < (F_X3_slotWord σ p0 2) then 0 else (if (F_X3_slotWord σ p0 3) = (F_X3_imageHash σ p0 (F_X3_slotWord σ p0 2)) then 1 else 0))) else 0)
set_option maxHeartbeats 4000000 in
set_option maxRecDepth 100000 in
theorem c_X3_canStart (l : Launch) (D : va_G) (cA : ClassId) (s0 f w : Nat) (σ : FS) (p0 : Int32) : Met l yX3_canStart wsX3_canStart ({ frames := 3, cells := 0, slots := 0, locals := 67 }) (va_Pc [.ref s0, .int p0] (bx_ro D [(cA, .int)] (wSt cA s0 f w σ))) (vp_Si (fun r => r = F_X3_canStart σ p0 ∧ (r = 0 ∨ r = 1))) 0 0 (fun _ => False) := by
  refine Met.ofW (cc := cX3_canStart) (maxL := 3) (ret := (some .boolean)) (by decide) rfl ?_
  intro p e s m args below meth c s₁ B hml hv
  obtain ⟨rfl, hP, hK, hG⟩ := hv
  have hx := B.exec
  have hb := B.bytes
  have hr := B.returns
  have hts := atoms_spec (ws := wsX3_canStart) B.pre
  have hown : s.vm.findClass RX3 = some m.cls := findClass_of_methodNamed B.named
  have hlocks := B.notSynchronized
  have hP : va_P D vwCl [(s0, .inr (3, [.ref f])), (f, .inr (2, [.ref w, .int σ.2.1, .int σ.2.2])), (w, .inl (cA, 66, .inl σ.1))] s.heap := hP
  have hl := lv_entry ([.ref s0, .int p0]) (n := 3) (Nat.le_of_ble_eq_true rfl)
  rw [lg_entry_eq]
  generalize (lg_sl ([.ref s0, .int p0]) ++ List.replicate (3 - (lg_sl ([.ref s0, .int p0])).length) Slot.unset).toArray = ls at hl ⊢
  have hl : lv_has ls 3 [(0, .ref s0), (1, .int p0)] := hl
  refine lv_aload_n hx hb dX3_canStart_0 rfl (lv_at hl 0 rfl) ?_
  refine lv_iload_n hx hb dX3_canStart_1 rfl (lv_at hl 1 rfl) ?_
  refine lv_iconst (v := 2) hx hb dX3_canStart_2 (by decide) ?_
  refine bx_ri (va_runV (As := [.int p0, .int 2]) (rest := []) ⟨hx, hb, hml, hown, hts⟩ (c_X3_slotWord l D cA s0 f w σ p0 2) (cwV 2 hts gX3_canStart_X3_slotWord rfl rfl rfl (by decide +kernel) ⟨Nat.le_of_ble_eq_true rfl, Nat.le_of_ble_eq_true rfl⟩) (bx_pvr (ci := 3) (q0 := 0) hK hG (hP.sub (ws' := [(s0, .inr (3, [.ref f])), (f, .inr (2, [.ref w, .int σ.2.1, .int σ.2.2])), (w, .inl (cA, 66, .inl σ.1))]) [0, 1, 2] rfl) rfl rfl) rfl rfl hl.1 rfl (lv_room (Nat.le_of_ble_eq_true rfl)) dX3_canStart_3 ⟨Nat.zero_le _, Nat.zero_le _⟩) (fun r_1 h_2 => ?_)
  subst h_2
  refine lv_istore_n (lv' := [(2, .int (F_X3_slotWord σ p0 2)), (0, .ref s0), (1, .int p0)]) hx hb dX3_canStart_6 rfl hl (by decide) rfl (fun ls hl => ?_)
  refine lv_aload_n hx hb dX3_canStart_7 rfl (lv_at hl 1 rfl) ?_
  refine lv_iload_n hx hb dX3_canStart_8 rfl (lv_at hl 2 rfl) ?_
  refine lv_iconst (v := 0) hx hb dX3_canStart_9 (by decide) ?_
  refine bx_ri (va_runV (As := [.int p0, .int 0]) (rest := []) ⟨hx, hb, hml, hown, hts⟩ (c_X3_slotWord l D cA s0 f w σ p0 0) (cwV 2 hts gX3_canStart_X3_slotWord rfl rfl rfl (by decide +kernel) ⟨Nat.le_of_ble_eq_true rfl, Nat.le_of_ble_eq_true rfl⟩) (bx_pvr (ci := 3) (q0 := 0) hK hG (hP.sub (ws' := [(s0, .inr (3, [.ref f])), (f, .inr (2, [.ref w, .int σ.2.1, .int σ.2.2])), (w, .inl (cA, 66, .inl σ.1))]) [0, 1, 2] rfl) rfl rfl) rfl rfl hl.1 rfl (lv_room (Nat.le_of_ble_eq_true rfl)) dX3_canStart_10 ⟨Nat.zero_le _, Nat.zero_le _⟩) (fun r_3 h_4 => ?_)
  subst h_4
  refine lv_iconst (v := 1) hx hb dX3_canStart_13 (by decide) ?_
  refine lv_icmp_ne (tgt := 47) hx hb dX3_canStart_14 (by decide) (fun c_5 => ?_) (fun c_5 => ?_)
  · skip
    refine lv_iconst (v := 0) hx hb dX3_canStart_47 (by decide) ?_
    exact W.zret (v := 0) hx hb hr rfl (fun t ht hW => ⟨0, rfl, ⟨(by simp only [F_X3_canStart, if_neg c_5]), (by decide)⟩, ht⟩) (fun _ h => nomatch h) dX3_canStart_48
  · skip
    refine lv_iload_n hx hb dX3_canStart_17 rfl (lv_at hl 0 rfl) ?_
    refine lv_iconst (v := 1) hx hb dX3_canStart_18 (by decide) ?_
    refine lv_icmp_lt (tgt := 47) hx hb dX3_canStart_19 (by decide) (fun c_6 => ?_) (fun c_6 => ?_)
    · skip
      refine lv_iconst (v := 0) hx hb dX3_canStart_47 (by decide) ?_
      exact W.zret (v := 0) hx hb hr rfl (fun t ht hW => ⟨0, rfl, ⟨(by simp only [F_X3_canStart, if_pos c_5, if_pos c_6]), (by decide)⟩, ht⟩) (fun _ h => nomatch h) dX3_canStart_48
    · skip
      refine lv_iload_n hx hb dX3_canStart_22 rfl (lv_at hl 0 rfl) ?_
      refine lv_bipush (v := 24) hx hb dX3_canStart_23 (by decide) ?_
      refine lv_icmp_gt (tgt := 47) hx hb dX3_canStart_25 (by decide) (fun c_7 => ?_) (fun c_7 => ?_)
      · skip
        refine lv_iconst (v := 0) hx hb dX3_canStart_47 (by decide) ?_
        exact W.zret (v := 0) hx hb hr rfl (fun t ht hW => ⟨0, rfl, ⟨(by simp only [F_X3_canStart, if_pos c_5, if_neg c_6, if_pos c_7]), (by decide)⟩, ht⟩) (fun _ h => nomatch h) dX3_canStart_48
      · skip
        refine lv_aload_n hx hb dX3_canStart_28 rfl (lv_at hl 1 rfl) ?_
        refine lv_iload_n hx hb dX3_canStart_29 rfl (lv_at hl 2 rfl) ?_
        refine lv_iconst (v := 3) hx hb dX3_canStart_30 (by decide) ?_
        refine bx_ri (va_runV (As := [.int p0, .int 3]) (rest := []) ⟨hx, hb, hml, hown, hts⟩ (c_X3_slotWord l D cA s0 f w σ p0 3) (cwV 2 hts gX3_canStart_X3_slotWord rfl rfl rfl (by decide +kernel) ⟨Nat.le_of_ble_eq_true rfl, Nat.le_of_ble_eq_true rfl⟩) (bx_pvr (ci := 3) (q0 := 0) hK hG (hP.sub (ws' := [(s0, .inr (3, [.ref f])), (f, .inr (2, [.ref w, .int σ.2.1, .int σ.2.2])), (w, .inl (cA, 66, .inl σ.1))]) [0, 1, 2] rfl) rfl rfl) rfl rfl hl.1 rfl (lv_room (Nat.le_of_ble_eq_true rfl)) dX3_canStart_31 ⟨Nat.zero_le _, Nat.zero_le _⟩) (fun r_8 h_9 => ?_)
        subst h_9
        refine lv_aload_n hx hb dX3_canStart_34 rfl (lv_at hl 1 rfl) ?_
        refine lv_iload_n hx hb dX3_canStart_35 rfl (lv_at hl 2 rfl) ?_
        refine lv_iload_n hx hb dX3_canStart_36 rfl (lv_at hl 0 rfl) ?_
        refine bx_ri (va_runV (As := [.int p0, .int (F_X3_slotWord σ p0 2)]) (rest := [.int (F_X3_slotWord σ p0 3)]) ⟨hx, hb, hml, hown, hts⟩ (c_X3_imageHash l D cA s0 f w σ p0 (F_X3_slotWord σ p0 2)) (cwV 2 hts gX3_canStart_X3_imageHash rfl rfl rfl (by decide +kernel) ⟨Nat.le_of_ble_eq_true rfl, Nat.le_of_ble_eq_true rfl⟩) (bx_pvr (ci := 3) (q0 := 0) hK hG (hP.sub (ws' := [(s0, .inr (3, [.ref f])), (f, .inr (2, [.ref w, .int σ.2.1, .int σ.2.2])), (w, .inl (cA, 66, .inl σ.1))]) [0, 1, 2] rfl) rfl rfl) rfl rfl hl.1 rfl (lv_room (Nat.le_of_ble_eq_true rfl)) dX3_canStart_37 ⟨Nat.zero_le _, Nat.zero_le _⟩) (fun r_10 h_11 => ?_)
        subst h_11
        refine lv_icmp_ne (tgt := 47) hx hb dX3_canStart_40 (by decide) (fun c_12 => ?_) (fun c_12 => ?_)
        · skip
          refine lv_iconst (v := 0) hx hb dX3_canStart_47 (by decide) ?_
          exact W.zret (v := 0) hx hb hr rfl (fun t ht hW => ⟨0, rfl, ⟨(by simp only [F_X3_canStart, if_pos c_5, if_neg c_6, if_neg c_7, if_neg c_12]), (by decide)⟩, ht⟩) (fun _ h => nomatch h) dX3_canStart_48
        · skip
          refine lv_iconst (v := 1) hx hb dX3_canStart_43 (by decide) ?_
          refine lv_goto (tgt := 48) hx hb dX3_canStart_44 (by decide) ?_
          exact W.zret (v := 1) hx hb hr rfl (fun t ht hW => ⟨1, rfl, ⟨(by simp only [F_X3_canStart, if_pos c_5, if_neg c_6, if_neg c_7, if_pos c_12]), (by decide)⟩, ht⟩) (fun _ h => nomatch h) dX3_canStart_48
def F_X3_checkOf (p0 : Int32) (p1 : Int32) (p2 : Int32) : Int32 := (1 + ((((7 * p0) + (13 * p1)) + (29 * p2)) - (((7 * p0) + (13 * p1)) + (29 * p2)) / 250 * 250))
set_option maxHeartbeats 4000000 in
set_option maxRecDepth 100000 in
theorem c_X3_checkOf (l : Launch) (D : va_G) (p0 : Int32) (p1 : Int32) (p2 : Int32) : Met l yX3_checkOf wsX3_checkOf ({ frames := 0, cells := 0, slots := 0, locals := 0 }) (va_Pc [.int p0, .int p1, .int p2] (bx_ro D [] (wNil))) (vp_Si (fun r => r = F_X3_checkOf p0 p1 p2)) 0 0 (fun _ => False) := by
  refine Met.ofW (cc := cX3_checkOf) (maxL := 3) (ret := (some .int)) (by decide) rfl ?_
  intro p e s m args below meth c s₁ B hml hv
  obtain ⟨rfl, hP, hK, hG⟩ := hv
  have hx := B.exec
  have hb := B.bytes
  have hr := B.returns
  have hts := atoms_spec (ws := wsX3_checkOf) B.pre
  have hown : s.vm.findClass RX3 = some m.cls := findClass_of_methodNamed B.named
  have hlocks := B.notSynchronized
  have hP : va_P D vwCl [] s.heap := hP
  have hl := lv_entry ([.int p0, .int p1, .int p2]) (n := 3) (Nat.le_of_ble_eq_true rfl)
  rw [lg_entry_eq]
  generalize (lg_sl ([.int p0, .int p1, .int p2]) ++ List.replicate (3 - (lg_sl ([.int p0, .int p1, .int p2])).length) Slot.unset).toArray = ls at hl ⊢
  have hl : lv_has ls 3 [(0, .int p0), (1, .int p1), (2, .int p2)] := hl
  refine lv_iconst (v := 1) hx hb dX3_checkOf_0 (by decide) ?_
  refine lv_bipush (v := 7) hx hb dX3_checkOf_1 (by decide) ?_
  refine lv_iload_n hx hb dX3_checkOf_3 rfl (lv_at hl 0 rfl) ?_
  refine lv_imul hx hb dX3_checkOf_4 ?_
  refine lv_bipush (v := 13) hx hb dX3_checkOf_5 (by decide) ?_
  refine lv_iload_n hx hb dX3_checkOf_7 rfl (lv_at hl 1 rfl) ?_
  refine lv_imul hx hb dX3_checkOf_8 ?_
  refine lv_iadd hx hb dX3_checkOf_9 ?_
  refine lv_bipush (v := 29) hx hb dX3_checkOf_10 (by decide) ?_
  refine lv_iload_n hx hb dX3_checkOf_12 rfl (lv_at hl 2 rfl) ?_
  refine lv_imul hx hb dX3_checkOf_13 ?_
  refine lv_iadd hx hb dX3_checkOf_14 ?_
  refine lv_sipush (v := 250) hx hb dX3_checkOf_15 (by decide) ?_
  refine lv_irem hx hb dX3_checkOf_18 (by decide) ?_
  refine lv_iadd hx hb dX3_checkOf_19 ?_
  exact W.iret (v := (1 + ((((7 * p0) + (13 * p1)) + (29 * p2)) - (((7 * p0) + (13 * p1)) + (29 * p2)) / 250 * 250))) hx hb hr (fun t ht hW => ⟨(1 + ((((7 * p0) + (13 * p1)) + (29 * p2)) - (((7 * p0) + (13 * p1)) + (29 * p2)) / 250 * 250)), rfl, rfl, ht⟩) (fun _ h => nomatch h) dX3_checkOf_20
def F_X3_recordWord (σ : FS) (p0 : Int32) (p1 : Int32) : Int32 := (F_X2_read σ ((58 + (p0 * 4)) + p1))
set_option maxHeartbeats 4000000 in
set_option maxRecDepth 100000 in
theorem c_X3_recordWord (l : Launch) (D : va_G) (cA : ClassId) (s0 f w : Nat) (σ : FS) (p0 : Int32) (p1 : Int32) : Met l yX3_recordWord wsX3_recordWord ({ frames := 1, cells := 0, slots := 0, locals := 21 }) (va_Pc [.ref s0, .int p0, .int p1] (bx_ro D [(cA, .int)] (wSt cA s0 f w σ))) (vp_Si (fun r => r = F_X3_recordWord σ p0 p1)) 0 0 (fun _ => False) := by
  refine Met.ofW (cc := cX3_recordWord) (maxL := 3) (ret := (some .int)) (by decide) rfl ?_
  intro p e s m args below meth c s₁ B hml hv
  obtain ⟨rfl, hP, hK, hG⟩ := hv
  have hx := B.exec
  have hb := B.bytes
  have hr := B.returns
  have hts := atoms_spec (ws := wsX3_recordWord) B.pre
  have hown : s.vm.findClass RX3 = some m.cls := findClass_of_methodNamed B.named
  have hlocks := B.notSynchronized
  have hP : va_P D vwCl [(s0, .inr (3, [.ref f])), (f, .inr (2, [.ref w, .int σ.2.1, .int σ.2.2])), (w, .inl (cA, 66, .inl σ.1))] s.heap := hP
  have hl := lv_entry ([.ref s0, .int p0, .int p1]) (n := 3) (Nat.le_of_ble_eq_true rfl)
  rw [lg_entry_eq]
  generalize (lg_sl ([.ref s0, .int p0, .int p1]) ++ List.replicate (3 - (lg_sl ([.ref s0, .int p0, .int p1])).length) Slot.unset).toArray = ls at hl ⊢
  have hl : lv_has ls 3 [(0, .ref s0), (1, .int p0), (2, .int p1)] := hl
  have hi3 : ∀ w ∈ u_ws RX3 TX3 1, w ∈ wsX3_recordWord := by decide +kernel
  refine lv_aload_n hx hb dX3_recordWord_0 rfl (lv_at hl 0 rfl) ?_
  refine va_get (D := D) (ci := 3) (v := .ref f) (C := RX3) (T := TX3) (N := 1) hx hb hts hi3 hown hK hP 0 rfl rfl 0 (by decide) (hts (.fieldLink RX3 14 "Bootstay$Store" "flash" "LBootstay$Flash;") (by decide +kernel)) (fun _ h9 => h9) rfl dX3_recordWord_1 ?_
  refine lv_bipush (v := 58) hx hb dX3_recordWord_4 (by decide) ?_
  refine lv_iload_n hx hb dX3_recordWord_6 rfl (lv_at hl 1 rfl) ?_
  refine lv_iconst (v := 4) hx hb dX3_recordWord_7 (by decide) ?_
  refine lv_imul hx hb dX3_recordWord_8 ?_
  refine lv_iadd hx hb dX3_recordWord_9 ?_
  refine lv_iload_n hx hb dX3_recordWord_10 rfl (lv_at hl 2 rfl) ?_
  refine lv_iadd hx hb dX3_recordWord_11 ?_
  refine bx_ri (va_runV (As := [.int ((58 + (p0 * 4)) + p1)]) (rest := []) ⟨hx, hb, hml, hown, hts⟩ (c_X2_read l D cA f w σ ((58 + (p0 * 4)) + p1)) (cwV 1 hts gX3_recordWord_X2_read rfl rfl rfl (by decide +kernel) ⟨Nat.le_of_ble_eq_true rfl, Nat.le_of_ble_eq_true rfl⟩) (bx_pvr (ci := 2) (q0 := 0) hK hG (hP.sub (ws' := [(f, .inr (2, [.ref w, .int σ.2.1, .int σ.2.2])), (w, .inl (cA, 66, .inl σ.1))]) [1, 2] rfl) rfl rfl) rfl rfl hl.1 rfl (lv_room (Nat.le_of_ble_eq_true rfl)) dX3_recordWord_12 ⟨Nat.zero_le _, Nat.zero_le _⟩) (fun r_1 h_2 => ?_)
  subst h_2
  exact W.iret (v := (F_X2_read σ ((58 + (p0 * 4)) + p1))) hx hb hr (fun t ht hW => ⟨(F_X2_read σ ((58 + (p0 * 4)) + p1)), rfl, rfl, ht⟩) (fun _ h => nomatch h) dX3_recordWord_15
def F_X3_writeRecordWord (σ : FS) (p0 : Int32) (p1 : Int32) (p2 : Int32) : Int32 × (FS) := (match (F_X2_write σ ((58 + (p0 * 4)) + p1) p2) with | (r_3, u_2) => (r_3, u_2))
set_option maxHeartbeats 4000000 in
set_option maxRecDepth 100000 in
theorem c_X3_writeRecordWord (l : Launch) (D : va_G) (cA : ClassId) (s0 f w : Nat) (sz : Nat) (σ : FS) (p0 : Int32) (p1 : Int32) (p2 : Int32) : Met l yX3_writeRecordWord wsX3_writeRecordWord ({ frames := 2, cells := 0, slots := 0, locals := 44 }) (va_Pc [.ref s0, .int p0, .int p1, .int p2] (bx_pre D [(cA, .int)] (wSt cA s0 f w σ) sz)) (va_Qi (fun r u => (r, u) = F_X3_writeRecordWord σ p0 p1 p2 ∧ (r = 0 ∨ r = 1)) (fun u t => bx_at D (wSt cA s0 f w u) (va_A (wSt cA s0 f w σ) sz) t) (va_A (wSt cA s0 f w σ) sz)) 0 0 (va_A (wSt cA s0 f w σ) sz) := by
  refine Met.ofW (cc := cX3_writeRecordWord) (maxL := 4) (ret := (some .boolean)) (by decide) rfl ?_
  intro p e s m args below meth c s₁ B hml hv
  obtain ⟨rfl, hsz, hP, hK, hD0, hG⟩ := hv
  have hx := B.exec
  have hb := B.bytes
  have hr := B.returns
  have hts := atoms_spec (ws := wsX3_writeRecordWord) B.pre
  have hown : s.vm.findClass RX3 = some m.cls := findClass_of_methodNamed B.named
  have hlocks := B.notSynchronized
  subst hsz
  have hD := hD0.self (sz := s.heap.size)
  generalize hAe : va_A (wSt cA s0 f w σ) s.heap.size = A at hD ⊢
  have hA : ∀ q : Nat, s.heap.size ≤ q → A q := fun q h => by rw [← hAe]; exact Or.inr h
  have hS : va_S A s.heap s.heap [] := va_S.rf
  have hD : va_D A [(s0, .inr (3, [.ref f])), (f, .inr (2, [.ref w, .int σ.2.1, .int σ.2.2])), (w, .inl (cA, 66, .inl σ.1))] := hD
  have hP : va_P D vwCl [(s0, .inr (3, [.ref f])), (f, .inr (2, [.ref w, .int σ.2.1, .int σ.2.2])), (w, .inl (cA, 66, .inl σ.1))] s.heap := hP
  have hl := lv_entry ([.ref s0, .int p0, .int p1, .int p2]) (n := 4) (Nat.le_of_ble_eq_true rfl)
  rw [lg_entry_eq]
  generalize (lg_sl ([.ref s0, .int p0, .int p1, .int p2]) ++ List.replicate (4 - (lg_sl ([.ref s0, .int p0, .int p1, .int p2])).length) Slot.unset).toArray = ls at hl ⊢
  have hl : lv_has ls 4 [(0, .ref s0), (1, .int p0), (2, .int p1), (3, .int p2)] := hl
  have hi3 : ∀ w ∈ u_ws RX3 TX3 1, w ∈ wsX3_writeRecordWord := by decide +kernel
  refine lv_aload_n hx hb dX3_writeRecordWord_0 rfl (lv_at hl 0 rfl) ?_
  refine va_get (D := D) (ci := 3) (v := .ref f) (C := RX3) (T := TX3) (N := 1) hx hb hts hi3 hown hK hP 0 rfl rfl 0 (by decide) (hts (.fieldLink RX3 14 "Bootstay$Store" "flash" "LBootstay$Flash;") (by decide +kernel)) (fun _ h9 => h9) rfl dX3_writeRecordWord_1 ?_
  refine lv_bipush (v := 58) hx hb dX3_writeRecordWord_4 (by decide) ?_
  refine lv_iload_n hx hb dX3_writeRecordWord_6 rfl (lv_at hl 1 rfl) ?_
  refine lv_iconst (v := 4) hx hb dX3_writeRecordWord_7 (by decide) ?_
  refine lv_imul hx hb dX3_writeRecordWord_8 ?_
  refine lv_iadd hx hb dX3_writeRecordWord_9 ?_
  refine lv_iload_n hx hb dX3_writeRecordWord_10 rfl (lv_at hl 2 rfl) ?_
  refine lv_iadd hx hb dX3_writeRecordWord_11 ?_
  refine lv_iload_n hx hb dX3_writeRecordWord_12 rfl (lv_at hl 3 rfl) ?_
  refine bx_wi (wc := [(f, .inr (2, [.ref w, .int σ.2.1, .int σ.2.2])), (w, .inl (cA, 66, .inl σ.1))]) (wr := [(s0, .inr (3, [.ref f]))]) (wf := fun (u : (FS)) => [(f, .inr (2, [.ref w, .int u.2.1, .int u.2.2])), (w, .inl (cA, 66, .inl u.1))]) (wn := fun (u : (FS)) => [(s0, .inr (3, [.ref f])), (f, .inr (2, [.ref w, .int u.2.1, .int u.2.2])), (w, .inl (cA, 66, .inl u.1))]) hP hD hS hA [1, 2] [0] [0, 1, 2] rfl rfl (by decide) (by decide) (fun u => rfl) (by decide) (va_runV (As := [.int ((58 + (p0 * 4)) + p1), .int p2]) (rest := []) ⟨hx, hb, hml, hown, hts⟩ (c_X2_write l D cA f w s.heap.size σ ((58 + (p0 * 4)) + p1) p2) (cwV 2 hts gX3_writeRecordWord_X2_write rfl rfl rfl (by decide +kernel) ⟨Nat.le_of_ble_eq_true rfl, Nat.le_of_ble_eq_true rfl⟩) (bx_pv (ci := 2) (q0 := 0) hK hG (hP.sub (ws' := [(f, .inr (2, [.ref w, .int σ.2.1, .int σ.2.2])), (w, .inl (cA, 66, .inl σ.1))]) [1, 2] rfl) (hD.sub (ws' := [(f, .inr (2, [.ref w, .int σ.2.1, .int σ.2.2])), (w, .inl (cA, 66, .inl σ.1))]) [1, 2] (by decide) rfl) rfl rfl) rfl rfl hl.1 rfl (lv_room (Nat.le_of_ble_eq_true rfl)) dX3_writeRecordWord_13 ⟨Nat.zero_le _, Nat.zero_le _⟩) (fun r_3 u_2 H locs h_1 hP hD hS => ?_)
  obtain ⟨h_1, b_5⟩ := h_1
  have hP : va_P D vwCl [(s0, .inr (3, [.ref f])), (f, .inr (2, [.ref w, .int u_2.2.1, .int u_2.2.2])), (w, .inl (cA, 66, .inl u_2.1))] H := hP
  have hD : va_D A [(s0, .inr (3, [.ref f])), (f, .inr (2, [.ref w, .int u_2.2.1, .int u_2.2.2])), (w, .inl (cA, 66, .inl u_2.1))] := hD
  exact W.zret (v := r_3) hx hb hr (bx_nb b_5) (fun t ht hW => ⟨⟨r_3, u_2, rfl, ⟨(by simp only [F_X3_writeRecordWord, ← h_1]), b_5⟩, ⟨by rw [ht]; exact hP, hD⟩⟩, hS.F ht⟩) hS.2.2 dX3_writeRecordWord_16
def F_X3_isRecordValid (σ : FS) (p0 : Int32) : Int32 := (if (F_X3_recordWord σ p0 0) = (F_X3_checkOf (F_X3_recordWord σ p0 1) (F_X3_recordWord σ p0 2) (F_X3_recordWord σ p0 3)) then 1 else 0)
set_option maxHeartbeats 4000000 in
set_option maxRecDepth 100000 in
theorem c_X3_isRecordValid (l : Launch) (D : va_G) (cA : ClassId) (s0 f w : Nat) (σ : FS) (p0 : Int32) : Met l yX3_isRecordValid wsX3_isRecordValid ({ frames := 2, cells := 0, slots := 0, locals := 43 }) (va_Pc [.ref s0, .int p0] (bx_ro D [(cA, .int)] (wSt cA s0 f w σ))) (vp_Si (fun r => r = F_X3_isRecordValid σ p0 ∧ (r = 0 ∨ r = 1))) 0 0 (fun _ => False) := by
  refine Met.ofW (cc := cX3_isRecordValid) (maxL := 2) (ret := (some .boolean)) (by decide) rfl ?_
  intro p e s m args below meth c s₁ B hml hv
  obtain ⟨rfl, hP, hK, hG⟩ := hv
  have hx := B.exec
  have hb := B.bytes
  have hr := B.returns
  have hts := atoms_spec (ws := wsX3_isRecordValid) B.pre
  have hown : s.vm.findClass RX3 = some m.cls := findClass_of_methodNamed B.named
  have hlocks := B.notSynchronized
  have hP : va_P D vwCl [(s0, .inr (3, [.ref f])), (f, .inr (2, [.ref w, .int σ.2.1, .int σ.2.2])), (w, .inl (cA, 66, .inl σ.1))] s.heap := hP
  have hl := lv_entry ([.ref s0, .int p0]) (n := 2) (Nat.le_of_ble_eq_true rfl)
  rw [lg_entry_eq]
  generalize (lg_sl ([.ref s0, .int p0]) ++ List.replicate (2 - (lg_sl ([.ref s0, .int p0])).length) Slot.unset).toArray = ls at hl ⊢
  have hl : lv_has ls 2 [(0, .ref s0), (1, .int p0)] := hl
  refine lv_aload_n hx hb dX3_isRecordValid_0 rfl (lv_at hl 0 rfl) ?_
  refine lv_iload_n hx hb dX3_isRecordValid_1 rfl (lv_at hl 1 rfl) ?_
  refine lv_iconst (v := 0) hx hb dX3_isRecordValid_2 (by decide) ?_
  refine bx_ri (va_runV (As := [.int p0, .int 0]) (rest := []) ⟨hx, hb, hml, hown, hts⟩ (c_X3_recordWord l D cA s0 f w σ p0 0) (cwV 2 hts gX3_isRecordValid_X3_recordWord rfl rfl rfl (by decide +kernel) ⟨Nat.le_of_ble_eq_true rfl, Nat.le_of_ble_eq_true rfl⟩) (bx_pvr (ci := 3) (q0 := 0) hK hG (hP.sub (ws' := [(s0, .inr (3, [.ref f])), (f, .inr (2, [.ref w, .int σ.2.1, .int σ.2.2])), (w, .inl (cA, 66, .inl σ.1))]) [0, 1, 2] rfl) rfl rfl) rfl rfl hl.1 rfl (lv_room (Nat.le_of_ble_eq_true rfl)) dX3_isRecordValid_3 ⟨Nat.zero_le _, Nat.zero_le _⟩) (fun r_1 h_2 => ?_)
  subst h_2
  refine lv_aload_n hx hb dX3_isRecordValid_6 rfl (lv_at hl 0 rfl) ?_
  refine lv_iload_n hx hb dX3_isRecordValid_7 rfl (lv_at hl 1 rfl) ?_
  refine lv_iconst (v := 1) hx hb dX3_isRecordValid_8 (by decide) ?_
  refine bx_ri (va_runV (As := [.int p0, .int 1]) (rest := [.int (F_X3_recordWord σ p0 0)]) ⟨hx, hb, hml, hown, hts⟩ (c_X3_recordWord l D cA s0 f w σ p0 1) (cwV 2 hts gX3_isRecordValid_X3_recordWord rfl rfl rfl (by decide +kernel) ⟨Nat.le_of_ble_eq_true rfl, Nat.le_of_ble_eq_true rfl⟩) (bx_pvr (ci := 3) (q0 := 0) hK hG (hP.sub (ws' := [(s0, .inr (3, [.ref f])), (f, .inr (2, [.ref w, .int σ.2.1, .int σ.2.2])), (w, .inl (cA, 66, .inl σ.1))]) [0, 1, 2] rfl) rfl rfl) rfl rfl hl.1 rfl (lv_room (Nat.le_of_ble_eq_true rfl)) dX3_isRecordValid_9 ⟨Nat.zero_le _, Nat.zero_le _⟩) (fun r_3 h_4 => ?_)
  subst h_4
  refine lv_aload_n hx hb dX3_isRecordValid_12 rfl (lv_at hl 0 rfl) ?_
  refine lv_iload_n hx hb dX3_isRecordValid_13 rfl (lv_at hl 1 rfl) ?_
  refine lv_iconst (v := 2) hx hb dX3_isRecordValid_14 (by decide) ?_
  refine bx_ri (va_runV (As := [.int p0, .int 2]) (rest := [.int (F_X3_recordWord σ p0 1), .int (F_X3_recordWord σ p0 0)]) ⟨hx, hb, hml, hown, hts⟩ (c_X3_recordWord l D cA s0 f w σ p0 2) (cwV 2 hts gX3_isRecordValid_X3_recordWord rfl rfl rfl (by decide +kernel) ⟨Nat.le_of_ble_eq_true rfl, Nat.le_of_ble_eq_true rfl⟩) (bx_pvr (ci := 3) (q0 := 0) hK hG (hP.sub (ws' := [(s0, .inr (3, [.ref f])), (f, .inr (2, [.ref w, .int σ.2.1, .int σ.2.2])), (w, .inl (cA, 66, .inl σ.1))]) [0, 1, 2] rfl) rfl rfl) rfl rfl hl.1 rfl (lv_room (Nat.le_of_ble_eq_true rfl)) dX3_isRecordValid_15 ⟨Nat.zero_le _, Nat.zero_le _⟩) (fun r_5 h_6 => ?_)
  subst h_6
  refine lv_aload_n hx hb dX3_isRecordValid_18 rfl (lv_at hl 0 rfl) ?_
  refine lv_iload_n hx hb dX3_isRecordValid_19 rfl (lv_at hl 1 rfl) ?_
  refine lv_iconst (v := 3) hx hb dX3_isRecordValid_20 (by decide) ?_
  refine bx_ri (va_runV (As := [.int p0, .int 3]) (rest := [.int (F_X3_recordWord σ p0 2), .int (F_X3_recordWord σ p0 1), .int (F_X3_recordWord σ p0 0)]) ⟨hx, hb, hml, hown, hts⟩ (c_X3_recordWord l D cA s0 f w σ p0 3) (cwV 2 hts gX3_isRecordValid_X3_recordWord rfl rfl rfl (by decide +kernel) ⟨Nat.le_of_ble_eq_true rfl, Nat.le_of_ble_eq_true rfl⟩) (bx_pvr (ci := 3) (q0 := 0) hK hG (hP.sub (ws' := [(s0, .inr (3, [.ref f])), (f, .inr (2, [.ref w, .int σ.2.1, .int σ.2.2])), (w, .inl (cA, 66, .inl σ.1))]) [0, 1, 2] rfl) rfl rfl) rfl rfl hl.1 rfl (lv_room (Nat.le_of_ble_eq_true rfl)) dX3_isRecordValid_21 ⟨Nat.zero_le _, Nat.zero_le _⟩) (fun r_7 h_8 => ?_)
  subst h_8
  refine bx_ri (va_runS (As := [.int (F_X3_recordWord σ p0 1), .int (F_X3_recordWord σ p0 2), .int (F_X3_recordWord σ p0 3)]) (rest := [.int (F_X3_recordWord σ p0 0)]) ⟨hx, hb, hml, hown, hts⟩ (c_X3_checkOf l D (F_X3_recordWord σ p0 1) (F_X3_recordWord σ p0 2) (F_X3_recordWord σ p0 3)) (va_cwS 3 hts gX3_isRecordValid_X3_checkOf rfl rfl rfl (by decide +kernel) ⟨Nat.le_of_ble_eq_true rfl, Nat.le_of_ble_eq_true rfl⟩) (bx_psr (hK.sub (tys' := []) [] rfl) hG (hP.sub (ws' := []) [] rfl)) rfl rfl hl.1 rfl (lv_room (Nat.le_of_ble_eq_true rfl)) dX3_isRecordValid_24 ⟨Nat.zero_le _, Nat.zero_le _⟩) (fun r_9 h_10 => ?_)
  subst h_10
  refine lv_icmp_ne (tgt := 34) hx hb dX3_isRecordValid_27 (by decide) (fun c_11 => ?_) (fun c_11 => ?_)
  · skip
    refine lv_iconst (v := 0) hx hb dX3_isRecordValid_34 (by decide) ?_
    exact W.zret (v := 0) hx hb hr rfl (fun t ht hW => ⟨0, rfl, ⟨(by simp only [F_X3_isRecordValid, if_neg c_11]), (by decide)⟩, ht⟩) (fun _ h => nomatch h) dX3_isRecordValid_35
  · skip
    refine lv_iconst (v := 1) hx hb dX3_isRecordValid_30 (by decide) ?_
    refine lv_goto (tgt := 35) hx hb dX3_isRecordValid_31 (by decide) ?_
    exact W.zret (v := 1) hx hb hr rfl (fun t ht hW => ⟨1, rfl, ⟨(by simp only [F_X3_isRecordValid, if_pos c_11]), (by decide)⟩, ht⟩) (fun _ h => nomatch h) dX3_isRecordValid_35
def F_X3_recordInForce (σ : FS) : Int32 := (if (F_X3_isRecordValid σ 1) = 0 then 0 else (if (F_X3_isRecordValid σ 0) = 0 then 1 else (if (F_X3_recordWord σ 1 1) ≤ (F_X3_recordWord σ 0 1) then 0 else 1)))
set_option maxHeartbeats 4000000 in
set_option maxRecDepth 100000 in
theorem c_X3_recordInForce (l : Launch) (D : va_G) (cA : ClassId) (s0 f w : Nat) (σ : FS) : Met l yX3_recordInForce wsX3_recordInForce ({ frames := 3, cells := 0, slots := 0, locals := 64 }) (va_Pc [.ref s0] (bx_ro D [(cA, .int)] (wSt cA s0 f w σ))) (vp_Si (fun r => r = F_X3_recordInForce σ)) 0 0 (fun _ => False) := by
  refine Met.ofW (cc := cX3_recordInForce) (maxL := 1) (ret := (some .int)) (by decide) rfl ?_
  intro p e s m args below meth c s₁ B hml hv
  obtain ⟨rfl, hP, hK, hG⟩ := hv
  have hx := B.exec
  have hb := B.bytes
  have hr := B.returns
  have hts := atoms_spec (ws := wsX3_recordInForce) B.pre
  have hown : s.vm.findClass RX3 = some m.cls := findClass_of_methodNamed B.named
  have hlocks := B.notSynchronized
  have hP : va_P D vwCl [(s0, .inr (3, [.ref f])), (f, .inr (2, [.ref w, .int σ.2.1, .int σ.2.2])), (w, .inl (cA, 66, .inl σ.1))] s.heap := hP
  have hl := lv_entry ([.ref s0]) (n := 1) (Nat.le_of_ble_eq_true rfl)
  rw [lg_entry_eq]
  generalize (lg_sl ([.ref s0]) ++ List.replicate (1 - (lg_sl ([.ref s0])).length) Slot.unset).toArray = ls at hl ⊢
  have hl : lv_has ls 1 [(0, .ref s0)] := hl
  refine lv_aload_n hx hb dX3_recordInForce_0 rfl (lv_at hl 0 rfl) ?_
  refine lv_iconst (v := 1) hx hb dX3_recordInForce_1 (by decide) ?_
  refine bx_ri (va_runV (As := [.int 1]) (rest := []) ⟨hx, hb, hml, hown, hts⟩ (c_X3_isRecordValid l D cA s0 f w σ 1) (cwV 1 hts gX3_recordInForce_X3_isRecordValid rfl rfl rfl (by decide +kernel) ⟨Nat.le_of_ble_eq_true rfl, Nat.le_of_ble_eq_true rfl⟩) (bx_pvr (ci := 3) (q0 := 0) hK hG (hP.sub (ws' := [(s0, .inr (3, [.ref f])), (f, .inr (2, [.ref w, .int σ.2.1, .int σ.2.2])), (w, .inl (cA, 66, .inl σ.1))]) [0, 1, 2] rfl) rfl rfl) rfl rfl hl.1 rfl (lv_room (Nat.le_of_ble_eq_true rfl)) dX3_recordInForce_2 ⟨Nat.zero_le _, Nat.zero_le _⟩) (fun r_1 h_2 => ?_)
  obtain ⟨h_2, b_3⟩ := h_2
  subst h_2
  refine lv_if_ne (tgt := 10) hx hb dX3_recordInForce_5 (by decide) (fun c_4 => ?_) (fun c_4 => ?_)
  · skip
    refine lv_aload_n hx hb dX3_recordInForce_10 rfl (lv_at hl 0 rfl) ?_
    refine lv_iconst (v := 0) hx hb dX3_recordInForce_11 (by decide) ?_
    refine bx_ri (va_runV (As := [.int 0]) (rest := []) ⟨hx, hb, hml, hown, hts⟩ (c_X3_isRecordValid l D cA s0 f w σ 0) (cwV 1 hts gX3_recordInForce_X3_isRecordValid rfl rfl rfl (by decide +kernel) ⟨Nat.le_of_ble_eq_true rfl, Nat.le_of_ble_eq_true rfl⟩) (bx_pvr (ci := 3) (q0 := 0) hK hG (hP.sub (ws' := [(s0, .inr (3, [.ref f])), (f, .inr (2, [.ref w, .int σ.2.1, .int σ.2.2])), (w, .inl (cA, 66, .inl σ.1))]) [0, 1, 2] rfl) rfl rfl) rfl rfl hl.1 rfl (lv_room (Nat.le_of_ble_eq_true rfl)) dX3_recordInForce_12 ⟨Nat.zero_le _, Nat.zero_le _⟩) (fun r_5 h_6 => ?_)
    obtain ⟨h_6, b_7⟩ := h_6
    subst h_6
    refine lv_if_ne (tgt := 20) hx hb dX3_recordInForce_15 (by decide) (fun c_8 => ?_) (fun c_8 => ?_)
    · skip
      refine lv_aload_n hx hb dX3_recordInForce_20 rfl (lv_at hl 0 rfl) ?_
      refine lv_iconst (v := 1) hx hb dX3_recordInForce_21 (by decide) ?_
      refine lv_iconst (v := 1) hx hb dX3_recordInForce_22 (by decide) ?_
      refine bx_ri (va_runV (As := [.int 1, .int 1]) (rest := []) ⟨hx, hb, hml, hown, hts⟩ (c_X3_recordWord l D cA s0 f w σ 1 1) (cwV 2 hts gX3_recordInForce_X3_recordWord rfl rfl rfl (by decide +kernel) ⟨Nat.le_of_ble_eq_true rfl, Nat.le_of_ble_eq_true rfl⟩) (bx_pvr (ci := 3) (q0 := 0) hK hG (hP.sub (ws' := [(s0, .inr (3, [.ref f])), (f, .inr (2, [.ref w, .int σ.2.1, .int σ.2.2])), (w, .inl (cA, 66, .inl σ.1))]) [0, 1, 2] rfl) rfl rfl) rfl rfl hl.1 rfl (lv_room (Nat.le_of_ble_eq_true rfl)) dX3_recordInForce_23 ⟨Nat.zero_le _, Nat.zero_le _⟩) (fun r_9 h_10 => ?_)
      subst h_10
      refine lv_aload_n hx hb dX3_recordInForce_26 rfl (lv_at hl 0 rfl) ?_
      refine lv_iconst (v := 0) hx hb dX3_recordInForce_27 (by decide) ?_
      refine lv_iconst (v := 1) hx hb dX3_recordInForce_28 (by decide) ?_
      refine bx_ri (va_runV (As := [.int 0, .int 1]) (rest := [.int (F_X3_recordWord σ 1 1)]) ⟨hx, hb, hml, hown, hts⟩ (c_X3_recordWord l D cA s0 f w σ 0 1) (cwV 2 hts gX3_recordInForce_X3_recordWord rfl rfl rfl (by decide +kernel) ⟨Nat.le_of_ble_eq_true rfl, Nat.le_of_ble_eq_true rfl⟩) (bx_pvr (ci := 3) (q0 := 0) hK hG (hP.sub (ws' := [(s0, .inr (3, [.ref f])), (f, .inr (2, [.ref w, .int σ.2.1, .int σ.2.2])), (w, .inl (cA, 66, .inl σ.1))]) [0, 1, 2] rfl) rfl rfl) rfl rfl hl.1 rfl (lv_room (Nat.le_of_ble_eq_true rfl)) dX3_recordInForce_29 ⟨Nat.zero_le _, Nat.zero_le _⟩) (fun r_11 h_12 => ?_)
      subst h_12
      refine lv_icmp_le (tgt := 39) hx hb dX3_recordInForce_32 (by decide) (fun c_13 => ?_) (fun c_13 => ?_)
      · skip
        refine lv_iconst (v := 0) hx hb dX3_recordInForce_39 (by decide) ?_
        exact W.iret (v := 0) hx hb hr (fun t ht hW => ⟨0, rfl, (by simp only [F_X3_recordInForce, if_neg c_4, if_neg c_8, if_pos c_13]), ht⟩) (fun _ h => nomatch h) dX3_recordInForce_40
      · skip
        refine lv_iconst (v := 1) hx hb dX3_recordInForce_35 (by decide) ?_
        refine lv_goto (tgt := 40) hx hb dX3_recordInForce_36 (by decide) ?_
        exact W.iret (v := 1) hx hb hr (fun t ht hW => ⟨1, rfl, (by simp only [F_X3_recordInForce, if_neg c_4, if_neg c_8, if_neg c_13]), ht⟩) (fun _ h => nomatch h) dX3_recordInForce_40
    · skip
      refine lv_iconst (v := 1) hx hb dX3_recordInForce_18 (by decide) ?_
      exact W.iret (v := 1) hx hb hr (fun t ht hW => ⟨1, rfl, (by simp only [F_X3_recordInForce, if_neg c_4, if_pos c_8]), ht⟩) (fun _ h => nomatch h) dX3_recordInForce_19
  · skip
    refine lv_iconst (v := 0) hx hb dX3_recordInForce_8 (by decide) ?_
    exact W.iret (v := 0) hx hb hr (fun t ht hW => ⟨0, rfl, (by simp only [F_X3_recordInForce, if_pos c_4]), ht⟩) (fun _ h => nomatch h) dX3_recordInForce_9
def F_X3_recordCounter (σ : FS) : Int32 := (F_X3_recordWord σ (F_X3_recordInForce σ) 3)
set_option maxHeartbeats 4000000 in
set_option maxRecDepth 100000 in
theorem c_X3_recordCounter (l : Launch) (D : va_G) (cA : ClassId) (s0 f w : Nat) (σ : FS) : Met l yX3_recordCounter wsX3_recordCounter ({ frames := 4, cells := 0, slots := 0, locals := 84 }) (va_Pc [.ref s0] (bx_ro D [(cA, .int)] (wSt cA s0 f w σ))) (vp_Si (fun r => r = F_X3_recordCounter σ)) 0 0 (fun _ => False) := by
  refine Met.ofW (cc := cX3_recordCounter) (maxL := 1) (ret := (some .int)) (by decide) rfl ?_
  intro p e s m args below meth c s₁ B hml hv
  obtain ⟨rfl, hP, hK, hG⟩ := hv
  have hx := B.exec
  have hb := B.bytes
  have hr := B.returns
  have hts := atoms_spec (ws := wsX3_recordCounter) B.pre
  have hown : s.vm.findClass RX3 = some m.cls := findClass_of_methodNamed B.named
  have hlocks := B.notSynchronized
  have hP : va_P D vwCl [(s0, .inr (3, [.ref f])), (f, .inr (2, [.ref w, .int σ.2.1, .int σ.2.2])), (w, .inl (cA, 66, .inl σ.1))] s.heap := hP
  have hl := lv_entry ([.ref s0]) (n := 1) (Nat.le_of_ble_eq_true rfl)
  rw [lg_entry_eq]
  generalize (lg_sl ([.ref s0]) ++ List.replicate (1 - (lg_sl ([.ref s0])).length) Slot.unset).toArray = ls at hl ⊢
  have hl : lv_has ls 1 [(0, .ref s0)] := hl
  refine lv_aload_n hx hb dX3_recordCounter_0 rfl (lv_at hl 0 rfl) ?_
  refine lv_aload_n hx hb dX3_recordCounter_1 rfl (lv_at hl 0 rfl) ?_
  refine bx_ri (va_runV (As := []) (rest := [.ref s0]) ⟨hx, hb, hml, hown, hts⟩ (c_X3_recordInForce l D cA s0 f w σ) (cwV 0 hts gX3_recordCounter_X3_recordInForce rfl rfl rfl (by decide +kernel) ⟨Nat.le_of_ble_eq_true rfl, Nat.le_of_ble_eq_true rfl⟩) (bx_pvr (ci := 3) (q0 := 0) hK hG (hP.sub (ws' := [(s0, .inr (3, [.ref f])), (f, .inr (2, [.ref w, .int σ.2.1, .int σ.2.2])), (w, .inl (cA, 66, .inl σ.1))]) [0, 1, 2] rfl) rfl rfl) rfl rfl hl.1 rfl (lv_room (Nat.le_of_ble_eq_true rfl)) dX3_recordCounter_2 ⟨Nat.zero_le _, Nat.zero_le _⟩) (fun r_1 h_2 => ?_)
  subst h_2
  refine lv_iconst (v := 3) hx hb dX3_recordCounter_5 (by decide) ?_
  refine bx_ri (va_runV (As := [.int (F_X3_recordInForce σ), .int 3]) (rest := []) ⟨hx, hb, hml, hown, hts⟩ (c_X3_recordWord l D cA s0 f w σ (F_X3_recordInForce σ) 3) (cwV 2 hts gX3_recordCounter_X3_recordWord rfl rfl rfl (by decide +kernel) ⟨Nat.le_of_ble_eq_true rfl, Nat.le_of_ble_eq_true rfl⟩) (bx_pvr (ci := 3) (q0 := 0) hK hG (hP.sub (ws' := [(s0, .inr (3, [.ref f])), (f, .inr (2, [.ref w, .int σ.2.1, .int σ.2.2])), (w, .inl (cA, 66, .inl σ.1))]) [0, 1, 2] rfl) rfl rfl) rfl rfl hl.1 rfl (lv_room (Nat.le_of_ble_eq_true rfl)) dX3_recordCounter_6 ⟨Nat.zero_le _, Nat.zero_le _⟩) (fun r_3 h_4 => ?_)
  subst h_4
  exact W.iret (v := (F_X3_recordWord σ (F_X3_recordInForce σ) 3)) hx hb hr (fun t ht hW => ⟨(F_X3_recordWord σ (F_X3_recordInForce σ) 3), rfl, rfl, ht⟩) (fun _ h => nomatch h) dX3_recordCounter_9
def F_X3_confirmedIn (p0 : Int32) : Int32 := (p0 &&& 1)
set_option maxHeartbeats 4000000 in
set_option maxRecDepth 100000 in
theorem c_X3_confirmedIn (l : Launch) (D : va_G) (p0 : Int32) : Met l yX3_confirmedIn wsX3_confirmedIn ({ frames := 0, cells := 0, slots := 0, locals := 0 }) (va_Pc [.int p0] (bx_ro D [] (wNil))) (vp_Si (fun r => r = F_X3_confirmedIn p0)) 0 0 (fun _ => False) := by
  refine Met.ofW (cc := cX3_confirmedIn) (maxL := 1) (ret := (some .int)) (by decide) rfl ?_
  intro p e s m args below meth c s₁ B hml hv
  obtain ⟨rfl, hP, hK, hG⟩ := hv
  have hx := B.exec
  have hb := B.bytes
  have hr := B.returns
  have hts := atoms_spec (ws := wsX3_confirmedIn) B.pre
  have hown : s.vm.findClass RX3 = some m.cls := findClass_of_methodNamed B.named
  have hlocks := B.notSynchronized
  have hP : va_P D vwCl [] s.heap := hP
  have hl := lv_entry ([.int p0]) (n := 1) (Nat.le_of_ble_eq_true rfl)
  rw [lg_entry_eq]
  generalize (lg_sl ([.int p0]) ++ List.replicate (1 - (lg_sl ([.int p0])).length) Slot.unset).toArray = ls at hl ⊢
  have hl : lv_has ls 1 [(0, .int p0)] := hl
  refine lv_iload_n hx hb dX3_confirmedIn_0 rfl (lv_at hl 0 rfl) ?_
  refine lv_iconst (v := 1) hx hb dX3_confirmedIn_1 (by decide) ?_
  refine lv_iand hx hb dX3_confirmedIn_2 ?_
  exact W.iret (v := (p0 &&& 1)) hx hb hr (fun t ht hW => ⟨(p0 &&& 1), rfl, rfl, ht⟩) (fun _ h => nomatch h) dX3_confirmedIn_3
def F_X3_isTrialIn (p0 : Int32) : Int32 := (if (p0 &&& 2) = 0 then 0 else 1)
set_option maxHeartbeats 4000000 in
set_option maxRecDepth 100000 in
theorem c_X3_isTrialIn (l : Launch) (D : va_G) (p0 : Int32) : Met l yX3_isTrialIn wsX3_isTrialIn ({ frames := 0, cells := 0, slots := 0, locals := 0 }) (va_Pc [.int p0] (bx_ro D [] (wNil))) (vp_Si (fun r => r = F_X3_isTrialIn p0 ∧ (r = 0 ∨ r = 1))) 0 0 (fun _ => False) := by
  refine Met.ofW (cc := cX3_isTrialIn) (maxL := 1) (ret := (some .boolean)) (by decide) rfl ?_
  intro p e s m args below meth c s₁ B hml hv
  obtain ⟨rfl, hP, hK, hG⟩ := hv
  have hx := B.exec
  have hb := B.bytes
  have hr := B.returns
  have hts := atoms_spec (ws := wsX3_isTrialIn) B.pre
  have hown : s.vm.findClass RX3 = some m.cls := findClass_of_methodNamed B.named
  have hlocks := B.notSynchronized
  have hP : va_P D vwCl [] s.heap := hP
  have hl := lv_entry ([.int p0]) (n := 1) (Nat.le_of_ble_eq_true rfl)
  rw [lg_entry_eq]
  generalize (lg_sl ([.int p0]) ++ List.replicate (1 - (lg_sl ([.int p0])).length) Slot.unset).toArray = ls at hl ⊢
  have hl : lv_has ls 1 [(0, .int p0)] := hl
  refine lv_iload_n hx hb dX3_isTrialIn_0 rfl (lv_at hl 0 rfl) ?_
  refine lv_iconst (v := 2) hx hb dX3_isTrialIn_1 (by decide) ?_
  refine lv_iand hx hb dX3_isTrialIn_2 ?_
  refine lv_if_eq (tgt := 10) hx hb dX3_isTrialIn_3 (by decide) (fun c_1 => ?_) (fun c_1 => ?_)
  · skip
    refine lv_iconst (v := 0) hx hb dX3_isTrialIn_10 (by decide) ?_
    exact W.zret (v := 0) hx hb hr rfl (fun t ht hW => ⟨0, rfl, ⟨(by simp only [F_X3_isTrialIn, if_pos c_1]), (by decide)⟩, ht⟩) (fun _ h => nomatch h) dX3_isTrialIn_11
  · skip
    refine lv_iconst (v := 1) hx hb dX3_isTrialIn_6 (by decide) ?_
    refine lv_goto (tgt := 11) hx hb dX3_isTrialIn_7 (by decide) ?_
    exact W.zret (v := 1) hx hb hr rfl (fun t ht hW => ⟨1, rfl, ⟨(by simp only [F_X3_isTrialIn, if_neg c_1]), (by decide)⟩, ht⟩) (fun _ h => nomatch h) dX3_isTrialIn_11
def F_X3_triesIn (p0 : Int32) : Int32 := (if (F_X3_isTrialIn p0) = 0 then 0 else (p0 >>> (2 &&& 31)))
set_option maxHeartbeats 4000000 in
set_option maxRecDepth 100000 in
theorem c_X3_triesIn (l : Launch) (D : va_G) (p0 : Int32) : Met l yX3_triesIn wsX3_triesIn ({ frames := 1, cells := 0, slots := 0, locals := 20 }) (va_Pc [.int p0] (bx_ro D [] (wNil))) (vp_Si (fun r => r = F_X3_triesIn p0)) 0 0 (fun _ => False) := by
  refine Met.ofW (cc := cX3_triesIn) (maxL := 1) (ret := (some .int)) (by decide) rfl ?_
  intro p e s m args below meth c s₁ B hml hv
  obtain ⟨rfl, hP, hK, hG⟩ := hv
  have hx := B.exec
  have hb := B.bytes
  have hr := B.returns
  have hts := atoms_spec (ws := wsX3_triesIn) B.pre
  have hown : s.vm.findClass RX3 = some m.cls := findClass_of_methodNamed B.named
  have hlocks := B.notSynchronized
  have hP : va_P D vwCl [] s.heap := hP
  have hl := lv_entry ([.int p0]) (n := 1) (Nat.le_of_ble_eq_true rfl)
  rw [lg_entry_eq]
  generalize (lg_sl ([.int p0]) ++ List.replicate (1 - (lg_sl ([.int p0])).length) Slot.unset).toArray = ls at hl ⊢
  have hl : lv_has ls 1 [(0, .int p0)] := hl
  refine lv_iload_n hx hb dX3_triesIn_0 rfl (lv_at hl 0 rfl) ?_
  refine bx_ri (va_runS (As := [.int p0]) (rest := []) ⟨hx, hb, hml, hown, hts⟩ (c_X3_isTrialIn l D p0) (va_cwS 1 hts gX3_triesIn_X3_isTrialIn rfl rfl rfl (by decide +kernel) ⟨Nat.le_of_ble_eq_true rfl, Nat.le_of_ble_eq_true rfl⟩) (bx_psr (hK.sub (tys' := []) [] rfl) hG (hP.sub (ws' := []) [] rfl)) rfl rfl hl.1 rfl (lv_room (Nat.le_of_ble_eq_true rfl)) dX3_triesIn_1 ⟨Nat.zero_le _, Nat.zero_le _⟩) (fun r_1 h_2 => ?_)
  obtain ⟨h_2, b_3⟩ := h_2
  subst h_2
  refine lv_if_eq (tgt := 13) hx hb dX3_triesIn_4 (by decide) (fun c_4 => ?_) (fun c_4 => ?_)
  · skip
    refine lv_iconst (v := 0) hx hb dX3_triesIn_13 (by decide) ?_
    exact W.iret (v := 0) hx hb hr (fun t ht hW => ⟨0, rfl, (by simp only [F_X3_triesIn, if_pos c_4]), ht⟩) (fun _ h => nomatch h) dX3_triesIn_14
  · skip
    refine lv_iload_n hx hb dX3_triesIn_7 rfl (lv_at hl 0 rfl) ?_
    refine lv_iconst (v := 2) hx hb dX3_triesIn_8 (by decide) ?_
    refine lv_ishr hx hb dX3_triesIn_9 ?_
    refine lv_goto (tgt := 14) hx hb dX3_triesIn_10 (by decide) ?_
    exact W.iret (v := (p0 >>> (2 &&& 31))) hx hb hr (fun t ht hW => ⟨(p0 >>> (2 &&& 31)), rfl, (by simp only [F_X3_triesIn, if_neg c_4]), ht⟩) (fun _ h => nomatch h) dX3_triesIn_14
def F_X3_settledState (p0 : Int32) : Int32 := p0
set_option maxHeartbeats 4000000 in
set_option maxRecDepth 100000 in
theorem c_X3_settledState (l : Launch) (D : va_G) (p0 : Int32) : Met l yX3_settledState wsX3_settledState ({ frames := 0, cells := 0, slots := 0, locals := 0 }) (va_Pc [.int p0] (bx_ro D [] (wNil))) (vp_Si (fun r => r = F_X3_settledState p0)) 0 0 (fun _ => False) := by
  refine Met.ofW (cc := cX3_settledState) (maxL := 1) (ret := (some .int)) (by decide) rfl ?_
  intro p e s m args below meth c s₁ B hml hv
  obtain ⟨rfl, hP, hK, hG⟩ := hv
  have hx := B.exec
  have hb := B.bytes
  have hr := B.returns
  have hts := atoms_spec (ws := wsX3_settledState) B.pre
  have hown : s.vm.findClass RX3 = some m.cls := findClass_of_methodNamed B.named
  have hlocks := B.notSynchronized
  have hP : va_P D vwCl [] s.heap := hP
  have hl := lv_entry ([.int p0]) (n := 1) (Nat.le_of_ble_eq_true rfl)
  rw [lg_entry_eq]
  generalize (lg_sl ([.int p0]) ++ List.replicate (1 - (lg_sl ([.int p0])).length) Slot.unset).toArray = ls at hl ⊢
  have hl : lv_has ls 1 [(0, .int p0)] := hl
  refine lv_iload_n hx hb dX3_settledState_0 rfl (lv_at hl 0 rfl) ?_
  exact W.iret (v := p0) hx hb hr (fun t ht hW => ⟨p0, rfl, rfl, ht⟩) (fun _ h => nomatch h) dX3_settledState_1
def F_X3_trialState (p0 : Int32) (p1 : Int32) : Int32 := ((p0 + 2) + (4 * p1))
set_option maxHeartbeats 4000000 in
set_option maxRecDepth 100000 in
theorem c_X3_trialState (l : Launch) (D : va_G) (p0 : Int32) (p1 : Int32) : Met l yX3_trialState wsX3_trialState ({ frames := 0, cells := 0, slots := 0, locals := 0 }) (va_Pc [.int p0, .int p1] (bx_ro D [] (wNil))) (vp_Si (fun r => r = F_X3_trialState p0 p1)) 0 0 (fun _ => False) := by
  refine Met.ofW (cc := cX3_trialState) (maxL := 2) (ret := (some .int)) (by decide) rfl ?_
  intro p e s m args below meth c s₁ B hml hv
  obtain ⟨rfl, hP, hK, hG⟩ := hv
  have hx := B.exec
  have hb := B.bytes
  have hr := B.returns
  have hts := atoms_spec (ws := wsX3_trialState) B.pre
  have hown : s.vm.findClass RX3 = some m.cls := findClass_of_methodNamed B.named
  have hlocks := B.notSynchronized
  have hP : va_P D vwCl [] s.heap := hP
  have hl := lv_entry ([.int p0, .int p1]) (n := 2) (Nat.le_of_ble_eq_true rfl)
  rw [lg_entry_eq]
  generalize (lg_sl ([.int p0, .int p1]) ++ List.replicate (2 - (lg_sl ([.int p0, .int p1])).length) Slot.unset).toArray = ls at hl ⊢
  have hl : lv_has ls 2 [(0, .int p0), (1, .int p1)] := hl
  refine lv_iload_n hx hb dX3_trialState_0 rfl (lv_at hl 0 rfl) ?_
  refine lv_iconst (v := 2) hx hb dX3_trialState_1 (by decide) ?_
  refine lv_iadd hx hb dX3_trialState_2 ?_
  refine lv_iconst (v := 4) hx hb dX3_trialState_3 (by decide) ?_
  refine lv_iload_n hx hb dX3_trialState_4 rfl (lv_at hl 1 rfl) ?_
  refine lv_imul hx hb dX3_trialState_5 ?_
  refine lv_iadd hx hb dX3_trialState_6 ?_
  exact W.iret (v := ((p0 + 2) + (4 * p1))) hx hb hr (fun t ht hW => ⟨((p0 + 2) + (4 * p1)), rfl, rfl, ht⟩) (fun _ h => nomatch h) dX3_trialState_7
def F_X3_confirmedSlot (σ : FS) : Int32 := (F_X3_confirmedIn (F_X3_recordWord σ (F_X3_recordInForce σ) 2))
set_option maxHeartbeats 4000000 in
set_option maxRecDepth 100000 in
theorem c_X3_confirmedSlot (l : Launch) (D : va_G) (cA : ClassId) (s0 f w : Nat) (σ : FS) : Met l yX3_confirmedSlot wsX3_confirmedSlot ({ frames := 4, cells := 0, slots := 0, locals := 84 }) (va_Pc [.ref s0] (bx_ro D [(cA, .int)] (wSt cA s0 f w σ))) (vp_Si (fun r => r = F_X3_confirmedSlot σ)) 0 0 (fun _ => False) := by
  refine Met.ofW (cc := cX3_confirmedSlot) (maxL := 1) (ret := (some .int)) (by decide) rfl ?_
  intro p e s m args below meth c s₁ B hml hv
  obtain ⟨rfl, hP, hK, hG⟩ := hv
  have hx := B.exec
  have hb := B.bytes
  have hr := B.returns
  have hts := atoms_spec (ws := wsX3_confirmedSlot) B.pre
  have hown : s.vm.findClass RX3 = some m.cls := findClass_of_methodNamed B.named
  have hlocks := B.notSynchronized
  have hP : va_P D vwCl [(s0, .inr (3, [.ref f])), (f, .inr (2, [.ref w, .int σ.2.1, .int σ.2.2])), (w, .inl (cA, 66, .inl σ.1))] s.heap := hP
  have hl := lv_entry ([.ref s0]) (n := 1) (Nat.le_of_ble_eq_true rfl)
  rw [lg_entry_eq]
  generalize (lg_sl ([.ref s0]) ++ List.replicate (1 - (lg_sl ([.ref s0])).length) Slot.unset).toArray = ls at hl ⊢
  have hl : lv_has ls 1 [(0, .ref s0)] := hl
  refine lv_aload_n hx hb dX3_confirmedSlot_0 rfl (lv_at hl 0 rfl) ?_
  refine lv_aload_n hx hb dX3_confirmedSlot_1 rfl (lv_at hl 0 rfl) ?_
  refine bx_ri (va_runV (As := []) (rest := [.ref s0]) ⟨hx, hb, hml, hown, hts⟩ (c_X3_recordInForce l D cA s0 f w σ) (cwV 0 hts gX3_confirmedSlot_X3_recordInForce rfl rfl rfl (by decide +kernel) ⟨Nat.le_of_ble_eq_true rfl, Nat.le_of_ble_eq_true rfl⟩) (bx_pvr (ci := 3) (q0 := 0) hK hG (hP.sub (ws' := [(s0, .inr (3, [.ref f])), (f, .inr (2, [.ref w, .int σ.2.1, .int σ.2.2])), (w, .inl (cA, 66, .inl σ.1))]) [0, 1, 2] rfl) rfl rfl) rfl rfl hl.1 rfl (lv_room (Nat.le_of_ble_eq_true rfl)) dX3_confirmedSlot_2 ⟨Nat.zero_le _, Nat.zero_le _⟩) (fun r_1 h_2 => ?_)
  subst h_2
  refine lv_iconst (v := 2) hx hb dX3_confirmedSlot_5 (by decide) ?_
  refine bx_ri (va_runV (As := [.int (F_X3_recordInForce σ), .int 2]) (rest := []) ⟨hx, hb, hml, hown, hts⟩ (c_X3_recordWord l D cA s0 f w σ (F_X3_recordInForce σ) 2) (cwV 2 hts gX3_confirmedSlot_X3_recordWord rfl rfl rfl (by decide +kernel) ⟨Nat.le_of_ble_eq_true rfl, Nat.le_of_ble_eq_true rfl⟩) (bx_pvr (ci := 3) (q0 := 0) hK hG (hP.sub (ws' := [(s0, .inr (3, [.ref f])), (f, .inr (2, [.ref w, .int σ.2.1, .int σ.2.2])), (w, .inl (cA, 66, .inl σ.1))]) [0, 1, 2] rfl) rfl rfl) rfl rfl hl.1 rfl (lv_room (Nat.le_of_ble_eq_true rfl)) dX3_confirmedSlot_6 ⟨Nat.zero_le _, Nat.zero_le _⟩) (fun r_3 h_4 => ?_)
  subst h_4
  refine bx_ri (va_runS (As := [.int (F_X3_recordWord σ (F_X3_recordInForce σ) 2)]) (rest := []) ⟨hx, hb, hml, hown, hts⟩ (c_X3_confirmedIn l D (F_X3_recordWord σ (F_X3_recordInForce σ) 2)) (va_cwS 1 hts gX3_confirmedSlot_X3_confirmedIn rfl rfl rfl (by decide +kernel) ⟨Nat.le_of_ble_eq_true rfl, Nat.le_of_ble_eq_true rfl⟩) (bx_psr (hK.sub (tys' := []) [] rfl) hG (hP.sub (ws' := []) [] rfl)) rfl rfl hl.1 rfl (lv_room (Nat.le_of_ble_eq_true rfl)) dX3_confirmedSlot_9 ⟨Nat.zero_le _, Nat.zero_le _⟩) (fun r_5 h_6 => ?_)
  subst h_6
  exact W.iret (v := (F_X3_confirmedIn (F_X3_recordWord σ (F_X3_recordInForce σ) 2))) hx hb hr (fun t ht hW => ⟨(F_X3_confirmedIn (F_X3_recordWord σ (F_X3_recordInForce σ) 2)), rfl, rfl, ht⟩) (fun _ h => nomatch h) dX3_confirmedSlot_12
def F_X3_isTrialDue (σ : FS) : Int32 := (F_X3_isTrialIn (F_X3_recordWord σ (F_X3_recordInForce σ) 2))
set_option maxHeartbeats 4000000 in
set_option maxRecDepth 100000 in
theorem c_X3_isTrialDue (l : Launch) (D : va_G) (cA : ClassId) (s0 f w : Nat) (σ : FS) : Met l yX3_isTrialDue wsX3_isTrialDue ({ frames := 4, cells := 0, slots := 0, locals := 84 }) (va_Pc [.ref s0] (bx_ro D [(cA, .int)] (wSt cA s0 f w σ))) (vp_Si (fun r => r = F_X3_isTrialDue σ ∧ (r = 0 ∨ r = 1))) 0 0 (fun _ => False) := by
  refine Met.ofW (cc := cX3_isTrialDue) (maxL := 1) (ret := (some .boolean)) (by decide) rfl ?_
  intro p e s m args below meth c s₁ B hml hv
  obtain ⟨rfl, hP, hK, hG⟩ := hv
  have hx := B.exec
  have hb := B.bytes
  have hr := B.returns
  have hts := atoms_spec (ws := wsX3_isTrialDue) B.pre
  have hown : s.vm.findClass RX3 = some m.cls := findClass_of_methodNamed B.named
  have hlocks := B.notSynchronized
  have hP : va_P D vwCl [(s0, .inr (3, [.ref f])), (f, .inr (2, [.ref w, .int σ.2.1, .int σ.2.2])), (w, .inl (cA, 66, .inl σ.1))] s.heap := hP
  have hl := lv_entry ([.ref s0]) (n := 1) (Nat.le_of_ble_eq_true rfl)
  rw [lg_entry_eq]
  generalize (lg_sl ([.ref s0]) ++ List.replicate (1 - (lg_sl ([.ref s0])).length) Slot.unset).toArray = ls at hl ⊢
  have hl : lv_has ls 1 [(0, .ref s0)] := hl
  refine lv_aload_n hx hb dX3_isTrialDue_0 rfl (lv_at hl 0 rfl) ?_
  refine lv_aload_n hx hb dX3_isTrialDue_1 rfl (lv_at hl 0 rfl) ?_
  refine bx_ri (va_runV (As := []) (rest := [.ref s0]) ⟨hx, hb, hml, hown, hts⟩ (c_X3_recordInForce l D cA s0 f w σ) (cwV 0 hts gX3_isTrialDue_X3_recordInForce rfl rfl rfl (by decide +kernel) ⟨Nat.le_of_ble_eq_true rfl, Nat.le_of_ble_eq_true rfl⟩) (bx_pvr (ci := 3) (q0 := 0) hK hG (hP.sub (ws' := [(s0, .inr (3, [.ref f])), (f, .inr (2, [.ref w, .int σ.2.1, .int σ.2.2])), (w, .inl (cA, 66, .inl σ.1))]) [0, 1, 2] rfl) rfl rfl) rfl rfl hl.1 rfl (lv_room (Nat.le_of_ble_eq_true rfl)) dX3_isTrialDue_2 ⟨Nat.zero_le _, Nat.zero_le _⟩) (fun r_1 h_2 => ?_)
  subst h_2
  refine lv_iconst (v := 2) hx hb dX3_isTrialDue_5 (by decide) ?_
  refine bx_ri (va_runV (As := [.int (F_X3_recordInForce σ), .int 2]) (rest := []) ⟨hx, hb, hml, hown, hts⟩ (c_X3_recordWord l D cA s0 f w σ (F_X3_recordInForce σ) 2) (cwV 2 hts gX3_isTrialDue_X3_recordWord rfl rfl rfl (by decide +kernel) ⟨Nat.le_of_ble_eq_true rfl, Nat.le_of_ble_eq_true rfl⟩) (bx_pvr (ci := 3) (q0 := 0) hK hG (hP.sub (ws' := [(s0, .inr (3, [.ref f])), (f, .inr (2, [.ref w, .int σ.2.1, .int σ.2.2])), (w, .inl (cA, 66, .inl σ.1))]) [0, 1, 2] rfl) rfl rfl) rfl rfl hl.1 rfl (lv_room (Nat.le_of_ble_eq_true rfl)) dX3_isTrialDue_6 ⟨Nat.zero_le _, Nat.zero_le _⟩) (fun r_3 h_4 => ?_)
  subst h_4
  refine bx_ri (va_runS (As := [.int (F_X3_recordWord σ (F_X3_recordInForce σ) 2)]) (rest := []) ⟨hx, hb, hml, hown, hts⟩ (c_X3_isTrialIn l D (F_X3_recordWord σ (F_X3_recordInForce σ) 2)) (va_cwS 1 hts gX3_isTrialDue_X3_isTrialIn rfl rfl rfl (by decide +kernel) ⟨Nat.le_of_ble_eq_true rfl, Nat.le_of_ble_eq_true rfl⟩) (bx_psr (hK.sub (tys' := []) [] rfl) hG (hP.sub (ws' := []) [] rfl)) rfl rfl hl.1 rfl (lv_room (Nat.le_of_ble_eq_true rfl)) dX3_isTrialDue_9 ⟨Nat.zero_le _, Nat.zero_le _⟩) (fun r_5 h_6 => ?_)
  obtain ⟨h_6, b_7⟩ := h_6
  subst h_6
  exact W.zret (v := (F_X3_isTrialIn (F_X3_recordWord σ (F_X3_recordInForce σ) 2))) hx hb hr (bx_nb b_7) (fun t ht hW => ⟨(F_X3_isTrialIn (F_X3_recordWord σ (F_X3_recordInForce σ) 2)), rfl, ⟨rfl, b_7⟩, ht⟩) (fun _ h => nomatch h) dX3_isTrialDue_12
def F_X3_triesLeft (σ : FS) : Int32 := (F_X3_triesIn (F_X3_recordWord σ (F_X3_recordInForce σ) 2))
set_option maxHeartbeats 4000000 in
set_option maxRecDepth 100000 in
theorem c_X3_triesLeft (l : Launch) (D : va_G) (cA : ClassId) (s0 f w : Nat) (σ : FS) : Met l yX3_triesLeft wsX3_triesLeft ({ frames := 4, cells := 0, slots := 0, locals := 84 }) (va_Pc [.ref s0] (bx_ro D [(cA, .int)] (wSt cA s0 f w σ))) (vp_Si (fun r => r = F_X3_triesLeft σ)) 0 0 (fun _ => False) := by
  refine Met.ofW (cc := cX3_triesLeft) (maxL := 1) (ret := (some .int)) (by decide) rfl ?_
  intro p e s m args below meth c s₁ B hml hv
  obtain ⟨rfl, hP, hK, hG⟩ := hv
  have hx := B.exec
  have hb := B.bytes
  have hr := B.returns
  have hts := atoms_spec (ws := wsX3_triesLeft) B.pre
  have hown : s.vm.findClass RX3 = some m.cls := findClass_of_methodNamed B.named
  have hlocks := B.notSynchronized
  have hP : va_P D vwCl [(s0, .inr (3, [.ref f])), (f, .inr (2, [.ref w, .int σ.2.1, .int σ.2.2])), (w, .inl (cA, 66, .inl σ.1))] s.heap := hP
  have hl := lv_entry ([.ref s0]) (n := 1) (Nat.le_of_ble_eq_true rfl)
  rw [lg_entry_eq]
  generalize (lg_sl ([.ref s0]) ++ List.replicate (1 - (lg_sl ([.ref s0])).length) Slot.unset).toArray = ls at hl ⊢
  have hl : lv_has ls 1 [(0, .ref s0)] := hl
  refine lv_aload_n hx hb dX3_triesLeft_0 rfl (lv_at hl 0 rfl) ?_
  refine lv_aload_n hx hb dX3_triesLeft_1 rfl (lv_at hl 0 rfl) ?_
  refine bx_ri (va_runV (As := []) (rest := [.ref s0]) ⟨hx, hb, hml, hown, hts⟩ (c_X3_recordInForce l D cA s0 f w σ) (cwV 0 hts gX3_triesLeft_X3_recordInForce rfl rfl rfl (by decide +kernel) ⟨Nat.le_of_ble_eq_true rfl, Nat.le_of_ble_eq_true rfl⟩) (bx_pvr (ci := 3) (q0 := 0) hK hG (hP.sub (ws' := [(s0, .inr (3, [.ref f])), (f, .inr (2, [.ref w, .int σ.2.1, .int σ.2.2])), (w, .inl (cA, 66, .inl σ.1))]) [0, 1, 2] rfl) rfl rfl) rfl rfl hl.1 rfl (lv_room (Nat.le_of_ble_eq_true rfl)) dX3_triesLeft_2 ⟨Nat.zero_le _, Nat.zero_le _⟩) (fun r_1 h_2 => ?_)
  subst h_2
  refine lv_iconst (v := 2) hx hb dX3_triesLeft_5 (by decide) ?_
  refine bx_ri (va_runV (As := [.int (F_X3_recordInForce σ), .int 2]) (rest := []) ⟨hx, hb, hml, hown, hts⟩ (c_X3_recordWord l D cA s0 f w σ (F_X3_recordInForce σ) 2) (cwV 2 hts gX3_triesLeft_X3_recordWord rfl rfl rfl (by decide +kernel) ⟨Nat.le_of_ble_eq_true rfl, Nat.le_of_ble_eq_true rfl⟩) (bx_pvr (ci := 3) (q0 := 0) hK hG (hP.sub (ws' := [(s0, .inr (3, [.ref f])), (f, .inr (2, [.ref w, .int σ.2.1, .int σ.2.2])), (w, .inl (cA, 66, .inl σ.1))]) [0, 1, 2] rfl) rfl rfl) rfl rfl hl.1 rfl (lv_room (Nat.le_of_ble_eq_true rfl)) dX3_triesLeft_6 ⟨Nat.zero_le _, Nat.zero_le _⟩) (fun r_3 h_4 => ?_)
  subst h_4
  refine bx_ri (va_runS (As := [.int (F_X3_recordWord σ (F_X3_recordInForce σ) 2)]) (rest := []) ⟨hx, hb, hml, hown, hts⟩ (c_X3_triesIn l D (F_X3_recordWord σ (F_X3_recordInForce σ) 2)) (va_cwS 1 hts gX3_triesLeft_X3_triesIn rfl rfl rfl (by decide +kernel) ⟨Nat.le_of_ble_eq_true rfl, Nat.le_of_ble_eq_true rfl⟩) (bx_psr (hK.sub (tys' := []) [] rfl) hG (hP.sub (ws' := []) [] rfl)) rfl rfl hl.1 rfl (lv_room (Nat.le_of_ble_eq_true rfl)) dX3_triesLeft_9 ⟨Nat.zero_le _, Nat.zero_le _⟩) (fun r_5 h_6 => ?_)
  subst h_6
  exact W.iret (v := (F_X3_triesIn (F_X3_recordWord σ (F_X3_recordInForce σ) 2))) hx hb hr (fun t ht hW => ⟨(F_X3_triesIn (F_X3_recordWord σ (F_X3_recordInForce σ) 2)), rfl, rfl, ht⟩) (fun _ h => nomatch h) dX3_triesLeft_12
def F_X3_writeRecord (σ : FS) (p0 : Int32) (p1 : Int32) : Int32 × (FS) := (match (F_X3_writeRecordWord σ (1 - (F_X3_recordInForce σ)) 0 0) with | (r_7, u_6) => (if r_7 = 0 then (0, u_6) else (match (F_X3_writeRecordWord u_6 (1 - (F_X3_recordInForce σ)) 1 ((F_X3_recordWord σ (F_X3_recordInForce σ) 1) + 1)) with | (r_13, u_12) => (if r_13 = 0 then (0, u_12) else (match (F_X3_writeRecordWord u_12 (1 - (F_X3_recordInForce σ)) 2 p0) with | (r_19, u_18) => (if r_19 = 0 then (0, u_18) else (match (F_X3_writeRecordWord u_18 (1 - (F_X3_recordInForce σ)) 3 p1) with | (r_25, u_24) => (if r_25 = 0 then (0, u_24) else (match (F_X3_writeRecordWord u_24 (1 - (F_X3_recordInForce σ)) 0 (F_X3_checkOf ((F_X3_recordWord σ (F_X3_recordInForce σ) 1) + 1) p0 p1)) with | (r_33, u_32) => (if r_33 = 0 then (0, u_32) else (1, u_32)))))))))))
set_option maxHeartbeats 4000000 in
set_option maxRecDepth 100000 in
theorem c_X3_writeRecord (l : Launch) (D : va_G) (cA : ClassId) (s0 f w : Nat) (sz : Nat) (σ : FS) (p0 : Int32) (p1 : Int32) : Met l yX3_writeRecord wsX3_writeRecord ({ frames := 4, cells := 0, slots := 0, locals := 84 }) (va_Pc [.ref s0, .int p0, .int p1] (bx_pre D [(cA, .int)] (wSt cA s0 f w σ) sz)) (va_Qi (fun r u => (r, u) = F_X3_writeRecord σ p0 p1 ∧ (r = 0 ∨ r = 1)) (fun u t => bx_at D (wSt cA s0 f w u) (va_A (wSt cA s0 f w σ) sz) t) (va_A (wSt cA s0 f w σ) sz)) 0 0 (va_A (wSt cA s0 f w σ) sz) := by
  refine Met.ofW (cc := cX3_writeRecord) (maxL := 6) (ret := (some .boolean)) (by decide) rfl ?_
  intro p e s m args below meth c s₁ B hml hv
  obtain ⟨rfl, hsz, hP, hK, hD0, hG⟩ := hv
  have hx := B.exec
  have hb := B.bytes
  have hr := B.returns
  have hts := atoms_spec (ws := wsX3_writeRecord) B.pre
  have hown : s.vm.findClass RX3 = some m.cls := findClass_of_methodNamed B.named
  have hlocks := B.notSynchronized
  subst hsz
  have hD := hD0.self (sz := s.heap.size)
  generalize hAe : va_A (wSt cA s0 f w σ) s.heap.size = A at hD ⊢
  have hA : ∀ q : Nat, s.heap.size ≤ q → A q := fun q h => by rw [← hAe]; exact Or.inr h
  have hS : va_S A s.heap s.heap [] := va_S.rf
  have hD : va_D A [(s0, .inr (3, [.ref f])), (f, .inr (2, [.ref w, .int σ.2.1, .int σ.2.2])), (w, .inl (cA, 66, .inl σ.1))] := hD
  have hP : va_P D vwCl [(s0, .inr (3, [.ref f])), (f, .inr (2, [.ref w, .int σ.2.1, .int σ.2.2])), (w, .inl (cA, 66, .inl σ.1))] s.heap := hP
  have hl := lv_entry ([.ref s0, .int p0, .int p1]) (n := 6) (Nat.le_of_ble_eq_true rfl)
  rw [lg_entry_eq]
  generalize (lg_sl ([.ref s0, .int p0, .int p1]) ++ List.replicate (6 - (lg_sl ([.ref s0, .int p0, .int p1])).length) Slot.unset).toArray = ls at hl ⊢
  have hl : lv_has ls 6 [(0, .ref s0), (1, .int p0), (2, .int p1)] := hl
  refine lv_aload_n hx hb dX3_writeRecord_0 rfl (lv_at hl 0 rfl) ?_
  refine bx_ri (va_runV (As := []) (rest := []) ⟨hx, hb, hml, hown, hts⟩ (c_X3_recordInForce l D cA s0 f w σ) (cwV 0 hts gX3_writeRecord_X3_recordInForce rfl rfl rfl (by decide +kernel) ⟨Nat.le_of_ble_eq_true rfl, Nat.le_of_ble_eq_true rfl⟩) (bx_pvr (ci := 3) (q0 := 0) hK hG (hP.sub (ws' := [(s0, .inr (3, [.ref f])), (f, .inr (2, [.ref w, .int σ.2.1, .int σ.2.2])), (w, .inl (cA, 66, .inl σ.1))]) [0, 1, 2] rfl) rfl rfl) rfl rfl hl.1 rfl (lv_room (Nat.le_of_ble_eq_true rfl)) dX3_writeRecord_1 ⟨Nat.zero_le _, Nat.zero_le _⟩) (fun r_1 h_2 => ?_)
  subst h_2
  refine lv_istore_n (lv' := [(3, .int (F_X3_recordInForce σ)), (0, .ref s0), (1, .int p0), (2, .int p1)]) hx hb dX3_writeRecord_4 rfl hl (by decide) rfl (fun ls hl => ?_)
  refine lv_iconst (v := 1) hx hb dX3_writeRecord_5 (by decide) ?_
  refine lv_iload_n hx hb dX3_writeRecord_6 rfl (lv_at hl 0 rfl) ?_
  refine lv_isub hx hb dX3_writeRecord_7 ?_
  refine lv_istore (lv' := [(4, .int (1 - (F_X3_recordInForce σ))), (3, .int (F_X3_recordInForce σ)), (0, .ref s0), (1, .int p0), (2, .int p1)]) hx hb dX3_writeRecord_8 hl (by decide) rfl (fun ls hl => ?_)
  refine lv_aload_n hx hb dX3_writeRecord_10 rfl (lv_at hl 2 rfl) ?_
  refine lv_iload_n hx hb dX3_writeRecord_11 rfl (lv_at hl 1 rfl) ?_
  refine lv_iconst (v := 1) hx hb dX3_writeRecord_12 (by decide) ?_
  refine bx_ri (va_runV (As := [.int (F_X3_recordInForce σ), .int 1]) (rest := []) ⟨hx, hb, hml, hown, hts⟩ (c_X3_recordWord l D cA s0 f w σ (F_X3_recordInForce σ) 1) (cwV 2 hts gX3_writeRecord_X3_recordWord rfl rfl rfl (by decide +kernel) ⟨Nat.le_of_ble_eq_true rfl, Nat.le_of_ble_eq_true rfl⟩) (bx_pvr (ci := 3) (q0 := 0) hK hG (hP.sub (ws' := [(s0, .inr (3, [.ref f])), (f, .inr (2, [.ref w, .int σ.2.1, .int σ.2.2])), (w, .inl (cA, 66, .inl σ.1))]) [0, 1, 2] rfl) rfl rfl) rfl rfl hl.1 rfl (lv_room (Nat.le_of_ble_eq_true rfl)) dX3_writeRecord_13 ⟨Nat.zero_le _, Nat.zero_le _⟩) (fun r_3 h_4 => ?_)
  subst h_4
  refine lv_iconst (v := 1) hx hb dX3_writeRecord_16 (by decide) ?_
  refine lv_iadd hx hb dX3_writeRecord_17 ?_
  refine lv_istore (lv' := [(5, .int ((F_X3_recordWord σ (F_X3_recordInForce σ) 1) + 1)), (4, .int (1 - (F_X3_recordInForce σ))), (3, .int (F_X3_recordInForce σ)), (0, .ref s0), (1, .int p0), (2, .int p1)]) hx hb dX3_writeRecord_18 hl (by decide) rfl (fun ls hl => ?_)
  refine lv_aload_n hx hb dX3_writeRecord_20 rfl (lv_at hl 3 rfl) ?_
  refine lv_iload hx hb dX3_writeRecord_21 (lv_at hl 1 rfl) ?_
  refine lv_iconst (v := 0) hx hb dX3_writeRecord_23 (by decide) ?_
  refine lv_iconst (v := 0) hx hb dX3_writeRecord_24 (by decide) ?_
  refine bx_wi (wc := [(s0, .inr (3, [.ref f])), (f, .inr (2, [.ref w, .int σ.2.1, .int σ.2.2])), (w, .inl (cA, 66, .inl σ.1))]) (wr := []) (wf := fun (u : (FS)) => [(s0, .inr (3, [.ref f])), (f, .inr (2, [.ref w, .int u.2.1, .int u.2.2])), (w, .inl (cA, 66, .inl u.1))]) (wn := fun (u : (FS)) => [(s0, .inr (3, [.ref f])), (f, .inr (2, [.ref w, .int u.2.1, .int u.2.2])), (w, .inl (cA, 66, .inl u.1))]) hP hD hS hA [0, 1, 2] [] [0, 1, 2] rfl rfl (by decide) (by decide) (fun u => rfl) (by decide) (va_runV (As := [.int (1 - (F_X3_recordInForce σ)), .int 0, .int 0]) (rest := []) ⟨hx, hb, hml, hown, hts⟩ (c_X3_writeRecordWord l D cA s0 f w s.heap.size σ (1 - (F_X3_recordInForce σ)) 0 0) (cwV 3 hts gX3_writeRecord_X3_writeRecordWord rfl rfl rfl (by decide +kernel) ⟨Nat.le_of_ble_eq_true rfl, Nat.le_of_ble_eq_true rfl⟩) (bx_pv (ci := 3) (q0 := 0) hK hG (hP.sub (ws' := [(s0, .inr (3, [.ref f])), (f, .inr (2, [.ref w, .int σ.2.1, .int σ.2.2])), (w, .inl (cA, 66, .inl σ.1))]) [0, 1, 2] rfl) (hD.sub (ws' := [(s0, .inr (3, [.ref f])), (f, .inr (2, [.ref w, .int σ.2.1, .int σ.2.2])), (w, .inl (cA, 66, .inl σ.1))]) [0, 1, 2] (by decide) rfl) rfl rfl) rfl rfl hl.1 rfl (lv_room (Nat.le_of_ble_eq_true rfl)) dX3_writeRecord_25 ⟨Nat.zero_le _, Nat.zero_le _⟩) (fun r_7 u_6 H locs h_5 hP hD hS => ?_)
  obtain ⟨h_5, b_9⟩ := h_5
  have hP : va_P D vwCl [(s0, .inr (3, [.ref f])), (f, .inr (2, [.ref w, .int u_6.2.1, .int u_6.2.2])), (w, .inl (cA, 66, .inl u_6.1))] H := hP
  have hD : va_D A [(s0, .inr (3, [.ref f])), (f, .inr (2, [.ref w, .int u_6.2.1, .int u_6.2.2])), (w, .inl (cA, 66, .inl u_6.1))] := hD
  refine lv_if_eq (tgt := 86) hx hb dX3_writeRecord_28 (by decide) (fun c_10 => ?_) (fun c_10 => ?_)
  · skip
    refine lv_iconst (v := 0) hx hb dX3_writeRecord_86 (by decide) ?_
    exact W.zret (v := 0) hx hb hr rfl (fun t ht hW => ⟨⟨0, u_6, rfl, ⟨(by simp only [F_X3_writeRecord, if_pos c_10, ← h_5]), (by decide)⟩, ⟨by rw [ht]; exact hP, hD⟩⟩, hS.F ht⟩) hS.2.2 dX3_writeRecord_87
  · skip
    refine lv_aload_n hx hb dX3_writeRecord_31 rfl (lv_at hl 3 rfl) ?_
    refine lv_iload hx hb dX3_writeRecord_32 (lv_at hl 1 rfl) ?_
    refine lv_iconst (v := 1) hx hb dX3_writeRecord_34 (by decide) ?_
    refine lv_iload hx hb dX3_writeRecord_35 (lv_at hl 0 rfl) ?_
    refine bx_wi (wc := [(s0, .inr (3, [.ref f])), (f, .inr (2, [.ref w, .int u_6.2.1, .int u_6.2.2])), (w, .inl (cA, 66, .inl u_6.1))]) (wr := []) (wf := fun (u : (FS)) => [(s0, .inr (3, [.ref f])), (f, .inr (2, [.ref w, .int u.2.1, .int u.2.2])), (w, .inl (cA, 66, .inl u.1))]) (wn := fun (u : (FS)) => [(s0, .inr (3, [.ref f])), (f, .inr (2, [.ref w, .int u.2.1, .int u.2.2])), (w, .inl (cA, 66, .inl u.1))]) hP hD hS hA [0, 1, 2] [] [0, 1, 2] rfl rfl (by decide) (by decide) (fun u => rfl) (by decide) (va_runV (As := [.int (1 - (F_X3_recordInForce σ)), .int 1, .int ((F_X3_recordWord σ (F_X3_recordInForce σ) 1) + 1)]) (rest := []) ⟨hx, hb, hml, hown, hts⟩ (c_X3_writeRecordWord l D cA s0 f w H.size u_6 (1 - (F_X3_recordInForce σ)) 1 ((F_X3_recordWord σ (F_X3_recordInForce σ) 1) + 1)) (cwV 3 hts gX3_writeRecord_X3_writeRecordWord rfl rfl rfl (by decide +kernel) ⟨Nat.le_of_ble_eq_true rfl, Nat.le_of_ble_eq_true rfl⟩) (bx_pv (ci := 3) (q0 := 0) hK hG (hP.sub (ws' := [(s0, .inr (3, [.ref f])), (f, .inr (2, [.ref w, .int u_6.2.1, .int u_6.2.2])), (w, .inl (cA, 66, .inl u_6.1))]) [0, 1, 2] rfl) (hD.sub (ws' := [(s0, .inr (3, [.ref f])), (f, .inr (2, [.ref w, .int u_6.2.1, .int u_6.2.2])), (w, .inl (cA, 66, .inl u_6.1))]) [0, 1, 2] (by decide) rfl) rfl rfl) rfl rfl hl.1 rfl (lv_room (Nat.le_of_ble_eq_true rfl)) dX3_writeRecord_37 ⟨Nat.zero_le _, Nat.zero_le _⟩) (fun r_13 u_12 H locs h_11 hP hD hS => ?_)
    obtain ⟨h_11, b_15⟩ := h_11
    have hP : va_P D vwCl [(s0, .inr (3, [.ref f])), (f, .inr (2, [.ref w, .int u_12.2.1, .int u_12.2.2])), (w, .inl (cA, 66, .inl u_12.1))] H := hP
    have hD : va_D A [(s0, .inr (3, [.ref f])), (f, .inr (2, [.ref w, .int u_12.2.1, .int u_12.2.2])), (w, .inl (cA, 66, .inl u_12.1))] := hD
    refine lv_if_eq (tgt := 86) hx hb dX3_writeRecord_40 (by decide) (fun c_16 => ?_) (fun c_16 => ?_)
    · skip
      refine lv_iconst (v := 0) hx hb dX3_writeRecord_86 (by decide) ?_
      exact W.zret (v := 0) hx hb hr rfl (fun t ht hW => ⟨⟨0, u_12, rfl, ⟨(by simp only [F_X3_writeRecord, if_neg c_10, if_pos c_16, ← h_5, ← h_11]), (by decide)⟩, ⟨by rw [ht]; exact hP, hD⟩⟩, hS.F ht⟩) hS.2.2 dX3_writeRecord_87
    · skip
      refine lv_aload_n hx hb dX3_writeRecord_43 rfl (lv_at hl 3 rfl) ?_
      refine lv_iload hx hb dX3_writeRecord_44 (lv_at hl 1 rfl) ?_
      refine lv_iconst (v := 2) hx hb dX3_writeRecord_46 (by decide) ?_
      refine lv_iload_n hx hb dX3_writeRecord_47 rfl (lv_at hl 4 rfl) ?_
      refine bx_wi (wc := [(s0, .inr (3, [.ref f])), (f, .inr (2, [.ref w, .int u_12.2.1, .int u_12.2.2])), (w, .inl (cA, 66, .inl u_12.1))]) (wr := []) (wf := fun (u : (FS)) => [(s0, .inr (3, [.ref f])), (f, .inr (2, [.ref w, .int u.2.1, .int u.2.2])), (w, .inl (cA, 66, .inl u.1))]) (wn := fun (u : (FS)) => [(s0, .inr (3, [.ref f])), (f, .inr (2, [.ref w, .int u.2.1, .int u.2.2])), (w, .inl (cA, 66, .inl u.1))]) hP hD hS hA [0, 1, 2] [] [0, 1, 2] rfl rfl (by decide) (by decide) (fun u => rfl) (by decide) (va_runV (As := [.int (1 - (F_X3_recordInForce σ)), .int 2, .int p0]) (rest := []) ⟨hx, hb, hml, hown, hts⟩ (c_X3_writeRecordWord l D cA s0 f w H.size u_12 (1 - (F_X3_recordInForce σ)) 2 p0) (cwV 3 hts gX3_writeRecord_X3_writeRecordWord rfl rfl rfl (by decide +kernel) ⟨Nat.le_of_ble_eq_true rfl, Nat.le_of_ble_eq_true rfl⟩) (bx_pv (ci := 3) (q0 := 0) hK hG (hP.sub (ws' := [(s0, .inr (3, [.ref f])), (f, .inr (2, [.ref w, .int u_12.2.1, .int u_12.2.2])), (w, .inl (cA, 66, .inl u_12.1))]) [0, 1, 2] rfl) (hD.sub (ws' := [(s0, .inr (3, [.ref f])), (f, .inr (2, [.ref w, .int u_12.2.1, .int u_12.2.2])), (w, .inl (cA, 66, .inl u_12.1))]) [0, 1, 2] (by decide) rfl) rfl rfl) rfl rfl hl.1 rfl (lv_room (Nat.le_of_ble_eq_true rfl)) dX3_writeRecord_48 ⟨Nat.zero_le _, Nat.zero_le _⟩) (fun r_19 u_18 H locs h_17 hP hD hS => ?_)
      obtain ⟨h_17, b_21⟩ := h_17
      have hP : va_P D vwCl [(s0, .inr (3, [.ref f])), (f, .inr (2, [.ref w, .int u_18.2.1, .int u_18.2.2])), (w, .inl (cA, 66, .inl u_18.1))] H := hP
      have hD : va_D A [(s0, .inr (3, [.ref f])), (f, .inr (2, [.ref w, .int u_18.2.1, .int u_18.2.2])), (w, .inl (cA, 66, .inl u_18.1))] := hD
      refine lv_if_eq (tgt := 86) hx hb dX3_writeRecord_51 (by decide) (fun c_22 => ?_) (fun c_22 => ?_)
      · skip
        refine lv_iconst (v := 0) hx hb dX3_writeRecord_86 (by decide) ?_
        exact W.zret (v := 0) hx hb hr rfl (fun t ht hW => ⟨⟨0, u_18, rfl, ⟨(by simp only [F_X3_writeRecord, if_neg c_10, if_neg c_16, if_pos c_22, ← h_5, ← h_11, ← h_17]), (by decide)⟩, ⟨by rw [ht]; exact hP, hD⟩⟩, hS.F ht⟩) hS.2.2 dX3_writeRecord_87
      · skip
        refine lv_aload_n hx hb dX3_writeRecord_54 rfl (lv_at hl 3 rfl) ?_
        refine lv_iload hx hb dX3_writeRecord_55 (lv_at hl 1 rfl) ?_
        refine lv_iconst (v := 3) hx hb dX3_writeRecord_57 (by decide) ?_
        refine lv_iload_n hx hb dX3_writeRecord_58 rfl (lv_at hl 5 rfl) ?_
        refine bx_wi (wc := [(s0, .inr (3, [.ref f])), (f, .inr (2, [.ref w, .int u_18.2.1, .int u_18.2.2])), (w, .inl (cA, 66, .inl u_18.1))]) (wr := []) (wf := fun (u : (FS)) => [(s0, .inr (3, [.ref f])), (f, .inr (2, [.ref w, .int u.2.1, .int u.2.2])), (w, .inl (cA, 66, .inl u.1))]) (wn := fun (u : (FS)) => [(s0, .inr (3, [.ref f])), (f, .inr (2, [.ref w, .int u.2.1, .int u.2.2])), (w, .inl (cA, 66, .inl u.1))]) hP hD hS hA [0, 1, 2] [] [0, 1, 2] rfl rfl (by decide) (by decide) (fun u => rfl) (by decide) (va_runV (As := [.int (1 - (F_X3_recordInForce σ)), .int 3, .int p1]) (rest := []) ⟨hx, hb, hml, hown, hts⟩ (c_X3_writeRecordWord l D cA s0 f w H.size u_18 (1 - (F_X3_recordInForce σ)) 3 p1) (cwV 3 hts gX3_writeRecord_X3_writeRecordWord rfl rfl rfl (by decide +kernel) ⟨Nat.le_of_ble_eq_true rfl, Nat.le_of_ble_eq_true rfl⟩) (bx_pv (ci := 3) (q0 := 0) hK hG (hP.sub (ws' := [(s0, .inr (3, [.ref f])), (f, .inr (2, [.ref w, .int u_18.2.1, .int u_18.2.2])), (w, .inl (cA, 66, .inl u_18.1))]) [0, 1, 2] rfl) (hD.sub (ws' := [(s0, .inr (3, [.ref f])), (f, .inr (2, [.ref w, .int u_18.2.1, .int u_18.2.2])), (w, .inl (cA, 66, .inl u_18.1))]) [0, 1, 2] (by decide) rfl) rfl rfl) rfl rfl hl.1 rfl (lv_room (Nat.le_of_ble_eq_true rfl)) dX3_writeRecord_59 ⟨Nat.zero_le _, Nat.zero_le _⟩) (fun r_25 u_24 H locs h_23 hP hD hS => ?_)
        obtain ⟨h_23, b_27⟩ := h_23
        have hP : va_P D vwCl [(s0, .inr (3, [.ref f])), (f, .inr (2, [.ref w, .int u_24.2.1, .int u_24.2.2])), (w, .inl (cA, 66, .inl u_24.1))] H := hP
        have hD : va_D A [(s0, .inr (3, [.ref f])), (f, .inr (2, [.ref w, .int u_24.2.1, .int u_24.2.2])), (w, .inl (cA, 66, .inl u_24.1))] := hD
        refine lv_if_eq (tgt := 86) hx hb dX3_writeRecord_62 (by decide) (fun c_28 => ?_) (fun c_28 => ?_)
        · skip
          refine lv_iconst (v := 0) hx hb dX3_writeRecord_86 (by decide) ?_
          exact W.zret (v := 0) hx hb hr rfl (fun t ht hW => ⟨⟨0, u_24, rfl, ⟨(by simp only [F_X3_writeRecord, if_neg c_10, if_neg c_16, if_neg c_22, if_pos c_28, ← h_5, ← h_11, ← h_17, ← h_23]), (by decide)⟩, ⟨by rw [ht]; exact hP, hD⟩⟩, hS.F ht⟩) hS.2.2 dX3_writeRecord_87
        · skip
          refine lv_aload_n hx hb dX3_writeRecord_65 rfl (lv_at hl 3 rfl) ?_
          refine lv_iload hx hb dX3_writeRecord_66 (lv_at hl 1 rfl) ?_
          refine lv_iconst (v := 0) hx hb dX3_writeRecord_68 (by decide) ?_
          refine lv_iload hx hb dX3_writeRecord_69 (lv_at hl 0 rfl) ?_
          refine lv_iload_n hx hb dX3_writeRecord_71 rfl (lv_at hl 4 rfl) ?_
          refine lv_iload_n hx hb dX3_writeRecord_72 rfl (lv_at hl 5 rfl) ?_
          refine bx_ri (va_runS (As := [.int ((F_X3_recordWord σ (F_X3_recordInForce σ) 1) + 1), .int p0, .int p1]) (rest := [.int 0, .int (1 - (F_X3_recordInForce σ)), .ref s0]) ⟨hx, hb, hml, hown, hts⟩ (c_X3_checkOf l D ((F_X3_recordWord σ (F_X3_recordInForce σ) 1) + 1) p0 p1) (va_cwS 3 hts gX3_writeRecord_X3_checkOf rfl rfl rfl (by decide +kernel) ⟨Nat.le_of_ble_eq_true rfl, Nat.le_of_ble_eq_true rfl⟩) (bx_psr (hK.sub (tys' := []) [] rfl) hG (hP.sub (ws' := []) [] rfl)) rfl rfl hl.1 rfl (lv_room (Nat.le_of_ble_eq_true rfl)) dX3_writeRecord_73 ⟨Nat.zero_le _, Nat.zero_le _⟩) (fun r_29 h_30 => ?_)
          subst h_30
          refine bx_wi (wc := [(s0, .inr (3, [.ref f])), (f, .inr (2, [.ref w, .int u_24.2.1, .int u_24.2.2])), (w, .inl (cA, 66, .inl u_24.1))]) (wr := []) (wf := fun (u : (FS)) => [(s0, .inr (3, [.ref f])), (f, .inr (2, [.ref w, .int u.2.1, .int u.2.2])), (w, .inl (cA, 66, .inl u.1))]) (wn := fun (u : (FS)) => [(s0, .inr (3, [.ref f])), (f, .inr (2, [.ref w, .int u.2.1, .int u.2.2])), (w, .inl (cA, 66, .inl u.1))]) hP hD hS hA [0, 1, 2] [] [0, 1, 2] rfl rfl (by decide) (by decide) (fun u => rfl) (by decide) (va_runV (As := [.int (1 - (F_X3_recordInForce σ)), .int 0, .int (F_X3_checkOf ((F_X3_recordWord σ (F_X3_recordInForce σ) 1) + 1) p0 p1)]) (rest := []) ⟨hx, hb, hml, hown, hts⟩ (c_X3_writeRecordWord l D cA s0 f w H.size u_24 (1 - (F_X3_recordInForce σ)) 0 (F_X3_checkOf ((F_X3_recordWord σ (F_X3_recordInForce σ) 1) + 1) p0 p1)) (cwV 3 hts gX3_writeRecord_X3_writeRecordWord rfl rfl rfl (by decide +kernel) ⟨Nat.le_of_ble_eq_true rfl, Nat.le_of_ble_eq_true rfl⟩) (bx_pv (ci := 3) (q0 := 0) hK hG (hP.sub (ws' := [(s0, .inr (3, [.ref f])), (f, .inr (2, [.ref w, .int u_24.2.1, .int u_24.2.2])), (w, .inl (cA, 66, .inl u_24.1))]) [0, 1, 2] rfl) (hD.sub (ws' := [(s0, .inr (3, [.ref f])), (f, .inr (2, [.ref w, .int u_24.2.1, .int u_24.2.2])), (w, .inl (cA, 66, .inl u_24.1))]) [0, 1, 2] (by decide) rfl) rfl rfl) rfl rfl hl.1 rfl (lv_room (Nat.le_of_ble_eq_true rfl)) dX3_writeRecord_76 ⟨Nat.zero_le _, Nat.zero_le _⟩) (fun r_33 u_32 H locs h_31 hP hD hS => ?_)
          obtain ⟨h_31, b_35⟩ := h_31
          have hP : va_P D vwCl [(s0, .inr (3, [.ref f])), (f, .inr (2, [.ref w, .int u_32.2.1, .int u_32.2.2])), (w, .inl (cA, 66, .inl u_32.1))] H := hP
          have hD : va_D A [(s0, .inr (3, [.ref f])), (f, .inr (2, [.ref w, .int u_32.2.1, .int u_32.2.2])), (w, .inl (cA, 66, .inl u_32.1))] := hD
          refine lv_if_eq (tgt := 86) hx hb dX3_writeRecord_79 (by decide) (fun c_36 => ?_) (fun c_36 => ?_)
          · skip
            refine lv_iconst (v := 0) hx hb dX3_writeRecord_86 (by decide) ?_
            exact W.zret (v := 0) hx hb hr rfl (fun t ht hW => ⟨⟨0, u_32, rfl, ⟨(by simp only [F_X3_writeRecord, if_neg c_10, if_neg c_16, if_neg c_22, if_neg c_28, if_pos c_36, ← h_5, ← h_11, ← h_17, ← h_23, ← h_31]), (by decide)⟩, ⟨by rw [ht]; exact hP, hD⟩⟩, hS.F ht⟩) hS.2.2 dX3_writeRecord_87
          · skip
            refine lv_iconst (v := 1) hx hb dX3_writeRecord_82 (by decide) ?_
            refine lv_goto (tgt := 87) hx hb dX3_writeRecord_83 (by decide) ?_
            exact W.zret (v := 1) hx hb hr rfl (fun t ht hW => ⟨⟨1, u_32, rfl, ⟨(by simp only [F_X3_writeRecord, if_neg c_10, if_neg c_16, if_neg c_22, if_neg c_28, if_neg c_36, ← h_5, ← h_11, ← h_17, ← h_23, ← h_31]), (by decide)⟩, ⟨by rw [ht]; exact hP, hD⟩⟩, hS.F ht⟩) hS.2.2 dX3_writeRecord_87
def F_X3_slotToStart (σ : FS) : Int32 := (if (F_X3_triesIn (F_X3_recordWord σ (F_X3_recordInForce σ) 2)) ≤ 0 then (F_X3_confirmedIn (F_X3_recordWord σ (F_X3_recordInForce σ) 2)) else (if (F_X3_canStart σ (1 - (F_X3_confirmedIn (F_X3_recordWord σ (F_X3_recordInForce σ) 2)))) = 0 then (F_X3_confirmedIn (F_X3_recordWord σ (F_X3_recordInForce σ) 2)) else (if (F_X3_slotWord σ (1 - (F_X3_confirmedIn (F_X3_recordWord σ (F_X3_recordInForce σ) 2))) 4) < (F_X3_recordWord σ (F_X3_recordInForce σ) 3) then (F_X3_confirmedIn (F_X3_recordWord σ (F_X3_recordInForce σ) 2)) else (1 - (F_X3_confirmedIn (F_X3_recordWord σ (F_X3_recordInForce σ) 2))))))
set_option maxHeartbeats 4000000 in
set_option maxRecDepth 100000 in
theorem c_X3_slotToStart (l : Launch) (D : va_G) (cA : ClassId) (s0 f w : Nat) (σ : FS) : Met l yX3_slotToStart wsX3_slotToStart ({ frames := 4, cells := 0, slots := 0, locals := 89 }) (va_Pc [.ref s0] (bx_ro D [(cA, .int)] (wSt cA s0 f w σ))) (vp_Si (fun r => r = F_X3_slotToStart σ)) 0 0 (fun _ => False) := by
  refine Met.ofW (cc := cX3_slotToStart) (maxL := 6) (ret := (some .int)) (by decide) rfl ?_
  intro p e s m args below meth c s₁ B hml hv
  obtain ⟨rfl, hP, hK, hG⟩ := hv
  have hx := B.exec
  have hb := B.bytes
  have hr := B.returns
  have hts := atoms_spec (ws := wsX3_slotToStart) B.pre
  have hown : s.vm.findClass RX3 = some m.cls := findClass_of_methodNamed B.named
  have hlocks := B.notSynchronized
  have hP : va_P D vwCl [(s0, .inr (3, [.ref f])), (f, .inr (2, [.ref w, .int σ.2.1, .int σ.2.2])), (w, .inl (cA, 66, .inl σ.1))] s.heap := hP
  have hl := lv_entry ([.ref s0]) (n := 6) (Nat.le_of_ble_eq_true rfl)
  rw [lg_entry_eq]
  generalize (lg_sl ([.ref s0]) ++ List.replicate (6 - (lg_sl ([.ref s0])).length) Slot.unset).toArray = ls at hl ⊢
  have hl : lv_has ls 6 [(0, .ref s0)] := hl
  refine lv_aload_n hx hb dX3_slotToStart_0 rfl (lv_at hl 0 rfl) ?_
  refine bx_ri (va_runV (As := []) (rest := []) ⟨hx, hb, hml, hown, hts⟩ (c_X3_recordInForce l D cA s0 f w σ) (cwV 0 hts gX3_slotToStart_X3_recordInForce rfl rfl rfl (by decide +kernel) ⟨Nat.le_of_ble_eq_true rfl, Nat.le_of_ble_eq_true rfl⟩) (bx_pvr (ci := 3) (q0 := 0) hK hG (hP.sub (ws' := [(s0, .inr (3, [.ref f])), (f, .inr (2, [.ref w, .int σ.2.1, .int σ.2.2])), (w, .inl (cA, 66, .inl σ.1))]) [0, 1, 2] rfl) rfl rfl) rfl rfl hl.1 rfl (lv_room (Nat.le_of_ble_eq_true rfl)) dX3_slotToStart_1 ⟨Nat.zero_le _, Nat.zero_le _⟩) (fun r_1 h_2 => ?_)
  subst h_2
  refine lv_istore_n (lv' := [(1, .int (F_X3_recordInForce σ)), (0, .ref s0)]) hx hb dX3_slotToStart_4 rfl hl (by decide) rfl (fun ls hl => ?_)
  refine lv_aload_n hx hb dX3_slotToStart_5 rfl (lv_at hl 1 rfl) ?_
  refine lv_iload_n hx hb dX3_slotToStart_6 rfl (lv_at hl 0 rfl) ?_
  refine lv_iconst (v := 2) hx hb dX3_slotToStart_7 (by decide) ?_
  refine bx_ri (va_runV (As := [.int (F_X3_recordInForce σ), .int 2]) (rest := []) ⟨hx, hb, hml, hown, hts⟩ (c_X3_recordWord l D cA s0 f w σ (F_X3_recordInForce σ) 2) (cwV 2 hts gX3_slotToStart_X3_recordWord rfl rfl rfl (by decide +kernel) ⟨Nat.le_of_ble_eq_true rfl, Nat.le_of_ble_eq_true rfl⟩) (bx_pvr (ci := 3) (q0 := 0) hK hG (hP.sub (ws' := [(s0, .inr (3, [.ref f])), (f, .inr (2, [.ref w, .int σ.2.1, .int σ.2.2])), (w, .inl (cA, 66, .inl σ.1))]) [0, 1, 2] rfl) rfl rfl) rfl rfl hl.1 rfl (lv_room (Nat.le_of_ble_eq_true rfl)) dX3_slotToStart_8 ⟨Nat.zero_le _, Nat.zero_le _⟩) (fun r_3 h_4 => ?_)
  subst h_4
  refine lv_istore_n (lv' := [(2, .int (F_X3_recordWord σ (F_X3_recordInForce σ) 2)), (1, .int (F_X3_recordInForce σ)), (0, .ref s0)]) hx hb dX3_slotToStart_11 rfl hl (by decide) rfl (fun ls hl => ?_)
  refine lv_iload_n hx hb dX3_slotToStart_12 rfl (lv_at hl 0 rfl) ?_
  refine bx_ri (va_runS (As := [.int (F_X3_recordWord σ (F_X3_recordInForce σ) 2)]) (rest := []) ⟨hx, hb, hml, hown, hts⟩ (c_X3_confirmedIn l D (F_X3_recordWord σ (F_X3_recordInForce σ) 2)) (va_cwS 1 hts gX3_slotToStart_X3_confirmedIn rfl rfl rfl (by decide +kernel) ⟨Nat.le_of_ble_eq_true rfl, Nat.le_of_ble_eq_true rfl⟩) (bx_psr (hK.sub (tys' := []) [] rfl) hG (hP.sub (ws' := []) [] rfl)) rfl rfl hl.1 rfl (lv_room (Nat.le_of_ble_eq_true rfl)) dX3_slotToStart_13 ⟨Nat.zero_le _, Nat.zero_le _⟩) (fun r_5 h_6 => ?_)
  subst h_6
  refine lv_istore_n (lv' := [(3, .int (F_X3_confirmedIn (F_X3_recordWord σ (F_X3_recordInForce σ) 2))), (2, .int (F_X3_recordWord σ (F_X3_recordInForce σ) 2)), (1, .int (F_X3_recordInForce σ)), (0, .ref s0)]) hx hb dX3_slotToStart_16 rfl hl (by decide) rfl (fun ls hl => ?_)
  refine lv_iconst (v := 1) hx hb dX3_slotToStart_17 (by decide) ?_
  refine lv_iload_n hx hb dX3_slotToStart_18 rfl (lv_at hl 0 rfl) ?_
  refine lv_isub hx hb dX3_slotToStart_19 ?_
  refine lv_istore (lv' := [(4, .int (1 - (F_X3_confirmedIn (F_X3_recordWord σ (F_X3_recordInForce σ) 2)))), (3, .int (F_X3_confirmedIn (F_X3_recordWord σ (F_X3_recordInForce σ) 2))), (2, .int (F_X3_recordWord σ (F_X3_recordInForce σ) 2)), (1, .int (F_X3_recordInForce σ)), (0, .ref s0)]) hx hb dX3_slotToStart_20 hl (by decide) rfl (fun ls hl => ?_)
  refine lv_iload_n hx hb dX3_slotToStart_22 rfl (lv_at hl 2 rfl) ?_
  refine bx_ri (va_runS (As := [.int (F_X3_recordWord σ (F_X3_recordInForce σ) 2)]) (rest := []) ⟨hx, hb, hml, hown, hts⟩ (c_X3_triesIn l D (F_X3_recordWord σ (F_X3_recordInForce σ) 2)) (va_cwS 1 hts gX3_slotToStart_X3_triesIn rfl rfl rfl (by decide +kernel) ⟨Nat.le_of_ble_eq_true rfl, Nat.le_of_ble_eq_true rfl⟩) (bx_psr (hK.sub (tys' := []) [] rfl) hG (hP.sub (ws' := []) [] rfl)) rfl rfl hl.1 rfl (lv_room (Nat.le_of_ble_eq_true rfl)) dX3_slotToStart_23 ⟨Nat.zero_le _, Nat.zero_le _⟩) (fun r_7 h_8 => ?_)
  subst h_8
  refine lv_if_le (tgt := 58) hx hb dX3_slotToStart_26 (by decide) (fun c_9 => ?_) (fun c_9 => ?_)
  · skip
    refine lv_iconst (v := 0) hx hb dX3_slotToStart_58 (by decide) ?_
    refine lv_istore (lv' := [(5, .int 0), (4, .int (1 - (F_X3_confirmedIn (F_X3_recordWord σ (F_X3_recordInForce σ) 2)))), (3, .int (F_X3_confirmedIn (F_X3_recordWord σ (F_X3_recordInForce σ) 2))), (2, .int (F_X3_recordWord σ (F_X3_recordInForce σ) 2)), (1, .int (F_X3_recordInForce σ)), (0, .ref s0)]) hx hb dX3_slotToStart_59 hl (by decide) rfl (fun ls hl => ?_)
    refine lv_iload hx hb dX3_slotToStart_61 (lv_at hl 0 rfl) ?_
    refine lv_if_eq (tgt := 71) hx hb dX3_slotToStart_63 (by decide) (fun c_10 => ?_) (fun c_10 => ?_)
    · skip
      refine lv_iload_n hx hb dX3_slotToStart_71 rfl (lv_at hl 2 rfl) ?_
      exact W.iret (v := (F_X3_confirmedIn (F_X3_recordWord σ (F_X3_recordInForce σ) 2))) hx hb hr (fun t ht hW => ⟨(F_X3_confirmedIn (F_X3_recordWord σ (F_X3_recordInForce σ) 2)), rfl, (by simp only [F_X3_slotToStart, if_pos c_9, if_pos c_10]), ht⟩) (fun _ h => nomatch h) dX3_slotToStart_72
    · skip
      exact absurd (by decide) c_10
  · skip
    refine lv_aload_n hx hb dX3_slotToStart_29 rfl (lv_at hl 4 rfl) ?_
    refine lv_iload hx hb dX3_slotToStart_30 (lv_at hl 0 rfl) ?_
    refine bx_ri (va_runV (As := [.int (1 - (F_X3_confirmedIn (F_X3_recordWord σ (F_X3_recordInForce σ) 2)))]) (rest := []) ⟨hx, hb, hml, hown, hts⟩ (c_X3_canStart l D cA s0 f w σ (1 - (F_X3_confirmedIn (F_X3_recordWord σ (F_X3_recordInForce σ) 2)))) (cwV 1 hts gX3_slotToStart_X3_canStart rfl rfl rfl (by decide +kernel) ⟨Nat.le_of_ble_eq_true rfl, Nat.le_of_ble_eq_true rfl⟩) (bx_pvr (ci := 3) (q0 := 0) hK hG (hP.sub (ws' := [(s0, .inr (3, [.ref f])), (f, .inr (2, [.ref w, .int σ.2.1, .int σ.2.2])), (w, .inl (cA, 66, .inl σ.1))]) [0, 1, 2] rfl) rfl rfl) rfl rfl hl.1 rfl (lv_room (Nat.le_of_ble_eq_true rfl)) dX3_slotToStart_32 ⟨Nat.zero_le _, Nat.zero_le _⟩) (fun r_11 h_12 => ?_)
    obtain ⟨h_12, b_13⟩ := h_12
    subst h_12
    refine lv_if_eq (tgt := 58) hx hb dX3_slotToStart_35 (by decide) (fun c_14 => ?_) (fun c_14 => ?_)
    · skip
      refine lv_iconst (v := 0) hx hb dX3_slotToStart_58 (by decide) ?_
      refine lv_istore (lv' := [(5, .int 0), (4, .int (1 - (F_X3_confirmedIn (F_X3_recordWord σ (F_X3_recordInForce σ) 2)))), (3, .int (F_X3_confirmedIn (F_X3_recordWord σ (F_X3_recordInForce σ) 2))), (2, .int (F_X3_recordWord σ (F_X3_recordInForce σ) 2)), (1, .int (F_X3_recordInForce σ)), (0, .ref s0)]) hx hb dX3_slotToStart_59 hl (by decide) rfl (fun ls hl => ?_)
      refine lv_iload hx hb dX3_slotToStart_61 (lv_at hl 0 rfl) ?_
      refine lv_if_eq (tgt := 71) hx hb dX3_slotToStart_63 (by decide) (fun c_15 => ?_) (fun c_15 => ?_)
      · skip
        refine lv_iload_n hx hb dX3_slotToStart_71 rfl (lv_at hl 2 rfl) ?_
        exact W.iret (v := (F_X3_confirmedIn (F_X3_recordWord σ (F_X3_recordInForce σ) 2))) hx hb hr (fun t ht hW => ⟨(F_X3_confirmedIn (F_X3_recordWord σ (F_X3_recordInForce σ) 2)), rfl, (by simp only [F_X3_slotToStart, if_neg c_9, if_pos c_14, if_pos c_15]), ht⟩) (fun _ h => nomatch h) dX3_slotToStart_72
      · skip
        exact absurd (by decide) c_15
    · skip
      refine lv_aload_n hx hb dX3_slotToStart_38 rfl (lv_at hl 4 rfl) ?_
      refine lv_iload hx hb dX3_slotToStart_39 (lv_at hl 0 rfl) ?_
      refine lv_iconst (v := 4) hx hb dX3_slotToStart_41 (by decide) ?_
      refine bx_ri (va_runV (As := [.int (1 - (F_X3_confirmedIn (F_X3_recordWord σ (F_X3_recordInForce σ) 2))), .int 4]) (rest := []) ⟨hx, hb, hml, hown, hts⟩ (c_X3_slotWord l D cA s0 f w σ (1 - (F_X3_confirmedIn (F_X3_recordWord σ (F_X3_recordInForce σ) 2))) 4) (cwV 2 hts gX3_slotToStart_X3_slotWord rfl rfl rfl (by decide +kernel) ⟨Nat.le_of_ble_eq_true rfl, Nat.le_of_ble_eq_true rfl⟩) (bx_pvr (ci := 3) (q0 := 0) hK hG (hP.sub (ws' := [(s0, .inr (3, [.ref f])), (f, .inr (2, [.ref w, .int σ.2.1, .int σ.2.2])), (w, .inl (cA, 66, .inl σ.1))]) [0, 1, 2] rfl) rfl rfl) rfl rfl hl.1 rfl (lv_room (Nat.le_of_ble_eq_true rfl)) dX3_slotToStart_42 ⟨Nat.zero_le _, Nat.zero_le _⟩) (fun r_16 h_17 => ?_)
      subst h_17
      refine lv_aload_n hx hb dX3_slotToStart_45 rfl (lv_at hl 4 rfl) ?_
      refine lv_iload_n hx hb dX3_slotToStart_46 rfl (lv_at hl 3 rfl) ?_
      refine lv_iconst (v := 3) hx hb dX3_slotToStart_47 (by decide) ?_
      refine bx_ri (va_runV (As := [.int (F_X3_recordInForce σ), .int 3]) (rest := [.int (F_X3_slotWord σ (1 - (F_X3_confirmedIn (F_X3_recordWord σ (F_X3_recordInForce σ) 2))) 4)]) ⟨hx, hb, hml, hown, hts⟩ (c_X3_recordWord l D cA s0 f w σ (F_X3_recordInForce σ) 3) (cwV 2 hts gX3_slotToStart_X3_recordWord rfl rfl rfl (by decide +kernel) ⟨Nat.le_of_ble_eq_true rfl, Nat.le_of_ble_eq_true rfl⟩) (bx_pvr (ci := 3) (q0 := 0) hK hG (hP.sub (ws' := [(s0, .inr (3, [.ref f])), (f, .inr (2, [.ref w, .int σ.2.1, .int σ.2.2])), (w, .inl (cA, 66, .inl σ.1))]) [0, 1, 2] rfl) rfl rfl) rfl rfl hl.1 rfl (lv_room (Nat.le_of_ble_eq_true rfl)) dX3_slotToStart_48 ⟨Nat.zero_le _, Nat.zero_le _⟩) (fun r_18 h_19 => ?_)
      subst h_19
      refine lv_icmp_lt (tgt := 58) hx hb dX3_slotToStart_51 (by decide) (fun c_20 => ?_) (fun c_20 => ?_)
      · skip
        refine lv_iconst (v := 0) hx hb dX3_slotToStart_58 (by decide) ?_
        refine lv_istore (lv' := [(5, .int 0), (4, .int (1 - (F_X3_confirmedIn (F_X3_recordWord σ (F_X3_recordInForce σ) 2)))), (3, .int (F_X3_confirmedIn (F_X3_recordWord σ (F_X3_recordInForce σ) 2))), (2, .int (F_X3_recordWord σ (F_X3_recordInForce σ) 2)), (1, .int (F_X3_recordInForce σ)), (0, .ref s0)]) hx hb dX3_slotToStart_59 hl (by decide) rfl (fun ls hl => ?_)
        refine lv_iload hx hb dX3_slotToStart_61 (lv_at hl 0 rfl) ?_
        refine lv_if_eq (tgt := 71) hx hb dX3_slotToStart_63 (by decide) (fun c_21 => ?_) (fun c_21 => ?_)
        · skip
          refine lv_iload_n hx hb dX3_slotToStart_71 rfl (lv_at hl 2 rfl) ?_
          exact W.iret (v := (F_X3_confirmedIn (F_X3_recordWord σ (F_X3_recordInForce σ) 2))) hx hb hr (fun t ht hW => ⟨(F_X3_confirmedIn (F_X3_recordWord σ (F_X3_recordInForce σ) 2)), rfl, (by simp only [F_X3_slotToStart, if_neg c_9, if_neg c_14, if_pos c_20, if_pos c_21]), ht⟩) (fun _ h => nomatch h) dX3_slotToStart_72
        · skip
          exact absurd (by decide) c_21
      · skip
        refine lv_iconst (v := 1) hx hb dX3_slotToStart_54 (by decide) ?_
        refine lv_goto (tgt := 59) hx hb dX3_slotToStart_55 (by decide) ?_
        refine lv_istore (lv' := [(5, .int 1), (4, .int (1 - (F_X3_confirmedIn (F_X3_recordWord σ (F_X3_recordInForce σ) 2)))), (3, .int (F_X3_confirmedIn (F_X3_recordWord σ (F_X3_recordInForce σ) 2))), (2, .int (F_X3_recordWord σ (F_X3_recordInForce σ) 2)), (1, .int (F_X3_recordInForce σ)), (0, .ref s0)]) hx hb dX3_slotToStart_59 hl (by decide) rfl (fun ls hl => ?_)
        refine lv_iload hx hb dX3_slotToStart_61 (lv_at hl 0 rfl) ?_
        refine lv_if_eq (tgt := 71) hx hb dX3_slotToStart_63 (by decide) (fun c_22 => ?_) (fun c_22 => ?_)
        · skip
          exact absurd c_22 (by decide)
        · skip
          refine lv_iload hx hb dX3_slotToStart_66 (lv_at hl 1 rfl) ?_
          refine lv_goto (tgt := 72) hx hb dX3_slotToStart_68 (by decide) ?_
          exact W.iret (v := (1 - (F_X3_confirmedIn (F_X3_recordWord σ (F_X3_recordInForce σ) 2)))) hx hb hr (fun t ht hW => ⟨(1 - (F_X3_confirmedIn (F_X3_recordWord σ (F_X3_recordInForce σ) 2))), rfl, (by simp only [F_X3_slotToStart, if_neg c_9, if_neg c_14, if_neg c_20, if_neg c_22]), ht⟩) (fun _ h => nomatch h) dX3_slotToStart_72
def F_X3_start (σ : FS) : Int32 × (FS) := (if (F_X3_isTrialDue σ) = 0 then ((F_X3_slotToStart σ), σ) else (if (F_X3_slotToStart σ) = (F_X3_confirmedSlot σ) then (match (F_X3_writeRecord σ (F_X3_settledState (F_X3_confirmedSlot σ)) (F_X3_recordCounter σ)) with | (r_28, u_27) => (if r_28 = 0 then ((-1), u_27) else ((F_X3_slotToStart σ), u_27))) else (match (F_X3_writeRecord σ (F_X3_trialState (F_X3_confirmedSlot σ) ((F_X3_triesLeft σ) - 1)) (F_X3_recordCounter σ)) with | (r_18, u_17) => (if r_18 = 0 then ((-1), u_17) else ((F_X3_slotToStart σ), u_17)))))
set_option maxHeartbeats 4000000 in
set_option maxRecDepth 100000 in
theorem c_X3_start (l : Launch) (D : va_G) (cA : ClassId) (s0 f w : Nat) (sz : Nat) (σ : FS) : Met l yX3_start wsX3_start ({ frames := 5, cells := 0, slots := 0, locals := 114 }) (va_Pc [.ref s0] (bx_pre D [(cA, .int)] (wSt cA s0 f w σ) sz)) (va_Qi (fun r u => (r, u) = F_X3_start σ) (fun u t => bx_at D (wSt cA s0 f w u) (va_A (wSt cA s0 f w σ) sz) t) (va_A (wSt cA s0 f w σ) sz)) 0 0 (va_A (wSt cA s0 f w σ) sz) := by
  refine Met.ofW (cc := cX3_start) (maxL := 4) (ret := (some .int)) (by decide) rfl ?_
  intro p e s m args below meth c s₁ B hml hv
  obtain ⟨rfl, hsz, hP, hK, hD0, hG⟩ := hv
  have hx := B.exec
  have hb := B.bytes
  have hr := B.returns
  have hts := atoms_spec (ws := wsX3_start) B.pre
  have hown : s.vm.findClass RX3 = some m.cls := findClass_of_methodNamed B.named
  have hlocks := B.notSynchronized
  subst hsz
  have hD := hD0.self (sz := s.heap.size)
  generalize hAe : va_A (wSt cA s0 f w σ) s.heap.size = A at hD ⊢
  have hA : ∀ q : Nat, s.heap.size ≤ q → A q := fun q h => by rw [← hAe]; exact Or.inr h
  have hS : va_S A s.heap s.heap [] := va_S.rf
  have hD : va_D A [(s0, .inr (3, [.ref f])), (f, .inr (2, [.ref w, .int σ.2.1, .int σ.2.2])), (w, .inl (cA, 66, .inl σ.1))] := hD
  have hP : va_P D vwCl [(s0, .inr (3, [.ref f])), (f, .inr (2, [.ref w, .int σ.2.1, .int σ.2.2])), (w, .inl (cA, 66, .inl σ.1))] s.heap := hP
  have hl := lv_entry ([.ref s0]) (n := 4) (Nat.le_of_ble_eq_true rfl)
  rw [lg_entry_eq]
  generalize (lg_sl ([.ref s0]) ++ List.replicate (4 - (lg_sl ([.ref s0])).length) Slot.unset).toArray = ls at hl ⊢
  have hl : lv_has ls 4 [(0, .ref s0)] := hl
  refine lv_aload_n hx hb dX3_start_0 rfl (lv_at hl 0 rfl) ?_
  refine bx_ri (va_runV (As := []) (rest := []) ⟨hx, hb, hml, hown, hts⟩ (c_X3_slotToStart l D cA s0 f w σ) (cwV 0 hts gX3_start_X3_slotToStart rfl rfl rfl (by decide +kernel) ⟨Nat.le_of_ble_eq_true rfl, Nat.le_of_ble_eq_true rfl⟩) (bx_pvr (ci := 3) (q0 := 0) hK hG (hP.sub (ws' := [(s0, .inr (3, [.ref f])), (f, .inr (2, [.ref w, .int σ.2.1, .int σ.2.2])), (w, .inl (cA, 66, .inl σ.1))]) [0, 1, 2] rfl) rfl rfl) rfl rfl hl.1 rfl (lv_room (Nat.le_of_ble_eq_true rfl)) dX3_start_1 ⟨Nat.zero_le _, Nat.zero_le _⟩) (fun r_1 h_2 => ?_)
  subst h_2
  refine lv_istore_n (lv' := [(1, .int (F_X3_slotToStart σ)), (0, .ref s0)]) hx hb dX3_start_4 rfl hl (by decide) rfl (fun ls hl => ?_)
  refine lv_aload_n hx hb dX3_start_5 rfl (lv_at hl 1 rfl) ?_
  refine bx_ri (va_runV (As := []) (rest := []) ⟨hx, hb, hml, hown, hts⟩ (c_X3_isTrialDue l D cA s0 f w σ) (cwV 0 hts gX3_start_X3_isTrialDue rfl rfl rfl (by decide +kernel) ⟨Nat.le_of_ble_eq_true rfl, Nat.le_of_ble_eq_true rfl⟩) (bx_pvr (ci := 3) (q0 := 0) hK hG (hP.sub (ws' := [(s0, .inr (3, [.ref f])), (f, .inr (2, [.ref w, .int σ.2.1, .int σ.2.2])), (w, .inl (cA, 66, .inl σ.1))]) [0, 1, 2] rfl) rfl rfl) rfl rfl hl.1 rfl (lv_room (Nat.le_of_ble_eq_true rfl)) dX3_start_6 ⟨Nat.zero_le _, Nat.zero_le _⟩) (fun r_3 h_4 => ?_)
  obtain ⟨h_4, b_5⟩ := h_4
  subst h_4
  refine lv_if_ne (tgt := 14) hx hb dX3_start_9 (by decide) (fun c_6 => ?_) (fun c_6 => ?_)
  · skip
    refine lv_aload_n hx hb dX3_start_14 rfl (lv_at hl 1 rfl) ?_
    refine bx_ri (va_runV (As := []) (rest := []) ⟨hx, hb, hml, hown, hts⟩ (c_X3_confirmedSlot l D cA s0 f w σ) (cwV 0 hts gX3_start_X3_confirmedSlot rfl rfl rfl (by decide +kernel) ⟨Nat.le_of_ble_eq_true rfl, Nat.le_of_ble_eq_true rfl⟩) (bx_pvr (ci := 3) (q0 := 0) hK hG (hP.sub (ws' := [(s0, .inr (3, [.ref f])), (f, .inr (2, [.ref w, .int σ.2.1, .int σ.2.2])), (w, .inl (cA, 66, .inl σ.1))]) [0, 1, 2] rfl) rfl rfl) rfl rfl hl.1 rfl (lv_room (Nat.le_of_ble_eq_true rfl)) dX3_start_15 ⟨Nat.zero_le _, Nat.zero_le _⟩) (fun r_7 h_8 => ?_)
    subst h_8
    refine lv_istore_n (lv' := [(2, .int (F_X3_confirmedSlot σ)), (1, .int (F_X3_slotToStart σ)), (0, .ref s0)]) hx hb dX3_start_18 rfl hl (by decide) rfl (fun ls hl => ?_)
    refine lv_iload_n hx hb dX3_start_19 rfl (lv_at hl 1 rfl) ?_
    refine lv_iload_n hx hb dX3_start_20 rfl (lv_at hl 0 rfl) ?_
    refine lv_icmp_ne (tgt := 31) hx hb dX3_start_21 (by decide) (fun c_9 => ?_) (fun c_9 => ?_)
    · skip
      refine lv_iload_n hx hb dX3_start_31 rfl (lv_at hl 0 rfl) ?_
      refine lv_aload_n hx hb dX3_start_32 rfl (lv_at hl 2 rfl) ?_
      refine bx_ri (va_runV (As := []) (rest := [.int (F_X3_confirmedSlot σ)]) ⟨hx, hb, hml, hown, hts⟩ (c_X3_triesLeft l D cA s0 f w σ) (cwV 0 hts gX3_start_X3_triesLeft rfl rfl rfl (by decide +kernel) ⟨Nat.le_of_ble_eq_true rfl, Nat.le_of_ble_eq_true rfl⟩) (bx_pvr (ci := 3) (q0 := 0) hK hG (hP.sub (ws' := [(s0, .inr (3, [.ref f])), (f, .inr (2, [.ref w, .int σ.2.1, .int σ.2.2])), (w, .inl (cA, 66, .inl σ.1))]) [0, 1, 2] rfl) rfl rfl) rfl rfl hl.1 rfl (lv_room (Nat.le_of_ble_eq_true rfl)) dX3_start_33 ⟨Nat.zero_le _, Nat.zero_le _⟩) (fun r_10 h_11 => ?_)
      subst h_11
      refine lv_iconst (v := 1) hx hb dX3_start_36 (by decide) ?_
      refine lv_isub hx hb dX3_start_37 ?_
      refine bx_ri (va_runS (As := [.int (F_X3_confirmedSlot σ), .int ((F_X3_triesLeft σ) - 1)]) (rest := []) ⟨hx, hb, hml, hown, hts⟩ (c_X3_trialState l D (F_X3_confirmedSlot σ) ((F_X3_triesLeft σ) - 1)) (va_cwS 2 hts gX3_start_X3_trialState rfl rfl rfl (by decide +kernel) ⟨Nat.le_of_ble_eq_true rfl, Nat.le_of_ble_eq_true rfl⟩) (bx_psr (hK.sub (tys' := []) [] rfl) hG (hP.sub (ws' := []) [] rfl)) rfl rfl hl.1 rfl (lv_room (Nat.le_of_ble_eq_true rfl)) dX3_start_38 ⟨Nat.zero_le _, Nat.zero_le _⟩) (fun r_12 h_13 => ?_)
      subst h_13
      refine lv_istore_n (lv' := [(3, .int (F_X3_trialState (F_X3_confirmedSlot σ) ((F_X3_triesLeft σ) - 1))), (2, .int (F_X3_confirmedSlot σ)), (1, .int (F_X3_slotToStart σ)), (0, .ref s0)]) hx hb dX3_start_41 rfl hl (by decide) rfl (fun ls hl => ?_)
      refine lv_aload_n hx hb dX3_start_42 rfl (lv_at hl 3 rfl) ?_
      refine lv_iload_n hx hb dX3_start_43 rfl (lv_at hl 0 rfl) ?_
      refine lv_aload_n hx hb dX3_start_44 rfl (lv_at hl 3 rfl) ?_
      refine bx_ri (va_runV (As := []) (rest := [.int (F_X3_trialState (F_X3_confirmedSlot σ) ((F_X3_triesLeft σ) - 1)), .ref s0]) ⟨hx, hb, hml, hown, hts⟩ (c_X3_recordCounter l D cA s0 f w σ) (cwV 0 hts gX3_start_X3_recordCounter rfl rfl rfl (by decide +kernel) ⟨Nat.le_of_ble_eq_true rfl, Nat.le_of_ble_eq_true rfl⟩) (bx_pvr (ci := 3) (q0 := 0) hK hG (hP.sub (ws' := [(s0, .inr (3, [.ref f])), (f, .inr (2, [.ref w, .int σ.2.1, .int σ.2.2])), (w, .inl (cA, 66, .inl σ.1))]) [0, 1, 2] rfl) rfl rfl) rfl rfl hl.1 rfl (lv_room (Nat.le_of_ble_eq_true rfl)) dX3_start_45 ⟨Nat.zero_le _, Nat.zero_le _⟩) (fun r_14 h_15 => ?_)
      subst h_15
      refine bx_wi (wc := [(s0, .inr (3, [.ref f])), (f, .inr (2, [.ref w, .int σ.2.1, .int σ.2.2])), (w, .inl (cA, 66, .inl σ.1))]) (wr := []) (wf := fun (u : (FS)) => [(s0, .inr (3, [.ref f])), (f, .inr (2, [.ref w, .int u.2.1, .int u.2.2])), (w, .inl (cA, 66, .inl u.1))]) (wn := fun (u : (FS)) => [(s0, .inr (3, [.ref f])), (f, .inr (2, [.ref w, .int u.2.1, .int u.2.2])), (w, .inl (cA, 66, .inl u.1))]) hP hD hS hA [0, 1, 2] [] [0, 1, 2] rfl rfl (by decide) (by decide) (fun u => rfl) (by decide) (va_runV (As := [.int (F_X3_trialState (F_X3_confirmedSlot σ) ((F_X3_triesLeft σ) - 1)), .int (F_X3_recordCounter σ)]) (rest := []) ⟨hx, hb, hml, hown, hts⟩ (c_X3_writeRecord l D cA s0 f w s.heap.size σ (F_X3_trialState (F_X3_confirmedSlot σ) ((F_X3_triesLeft σ) - 1)) (F_X3_recordCounter σ)) (cwV 2 hts gX3_start_X3_writeRecord rfl rfl rfl (by decide +kernel) ⟨Nat.le_of_ble_eq_true rfl, Nat.le_of_ble_eq_true rfl⟩) (bx_pv (ci := 3) (q0 := 0) hK hG (hP.sub (ws' := [(s0, .inr (3, [.ref f])), (f, .inr (2, [.ref w, .int σ.2.1, .int σ.2.2])), (w, .inl (cA, 66, .inl σ.1))]) [0, 1, 2] rfl) (hD.sub (ws' := [(s0, .inr (3, [.ref f])), (f, .inr (2, [.ref w, .int σ.2.1, .int σ.2.2])), (w, .inl (cA, 66, .inl σ.1))]) [0, 1, 2] (by decide) rfl) rfl rfl) rfl rfl hl.1 rfl (lv_room (Nat.le_of_ble_eq_true rfl)) dX3_start_48 ⟨Nat.zero_le _, Nat.zero_le _⟩) (fun r_18 u_17 H locs h_16 hP hD hS => ?_)
      obtain ⟨h_16, b_20⟩ := h_16
      have hP : va_P D vwCl [(s0, .inr (3, [.ref f])), (f, .inr (2, [.ref w, .int u_17.2.1, .int u_17.2.2])), (w, .inl (cA, 66, .inl u_17.1))] H := hP
      have hD : va_D A [(s0, .inr (3, [.ref f])), (f, .inr (2, [.ref w, .int u_17.2.1, .int u_17.2.2])), (w, .inl (cA, 66, .inl u_17.1))] := hD
      refine lv_if_eq (tgt := 58) hx hb dX3_start_51 (by decide) (fun c_21 => ?_) (fun c_21 => ?_)
      · skip
        refine lv_iconst (v := (-1)) hx hb dX3_start_58 (by decide) ?_
        exact W.iret (v := (-1)) hx hb hr (fun t ht hW => ⟨⟨(-1), u_17, rfl, (by simp only [F_X3_start, if_neg c_6, if_neg c_9, if_pos c_21, ← h_16]), ⟨by rw [ht]; exact hP, hD⟩⟩, hS.F ht⟩) hS.2.2 dX3_start_59
      · skip
        refine lv_iload_n hx hb dX3_start_54 rfl (lv_at hl 2 rfl) ?_
        refine lv_goto (tgt := 59) hx hb dX3_start_55 (by decide) ?_
        exact W.iret (v := (F_X3_slotToStart σ)) hx hb hr (fun t ht hW => ⟨⟨(F_X3_slotToStart σ), u_17, rfl, (by simp only [F_X3_start, if_neg c_6, if_neg c_9, if_neg c_21, ← h_16]), ⟨by rw [ht]; exact hP, hD⟩⟩, hS.F ht⟩) hS.2.2 dX3_start_59
    · skip
      refine lv_iload_n hx hb dX3_start_24 rfl (lv_at hl 0 rfl) ?_
      refine bx_ri (va_runS (As := [.int (F_X3_confirmedSlot σ)]) (rest := []) ⟨hx, hb, hml, hown, hts⟩ (c_X3_settledState l D (F_X3_confirmedSlot σ)) (va_cwS 1 hts gX3_start_X3_settledState rfl rfl rfl (by decide +kernel) ⟨Nat.le_of_ble_eq_true rfl, Nat.le_of_ble_eq_true rfl⟩) (bx_psr (hK.sub (tys' := []) [] rfl) hG (hP.sub (ws' := []) [] rfl)) rfl rfl hl.1 rfl (lv_room (Nat.le_of_ble_eq_true rfl)) dX3_start_25 ⟨Nat.zero_le _, Nat.zero_le _⟩) (fun r_22 h_23 => ?_)
      subst h_23
      refine lv_goto (tgt := 41) hx hb dX3_start_28 (by decide) ?_
      refine lv_istore_n (lv' := [(3, .int (F_X3_settledState (F_X3_confirmedSlot σ))), (2, .int (F_X3_confirmedSlot σ)), (1, .int (F_X3_slotToStart σ)), (0, .ref s0)]) hx hb dX3_start_41 rfl hl (by decide) rfl (fun ls hl => ?_)
      refine lv_aload_n hx hb dX3_start_42 rfl (lv_at hl 3 rfl) ?_
      refine lv_iload_n hx hb dX3_start_43 rfl (lv_at hl 0 rfl) ?_
      refine lv_aload_n hx hb dX3_start_44 rfl (lv_at hl 3 rfl) ?_
      refine bx_ri (va_runV (As := []) (rest := [.int (F_X3_settledState (F_X3_confirmedSlot σ)), .ref s0]) ⟨hx, hb, hml, hown, hts⟩ (c_X3_recordCounter l D cA s0 f w σ) (cwV 0 hts gX3_start_X3_recordCounter rfl rfl rfl (by decide +kernel) ⟨Nat.le_of_ble_eq_true rfl, Nat.le_of_ble_eq_true rfl⟩) (bx_pvr (ci := 3) (q0 := 0) hK hG (hP.sub (ws' := [(s0, .inr (3, [.ref f])), (f, .inr (2, [.ref w, .int σ.2.1, .int σ.2.2])), (w, .inl (cA, 66, .inl σ.1))]) [0, 1, 2] rfl) rfl rfl) rfl rfl hl.1 rfl (lv_room (Nat.le_of_ble_eq_true rfl)) dX3_start_45 ⟨Nat.zero_le _, Nat.zero_le _⟩) (fun r_24 h_25 => ?_)
      subst h_25
      refine bx_wi (wc := [(s0, .inr (3, [.ref f])), (f, .inr (2, [.ref w, .int σ.2.1, .int σ.2.2])), (w, .inl (cA, 66, .inl σ.1))]) (wr := []) (wf := fun (u : (FS)) => [(s0, .inr (3, [.ref f])), (f, .inr (2, [.ref w, .int u.2.1, .int u.2.2])), (w, .inl (cA, 66, .inl u.1))]) (wn := fun (u : (FS)) => [(s0, .inr (3, [.ref f])), (f, .inr (2, [.ref w, .int u.2.1, .int u.2.2])), (w, .inl (cA, 66, .inl u.1))]) hP hD hS hA [0, 1, 2] [] [0, 1, 2] rfl rfl (by decide) (by decide) (fun u => rfl) (by decide) (va_runV (As := [.int (F_X3_settledState (F_X3_confirmedSlot σ)), .int (F_X3_recordCounter σ)]) (rest := []) ⟨hx, hb, hml, hown, hts⟩ (c_X3_writeRecord l D cA s0 f w s.heap.size σ (F_X3_settledState (F_X3_confirmedSlot σ)) (F_X3_recordCounter σ)) (cwV 2 hts gX3_start_X3_writeRecord rfl rfl rfl (by decide +kernel) ⟨Nat.le_of_ble_eq_true rfl, Nat.le_of_ble_eq_true rfl⟩) (bx_pv (ci := 3) (q0 := 0) hK hG (hP.sub (ws' := [(s0, .inr (3, [.ref f])), (f, .inr (2, [.ref w, .int σ.2.1, .int σ.2.2])), (w, .inl (cA, 66, .inl σ.1))]) [0, 1, 2] rfl) (hD.sub (ws' := [(s0, .inr (3, [.ref f])), (f, .inr (2, [.ref w, .int σ.2.1, .int σ.2.2])), (w, .inl (cA, 66, .inl σ.1))]) [0, 1, 2] (by decide) rfl) rfl rfl) rfl rfl hl.1 rfl (lv_room (Nat.le_of_ble_eq_true rfl)) dX3_start_48 ⟨Nat.zero_le _, Nat.zero_le _⟩) (fun r_28 u_27 H locs h_26 hP hD hS => ?_)
      obtain ⟨h_26, b_30⟩ := h_26
      have hP : va_P D vwCl [(s0, .inr (3, [.ref f])), (f, .inr (2, [.ref w, .int u_27.2.1, .int u_27.2.2])), (w, .inl (cA, 66, .inl u_27.1))] H := hP
      have hD : va_D A [(s0, .inr (3, [.ref f])), (f, .inr (2, [.ref w, .int u_27.2.1, .int u_27.2.2])), (w, .inl (cA, 66, .inl u_27.1))] := hD
      refine lv_if_eq (tgt := 58) hx hb dX3_start_51 (by decide) (fun c_31 => ?_) (fun c_31 => ?_)
      · skip
        refine lv_iconst (v := (-1)) hx hb dX3_start_58 (by decide) ?_
        exact W.iret (v := (-1)) hx hb hr (fun t ht hW => ⟨⟨(-1), u_27, rfl, (by simp only [F_X3_start, if_neg c_6, if_pos c_9, if_pos c_31, ← h_26]), ⟨by rw [ht]; exact hP, hD⟩⟩, hS.F ht⟩) hS.2.2 dX3_start_59
      · skip
        refine lv_iload_n hx hb dX3_start_54 rfl (lv_at hl 2 rfl) ?_
        refine lv_goto (tgt := 59) hx hb dX3_start_55 (by decide) ?_
        exact W.iret (v := (F_X3_slotToStart σ)) hx hb hr (fun t ht hW => ⟨⟨(F_X3_slotToStart σ), u_27, rfl, (by simp only [F_X3_start, if_neg c_6, if_pos c_9, if_neg c_31, ← h_26]), ⟨by rw [ht]; exact hP, hD⟩⟩, hS.F ht⟩) hS.2.2 dX3_start_59
  · skip
    refine lv_iload_n hx hb dX3_start_12 rfl (lv_at hl 0 rfl) ?_
    exact W.iret (v := (F_X3_slotToStart σ)) hx hb hr (fun t ht hW => ⟨⟨(F_X3_slotToStart σ), σ, rfl, (by simp only [F_X3_start, if_pos c_6]), ⟨by rw [ht]; exact hP, hD⟩⟩, hS.F ht⟩) hS.2.2 dX3_start_13
def F_X3_writeUpdate (σ : FS) (τ : TS) (p0 : Int32) (p1 : Int32) : Int32 × (FS) := (match (F_X3_writeSlotWord σ p0 1 τ.1) with | (r_3, u_2) => (if r_3 = 0 then (0, u_2) else (match (F_X3_writeSlotWord u_2 p0 2 τ.2.1) with | (r_9, u_8) => (if r_9 = 0 then (0, u_8) else (match (F_X3_writeSlotWord u_8 p0 3 τ.2.2.1) with | (r_15, u_14) => (if r_15 = 0 then (0, u_14) else (match (F_X3_writeSlotWord u_14 p0 4 τ.2.2.2.1) with | (r_21, u_20) => (if r_21 = 0 then (0, u_20) else (match (F_X3_writeSlotWord u_20 p0 0 1) with | (r_27, u_26) => (if r_27 = 0 then (0, u_26) else (match (F_X3_writeRecord u_26 (F_X3_trialState (F_X3_confirmedSlot u_26) p1) (F_X3_recordCounter u_26)) with | (r_39, u_38) => (if r_39 = 0 then (0, u_38) else (1, u_38)))))))))))))
set_option maxHeartbeats 4000000 in
set_option maxRecDepth 100000 in
theorem c_X3_writeUpdate (l : Launch) (D : va_G) (cA : ClassId) (s0 f w t0 : Nat) (sz : Nat) (σ : FS) (τ : TS) (p0 : Int32) (p1 : Int32) : Met l yX3_writeUpdate wsX3_writeUpdate ({ frames := 5, cells := 0, slots := 0, locals := 109 }) (va_Pc [.ref s0, .int p0, .ref t0, .int p1] (bx_pre D [(cA, .int)] (wST cA s0 f w t0 σ τ) sz)) (va_Qi (fun r u => (r, u) = F_X3_writeUpdate σ τ p0 p1 ∧ (r = 0 ∨ r = 1)) (fun u t => bx_at D (wST cA s0 f w t0 u τ) (va_A (wST cA s0 f w t0 σ τ) sz) t) (va_A (wST cA s0 f w t0 σ τ) sz)) 0 0 (va_A (wST cA s0 f w t0 σ τ) sz) := by
  refine Met.ofW (cc := cX3_writeUpdate) (maxL := 4) (ret := (some .boolean)) (by decide) rfl ?_
  intro p e s m args below meth c s₁ B hml hv
  obtain ⟨rfl, hsz, hP, hK, hD0, hG⟩ := hv
  have hx := B.exec
  have hb := B.bytes
  have hr := B.returns
  have hts := atoms_spec (ws := wsX3_writeUpdate) B.pre
  have hown : s.vm.findClass RX3 = some m.cls := findClass_of_methodNamed B.named
  have hlocks := B.notSynchronized
  subst hsz
  have hD := hD0.self (sz := s.heap.size)
  generalize hAe : va_A (wST cA s0 f w t0 σ τ) s.heap.size = A at hD ⊢
  have hA : ∀ q : Nat, s.heap.size ≤ q → A q := fun q h => by rw [← hAe]; exact Or.inr h
  have hS : va_S A s.heap s.heap [] := va_S.rf
  have hD : va_D A [(s0, .inr (3, [.ref f])), (f, .inr (2, [.ref w, .int σ.2.1, .int σ.2.2])), (w, .inl (cA, 66, .inl σ.1)), (t0, .inr (4, [.int τ.1, .int τ.2.1, .int τ.2.2.1, .int τ.2.2.2.1, .int τ.2.2.2.2.1, .int τ.2.2.2.2.2]))] := hD
  have hP : va_P D vwCl [(s0, .inr (3, [.ref f])), (f, .inr (2, [.ref w, .int σ.2.1, .int σ.2.2])), (w, .inl (cA, 66, .inl σ.1)), (t0, .inr (4, [.int τ.1, .int τ.2.1, .int τ.2.2.1, .int τ.2.2.2.1, .int τ.2.2.2.2.1, .int τ.2.2.2.2.2]))] s.heap := hP
  have hl := lv_entry ([.ref s0, .int p0, .ref t0, .int p1]) (n := 4) (Nat.le_of_ble_eq_true rfl)
  rw [lg_entry_eq]
  generalize (lg_sl ([.ref s0, .int p0, .ref t0, .int p1]) ++ List.replicate (4 - (lg_sl ([.ref s0, .int p0, .ref t0, .int p1])).length) Slot.unset).toArray = ls at hl ⊢
  have hl : lv_has ls 4 [(0, .ref s0), (1, .int p0), (2, .ref t0), (3, .int p1)] := hl
  have hi4 : ∀ w ∈ u_ws RX4 TX4 6, w ∈ wsX3_writeUpdate := by decide +kernel
  refine lv_aload_n hx hb dX3_writeUpdate_0 rfl (lv_at hl 0 rfl) ?_
  refine lv_iload_n hx hb dX3_writeUpdate_1 rfl (lv_at hl 1 rfl) ?_
  refine lv_iconst (v := 1) hx hb dX3_writeUpdate_2 (by decide) ?_
  refine lv_aload_n hx hb dX3_writeUpdate_3 rfl (lv_at hl 2 rfl) ?_
  refine va_get (D := D) (ci := 4) (v := .int τ.1) (C := RX4) (T := TX4) (N := 6) hx hb hts hi4 hown hK hP 3 rfl rfl 0 (by decide) (hts (.fieldLink RX3 103 "Bootstay$Transfer" "version" "I") (by decide +kernel)) (fun _ h9 => h9) rfl dX3_writeUpdate_4 ?_
  refine bx_wi (wc := [(s0, .inr (3, [.ref f])), (f, .inr (2, [.ref w, .int σ.2.1, .int σ.2.2])), (w, .inl (cA, 66, .inl σ.1))]) (wr := [(t0, .inr (4, [.int τ.1, .int τ.2.1, .int τ.2.2.1, .int τ.2.2.2.1, .int τ.2.2.2.2.1, .int τ.2.2.2.2.2]))]) (wf := fun (u : (FS)) => [(s0, .inr (3, [.ref f])), (f, .inr (2, [.ref w, .int u.2.1, .int u.2.2])), (w, .inl (cA, 66, .inl u.1))]) (wn := fun (u : (FS)) => [(s0, .inr (3, [.ref f])), (f, .inr (2, [.ref w, .int u.2.1, .int u.2.2])), (w, .inl (cA, 66, .inl u.1)), (t0, .inr (4, [.int τ.1, .int τ.2.1, .int τ.2.2.1, .int τ.2.2.2.1, .int τ.2.2.2.2.1, .int τ.2.2.2.2.2]))]) hP hD hS hA [0, 1, 2] [3] [1, 2, 3, 0] rfl rfl (by decide) (by decide) (fun u => rfl) (by decide) (va_runV (As := [.int p0, .int 1, .int τ.1]) (rest := []) ⟨hx, hb, hml, hown, hts⟩ (c_X3_writeSlotWord l D cA s0 f w s.heap.size σ p0 1 τ.1) (cwV 3 hts gX3_writeUpdate_X3_writeSlotWord rfl rfl rfl (by decide +kernel) ⟨Nat.le_of_ble_eq_true rfl, Nat.le_of_ble_eq_true rfl⟩) (bx_pv (ci := 3) (q0 := 0) hK hG (hP.sub (ws' := [(s0, .inr (3, [.ref f])), (f, .inr (2, [.ref w, .int σ.2.1, .int σ.2.2])), (w, .inl (cA, 66, .inl σ.1))]) [0, 1, 2] rfl) (hD.sub (ws' := [(s0, .inr (3, [.ref f])), (f, .inr (2, [.ref w, .int σ.2.1, .int σ.2.2])), (w, .inl (cA, 66, .inl σ.1))]) [0, 1, 2] (by decide) rfl) rfl rfl) rfl rfl hl.1 rfl (lv_room (Nat.le_of_ble_eq_true rfl)) dX3_writeUpdate_7 ⟨Nat.zero_le _, Nat.zero_le _⟩) (fun r_3 u_2 H locs h_1 hP hD hS => ?_)
  obtain ⟨h_1, b_5⟩ := h_1
  have hP : va_P D vwCl [(s0, .inr (3, [.ref f])), (f, .inr (2, [.ref w, .int u_2.2.1, .int u_2.2.2])), (w, .inl (cA, 66, .inl u_2.1)), (t0, .inr (4, [.int τ.1, .int τ.2.1, .int τ.2.2.1, .int τ.2.2.2.1, .int τ.2.2.2.2.1, .int τ.2.2.2.2.2]))] H := hP
  have hD : va_D A [(s0, .inr (3, [.ref f])), (f, .inr (2, [.ref w, .int u_2.2.1, .int u_2.2.2])), (w, .inl (cA, 66, .inl u_2.1)), (t0, .inr (4, [.int τ.1, .int τ.2.1, .int τ.2.2.1, .int τ.2.2.2.1, .int τ.2.2.2.2.1, .int τ.2.2.2.2.2]))] := hD
  refine lv_if_eq (tgt := 85) hx hb dX3_writeUpdate_10 (by decide) (fun c_6 => ?_) (fun c_6 => ?_)
  · skip
    refine lv_iconst (v := 0) hx hb dX3_writeUpdate_85 (by decide) ?_
    exact W.zret (v := 0) hx hb hr rfl (fun t ht hW => ⟨⟨0, u_2, rfl, ⟨(by simp only [F_X3_writeUpdate, if_pos c_6, ← h_1]), (by decide)⟩, ⟨by rw [ht]; exact hP, hD⟩⟩, hS.F ht⟩) hS.2.2 dX3_writeUpdate_86
  · skip
    refine lv_aload_n hx hb dX3_writeUpdate_13 rfl (lv_at hl 0 rfl) ?_
    refine lv_iload_n hx hb dX3_writeUpdate_14 rfl (lv_at hl 1 rfl) ?_
    refine lv_iconst (v := 2) hx hb dX3_writeUpdate_15 (by decide) ?_
    refine lv_aload_n hx hb dX3_writeUpdate_16 rfl (lv_at hl 2 rfl) ?_
    refine va_get (D := D) (ci := 4) (v := .int τ.2.1) (C := RX4) (T := TX4) (N := 6) hx hb hts hi4 hown hK hP 3 rfl rfl 1 (by decide) (hts (.fieldLink RX3 112 "Bootstay$Transfer" "length" "I") (by decide +kernel)) (fun _ h9 => h9) rfl dX3_writeUpdate_17 ?_
    refine bx_wi (wc := [(s0, .inr (3, [.ref f])), (f, .inr (2, [.ref w, .int u_2.2.1, .int u_2.2.2])), (w, .inl (cA, 66, .inl u_2.1))]) (wr := [(t0, .inr (4, [.int τ.1, .int τ.2.1, .int τ.2.2.1, .int τ.2.2.2.1, .int τ.2.2.2.2.1, .int τ.2.2.2.2.2]))]) (wf := fun (u : (FS)) => [(s0, .inr (3, [.ref f])), (f, .inr (2, [.ref w, .int u.2.1, .int u.2.2])), (w, .inl (cA, 66, .inl u.1))]) (wn := fun (u : (FS)) => [(s0, .inr (3, [.ref f])), (f, .inr (2, [.ref w, .int u.2.1, .int u.2.2])), (w, .inl (cA, 66, .inl u.1)), (t0, .inr (4, [.int τ.1, .int τ.2.1, .int τ.2.2.1, .int τ.2.2.2.1, .int τ.2.2.2.2.1, .int τ.2.2.2.2.2]))]) hP hD hS hA [0, 1, 2] [3] [1, 2, 3, 0] rfl rfl (by decide) (by decide) (fun u => rfl) (by decide) (va_runV (As := [.int p0, .int 2, .int τ.2.1]) (rest := []) ⟨hx, hb, hml, hown, hts⟩ (c_X3_writeSlotWord l D cA s0 f w H.size u_2 p0 2 τ.2.1) (cwV 3 hts gX3_writeUpdate_X3_writeSlotWord rfl rfl rfl (by decide +kernel) ⟨Nat.le_of_ble_eq_true rfl, Nat.le_of_ble_eq_true rfl⟩) (bx_pv (ci := 3) (q0 := 0) hK hG (hP.sub (ws' := [(s0, .inr (3, [.ref f])), (f, .inr (2, [.ref w, .int u_2.2.1, .int u_2.2.2])), (w, .inl (cA, 66, .inl u_2.1))]) [0, 1, 2] rfl) (hD.sub (ws' := [(s0, .inr (3, [.ref f])), (f, .inr (2, [.ref w, .int u_2.2.1, .int u_2.2.2])), (w, .inl (cA, 66, .inl u_2.1))]) [0, 1, 2] (by decide) rfl) rfl rfl) rfl rfl hl.1 rfl (lv_room (Nat.le_of_ble_eq_true rfl)) dX3_writeUpdate_20 ⟨Nat.zero_le _, Nat.zero_le _⟩) (fun r_9 u_8 H locs h_7 hP hD hS => ?_)
    obtain ⟨h_7, b_11⟩ := h_7
    have hP : va_P D vwCl [(s0, .inr (3, [.ref f])), (f, .inr (2, [.ref w, .int u_8.2.1, .int u_8.2.2])), (w, .inl (cA, 66, .inl u_8.1)), (t0, .inr (4, [.int τ.1, .int τ.2.1, .int τ.2.2.1, .int τ.2.2.2.1, .int τ.2.2.2.2.1, .int τ.2.2.2.2.2]))] H := hP
    have hD : va_D A [(s0, .inr (3, [.ref f])), (f, .inr (2, [.ref w, .int u_8.2.1, .int u_8.2.2])), (w, .inl (cA, 66, .inl u_8.1)), (t0, .inr (4, [.int τ.1, .int τ.2.1, .int τ.2.2.1, .int τ.2.2.2.1, .int τ.2.2.2.2.1, .int τ.2.2.2.2.2]))] := hD
    refine lv_if_eq (tgt := 85) hx hb dX3_writeUpdate_23 (by decide) (fun c_12 => ?_) (fun c_12 => ?_)
    · skip
      refine lv_iconst (v := 0) hx hb dX3_writeUpdate_85 (by decide) ?_
      exact W.zret (v := 0) hx hb hr rfl (fun t ht hW => ⟨⟨0, u_8, rfl, ⟨(by simp only [F_X3_writeUpdate, if_neg c_6, if_pos c_12, ← h_1, ← h_7]), (by decide)⟩, ⟨by rw [ht]; exact hP, hD⟩⟩, hS.F ht⟩) hS.2.2 dX3_writeUpdate_86
    · skip
      refine lv_aload_n hx hb dX3_writeUpdate_26 rfl (lv_at hl 0 rfl) ?_
      refine lv_iload_n hx hb dX3_writeUpdate_27 rfl (lv_at hl 1 rfl) ?_
      refine lv_iconst (v := 3) hx hb dX3_writeUpdate_28 (by decide) ?_
      refine lv_aload_n hx hb dX3_writeUpdate_29 rfl (lv_at hl 2 rfl) ?_
      refine va_get (D := D) (ci := 4) (v := .int τ.2.2.1) (C := RX4) (T := TX4) (N := 6) hx hb hts hi4 hown hK hP 3 rfl rfl 2 (by decide) (hts (.fieldLink RX3 115 "Bootstay$Transfer" "hash" "I") (by decide +kernel)) (fun _ h9 => h9) rfl dX3_writeUpdate_30 ?_
      refine bx_wi (wc := [(s0, .inr (3, [.ref f])), (f, .inr (2, [.ref w, .int u_8.2.1, .int u_8.2.2])), (w, .inl (cA, 66, .inl u_8.1))]) (wr := [(t0, .inr (4, [.int τ.1, .int τ.2.1, .int τ.2.2.1, .int τ.2.2.2.1, .int τ.2.2.2.2.1, .int τ.2.2.2.2.2]))]) (wf := fun (u : (FS)) => [(s0, .inr (3, [.ref f])), (f, .inr (2, [.ref w, .int u.2.1, .int u.2.2])), (w, .inl (cA, 66, .inl u.1))]) (wn := fun (u : (FS)) => [(s0, .inr (3, [.ref f])), (f, .inr (2, [.ref w, .int u.2.1, .int u.2.2])), (w, .inl (cA, 66, .inl u.1)), (t0, .inr (4, [.int τ.1, .int τ.2.1, .int τ.2.2.1, .int τ.2.2.2.1, .int τ.2.2.2.2.1, .int τ.2.2.2.2.2]))]) hP hD hS hA [0, 1, 2] [3] [1, 2, 3, 0] rfl rfl (by decide) (by decide) (fun u => rfl) (by decide) (va_runV (As := [.int p0, .int 3, .int τ.2.2.1]) (rest := []) ⟨hx, hb, hml, hown, hts⟩ (c_X3_writeSlotWord l D cA s0 f w H.size u_8 p0 3 τ.2.2.1) (cwV 3 hts gX3_writeUpdate_X3_writeSlotWord rfl rfl rfl (by decide +kernel) ⟨Nat.le_of_ble_eq_true rfl, Nat.le_of_ble_eq_true rfl⟩) (bx_pv (ci := 3) (q0 := 0) hK hG (hP.sub (ws' := [(s0, .inr (3, [.ref f])), (f, .inr (2, [.ref w, .int u_8.2.1, .int u_8.2.2])), (w, .inl (cA, 66, .inl u_8.1))]) [0, 1, 2] rfl) (hD.sub (ws' := [(s0, .inr (3, [.ref f])), (f, .inr (2, [.ref w, .int u_8.2.1, .int u_8.2.2])), (w, .inl (cA, 66, .inl u_8.1))]) [0, 1, 2] (by decide) rfl) rfl rfl) rfl rfl hl.1 rfl (lv_room (Nat.le_of_ble_eq_true rfl)) dX3_writeUpdate_33 ⟨Nat.zero_le _, Nat.zero_le _⟩) (fun r_15 u_14 H locs h_13 hP hD hS => ?_)
      obtain ⟨h_13, b_17⟩ := h_13
      have hP : va_P D vwCl [(s0, .inr (3, [.ref f])), (f, .inr (2, [.ref w, .int u_14.2.1, .int u_14.2.2])), (w, .inl (cA, 66, .inl u_14.1)), (t0, .inr (4, [.int τ.1, .int τ.2.1, .int τ.2.2.1, .int τ.2.2.2.1, .int τ.2.2.2.2.1, .int τ.2.2.2.2.2]))] H := hP
      have hD : va_D A [(s0, .inr (3, [.ref f])), (f, .inr (2, [.ref w, .int u_14.2.1, .int u_14.2.2])), (w, .inl (cA, 66, .inl u_14.1)), (t0, .inr (4, [.int τ.1, .int τ.2.1, .int τ.2.2.1, .int τ.2.2.2.1, .int τ.2.2.2.2.1, .int τ.2.2.2.2.2]))] := hD
      refine lv_if_eq (tgt := 85) hx hb dX3_writeUpdate_36 (by decide) (fun c_18 => ?_) (fun c_18 => ?_)
      · skip
        refine lv_iconst (v := 0) hx hb dX3_writeUpdate_85 (by decide) ?_
        exact W.zret (v := 0) hx hb hr rfl (fun t ht hW => ⟨⟨0, u_14, rfl, ⟨(by simp only [F_X3_writeUpdate, if_neg c_6, if_neg c_12, if_pos c_18, ← h_1, ← h_7, ← h_13]), (by decide)⟩, ⟨by rw [ht]; exact hP, hD⟩⟩, hS.F ht⟩) hS.2.2 dX3_writeUpdate_86
      · skip
        refine lv_aload_n hx hb dX3_writeUpdate_39 rfl (lv_at hl 0 rfl) ?_
        refine lv_iload_n hx hb dX3_writeUpdate_40 rfl (lv_at hl 1 rfl) ?_
        refine lv_iconst (v := 4) hx hb dX3_writeUpdate_41 (by decide) ?_
        refine lv_aload_n hx hb dX3_writeUpdate_42 rfl (lv_at hl 2 rfl) ?_
        refine va_get (D := D) (ci := 4) (v := .int τ.2.2.2.1) (C := RX4) (T := TX4) (N := 6) hx hb hts hi4 hown hK hP 3 rfl rfl 3 (by decide) (hts (.fieldLink RX3 118 "Bootstay$Transfer" "counter" "I") (by decide +kernel)) (fun _ h9 => h9) rfl dX3_writeUpdate_43 ?_
        refine bx_wi (wc := [(s0, .inr (3, [.ref f])), (f, .inr (2, [.ref w, .int u_14.2.1, .int u_14.2.2])), (w, .inl (cA, 66, .inl u_14.1))]) (wr := [(t0, .inr (4, [.int τ.1, .int τ.2.1, .int τ.2.2.1, .int τ.2.2.2.1, .int τ.2.2.2.2.1, .int τ.2.2.2.2.2]))]) (wf := fun (u : (FS)) => [(s0, .inr (3, [.ref f])), (f, .inr (2, [.ref w, .int u.2.1, .int u.2.2])), (w, .inl (cA, 66, .inl u.1))]) (wn := fun (u : (FS)) => [(s0, .inr (3, [.ref f])), (f, .inr (2, [.ref w, .int u.2.1, .int u.2.2])), (w, .inl (cA, 66, .inl u.1)), (t0, .inr (4, [.int τ.1, .int τ.2.1, .int τ.2.2.1, .int τ.2.2.2.1, .int τ.2.2.2.2.1, .int τ.2.2.2.2.2]))]) hP hD hS hA [0, 1, 2] [3] [1, 2, 3, 0] rfl rfl (by decide) (by decide) (fun u => rfl) (by decide) (va_runV (As := [.int p0, .int 4, .int τ.2.2.2.1]) (rest := []) ⟨hx, hb, hml, hown, hts⟩ (c_X3_writeSlotWord l D cA s0 f w H.size u_14 p0 4 τ.2.2.2.1) (cwV 3 hts gX3_writeUpdate_X3_writeSlotWord rfl rfl rfl (by decide +kernel) ⟨Nat.le_of_ble_eq_true rfl, Nat.le_of_ble_eq_true rfl⟩) (bx_pv (ci := 3) (q0 := 0) hK hG (hP.sub (ws' := [(s0, .inr (3, [.ref f])), (f, .inr (2, [.ref w, .int u_14.2.1, .int u_14.2.2])), (w, .inl (cA, 66, .inl u_14.1))]) [0, 1, 2] rfl) (hD.sub (ws' := [(s0, .inr (3, [.ref f])), (f, .inr (2, [.ref w, .int u_14.2.1, .int u_14.2.2])), (w, .inl (cA, 66, .inl u_14.1))]) [0, 1, 2] (by decide) rfl) rfl rfl) rfl rfl hl.1 rfl (lv_room (Nat.le_of_ble_eq_true rfl)) dX3_writeUpdate_46 ⟨Nat.zero_le _, Nat.zero_le _⟩) (fun r_21 u_20 H locs h_19 hP hD hS => ?_)
        obtain ⟨h_19, b_23⟩ := h_19
        have hP : va_P D vwCl [(s0, .inr (3, [.ref f])), (f, .inr (2, [.ref w, .int u_20.2.1, .int u_20.2.2])), (w, .inl (cA, 66, .inl u_20.1)), (t0, .inr (4, [.int τ.1, .int τ.2.1, .int τ.2.2.1, .int τ.2.2.2.1, .int τ.2.2.2.2.1, .int τ.2.2.2.2.2]))] H := hP
        have hD : va_D A [(s0, .inr (3, [.ref f])), (f, .inr (2, [.ref w, .int u_20.2.1, .int u_20.2.2])), (w, .inl (cA, 66, .inl u_20.1)), (t0, .inr (4, [.int τ.1, .int τ.2.1, .int τ.2.2.1, .int τ.2.2.2.1, .int τ.2.2.2.2.1, .int τ.2.2.2.2.2]))] := hD
        refine lv_if_eq (tgt := 85) hx hb dX3_writeUpdate_49 (by decide) (fun c_24 => ?_) (fun c_24 => ?_)
        · skip
          refine lv_iconst (v := 0) hx hb dX3_writeUpdate_85 (by decide) ?_
          exact W.zret (v := 0) hx hb hr rfl (fun t ht hW => ⟨⟨0, u_20, rfl, ⟨(by simp only [F_X3_writeUpdate, if_neg c_6, if_neg c_12, if_neg c_18, if_pos c_24, ← h_1, ← h_7, ← h_13, ← h_19]), (by decide)⟩, ⟨by rw [ht]; exact hP, hD⟩⟩, hS.F ht⟩) hS.2.2 dX3_writeUpdate_86
        · skip
          refine lv_aload_n hx hb dX3_writeUpdate_52 rfl (lv_at hl 0 rfl) ?_
          refine lv_iload_n hx hb dX3_writeUpdate_53 rfl (lv_at hl 1 rfl) ?_
          refine lv_iconst (v := 0) hx hb dX3_writeUpdate_54 (by decide) ?_
          refine lv_iconst (v := 1) hx hb dX3_writeUpdate_55 (by decide) ?_
          refine bx_wi (wc := [(s0, .inr (3, [.ref f])), (f, .inr (2, [.ref w, .int u_20.2.1, .int u_20.2.2])), (w, .inl (cA, 66, .inl u_20.1))]) (wr := [(t0, .inr (4, [.int τ.1, .int τ.2.1, .int τ.2.2.1, .int τ.2.2.2.1, .int τ.2.2.2.2.1, .int τ.2.2.2.2.2]))]) (wf := fun (u : (FS)) => [(s0, .inr (3, [.ref f])), (f, .inr (2, [.ref w, .int u.2.1, .int u.2.2])), (w, .inl (cA, 66, .inl u.1))]) (wn := fun (u : (FS)) => [(s0, .inr (3, [.ref f])), (f, .inr (2, [.ref w, .int u.2.1, .int u.2.2])), (w, .inl (cA, 66, .inl u.1)), (t0, .inr (4, [.int τ.1, .int τ.2.1, .int τ.2.2.1, .int τ.2.2.2.1, .int τ.2.2.2.2.1, .int τ.2.2.2.2.2]))]) hP hD hS hA [0, 1, 2] [3] [1, 2, 3, 0] rfl rfl (by decide) (by decide) (fun u => rfl) (by decide) (va_runV (As := [.int p0, .int 0, .int 1]) (rest := []) ⟨hx, hb, hml, hown, hts⟩ (c_X3_writeSlotWord l D cA s0 f w H.size u_20 p0 0 1) (cwV 3 hts gX3_writeUpdate_X3_writeSlotWord rfl rfl rfl (by decide +kernel) ⟨Nat.le_of_ble_eq_true rfl, Nat.le_of_ble_eq_true rfl⟩) (bx_pv (ci := 3) (q0 := 0) hK hG (hP.sub (ws' := [(s0, .inr (3, [.ref f])), (f, .inr (2, [.ref w, .int u_20.2.1, .int u_20.2.2])), (w, .inl (cA, 66, .inl u_20.1))]) [0, 1, 2] rfl) (hD.sub (ws' := [(s0, .inr (3, [.ref f])), (f, .inr (2, [.ref w, .int u_20.2.1, .int u_20.2.2])), (w, .inl (cA, 66, .inl u_20.1))]) [0, 1, 2] (by decide) rfl) rfl rfl) rfl rfl hl.1 rfl (lv_room (Nat.le_of_ble_eq_true rfl)) dX3_writeUpdate_56 ⟨Nat.zero_le _, Nat.zero_le _⟩) (fun r_27 u_26 H locs h_25 hP hD hS => ?_)
          obtain ⟨h_25, b_29⟩ := h_25
          have hP : va_P D vwCl [(s0, .inr (3, [.ref f])), (f, .inr (2, [.ref w, .int u_26.2.1, .int u_26.2.2])), (w, .inl (cA, 66, .inl u_26.1)), (t0, .inr (4, [.int τ.1, .int τ.2.1, .int τ.2.2.1, .int τ.2.2.2.1, .int τ.2.2.2.2.1, .int τ.2.2.2.2.2]))] H := hP
          have hD : va_D A [(s0, .inr (3, [.ref f])), (f, .inr (2, [.ref w, .int u_26.2.1, .int u_26.2.2])), (w, .inl (cA, 66, .inl u_26.1)), (t0, .inr (4, [.int τ.1, .int τ.2.1, .int τ.2.2.1, .int τ.2.2.2.1, .int τ.2.2.2.2.1, .int τ.2.2.2.2.2]))] := hD
          refine lv_if_eq (tgt := 85) hx hb dX3_writeUpdate_59 (by decide) (fun c_30 => ?_) (fun c_30 => ?_)
          · skip
            refine lv_iconst (v := 0) hx hb dX3_writeUpdate_85 (by decide) ?_
            exact W.zret (v := 0) hx hb hr rfl (fun t ht hW => ⟨⟨0, u_26, rfl, ⟨(by simp only [F_X3_writeUpdate, if_neg c_6, if_neg c_12, if_neg c_18, if_neg c_24, if_pos c_30, ← h_1, ← h_7, ← h_13, ← h_19, ← h_25]), (by decide)⟩, ⟨by rw [ht]; exact hP, hD⟩⟩, hS.F ht⟩) hS.2.2 dX3_writeUpdate_86
          · skip
            refine lv_aload_n hx hb dX3_writeUpdate_62 rfl (lv_at hl 0 rfl) ?_
            refine lv_aload_n hx hb dX3_writeUpdate_63 rfl (lv_at hl 0 rfl) ?_
            refine bx_ri (va_runV (As := []) (rest := [.ref s0]) ⟨hx, hb, hml, hown, hts⟩ (c_X3_confirmedSlot l D cA s0 f w u_26) (cwV 0 hts gX3_writeUpdate_X3_confirmedSlot rfl rfl rfl (by decide +kernel) ⟨Nat.le_of_ble_eq_true rfl, Nat.le_of_ble_eq_true rfl⟩) (bx_pvr (ci := 3) (q0 := 0) hK hG (hP.sub (ws' := [(s0, .inr (3, [.ref f])), (f, .inr (2, [.ref w, .int u_26.2.1, .int u_26.2.2])), (w, .inl (cA, 66, .inl u_26.1))]) [0, 1, 2] rfl) rfl rfl) rfl rfl hl.1 rfl (lv_room (Nat.le_of_ble_eq_true rfl)) dX3_writeUpdate_64 ⟨Nat.zero_le _, Nat.zero_le _⟩) (fun r_31 h_32 => ?_)
            subst h_32
            refine lv_iload_n hx hb dX3_writeUpdate_67 rfl (lv_at hl 3 rfl) ?_
            refine bx_ri (va_runS (As := [.int (F_X3_confirmedSlot u_26), .int p1]) (rest := [.ref s0]) ⟨hx, hb, hml, hown, hts⟩ (c_X3_trialState l D (F_X3_confirmedSlot u_26) p1) (va_cwS 2 hts gX3_writeUpdate_X3_trialState rfl rfl rfl (by decide +kernel) ⟨Nat.le_of_ble_eq_true rfl, Nat.le_of_ble_eq_true rfl⟩) (bx_psr (hK.sub (tys' := []) [] rfl) hG (hP.sub (ws' := []) [] rfl)) rfl rfl hl.1 rfl (lv_room (Nat.le_of_ble_eq_true rfl)) dX3_writeUpdate_68 ⟨Nat.zero_le _, Nat.zero_le _⟩) (fun r_33 h_34 => ?_)
            subst h_34
            refine lv_aload_n hx hb dX3_writeUpdate_71 rfl (lv_at hl 0 rfl) ?_
            refine bx_ri (va_runV (As := []) (rest := [.int (F_X3_trialState (F_X3_confirmedSlot u_26) p1), .ref s0]) ⟨hx, hb, hml, hown, hts⟩ (c_X3_recordCounter l D cA s0 f w u_26) (cwV 0 hts gX3_writeUpdate_X3_recordCounter rfl rfl rfl (by decide +kernel) ⟨Nat.le_of_ble_eq_true rfl, Nat.le_of_ble_eq_true rfl⟩) (bx_pvr (ci := 3) (q0 := 0) hK hG (hP.sub (ws' := [(s0, .inr (3, [.ref f])), (f, .inr (2, [.ref w, .int u_26.2.1, .int u_26.2.2])), (w, .inl (cA, 66, .inl u_26.1))]) [0, 1, 2] rfl) rfl rfl) rfl rfl hl.1 rfl (lv_room (Nat.le_of_ble_eq_true rfl)) dX3_writeUpdate_72 ⟨Nat.zero_le _, Nat.zero_le _⟩) (fun r_35 h_36 => ?_)
            subst h_36
            refine bx_wi (wc := [(s0, .inr (3, [.ref f])), (f, .inr (2, [.ref w, .int u_26.2.1, .int u_26.2.2])), (w, .inl (cA, 66, .inl u_26.1))]) (wr := [(t0, .inr (4, [.int τ.1, .int τ.2.1, .int τ.2.2.1, .int τ.2.2.2.1, .int τ.2.2.2.2.1, .int τ.2.2.2.2.2]))]) (wf := fun (u : (FS)) => [(s0, .inr (3, [.ref f])), (f, .inr (2, [.ref w, .int u.2.1, .int u.2.2])), (w, .inl (cA, 66, .inl u.1))]) (wn := fun (u : (FS)) => [(s0, .inr (3, [.ref f])), (f, .inr (2, [.ref w, .int u.2.1, .int u.2.2])), (w, .inl (cA, 66, .inl u.1)), (t0, .inr (4, [.int τ.1, .int τ.2.1, .int τ.2.2.1, .int τ.2.2.2.1, .int τ.2.2.2.2.1, .int τ.2.2.2.2.2]))]) hP hD hS hA [0, 1, 2] [3] [1, 2, 3, 0] rfl rfl (by decide) (by decide) (fun u => rfl) (by decide) (va_runV (As := [.int (F_X3_trialState (F_X3_confirmedSlot u_26) p1), .int (F_X3_recordCounter u_26)]) (rest := []) ⟨hx, hb, hml, hown, hts⟩ (c_X3_writeRecord l D cA s0 f w H.size u_26 (F_X3_trialState (F_X3_confirmedSlot u_26) p1) (F_X3_recordCounter u_26)) (cwV 2 hts gX3_writeUpdate_X3_writeRecord rfl rfl rfl (by decide +kernel) ⟨Nat.le_of_ble_eq_true rfl, Nat.le_of_ble_eq_true rfl⟩) (bx_pv (ci := 3) (q0 := 0) hK hG (hP.sub (ws' := [(s0, .inr (3, [.ref f])), (f, .inr (2, [.ref w, .int u_26.2.1, .int u_26.2.2])), (w, .inl (cA, 66, .inl u_26.1))]) [0, 1, 2] rfl) (hD.sub (ws' := [(s0, .inr (3, [.ref f])), (f, .inr (2, [.ref w, .int u_26.2.1, .int u_26.2.2])), (w, .inl (cA, 66, .inl u_26.1))]) [0, 1, 2] (by decide) rfl) rfl rfl) rfl rfl hl.1 rfl (lv_room (Nat.le_of_ble_eq_true rfl)) dX3_writeUpdate_75 ⟨Nat.zero_le _, Nat.zero_le _⟩) (fun r_39 u_38 H locs h_37 hP hD hS => ?_)
            obtain ⟨h_37, b_41⟩ := h_37
            have hP : va_P D vwCl [(s0, .inr (3, [.ref f])), (f, .inr (2, [.ref w, .int u_38.2.1, .int u_38.2.2])), (w, .inl (cA, 66, .inl u_38.1)), (t0, .inr (4, [.int τ.1, .int τ.2.1, .int τ.2.2.1, .int τ.2.2.2.1, .int τ.2.2.2.2.1, .int τ.2.2.2.2.2]))] H := hP
            have hD : va_D A [(s0, .inr (3, [.ref f])), (f, .inr (2, [.ref w, .int u_38.2.1, .int u_38.2.2])), (w, .inl (cA, 66, .inl u_38.1)), (t0, .inr (4, [.int τ.1, .int τ.2.1, .int τ.2.2.1, .int τ.2.2.2.1, .int τ.2.2.2.2.1, .int τ.2.2.2.2.2]))] := hD
            refine lv_if_eq (tgt := 85) hx hb dX3_writeUpdate_78 (by decide) (fun c_42 => ?_) (fun c_42 => ?_)
            · skip
              refine lv_iconst (v := 0) hx hb dX3_writeUpdate_85 (by decide) ?_
              exact W.zret (v := 0) hx hb hr rfl (fun t ht hW => ⟨⟨0, u_38, rfl, ⟨(by simp only [F_X3_writeUpdate, if_neg c_6, if_neg c_12, if_neg c_18, if_neg c_24, if_neg c_30, if_pos c_42, ← h_1, ← h_7, ← h_13, ← h_19, ← h_25, ← h_37]), (by decide)⟩, ⟨by rw [ht]; exact hP, hD⟩⟩, hS.F ht⟩) hS.2.2 dX3_writeUpdate_86
            · skip
              refine lv_iconst (v := 1) hx hb dX3_writeUpdate_81 (by decide) ?_
              refine lv_goto (tgt := 86) hx hb dX3_writeUpdate_82 (by decide) ?_
              exact W.zret (v := 1) hx hb hr rfl (fun t ht hW => ⟨⟨1, u_38, rfl, ⟨(by simp only [F_X3_writeUpdate, if_neg c_6, if_neg c_12, if_neg c_18, if_neg c_24, if_neg c_30, if_neg c_42, ← h_1, ← h_7, ← h_13, ← h_19, ← h_25, ← h_37]), (by decide)⟩, ⟨by rw [ht]; exact hP, hD⟩⟩, hS.F ht⟩) hS.2.2 dX3_writeUpdate_86
def F_X3_mirror (σ : FS) (ρ : FS) : (FS) := (let u_2 := (F_X2_mirror σ ρ); u_2)
set_option maxHeartbeats 4000000 in
set_option maxRecDepth 100000 in
theorem c_X3_mirror (l : Launch) (D : va_G) (cA : ClassId) (s0 f w s2 f2 w2 : Nat) (sz : Nat) (σ : FS) (ρ : FS) : Met l yX3_mirror wsX3_mirror ({ frames := 2, cells := 0, slots := 0, locals := 43 }) (va_Pc [.ref s0, .ref s2] (bx_pre D [(cA, .int)] (wSS cA s0 f w s2 f2 w2 σ ρ) sz)) (va_Qv (fun u => u = F_X3_mirror σ ρ) (fun u t => bx_at D (wSS cA s0 f w s2 f2 w2 u ρ) (va_A (wSS cA s0 f w s2 f2 w2 σ ρ) sz) t) (va_A (wSS cA s0 f w s2 f2 w2 σ ρ) sz)) 0 0 (va_A (wSS cA s0 f w s2 f2 w2 σ ρ) sz) := by
  refine Met.ofW (cc := cX3_mirror) (maxL := 2) (ret := none) (by decide) rfl ?_
  intro p e s m args below meth c s₁ B hml hv
  obtain ⟨rfl, hsz, hP, hK, hD0, hG⟩ := hv
  have hx := B.exec
  have hb := B.bytes
  have hr := B.returns
  have hts := atoms_spec (ws := wsX3_mirror) B.pre
  have hown : s.vm.findClass RX3 = some m.cls := findClass_of_methodNamed B.named
  have hlocks := B.notSynchronized
  subst hsz
  have hD := hD0.self (sz := s.heap.size)
  generalize hAe : va_A (wSS cA s0 f w s2 f2 w2 σ ρ) s.heap.size = A at hD ⊢
  have hA : ∀ q : Nat, s.heap.size ≤ q → A q := fun q h => by rw [← hAe]; exact Or.inr h
  have hS : va_S A s.heap s.heap [] := va_S.rf
  have hD : va_D A [(s0, .inr (3, [.ref f])), (f, .inr (2, [.ref w, .int σ.2.1, .int σ.2.2])), (w, .inl (cA, 66, .inl σ.1)), (s2, .inr (3, [.ref f2])), (f2, .inr (2, [.ref w2, .int ρ.2.1, .int ρ.2.2])), (w2, .inl (cA, 66, .inl ρ.1))] := hD
  have hP : va_P D vwCl [(s0, .inr (3, [.ref f])), (f, .inr (2, [.ref w, .int σ.2.1, .int σ.2.2])), (w, .inl (cA, 66, .inl σ.1)), (s2, .inr (3, [.ref f2])), (f2, .inr (2, [.ref w2, .int ρ.2.1, .int ρ.2.2])), (w2, .inl (cA, 66, .inl ρ.1))] s.heap := hP
  have hl := lv_entry ([.ref s0, .ref s2]) (n := 2) (Nat.le_of_ble_eq_true rfl)
  rw [lg_entry_eq]
  generalize (lg_sl ([.ref s0, .ref s2]) ++ List.replicate (2 - (lg_sl ([.ref s0, .ref s2])).length) Slot.unset).toArray = ls at hl ⊢
  have hl : lv_has ls 2 [(0, .ref s0), (1, .ref s2)] := hl
  have hi3 : ∀ w ∈ u_ws RX3 TX3 1, w ∈ wsX3_mirror := by decide +kernel
  refine lv_aload_n hx hb dX3_mirror_0 rfl (lv_at hl 0 rfl) ?_
  refine va_get (D := D) (ci := 3) (v := .ref f) (C := RX3) (T := TX3) (N := 1) hx hb hts hi3 hown hK hP 0 rfl rfl 0 (by decide) (hts (.fieldLink RX3 14 "Bootstay$Store" "flash" "LBootstay$Flash;") (by decide +kernel)) (fun _ h9 => h9) rfl dX3_mirror_1 ?_
  refine lv_aload_n hx hb dX3_mirror_4 rfl (lv_at hl 1 rfl) ?_
  refine va_get (D := D) (ci := 3) (v := .ref f2) (C := RX3) (T := TX3) (N := 1) hx hb hts hi3 hown hK hP 3 rfl rfl 0 (by decide) (hts (.fieldLink RX3 14 "Bootstay$Store" "flash" "LBootstay$Flash;") (by decide +kernel)) (fun _ h9 => h9) rfl dX3_mirror_5 ?_
  refine bx_wv (wc := [(f, .inr (2, [.ref w, .int σ.2.1, .int σ.2.2])), (w, .inl (cA, 66, .inl σ.1)), (f2, .inr (2, [.ref w2, .int ρ.2.1, .int ρ.2.2])), (w2, .inl (cA, 66, .inl ρ.1))]) (wr := [(s0, .inr (3, [.ref f])), (s2, .inr (3, [.ref f2]))]) (wf := fun (u : (FS)) => [(f, .inr (2, [.ref w, .int u.2.1, .int u.2.2])), (w, .inl (cA, 66, .inl u.1)), (f2, .inr (2, [.ref w2, .int ρ.2.1, .int ρ.2.2])), (w2, .inl (cA, 66, .inl ρ.1))]) (wn := fun (u : (FS)) => [(s0, .inr (3, [.ref f])), (f, .inr (2, [.ref w, .int u.2.1, .int u.2.2])), (w, .inl (cA, 66, .inl u.1)), (s2, .inr (3, [.ref f2])), (f2, .inr (2, [.ref w2, .int ρ.2.1, .int ρ.2.2])), (w2, .inl (cA, 66, .inl ρ.1))]) hP hD hS hA [1, 2, 4, 5] [0, 3] [0, 2, 3, 1, 4, 5] rfl rfl (by decide) (by decide) (fun u => rfl) (by decide) (va_runV (As := [.ref f2]) (rest := []) ⟨hx, hb, hml, hown, hts⟩ (c_X2_mirror l D cA f w f2 w2 s.heap.size σ ρ) (cwV 1 hts gX3_mirror_X2_mirror rfl rfl rfl (by decide +kernel) ⟨Nat.le_of_ble_eq_true rfl, Nat.le_of_ble_eq_true rfl⟩) (bx_pv (ci := 2) (q0 := 0) hK hG (hP.sub (ws' := [(f, .inr (2, [.ref w, .int σ.2.1, .int σ.2.2])), (w, .inl (cA, 66, .inl σ.1)), (f2, .inr (2, [.ref w2, .int ρ.2.1, .int ρ.2.2])), (w2, .inl (cA, 66, .inl ρ.1))]) [1, 2, 4, 5] rfl) (hD.sub (ws' := [(f, .inr (2, [.ref w, .int σ.2.1, .int σ.2.2])), (w, .inl (cA, 66, .inl σ.1)), (f2, .inr (2, [.ref w2, .int ρ.2.1, .int ρ.2.2])), (w2, .inl (cA, 66, .inl ρ.1))]) [1, 2, 4, 5] (by decide) rfl) rfl rfl) rfl rfl hl.1 rfl (lv_room (Nat.le_of_ble_eq_true rfl)) dX3_mirror_8 ⟨Nat.zero_le _, Nat.zero_le _⟩) (fun  u_2 H locs h_1 hP hD hS => ?_)
  have hP : va_P D vwCl [(s0, .inr (3, [.ref f])), (f, .inr (2, [.ref w, .int u_2.2.1, .int u_2.2.2])), (w, .inl (cA, 66, .inl u_2.1)), (s2, .inr (3, [.ref f2])), (f2, .inr (2, [.ref w2, .int ρ.2.1, .int ρ.2.2])), (w2, .inl (cA, 66, .inl ρ.1))] H := hP
  have hD : va_D A [(s0, .inr (3, [.ref f])), (f, .inr (2, [.ref w, .int u_2.2.1, .int u_2.2.2])), (w, .inl (cA, 66, .inl u_2.1)), (s2, .inr (3, [.ref f2])), (f2, .inr (2, [.ref w2, .int ρ.2.1, .int ρ.2.2])), (w2, .inl (cA, 66, .inl ρ.1))] := hD
  exact W.vret hx hb hr (fun t ht hW => ⟨⟨u_2, rfl, (by simp only [F_X3_mirror, ← h_1]), ⟨by rw [ht]; exact hP, hD⟩⟩, hS.F ht⟩) hS.2.2 dX3_mirror_11
end
