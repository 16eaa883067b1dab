/-- a private method of a class that the tables say can be made, by its rows of tables_1 -/
def lw_okq (q : MethodName × Nat) : Prop := (q.1.cls ≠ "java/lang/invoke/MethodHandle" ∧ q.1.cls ≠ "java/lang/invoke/VarHandle") ∧ Cond.instantiable q.1.cls q.2 ∈ tables_1 ∧ Cond.privateMethod q.1 ∈ tables_1 ∧ Cond.instanceMethod q.1 ∈ tables_1
theorem lw_p0 : lw_okq (⟨"SnowTalk$Talk", "readWord", "(II)I"⟩, 8) := ⟨⟨by decide +kernel, by decide +kernel⟩, List.mem_of_getElem? (i := 104) (by decide +kernel), List.mem_of_getElem? (i := 289) (by decide +kernel), List.mem_of_getElem? (i := 290) (by decide +kernel)⟩
theorem lw_p1 : lw_okq (⟨"SnowTalk$Talk", "signAt", "(I)I"⟩, 8) := ⟨⟨by decide +kernel, by decide +kernel⟩, List.mem_of_getElem? (i := 104) (by decide +kernel), List.mem_of_getElem? (i := 293) (by decide +kernel), List.mem_of_getElem? (i := 294) (by decide +kernel)⟩
theorem lw_p2 : lw_okq (⟨"SnowTalk$Talk", "addWord", "(IIII)I"⟩, 8) := ⟨⟨by decide +kernel, by decide +kernel⟩, List.mem_of_getElem? (i := 104) (by decide +kernel), List.mem_of_getElem? (i := 297) (by decide +kernel), List.mem_of_getElem? (i := 298) (by decide +kernel)⟩
theorem lw_p3 : lw_okq (⟨"SnowTalk$Street", "fall", "(III)V"⟩, 11) := ⟨⟨by decide +kernel, by decide +kernel⟩, List.mem_of_getElem? (i := 21) (by decide +kernel), List.mem_of_getElem? (i := 340) (by decide +kernel), List.mem_of_getElem? (i := 341) (by decide +kernel)⟩
theorem lw_p4 : lw_okq (⟨"SnowTalk$Street", "lower", "(II)V"⟩, 11) := ⟨⟨by decide +kernel, by decide +kernel⟩, List.mem_of_getElem? (i := 21) (by decide +kernel), List.mem_of_getElem? (i := 344) (by decide +kernel), List.mem_of_getElem? (i := 345) (by decide +kernel)⟩
theorem lw_p5 : lw_okq (⟨"SnowTalk$Street", "thaw", "()V"⟩, 11) := ⟨⟨by decide +kernel, by decide +kernel⟩, List.mem_of_getElem? (i := 21) (by decide +kernel), List.mem_of_getElem? (i := 354) (by decide +kernel), List.mem_of_getElem? (i := 355) (by decide +kernel)⟩
theorem lw_p6 : lw_okq (⟨"SnowTalk", "talkCanBe", "()Z"⟩, 8) := ⟨⟨by decide +kernel, by decide +kernel⟩, List.mem_of_getElem? (i := 13) (by decide +kernel), List.mem_of_getElem? (i := 369) (by decide +kernel), List.mem_of_getElem? (i := 370) (by decide +kernel)⟩
theorem lw_p7 : lw_okq (⟨"SnowTalk$Places", "keep", "(I)V"⟩, 3) := ⟨⟨by decide +kernel, by decide +kernel⟩, List.mem_of_getElem? (i := 143) (by decide +kernel), List.mem_of_getElem? (i := 413) (by decide +kernel), List.mem_of_getElem? (i := 414) (by decide +kernel)⟩
theorem lw_p8 : lw_okq (⟨"SnowTalk$Salt", "isEnough", "(I)Z"⟩, 4) := ⟨⟨by decide +kernel, by decide +kernel⟩, List.mem_of_getElem? (i := 161) (by decide +kernel), List.mem_of_getElem? (i := 438) (by decide +kernel), List.mem_of_getElem? (i := 439) (by decide +kernel)⟩
theorem lw_p9 : lw_okq (⟨"SnowTalk$Salt", "spreadsIn", "(I)I"⟩, 4) := ⟨⟨by decide +kernel, by decide +kernel⟩, List.mem_of_getElem? (i := 161) (by decide +kernel), List.mem_of_getElem? (i := 442) (by decide +kernel), List.mem_of_getElem? (i := 443) (by decide +kernel)⟩
theorem lw_p10 : lw_okq (⟨"SnowTalk$Rows", "weigh", "(LSnowTalk$Street;)V"⟩, 8) := ⟨⟨by decide +kernel, by decide +kernel⟩, List.mem_of_getElem? (i := 180) (by decide +kernel), List.mem_of_getElem? (i := 477) (by decide +kernel), List.mem_of_getElem? (i := 478) (by decide +kernel)⟩
theorem lw_p11 : lw_okq (⟨"SnowTalk$Rows", "orders", "()I"⟩, 8) := ⟨⟨by decide +kernel, by decide +kernel⟩, List.mem_of_getElem? (i := 180) (by decide +kernel), List.mem_of_getElem? (i := 486) (by decide +kernel), List.mem_of_getElem? (i := 487) (by decide +kernel)⟩
theorem lw_p12 : lw_okq (⟨"SnowTalk$Lies", "somebodyGoes", "(I)Z"⟩, 2) := ⟨⟨by decide +kernel, by decide +kernel⟩, List.mem_of_getElem? (i := 214) (by decide +kernel), List.mem_of_getElem? (i := 552) (by decide +kernel), List.mem_of_getElem? (i := 553) (by decide +kernel)⟩
theorem lw_p13 : lw_okq (⟨"SnowTalk$Lies", "emptiest", "(II)I"⟩, 2) := ⟨⟨by decide +kernel, by decide +kernel⟩, List.mem_of_getElem? (i := 214) (by decide +kernel), List.mem_of_getElem? (i := 557) (by decide +kernel), List.mem_of_getElem? (i := 558) (by decide +kernel)⟩
theorem lw_p14 : lw_okq (⟨"SnowTalkModel", "clear", "()V"⟩, 39) := ⟨⟨by decide +kernel, by decide +kernel⟩, List.mem_of_getElem? (i := 587) (by decide +kernel), List.mem_of_getElem? (i := 594) (by decide +kernel), List.mem_of_getElem? (i := 595) (by decide +kernel)⟩
theorem lw_p15 : lw_okq (⟨"SnowTalkModel", "isGarden", "(I)Z"⟩, 39) := ⟨⟨by decide +kernel, by decide +kernel⟩, List.mem_of_getElem? (i := 587) (by decide +kernel), List.mem_of_getElem? (i := 728) (by decide +kernel), List.mem_of_getElem? (i := 729) (by decide +kernel)⟩
def lw_privs_1 : List (MethodName × Nat) := [(⟨"SnowTalk$Talk", "readWord", "(II)I"⟩, 8), (⟨"SnowTalk$Talk", "signAt", "(I)I"⟩, 8), (⟨"SnowTalk$Talk", "addWord", "(IIII)I"⟩, 8), (⟨"SnowTalk$Street", "fall", "(III)V"⟩, 11), (⟨"SnowTalk$Street", "lower", "(II)V"⟩, 11), (⟨"SnowTalk$Street", "thaw", "()V"⟩, 11), (⟨"SnowTalk", "talkCanBe", "()Z"⟩, 8), (⟨"SnowTalk$Places", "keep", "(I)V"⟩, 3), (⟨"SnowTalk$Salt", "isEnough", "(I)Z"⟩, 4), (⟨"SnowTalk$Salt", "spreadsIn", "(I)I"⟩, 4), (⟨"SnowTalk$Rows", "weigh", "(LSnowTalk$Street;)V"⟩, 8), (⟨"SnowTalk$Rows", "orders", "()I"⟩, 8), (⟨"SnowTalk$Lies", "somebodyGoes", "(I)Z"⟩, 2), (⟨"SnowTalk$Lies", "emptiest", "(II)I"⟩, 2), (⟨"SnowTalkModel", "clear", "()V"⟩, 39), (⟨"SnowTalkModel", "isGarden", "(I)Z"⟩, 39)]
theorem lw_r1 : ∀ q ∈ lw_privs_1, lw_okq q := List.forall_mem_cons.mpr ⟨lw_p0, List.forall_mem_cons.mpr ⟨lw_p1, List.forall_mem_cons.mpr ⟨lw_p2, List.forall_mem_cons.mpr ⟨lw_p3, List.forall_mem_cons.mpr ⟨lw_p4, List.forall_mem_cons.mpr ⟨lw_p5, List.forall_mem_cons.mpr ⟨lw_p6, List.forall_mem_cons.mpr ⟨lw_p7, List.forall_mem_cons.mpr ⟨lw_p8, List.forall_mem_cons.mpr ⟨lw_p9, List.forall_mem_cons.mpr ⟨lw_p10, List.forall_mem_cons.mpr ⟨lw_p11, List.forall_mem_cons.mpr ⟨lw_p12, List.forall_mem_cons.mpr ⟨lw_p13, List.forall_mem_cons.mpr ⟨lw_p14, List.forall_mem_cons.mpr ⟨lw_p15, fun _ h => absurd h List.not_mem_nil⟩⟩⟩⟩⟩⟩⟩⟩⟩⟩⟩⟩⟩⟩⟩⟩
theorem lw_p16 : lw_okq (⟨"SnowTalkModel", "faultOf", "()I"⟩, 39) := ⟨⟨by decide +kernel, by decide +kernel⟩, List.mem_of_getElem? (i := 587) (by decide +kernel), List.mem_of_getElem? (i := 748) (by decide +kernel), List.mem_of_getElem? (i := 749) (by decide +kernel)⟩
theorem lw_p17 : lw_okq (⟨"SnowTalkModel", "asNow", "()V"⟩, 39) := ⟨⟨by decide +kernel, by decide +kernel⟩, List.mem_of_getElem? (i := 587) (by decide +kernel), List.mem_of_getElem? (i := 756) (by decide +kernel), List.mem_of_getElem? (i := 757) (by decide +kernel)⟩
theorem lw_p18 : lw_okq (⟨"SnowTalkModel", "goTalk", "(Z)I"⟩, 39) := ⟨⟨by decide +kernel, by decide +kernel⟩, List.mem_of_getElem? (i := 587) (by decide +kernel), List.mem_of_getElem? (i := 760) (by decide +kernel), List.mem_of_getElem? (i := 761) (by decide +kernel)⟩
theorem lw_p19 : lw_okq (⟨"SnowTalkModel", "night", "()V"⟩, 39) := ⟨⟨by decide +kernel, by decide +kernel⟩, List.mem_of_getElem? (i := 587) (by decide +kernel), List.mem_of_getElem? (i := 764) (by decide +kernel), List.mem_of_getElem? (i := 765) (by decide +kernel)⟩
theorem lw_p20 : lw_okq (⟨"SnowTalkModel", "thaw", "()V"⟩, 39) := ⟨⟨by decide +kernel, by decide +kernel⟩, List.mem_of_getElem? (i := 587) (by decide +kernel), List.mem_of_getElem? (i := 768) (by decide +kernel), List.mem_of_getElem? (i := 769) (by decide +kernel)⟩
theorem lw_p21 : lw_okq (⟨"SnowTalkModel", "isBare", "(I)Z"⟩, 39) := ⟨⟨by decide +kernel, by decide +kernel⟩, List.mem_of_getElem? (i := 587) (by decide +kernel), List.mem_of_getElem? (i := 772) (by decide +kernel), List.mem_of_getElem? (i := 773) (by decide +kernel)⟩
theorem lw_p22 : lw_okq (⟨"SnowTalkModel", "salt", "(I)V"⟩, 39) := ⟨⟨by decide +kernel, by decide +kernel⟩, List.mem_of_getElem? (i := 587) (by decide +kernel), List.mem_of_getElem? (i := 776) (by decide +kernel), List.mem_of_getElem? (i := 777) (by decide +kernel)⟩
theorem lw_p23 : lw_okq (⟨"SnowTalkModel", "whyNot", "(III)I"⟩, 39) := ⟨⟨by decide +kernel, by decide +kernel⟩, List.mem_of_getElem? (i := 587) (by decide +kernel), List.mem_of_getElem? (i := 783) (by decide +kernel), List.mem_of_getElem? (i := 784) (by decide +kernel)⟩
theorem lw_p24 : lw_okq (⟨"SnowTalkModel", "flakesOf", "(III)I"⟩, 39) := ⟨⟨by decide +kernel, by decide +kernel⟩, List.mem_of_getElem? (i := 587) (by decide +kernel), List.mem_of_getElem? (i := 787) (by decide +kernel), List.mem_of_getElem? (i := 788) (by decide +kernel)⟩
theorem lw_p25 : lw_okq (⟨"SnowTalkModel", "speak", "(III)V"⟩, 39) := ⟨⟨by decide +kernel, by decide +kernel⟩, List.mem_of_getElem? (i := 587) (by decide +kernel), List.mem_of_getElem? (i := 794) (by decide +kernel), List.mem_of_getElem? (i := 795) (by decide +kernel)⟩
theorem lw_p26 : lw_okq (⟨"SnowTalkModel", "snow", "(III)V"⟩, 39) := ⟨⟨by decide +kernel, by decide +kernel⟩, List.mem_of_getElem? (i := 587) (by decide +kernel), List.mem_of_getElem? (i := 798) (by decide +kernel), List.mem_of_getElem? (i := 799) (by decide +kernel)⟩
theorem lw_p27 : lw_okq (⟨"SnowTalkModel", "collapse", "()V"⟩, 39) := ⟨⟨by decide +kernel, by decide +kernel⟩, List.mem_of_getElem? (i := 587) (by decide +kernel), List.mem_of_getElem? (i := 802) (by decide +kernel), List.mem_of_getElem? (i := 803) (by decide +kernel)⟩
theorem lw_p28 : lw_okq (⟨"SnowTalkModel", "barOfTalk", "()I"⟩, 39) := ⟨⟨by decide +kernel, by decide +kernel⟩, List.mem_of_getElem? (i := 587) (by decide +kernel), List.mem_of_getElem? (i := 810) (by decide +kernel), List.mem_of_getElem? (i := 811) (by decide +kernel)⟩
theorem lw_p29 : lw_okq (⟨"SnowTalkModel", "isPlain", "()Z"⟩, 39) := ⟨⟨by decide +kernel, by decide +kernel⟩, List.mem_of_getElem? (i := 587) (by decide +kernel), List.mem_of_getElem? (i := 834) (by decide +kernel), List.mem_of_getElem? (i := 835) (by decide +kernel)⟩
theorem lw_p30 : lw_okq (⟨"SnowTalkModel", "unsaid", "()I"⟩, 39) := ⟨⟨by decide +kernel, by decide +kernel⟩, List.mem_of_getElem? (i := 587) (by decide +kernel), List.mem_of_getElem? (i := 839) (by decide +kernel), List.mem_of_getElem? (i := 840) (by decide +kernel)⟩
theorem lw_p31 : lw_okq (⟨"SnowTalkModel", "slideOf", "(II)I"⟩, 39) := ⟨⟨by decide +kernel, by decide +kernel⟩, List.mem_of_getElem? (i := 587) (by decide +kernel), List.mem_of_getElem? (i := 855) (by decide +kernel), List.mem_of_getElem? (i := 856) (by decide +kernel)⟩
def lw_privs_2 : List (MethodName × Nat) := [(⟨"SnowTalkModel", "faultOf", "()I"⟩, 39), (⟨"SnowTalkModel", "asNow", "()V"⟩, 39), (⟨"SnowTalkModel", "goTalk", "(Z)I"⟩, 39), (⟨"SnowTalkModel", "night", "()V"⟩, 39), (⟨"SnowTalkModel", "thaw", "()V"⟩, 39), (⟨"SnowTalkModel", "isBare", "(I)Z"⟩, 39), (⟨"SnowTalkModel", "salt", "(I)V"⟩, 39), (⟨"SnowTalkModel", "whyNot", "(III)I"⟩, 39), (⟨"SnowTalkModel", "flakesOf", "(III)I"⟩, 39), (⟨"SnowTalkModel", "speak", "(III)V"⟩, 39), (⟨"SnowTalkModel", "snow", "(III)V"⟩, 39), (⟨"SnowTalkModel", "collapse", "()V"⟩, 39), (⟨"SnowTalkModel", "barOfTalk", "()I"⟩, 39), (⟨"SnowTalkModel", "isPlain", "()Z"⟩, 39), (⟨"SnowTalkModel", "unsaid", "()I"⟩, 39), (⟨"SnowTalkModel", "slideOf", "(II)I"⟩, 39)]
theorem lw_r2 : ∀ q ∈ lw_privs_2, lw_okq q := List.forall_mem_cons.mpr ⟨lw_p16, List.forall_mem_cons.mpr ⟨lw_p17, List.forall_mem_cons.mpr ⟨lw_p18, List.forall_mem_cons.mpr ⟨lw_p19, List.forall_mem_cons.mpr ⟨lw_p20, List.forall_mem_cons.mpr ⟨lw_p21, List.forall_mem_cons.mpr ⟨lw_p22, List.forall_mem_cons.mpr ⟨lw_p23, List.forall_mem_cons.mpr ⟨lw_p24, List.forall_mem_cons.mpr ⟨lw_p25, List.forall_mem_cons.mpr ⟨lw_p26, List.forall_mem_cons.mpr ⟨lw_p27, List.forall_mem_cons.mpr ⟨lw_p28, List.forall_mem_cons.mpr ⟨lw_p29, List.forall_mem_cons.mpr ⟨lw_p30, List.forall_mem_cons.mpr ⟨lw_p31, fun _ h => absurd h List.not_mem_nil⟩⟩⟩⟩⟩⟩⟩⟩⟩⟩⟩⟩⟩⟩⟩⟩
theorem lw_p32 : lw_okq (⟨"SnowTalkModel", "layWho", "(I)V"⟩, 39) := ⟨⟨by decide +kernel, by decide +kernel⟩, List.mem_of_getElem? (i := 587) (by decide +kernel), List.mem_of_getElem? (i := 875) (by decide +kernel), List.mem_of_getElem? (i := 876) (by decide +kernel)⟩
theorem lw_p33 : lw_okq (⟨"SnowTalkModel", "holdsNow", "()Z"⟩, 39) := ⟨⟨by decide +kernel, by decide +kernel⟩, List.mem_of_getElem? (i := 587) (by decide +kernel), List.mem_of_getElem? (i := 879) (by decide +kernel), List.mem_of_getElem? (i := 880) (by decide +kernel)⟩
theorem lw_p34 : lw_okq (⟨"SnowTalkModel", "isSeen", "(I)Z"⟩, 39) := ⟨⟨by decide +kernel, by decide +kernel⟩, List.mem_of_getElem? (i := 587) (by decide +kernel), List.mem_of_getElem? (i := 887) (by decide +kernel), List.mem_of_getElem? (i := 888) (by decide +kernel)⟩
theorem lw_p35 : lw_okq (⟨"SnowTalkModel", "isLaw", "(I)Z"⟩, 39) := ⟨⟨by decide +kernel, by decide +kernel⟩, List.mem_of_getElem? (i := 587) (by decide +kernel), List.mem_of_getElem? (i := 895) (by decide +kernel), List.mem_of_getElem? (i := 896) (by decide +kernel)⟩
theorem lw_p36 : lw_okq (⟨"SnowTalkModel", "bearing", "(IIII)J"⟩, 39) := ⟨⟨by decide +kernel, by decide +kernel⟩, List.mem_of_getElem? (i := 587) (by decide +kernel), List.mem_of_getElem? (i := 905) (by decide +kernel), List.mem_of_getElem? (i := 906) (by decide +kernel)⟩
theorem lw_p37 : lw_okq (⟨"SnowTalkModel", "others", "(II)I"⟩, 39) := ⟨⟨by decide +kernel, by decide +kernel⟩, List.mem_of_getElem? (i := 587) (by decide +kernel), List.mem_of_getElem? (i := 921) (by decide +kernel), List.mem_of_getElem? (i := 922) (by decide +kernel)⟩
def lw_privs_3 : List (MethodName × Nat) := [(⟨"SnowTalkModel", "layWho", "(I)V"⟩, 39), (⟨"SnowTalkModel", "holdsNow", "()Z"⟩, 39), (⟨"SnowTalkModel", "isSeen", "(I)Z"⟩, 39), (⟨"SnowTalkModel", "isLaw", "(I)Z"⟩, 39), (⟨"SnowTalkModel", "bearing", "(IIII)J"⟩, 39), (⟨"SnowTalkModel", "others", "(II)I"⟩, 39)]
theorem lw_r3 : ∀ q ∈ lw_privs_3, lw_okq q := List.forall_mem_cons.mpr ⟨lw_p32, List.forall_mem_cons.mpr ⟨lw_p33, List.forall_mem_cons.mpr ⟨lw_p34, List.forall_mem_cons.mpr ⟨lw_p35, List.forall_mem_cons.mpr ⟨lw_p36, List.forall_mem_cons.mpr ⟨lw_p37, fun _ h => absurd h List.not_mem_nil⟩⟩⟩⟩⟩⟩
def lw_privs : List (MethodName × Nat) := lw_privs_1 ++ (lw_privs_2 ++ (lw_privs_3))
def lw_tbl : List Cond := k2_sels lw_privs ++ tables_1
theorem lw_privs_ok : ∀ q ∈ lw_privs, lw_okq q := by
  show ∀ q ∈ lw_privs_1 ++ (lw_privs_2 ++ (lw_privs_3)), lw_okq q
  exact List.forall_mem_append.mpr ⟨lw_r1, List.forall_mem_append.mpr ⟨lw_r2, lw_r3⟩⟩
def RX0 : String := "SnowTalk$Lies"
def TX0 : u_T := fun k => match k with
  | 0 => ("SnowTalk$Lies", "saysIn", "[I", true)
  | _ => ("SnowTalk$Lies", "liesIn", "[I", true)
def tyX0 : Nat → FieldType := fun k => match k with
  | 0 => .array .int
  | _ => .array .int
theorem nmX0 : ∀ a, a < 2 → ∀ b, b < 2 → a ≠ b → (TX0 a).2.1 ≠ (TX0 b).2.1 := by decide +kernel
theorem tyX0_ok : ∀ k, k < 2 → parseFieldDescriptor (TX0 k).2.2.1 = some (tyX0 k) := by decide +kernel
abbrev cX0_init : ByteArray := prog_2_method_1_code
def yX0_init : MethodName := ⟨RX0, "<init>", "()V"⟩
abbrev cX0_settle : ByteArray := prog_2_method_2_code
def yX0_settle : MethodName := ⟨RX0, "settle", "(I)I"⟩
abbrev cX0_somebodyGoes : ByteArray := prog_2_method_3_code
def yX0_somebodyGoes : MethodName := ⟨RX0, "somebodyGoes", "(I)Z"⟩
abbrev cX0_emptiest : ByteArray := prog_2_method_4_code
def yX0_emptiest : MethodName := ⟨RX0, "emptiest", "(II)I"⟩
def RX1 : String := "SnowTalk$Places"
def TX1 : u_T := fun k => match k with
  | 0 => ("SnowTalk$Places", "tried", "[I", true)
  | 1 => ("SnowTalk$Places", "best", "[I", true)
  | _ => ("SnowTalk$Places", "fewest", "I", false)
def tyX1 : Nat → FieldType := fun k => match k with
  | 0 => .array .int
  | 1 => .array .int
  | _ => .int
theorem nmX1 : ∀ a, a < 3 → ∀ b, b < 3 → a ≠ b → (TX1 a).2.1 ≠ (TX1 b).2.1 := by decide +kernel
theorem tyX1_ok : ∀ k, k < 3 → parseFieldDescriptor (TX1 k).2.2.1 = some (tyX1 k) := by decide +kernel
abbrev cX1_init : ByteArray := prog_3_method_1_code
def yX1_init : MethodName := ⟨RX1, "<init>", "()V"⟩
abbrev cX1_find : ByteArray := prog_3_method_2_code
def yX1_find : MethodName := ⟨RX1, "find", "(LSnowTalk$Street;LSnowTalk$Talk;)V"⟩
abbrev cX1_placeFrom : ByteArray := prog_3_method_3_code
def yX1_placeFrom : MethodName := ⟨RX1, "placeFrom", "(LSnowTalk$Places;LSnowTalk$Street;LSnowTalk$Talk;II)V"⟩
abbrev cX1_keep : ByteArray := prog_3_method_4_code
def yX1_keep : MethodName := ⟨RX1, "keep", "(I)V"⟩
def RX2 : String := "SnowTalk$Rows"
def TX2 : u_T := fun k => match k with
  | 0 => ("SnowTalk$Rows", "picks", "[I", true)
  | 1 => ("SnowTalk$Rows", "day", "[I", true)
  | 2 => ("SnowTalk$Rows", "morning", "[I", true)
  | 3 => ("SnowTalk$Rows", "tally", "[I", true)
  | 4 => ("SnowTalk$Rows", "said", "I", false)
  | 5 => ("SnowTalk$Rows", "fit", "I", false)
  | 6 => ("SnowTalk$Rows", "inSome", "I", false)
  | _ => ("SnowTalk$Rows", "inAll", "I", false)
def tyX2 : Nat → FieldType := fun k => match k with
  | 0 => .array .int
  | 1 => .array .int
  | 2 => .array .int
  | 3 => .array .int
  | 4 => .int
  | 5 => .int
  | 6 => .int
  | _ => .int
theorem nmX2 : ∀ a, a < 8 → ∀ b, b < 8 → a ≠ b → (TX2 a).2.1 ≠ (TX2 b).2.1 := by decide +kernel
theorem tyX2_ok : ∀ k, k < 8 → parseFieldDescriptor (TX2 k).2.2.1 = some (tyX2 k) := by decide +kernel
abbrev cX2_init : ByteArray := prog_4_method_1_code
def yX2_init : MethodName := ⟨RX2, "<init>", "()V"⟩
abbrev cX2_gather : ByteArray := prog_4_method_2_code
def yX2_gather : MethodName := ⟨RX2, "gather", "(LSnowTalk$Street;I)V"⟩
abbrev cX2_pickFrom : ByteArray := prog_4_method_3_code
def yX2_pickFrom : MethodName := ⟨RX2, "pickFrom", "(LSnowTalk$Rows;LSnowTalk$Street;II)V"⟩
abbrev cX2_weigh : ByteArray := prog_4_method_4_code
def yX2_weigh : MethodName := ⟨RX2, "weigh", "(LSnowTalk$Street;)V"⟩
abbrev cX2_orders : ByteArray := prog_4_method_5_code
def yX2_orders : MethodName := ⟨RX2, "orders", "()I"⟩
abbrev cX2_gardenToMeasure : ByteArray := prog_4_method_6_code
def yX2_gardenToMeasure : MethodName := ⟨RX2, "gardenToMeasure", "(LSnowTalk$Street;)I"⟩
abbrev cX2_mostLeft : ByteArray := prog_4_method_7_code
def yX2_mostLeft : MethodName := ⟨RX2, "mostLeft", "(I)I"⟩
def RX3 : String := "SnowTalk$Salt"
def TX3 : u_T := fun k => match k with
  | 0 => ("SnowTalk$Salt", "tooDeep", "[I", true)
  | 1 => ("SnowTalk$Salt", "spreads", "[I", true)
  | 2 => ("SnowTalk$Salt", "count", "I", false)
  | _ => ("SnowTalk$Salt", "fewest", "I", false)
def tyX3 : Nat → FieldType := fun k => match k with
  | 0 => .array .int
  | 1 => .array .int
  | 2 => .int
  | _ => .int
theorem nmX3 : ∀ a, a < 4 → ∀ b, b < 4 → a ≠ b → (TX3 a).2.1 ≠ (TX3 b).2.1 := by decide +kernel
theorem tyX3_ok : ∀ k, k < 4 → parseFieldDescriptor (TX3 k).2.2.1 = some (tyX3 k) := by decide +kernel
abbrev cX3_init : ByteArray := prog_5_method_1_code
def yX3_init : MethodName := ⟨RX3, "<init>", "()V"⟩
abbrev cX3_fewestFor : ByteArray := prog_5_method_2_code
def yX3_fewestFor : MethodName := ⟨RX3, "fewestFor", "(LSnowTalk$Street;I)I"⟩
abbrev cX3_spreadFrom : ByteArray := prog_5_method_3_code
def yX3_spreadFrom : MethodName := ⟨RX3, "spreadFrom", "(LSnowTalk$Salt;II)V"⟩
abbrev cX3_isEnough : ByteArray := prog_5_method_4_code
def yX3_isEnough : MethodName := ⟨RX3, "isEnough", "(I)Z"⟩
abbrev cX3_spreadsIn : ByteArray := prog_5_method_5_code
def yX3_spreadsIn : MethodName := ⟨RX3, "spreadsIn", "(I)I"⟩
def RX4 : String := "SnowTalk$Street"
def TX4 : u_T := fun k => match k with
  | 0 => ("SnowTalk$Street", "count", "I", false)
  | 1 => ("SnowTalk$Street", "deep", "[I", true)
  | 2 => ("SnowTalk$Street", "roof", "[I", true)
  | 3 => ("SnowTalk$Street", "fallen", "I", false)
  | 4 => ("SnowTalk$Street", "brook", "I", false)
  | 5 => ("SnowTalk$Street", "rule", "[I", true)
  | 6 => ("SnowTalk$Street", "said", "[I", true)
  | 7 => ("SnowTalk$Street", "flakes", "[I", true)
  | 8 => ("SnowTalk$Street", "sights", "I", false)
  | 9 => ("SnowTalk$Street", "sightGarden", "[I", true)
  | _ => ("SnowTalk$Street", "sightDeep", "[I", true)
def tyX4 : Nat → FieldType := fun k => match k with
  | 0 => .int
  | 1 => .array .int
  | 2 => .array .int
  | 3 => .int
  | 4 => .int
  | 5 => .array .int
  | 6 => .array .int
  | 7 => .array .int
  | 8 => .int
  | 9 => .array .int
  | _ => .array .int
theorem nmX4 : ∀ a, a < 11 → ∀ b, b < 11 → a ≠ b → (TX4 a).2.1 ≠ (TX4 b).2.1 := by decide +kernel
theorem tyX4_ok : ∀ k, k < 11 → parseFieldDescriptor (TX4 k).2.2.1 = some (tyX4 k) := by decide +kernel
abbrev cX4_init : ByteArray := prog_6_method_1_code
def yX4_init : MethodName := ⟨RX4, "<init>", "()V"⟩
abbrev cX4_begin : ByteArray := prog_6_method_2_code
def yX4_begin : MethodName := ⟨RX4, "begin", "(I)V"⟩
abbrev cX4_clearSnow : ByteArray := prog_6_method_3_code
def yX4_clearSnow : MethodName := ⟨RX4, "clearSnow", "()V"⟩
abbrev cX4_forgetWords : ByteArray := prog_6_method_4_code
def yX4_forgetWords : MethodName := ⟨RX4, "forgetWords", "()V"⟩
abbrev cX4_copy : ByteArray := prog_6_method_5_code
def yX4_copy : MethodName := ⟨RX4, "copy", "(LSnowTalk$Street;)V"⟩
abbrev cX4_has : ByteArray := prog_6_method_6_code
def yX4_has : MethodName := ⟨RX4, "has", "(I)Z"⟩
abbrev cX4_look : ByteArray := prog_6_method_7_code
def yX4_look : MethodName := ⟨RX4, "look", "(II)I"⟩
abbrev cX4_isDeep : ByteArray := prog_6_method_8_code
def yX4_isDeep : MethodName := ⟨RX4, "isDeep", "(I)Z"⟩
abbrev cX4_weight : ByteArray := prog_6_method_9_code
def yX4_weight : MethodName := ⟨RX4, "weight", "(III)I"⟩
abbrev cX4_hindrance : ByteArray := prog_6_method_10_code
def yX4_hindrance : MethodName := ⟨RX4, "hindrance", "(III)I"⟩
abbrev cX4_speak : ByteArray := prog_6_method_11_code
def yX4_speak : MethodName := ⟨RX4, "speak", "(III)V"⟩
abbrev cX4_fall : ByteArray := prog_6_method_12_code
def yX4_fall : MethodName := ⟨RX4, "fall", "(III)V"⟩
abbrev cX4_lower : ByteArray := prog_6_method_13_code
def yX4_lower : MethodName := ⟨RX4, "lower", "(II)V"⟩
abbrev cX4_thaw : ByteArray := prog_6_method_14_code
def yX4_thaw : MethodName := ⟨RX4, "thaw", "()V"⟩
abbrev cX4_overloaded : ByteArray := prog_6_method_15_code
def yX4_overloaded : MethodName := ⟨RX4, "overloaded", "()I"⟩
abbrev cX4_tell : ByteArray := prog_6_method_16_code
def yX4_tell : MethodName := ⟨RX4, "tell", "(III)I"⟩
abbrev cX4_bearsWord : ByteArray := prog_6_method_17_code
def yX4_bearsWord : MethodName := ⟨RX4, "bearsWord", "(III)Z"⟩
abbrev cX4_mostSaidOf : ByteArray := prog_6_method_18_code
def yX4_mostSaidOf : MethodName := ⟨RX4, "mostSaidOf", "(I)I"⟩
abbrev cX4_bears : ByteArray := prog_6_method_19_code
def yX4_bears : MethodName := ⟨RX4, "bears", "(II)Z"⟩
abbrev cX4_isSeen : ByteArray := prog_6_method_20_code
def yX4_isSeen : MethodName := ⟨RX4, "isSeen", "(I)Z"⟩
abbrev cX4_sightsHold : ByteArray := prog_6_method_21_code
def yX4_sightsHold : MethodName := ⟨RX4, "sightsHold", "([I)Z"⟩
abbrev cX4_draw : ByteArray := prog_6_method_22_code
def yX4_draw : MethodName := ⟨RX4, "draw", "(I)V"⟩
abbrev cX4_deepTogether : ByteArray := prog_6_method_23_code
def yX4_deepTogether : MethodName := ⟨RX4, "deepTogether", "()I"⟩
def RX5 : String := "SnowTalk$Talk"
def TX5 : u_T := fun k => match k with
  | 0 => ("SnowTalk$Talk", "signs", "[I", true)
  | 1 => ("SnowTalk$Talk", "length", "I", false)
  | 2 => ("SnowTalk$Talk", "words", "I", false)
  | 3 => ("SnowTalk$Talk", "kind", "[I", true)
  | 4 => ("SnowTalk$Talk", "place", "[I", true)
  | 5 => ("SnowTalk$Talk", "whom", "[I", true)
  | 6 => ("SnowTalk$Talk", "why", "I", false)
  | _ => ("SnowTalk$Talk", "firstFall", "I", false)
def tyX5 : Nat → FieldType := fun k => match k with
  | 0 => .array .int
  | 1 => .int
  | 2 => .int
  | 3 => .array .int
  | 4 => .array .int
  | 5 => .array .int
  | 6 => .int
  | _ => .int
theorem nmX5 : ∀ a, a < 8 → ∀ b, b < 8 → a ≠ b → (TX5 a).2.1 ≠ (TX5 b).2.1 := by decide +kernel
theorem tyX5_ok : ∀ k, k < 8 → parseFieldDescriptor (TX5 k).2.2.1 = some (tyX5 k) := by decide +kernel
abbrev cX5_init : ByteArray := prog_7_method_1_code
def yX5_init : MethodName := ⟨RX5, "<init>", "()V"⟩
abbrev cX5_read : ByteArray := prog_7_method_2_code
def yX5_read : MethodName := ⟨RX5, "read", "(I)I"⟩
abbrev cX5_readWord : ByteArray := prog_7_method_3_code
def yX5_readWord : MethodName := ⟨RX5, "readWord", "(II)I"⟩
abbrev cX5_signAt : ByteArray := prog_7_method_4_code
def yX5_signAt : MethodName := ⟨RX5, "signAt", "(I)I"⟩
abbrev cX5_addWord : ByteArray := prog_7_method_5_code
def yX5_addWord : MethodName := ⟨RX5, "addWord", "(IIII)I"⟩
abbrev cX5_kindOf : ByteArray := prog_7_method_6_code
def yX5_kindOf : MethodName := ⟨RX5, "kindOf", "(I)I"⟩
abbrev cX5_holdOn : ByteArray := prog_7_method_7_code
def yX5_holdOn : MethodName := ⟨RX5, "holdOn", "(LSnowTalk$Street;)I"⟩
abbrev cX5_isOfOthersOnly : ByteArray := prog_7_method_8_code
def yX5_isOfOthersOnly : MethodName := ⟨RX5, "isOfOthersOnly", "()Z"⟩
abbrev cX5_fitsLaw : ByteArray := prog_7_method_9_code
def yX5_fitsLaw : MethodName := ⟨RX5, "fitsLaw", "(LSnowTalk$Street;III)Z"⟩
def RX6 : String := "SnowTalk"
def TX6 : u_T := fun k => match k with
  | 0 => ("SnowTalk", "now", "LSnowTalk$Street;", true)
  | 1 => ("SnowTalk", "trial", "LSnowTalk$Street;", true)
  | 2 => ("SnowTalk", "images", "[LSnowTalk$Street;", true)
  | 3 => ("SnowTalk", "talk", "LSnowTalk$Talk;", true)
  | 4 => ("SnowTalk", "places", "LSnowTalk$Places;", true)
  | 5 => ("SnowTalk", "salt", "LSnowTalk$Salt;", true)
  | 6 => ("SnowTalk", "rows", "LSnowTalk$Rows;", true)
  | _ => ("SnowTalk", "lies", "LSnowTalk$Lies;", true)
def tyX6 : Nat → FieldType := fun k => match k with
  | 0 => .object "SnowTalk$Street"
  | 1 => .object "SnowTalk$Street"
  | 2 => .array (.object "SnowTalk$Street")
  | 3 => .object "SnowTalk$Talk"
  | 4 => .object "SnowTalk$Places"
  | 5 => .object "SnowTalk$Salt"
  | 6 => .object "SnowTalk$Rows"
  | _ => .object "SnowTalk$Lies"
theorem nmX6 : ∀ a, a < 8 → ∀ b, b < 8 → a ≠ b → (TX6 a).2.1 ≠ (TX6 b).2.1 := by decide +kernel
theorem tyX6_ok : ∀ k, k < 8 → parseFieldDescriptor (TX6 k).2.2.1 = some (tyX6 k) := by decide +kernel
abbrev cX6_init : ByteArray := prog_1_method_1_code
def yX6_init : MethodName := ⟨RX6, "<init>", "()V"⟩
abbrev cX6_gardens : ByteArray := prog_1_method_2_code
def yX6_gardens : MethodName := ⟨RX6, "gardens", "(I)I"⟩
abbrev cX6_garden : ByteArray := prog_1_method_3_code
def yX6_garden : MethodName := ⟨RX6, "garden", "(III)I"⟩
abbrev cX6_set : ByteArray := prog_1_method_4_code
def yX6_set : MethodName := ⟨RX6, "set", "(II)I"⟩
abbrev cX6_say : ByteArray := prog_1_method_5_code
def yX6_say : MethodName := ⟨RX6, "say", "(I)I"⟩
abbrev cX6_wipe : ByteArray := prog_1_method_6_code
def yX6_wipe : MethodName := ⟨RX6, "wipe", "()I"⟩
abbrev cX6_fault : ByteArray := prog_1_method_7_code
def yX6_fault : MethodName := ⟨RX6, "fault", "()I"⟩
abbrev cX6_judge : ByteArray := prog_1_method_8_code
def yX6_judge : MethodName := ⟨RX6, "judge", "(I)I"⟩
abbrev cX6_done : ByteArray := prog_1_method_9_code
def yX6_done : MethodName := ⟨RX6, "done", "()I"⟩
abbrev cX6_state : ByteArray := prog_1_method_10_code
def yX6_state : MethodName := ⟨RX6, "state", "(II)I"⟩
abbrev cX6_behind : ByteArray := prog_1_method_11_code
def yX6_behind : MethodName := ⟨RX6, "behind", "(II)I"⟩
abbrev cX6_first : ByteArray := prog_1_method_12_code
def yX6_first : MethodName := ⟨RX6, "first", "()I"⟩
abbrev cX6_recognised : ByteArray := prog_1_method_13_code
def yX6_recognised : MethodName := ⟨RX6, "recognised", "(I)I"⟩
abbrev cX6_where : ByteArray := prog_1_method_14_code
def yX6_where : MethodName := ⟨RX6, "where", "(I)I"⟩
abbrev cX6_cleared : ByteArray := prog_1_method_15_code
def yX6_cleared : MethodName := ⟨RX6, "cleared", "(I)I"⟩
abbrev cX6_salted : ByteArray := prog_1_method_16_code
def yX6_salted : MethodName := ⟨RX6, "salted", "(I)I"⟩
abbrev cX6_slide : ByteArray := prog_1_method_17_code
def yX6_slide : MethodName := ⟨RX6, "slide", "(III)I"⟩
abbrev cX6_holds : ByteArray := prog_1_method_18_code
def yX6_holds : MethodName := ⟨RX6, "holds", "(I)I"⟩
abbrev cX6_seen : ByteArray := prog_1_method_19_code
def yX6_seen : MethodName := ⟨RX6, "seen", "(II)I"⟩
abbrev cX6_forget : ByteArray := prog_1_method_20_code
def yX6_forget : MethodName := ⟨RX6, "forget", "()I"⟩
abbrev cX6_who : ByteArray := prog_1_method_21_code
def yX6_who : MethodName := ⟨RX6, "who", "(II)I"⟩
abbrev cX6_next : ByteArray := prog_1_method_22_code
def yX6_next : MethodName := ⟨RX6, "next", "(II)I"⟩
abbrev cX6_laws : ByteArray := prog_1_method_23_code
def yX6_laws : MethodName := ⟨RX6, "laws", "(I)I"⟩
abbrev cX6_guests : ByteArray := prog_1_method_24_code
def yX6_guests : MethodName := ⟨RX6, "guests", "(IIII)J"⟩
abbrev cX6_build : ByteArray := prog_1_method_25_code
def yX6_build : MethodName := ⟨RX6, "build", "(IIIII)I"⟩
abbrev cX6_elsewhere : ByteArray := prog_1_method_26_code
def yX6_elsewhere : MethodName := ⟨RX6, "elsewhere", "(I)I"⟩
abbrev cX6_winter : ByteArray := prog_1_method_27_code
def yX6_winter : MethodName := ⟨RX6, "winter", "(III)I"⟩
abbrev cX6_image : ByteArray := prog_1_method_28_code
def yX6_image : MethodName := ⟨RX6, "image", "(I)I"⟩
abbrev cX6_restore : ByteArray := prog_1_method_29_code
def yX6_restore : MethodName := ⟨RX6, "restore", "(I)I"⟩
abbrev cX6_told : ByteArray := prog_1_method_30_code
def yX6_told : MethodName := ⟨RX6, "told", "(I)I"⟩
abbrev cX6_isOutside : ByteArray := prog_1_method_31_code
def yX6_isOutside : MethodName := ⟨RX6, "isOutside", "(III)Z"⟩
abbrev cX6_talkCanBe : ByteArray := prog_1_method_32_code
def yX6_talkCanBe : MethodName := ⟨RX6, "talkCanBe", "()Z"⟩
abbrev cX6_passNight : ByteArray := prog_1_method_33_code
def yX6_passNight : MethodName := ⟨RX6, "passNight", "([II)V"⟩
abbrev cX6_chanceOf : ByteArray := prog_1_method_34_code
def yX6_chanceOf : MethodName := ⟨RX6, "chanceOf", "(III)J"⟩
abbrev cX6_power : ByteArray := prog_1_method_35_code
def yX6_power : MethodName := ⟨RX6, "power", "(II)J"⟩
abbrev cX6_commonDivisor : ByteArray := prog_1_method_36_code
def yX6_commonDivisor : MethodName := ⟨RX6, "commonDivisor", "(JJ)J"⟩
def RX7 : String := "SnowTalkModel"
def TX7 : u_T := fun k => match k with
  | 0 => ("SnowTalkModel", "n", "I", false)
  | 1 => ("SnowTalkModel", "deep", "[I", true)
  | 2 => ("SnowTalkModel", "roof", "[I", true)
  | 3 => ("SnowTalkModel", "fallen", "I", false)
  | 4 => ("SnowTalkModel", "brook", "I", false)
  | 5 => ("SnowTalkModel", "said", "[I", true)
  | 6 => ("SnowTalkModel", "flakes", "[I", true)
  | 7 => ("SnowTalkModel", "truth", "I", false)
  | 8 => ("SnowTalkModel", "lie", "I", false)
  | 9 => ("SnowTalkModel", "again", "I", false)
  | 10 => ("SnowTalkModel", "shovel", "I", false)
  | 11 => ("SnowTalkModel", "sights", "I", false)
  | 12 => ("SnowTalkModel", "sight", "[I", true)
  | 13 => ("SnowTalkModel", "signs", "I", false)
  | 14 => ("SnowTalkModel", "pad", "[I", true)
  | 15 => ("SnowTalkModel", "now", "[I", true)
  | 16 => ("SnowTalkModel", "then", "[I", true)
  | 17 => ("SnowTalkModel", "of", "[I", true)
  | 18 => ("SnowTalkModel", "fell", "[I", true)
  | 19 => ("SnowTalkModel", "down", "I", false)
  | 20 => ("SnowTalkModel", "water", "I", false)
  | 21 => ("SnowTalkModel", "byTruth", "I", false)
  | 22 => ("SnowTalkModel", "byLie", "I", false)
  | 23 => ("SnowTalkModel", "byAgain", "I", false)
  | 24 => ("SnowTalkModel", "reason", "I", false)
  | 25 => ("SnowTalkModel", "words", "I", false)
  | 26 => ("SnowTalkModel", "firstFall", "I", false)
  | 27 => ("SnowTalkModel", "places", "[I", true)
  | 28 => ("SnowTalkModel", "best", "[I", true)
  | 29 => ("SnowTalkModel", "many", "I", false)
  | 30 => ("SnowTalkModel", "comes", "I", false)
  | 31 => ("SnowTalkModel", "rows", "I", false)
  | 32 => ("SnowTalkModel", "some", "I", false)
  | 33 => ("SnowTalkModel", "every", "I", false)
  | 34 => ("SnowTalkModel", "depths", "[I", true)
  | 35 => ("SnowTalkModel", "counts", "[I", true)
  | 36 => ("SnowTalkModel", "goes", "[I", true)
  | 37 => ("SnowTalkModel", "image", "[I", true)
  | _ => ("SnowTalkModel", "isKept", "[Z", true)
def tyX7 : Nat → FieldType := fun k => match k with
  | 0 => .int
  | 1 => .array .int
  | 2 => .array .int
  | 3 => .int
  | 4 => .int
  | 5 => .array .int
  | 6 => .array .int
  | 7 => .int
  | 8 => .int
  | 9 => .int
  | 10 => .int
  | 11 => .int
  | 12 => .array .int
  | 13 => .int
  | 14 => .array .int
  | 15 => .array .int
  | 16 => .array .int
  | 17 => .array .int
  | 18 => .array .int
  | 19 => .int
  | 20 => .int
  | 21 => .int
  | 22 => .int
  | 23 => .int
  | 24 => .int
  | 25 => .int
  | 26 => .int
  | 27 => .array .int
  | 28 => .array .int
  | 29 => .int
  | 30 => .int
  | 31 => .int
  | 32 => .int
  | 33 => .int
  | 34 => .array .int
  | 35 => .array .int
  | 36 => .array .int
  | 37 => .array .int
  | _ => .array .boolean
theorem nmX7 : ∀ a, a < 39 → ∀ b, b < 39 → a ≠ b → (TX7 a).2.1 ≠ (TX7 b).2.1 := by decide +kernel
theorem tyX7_ok : ∀ k, k < 39 → parseFieldDescriptor (TX7 k).2.2.1 = some (tyX7 k) := by decide +kernel
abbrev cX7_init : ByteArray := prog_9_method_1_code
def yX7_init : MethodName := ⟨RX7, "<init>", "()V"⟩
abbrev cX7_clear : ByteArray := prog_9_method_2_code
def yX7_clear : MethodName := ⟨RX7, "clear", "()V"⟩
abbrev cX7_in : ByteArray := prog_9_method_3_code
def yX7_in : MethodName := ⟨RX7, "in", "(III)Z"⟩
abbrev cX7_has : ByteArray := prog_9_method_4_code
def yX7_has : MethodName := ⟨RX7, "has", "(II)Z"⟩
abbrev cX7_isGarden : ByteArray := prog_9_method_5_code
def yX7_isGarden : MethodName := ⟨RX7, "isGarden", "(I)Z"⟩
abbrev cX7_gardens : ByteArray := prog_9_method_6_code
def yX7_gardens : MethodName := ⟨RX7, "gardens", "(I)I"⟩
abbrev cX7_garden : ByteArray := prog_9_method_7_code
def yX7_garden : MethodName := ⟨RX7, "garden", "(III)I"⟩
abbrev cX7_set : ByteArray := prog_9_method_8_code
def yX7_set : MethodName := ⟨RX7, "set", "(II)I"⟩
abbrev cX7_say : ByteArray := prog_9_method_9_code
def yX7_say : MethodName := ⟨RX7, "say", "(I)I"⟩
abbrev cX7_wipe : ByteArray := prog_9_method_10_code
def yX7_wipe : MethodName := ⟨RX7, "wipe", "()I"⟩
abbrev cX7_faultOf : ByteArray := prog_9_method_11_code
def yX7_faultOf : MethodName := ⟨RX7, "faultOf", "()I"⟩
abbrev cX7_fault : ByteArray := prog_9_method_12_code
def yX7_fault : MethodName := ⟨RX7, "fault", "()I"⟩
abbrev cX7_asNow : ByteArray := prog_9_method_13_code
def yX7_asNow : MethodName := ⟨RX7, "asNow", "()V"⟩
abbrev cX7_collapse : ByteArray := prog_9_method_14_code
def yX7_collapse : MethodName := ⟨RX7, "collapse", "()V"⟩
abbrev cX7_night : ByteArray := prog_9_method_15_code
def yX7_night : MethodName := ⟨RX7, "night", "()V"⟩
abbrev cX7_thaw : ByteArray := prog_9_method_16_code
def yX7_thaw : MethodName := ⟨RX7, "thaw", "()V"⟩
abbrev cX7_flakesOf : ByteArray := prog_9_method_17_code
def yX7_flakesOf : MethodName := ⟨RX7, "flakesOf", "(III)I"⟩
abbrev cX7_snow : ByteArray := prog_9_method_18_code
def yX7_snow : MethodName := ⟨RX7, "snow", "(III)V"⟩
abbrev cX7_isBare : ByteArray := prog_9_method_19_code
def yX7_isBare : MethodName := ⟨RX7, "isBare", "(I)Z"⟩
abbrev cX7_less : ByteArray := prog_9_method_20_code
def yX7_less : MethodName := ⟨RX7, "less", "(II)I"⟩
abbrev cX7_salt : ByteArray := prog_9_method_21_code
def yX7_salt : MethodName := ⟨RX7, "salt", "(I)V"⟩
abbrev cX7_whyNot : ByteArray := prog_9_method_22_code
def yX7_whyNot : MethodName := ⟨RX7, "whyNot", "(III)I"⟩
abbrev cX7_speak : ByteArray := prog_9_method_23_code
def yX7_speak : MethodName := ⟨RX7, "speak", "(III)V"⟩
abbrev cX7_goTalk : ByteArray := prog_9_method_24_code
def yX7_goTalk : MethodName := ⟨RX7, "goTalk", "(Z)I"⟩
abbrev cX7_judge : ByteArray := prog_9_method_25_code
def yX7_judge : MethodName := ⟨RX7, "judge", "(I)I"⟩
abbrev cX7_barOfTalk : ByteArray := prog_9_method_26_code
def yX7_barOfTalk : MethodName := ⟨RX7, "barOfTalk", "()I"⟩
abbrev cX7_done : ByteArray := prog_9_method_27_code
def yX7_done : MethodName := ⟨RX7, "done", "()I"⟩
abbrev cX7_state : ByteArray := prog_9_method_28_code
def yX7_state : MethodName := ⟨RX7, "state", "(II)I"⟩
abbrev cX7_behind : ByteArray := prog_9_method_29_code
def yX7_behind : MethodName := ⟨RX7, "behind", "(II)I"⟩
abbrev cX7_first : ByteArray := prog_9_method_30_code
def yX7_first : MethodName := ⟨RX7, "first", "()I"⟩
abbrev cX7_recognised : ByteArray := prog_9_method_31_code
def yX7_recognised : MethodName := ⟨RX7, "recognised", "(I)I"⟩
abbrev cX7_isPlain : ByteArray := prog_9_method_32_code
def yX7_isPlain : MethodName := ⟨RX7, "isPlain", "()Z"⟩
abbrev cX7_unsaid : ByteArray := prog_9_method_33_code
def yX7_unsaid : MethodName := ⟨RX7, "unsaid", "()I"⟩
abbrev cX7_where : ByteArray := prog_9_method_34_code
def yX7_where : MethodName := ⟨RX7, "where", "(I)I"⟩
abbrev cX7_cleared : ByteArray := prog_9_method_35_code
def yX7_cleared : MethodName := ⟨RX7, "cleared", "(I)I"⟩
abbrev cX7_salted : ByteArray := prog_9_method_36_code
def yX7_salted : MethodName := ⟨RX7, "salted", "(I)I"⟩
abbrev cX7_slideOf : ByteArray := prog_9_method_37_code
def yX7_slideOf : MethodName := ⟨RX7, "slideOf", "(II)I"⟩
abbrev cX7_slide : ByteArray := prog_9_method_38_code
def yX7_slide : MethodName := ⟨RX7, "slide", "(III)I"⟩
abbrev cX7_holds : ByteArray := prog_9_method_39_code
def yX7_holds : MethodName := ⟨RX7, "holds", "(I)I"⟩
abbrev cX7_seen : ByteArray := prog_9_method_40_code
def yX7_seen : MethodName := ⟨RX7, "seen", "(II)I"⟩
abbrev cX7_forget : ByteArray := prog_9_method_41_code
def yX7_forget : MethodName := ⟨RX7, "forget", "()I"⟩
abbrev cX7_holdsNow : ByteArray := prog_9_method_42_code
def yX7_holdsNow : MethodName := ⟨RX7, "holdsNow", "()Z"⟩
abbrev cX7_layWho : ByteArray := prog_9_method_43_code
def yX7_layWho : MethodName := ⟨RX7, "layWho", "(I)V"⟩
abbrev cX7_who : ByteArray := prog_9_method_44_code
def yX7_who : MethodName := ⟨RX7, "who", "(II)I"⟩
abbrev cX7_isSeen : ByteArray := prog_9_method_45_code
def yX7_isSeen : MethodName := ⟨RX7, "isSeen", "(I)Z"⟩
abbrev cX7_next : ByteArray := prog_9_method_46_code
def yX7_next : MethodName := ⟨RX7, "next", "(II)I"⟩
abbrev cX7_isLaw : ByteArray := prog_9_method_47_code
def yX7_isLaw : MethodName := ⟨RX7, "isLaw", "(I)Z"⟩
abbrev cX7_laws : ByteArray := prog_9_method_48_code
def yX7_laws : MethodName := ⟨RX7, "laws", "(I)I"⟩
abbrev cX7_tens : ByteArray := prog_9_method_49_code
def yX7_tens : MethodName := ⟨RX7, "tens", "(I)J"⟩
abbrev cX7_bearing : ByteArray := prog_9_method_50_code
def yX7_bearing : MethodName := ⟨RX7, "bearing", "(IIII)J"⟩
abbrev cX7_guests : ByteArray := prog_9_method_51_code
def yX7_guests : MethodName := ⟨RX7, "guests", "(IIII)J"⟩
abbrev cX7_build : ByteArray := prog_9_method_52_code
def yX7_build : MethodName := ⟨RX7, "build", "(IIIII)I"⟩
abbrev cX7_others : ByteArray := prog_9_method_53_code
def yX7_others : MethodName := ⟨RX7, "others", "(II)I"⟩
abbrev cX7_elsewhere : ByteArray := prog_9_method_54_code
def yX7_elsewhere : MethodName := ⟨RX7, "elsewhere", "(I)I"⟩
abbrev cX7_winter : ByteArray := prog_9_method_55_code
def yX7_winter : MethodName := ⟨RX7, "winter", "(III)I"⟩
abbrev cX7_image : ByteArray := prog_9_method_56_code
def yX7_image : MethodName := ⟨RX7, "image", "(I)I"⟩
abbrev cX7_restore : ByteArray := prog_9_method_57_code
def yX7_restore : MethodName := ⟨RX7, "restore", "(I)I"⟩
abbrev cX7_told : ByteArray := prog_9_method_58_code
def yX7_told : MethodName := ⟨RX7, "told", "(I)I"⟩
def RJ7 : String := "java/util/Arrays"
def TJ7 : u_T := fun k => match k with
  | _ => ("", "", "", false)
def tyJ7 : Nat → FieldType := fun k => match k with
  | _ => .int
theorem nmJ7 : ∀ a, a < 0 → ∀ b, b < 0 → a ≠ b → (TJ7 a).2.1 ≠ (TJ7 b).2.1 := by decide +kernel
theorem tyJ7_ok : ∀ k, k < 0 → parseFieldDescriptor (TJ7 k).2.2.1 = some (tyJ7 k) := by decide +kernel
abbrev cJ7_rangeCheck_23922 : ByteArray := prog_12_method_30_code
def yJ7_rangeCheck_23922 : MethodName := ⟨RJ7, "rangeCheck", "(III)V"⟩
abbrev cJ7_fill_53178 : ByteArray := prog_12_method_103_code
def yJ7_fill_53178 : MethodName := ⟨RJ7, "fill", "([II)V"⟩
abbrev cJ7_fill_fda19 : ByteArray := prog_12_method_104_code
def yJ7_fill_fda19 : MethodName := ⟨RJ7, "fill", "([IIII)V"⟩
def RL : String := "SnowTalkLaw"
abbrev cL_law : ByteArray := code
def yL_law : MethodName := ⟨RL, "law", "([I)Z"⟩
abbrev vwCl : List vw_C := [(RX0, TX0, 2), (RX1, TX1, 3), (RX2, TX2, 8), (RX3, TX3, 4), (RX4, TX4, 11), (RX5, TX5, 8), (RX6, TX6, 8), (RX7, TX7, 39)]
