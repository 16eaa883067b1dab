section
/-- a private method of a class that the tables say can be made, by its rows of tables_1 -/
def lw_okq (q : MethodName × Nat) : Prop := (q.1.cls ≠ "java/lang/invoke/MethodHandle" ∧ q.1.cls ≠ "java/lang/invoke/VarHandle") ∧ Cond.instantiable q.1.cls q.2 ∈ tables_1 ∧ Cond.privateMethod q.1 ∈ tables_1 ∧ Cond.instanceMethod q.1 ∈ tables_1
theorem lw_p0 : lw_okq (⟨"SnowTalk$Talk", "readWord", "(II)I"⟩, 8) := ⟨⟨by decide +kernel, by decide +kernel⟩, List.mem_of_getElem? (i := 104) (by decide +kernel), List.mem_of_getElem? (i := 298) (by decide +kernel), List.mem_of_getElem? (i := 299) (by decide +kernel)⟩
theorem lw_p1 : lw_okq (⟨"SnowTalk$Talk", "signAt", "(I)I"⟩, 8) := ⟨⟨by decide +kernel, by decide +kernel⟩, List.mem_of_getElem? (i := 104) (by decide +kernel), List.mem_of_getElem? (i := 302) (by decide +kernel), List.mem_of_getElem? (i := 303) (by decide +kernel)⟩
theorem lw_p2 : lw_okq (⟨"SnowTalk$Talk", "addWord", "(IIII)I"⟩, 8) := ⟨⟨by decide +kernel, by decide +kernel⟩, List.mem_of_getElem? (i := 104) (by decide +kernel), List.mem_of_getElem? (i := 306) (by decide +kernel), List.mem_of_getElem? (i := 307) (by decide +kernel)⟩
theorem lw_p3 : lw_okq (⟨"SnowTalk$Street", "fall", "(III)V"⟩, 11) := ⟨⟨by decide +kernel, by decide +kernel⟩, List.mem_of_getElem? (i := 21) (by decide +kernel), List.mem_of_getElem? (i := 349) (by decide +kernel), List.mem_of_getElem? (i := 350) (by decide +kernel)⟩
theorem lw_p4 : lw_okq (⟨"SnowTalk$Street", "lower", "(II)V"⟩, 11) := ⟨⟨by decide +kernel, by decide +kernel⟩, List.mem_of_getElem? (i := 21) (by decide +kernel), List.mem_of_getElem? (i := 353) (by decide +kernel), List.mem_of_getElem? (i := 354) (by decide +kernel)⟩
theorem lw_p5 : lw_okq (⟨"SnowTalk$Street", "thaw", "()V"⟩, 11) := ⟨⟨by decide +kernel, by decide +kernel⟩, List.mem_of_getElem? (i := 21) (by decide +kernel), List.mem_of_getElem? (i := 363) (by decide +kernel), List.mem_of_getElem? (i := 364) (by decide +kernel)⟩
theorem lw_p6 : lw_okq (⟨"SnowTalk", "talkCanBe", "()Z"⟩, 8) := ⟨⟨by decide +kernel, by decide +kernel⟩, List.mem_of_getElem? (i := 13) (by decide +kernel), List.mem_of_getElem? (i := 378) (by decide +kernel), List.mem_of_getElem? (i := 379) (by decide +kernel)⟩
theorem lw_p7 : lw_okq (⟨"SnowTalk$Places", "keep", "(I)V"⟩, 5) := ⟨⟨by decide +kernel, by decide +kernel⟩, List.mem_of_getElem? (i := 143) (by decide +kernel), List.mem_of_getElem? (i := 422) (by decide +kernel), List.mem_of_getElem? (i := 423) (by decide +kernel)⟩
theorem lw_p8 : lw_okq (⟨"SnowTalk$Places", "sayIn", "(II)Z"⟩, 5) := ⟨⟨by decide +kernel, by decide +kernel⟩, List.mem_of_getElem? (i := 143) (by decide +kernel), List.mem_of_getElem? (i := 427) (by decide +kernel), List.mem_of_getElem? (i := 428) (by decide +kernel)⟩
theorem lw_p9 : lw_okq (⟨"SnowTalk$Salt", "isEnough", "(I)Z"⟩, 4) := ⟨⟨by decide +kernel, by decide +kernel⟩, List.mem_of_getElem? (i := 167) (by decide +kernel), List.mem_of_getElem? (i := 450) (by decide +kernel), List.mem_of_getElem? (i := 451) (by decide +kernel)⟩
theorem lw_p10 : lw_okq (⟨"SnowTalk$Salt", "spreadsIn", "(I)I"⟩, 4) := ⟨⟨by decide +kernel, by decide +kernel⟩, List.mem_of_getElem? (i := 167) (by decide +kernel), List.mem_of_getElem? (i := 454) (by decide +kernel), List.mem_of_getElem? (i := 455) (by decide +kernel)⟩
theorem lw_p11 : lw_okq (⟨"SnowTalk$Rows", "weigh", "()V"⟩, 9) := ⟨⟨by decide +kernel, by decide +kernel⟩, List.mem_of_getElem? (i := 186) (by decide +kernel), List.mem_of_getElem? (i := 489) (by decide +kernel), List.mem_of_getElem? (i := 490) (by decide +kernel)⟩
theorem lw_p12 : lw_okq (⟨"SnowTalk$Rows", "orders", "()I"⟩, 9) := ⟨⟨by decide +kernel, by decide +kernel⟩, List.mem_of_getElem? (i := 186) (by decide +kernel), List.mem_of_getElem? (i := 498) (by decide +kernel), List.mem_of_getElem? (i := 499) (by decide +kernel)⟩
theorem lw_p13 : lw_okq (⟨"SnowTalk$Lies", "somebodyGoes", "(I)Z"⟩, 2) := ⟨⟨by decide +kernel, by decide +kernel⟩, List.mem_of_getElem? (i := 223) (by decide +kernel), List.mem_of_getElem? (i := 564) (by decide +kernel), List.mem_of_getElem? (i := 565) (by decide +kernel)⟩
theorem lw_p14 : lw_okq (⟨"SnowTalk$Lies", "emptiest", "(II)I"⟩, 2) := ⟨⟨by decide +kernel, by decide +kernel⟩, List.mem_of_getElem? (i := 223) (by decide +kernel), List.mem_of_getElem? (i := 569) (by decide +kernel), List.mem_of_getElem? (i := 570) (by decide +kernel)⟩
theorem lw_p15 : lw_okq (⟨"SnowTalkModel", "clear", "()V"⟩, 39) := ⟨⟨by decide +kernel, by decide +kernel⟩, List.mem_of_getElem? (i := 599) (by decide +kernel), List.mem_of_getElem? (i := 606) (by decide +kernel), List.mem_of_getElem? (i := 607) (by decide +kernel)⟩
def lw_privs_1 : List (MethodName × Nat) := [(⟨"SnowTalk$Talk", "readWord", "(II)I"⟩, 8), (⟨"SnowTalk$Talk", "signAt", "(I)I"⟩, 8), (⟨"SnowTalk$Talk", "addWord", "(IIII)I"⟩, 8), (⟨"SnowTalk$Street", "fall", "(III)V"⟩, 11), (⟨"SnowTalk$Street", "lower", "(II)V"⟩, 11), (⟨"SnowTalk$Street", "thaw", "()V"⟩, 11), (⟨"SnowTalk", "talkCanBe", "()Z"⟩, 8), (⟨"SnowTalk$Places", "keep", "(I)V"⟩, 5), (⟨"SnowTalk$Places", "sayIn", "(II)Z"⟩, 5), (⟨"SnowTalk$Salt", "isEnough", "(I)Z"⟩, 4), (⟨"SnowTalk$Salt", "spreadsIn", "(I)I"⟩, 4), (⟨"SnowTalk$Rows", "weigh", "()V"⟩, 9), (⟨"SnowTalk$Rows", "orders", "()I"⟩, 9), (⟨"SnowTalk$Lies", "somebodyGoes", "(I)Z"⟩, 2), (⟨"SnowTalk$Lies", "emptiest", "(II)I"⟩, 2), (⟨"SnowTalkModel", "clear", "()V"⟩, 39)]
theorem lw_r1 : ∀ q ∈ lw_privs_1, lw_okq q := List.forall_mem_cons.mpr ⟨lw_p0, List.forall_mem_cons.mpr ⟨lw_p1, List.forall_mem_cons.mpr ⟨lw_p2, List.forall_mem_cons.mpr ⟨lw_p3, List.forall_mem_cons.mpr ⟨lw_p4, List.forall_mem_cons.mpr ⟨lw_p5, List.forall_mem_cons.mpr ⟨lw_p6, List.forall_mem_cons.mpr ⟨lw_p7, List.forall_mem_cons.mpr ⟨lw_p8, List.forall_mem_cons.mpr ⟨lw_p9, List.forall_mem_cons.mpr ⟨lw_p10, List.forall_mem_cons.mpr ⟨lw_p11, List.forall_mem_cons.mpr ⟨lw_p12, List.forall_mem_cons.mpr ⟨lw_p13, List.forall_mem_cons.mpr ⟨lw_p14, List.forall_mem_cons.mpr ⟨lw_p15, fun _ h => absurd h List.not_mem_nil⟩⟩⟩⟩⟩⟩⟩⟩⟩⟩⟩⟩⟩⟩⟩⟩
theorem lw_p16 : lw_okq (⟨"SnowTalkModel", "isGarden", "(I)Z"⟩, 39) := ⟨⟨by decide +kernel, by decide +kernel⟩, List.mem_of_getElem? (i := 599) (by decide +kernel), List.mem_of_getElem? (i := 740) (by decide +kernel), List.mem_of_getElem? (i := 741) (by decide +kernel)⟩
theorem lw_p17 : lw_okq (⟨"SnowTalkModel", "faultOf", "()I"⟩, 39) := ⟨⟨by decide +kernel, by decide +kernel⟩, List.mem_of_getElem? (i := 599) (by decide +kernel), List.mem_of_getElem? (i := 760) (by decide +kernel), List.mem_of_getElem? (i := 761) (by decide +kernel)⟩
theorem lw_p18 : lw_okq (⟨"SnowTalkModel", "asNow", "()V"⟩, 39) := ⟨⟨by decide +kernel, by decide +kernel⟩, List.mem_of_getElem? (i := 599) (by decide +kernel), List.mem_of_getElem? (i := 768) (by decide +kernel), List.mem_of_getElem? (i := 769) (by decide +kernel)⟩
theorem lw_p19 : lw_okq (⟨"SnowTalkModel", "goTalk", "(Z)I"⟩, 39) := ⟨⟨by decide +kernel, by decide +kernel⟩, List.mem_of_getElem? (i := 599) (by decide +kernel), List.mem_of_getElem? (i := 772) (by decide +kernel), List.mem_of_getElem? (i := 773) (by decide +kernel)⟩
theorem lw_p20 : lw_okq (⟨"SnowTalkModel", "night", "()V"⟩, 39) := ⟨⟨by decide +kernel, by decide +kernel⟩, List.mem_of_getElem? (i := 599) (by decide +kernel), List.mem_of_getElem? (i := 776) (by decide +kernel), List.mem_of_getElem? (i := 777) (by decide +kernel)⟩
theorem lw_p21 : lw_okq (⟨"SnowTalkModel", "thaw", "()V"⟩, 39) := ⟨⟨by decide +kernel, by decide +kernel⟩, List.mem_of_getElem? (i := 599) (by decide +kernel), List.mem_of_getElem? (i := 780) (by decide +kernel), List.mem_of_getElem? (i := 781) (by decide +kernel)⟩
theorem lw_p22 : lw_okq (⟨"SnowTalkModel", "isBare", "(I)Z"⟩, 39) := ⟨⟨by decide +kernel, by decide +kernel⟩, List.mem_of_getElem? (i := 599) (by decide +kernel), List.mem_of_getElem? (i := 784) (by decide +kernel), List.mem_of_getElem? (i := 785) (by decide +kernel)⟩
theorem lw_p23 : lw_okq (⟨"SnowTalkModel", "salt", "(I)V"⟩, 39) := ⟨⟨by decide +kernel, by decide +kernel⟩, List.mem_of_getElem? (i := 599) (by decide +kernel), List.mem_of_getElem? (i := 788) (by decide +kernel), List.mem_of_getElem? (i := 789) (by decide +kernel)⟩
theorem lw_p24 : lw_okq (⟨"SnowTalkModel", "whyNot", "(III)I"⟩, 39) := ⟨⟨by decide +kernel, by decide +kernel⟩, List.mem_of_getElem? (i := 599) (by decide +kernel), List.mem_of_getElem? (i := 795) (by decide +kernel), List.mem_of_getElem? (i := 796) (by decide +kernel)⟩
theorem lw_p25 : lw_okq (⟨"SnowTalkModel", "flakesOf", "(III)I"⟩, 39) := ⟨⟨by decide +kernel, by decide +kernel⟩, List.mem_of_getElem? (i := 599) (by decide +kernel), List.mem_of_getElem? (i := 799) (by decide +kernel), List.mem_of_getElem? (i := 800) (by decide +kernel)⟩
theorem lw_p26 : lw_okq (⟨"SnowTalkModel", "speak", "(III)V"⟩, 39) := ⟨⟨by decide +kernel, by decide +kernel⟩, List.mem_of_getElem? (i := 599) (by decide +kernel), List.mem_of_getElem? (i := 806) (by decide +kernel), List.mem_of_getElem? (i := 807) (by decide +kernel)⟩
theorem lw_p27 : lw_okq (⟨"SnowTalkModel", "snow", "(III)V"⟩, 39) := ⟨⟨by decide +kernel, by decide +kernel⟩, List.mem_of_getElem? (i := 599) (by decide +kernel), List.mem_of_getElem? (i := 810) (by decide +kernel), List.mem_of_getElem? (i := 811) (by decide +kernel)⟩
theorem lw_p28 : lw_okq (⟨"SnowTalkModel", "collapse", "()V"⟩, 39) := ⟨⟨by decide +kernel, by decide +kernel⟩, List.mem_of_getElem? (i := 599) (by decide +kernel), List.mem_of_getElem? (i := 814) (by decide +kernel), List.mem_of_getElem? (i := 815) (by decide +kernel)⟩
theorem lw_p29 : lw_okq (⟨"SnowTalkModel", "barOfTalk", "()I"⟩, 39) := ⟨⟨by decide +kernel, by decide +kernel⟩, List.mem_of_getElem? (i := 599) (by decide +kernel), List.mem_of_getElem? (i := 822) (by decide +kernel), List.mem_of_getElem? (i := 823) (by decide +kernel)⟩
theorem lw_p30 : lw_okq (⟨"SnowTalkModel", "isPlain", "()Z"⟩, 39) := ⟨⟨by decide +kernel, by decide +kernel⟩, List.mem_of_getElem? (i := 599) (by decide +kernel), List.mem_of_getElem? (i := 846) (by decide +kernel), List.mem_of_getElem? (i := 847) (by decide +kernel)⟩
theorem lw_p31 : lw_okq (⟨"SnowTalkModel", "unsaid", "()I"⟩, 39) := ⟨⟨by decide +kernel, by decide +kernel⟩, List.mem_of_getElem? (i := 599) (by decide +kernel), List.mem_of_getElem? (i := 851) (by decide +kernel), List.mem_of_getElem? (i := 852) (by decide +kernel)⟩
def lw_privs_2 : List (MethodName × Nat) := [(⟨"SnowTalkModel", "isGarden", "(I)Z"⟩, 39), (⟨"SnowTalkModel", "faultOf", "()I"⟩, 39), (⟨"SnowTalkModel", "asNow", "()V"⟩, 39), (⟨"SnowTalkModel", "goTalk", "(Z)I"⟩, 39), (⟨"SnowTalkModel", "night", "()V"⟩, 39), (⟨"SnowTalkModel", "thaw", "()V"⟩, 39), (⟨"SnowTalkModel", "isBare", "(I)Z"⟩, 39), (⟨"SnowTalkModel", "salt", "(I)V"⟩, 39), (⟨"SnowTalkModel", "whyNot", "(III)I"⟩, 39), (⟨"SnowTalkModel", "flakesOf", "(III)I"⟩, 39), (⟨"SnowTalkModel", "speak", "(III)V"⟩, 39), (⟨"SnowTalkModel", "snow", "(III)V"⟩, 39), (⟨"SnowTalkModel", "collapse", "()V"⟩, 39), (⟨"SnowTalkModel", "barOfTalk", "()I"⟩, 39), (⟨"SnowTalkModel", "isPlain", "()Z"⟩, 39), (⟨"SnowTalkModel", "unsaid", "()I"⟩, 39)]
theorem lw_r2 : ∀ q ∈ lw_privs_2, lw_okq q := List.forall_mem_cons.mpr ⟨lw_p16, List.forall_mem_cons.mpr ⟨lw_p17, List.forall_mem_cons.mpr ⟨lw_p18, List.forall_mem_cons.mpr ⟨lw_p19, List.forall_mem_cons.mpr ⟨lw_p20, List.forall_mem_cons.mpr ⟨lw_p21, List.forall_mem_cons.mpr ⟨lw_p22, List.forall_mem_cons.mpr ⟨lw_p23, List.forall_mem_cons.mpr ⟨lw_p24, List.forall_mem_cons.mpr ⟨lw_p25, List.forall_mem_cons.mpr ⟨lw_p26, List.forall_mem_cons.mpr ⟨lw_p27, List.forall_mem_cons.mpr ⟨lw_p28, List.forall_mem_cons.mpr ⟨lw_p29, List.forall_mem_cons.mpr ⟨lw_p30, List.forall_mem_cons.mpr ⟨lw_p31, fun _ h => absurd h List.not_mem_nil⟩⟩⟩⟩⟩⟩⟩⟩⟩⟩⟩⟩⟩⟩⟩⟩
theorem lw_p32 : lw_okq (⟨"SnowTalkModel", "slideOf", "(II)I"⟩, 39) := ⟨⟨by decide +kernel, by decide +kernel⟩, List.mem_of_getElem? (i := 599) (by decide +kernel), List.mem_of_getElem? (i := 867) (by decide +kernel), List.mem_of_getElem? (i := 868) (by decide +kernel)⟩
theorem lw_p33 : lw_okq (⟨"SnowTalkModel", "layWho", "(I)V"⟩, 39) := ⟨⟨by decide +kernel, by decide +kernel⟩, List.mem_of_getElem? (i := 599) (by decide +kernel), List.mem_of_getElem? (i := 887) (by decide +kernel), List.mem_of_getElem? (i := 888) (by decide +kernel)⟩
theorem lw_p34 : lw_okq (⟨"SnowTalkModel", "holdsNow", "()Z"⟩, 39) := ⟨⟨by decide +kernel, by decide +kernel⟩, List.mem_of_getElem? (i := 599) (by decide +kernel), List.mem_of_getElem? (i := 891) (by decide +kernel), List.mem_of_getElem? (i := 892) (by decide +kernel)⟩
theorem lw_p35 : lw_okq (⟨"SnowTalkModel", "isSeen", "(I)Z"⟩, 39) := ⟨⟨by decide +kernel, by decide +kernel⟩, List.mem_of_getElem? (i := 599) (by decide +kernel), List.mem_of_getElem? (i := 899) (by decide +kernel), List.mem_of_getElem? (i := 900) (by decide +kernel)⟩
theorem lw_p36 : lw_okq (⟨"SnowTalkModel", "isLaw", "(I)Z"⟩, 39) := ⟨⟨by decide +kernel, by decide +kernel⟩, List.mem_of_getElem? (i := 599) (by decide +kernel), List.mem_of_getElem? (i := 907) (by decide +kernel), List.mem_of_getElem? (i := 908) (by decide +kernel)⟩
theorem lw_p37 : lw_okq (⟨"SnowTalkModel", "bearing", "(IIII)J"⟩, 39) := ⟨⟨by decide +kernel, by decide +kernel⟩, List.mem_of_getElem? (i := 599) (by decide +kernel), List.mem_of_getElem? (i := 917) (by decide +kernel), List.mem_of_getElem? (i := 918) (by decide +kernel)⟩
theorem lw_p38 : lw_okq (⟨"SnowTalkModel", "others", "(II)I"⟩, 39) := ⟨⟨by decide +kernel, by decide +kernel⟩, List.mem_of_getElem? (i := 599) (by decide +kernel), List.mem_of_getElem? (i := 933) (by decide +kernel), List.mem_of_getElem? (i := 934) (by decide +kernel)⟩
def lw_privs_3 : List (MethodName × Nat) := [(⟨"SnowTalkModel", "slideOf", "(II)I"⟩, 39), (⟨"SnowTalkModel", "layWho", "(I)V"⟩, 39), (⟨"SnowTalkModel", "holdsNow", "()Z"⟩, 39), (⟨"SnowTalkModel", "isSeen", "(I)Z"⟩, 39), (⟨"SnowTalkModel", "isLaw", "(I)Z"⟩, 39), (⟨"SnowTalkModel", "bearing", "(IIII)J"⟩, 39), (⟨"SnowTalkModel", "others", "(II)I"⟩, 39)]
theorem lw_r3 : ∀ q ∈ lw_privs_3, lw_okq q := List.forall_mem_cons.mpr ⟨lw_p32, List.forall_mem_cons.mpr ⟨lw_p33, List.forall_mem_cons.mpr ⟨lw_p34, List.forall_mem_cons.mpr ⟨lw_p35, List.forall_mem_cons.mpr ⟨lw_p36, List.forall_mem_cons.mpr ⟨lw_p37, List.forall_mem_cons.mpr ⟨lw_p38, fun _ h => absurd h List.not_mem_nil⟩⟩⟩⟩⟩⟩⟩
def lw_privs : List (MethodName × Nat) := lw_privs_1 ++ (lw_privs_2 ++ (lw_privs_3))
def lw_tbl : List Cond := k2_sels lw_privs ++ tables_1
theorem lw_privs_ok : ∀ q ∈ lw_privs, lw_okq q := by
  show ∀ q ∈ lw_privs_1 ++ (lw_privs_2 ++ (lw_privs_3)), lw_okq q
  exact List.forall_mem_append.mpr ⟨lw_r1, List.forall_mem_append.mpr ⟨lw_r2, lw_r3⟩⟩
def RX0 : String := "SnowTalk$Lies"
def TX0 : u_T := fun k => match k with
  | 0 => ("SnowTalk$Lies", "saysIn", "[I", true)
  | _ => ("SnowTalk$Lies", "liesIn", "[I", true)
def tyX0 : Nat → FieldType := fun k => match k with
  | 0 => .array .int
  | _ => .array .int
theorem nmX0 : ∀ a, a < 2 → ∀ b, b < 2 → a ≠ b → (TX0 a).2.1 ≠ (TX0 b).2.1 := by decide +kernel
theorem tyX0_ok : ∀ k, k < 2 → parseFieldDescriptor (TX0 k).2.2.1 = some (tyX0 k) := by decide +kernel
abbrev cX0_init : ByteArray := prog_2_method_1_code
def yX0_init : MethodName := ⟨RX0, "<init>", "()V"⟩
abbrev cX0_settle : ByteArray := prog_2_method_2_code
def yX0_settle : MethodName := ⟨RX0, "settle", "(I)I"⟩
abbrev cX0_somebodyGoes : ByteArray := prog_2_method_3_code
def yX0_somebodyGoes : MethodName := ⟨RX0, "somebodyGoes", "(I)Z"⟩
abbrev cX0_emptiest : ByteArray := prog_2_method_4_code
def yX0_emptiest : MethodName := ⟨RX0, "emptiest", "(II)I"⟩
def RX1 : String := "SnowTalk$Places"
def TX1 : u_T := fun k => match k with
  | 0 => ("SnowTalk$Places", "tried", "[I", true)
  | 1 => ("SnowTalk$Places", "best", "[I", true)
  | 2 => ("SnowTalk$Places", "fewest", "I", false)
  | 3 => ("SnowTalk$Places", "street", "LSnowTalk$Street;", false)
  | _ => ("SnowTalk$Places", "talk", "LSnowTalk$Talk;", false)
def tyX1 : Nat → FieldType := fun k => match k with
  | 0 => .array .int
  | 1 => .array .int
  | 2 => .int
  | 3 => .object "SnowTalk$Street"
  | _ => .object "SnowTalk$Talk"
theorem nmX1 : ∀ a, a < 5 → ∀ b, b < 5 → a ≠ b → (TX1 a).2.1 ≠ (TX1 b).2.1 := by decide +kernel
theorem tyX1_ok : ∀ k, k < 5 → parseFieldDescriptor (TX1 k).2.2.1 = some (tyX1 k) := by decide +kernel
abbrev cX1_init : ByteArray := prog_3_method_1_code
def yX1_init : MethodName := ⟨RX1, "<init>", "()V"⟩
abbrev cX1_find : ByteArray := prog_3_method_2_code
def yX1_find : MethodName := ⟨RX1, "find", "(LSnowTalk$Street;LSnowTalk$Talk;)V"⟩
abbrev cX1_placeFrom : ByteArray := prog_3_method_3_code
def yX1_placeFrom : MethodName := ⟨RX1, "placeFrom", "(LSnowTalk$Places;II)V"⟩
abbrev cX1_sayIn : ByteArray := prog_3_method_4_code
def yX1_sayIn : MethodName := ⟨RX1, "sayIn", "(II)Z"⟩
abbrev cX1_keep : ByteArray := prog_3_method_5_code
def yX1_keep : MethodName := ⟨RX1, "keep", "(I)V"⟩
def RX2 : String := "SnowTalk$Rows"
def TX2 : u_T := fun k => match k with
  | 0 => ("SnowTalk$Rows", "picks", "[I", true)
  | 1 => ("SnowTalk$Rows", "day", "[I", true)
  | 2 => ("SnowTalk$Rows", "morning", "[I", true)
  | 3 => ("SnowTalk$Rows", "tally", "[I", true)
  | 4 => ("SnowTalk$Rows", "street", "LSnowTalk$Street;", false)
  | 5 => ("SnowTalk$Rows", "said", "I", false)
  | 6 => ("SnowTalk$Rows", "fit", "I", false)
  | 7 => ("SnowTalk$Rows", "inSome", "I", false)
  | _ => ("SnowTalk$Rows", "inAll", "I", false)
def tyX2 : Nat → FieldType := fun k => match k with
  | 0 => .array .int
  | 1 => .array .int
  | 2 => .array .int
  | 3 => .array .int
  | 4 => .object "SnowTalk$Street"
  | 5 => .int
  | 6 => .int
  | 7 => .int
  | _ => .int
theorem nmX2 : ∀ a, a < 9 → ∀ b, b < 9 → a ≠ b → (TX2 a).2.1 ≠ (TX2 b).2.1 := by decide +kernel
theorem tyX2_ok : ∀ k, k < 9 → parseFieldDescriptor (TX2 k).2.2.1 = some (tyX2 k) := by decide +kernel
abbrev cX2_init : ByteArray := prog_4_method_1_code
def yX2_init : MethodName := ⟨RX2, "<init>", "()V"⟩
abbrev cX2_gather : ByteArray := prog_4_method_2_code
def yX2_gather : MethodName := ⟨RX2, "gather", "(LSnowTalk$Street;I)V"⟩
abbrev cX2_pickFrom : ByteArray := prog_4_method_3_code
def yX2_pickFrom : MethodName := ⟨RX2, "pickFrom", "(LSnowTalk$Rows;II)V"⟩
abbrev cX2_weigh : ByteArray := prog_4_method_4_code
def yX2_weigh : MethodName := ⟨RX2, "weigh", "()V"⟩
abbrev cX2_orders : ByteArray := prog_4_method_5_code
def yX2_orders : MethodName := ⟨RX2, "orders", "()I"⟩
abbrev cX2_gardenToMeasure : ByteArray := prog_4_method_6_code
def yX2_gardenToMeasure : MethodName := ⟨RX2, "gardenToMeasure", "()I"⟩
abbrev cX2_mostLeft : ByteArray := prog_4_method_7_code
def yX2_mostLeft : MethodName := ⟨RX2, "mostLeft", "(I)I"⟩
def RX3 : String := "SnowTalk$Salt"
def TX3 : u_T := fun k => match k with
  | 0 => ("SnowTalk$Salt", "tooDeep", "[I", true)
  | 1 => ("SnowTalk$Salt", "spreads", "[I", true)
  | 2 => ("SnowTalk$Salt", "count", "I", false)
  | _ => ("SnowTalk$Salt", "fewest", "I", false)
def tyX3 : Nat → FieldType := fun k => match k with
  | 0 => .array .int
  | 1 => .array .int
  | 2 => .int
  | _ => .int
theorem nmX3 : ∀ a, a < 4 → ∀ b, b < 4 → a ≠ b → (TX3 a).2.1 ≠ (TX3 b).2.1 := by decide +kernel
theorem tyX3_ok : ∀ k, k < 4 → parseFieldDescriptor (TX3 k).2.2.1 = some (tyX3 k) := by decide +kernel
abbrev cX3_init : ByteArray := prog_5_method_1_code
def yX3_init : MethodName := ⟨RX3, "<init>", "()V"⟩
abbrev cX3_fewestFor : ByteArray := prog_5_method_2_code
def yX3_fewestFor : MethodName := ⟨RX3, "fewestFor", "(LSnowTalk$Street;I)I"⟩
abbrev cX3_spreadFrom : ByteArray := prog_5_method_3_code
def yX3_spreadFrom : MethodName := ⟨RX3, "spreadFrom", "(LSnowTalk$Salt;II)V"⟩
abbrev cX3_isEnough : ByteArray := prog_5_method_4_code
def yX3_isEnough : MethodName := ⟨RX3, "isEnough", "(I)Z"⟩
abbrev cX3_spreadsIn : ByteArray := prog_5_method_5_code
def yX3_spreadsIn : MethodName := ⟨RX3, "spreadsIn", "(I)I"⟩
def RX4 : String := "SnowTalk$Street"
def TX4 : u_T := fun k => match k with
  | 0 => ("SnowTalk$Street", "count", "I", false)
  | 1 => ("SnowTalk$Street", "deep", "[I", true)
  | 2 => ("SnowTalk$Street", "roof", "[I", true)
  | 3 => ("SnowTalk$Street", "fallen", "I", false)
  | 4 => ("SnowTalk$Street", "brook", "I", false)
  | 5 => ("SnowTalk$Street", "rule", "[I", true)
  | 6 => ("SnowTalk$Street", "said", "[I", true)
  | 7 => ("SnowTalk$Street", "flakes", "[I", true)
  | 8 => ("SnowTalk$Street", "sights", "I", false)
  | 9 => ("SnowTalk$Street", "sightGarden", "[I", true)
  | _ => ("SnowTalk$Street", "sightDeep", "[I", true)
def tyX4 : Nat → FieldType := fun k => match k with
  | 0 => .int
  | 1 => .array .int
  | 2 => .array .int
  | 3 => .int
  | 4 => .int
  | 5 => .array .int
  | 6 => .array .int
  | 7 => .array .int
  | 8 => .int
  | 9 => .array .int
  | _ => .array .int
theorem nmX4 : ∀ a, a < 11 → ∀ b, b < 11 → a ≠ b → (TX4 a).2.1 ≠ (TX4 b).2.1 := by decide +kernel
theorem tyX4_ok : ∀ k, k < 11 → parseFieldDescriptor (TX4 k).2.2.1 = some (tyX4 k) := by decide +kernel
abbrev cX4_init : ByteArray := prog_6_method_1_code
def yX4_init : MethodName := ⟨RX4, "<init>", "()V"⟩
abbrev cX4_begin : ByteArray := prog_6_method_2_code
def yX4_begin : MethodName := ⟨RX4, "begin", "(I)V"⟩
abbrev cX4_clearSnow : ByteArray := prog_6_method_3_code
def yX4_clearSnow : MethodName := ⟨RX4, "clearSnow", "()V"⟩
abbrev cX4_forgetWords : ByteArray := prog_6_method_4_code
def yX4_forgetWords : MethodName := ⟨RX4, "forgetWords", "()V"⟩
abbrev cX4_copy : ByteArray := prog_6_method_5_code
def yX4_copy : MethodName := ⟨RX4, "copy", "(LSnowTalk$Street;)V"⟩
abbrev cX4_has : ByteArray := prog_6_method_6_code
def yX4_has : MethodName := ⟨RX4, "has", "(I)Z"⟩
abbrev cX4_look : ByteArray := prog_6_method_7_code
def yX4_look : MethodName := ⟨RX4, "look", "(II)I"⟩
abbrev cX4_isDeep : ByteArray := prog_6_method_8_code
def yX4_isDeep : MethodName := ⟨RX4, "isDeep", "(I)Z"⟩
abbrev cX4_weight : ByteArray := prog_6_method_9_code
def yX4_weight : MethodName := ⟨RX4, "weight", "(III)I"⟩
abbrev cX4_hindrance : ByteArray := prog_6_method_10_code
def yX4_hindrance : MethodName := ⟨RX4, "hindrance", "(III)I"⟩
abbrev cX4_speak : ByteArray := prog_6_method_11_code
def yX4_speak : MethodName := ⟨RX4, "speak", "(III)V"⟩
abbrev cX4_fall : ByteArray := prog_6_method_12_code
def yX4_fall : MethodName := ⟨RX4, "fall", "(III)V"⟩
abbrev cX4_lower : ByteArray := prog_6_method_13_code
def yX4_lower : MethodName := ⟨RX4, "lower", "(II)V"⟩
abbrev cX4_thaw : ByteArray := prog_6_method_14_code
def yX4_thaw : MethodName := ⟨RX4, "thaw", "()V"⟩
abbrev cX4_overloaded : ByteArray := prog_6_method_15_code
def yX4_overloaded : MethodName := ⟨RX4, "overloaded", "()I"⟩
abbrev cX4_tell : ByteArray := prog_6_method_16_code
def yX4_tell : MethodName := ⟨RX4, "tell", "(III)I"⟩
abbrev cX4_mostSaidOf : ByteArray := prog_6_method_17_code
def yX4_mostSaidOf : MethodName := ⟨RX4, "mostSaidOf", "(I)I"⟩
abbrev cX4_bears : ByteArray := prog_6_method_18_code
def yX4_bears : MethodName := ⟨RX4, "bears", "(II)Z"⟩
abbrev cX4_isSeen : ByteArray := prog_6_method_19_code
def yX4_isSeen : MethodName := ⟨RX4, "isSeen", "(I)Z"⟩
abbrev cX4_sightsHold : ByteArray := prog_6_method_20_code
def yX4_sightsHold : MethodName := ⟨RX4, "sightsHold", "([I)Z"⟩
abbrev cX4_draw : ByteArray := prog_6_method_21_code
def yX4_draw : MethodName := ⟨RX4, "draw", "(I)V"⟩
abbrev cX4_deepTogether : ByteArray := prog_6_method_22_code
def yX4_deepTogether : MethodName := ⟨RX4, "deepTogether", "()I"⟩
def RX5 : String := "SnowTalk$Talk"
def TX5 : u_T := fun k => match k with
  | 0 => ("SnowTalk$Talk", "signs", "[I", true)
  | 1 => ("SnowTalk$Talk", "length", "I", false)
  | 2 => ("SnowTalk$Talk", "words", "I", false)
  | 3 => ("SnowTalk$Talk", "kind", "[I", true)
  | 4 => ("SnowTalk$Talk", "place", "[I", true)
  | 5 => ("SnowTalk$Talk", "whom", "[I", true)
  | 6 => ("SnowTalk$Talk", "why", "I", false)
  | _ => ("SnowTalk$Talk", "firstFall", "I", false)
def tyX5 : Nat → FieldType := fun k => match k with
  | 0 => .array .int
  | 1 => .int
  | 2 => .int
  | 3 => .array .int
  | 4 => .array .int
  | 5 => .array .int
  | 6 => .int
  | _ => .int
theorem nmX5 : ∀ a, a < 8 → ∀ b, b < 8 → a ≠ b → (TX5 a).2.1 ≠ (TX5 b).2.1 := by decide +kernel
theorem tyX5_ok : ∀ k, k < 8 → parseFieldDescriptor (TX5 k).2.2.1 = some (tyX5 k) := by decide +kernel
abbrev cX5_init : ByteArray := prog_7_method_1_code
def yX5_init : MethodName := ⟨RX5, "<init>", "()V"⟩
abbrev cX5_read : ByteArray := prog_7_method_2_code
def yX5_read : MethodName := ⟨RX5, "read", "(I)I"⟩
abbrev cX5_readWord : ByteArray := prog_7_method_3_code
def yX5_readWord : MethodName := ⟨RX5, "readWord", "(II)I"⟩
abbrev cX5_signAt : ByteArray := prog_7_method_4_code
def yX5_signAt : MethodName := ⟨RX5, "signAt", "(I)I"⟩
abbrev cX5_addWord : ByteArray := prog_7_method_5_code
def yX5_addWord : MethodName := ⟨RX5, "addWord", "(IIII)I"⟩
abbrev cX5_kindOf : ByteArray := prog_7_method_6_code
def yX5_kindOf : MethodName := ⟨RX5, "kindOf", "(I)I"⟩
abbrev cX5_holdOn : ByteArray := prog_7_method_7_code
def yX5_holdOn : MethodName := ⟨RX5, "holdOn", "(LSnowTalk$Street;)I"⟩
abbrev cX5_isOfOthersOnly : ByteArray := prog_7_method_8_code
def yX5_isOfOthersOnly : MethodName := ⟨RX5, "isOfOthersOnly", "()Z"⟩
abbrev cX5_fitsLaw : ByteArray := prog_7_method_9_code
def yX5_fitsLaw : MethodName := ⟨RX5, "fitsLaw", "(LSnowTalk$Street;III)Z"⟩
def RX6 : String := "SnowTalk"
def TX6 : u_T := fun k => match k with
  | 0 => ("SnowTalk", "now", "LSnowTalk$Street;", true)
  | 1 => ("SnowTalk", "trial", "LSnowTalk$Street;", true)
  | 2 => ("SnowTalk", "images", "[LSnowTalk$Street;", true)
  | 3 => ("SnowTalk", "talk", "LSnowTalk$Talk;", true)
  | 4 => ("SnowTalk", "places", "LSnowTalk$Places;", true)
  | 5 => ("SnowTalk", "salt", "LSnowTalk$Salt;", true)
  | 6 => ("SnowTalk", "rows", "LSnowTalk$Rows;", true)
  | _ => ("SnowTalk", "lies", "LSnowTalk$Lies;", true)
def tyX6 : Nat → FieldType := fun k => match k with
  | 0 => .object "SnowTalk$Street"
  | 1 => .object "SnowTalk$Street"
  | 2 => .array (.object "SnowTalk$Street")
  | 3 => .object "SnowTalk$Talk"
  | 4 => .object "SnowTalk$Places"
  | 5 => .object "SnowTalk$Salt"
  | 6 => .object "SnowTalk$Rows"
  | _ => .object "SnowTalk$Lies"
theorem nmX6 : ∀ a, a < 8 → ∀ b, b < 8 → a ≠ b → (TX6 a).2.1 ≠ (TX6 b).2.1 := by decide +kernel
theorem tyX6_ok : ∀ k, k < 8 → parseFieldDescriptor (TX6 k).2.2.1 = some (tyX6 k) := by decide +kernel
abbrev cX6_init : ByteArray := prog_1_method_1_code
def yX6_init : MethodName := ⟨RX6, "<init>", "()V"⟩
abbrev cX6_gardens : ByteArray := prog_1_method_2_code
def yX6_gardens : MethodName := ⟨RX6, "gardens", "(I)I"⟩
abbrev cX6_garden : ByteArray := prog_1_method_3_code
def yX6_garden : MethodName := ⟨RX6, "garden", "(III)I"⟩
abbrev cX6_set : ByteArray := prog_1_method_4_code
def yX6_set : MethodName := ⟨RX6, "set", "(II)I"⟩
abbrev cX6_say : ByteArray := prog_1_method_5_code
def yX6_say : MethodName := ⟨RX6, "say", "(I)I"⟩
abbrev cX6_wipe : ByteArray := prog_1_method_6_code
def yX6_wipe : MethodName := ⟨RX6, "wipe", "()I"⟩
abbrev cX6_fault : ByteArray := prog_1_method_7_code
def yX6_fault : MethodName := ⟨RX6, "fault", "()I"⟩
abbrev cX6_judge : ByteArray := prog_1_method_8_code
def yX6_judge : MethodName := ⟨RX6, "judge", "(I)I"⟩
abbrev cX6_done : ByteArray := prog_1_method_9_code
def yX6_done : MethodName := ⟨RX6, "done", "()I"⟩
abbrev cX6_state : ByteArray := prog_1_method_10_code
def yX6_state : MethodName := ⟨RX6, "state", "(II)I"⟩
abbrev cX6_behind : ByteArray := prog_1_method_11_code
def yX6_behind : MethodName := ⟨RX6, "behind", "(II)I"⟩
abbrev cX6_first : ByteArray := prog_1_method_12_code
def yX6_first : MethodName := ⟨RX6, "first", "()I"⟩
abbrev cX6_recognised : ByteArray := prog_1_method_13_code
def yX6_recognised : MethodName := ⟨RX6, "recognised", "(I)I"⟩
abbrev cX6_where : ByteArray := prog_1_method_14_code
def yX6_where : MethodName := ⟨RX6, "where", "(I)I"⟩
abbrev cX6_cleared : ByteArray := prog_1_method_15_code
def yX6_cleared : MethodName := ⟨RX6, "cleared", "(I)I"⟩
abbrev cX6_salted : ByteArray := prog_1_method_16_code
def yX6_salted : MethodName := ⟨RX6, "salted", "(I)I"⟩
abbrev cX6_slide : ByteArray := prog_1_method_17_code
def yX6_slide : MethodName := ⟨RX6, "slide", "(III)I"⟩
abbrev cX6_holds : ByteArray := prog_1_method_18_code
def yX6_holds : MethodName := ⟨RX6, "holds", "(I)I"⟩
abbrev cX6_seen : ByteArray := prog_1_method_19_code
def yX6_seen : MethodName := ⟨RX6, "seen", "(II)I"⟩
abbrev cX6_forget : ByteArray := prog_1_method_20_code
def yX6_forget : MethodName := ⟨RX6, "forget", "()I"⟩
abbrev cX6_who : ByteArray := prog_1_method_21_code
def yX6_who : MethodName := ⟨RX6, "who", "(II)I"⟩
abbrev cX6_next : ByteArray := prog_1_method_22_code
def yX6_next : MethodName := ⟨RX6, "next", "(II)I"⟩
abbrev cX6_laws : ByteArray := prog_1_method_23_code
def yX6_laws : MethodName := ⟨RX6, "laws", "(I)I"⟩
abbrev cX6_guests : ByteArray := prog_1_method_24_code
def yX6_guests : MethodName := ⟨RX6, "guests", "(IIII)J"⟩
abbrev cX6_build : ByteArray := prog_1_method_25_code
def yX6_build : MethodName := ⟨RX6, "build", "(IIIII)I"⟩
abbrev cX6_elsewhere : ByteArray := prog_1_method_26_code
def yX6_elsewhere : MethodName := ⟨RX6, "elsewhere", "(I)I"⟩
abbrev cX6_winter : ByteArray := prog_1_method_27_code
def yX6_winter : MethodName := ⟨RX6, "winter", "(III)I"⟩
abbrev cX6_image : ByteArray := prog_1_method_28_code
def yX6_image : MethodName := ⟨RX6, "image", "(I)I"⟩
abbrev cX6_restore : ByteArray := prog_1_method_29_code
def yX6_restore : MethodName := ⟨RX6, "restore", "(I)I"⟩
abbrev cX6_told : ByteArray := prog_1_method_30_code
def yX6_told : MethodName := ⟨RX6, "told", "(I)I"⟩
abbrev cX6_isOutside : ByteArray := prog_1_method_31_code
def yX6_isOutside : MethodName := ⟨RX6, "isOutside", "(III)Z"⟩
abbrev cX6_talkCanBe : ByteArray := prog_1_method_32_code
def yX6_talkCanBe : MethodName := ⟨RX6, "talkCanBe", "()Z"⟩
abbrev cX6_passNight : ByteArray := prog_1_method_33_code
def yX6_passNight : MethodName := ⟨RX6, "passNight", "([II)V"⟩
abbrev cX6_chanceOf : ByteArray := prog_1_method_34_code
def yX6_chanceOf : MethodName := ⟨RX6, "chanceOf", "(III)J"⟩
abbrev cX6_power : ByteArray := prog_1_method_35_code
def yX6_power : MethodName := ⟨RX6, "power", "(II)J"⟩
abbrev cX6_commonDivisor : ByteArray := prog_1_method_36_code
def yX6_commonDivisor : MethodName := ⟨RX6, "commonDivisor", "(JJ)J"⟩
def RX7 : String := "SnowTalkModel"
def TX7 : u_T := fun k => match k with
  | 0 => ("SnowTalkModel", "n", "I", false)
  | 1 => ("SnowTalkModel", "deep", "[I", true)
  | 2 => ("SnowTalkModel", "roof", "[I", true)
  | 3 => ("SnowTalkModel", "fallen", "I", false)
  | 4 => ("SnowTalkModel", "brook", "I", false)
  | 5 => ("SnowTalkModel", "said", "[I", true)
  | 6 => ("SnowTalkModel", "flakes", "[I", true)
  | 7 => ("SnowTalkModel", "truth", "I", false)
  | 8 => ("SnowTalkModel", "lie", "I", false)
  | 9 => ("SnowTalkModel", "again", "I", false)
  | 10 => ("SnowTalkModel", "shovel", "I", false)
  | 11 => ("SnowTalkModel", "sights", "I", false)
  | 12 => ("SnowTalkModel", "sight", "[I", true)
  | 13 => ("SnowTalkModel", "signs", "I", false)
  | 14 => ("SnowTalkModel", "pad", "[I", true)
  | 15 => ("SnowTalkModel", "now", "[I", true)
  | 16 => ("SnowTalkModel", "then", "[I", true)
  | 17 => ("SnowTalkModel", "of", "[I", true)
  | 18 => ("SnowTalkModel", "fell", "[I", true)
  | 19 => ("SnowTalkModel", "down", "I", false)
  | 20 => ("SnowTalkModel", "water", "I", false)
  | 21 => ("SnowTalkModel", "byTruth", "I", false)
  | 22 => ("SnowTalkModel", "byLie", "I", false)
  | 23 => ("SnowTalkModel", "byAgain", "I", false)
  | 24 => ("SnowTalkModel", "reason", "I", false)
  | 25 => ("SnowTalkModel", "words", "I", false)
  | 26 => ("SnowTalkModel", "firstFall", "I", false)
  | 27 => ("SnowTalkModel", "places", "[I", true)
  | 28 => ("SnowTalkModel", "best", "[I", true)
  | 29 => ("SnowTalkModel", "many", "I", false)
  | 30 => ("SnowTalkModel", "comes", "I", false)
  | 31 => ("SnowTalkModel", "rows", "I", false)
  | 32 => ("SnowTalkModel", "some", "I", false)
  | 33 => ("SnowTalkModel", "every", "I", false)
  | 34 => ("SnowTalkModel", "depths", "[I", true)
  | 35 => ("SnowTalkModel", "counts", "[I", true)
  | 36 => ("SnowTalkModel", "goes", "[I", true)
  | 37 => ("SnowTalkModel", "image", "[I", true)
  | _ => ("SnowTalkModel", "isKept", "[Z", true)
def tyX7 : Nat → FieldType := fun k => match k with
  | 0 => .int
  | 1 => .array .int
  | 2 => .array .int
  | 3 => .int
  | 4 => .int
  | 5 => .array .int
  | 6 => .array .int
  | 7 => .int
  | 8 => .int
  | 9 => .int
  | 10 => .int
  | 11 => .int
  | 12 => .array .int
  | 13 => .int
  | 14 => .array .int
  | 15 => .array .int
  | 16 => .array .int
  | 17 => .array .int
  | 18 => .array .int
  | 19 => .int
  | 20 => .int
  | 21 => .int
  | 22 => .int
  | 23 => .int
  | 24 => .int
  | 25 => .int
  | 26 => .int
  | 27 => .array .int
  | 28 => .array .int
  | 29 => .int
  | 30 => .int
  | 31 => .int
  | 32 => .int
  | 33 => .int
  | 34 => .array .int
  | 35 => .array .int
  | 36 => .array .int
  | 37 => .array .int
  | _ => .array .boolean
theorem nmX7 : ∀ a, a < 39 → ∀ b, b < 39 → a ≠ b → (TX7 a).2.1 ≠ (TX7 b).2.1 := by decide +kernel
theorem tyX7_ok : ∀ k, k < 39 → parseFieldDescriptor (TX7 k).2.2.1 = some (tyX7 k) := by decide +kernel
abbrev cX7_init : ByteArray := prog_9_method_1_code
def yX7_init : MethodName := ⟨RX7, "<init>", "()V"⟩
abbrev cX7_clear : ByteArray := prog_9_method_2_code
def yX7_clear : MethodName := ⟨RX7, "clear", "()V"⟩
abbrev cX7_in : ByteArray := prog_9_method_3_code
def yX7_in : MethodName := ⟨RX7, "in", "(III)Z"⟩
abbrev cX7_has : ByteArray := prog_9_method_4_code
def yX7_has : MethodName := ⟨RX7, "has", "(II)Z"⟩
abbrev cX7_isGarden : ByteArray := prog_9_method_5_code
def yX7_isGarden : MethodName := ⟨RX7, "isGarden", "(I)Z"⟩
abbrev cX7_gardens : ByteArray := prog_9_method_6_code
def yX7_gardens : MethodName := ⟨RX7, "gardens", "(I)I"⟩
abbrev cX7_garden : ByteArray := prog_9_method_7_code
def yX7_garden : MethodName := ⟨RX7, "garden", "(III)I"⟩
abbrev cX7_set : ByteArray := prog_9_method_8_code
def yX7_set : MethodName := ⟨RX7, "set", "(II)I"⟩
abbrev cX7_say : ByteArray := prog_9_method_9_code
def yX7_say : MethodName := ⟨RX7, "say", "(I)I"⟩
abbrev cX7_wipe : ByteArray := prog_9_method_10_code
def yX7_wipe : MethodName := ⟨RX7, "wipe", "()I"⟩
abbrev cX7_faultOf : ByteArray := prog_9_method_11_code
def yX7_faultOf : MethodName := ⟨RX7, "faultOf", "()I"⟩
abbrev cX7_fault : ByteArray := prog_9_method_12_code
def yX7_fault : MethodName := ⟨RX7, "fault", "()I"⟩
abbrev cX7_asNow : ByteArray := prog_9_method_13_code
def yX7_asNow : MethodName := ⟨RX7, "asNow", "()V"⟩
abbrev cX7_collapse : ByteArray := prog_9_method_14_code
def yX7_collapse : MethodName := ⟨RX7, "collapse", "()V"⟩
abbrev cX7_night : ByteArray := prog_9_method_15_code
def yX7_night : MethodName := ⟨RX7, "night", "()V"⟩
abbrev cX7_thaw : ByteArray := prog_9_method_16_code
def yX7_thaw : MethodName := ⟨RX7, "thaw", "()V"⟩
abbrev cX7_flakesOf : ByteArray := prog_9_method_17_code
def yX7_flakesOf : MethodName := ⟨RX7, "flakesOf", "(III)I"⟩
abbrev cX7_snow : ByteArray := prog_9_method_18_code
def yX7_snow : MethodName := ⟨RX7, "snow", "(III)V"⟩
abbrev cX7_isBare : ByteArray := prog_9_method_19_code
def yX7_isBare : MethodName := ⟨RX7, "isBare", "(I)Z"⟩
abbrev cX7_less : ByteArray := prog_9_method_20_code
def yX7_less : MethodName := ⟨RX7, "less", "(II)I"⟩
abbrev cX7_salt : ByteArray := prog_9_method_21_code
def yX7_salt : MethodName := ⟨RX7, "salt", "(I)V"⟩
abbrev cX7_whyNot : ByteArray := prog_9_method_22_code
def yX7_whyNot : MethodName := ⟨RX7, "whyNot", "(III)I"⟩
abbrev cX7_speak : ByteArray := prog_9_method_23_code
def yX7_speak : MethodName := ⟨RX7, "speak", "(III)V"⟩
abbrev cX7_goTalk : ByteArray := prog_9_method_24_code
def yX7_goTalk : MethodName := ⟨RX7, "goTalk", "(Z)I"⟩
abbrev cX7_judge : ByteArray := prog_9_method_25_code
def yX7_judge : MethodName := ⟨RX7, "judge", "(I)I"⟩
abbrev cX7_barOfTalk : ByteArray := prog_9_method_26_code
def yX7_barOfTalk : MethodName := ⟨RX7, "barOfTalk", "()I"⟩
abbrev cX7_done : ByteArray := prog_9_method_27_code
def yX7_done : MethodName := ⟨RX7, "done", "()I"⟩
abbrev cX7_state : ByteArray := prog_9_method_28_code
def yX7_state : MethodName := ⟨RX7, "state", "(II)I"⟩
abbrev cX7_behind : ByteArray := prog_9_method_29_code
def yX7_behind : MethodName := ⟨RX7, "behind", "(II)I"⟩
abbrev cX7_first : ByteArray := prog_9_method_30_code
def yX7_first : MethodName := ⟨RX7, "first", "()I"⟩
abbrev cX7_recognised : ByteArray := prog_9_method_31_code
def yX7_recognised : MethodName := ⟨RX7, "recognised", "(I)I"⟩
abbrev cX7_isPlain : ByteArray := prog_9_method_32_code
def yX7_isPlain : MethodName := ⟨RX7, "isPlain", "()Z"⟩
abbrev cX7_unsaid : ByteArray := prog_9_method_33_code
def yX7_unsaid : MethodName := ⟨RX7, "unsaid", "()I"⟩
abbrev cX7_where : ByteArray := prog_9_method_34_code
def yX7_where : MethodName := ⟨RX7, "where", "(I)I"⟩
abbrev cX7_cleared : ByteArray := prog_9_method_35_code
def yX7_cleared : MethodName := ⟨RX7, "cleared", "(I)I"⟩
abbrev cX7_salted : ByteArray := prog_9_method_36_code
def yX7_salted : MethodName := ⟨RX7, "salted", "(I)I"⟩
abbrev cX7_slideOf : ByteArray := prog_9_method_37_code
def yX7_slideOf : MethodName := ⟨RX7, "slideOf", "(II)I"⟩
abbrev cX7_slide : ByteArray := prog_9_method_38_code
def yX7_slide : MethodName := ⟨RX7, "slide", "(III)I"⟩
abbrev cX7_holds : ByteArray := prog_9_method_39_code
def yX7_holds : MethodName := ⟨RX7, "holds", "(I)I"⟩
abbrev cX7_seen : ByteArray := prog_9_method_40_code
def yX7_seen : MethodName := ⟨RX7, "seen", "(II)I"⟩
abbrev cX7_forget : ByteArray := prog_9_method_41_code
def yX7_forget : MethodName := ⟨RX7, "forget", "()I"⟩
abbrev cX7_holdsNow : ByteArray := prog_9_method_42_code
def yX7_holdsNow : MethodName := ⟨RX7, "holdsNow", "()Z"⟩
abbrev cX7_layWho : ByteArray := prog_9_method_43_code
def yX7_layWho : MethodName := ⟨RX7, "layWho", "(I)V"⟩
abbrev cX7_who : ByteArray := prog_9_method_44_code
def yX7_who : MethodName := ⟨RX7, "who", "(II)I"⟩
abbrev cX7_isSeen : ByteArray := prog_9_method_45_code
def yX7_isSeen : MethodName := ⟨RX7, "isSeen", "(I)Z"⟩
abbrev cX7_next : ByteArray := prog_9_method_46_code
def yX7_next : MethodName := ⟨RX7, "next", "(II)I"⟩
abbrev cX7_isLaw : ByteArray := prog_9_method_47_code
def yX7_isLaw : MethodName := ⟨RX7, "isLaw", "(I)Z"⟩
abbrev cX7_laws : ByteArray := prog_9_method_48_code
def yX7_laws : MethodName := ⟨RX7, "laws", "(I)I"⟩
abbrev cX7_tens : ByteArray := prog_9_method_49_code
def yX7_tens : MethodName := ⟨RX7, "tens", "(I)J"⟩
abbrev cX7_bearing : ByteArray := prog_9_method_50_code
def yX7_bearing : MethodName := ⟨RX7, "bearing", "(IIII)J"⟩
abbrev cX7_guests : ByteArray := prog_9_method_51_code
def yX7_guests : MethodName := ⟨RX7, "guests", "(IIII)J"⟩
abbrev cX7_build : ByteArray := prog_9_method_52_code
def yX7_build : MethodName := ⟨RX7, "build", "(IIIII)I"⟩
abbrev cX7_others : ByteArray := prog_9_method_53_code
def yX7_others : MethodName := ⟨RX7, "others", "(II)I"⟩
abbrev cX7_elsewhere : ByteArray := prog_9_method_54_code
def yX7_elsewhere : MethodName := ⟨RX7, "elsewhere", "(I)I"⟩
abbrev cX7_winter : ByteArray := prog_9_method_55_code
def yX7_winter : MethodName := ⟨RX7, "winter", "(III)I"⟩
abbrev cX7_image : ByteArray := prog_9_method_56_code
def yX7_image : MethodName := ⟨RX7, "image", "(I)I"⟩
abbrev cX7_restore : ByteArray := prog_9_method_57_code
def yX7_restore : MethodName := ⟨RX7, "restore", "(I)I"⟩
abbrev cX7_told : ByteArray := prog_9_method_58_code
def yX7_told : MethodName := ⟨RX7, "told", "(I)I"⟩
def RJ7 : String := "java/util/Arrays"
def TJ7 : u_T := fun k => match k with
  | _ => ("", "", "", false)
def tyJ7 : Nat → FieldType := fun k => match k with
  | _ => .int
theorem nmJ7 : ∀ a, a < 0 → ∀ b, b < 0 → a ≠ b → (TJ7 a).2.1 ≠ (TJ7 b).2.1 := by decide +kernel
theorem tyJ7_ok : ∀ k, k < 0 → parseFieldDescriptor (TJ7 k).2.2.1 = some (tyJ7 k) := by decide +kernel
abbrev cJ7_rangeCheck_23922 : ByteArray := prog_12_method_30_code
def yJ7_rangeCheck_23922 : MethodName := ⟨RJ7, "rangeCheck", "(III)V"⟩
abbrev cJ7_fill_53178 : ByteArray := prog_12_method_103_code
def yJ7_fill_53178 : MethodName := ⟨RJ7, "fill", "([II)V"⟩
abbrev cJ7_fill_fda19 : ByteArray := prog_12_method_104_code
def yJ7_fill_fda19 : MethodName := ⟨RJ7, "fill", "([IIII)V"⟩
def RL : String := "SnowTalkLaw"
abbrev cL_law : ByteArray := code
def yL_law : MethodName := ⟨RL, "law", "([I)Z"⟩
abbrev vwCl : List vw_C := [(RX0, TX0, 2), (RX1, TX1, 5), (RX2, TX2, 9), (RX3, TX3, 4), (RX4, TX4, 11), (RX5, TX5, 8), (RX6, TX6, 8), (RX7, TX7, 39)]
end
section
theorem dX0_emptiest_0 : decode cX0_emptiest 0 = .ok (.iload_n 1, 1) := by decide +kernel
theorem dX0_emptiest_1 : decode cX0_emptiest 1 = .ok (.ifCond .ne 7, 3) := by decide +kernel
theorem dX0_emptiest_4 : decode cX0_emptiest 4 = .ok (.iconst 1, 1) := by decide +kernel
theorem dX0_emptiest_5 : decode cX0_emptiest 5 = .ok (.goto 4, 3) := by decide +kernel
theorem dX0_emptiest_8 : decode cX0_emptiest 8 = .ok (.iconst 0, 1) := by decide +kernel
theorem dX0_emptiest_9 : decode cX0_emptiest 9 = .ok (.istore_n 3, 1) := by decide +kernel
theorem dX0_emptiest_10 : decode cX0_emptiest 10 = .ok (.iconst 0, 1) := by decide +kernel
theorem dX0_emptiest_11 : decode cX0_emptiest 11 = .ok (.istore 4, 2) := by decide +kernel
theorem dX0_emptiest_13 : decode cX0_emptiest 13 = .ok (.iload 4, 2) := by decide +kernel
theorem dX0_emptiest_15 : decode cX0_emptiest 15 = .ok (.iload_n 2, 1) := by decide +kernel
theorem dX0_emptiest_16 : decode cX0_emptiest 16 = .ok (.if_icmp .ge 41, 3) := by decide +kernel
theorem dX0_emptiest_19 : decode cX0_emptiest 19 = .ok (.iload 4, 2) := by decide +kernel
theorem dX0_emptiest_21 : decode cX0_emptiest 21 = .ok (.bipush 8, 2) := by decide +kernel
theorem dX0_emptiest_23 : decode cX0_emptiest 23 = .ok (.if_icmp .ge 34, 3) := by decide +kernel
theorem dX0_emptiest_26 : decode cX0_emptiest 26 = .ok (.iload 4, 2) := by decide +kernel
theorem dX0_emptiest_28 : decode cX0_emptiest 28 = .ok (.iload_n 1, 1) := by decide +kernel
theorem dX0_emptiest_29 : decode cX0_emptiest 29 = .ok (.if_icmp .eq 22, 3) := by decide +kernel
theorem dX0_emptiest_32 : decode cX0_emptiest 32 = .ok (.aload_n 0, 1) := by decide +kernel
theorem dX0_emptiest_33 : decode cX0_emptiest 33 = .ok (.getfield 15, 3) := by decide +kernel
theorem dX0_emptiest_36 : decode cX0_emptiest 36 = .ok (.iload 4, 2) := by decide +kernel
theorem dX0_emptiest_38 : decode cX0_emptiest 38 = .ok (.iaload, 1) := by decide +kernel
theorem dX0_emptiest_39 : decode cX0_emptiest 39 = .ok (.aload_n 0, 1) := by decide +kernel
theorem dX0_emptiest_40 : decode cX0_emptiest 40 = .ok (.getfield 15, 3) := by decide +kernel
theorem dX0_emptiest_43 : decode cX0_emptiest 43 = .ok (.iload_n 3, 1) := by decide +kernel
theorem dX0_emptiest_44 : decode cX0_emptiest 44 = .ok (.iaload, 1) := by decide +kernel
theorem dX0_emptiest_45 : decode cX0_emptiest 45 = .ok (.if_icmp .ge 6, 3) := by decide +kernel
theorem dX0_emptiest_48 : decode cX0_emptiest 48 = .ok (.iload 4, 2) := by decide +kernel
theorem dX0_emptiest_50 : decode cX0_emptiest 50 = .ok (.istore_n 3, 1) := by decide +kernel
theorem dX0_emptiest_51 : decode cX0_emptiest 51 = .ok (.iinc 4 1, 3) := by decide +kernel
theorem dX0_emptiest_54 : decode cX0_emptiest 54 = .ok (.goto (-41), 3) := by decide +kernel
theorem dX0_emptiest_57 : decode cX0_emptiest 57 = .ok (.iload_n 3, 1) := by decide +kernel
theorem dX0_emptiest_58 : decode cX0_emptiest 58 = .ok (.ireturn, 1) := by decide +kernel
theorem dX0_init_0 : decode cX0_init 0 = .ok (.aload_n 0, 1) := by decide +kernel
theorem dX0_init_1 : decode cX0_init 1 = .ok (.invokespecial 3, 3) := by decide +kernel
theorem dX0_init_4 : decode cX0_init 4 = .ok (.aload_n 0, 1) := by decide +kernel
theorem dX0_init_5 : decode cX0_init 5 = .ok (.bipush 8, 2) := by decide +kernel
theorem dX0_init_7 : decode cX0_init 7 = .ok (.newarray .int, 2) := by decide +kernel
theorem dX0_init_9 : decode cX0_init 9 = .ok (.putfield 9, 3) := by decide +kernel
theorem dX0_init_12 : decode cX0_init 12 = .ok (.aload_n 0, 1) := by decide +kernel
theorem dX0_init_13 : decode cX0_init 13 = .ok (.bipush 8, 2) := by decide +kernel
theorem dX0_init_15 : decode cX0_init 15 = .ok (.newarray .int, 2) := by decide +kernel
theorem dX0_init_17 : decode cX0_init 17 = .ok (.putfield 15, 3) := by decide +kernel
theorem dX0_init_20 : decode cX0_init 20 = .ok (.return_, 1) := by decide +kernel
theorem dX0_settle_0 : decode cX0_settle 0 = .ok (.aload_n 0, 1) := by decide +kernel
theorem dX0_settle_1 : decode cX0_settle 1 = .ok (.getfield 15, 3) := by decide +kernel
theorem dX0_settle_4 : decode cX0_settle 4 = .ok (.iconst 0, 1) := by decide +kernel
theorem dX0_settle_5 : decode cX0_settle 5 = .ok (.invokestatic 18, 3) := by decide +kernel
theorem dX0_settle_8 : decode cX0_settle 8 = .ok (.iconst 0, 1) := by decide +kernel
theorem dX0_settle_9 : decode cX0_settle 9 = .ok (.istore_n 2, 1) := by decide +kernel
theorem dX0_settle_10 : decode cX0_settle 10 = .ok (.iload_n 2, 1) := by decide +kernel
theorem dX0_settle_11 : decode cX0_settle 11 = .ok (.iload_n 1, 1) := by decide +kernel
theorem dX0_settle_12 : decode cX0_settle 12 = .ok (.if_icmp .ge 64, 3) := by decide +kernel
theorem dX0_settle_15 : decode cX0_settle 15 = .ok (.iload_n 2, 1) := by decide +kernel
theorem dX0_settle_16 : decode cX0_settle 16 = .ok (.bipush 8, 2) := by decide +kernel
theorem dX0_settle_18 : decode cX0_settle 18 = .ok (.if_icmp .ge 58, 3) := by decide +kernel
theorem dX0_settle_21 : decode cX0_settle 21 = .ok (.aload_n 0, 1) := by decide +kernel
theorem dX0_settle_22 : decode cX0_settle 22 = .ok (.getfield 9, 3) := by decide +kernel
theorem dX0_settle_25 : decode cX0_settle 25 = .ok (.iload_n 2, 1) := by decide +kernel
theorem dX0_settle_26 : decode cX0_settle 26 = .ok (.iload_n 2, 1) := by decide +kernel
theorem dX0_settle_27 : decode cX0_settle 27 = .ok (.iconst 1, 1) := by decide +kernel
theorem dX0_settle_28 : decode cX0_settle 28 = .ok (.iadd, 1) := by decide +kernel
theorem dX0_settle_29 : decode cX0_settle 29 = .ok (.iload_n 1, 1) := by decide +kernel
theorem dX0_settle_30 : decode cX0_settle 30 = .ok (.if_icmp .ge 17, 3) := by decide +kernel
theorem dX0_settle_33 : decode cX0_settle 33 = .ok (.iload_n 2, 1) := by decide +kernel
theorem dX0_settle_34 : decode cX0_settle 34 = .ok (.iconst 1, 1) := by decide +kernel
theorem dX0_settle_35 : decode cX0_settle 35 = .ok (.iadd, 1) := by decide +kernel
theorem dX0_settle_36 : decode cX0_settle 36 = .ok (.bipush 8, 2) := by decide +kernel
theorem dX0_settle_38 : decode cX0_settle 38 = .ok (.if_icmp .ge 9, 3) := by decide +kernel
theorem dX0_settle_41 : decode cX0_settle 41 = .ok (.iload_n 2, 1) := by decide +kernel
theorem dX0_settle_42 : decode cX0_settle 42 = .ok (.iconst 1, 1) := by decide +kernel
theorem dX0_settle_43 : decode cX0_settle 43 = .ok (.iadd, 1) := by decide +kernel
theorem dX0_settle_44 : decode cX0_settle 44 = .ok (.goto 10, 3) := by decide +kernel
theorem dX0_settle_47 : decode cX0_settle 47 = .ok (.iconst 0, 1) := by decide +kernel
theorem dX0_settle_48 : decode cX0_settle 48 = .ok (.iload_n 2, 1) := by decide +kernel
theorem dX0_settle_49 : decode cX0_settle 49 = .ok (.iconst 1, 1) := by decide +kernel
theorem dX0_settle_50 : decode cX0_settle 50 = .ok (.isub, 1) := by decide +kernel
theorem dX0_settle_51 : decode cX0_settle 51 = .ok (.invokestatic 24, 3) := by decide +kernel
theorem dX0_settle_54 : decode cX0_settle 54 = .ok (.iastore, 1) := by decide +kernel
theorem dX0_settle_55 : decode cX0_settle 55 = .ok (.aload_n 0, 1) := by decide +kernel
theorem dX0_settle_56 : decode cX0_settle 56 = .ok (.getfield 15, 3) := by decide +kernel
theorem dX0_settle_59 : decode cX0_settle 59 = .ok (.aload_n 0, 1) := by decide +kernel
theorem dX0_settle_60 : decode cX0_settle 60 = .ok (.getfield 9, 3) := by decide +kernel
theorem dX0_settle_63 : decode cX0_settle 63 = .ok (.iload_n 2, 1) := by decide +kernel
theorem dX0_settle_64 : decode cX0_settle 64 = .ok (.iaload, 1) := by decide +kernel
theorem dX0_settle_65 : decode cX0_settle 65 = .ok (.dup2, 1) := by decide +kernel
theorem dX0_settle_66 : decode cX0_settle 66 = .ok (.iaload, 1) := by decide +kernel
theorem dX0_settle_67 : decode cX0_settle 67 = .ok (.iconst 1, 1) := by decide +kernel
theorem dX0_settle_68 : decode cX0_settle 68 = .ok (.iadd, 1) := by decide +kernel
theorem dX0_settle_69 : decode cX0_settle 69 = .ok (.iastore, 1) := by decide +kernel
theorem dX0_settle_70 : decode cX0_settle 70 = .ok (.iinc 2 1, 3) := by decide +kernel
theorem dX0_settle_73 : decode cX0_settle 73 = .ok (.goto (-63), 3) := by decide +kernel
theorem dX0_settle_76 : decode cX0_settle 76 = .ok (.iconst 1, 1) := by decide +kernel
theorem dX0_settle_77 : decode cX0_settle 77 = .ok (.istore_n 2, 1) := by decide +kernel
theorem dX0_settle_78 : decode cX0_settle 78 = .ok (.iload_n 2, 1) := by decide +kernel
theorem dX0_settle_79 : decode cX0_settle 79 = .ok (.bipush 50, 2) := by decide +kernel
theorem dX0_settle_81 : decode cX0_settle 81 = .ok (.if_icmp .gt 19, 3) := by decide +kernel
theorem dX0_settle_84 : decode cX0_settle 84 = .ok (.aload_n 0, 1) := by decide +kernel
theorem dX0_settle_85 : decode cX0_settle 85 = .ok (.iload_n 1, 1) := by decide +kernel
theorem dX0_settle_86 : decode cX0_settle 86 = .ok (.invokevirtual 30, 3) := by decide +kernel
theorem dX0_settle_89 : decode cX0_settle 89 = .ok (.ifCond .ne 5, 3) := by decide +kernel
theorem dX0_settle_92 : decode cX0_settle 92 = .ok (.iload_n 2, 1) := by decide +kernel
theorem dX0_settle_93 : decode cX0_settle 93 = .ok (.ireturn, 1) := by decide +kernel
theorem dX0_settle_94 : decode cX0_settle 94 = .ok (.iinc 2 1, 3) := by decide +kernel
theorem dX0_settle_97 : decode cX0_settle 97 = .ok (.goto (-19), 3) := by decide +kernel
theorem dX0_settle_100 : decode cX0_settle 100 = .ok (.bipush (-6), 2) := by decide +kernel
theorem dX0_settle_102 : decode cX0_settle 102 = .ok (.ireturn, 1) := by decide +kernel
theorem dX0_somebodyGoes_0 : decode cX0_somebodyGoes 0 = .ok (.iconst 0, 1) := by decide +kernel
theorem dX0_somebodyGoes_1 : decode cX0_somebodyGoes 1 = .ok (.istore_n 2, 1) := by decide +kernel
theorem dX0_somebodyGoes_2 : decode cX0_somebodyGoes 2 = .ok (.iconst 0, 1) := by decide +kernel
theorem dX0_somebodyGoes_3 : decode cX0_somebodyGoes 3 = .ok (.istore_n 3, 1) := by decide +kernel
theorem dX0_somebodyGoes_4 : decode cX0_somebodyGoes 4 = .ok (.iload_n 3, 1) := by decide +kernel
theorem dX0_somebodyGoes_5 : decode cX0_somebodyGoes 5 = .ok (.iload_n 1, 1) := by decide +kernel
theorem dX0_somebodyGoes_6 : decode cX0_somebodyGoes 6 = .ok (.if_icmp .ge 112, 3) := by decide +kernel
theorem dX0_somebodyGoes_9 : decode cX0_somebodyGoes 9 = .ok (.iload_n 3, 1) := by decide +kernel
theorem dX0_somebodyGoes_10 : decode cX0_somebodyGoes 10 = .ok (.bipush 8, 2) := by decide +kernel
theorem dX0_somebodyGoes_12 : decode cX0_somebodyGoes 12 = .ok (.if_icmp .ge 106, 3) := by decide +kernel
theorem dX0_somebodyGoes_15 : decode cX0_somebodyGoes 15 = .ok (.aload_n 0, 1) := by decide +kernel
theorem dX0_somebodyGoes_16 : decode cX0_somebodyGoes 16 = .ok (.getfield 9, 3) := by decide +kernel
theorem dX0_somebodyGoes_19 : decode cX0_somebodyGoes 19 = .ok (.iload_n 3, 1) := by decide +kernel
theorem dX0_somebodyGoes_20 : decode cX0_somebodyGoes 20 = .ok (.iaload, 1) := by decide +kernel
theorem dX0_somebodyGoes_21 : decode cX0_somebodyGoes 21 = .ok (.istore 4, 2) := by decide +kernel
theorem dX0_somebodyGoes_23 : decode cX0_somebodyGoes 23 = .ok (.iload 4, 2) := by decide +kernel
theorem dX0_somebodyGoes_25 : decode cX0_somebodyGoes 25 = .ok (.iconst 0, 1) := by decide +kernel
theorem dX0_somebodyGoes_26 : decode cX0_somebodyGoes 26 = .ok (.bipush 7, 2) := by decide +kernel
theorem dX0_somebodyGoes_28 : decode cX0_somebodyGoes 28 = .ok (.invokestatic 34, 3) := by decide +kernel
theorem dX0_somebodyGoes_31 : decode cX0_somebodyGoes 31 = .ok (.ifCond .eq 5, 3) := by decide +kernel
theorem dX0_somebodyGoes_34 : decode cX0_somebodyGoes 34 = .ok (.iconst 0, 1) := by decide +kernel
theorem dX0_somebodyGoes_35 : decode cX0_somebodyGoes 35 = .ok (.ireturn, 1) := by decide +kernel
theorem dX0_somebodyGoes_36 : decode cX0_somebodyGoes 36 = .ok (.aload_n 0, 1) := by decide +kernel
theorem dX0_somebodyGoes_37 : decode cX0_somebodyGoes 37 = .ok (.getfield 15, 3) := by decide +kernel
theorem dX0_somebodyGoes_40 : decode cX0_somebodyGoes 40 = .ok (.iload 4, 2) := by decide +kernel
theorem dX0_somebodyGoes_42 : decode cX0_somebodyGoes 42 = .ok (.dup2, 1) := by decide +kernel
theorem dX0_somebodyGoes_43 : decode cX0_somebodyGoes 43 = .ok (.iaload, 1) := by decide +kernel
theorem dX0_somebodyGoes_44 : decode cX0_somebodyGoes 44 = .ok (.iconst 1, 1) := by decide +kernel
theorem dX0_somebodyGoes_45 : decode cX0_somebodyGoes 45 = .ok (.isub, 1) := by decide +kernel
theorem dX0_somebodyGoes_46 : decode cX0_somebodyGoes 46 = .ok (.iastore, 1) := by decide +kernel
theorem dX0_somebodyGoes_47 : decode cX0_somebodyGoes 47 = .ok (.aload_n 0, 1) := by decide +kernel
theorem dX0_somebodyGoes_48 : decode cX0_somebodyGoes 48 = .ok (.iload_n 3, 1) := by decide +kernel
theorem dX0_somebodyGoes_49 : decode cX0_somebodyGoes 49 = .ok (.iload_n 1, 1) := by decide +kernel
theorem dX0_somebodyGoes_50 : decode cX0_somebodyGoes 50 = .ok (.invokevirtual 38, 3) := by decide +kernel
theorem dX0_somebodyGoes_53 : decode cX0_somebodyGoes 53 = .ok (.istore 5, 2) := by decide +kernel
theorem dX0_somebodyGoes_55 : decode cX0_somebodyGoes 55 = .ok (.aload_n 0, 1) := by decide +kernel
theorem dX0_somebodyGoes_56 : decode cX0_somebodyGoes 56 = .ok (.getfield 15, 3) := by decide +kernel
theorem dX0_somebodyGoes_59 : decode cX0_somebodyGoes 59 = .ok (.iload 5, 2) := by decide +kernel
theorem dX0_somebodyGoes_61 : decode cX0_somebodyGoes 61 = .ok (.iaload, 1) := by decide +kernel
theorem dX0_somebodyGoes_62 : decode cX0_somebodyGoes 62 = .ok (.aload_n 0, 1) := by decide +kernel
theorem dX0_somebodyGoes_63 : decode cX0_somebodyGoes 63 = .ok (.getfield 15, 3) := by decide +kernel
theorem dX0_somebodyGoes_66 : decode cX0_somebodyGoes 66 = .ok (.iload 4, 2) := by decide +kernel
theorem dX0_somebodyGoes_68 : decode cX0_somebodyGoes 68 = .ok (.iaload, 1) := by decide +kernel
theorem dX0_somebodyGoes_69 : decode cX0_somebodyGoes 69 = .ok (.if_icmp .lt 7, 3) := by decide +kernel
theorem dX0_somebodyGoes_72 : decode cX0_somebodyGoes 72 = .ok (.iload 4, 2) := by decide +kernel
theorem dX0_somebodyGoes_74 : decode cX0_somebodyGoes 74 = .ok (.istore 5, 2) := by decide +kernel
theorem dX0_somebodyGoes_76 : decode cX0_somebodyGoes 76 = .ok (.aload_n 0, 1) := by decide +kernel
theorem dX0_somebodyGoes_77 : decode cX0_somebodyGoes 77 = .ok (.getfield 15, 3) := by decide +kernel
theorem dX0_somebodyGoes_80 : decode cX0_somebodyGoes 80 = .ok (.iload 5, 2) := by decide +kernel
theorem dX0_somebodyGoes_82 : decode cX0_somebodyGoes 82 = .ok (.dup2, 1) := by decide +kernel
theorem dX0_somebodyGoes_83 : decode cX0_somebodyGoes 83 = .ok (.iaload, 1) := by decide +kernel
theorem dX0_somebodyGoes_84 : decode cX0_somebodyGoes 84 = .ok (.iconst 1, 1) := by decide +kernel
theorem dX0_somebodyGoes_85 : decode cX0_somebodyGoes 85 = .ok (.iadd, 1) := by decide +kernel
theorem dX0_somebodyGoes_86 : decode cX0_somebodyGoes 86 = .ok (.iastore, 1) := by decide +kernel
theorem dX0_somebodyGoes_87 : decode cX0_somebodyGoes 87 = .ok (.aload_n 0, 1) := by decide +kernel
theorem dX0_somebodyGoes_88 : decode cX0_somebodyGoes 88 = .ok (.getfield 9, 3) := by decide +kernel
theorem dX0_somebodyGoes_91 : decode cX0_somebodyGoes 91 = .ok (.iload_n 3, 1) := by decide +kernel
theorem dX0_somebodyGoes_92 : decode cX0_somebodyGoes 92 = .ok (.iload 5, 2) := by decide +kernel
theorem dX0_somebodyGoes_94 : decode cX0_somebodyGoes 94 = .ok (.iastore, 1) := by decide +kernel
theorem dX0_somebodyGoes_95 : decode cX0_somebodyGoes 95 = .ok (.iload_n 2, 1) := by decide +kernel
theorem dX0_somebodyGoes_96 : decode cX0_somebodyGoes 96 = .ok (.ifCond .ne 10, 3) := by decide +kernel
theorem dX0_somebodyGoes_99 : decode cX0_somebodyGoes 99 = .ok (.iload 5, 2) := by decide +kernel
theorem dX0_somebodyGoes_101 : decode cX0_somebodyGoes 101 = .ok (.iload 4, 2) := by decide +kernel
theorem dX0_somebodyGoes_103 : decode cX0_somebodyGoes 103 = .ok (.if_icmp .eq 7, 3) := by decide +kernel
theorem dX0_somebodyGoes_106 : decode cX0_somebodyGoes 106 = .ok (.iconst 1, 1) := by decide +kernel
theorem dX0_somebodyGoes_107 : decode cX0_somebodyGoes 107 = .ok (.goto 4, 3) := by decide +kernel
theorem dX0_somebodyGoes_110 : decode cX0_somebodyGoes 110 = .ok (.iconst 0, 1) := by decide +kernel
theorem dX0_somebodyGoes_111 : decode cX0_somebodyGoes 111 = .ok (.istore_n 2, 1) := by decide +kernel
theorem dX0_somebodyGoes_112 : decode cX0_somebodyGoes 112 = .ok (.iinc 3 1, 3) := by decide +kernel
theorem dX0_somebodyGoes_115 : decode cX0_somebodyGoes 115 = .ok (.goto (-111), 3) := by decide +kernel
theorem dX0_somebodyGoes_118 : decode cX0_somebodyGoes 118 = .ok (.iload_n 2, 1) := by decide +kernel
theorem dX0_somebodyGoes_119 : decode cX0_somebodyGoes 119 = .ok (.ireturn, 1) := by decide +kernel
theorem dX1_find_0 : decode cX1_find 0 = .ok (.aload_n 1, 1) := by decide +kernel
theorem dX1_find_1 : decode cX1_find 1 = .ok (.ifnull 15, 3) := by decide +kernel
theorem dX1_find_4 : decode cX1_find 4 = .ok (.aload_n 2, 1) := by decide +kernel
theorem dX1_find_5 : decode cX1_find 5 = .ok (.ifnull 11, 3) := by decide +kernel
theorem dX1_find_8 : decode cX1_find 8 = .ok (.aload_n 2, 1) := by decide +kernel
theorem dX1_find_9 : decode cX1_find 9 = .ok (.getfield 30, 3) := by decide +kernel
theorem dX1_find_12 : decode cX1_find 12 = .ok (.iconst 4, 1) := by decide +kernel
theorem dX1_find_13 : decode cX1_find 13 = .ok (.if_icmp .le 4, 3) := by decide +kernel
theorem dX1_find_16 : decode cX1_find 16 = .ok (.return_, 1) := by decide +kernel
theorem dX1_find_17 : decode cX1_find 17 = .ok (.aload_n 0, 1) := by decide +kernel
theorem dX1_find_18 : decode cX1_find 18 = .ok (.aload_n 1, 1) := by decide +kernel
theorem dX1_find_19 : decode cX1_find 19 = .ok (.putfield 22, 3) := by decide +kernel
theorem dX1_find_22 : decode cX1_find 22 = .ok (.aload_n 0, 1) := by decide +kernel
theorem dX1_find_23 : decode cX1_find 23 = .ok (.aload_n 2, 1) := by decide +kernel
theorem dX1_find_24 : decode cX1_find 24 = .ok (.putfield 26, 3) := by decide +kernel
theorem dX1_find_27 : decode cX1_find 27 = .ok (.aload_n 0, 1) := by decide +kernel
theorem dX1_find_28 : decode cX1_find 28 = .ok (.aload_n 2, 1) := by decide +kernel
theorem dX1_find_29 : decode cX1_find 29 = .ok (.getfield 30, 3) := by decide +kernel
theorem dX1_find_32 : decode cX1_find 32 = .ok (.iconst 1, 1) := by decide +kernel
theorem dX1_find_33 : decode cX1_find 33 = .ok (.iadd, 1) := by decide +kernel
theorem dX1_find_34 : decode cX1_find 34 = .ok (.putfield 18, 3) := by decide +kernel
theorem dX1_find_37 : decode cX1_find 37 = .ok (.aload_n 0, 1) := by decide +kernel
theorem dX1_find_38 : decode cX1_find 38 = .ok (.iconst 0, 1) := by decide +kernel
theorem dX1_find_39 : decode cX1_find 39 = .ok (.iconst 0, 1) := by decide +kernel
theorem dX1_find_40 : decode cX1_find 40 = .ok (.invokestatic 35, 3) := by decide +kernel
theorem dX1_find_43 : decode cX1_find 43 = .ok (.return_, 1) := by decide +kernel
theorem dX1_init_0 : decode cX1_init 0 = .ok (.aload_n 0, 1) := by decide +kernel
theorem dX1_init_1 : decode cX1_init 1 = .ok (.invokespecial 3, 3) := by decide +kernel
theorem dX1_init_4 : decode cX1_init 4 = .ok (.aload_n 0, 1) := by decide +kernel
theorem dX1_init_5 : decode cX1_init 5 = .ok (.iconst 4, 1) := by decide +kernel
theorem dX1_init_6 : decode cX1_init 6 = .ok (.newarray .int, 2) := by decide +kernel
theorem dX1_init_8 : decode cX1_init 8 = .ok (.putfield 9, 3) := by decide +kernel
theorem dX1_init_11 : decode cX1_init 11 = .ok (.aload_n 0, 1) := by decide +kernel
theorem dX1_init_12 : decode cX1_init 12 = .ok (.iconst 4, 1) := by decide +kernel
theorem dX1_init_13 : decode cX1_init 13 = .ok (.newarray .int, 2) := by decide +kernel
theorem dX1_init_15 : decode cX1_init 15 = .ok (.putfield 15, 3) := by decide +kernel
theorem dX1_init_18 : decode cX1_init 18 = .ok (.aload_n 0, 1) := by decide +kernel
theorem dX1_init_19 : decode cX1_init 19 = .ok (.iconst 0, 1) := by decide +kernel
theorem dX1_init_20 : decode cX1_init 20 = .ok (.putfield 18, 3) := by decide +kernel
theorem dX1_init_23 : decode cX1_init 23 = .ok (.aload_n 0, 1) := by decide +kernel
theorem dX1_init_24 : decode cX1_init 24 = .ok (.aconst_null, 1) := by decide +kernel
theorem dX1_init_25 : decode cX1_init 25 = .ok (.putfield 22, 3) := by decide +kernel
theorem dX1_init_28 : decode cX1_init 28 = .ok (.aload_n 0, 1) := by decide +kernel
theorem dX1_init_29 : decode cX1_init 29 = .ok (.aconst_null, 1) := by decide +kernel
theorem dX1_init_30 : decode cX1_init 30 = .ok (.putfield 26, 3) := by decide +kernel
theorem dX1_init_33 : decode cX1_init 33 = .ok (.return_, 1) := by decide +kernel
theorem dX1_keep_0 : decode cX1_keep 0 = .ok (.aload_n 0, 1) := by decide +kernel
theorem dX1_keep_1 : decode cX1_keep 1 = .ok (.iload_n 1, 1) := by decide +kernel
theorem dX1_keep_2 : decode cX1_keep 2 = .ok (.putfield 18, 3) := by decide +kernel
theorem dX1_keep_5 : decode cX1_keep 5 = .ok (.aload_n 0, 1) := by decide +kernel
theorem dX1_keep_6 : decode cX1_keep 6 = .ok (.getfield 9, 3) := by decide +kernel
theorem dX1_keep_9 : decode cX1_keep 9 = .ok (.iconst 0, 1) := by decide +kernel
theorem dX1_keep_10 : decode cX1_keep 10 = .ok (.aload_n 0, 1) := by decide +kernel
theorem dX1_keep_11 : decode cX1_keep 11 = .ok (.getfield 15, 3) := by decide +kernel
theorem dX1_keep_14 : decode cX1_keep 14 = .ok (.iconst 0, 1) := by decide +kernel
theorem dX1_keep_15 : decode cX1_keep 15 = .ok (.iconst 4, 1) := by decide +kernel
theorem dX1_keep_16 : decode cX1_keep 16 = .ok (.invokestatic 76, 3) := by decide +kernel
theorem dX1_keep_19 : decode cX1_keep 19 = .ok (.return_, 1) := by decide +kernel
theorem dX1_placeFrom_0 : decode cX1_placeFrom 0 = .ok (.iload_n 2, 1) := by decide +kernel
theorem dX1_placeFrom_1 : decode cX1_placeFrom 1 = .ok (.aload_n 0, 1) := by decide +kernel
theorem dX1_placeFrom_2 : decode cX1_placeFrom 2 = .ok (.getfield 18, 3) := by decide +kernel
theorem dX1_placeFrom_5 : decode cX1_placeFrom 5 = .ok (.if_icmp .lt 4, 3) := by decide +kernel
theorem dX1_placeFrom_8 : decode cX1_placeFrom 8 = .ok (.return_, 1) := by decide +kernel
theorem dX1_placeFrom_9 : decode cX1_placeFrom 9 = .ok (.iload_n 1, 1) := by decide +kernel
theorem dX1_placeFrom_10 : decode cX1_placeFrom 10 = .ok (.aload_n 0, 1) := by decide +kernel
theorem dX1_placeFrom_11 : decode cX1_placeFrom 11 = .ok (.getfield 26, 3) := by decide +kernel
theorem dX1_placeFrom_14 : decode cX1_placeFrom 14 = .ok (.getfield 30, 3) := by decide +kernel
theorem dX1_placeFrom_17 : decode cX1_placeFrom 17 = .ok (.if_icmp .ge 8, 3) := by decide +kernel
theorem dX1_placeFrom_20 : decode cX1_placeFrom 20 = .ok (.iload_n 1, 1) := by decide +kernel
theorem dX1_placeFrom_21 : decode cX1_placeFrom 21 = .ok (.iconst 4, 1) := by decide +kernel
theorem dX1_placeFrom_22 : decode cX1_placeFrom 22 = .ok (.if_icmp .lt 9, 3) := by decide +kernel
theorem dX1_placeFrom_25 : decode cX1_placeFrom 25 = .ok (.aload_n 0, 1) := by decide +kernel
theorem dX1_placeFrom_26 : decode cX1_placeFrom 26 = .ok (.iload_n 2, 1) := by decide +kernel
theorem dX1_placeFrom_27 : decode cX1_placeFrom 27 = .ok (.invokevirtual 39, 3) := by decide +kernel
theorem dX1_placeFrom_30 : decode cX1_placeFrom 30 = .ok (.return_, 1) := by decide +kernel
theorem dX1_placeFrom_31 : decode cX1_placeFrom 31 = .ok (.iconst 0, 1) := by decide +kernel
theorem dX1_placeFrom_32 : decode cX1_placeFrom 32 = .ok (.istore_n 3, 1) := by decide +kernel
theorem dX1_placeFrom_33 : decode cX1_placeFrom 33 = .ok (.iload_n 3, 1) := by decide +kernel
theorem dX1_placeFrom_34 : decode cX1_placeFrom 34 = .ok (.aload_n 0, 1) := by decide +kernel
theorem dX1_placeFrom_35 : decode cX1_placeFrom 35 = .ok (.getfield 22, 3) := by decide +kernel
theorem dX1_placeFrom_38 : decode cX1_placeFrom 38 = .ok (.getfield 43, 3) := by decide +kernel
theorem dX1_placeFrom_41 : decode cX1_placeFrom 41 = .ok (.if_icmp .ge 83, 3) := by decide +kernel
theorem dX1_placeFrom_44 : decode cX1_placeFrom 44 = .ok (.iload_n 3, 1) := by decide +kernel
theorem dX1_placeFrom_45 : decode cX1_placeFrom 45 = .ok (.bipush 8, 2) := by decide +kernel
theorem dX1_placeFrom_47 : decode cX1_placeFrom 47 = .ok (.if_icmp .ge 77, 3) := by decide +kernel
theorem dX1_placeFrom_50 : decode cX1_placeFrom 50 = .ok (.aload_n 0, 1) := by decide +kernel
theorem dX1_placeFrom_51 : decode cX1_placeFrom 51 = .ok (.getfield 22, 3) := by decide +kernel
theorem dX1_placeFrom_54 : decode cX1_placeFrom 54 = .ok (.getfield 48, 3) := by decide +kernel
theorem dX1_placeFrom_57 : decode cX1_placeFrom 57 = .ok (.iload_n 3, 1) := by decide +kernel
theorem dX1_placeFrom_58 : decode cX1_placeFrom 58 = .ok (.iaload, 1) := by decide +kernel
theorem dX1_placeFrom_59 : decode cX1_placeFrom 59 = .ok (.istore 4, 2) := by decide +kernel
theorem dX1_placeFrom_61 : decode cX1_placeFrom 61 = .ok (.aload_n 0, 1) := by decide +kernel
theorem dX1_placeFrom_62 : decode cX1_placeFrom 62 = .ok (.getfield 22, 3) := by decide +kernel
theorem dX1_placeFrom_65 : decode cX1_placeFrom 65 = .ok (.getfield 51, 3) := by decide +kernel
theorem dX1_placeFrom_68 : decode cX1_placeFrom 68 = .ok (.iload_n 3, 1) := by decide +kernel
theorem dX1_placeFrom_69 : decode cX1_placeFrom 69 = .ok (.iaload, 1) := by decide +kernel
theorem dX1_placeFrom_70 : decode cX1_placeFrom 70 = .ok (.istore 5, 2) := by decide +kernel
theorem dX1_placeFrom_72 : decode cX1_placeFrom 72 = .ok (.aload_n 0, 1) := by decide +kernel
theorem dX1_placeFrom_73 : decode cX1_placeFrom 73 = .ok (.iload_n 1, 1) := by decide +kernel
theorem dX1_placeFrom_74 : decode cX1_placeFrom 74 = .ok (.iload_n 3, 1) := by decide +kernel
theorem dX1_placeFrom_75 : decode cX1_placeFrom 75 = .ok (.invokevirtual 54, 3) := by decide +kernel
theorem dX1_placeFrom_78 : decode cX1_placeFrom 78 = .ok (.ifCond .eq 18, 3) := by decide +kernel
theorem dX1_placeFrom_81 : decode cX1_placeFrom 81 = .ok (.aload_n 0, 1) := by decide +kernel
theorem dX1_placeFrom_82 : decode cX1_placeFrom 82 = .ok (.getfield 9, 3) := by decide +kernel
theorem dX1_placeFrom_85 : decode cX1_placeFrom 85 = .ok (.iload_n 1, 1) := by decide +kernel
theorem dX1_placeFrom_86 : decode cX1_placeFrom 86 = .ok (.iload_n 3, 1) := by decide +kernel
theorem dX1_placeFrom_87 : decode cX1_placeFrom 87 = .ok (.iastore, 1) := by decide +kernel
theorem dX1_placeFrom_88 : decode cX1_placeFrom 88 = .ok (.aload_n 0, 1) := by decide +kernel
theorem dX1_placeFrom_89 : decode cX1_placeFrom 89 = .ok (.iload_n 1, 1) := by decide +kernel
theorem dX1_placeFrom_90 : decode cX1_placeFrom 90 = .ok (.iconst 1, 1) := by decide +kernel
theorem dX1_placeFrom_91 : decode cX1_placeFrom 91 = .ok (.iadd, 1) := by decide +kernel
theorem dX1_placeFrom_92 : decode cX1_placeFrom 92 = .ok (.iload_n 2, 1) := by decide +kernel
theorem dX1_placeFrom_93 : decode cX1_placeFrom 93 = .ok (.invokestatic 35, 3) := by decide +kernel
theorem dX1_placeFrom_96 : decode cX1_placeFrom 96 = .ok (.aload_n 0, 1) := by decide +kernel
theorem dX1_placeFrom_97 : decode cX1_placeFrom 97 = .ok (.getfield 22, 3) := by decide +kernel
theorem dX1_placeFrom_100 : decode cX1_placeFrom 100 = .ok (.getfield 48, 3) := by decide +kernel
theorem dX1_placeFrom_103 : decode cX1_placeFrom 103 = .ok (.iload_n 3, 1) := by decide +kernel
theorem dX1_placeFrom_104 : decode cX1_placeFrom 104 = .ok (.iload 4, 2) := by decide +kernel
theorem dX1_placeFrom_106 : decode cX1_placeFrom 106 = .ok (.iastore, 1) := by decide +kernel
theorem dX1_placeFrom_107 : decode cX1_placeFrom 107 = .ok (.aload_n 0, 1) := by decide +kernel
theorem dX1_placeFrom_108 : decode cX1_placeFrom 108 = .ok (.getfield 22, 3) := by decide +kernel
theorem dX1_placeFrom_111 : decode cX1_placeFrom 111 = .ok (.getfield 51, 3) := by decide +kernel
theorem dX1_placeFrom_114 : decode cX1_placeFrom 114 = .ok (.iload_n 3, 1) := by decide +kernel
theorem dX1_placeFrom_115 : decode cX1_placeFrom 115 = .ok (.iload 5, 2) := by decide +kernel
theorem dX1_placeFrom_117 : decode cX1_placeFrom 117 = .ok (.iastore, 1) := by decide +kernel
theorem dX1_placeFrom_118 : decode cX1_placeFrom 118 = .ok (.iinc 3 1, 3) := by decide +kernel
theorem dX1_placeFrom_121 : decode cX1_placeFrom 121 = .ok (.goto (-88), 3) := by decide +kernel
theorem dX1_placeFrom_124 : decode cX1_placeFrom 124 = .ok (.aload_n 0, 1) := by decide +kernel
theorem dX1_placeFrom_125 : decode cX1_placeFrom 125 = .ok (.getfield 9, 3) := by decide +kernel
theorem dX1_placeFrom_128 : decode cX1_placeFrom 128 = .ok (.iload_n 1, 1) := by decide +kernel
theorem dX1_placeFrom_129 : decode cX1_placeFrom 129 = .ok (.bipush (-6), 2) := by decide +kernel
theorem dX1_placeFrom_131 : decode cX1_placeFrom 131 = .ok (.iastore, 1) := by decide +kernel
theorem dX1_placeFrom_132 : decode cX1_placeFrom 132 = .ok (.aload_n 0, 1) := by decide +kernel
theorem dX1_placeFrom_133 : decode cX1_placeFrom 133 = .ok (.iload_n 1, 1) := by decide +kernel
theorem dX1_placeFrom_134 : decode cX1_placeFrom 134 = .ok (.iconst 1, 1) := by decide +kernel
theorem dX1_placeFrom_135 : decode cX1_placeFrom 135 = .ok (.iadd, 1) := by decide +kernel
theorem dX1_placeFrom_136 : decode cX1_placeFrom 136 = .ok (.iload_n 2, 1) := by decide +kernel
theorem dX1_placeFrom_137 : decode cX1_placeFrom 137 = .ok (.iconst 1, 1) := by decide +kernel
theorem dX1_placeFrom_138 : decode cX1_placeFrom 138 = .ok (.iadd, 1) := by decide +kernel
theorem dX1_placeFrom_139 : decode cX1_placeFrom 139 = .ok (.invokestatic 35, 3) := by decide +kernel
theorem dX1_placeFrom_142 : decode cX1_placeFrom 142 = .ok (.return_, 1) := by decide +kernel
theorem dX1_sayIn_0 : decode cX1_sayIn 0 = .ok (.aload_n 0, 1) := by decide +kernel
theorem dX1_sayIn_1 : decode cX1_sayIn 1 = .ok (.getfield 22, 3) := by decide +kernel
theorem dX1_sayIn_4 : decode cX1_sayIn 4 = .ok (.aload_n 0, 1) := by decide +kernel
theorem dX1_sayIn_5 : decode cX1_sayIn 5 = .ok (.getfield 26, 3) := by decide +kernel
theorem dX1_sayIn_8 : decode cX1_sayIn 8 = .ok (.getfield 58, 3) := by decide +kernel
theorem dX1_sayIn_11 : decode cX1_sayIn 11 = .ok (.iload_n 1, 1) := by decide +kernel
theorem dX1_sayIn_12 : decode cX1_sayIn 12 = .ok (.iaload, 1) := by decide +kernel
theorem dX1_sayIn_13 : decode cX1_sayIn 13 = .ok (.iload_n 2, 1) := by decide +kernel
theorem dX1_sayIn_14 : decode cX1_sayIn 14 = .ok (.aload_n 0, 1) := by decide +kernel
theorem dX1_sayIn_15 : decode cX1_sayIn 15 = .ok (.getfield 26, 3) := by decide +kernel
theorem dX1_sayIn_18 : decode cX1_sayIn 18 = .ok (.getfield 61, 3) := by decide +kernel
theorem dX1_sayIn_21 : decode cX1_sayIn 21 = .ok (.iload_n 1, 1) := by decide +kernel
theorem dX1_sayIn_22 : decode cX1_sayIn 22 = .ok (.iaload, 1) := by decide +kernel
theorem dX1_sayIn_23 : decode cX1_sayIn 23 = .ok (.invokevirtual 64, 3) := by decide +kernel
theorem dX1_sayIn_26 : decode cX1_sayIn 26 = .ok (.ifCond .eq 5, 3) := by decide +kernel
theorem dX1_sayIn_29 : decode cX1_sayIn 29 = .ok (.iconst 0, 1) := by decide +kernel
theorem dX1_sayIn_30 : decode cX1_sayIn 30 = .ok (.ireturn, 1) := by decide +kernel
theorem dX1_sayIn_31 : decode cX1_sayIn 31 = .ok (.aload_n 0, 1) := by decide +kernel
theorem dX1_sayIn_32 : decode cX1_sayIn 32 = .ok (.getfield 22, 3) := by decide +kernel
theorem dX1_sayIn_35 : decode cX1_sayIn 35 = .ok (.aload_n 0, 1) := by decide +kernel
theorem dX1_sayIn_36 : decode cX1_sayIn 36 = .ok (.getfield 26, 3) := by decide +kernel
theorem dX1_sayIn_39 : decode cX1_sayIn 39 = .ok (.getfield 58, 3) := by decide +kernel
theorem dX1_sayIn_42 : decode cX1_sayIn 42 = .ok (.iload_n 1, 1) := by decide +kernel
theorem dX1_sayIn_43 : decode cX1_sayIn 43 = .ok (.iaload, 1) := by decide +kernel
theorem dX1_sayIn_44 : decode cX1_sayIn 44 = .ok (.iload_n 2, 1) := by decide +kernel
theorem dX1_sayIn_45 : decode cX1_sayIn 45 = .ok (.aload_n 0, 1) := by decide +kernel
theorem dX1_sayIn_46 : decode cX1_sayIn 46 = .ok (.getfield 26, 3) := by decide +kernel
theorem dX1_sayIn_49 : decode cX1_sayIn 49 = .ok (.getfield 61, 3) := by decide +kernel
theorem dX1_sayIn_52 : decode cX1_sayIn 52 = .ok (.iload_n 1, 1) := by decide +kernel
theorem dX1_sayIn_53 : decode cX1_sayIn 53 = .ok (.iaload, 1) := by decide +kernel
theorem dX1_sayIn_54 : decode cX1_sayIn 54 = .ok (.invokevirtual 68, 3) := by decide +kernel
theorem dX1_sayIn_57 : decode cX1_sayIn 57 = .ok (.aload_n 0, 1) := by decide +kernel
theorem dX1_sayIn_58 : decode cX1_sayIn 58 = .ok (.getfield 22, 3) := by decide +kernel
theorem dX1_sayIn_61 : decode cX1_sayIn 61 = .ok (.invokevirtual 72, 3) := by decide +kernel
theorem dX1_sayIn_64 : decode cX1_sayIn 64 = .ok (.ifCond .ne 7, 3) := by decide +kernel
theorem dX1_sayIn_67 : decode cX1_sayIn 67 = .ok (.iconst 1, 1) := by decide +kernel
theorem dX1_sayIn_68 : decode cX1_sayIn 68 = .ok (.goto 4, 3) := by decide +kernel
theorem dX1_sayIn_71 : decode cX1_sayIn 71 = .ok (.iconst 0, 1) := by decide +kernel
theorem dX1_sayIn_72 : decode cX1_sayIn 72 = .ok (.ireturn, 1) := by decide +kernel
theorem dX2_gardenToMeasure_0 : decode cX2_gardenToMeasure 0 = .ok (.bipush (-6), 2) := by decide +kernel
theorem dX2_gardenToMeasure_2 : decode cX2_gardenToMeasure 2 = .ok (.istore_n 1, 1) := by decide +kernel
theorem dX2_gardenToMeasure_3 : decode cX2_gardenToMeasure 3 = .ok (.aload_n 0, 1) := by decide +kernel
theorem dX2_gardenToMeasure_4 : decode cX2_gardenToMeasure 4 = .ok (.getfield 32, 3) := by decide +kernel
theorem dX2_gardenToMeasure_7 : decode cX2_gardenToMeasure 7 = .ok (.ifCond .eq 10, 3) := by decide +kernel
theorem dX2_gardenToMeasure_10 : decode cX2_gardenToMeasure 10 = .ok (.aload_n 0, 1) := by decide +kernel
theorem dX2_gardenToMeasure_11 : decode cX2_gardenToMeasure 11 = .ok (.getfield 24, 3) := by decide +kernel
theorem dX2_gardenToMeasure_14 : decode cX2_gardenToMeasure 14 = .ok (.ifnonnull 5, 3) := by decide +kernel
theorem dX2_gardenToMeasure_17 : decode cX2_gardenToMeasure 17 = .ok (.iload_n 1, 1) := by decide +kernel
theorem dX2_gardenToMeasure_18 : decode cX2_gardenToMeasure 18 = .ok (.ireturn, 1) := by decide +kernel
theorem dX2_gardenToMeasure_19 : decode cX2_gardenToMeasure 19 = .ok (.iconst 0, 1) := by decide +kernel
theorem dX2_gardenToMeasure_20 : decode cX2_gardenToMeasure 20 = .ok (.istore_n 2, 1) := by decide +kernel
theorem dX2_gardenToMeasure_21 : decode cX2_gardenToMeasure 21 = .ok (.iload_n 2, 1) := by decide +kernel
theorem dX2_gardenToMeasure_22 : decode cX2_gardenToMeasure 22 = .ok (.aload_n 0, 1) := by decide +kernel
theorem dX2_gardenToMeasure_23 : decode cX2_gardenToMeasure 23 = .ok (.getfield 24, 3) := by decide +kernel
theorem dX2_gardenToMeasure_26 : decode cX2_gardenToMeasure 26 = .ok (.getfield 45, 3) := by decide +kernel
theorem dX2_gardenToMeasure_29 : decode cX2_gardenToMeasure 29 = .ok (.if_icmp .ge 47, 3) := by decide +kernel
theorem dX2_gardenToMeasure_32 : decode cX2_gardenToMeasure 32 = .ok (.iload_n 2, 1) := by decide +kernel
theorem dX2_gardenToMeasure_33 : decode cX2_gardenToMeasure 33 = .ok (.bipush 8, 2) := by decide +kernel
theorem dX2_gardenToMeasure_35 : decode cX2_gardenToMeasure 35 = .ok (.if_icmp .ge 41, 3) := by decide +kernel
theorem dX2_gardenToMeasure_38 : decode cX2_gardenToMeasure 38 = .ok (.aload_n 0, 1) := by decide +kernel
theorem dX2_gardenToMeasure_39 : decode cX2_gardenToMeasure 39 = .ok (.getfield 24, 3) := by decide +kernel
theorem dX2_gardenToMeasure_42 : decode cX2_gardenToMeasure 42 = .ok (.iload_n 2, 1) := by decide +kernel
theorem dX2_gardenToMeasure_43 : decode cX2_gardenToMeasure 43 = .ok (.invokevirtual 86, 3) := by decide +kernel
theorem dX2_gardenToMeasure_46 : decode cX2_gardenToMeasure 46 = .ok (.ifCond .ne 24, 3) := by decide +kernel
theorem dX2_gardenToMeasure_49 : decode cX2_gardenToMeasure 49 = .ok (.iload_n 1, 1) := by decide +kernel
theorem dX2_gardenToMeasure_50 : decode cX2_gardenToMeasure 50 = .ok (.bipush (-6), 2) := by decide +kernel
theorem dX2_gardenToMeasure_52 : decode cX2_gardenToMeasure 52 = .ok (.if_icmp .eq 16, 3) := by decide +kernel
theorem dX2_gardenToMeasure_55 : decode cX2_gardenToMeasure 55 = .ok (.aload_n 0, 1) := by decide +kernel
theorem dX2_gardenToMeasure_56 : decode cX2_gardenToMeasure 56 = .ok (.iload_n 2, 1) := by decide +kernel
theorem dX2_gardenToMeasure_57 : decode cX2_gardenToMeasure 57 = .ok (.invokevirtual 90, 3) := by decide +kernel
theorem dX2_gardenToMeasure_60 : decode cX2_gardenToMeasure 60 = .ok (.aload_n 0, 1) := by decide +kernel
theorem dX2_gardenToMeasure_61 : decode cX2_gardenToMeasure 61 = .ok (.iload_n 1, 1) := by decide +kernel
theorem dX2_gardenToMeasure_62 : decode cX2_gardenToMeasure 62 = .ok (.invokevirtual 90, 3) := by decide +kernel
theorem dX2_gardenToMeasure_65 : decode cX2_gardenToMeasure 65 = .ok (.if_icmp .ge 5, 3) := by decide +kernel
theorem dX2_gardenToMeasure_68 : decode cX2_gardenToMeasure 68 = .ok (.iload_n 2, 1) := by decide +kernel
theorem dX2_gardenToMeasure_69 : decode cX2_gardenToMeasure 69 = .ok (.istore_n 1, 1) := by decide +kernel
theorem dX2_gardenToMeasure_70 : decode cX2_gardenToMeasure 70 = .ok (.iinc 2 1, 3) := by decide +kernel
theorem dX2_gardenToMeasure_73 : decode cX2_gardenToMeasure 73 = .ok (.goto (-52), 3) := by decide +kernel
theorem dX2_gardenToMeasure_76 : decode cX2_gardenToMeasure 76 = .ok (.iload_n 1, 1) := by decide +kernel
theorem dX2_gardenToMeasure_77 : decode cX2_gardenToMeasure 77 = .ok (.ireturn, 1) := by decide +kernel
theorem dX2_gather_0 : decode cX2_gather 0 = .ok (.aload_n 1, 1) := by decide +kernel
theorem dX2_gather_1 : decode cX2_gather 1 = .ok (.ifnull 12, 3) := by decide +kernel
theorem dX2_gather_4 : decode cX2_gather 4 = .ok (.iload_n 2, 1) := by decide +kernel
theorem dX2_gather_5 : decode cX2_gather 5 = .ok (.iconst 0, 1) := by decide +kernel
theorem dX2_gather_6 : decode cX2_gather 6 = .ok (.iconst 3, 1) := by decide +kernel
theorem dX2_gather_7 : decode cX2_gather 7 = .ok (.invokestatic 41, 3) := by decide +kernel
theorem dX2_gather_10 : decode cX2_gather 10 = .ok (.ifCond .eq 4, 3) := by decide +kernel
theorem dX2_gather_13 : decode cX2_gather 13 = .ok (.return_, 1) := by decide +kernel
theorem dX2_gather_14 : decode cX2_gather 14 = .ok (.aload_n 0, 1) := by decide +kernel
theorem dX2_gather_15 : decode cX2_gather 15 = .ok (.aload_n 1, 1) := by decide +kernel
theorem dX2_gather_16 : decode cX2_gather 16 = .ok (.putfield 24, 3) := by decide +kernel
theorem dX2_gather_19 : decode cX2_gather 19 = .ok (.aload_n 0, 1) := by decide +kernel
theorem dX2_gather_20 : decode cX2_gather 20 = .ok (.iload_n 2, 1) := by decide +kernel
theorem dX2_gather_21 : decode cX2_gather 21 = .ok (.putfield 28, 3) := by decide +kernel
theorem dX2_gather_24 : decode cX2_gather 24 = .ok (.aload_n 0, 1) := by decide +kernel
theorem dX2_gather_25 : decode cX2_gather 25 = .ok (.iconst 0, 1) := by decide +kernel
theorem dX2_gather_26 : decode cX2_gather 26 = .ok (.putfield 32, 3) := by decide +kernel
theorem dX2_gather_29 : decode cX2_gather 29 = .ok (.aload_n 0, 1) := by decide +kernel
theorem dX2_gather_30 : decode cX2_gather 30 = .ok (.iconst 0, 1) := by decide +kernel
theorem dX2_gather_31 : decode cX2_gather 31 = .ok (.putfield 35, 3) := by decide +kernel
theorem dX2_gather_34 : decode cX2_gather 34 = .ok (.aload_n 0, 1) := by decide +kernel
theorem dX2_gather_35 : decode cX2_gather 35 = .ok (.iconst 1, 1) := by decide +kernel
theorem dX2_gather_36 : decode cX2_gather 36 = .ok (.aload_n 1, 1) := by decide +kernel
theorem dX2_gather_37 : decode cX2_gather 37 = .ok (.getfield 45, 3) := by decide +kernel
theorem dX2_gather_40 : decode cX2_gather 40 = .ok (.ishl, 1) := by decide +kernel
theorem dX2_gather_41 : decode cX2_gather 41 = .ok (.iconst 1, 1) := by decide +kernel
theorem dX2_gather_42 : decode cX2_gather 42 = .ok (.isub, 1) := by decide +kernel
theorem dX2_gather_43 : decode cX2_gather 43 = .ok (.putfield 38, 3) := by decide +kernel
theorem dX2_gather_46 : decode cX2_gather 46 = .ok (.aload_n 0, 1) := by decide +kernel
theorem dX2_gather_47 : decode cX2_gather 47 = .ok (.getfield 21, 3) := by decide +kernel
theorem dX2_gather_50 : decode cX2_gather 50 = .ok (.iconst 0, 1) := by decide +kernel
theorem dX2_gather_51 : decode cX2_gather 51 = .ok (.invokestatic 50, 3) := by decide +kernel
theorem dX2_gather_54 : decode cX2_gather 54 = .ok (.aload_n 1, 1) := by decide +kernel
theorem dX2_gather_55 : decode cX2_gather 55 = .ok (.getfield 56, 3) := by decide +kernel
theorem dX2_gather_58 : decode cX2_gather 58 = .ok (.iconst 0, 1) := by decide +kernel
theorem dX2_gather_59 : decode cX2_gather 59 = .ok (.aload_n 0, 1) := by decide +kernel
theorem dX2_gather_60 : decode cX2_gather 60 = .ok (.getfield 15, 3) := by decide +kernel
theorem dX2_gather_63 : decode cX2_gather 63 = .ok (.iconst 0, 1) := by decide +kernel
theorem dX2_gather_64 : decode cX2_gather 64 = .ok (.bipush 8, 2) := by decide +kernel
theorem dX2_gather_66 : decode cX2_gather 66 = .ok (.invokestatic 59, 3) := by decide +kernel
theorem dX2_gather_69 : decode cX2_gather 69 = .ok (.aload_n 0, 1) := by decide +kernel
theorem dX2_gather_70 : decode cX2_gather 70 = .ok (.iload_n 2, 1) := by decide +kernel
theorem dX2_gather_71 : decode cX2_gather 71 = .ok (.iconst 0, 1) := by decide +kernel
theorem dX2_gather_72 : decode cX2_gather 72 = .ok (.invokestatic 65, 3) := by decide +kernel
theorem dX2_gather_75 : decode cX2_gather 75 = .ok (.aload_n 0, 1) := by decide +kernel
theorem dX2_gather_76 : decode cX2_gather 76 = .ok (.getfield 32, 3) := by decide +kernel
theorem dX2_gather_79 : decode cX2_gather 79 = .ok (.ifCond .ne 8, 3) := by decide +kernel
theorem dX2_gather_82 : decode cX2_gather 82 = .ok (.aload_n 0, 1) := by decide +kernel
theorem dX2_gather_83 : decode cX2_gather 83 = .ok (.iconst 0, 1) := by decide +kernel
theorem dX2_gather_84 : decode cX2_gather 84 = .ok (.putfield 38, 3) := by decide +kernel
theorem dX2_gather_87 : decode cX2_gather 87 = .ok (.return_, 1) := by decide +kernel
theorem dX2_init_0 : decode cX2_init 0 = .ok (.aload_n 0, 1) := by decide +kernel
theorem dX2_init_1 : decode cX2_init 1 = .ok (.invokespecial 3, 3) := by decide +kernel
theorem dX2_init_4 : decode cX2_init 4 = .ok (.aload_n 0, 1) := by decide +kernel
theorem dX2_init_5 : decode cX2_init 5 = .ok (.iconst 3, 1) := by decide +kernel
theorem dX2_init_6 : decode cX2_init 6 = .ok (.newarray .int, 2) := by decide +kernel
theorem dX2_init_8 : decode cX2_init 8 = .ok (.putfield 9, 3) := by decide +kernel
theorem dX2_init_11 : decode cX2_init 11 = .ok (.aload_n 0, 1) := by decide +kernel
theorem dX2_init_12 : decode cX2_init 12 = .ok (.bipush 8, 2) := by decide +kernel
theorem dX2_init_14 : decode cX2_init 14 = .ok (.newarray .int, 2) := by decide +kernel
theorem dX2_init_16 : decode cX2_init 16 = .ok (.putfield 15, 3) := by decide +kernel
theorem dX2_init_19 : decode cX2_init 19 = .ok (.aload_n 0, 1) := by decide +kernel
theorem dX2_init_20 : decode cX2_init 20 = .ok (.bipush 8, 2) := by decide +kernel
theorem dX2_init_22 : decode cX2_init 22 = .ok (.newarray .int, 2) := by decide +kernel
theorem dX2_init_24 : decode cX2_init 24 = .ok (.putfield 18, 3) := by decide +kernel
theorem dX2_init_27 : decode cX2_init 27 = .ok (.aload_n 0, 1) := by decide +kernel
theorem dX2_init_28 : decode cX2_init 28 = .ok (.sipush 256, 3) := by decide +kernel
theorem dX2_init_31 : decode cX2_init 31 = .ok (.newarray .int, 2) := by decide +kernel
theorem dX2_init_33 : decode cX2_init 33 = .ok (.putfield 21, 3) := by decide +kernel
theorem dX2_init_36 : decode cX2_init 36 = .ok (.aload_n 0, 1) := by decide +kernel
theorem dX2_init_37 : decode cX2_init 37 = .ok (.aconst_null, 1) := by decide +kernel
theorem dX2_init_38 : decode cX2_init 38 = .ok (.putfield 24, 3) := by decide +kernel
theorem dX2_init_41 : decode cX2_init 41 = .ok (.aload_n 0, 1) := by decide +kernel
theorem dX2_init_42 : decode cX2_init 42 = .ok (.iconst 0, 1) := by decide +kernel
theorem dX2_init_43 : decode cX2_init 43 = .ok (.putfield 28, 3) := by decide +kernel
theorem dX2_init_46 : decode cX2_init 46 = .ok (.aload_n 0, 1) := by decide +kernel
theorem dX2_init_47 : decode cX2_init 47 = .ok (.iconst 0, 1) := by decide +kernel
theorem dX2_init_48 : decode cX2_init 48 = .ok (.putfield 32, 3) := by decide +kernel
theorem dX2_init_51 : decode cX2_init 51 = .ok (.aload_n 0, 1) := by decide +kernel
theorem dX2_init_52 : decode cX2_init 52 = .ok (.iconst 0, 1) := by decide +kernel
theorem dX2_init_53 : decode cX2_init 53 = .ok (.putfield 35, 3) := by decide +kernel
theorem dX2_init_56 : decode cX2_init 56 = .ok (.aload_n 0, 1) := by decide +kernel
theorem dX2_init_57 : decode cX2_init 57 = .ok (.iconst 0, 1) := by decide +kernel
theorem dX2_init_58 : decode cX2_init 58 = .ok (.putfield 38, 3) := by decide +kernel
theorem dX2_init_61 : decode cX2_init 61 = .ok (.return_, 1) := by decide +kernel
theorem dX2_mostLeft_0 : decode cX2_mostLeft 0 = .ok (.iconst 0, 1) := by decide +kernel
theorem dX2_mostLeft_1 : decode cX2_mostLeft 1 = .ok (.istore_n 2, 1) := by decide +kernel
theorem dX2_mostLeft_2 : decode cX2_mostLeft 2 = .ok (.iload_n 1, 1) := by decide +kernel
theorem dX2_mostLeft_3 : decode cX2_mostLeft 3 = .ok (.iconst 0, 1) := by decide +kernel
theorem dX2_mostLeft_4 : decode cX2_mostLeft 4 = .ok (.bipush 7, 2) := by decide +kernel
theorem dX2_mostLeft_6 : decode cX2_mostLeft 6 = .ok (.invokestatic 41, 3) := by decide +kernel
theorem dX2_mostLeft_9 : decode cX2_mostLeft 9 = .ok (.ifCond .eq 5, 3) := by decide +kernel
theorem dX2_mostLeft_12 : decode cX2_mostLeft 12 = .ok (.iload_n 2, 1) := by decide +kernel
theorem dX2_mostLeft_13 : decode cX2_mostLeft 13 = .ok (.ireturn, 1) := by decide +kernel
theorem dX2_mostLeft_14 : decode cX2_mostLeft 14 = .ok (.iconst 0, 1) := by decide +kernel
theorem dX2_mostLeft_15 : decode cX2_mostLeft 15 = .ok (.istore_n 3, 1) := by decide +kernel
theorem dX2_mostLeft_16 : decode cX2_mostLeft 16 = .ok (.iload_n 3, 1) := by decide +kernel
theorem dX2_mostLeft_17 : decode cX2_mostLeft 17 = .ok (.bipush 32, 2) := by decide +kernel
theorem dX2_mostLeft_19 : decode cX2_mostLeft 19 = .ok (.if_icmp .ge 25, 3) := by decide +kernel
theorem dX2_mostLeft_22 : decode cX2_mostLeft 22 = .ok (.iload_n 2, 1) := by decide +kernel
theorem dX2_mostLeft_23 : decode cX2_mostLeft 23 = .ok (.aload_n 0, 1) := by decide +kernel
theorem dX2_mostLeft_24 : decode cX2_mostLeft 24 = .ok (.getfield 21, 3) := by decide +kernel
theorem dX2_mostLeft_27 : decode cX2_mostLeft 27 = .ok (.iload_n 1, 1) := by decide +kernel
theorem dX2_mostLeft_28 : decode cX2_mostLeft 28 = .ok (.bipush 32, 2) := by decide +kernel
theorem dX2_mostLeft_30 : decode cX2_mostLeft 30 = .ok (.imul, 1) := by decide +kernel
theorem dX2_mostLeft_31 : decode cX2_mostLeft 31 = .ok (.iload_n 3, 1) := by decide +kernel
theorem dX2_mostLeft_32 : decode cX2_mostLeft 32 = .ok (.iadd, 1) := by decide +kernel
theorem dX2_mostLeft_33 : decode cX2_mostLeft 33 = .ok (.iaload, 1) := by decide +kernel
theorem dX2_mostLeft_34 : decode cX2_mostLeft 34 = .ok (.invokestatic 94, 3) := by decide +kernel
theorem dX2_mostLeft_37 : decode cX2_mostLeft 37 = .ok (.istore_n 2, 1) := by decide +kernel
theorem dX2_mostLeft_38 : decode cX2_mostLeft 38 = .ok (.iinc 3 1, 3) := by decide +kernel
theorem dX2_mostLeft_41 : decode cX2_mostLeft 41 = .ok (.goto (-25), 3) := by decide +kernel
theorem dX2_mostLeft_44 : decode cX2_mostLeft 44 = .ok (.iload_n 2, 1) := by decide +kernel
theorem dX2_mostLeft_45 : decode cX2_mostLeft 45 = .ok (.ireturn, 1) := by decide +kernel
theorem dX2_orders_0 : decode cX2_orders 0 = .ok (.iconst 1, 1) := by decide +kernel
theorem dX2_orders_1 : decode cX2_orders 1 = .ok (.istore_n 1, 1) := by decide +kernel
theorem dX2_orders_2 : decode cX2_orders 2 = .ok (.iconst 1, 1) := by decide +kernel
theorem dX2_orders_3 : decode cX2_orders 3 = .ok (.istore_n 2, 1) := by decide +kernel
theorem dX2_orders_4 : decode cX2_orders 4 = .ok (.iconst 1, 1) := by decide +kernel
theorem dX2_orders_5 : decode cX2_orders 5 = .ok (.istore_n 3, 1) := by decide +kernel
theorem dX2_orders_6 : decode cX2_orders 6 = .ok (.iload_n 3, 1) := by decide +kernel
theorem dX2_orders_7 : decode cX2_orders 7 = .ok (.aload_n 0, 1) := by decide +kernel
theorem dX2_orders_8 : decode cX2_orders 8 = .ok (.getfield 28, 3) := by decide +kernel
theorem dX2_orders_11 : decode cX2_orders 11 = .ok (.if_icmp .ge 47, 3) := by decide +kernel
theorem dX2_orders_14 : decode cX2_orders 14 = .ok (.iload_n 3, 1) := by decide +kernel
theorem dX2_orders_15 : decode cX2_orders 15 = .ok (.iconst 3, 1) := by decide +kernel
theorem dX2_orders_16 : decode cX2_orders 16 = .ok (.if_icmp .ge 42, 3) := by decide +kernel
theorem dX2_orders_19 : decode cX2_orders 19 = .ok (.aload_n 0, 1) := by decide +kernel
theorem dX2_orders_20 : decode cX2_orders 20 = .ok (.getfield 9, 3) := by decide +kernel
theorem dX2_orders_23 : decode cX2_orders 23 = .ok (.iload_n 3, 1) := by decide +kernel
theorem dX2_orders_24 : decode cX2_orders 24 = .ok (.iaload, 1) := by decide +kernel
theorem dX2_orders_25 : decode cX2_orders 25 = .ok (.aload_n 0, 1) := by decide +kernel
theorem dX2_orders_26 : decode cX2_orders 26 = .ok (.getfield 9, 3) := by decide +kernel
theorem dX2_orders_29 : decode cX2_orders 29 = .ok (.iload_n 3, 1) := by decide +kernel
theorem dX2_orders_30 : decode cX2_orders 30 = .ok (.iconst 1, 1) := by decide +kernel
theorem dX2_orders_31 : decode cX2_orders 31 = .ok (.isub, 1) := by decide +kernel
theorem dX2_orders_32 : decode cX2_orders 32 = .ok (.iaload, 1) := by decide +kernel
theorem dX2_orders_33 : decode cX2_orders 33 = .ok (.if_icmp .ne 9, 3) := by decide +kernel
theorem dX2_orders_36 : decode cX2_orders 36 = .ok (.iload_n 2, 1) := by decide +kernel
theorem dX2_orders_37 : decode cX2_orders 37 = .ok (.iconst 1, 1) := by decide +kernel
theorem dX2_orders_38 : decode cX2_orders 38 = .ok (.iadd, 1) := by decide +kernel
theorem dX2_orders_39 : decode cX2_orders 39 = .ok (.goto 4, 3) := by decide +kernel
theorem dX2_orders_42 : decode cX2_orders 42 = .ok (.iconst 1, 1) := by decide +kernel
theorem dX2_orders_43 : decode cX2_orders 43 = .ok (.istore_n 2, 1) := by decide +kernel
theorem dX2_orders_44 : decode cX2_orders 44 = .ok (.iload_n 1, 1) := by decide +kernel
theorem dX2_orders_45 : decode cX2_orders 45 = .ok (.iload_n 3, 1) := by decide +kernel
theorem dX2_orders_46 : decode cX2_orders 46 = .ok (.iconst 1, 1) := by decide +kernel
theorem dX2_orders_47 : decode cX2_orders 47 = .ok (.iadd, 1) := by decide +kernel
theorem dX2_orders_48 : decode cX2_orders 48 = .ok (.imul, 1) := by decide +kernel
theorem dX2_orders_49 : decode cX2_orders 49 = .ok (.iload_n 2, 1) := by decide +kernel
theorem dX2_orders_50 : decode cX2_orders 50 = .ok (.idiv, 1) := by decide +kernel
theorem dX2_orders_51 : decode cX2_orders 51 = .ok (.istore_n 1, 1) := by decide +kernel
theorem dX2_orders_52 : decode cX2_orders 52 = .ok (.iinc 3 1, 3) := by decide +kernel
theorem dX2_orders_55 : decode cX2_orders 55 = .ok (.goto (-49), 3) := by decide +kernel
theorem dX2_orders_58 : decode cX2_orders 58 = .ok (.iload_n 1, 1) := by decide +kernel
theorem dX2_orders_59 : decode cX2_orders 59 = .ok (.ireturn, 1) := by decide +kernel
theorem dX2_pickFrom_0 : decode cX2_pickFrom 0 = .ok (.iload_n 1, 1) := by decide +kernel
theorem dX2_pickFrom_1 : decode cX2_pickFrom 1 = .ok (.iconst 1, 1) := by decide +kernel
theorem dX2_pickFrom_2 : decode cX2_pickFrom 2 = .ok (.if_icmp .lt 8, 3) := by decide +kernel
theorem dX2_pickFrom_5 : decode cX2_pickFrom 5 = .ok (.iload_n 1, 1) := by decide +kernel
theorem dX2_pickFrom_6 : decode cX2_pickFrom 6 = .ok (.iconst 3, 1) := by decide +kernel
theorem dX2_pickFrom_7 : decode cX2_pickFrom 7 = .ok (.if_icmp .le 8, 3) := by decide +kernel
theorem dX2_pickFrom_10 : decode cX2_pickFrom 10 = .ok (.aload_n 0, 1) := by decide +kernel
theorem dX2_pickFrom_11 : decode cX2_pickFrom 11 = .ok (.invokevirtual 69, 3) := by decide +kernel
theorem dX2_pickFrom_14 : decode cX2_pickFrom 14 = .ok (.return_, 1) := by decide +kernel
theorem dX2_pickFrom_15 : decode cX2_pickFrom 15 = .ok (.iload_n 2, 1) := by decide +kernel
theorem dX2_pickFrom_16 : decode cX2_pickFrom 16 = .ok (.istore_n 3, 1) := by decide +kernel
theorem dX2_pickFrom_17 : decode cX2_pickFrom 17 = .ok (.iload_n 3, 1) := by decide +kernel
theorem dX2_pickFrom_18 : decode cX2_pickFrom 18 = .ok (.iconst 2, 1) := by decide +kernel
theorem dX2_pickFrom_19 : decode cX2_pickFrom 19 = .ok (.aload_n 0, 1) := by decide +kernel
theorem dX2_pickFrom_20 : decode cX2_pickFrom 20 = .ok (.getfield 24, 3) := by decide +kernel
theorem dX2_pickFrom_23 : decode cX2_pickFrom 23 = .ok (.getfield 45, 3) := by decide +kernel
theorem dX2_pickFrom_26 : decode cX2_pickFrom 26 = .ok (.imul, 1) := by decide +kernel
theorem dX2_pickFrom_27 : decode cX2_pickFrom 27 = .ok (.if_icmp .ge 79, 3) := by decide +kernel
theorem dX2_pickFrom_30 : decode cX2_pickFrom 30 = .ok (.iload_n 3, 1) := by decide +kernel
theorem dX2_pickFrom_31 : decode cX2_pickFrom 31 = .ok (.bipush 16, 2) := by decide +kernel
theorem dX2_pickFrom_33 : decode cX2_pickFrom 33 = .ok (.if_icmp .ge 73, 3) := by decide +kernel
theorem dX2_pickFrom_36 : decode cX2_pickFrom 36 = .ok (.aload_n 0, 1) := by decide +kernel
theorem dX2_pickFrom_37 : decode cX2_pickFrom 37 = .ok (.getfield 24, 3) := by decide +kernel
theorem dX2_pickFrom_40 : decode cX2_pickFrom 40 = .ok (.getfield 72, 3) := by decide +kernel
theorem dX2_pickFrom_43 : decode cX2_pickFrom 43 = .ok (.iload_n 3, 1) := by decide +kernel
theorem dX2_pickFrom_44 : decode cX2_pickFrom 44 = .ok (.iconst 1, 1) := by decide +kernel
theorem dX2_pickFrom_45 : decode cX2_pickFrom 45 = .ok (.iand, 1) := by decide +kernel
theorem dX2_pickFrom_46 : decode cX2_pickFrom 46 = .ok (.ifCond .ne 7, 3) := by decide +kernel
theorem dX2_pickFrom_49 : decode cX2_pickFrom 49 = .ok (.iconst 0, 1) := by decide +kernel
theorem dX2_pickFrom_50 : decode cX2_pickFrom 50 = .ok (.goto 4, 3) := by decide +kernel
theorem dX2_pickFrom_53 : decode cX2_pickFrom 53 = .ok (.iconst 1, 1) := by decide +kernel
theorem dX2_pickFrom_54 : decode cX2_pickFrom 54 = .ok (.iaload, 1) := by decide +kernel
theorem dX2_pickFrom_55 : decode cX2_pickFrom 55 = .ok (.istore 4, 2) := by decide +kernel
theorem dX2_pickFrom_57 : decode cX2_pickFrom 57 = .ok (.aload_n 0, 1) := by decide +kernel
theorem dX2_pickFrom_58 : decode cX2_pickFrom 58 = .ok (.getfield 9, 3) := by decide +kernel
theorem dX2_pickFrom_61 : decode cX2_pickFrom 61 = .ok (.iload_n 1, 1) := by decide +kernel
theorem dX2_pickFrom_62 : decode cX2_pickFrom 62 = .ok (.iconst 1, 1) := by decide +kernel
theorem dX2_pickFrom_63 : decode cX2_pickFrom 63 = .ok (.isub, 1) := by decide +kernel
theorem dX2_pickFrom_64 : decode cX2_pickFrom 64 = .ok (.iload_n 3, 1) := by decide +kernel
theorem dX2_pickFrom_65 : decode cX2_pickFrom 65 = .ok (.iastore, 1) := by decide +kernel
theorem dX2_pickFrom_66 : decode cX2_pickFrom 66 = .ok (.aload_n 0, 1) := by decide +kernel
theorem dX2_pickFrom_67 : decode cX2_pickFrom 67 = .ok (.getfield 15, 3) := by decide +kernel
theorem dX2_pickFrom_70 : decode cX2_pickFrom 70 = .ok (.iload_n 3, 1) := by decide +kernel
theorem dX2_pickFrom_71 : decode cX2_pickFrom 71 = .ok (.iconst 1, 1) := by decide +kernel
theorem dX2_pickFrom_72 : decode cX2_pickFrom 72 = .ok (.ishr, 1) := by decide +kernel
theorem dX2_pickFrom_73 : decode cX2_pickFrom 73 = .ok (.dup2, 1) := by decide +kernel
theorem dX2_pickFrom_74 : decode cX2_pickFrom 74 = .ok (.iaload, 1) := by decide +kernel
theorem dX2_pickFrom_75 : decode cX2_pickFrom 75 = .ok (.iload 4, 2) := by decide +kernel
theorem dX2_pickFrom_77 : decode cX2_pickFrom 77 = .ok (.iadd, 1) := by decide +kernel
theorem dX2_pickFrom_78 : decode cX2_pickFrom 78 = .ok (.iastore, 1) := by decide +kernel
theorem dX2_pickFrom_79 : decode cX2_pickFrom 79 = .ok (.aload_n 0, 1) := by decide +kernel
theorem dX2_pickFrom_80 : decode cX2_pickFrom 80 = .ok (.iload_n 1, 1) := by decide +kernel
theorem dX2_pickFrom_81 : decode cX2_pickFrom 81 = .ok (.iconst 1, 1) := by decide +kernel
theorem dX2_pickFrom_82 : decode cX2_pickFrom 82 = .ok (.isub, 1) := by decide +kernel
theorem dX2_pickFrom_83 : decode cX2_pickFrom 83 = .ok (.iload_n 3, 1) := by decide +kernel
theorem dX2_pickFrom_84 : decode cX2_pickFrom 84 = .ok (.invokestatic 65, 3) := by decide +kernel
theorem dX2_pickFrom_87 : decode cX2_pickFrom 87 = .ok (.aload_n 0, 1) := by decide +kernel
theorem dX2_pickFrom_88 : decode cX2_pickFrom 88 = .ok (.getfield 15, 3) := by decide +kernel
theorem dX2_pickFrom_91 : decode cX2_pickFrom 91 = .ok (.iload_n 3, 1) := by decide +kernel
theorem dX2_pickFrom_92 : decode cX2_pickFrom 92 = .ok (.iconst 1, 1) := by decide +kernel
theorem dX2_pickFrom_93 : decode cX2_pickFrom 93 = .ok (.ishr, 1) := by decide +kernel
theorem dX2_pickFrom_94 : decode cX2_pickFrom 94 = .ok (.dup2, 1) := by decide +kernel
theorem dX2_pickFrom_95 : decode cX2_pickFrom 95 = .ok (.iaload, 1) := by decide +kernel
theorem dX2_pickFrom_96 : decode cX2_pickFrom 96 = .ok (.iload 4, 2) := by decide +kernel
theorem dX2_pickFrom_98 : decode cX2_pickFrom 98 = .ok (.isub, 1) := by decide +kernel
theorem dX2_pickFrom_99 : decode cX2_pickFrom 99 = .ok (.iastore, 1) := by decide +kernel
theorem dX2_pickFrom_100 : decode cX2_pickFrom 100 = .ok (.iinc 3 1, 3) := by decide +kernel
theorem dX2_pickFrom_103 : decode cX2_pickFrom 103 = .ok (.goto (-86), 3) := by decide +kernel
theorem dX2_pickFrom_106 : decode cX2_pickFrom 106 = .ok (.return_, 1) := by decide +kernel
theorem dX2_weigh_0 : decode cX2_weigh 0 = .ok (.aload_n 0, 1) := by decide +kernel
theorem dX2_weigh_1 : decode cX2_weigh 1 = .ok (.getfield 15, 3) := by decide +kernel
theorem dX2_weigh_4 : decode cX2_weigh 4 = .ok (.iconst 0, 1) := by decide +kernel
theorem dX2_weigh_5 : decode cX2_weigh 5 = .ok (.aload_n 0, 1) := by decide +kernel
theorem dX2_weigh_6 : decode cX2_weigh 6 = .ok (.getfield 18, 3) := by decide +kernel
theorem dX2_weigh_9 : decode cX2_weigh 9 = .ok (.iconst 0, 1) := by decide +kernel
theorem dX2_weigh_10 : decode cX2_weigh 10 = .ok (.bipush 8, 2) := by decide +kernel
theorem dX2_weigh_12 : decode cX2_weigh 12 = .ok (.invokestatic 59, 3) := by decide +kernel
theorem dX2_weigh_15 : decode cX2_weigh 15 = .ok (.aload_n 0, 1) := by decide +kernel
theorem dX2_weigh_16 : decode cX2_weigh 16 = .ok (.getfield 18, 3) := by decide +kernel
theorem dX2_weigh_19 : decode cX2_weigh 19 = .ok (.aload_n 0, 1) := by decide +kernel
theorem dX2_weigh_20 : decode cX2_weigh 20 = .ok (.getfield 24, 3) := by decide +kernel
theorem dX2_weigh_23 : decode cX2_weigh 23 = .ok (.getfield 45, 3) := by decide +kernel
theorem dX2_weigh_26 : decode cX2_weigh 26 = .ok (.invokestatic 75, 3) := by decide +kernel
theorem dX2_weigh_29 : decode cX2_weigh 29 = .ok (.aload_n 0, 1) := by decide +kernel
theorem dX2_weigh_30 : decode cX2_weigh 30 = .ok (.getfield 24, 3) := by decide +kernel
theorem dX2_weigh_33 : decode cX2_weigh 33 = .ok (.aload_n 0, 1) := by decide +kernel
theorem dX2_weigh_34 : decode cX2_weigh 34 = .ok (.getfield 18, 3) := by decide +kernel
theorem dX2_weigh_37 : decode cX2_weigh 37 = .ok (.invokevirtual 78, 3) := by decide +kernel
theorem dX2_weigh_40 : decode cX2_weigh 40 = .ok (.ifCond .ne 4, 3) := by decide +kernel
theorem dX2_weigh_43 : decode cX2_weigh 43 = .ok (.return_, 1) := by decide +kernel
theorem dX2_weigh_44 : decode cX2_weigh 44 = .ok (.aload_n 0, 1) := by decide +kernel
theorem dX2_weigh_45 : decode cX2_weigh 45 = .ok (.invokevirtual 82, 3) := by decide +kernel
theorem dX2_weigh_48 : decode cX2_weigh 48 = .ok (.istore_n 1, 1) := by decide +kernel
theorem dX2_weigh_49 : decode cX2_weigh 49 = .ok (.iconst 0, 1) := by decide +kernel
theorem dX2_weigh_50 : decode cX2_weigh 50 = .ok (.istore_n 2, 1) := by decide +kernel
theorem dX2_weigh_51 : decode cX2_weigh 51 = .ok (.iconst 0, 1) := by decide +kernel
theorem dX2_weigh_52 : decode cX2_weigh 52 = .ok (.istore_n 3, 1) := by decide +kernel
theorem dX2_weigh_53 : decode cX2_weigh 53 = .ok (.iload_n 3, 1) := by decide +kernel
theorem dX2_weigh_54 : decode cX2_weigh 54 = .ok (.aload_n 0, 1) := by decide +kernel
theorem dX2_weigh_55 : decode cX2_weigh 55 = .ok (.getfield 28, 3) := by decide +kernel
theorem dX2_weigh_58 : decode cX2_weigh 58 = .ok (.if_icmp .ge 27, 3) := by decide +kernel
theorem dX2_weigh_61 : decode cX2_weigh 61 = .ok (.iload_n 3, 1) := by decide +kernel
theorem dX2_weigh_62 : decode cX2_weigh 62 = .ok (.iconst 3, 1) := by decide +kernel
theorem dX2_weigh_63 : decode cX2_weigh 63 = .ok (.if_icmp .ge 22, 3) := by decide +kernel
theorem dX2_weigh_66 : decode cX2_weigh 66 = .ok (.iload_n 2, 1) := by decide +kernel
theorem dX2_weigh_67 : decode cX2_weigh 67 = .ok (.iconst 1, 1) := by decide +kernel
theorem dX2_weigh_68 : decode cX2_weigh 68 = .ok (.aload_n 0, 1) := by decide +kernel
theorem dX2_weigh_69 : decode cX2_weigh 69 = .ok (.getfield 9, 3) := by decide +kernel
theorem dX2_weigh_72 : decode cX2_weigh 72 = .ok (.iload_n 3, 1) := by decide +kernel
theorem dX2_weigh_73 : decode cX2_weigh 73 = .ok (.iaload, 1) := by decide +kernel
theorem dX2_weigh_74 : decode cX2_weigh 74 = .ok (.iconst 1, 1) := by decide +kernel
theorem dX2_weigh_75 : decode cX2_weigh 75 = .ok (.ishr, 1) := by decide +kernel
theorem dX2_weigh_76 : decode cX2_weigh 76 = .ok (.ishl, 1) := by decide +kernel
theorem dX2_weigh_77 : decode cX2_weigh 77 = .ok (.ior, 1) := by decide +kernel
theorem dX2_weigh_78 : decode cX2_weigh 78 = .ok (.istore_n 2, 1) := by decide +kernel
theorem dX2_weigh_79 : decode cX2_weigh 79 = .ok (.iinc 3 1, 3) := by decide +kernel
theorem dX2_weigh_82 : decode cX2_weigh 82 = .ok (.goto (-29), 3) := by decide +kernel
theorem dX2_weigh_85 : decode cX2_weigh 85 = .ok (.aload_n 0, 1) := by decide +kernel
theorem dX2_weigh_86 : decode cX2_weigh 86 = .ok (.dup, 1) := by decide +kernel
theorem dX2_weigh_87 : decode cX2_weigh 87 = .ok (.getfield 32, 3) := by decide +kernel
theorem dX2_weigh_90 : decode cX2_weigh 90 = .ok (.iload_n 1, 1) := by decide +kernel
theorem dX2_weigh_91 : decode cX2_weigh 91 = .ok (.iadd, 1) := by decide +kernel
theorem dX2_weigh_92 : decode cX2_weigh 92 = .ok (.putfield 32, 3) := by decide +kernel
theorem dX2_weigh_95 : decode cX2_weigh 95 = .ok (.aload_n 0, 1) := by decide +kernel
theorem dX2_weigh_96 : decode cX2_weigh 96 = .ok (.dup, 1) := by decide +kernel
theorem dX2_weigh_97 : decode cX2_weigh 97 = .ok (.getfield 35, 3) := by decide +kernel
theorem dX2_weigh_100 : decode cX2_weigh 100 = .ok (.iload_n 2, 1) := by decide +kernel
theorem dX2_weigh_101 : decode cX2_weigh 101 = .ok (.ior, 1) := by decide +kernel
theorem dX2_weigh_102 : decode cX2_weigh 102 = .ok (.putfield 35, 3) := by decide +kernel
theorem dX2_weigh_105 : decode cX2_weigh 105 = .ok (.aload_n 0, 1) := by decide +kernel
theorem dX2_weigh_106 : decode cX2_weigh 106 = .ok (.dup, 1) := by decide +kernel
theorem dX2_weigh_107 : decode cX2_weigh 107 = .ok (.getfield 38, 3) := by decide +kernel
theorem dX2_weigh_110 : decode cX2_weigh 110 = .ok (.iload_n 2, 1) := by decide +kernel
theorem dX2_weigh_111 : decode cX2_weigh 111 = .ok (.iand, 1) := by decide +kernel
theorem dX2_weigh_112 : decode cX2_weigh 112 = .ok (.putfield 38, 3) := by decide +kernel
theorem dX2_weigh_115 : decode cX2_weigh 115 = .ok (.iconst 0, 1) := by decide +kernel
theorem dX2_weigh_116 : decode cX2_weigh 116 = .ok (.istore_n 3, 1) := by decide +kernel
theorem dX2_weigh_117 : decode cX2_weigh 117 = .ok (.iload_n 3, 1) := by decide +kernel
theorem dX2_weigh_118 : decode cX2_weigh 118 = .ok (.aload_n 0, 1) := by decide +kernel
theorem dX2_weigh_119 : decode cX2_weigh 119 = .ok (.getfield 24, 3) := by decide +kernel
theorem dX2_weigh_122 : decode cX2_weigh 122 = .ok (.getfield 45, 3) := by decide +kernel
theorem dX2_weigh_125 : decode cX2_weigh 125 = .ok (.if_icmp .ge 63, 3) := by decide +kernel
theorem dX2_weigh_128 : decode cX2_weigh 128 = .ok (.iload_n 3, 1) := by decide +kernel
theorem dX2_weigh_129 : decode cX2_weigh 129 = .ok (.bipush 8, 2) := by decide +kernel
theorem dX2_weigh_131 : decode cX2_weigh 131 = .ok (.if_icmp .ge 57, 3) := by decide +kernel
theorem dX2_weigh_134 : decode cX2_weigh 134 = .ok (.aload_n 0, 1) := by decide +kernel
theorem dX2_weigh_135 : decode cX2_weigh 135 = .ok (.getfield 18, 3) := by decide +kernel
theorem dX2_weigh_138 : decode cX2_weigh 138 = .ok (.iload_n 3, 1) := by decide +kernel
theorem dX2_weigh_139 : decode cX2_weigh 139 = .ok (.iaload, 1) := by decide +kernel
theorem dX2_weigh_140 : decode cX2_weigh 140 = .ok (.aload_n 0, 1) := by decide +kernel
theorem dX2_weigh_141 : decode cX2_weigh 141 = .ok (.getfield 24, 3) := by decide +kernel
theorem dX2_weigh_144 : decode cX2_weigh 144 = .ok (.getfield 56, 3) := by decide +kernel
theorem dX2_weigh_147 : decode cX2_weigh 147 = .ok (.iload_n 3, 1) := by decide +kernel
theorem dX2_weigh_148 : decode cX2_weigh 148 = .ok (.iaload, 1) := by decide +kernel
theorem dX2_weigh_149 : decode cX2_weigh 149 = .ok (.isub, 1) := by decide +kernel
theorem dX2_weigh_150 : decode cX2_weigh 150 = .ok (.iconst 1, 1) := by decide +kernel
theorem dX2_weigh_151 : decode cX2_weigh 151 = .ok (.iadd, 1) := by decide +kernel
theorem dX2_weigh_152 : decode cX2_weigh 152 = .ok (.istore 4, 2) := by decide +kernel
theorem dX2_weigh_154 : decode cX2_weigh 154 = .ok (.iload 4, 2) := by decide +kernel
theorem dX2_weigh_156 : decode cX2_weigh 156 = .ok (.ifCond .lt 26, 3) := by decide +kernel
theorem dX2_weigh_159 : decode cX2_weigh 159 = .ok (.iload 4, 2) := by decide +kernel
theorem dX2_weigh_161 : decode cX2_weigh 161 = .ok (.bipush 32, 2) := by decide +kernel
theorem dX2_weigh_163 : decode cX2_weigh 163 = .ok (.if_icmp .ge 19, 3) := by decide +kernel
theorem dX2_weigh_166 : decode cX2_weigh 166 = .ok (.aload_n 0, 1) := by decide +kernel
theorem dX2_weigh_167 : decode cX2_weigh 167 = .ok (.getfield 21, 3) := by decide +kernel
theorem dX2_weigh_170 : decode cX2_weigh 170 = .ok (.iload_n 3, 1) := by decide +kernel
theorem dX2_weigh_171 : decode cX2_weigh 171 = .ok (.bipush 32, 2) := by decide +kernel
theorem dX2_weigh_173 : decode cX2_weigh 173 = .ok (.imul, 1) := by decide +kernel
theorem dX2_weigh_174 : decode cX2_weigh 174 = .ok (.iload 4, 2) := by decide +kernel
theorem dX2_weigh_176 : decode cX2_weigh 176 = .ok (.iadd, 1) := by decide +kernel
theorem dX2_weigh_177 : decode cX2_weigh 177 = .ok (.dup2, 1) := by decide +kernel
theorem dX2_weigh_178 : decode cX2_weigh 178 = .ok (.iaload, 1) := by decide +kernel
theorem dX2_weigh_179 : decode cX2_weigh 179 = .ok (.iload_n 1, 1) := by decide +kernel
theorem dX2_weigh_180 : decode cX2_weigh 180 = .ok (.iadd, 1) := by decide +kernel
theorem dX2_weigh_181 : decode cX2_weigh 181 = .ok (.iastore, 1) := by decide +kernel
theorem dX2_weigh_182 : decode cX2_weigh 182 = .ok (.iinc 3 1, 3) := by decide +kernel
theorem dX2_weigh_185 : decode cX2_weigh 185 = .ok (.goto (-68), 3) := by decide +kernel
theorem dX2_weigh_188 : decode cX2_weigh 188 = .ok (.return_, 1) := by decide +kernel
theorem dX3_fewestFor_0 : decode cX3_fewestFor 0 = .ok (.aload_n 1, 1) := by decide +kernel
theorem dX3_fewestFor_1 : decode cX3_fewestFor 1 = .ok (.ifnonnull 6, 3) := by decide +kernel
theorem dX3_fewestFor_4 : decode cX3_fewestFor 4 = .ok (.bipush (-6), 2) := by decide +kernel
theorem dX3_fewestFor_6 : decode cX3_fewestFor 6 = .ok (.ireturn, 1) := by decide +kernel
theorem dX3_fewestFor_7 : decode cX3_fewestFor 7 = .ok (.aload_n 0, 1) := by decide +kernel
theorem dX3_fewestFor_8 : decode cX3_fewestFor 8 = .ok (.aload_n 1, 1) := by decide +kernel
theorem dX3_fewestFor_9 : decode cX3_fewestFor 9 = .ok (.getfield 25, 3) := by decide +kernel
theorem dX3_fewestFor_12 : decode cX3_fewestFor 12 = .ok (.putfield 18, 3) := by decide +kernel
theorem dX3_fewestFor_15 : decode cX3_fewestFor 15 = .ok (.iconst 0, 1) := by decide +kernel
theorem dX3_fewestFor_16 : decode cX3_fewestFor 16 = .ok (.istore_n 3, 1) := by decide +kernel
theorem dX3_fewestFor_17 : decode cX3_fewestFor 17 = .ok (.iload_n 3, 1) := by decide +kernel
theorem dX3_fewestFor_18 : decode cX3_fewestFor 18 = .ok (.aload_n 0, 1) := by decide +kernel
theorem dX3_fewestFor_19 : decode cX3_fewestFor 19 = .ok (.getfield 18, 3) := by decide +kernel
theorem dX3_fewestFor_22 : decode cX3_fewestFor 22 = .ok (.if_icmp .ge 36, 3) := by decide +kernel
theorem dX3_fewestFor_25 : decode cX3_fewestFor 25 = .ok (.iload_n 3, 1) := by decide +kernel
theorem dX3_fewestFor_26 : decode cX3_fewestFor 26 = .ok (.bipush 8, 2) := by decide +kernel
theorem dX3_fewestFor_28 : decode cX3_fewestFor 28 = .ok (.if_icmp .ge 30, 3) := by decide +kernel
theorem dX3_fewestFor_31 : decode cX3_fewestFor 31 = .ok (.aload_n 0, 1) := by decide +kernel
theorem dX3_fewestFor_32 : decode cX3_fewestFor 32 = .ok (.getfield 9, 3) := by decide +kernel
theorem dX3_fewestFor_35 : decode cX3_fewestFor 35 = .ok (.iload_n 3, 1) := by decide +kernel
theorem dX3_fewestFor_36 : decode cX3_fewestFor 36 = .ok (.aload_n 1, 1) := by decide +kernel
theorem dX3_fewestFor_37 : decode cX3_fewestFor 37 = .ok (.getfield 28, 3) := by decide +kernel
theorem dX3_fewestFor_40 : decode cX3_fewestFor 40 = .ok (.iload_n 3, 1) := by decide +kernel
theorem dX3_fewestFor_41 : decode cX3_fewestFor 41 = .ok (.iaload, 1) := by decide +kernel
theorem dX3_fewestFor_42 : decode cX3_fewestFor 42 = .ok (.iload_n 2, 1) := by decide +kernel
theorem dX3_fewestFor_43 : decode cX3_fewestFor 43 = .ok (.isub, 1) := by decide +kernel
theorem dX3_fewestFor_44 : decode cX3_fewestFor 44 = .ok (.iastore, 1) := by decide +kernel
theorem dX3_fewestFor_45 : decode cX3_fewestFor 45 = .ok (.aload_n 0, 1) := by decide +kernel
theorem dX3_fewestFor_46 : decode cX3_fewestFor 46 = .ok (.getfield 15, 3) := by decide +kernel
theorem dX3_fewestFor_49 : decode cX3_fewestFor 49 = .ok (.iload_n 3, 1) := by decide +kernel
theorem dX3_fewestFor_50 : decode cX3_fewestFor 50 = .ok (.iconst 0, 1) := by decide +kernel
theorem dX3_fewestFor_51 : decode cX3_fewestFor 51 = .ok (.iastore, 1) := by decide +kernel
theorem dX3_fewestFor_52 : decode cX3_fewestFor 52 = .ok (.iinc 3 1, 3) := by decide +kernel
theorem dX3_fewestFor_55 : decode cX3_fewestFor 55 = .ok (.goto (-38), 3) := by decide +kernel
theorem dX3_fewestFor_58 : decode cX3_fewestFor 58 = .ok (.aload_n 0, 1) := by decide +kernel
theorem dX3_fewestFor_59 : decode cX3_fewestFor 59 = .ok (.bipush 6, 2) := by decide +kernel
theorem dX3_fewestFor_61 : decode cX3_fewestFor 61 = .ok (.putfield 22, 3) := by decide +kernel
theorem dX3_fewestFor_64 : decode cX3_fewestFor 64 = .ok (.aload_n 0, 1) := by decide +kernel
theorem dX3_fewestFor_65 : decode cX3_fewestFor 65 = .ok (.iconst 0, 1) := by decide +kernel
theorem dX3_fewestFor_66 : decode cX3_fewestFor 66 = .ok (.iconst 0, 1) := by decide +kernel
theorem dX3_fewestFor_67 : decode cX3_fewestFor 67 = .ok (.invokestatic 31, 3) := by decide +kernel
theorem dX3_fewestFor_70 : decode cX3_fewestFor 70 = .ok (.aload_n 0, 1) := by decide +kernel
theorem dX3_fewestFor_71 : decode cX3_fewestFor 71 = .ok (.getfield 22, 3) := by decide +kernel
theorem dX3_fewestFor_74 : decode cX3_fewestFor 74 = .ok (.iconst 5, 1) := by decide +kernel
theorem dX3_fewestFor_75 : decode cX3_fewestFor 75 = .ok (.if_icmp .gt 10, 3) := by decide +kernel
theorem dX3_fewestFor_78 : decode cX3_fewestFor 78 = .ok (.aload_n 0, 1) := by decide +kernel
theorem dX3_fewestFor_79 : decode cX3_fewestFor 79 = .ok (.getfield 22, 3) := by decide +kernel
theorem dX3_fewestFor_82 : decode cX3_fewestFor 82 = .ok (.goto 5, 3) := by decide +kernel
theorem dX3_fewestFor_85 : decode cX3_fewestFor 85 = .ok (.bipush (-6), 2) := by decide +kernel
theorem dX3_fewestFor_87 : decode cX3_fewestFor 87 = .ok (.ireturn, 1) := by decide +kernel
theorem dX3_init_0 : decode cX3_init 0 = .ok (.aload_n 0, 1) := by decide +kernel
theorem dX3_init_1 : decode cX3_init 1 = .ok (.invokespecial 3, 3) := by decide +kernel
theorem dX3_init_4 : decode cX3_init 4 = .ok (.aload_n 0, 1) := by decide +kernel
theorem dX3_init_5 : decode cX3_init 5 = .ok (.bipush 8, 2) := by decide +kernel
theorem dX3_init_7 : decode cX3_init 7 = .ok (.newarray .int, 2) := by decide +kernel
theorem dX3_init_9 : decode cX3_init 9 = .ok (.putfield 9, 3) := by decide +kernel
theorem dX3_init_12 : decode cX3_init 12 = .ok (.aload_n 0, 1) := by decide +kernel
theorem dX3_init_13 : decode cX3_init 13 = .ok (.bipush 8, 2) := by decide +kernel
theorem dX3_init_15 : decode cX3_init 15 = .ok (.newarray .int, 2) := by decide +kernel
theorem dX3_init_17 : decode cX3_init 17 = .ok (.putfield 15, 3) := by decide +kernel
theorem dX3_init_20 : decode cX3_init 20 = .ok (.aload_n 0, 1) := by decide +kernel
theorem dX3_init_21 : decode cX3_init 21 = .ok (.iconst 0, 1) := by decide +kernel
theorem dX3_init_22 : decode cX3_init 22 = .ok (.putfield 18, 3) := by decide +kernel
theorem dX3_init_25 : decode cX3_init 25 = .ok (.aload_n 0, 1) := by decide +kernel
theorem dX3_init_26 : decode cX3_init 26 = .ok (.iconst 0, 1) := by decide +kernel
theorem dX3_init_27 : decode cX3_init 27 = .ok (.putfield 22, 3) := by decide +kernel
theorem dX3_init_30 : decode cX3_init 30 = .ok (.return_, 1) := by decide +kernel
theorem dX3_isEnough_0 : decode cX3_isEnough 0 = .ok (.iload_n 1, 1) := by decide +kernel
theorem dX3_isEnough_1 : decode cX3_isEnough 1 = .ok (.ifCond .lt 41, 3) := by decide +kernel
theorem dX3_isEnough_4 : decode cX3_isEnough 4 = .ok (.iload_n 1, 1) := by decide +kernel
theorem dX3_isEnough_5 : decode cX3_isEnough 5 = .ok (.bipush 8, 2) := by decide +kernel
theorem dX3_isEnough_7 : decode cX3_isEnough 7 = .ok (.if_icmp .ge 35, 3) := by decide +kernel
theorem dX3_isEnough_10 : decode cX3_isEnough 10 = .ok (.aload_n 0, 1) := by decide +kernel
theorem dX3_isEnough_11 : decode cX3_isEnough 11 = .ok (.getfield 9, 3) := by decide +kernel
theorem dX3_isEnough_14 : decode cX3_isEnough 14 = .ok (.iload_n 1, 1) := by decide +kernel
theorem dX3_isEnough_15 : decode cX3_isEnough 15 = .ok (.iaload, 1) := by decide +kernel
theorem dX3_isEnough_16 : decode cX3_isEnough 16 = .ok (.iconst 2, 1) := by decide +kernel
theorem dX3_isEnough_17 : decode cX3_isEnough 17 = .ok (.aload_n 0, 1) := by decide +kernel
theorem dX3_isEnough_18 : decode cX3_isEnough 18 = .ok (.iload_n 1, 1) := by decide +kernel
theorem dX3_isEnough_19 : decode cX3_isEnough 19 = .ok (.invokevirtual 39, 3) := by decide +kernel
theorem dX3_isEnough_22 : decode cX3_isEnough 22 = .ok (.imul, 1) := by decide +kernel
theorem dX3_isEnough_23 : decode cX3_isEnough 23 = .ok (.aload_n 0, 1) := by decide +kernel
theorem dX3_isEnough_24 : decode cX3_isEnough 24 = .ok (.iload_n 1, 1) := by decide +kernel
theorem dX3_isEnough_25 : decode cX3_isEnough 25 = .ok (.iconst 1, 1) := by decide +kernel
theorem dX3_isEnough_26 : decode cX3_isEnough 26 = .ok (.isub, 1) := by decide +kernel
theorem dX3_isEnough_27 : decode cX3_isEnough 27 = .ok (.invokevirtual 39, 3) := by decide +kernel
theorem dX3_isEnough_30 : decode cX3_isEnough 30 = .ok (.iadd, 1) := by decide +kernel
theorem dX3_isEnough_31 : decode cX3_isEnough 31 = .ok (.aload_n 0, 1) := by decide +kernel
theorem dX3_isEnough_32 : decode cX3_isEnough 32 = .ok (.iload_n 1, 1) := by decide +kernel
theorem dX3_isEnough_33 : decode cX3_isEnough 33 = .ok (.iconst 1, 1) := by decide +kernel
theorem dX3_isEnough_34 : decode cX3_isEnough 34 = .ok (.iadd, 1) := by decide +kernel
theorem dX3_isEnough_35 : decode cX3_isEnough 35 = .ok (.invokevirtual 39, 3) := by decide +kernel
theorem dX3_isEnough_38 : decode cX3_isEnough 38 = .ok (.iadd, 1) := by decide +kernel
theorem dX3_isEnough_39 : decode cX3_isEnough 39 = .ok (.if_icmp .gt 7, 3) := by decide +kernel
theorem dX3_isEnough_42 : decode cX3_isEnough 42 = .ok (.iconst 1, 1) := by decide +kernel
theorem dX3_isEnough_43 : decode cX3_isEnough 43 = .ok (.goto 4, 3) := by decide +kernel
theorem dX3_isEnough_46 : decode cX3_isEnough 46 = .ok (.iconst 0, 1) := by decide +kernel
theorem dX3_isEnough_47 : decode cX3_isEnough 47 = .ok (.ireturn, 1) := by decide +kernel
theorem dX3_spreadFrom_0 : decode cX3_spreadFrom 0 = .ok (.iload_n 1, 1) := by decide +kernel
theorem dX3_spreadFrom_1 : decode cX3_spreadFrom 1 = .ok (.aload_n 0, 1) := by decide +kernel
theorem dX3_spreadFrom_2 : decode cX3_spreadFrom 2 = .ok (.getfield 18, 3) := by decide +kernel
theorem dX3_spreadFrom_5 : decode cX3_spreadFrom 5 = .ok (.if_icmp .ge 9, 3) := by decide +kernel
theorem dX3_spreadFrom_8 : decode cX3_spreadFrom 8 = .ok (.iload_n 1, 1) := by decide +kernel
theorem dX3_spreadFrom_9 : decode cX3_spreadFrom 9 = .ok (.bipush 8, 2) := by decide +kernel
theorem dX3_spreadFrom_11 : decode cX3_spreadFrom 11 = .ok (.if_icmp .lt 19, 3) := by decide +kernel
theorem dX3_spreadFrom_14 : decode cX3_spreadFrom 14 = .ok (.aload_n 0, 1) := by decide +kernel
theorem dX3_spreadFrom_15 : decode cX3_spreadFrom 15 = .ok (.iload_n 1, 1) := by decide +kernel
theorem dX3_spreadFrom_16 : decode cX3_spreadFrom 16 = .ok (.iconst 1, 1) := by decide +kernel
theorem dX3_spreadFrom_17 : decode cX3_spreadFrom 17 = .ok (.isub, 1) := by decide +kernel
theorem dX3_spreadFrom_18 : decode cX3_spreadFrom 18 = .ok (.invokevirtual 35, 3) := by decide +kernel
theorem dX3_spreadFrom_21 : decode cX3_spreadFrom 21 = .ok (.ifCond .eq 8, 3) := by decide +kernel
theorem dX3_spreadFrom_24 : decode cX3_spreadFrom 24 = .ok (.aload_n 0, 1) := by decide +kernel
theorem dX3_spreadFrom_25 : decode cX3_spreadFrom 25 = .ok (.iload_n 2, 1) := by decide +kernel
theorem dX3_spreadFrom_26 : decode cX3_spreadFrom 26 = .ok (.putfield 22, 3) := by decide +kernel
theorem dX3_spreadFrom_29 : decode cX3_spreadFrom 29 = .ok (.return_, 1) := by decide +kernel
theorem dX3_spreadFrom_30 : decode cX3_spreadFrom 30 = .ok (.iconst 0, 1) := by decide +kernel
theorem dX3_spreadFrom_31 : decode cX3_spreadFrom 31 = .ok (.istore_n 3, 1) := by decide +kernel
theorem dX3_spreadFrom_32 : decode cX3_spreadFrom 32 = .ok (.iload_n 2, 1) := by decide +kernel
theorem dX3_spreadFrom_33 : decode cX3_spreadFrom 33 = .ok (.iload_n 3, 1) := by decide +kernel
theorem dX3_spreadFrom_34 : decode cX3_spreadFrom 34 = .ok (.iadd, 1) := by decide +kernel
theorem dX3_spreadFrom_35 : decode cX3_spreadFrom 35 = .ok (.aload_n 0, 1) := by decide +kernel
theorem dX3_spreadFrom_36 : decode cX3_spreadFrom 36 = .ok (.getfield 22, 3) := by decide +kernel
theorem dX3_spreadFrom_39 : decode cX3_spreadFrom 39 = .ok (.if_icmp .ge 36, 3) := by decide +kernel
theorem dX3_spreadFrom_42 : decode cX3_spreadFrom 42 = .ok (.aload_n 0, 1) := by decide +kernel
theorem dX3_spreadFrom_43 : decode cX3_spreadFrom 43 = .ok (.getfield 15, 3) := by decide +kernel
theorem dX3_spreadFrom_46 : decode cX3_spreadFrom 46 = .ok (.iload_n 1, 1) := by decide +kernel
theorem dX3_spreadFrom_47 : decode cX3_spreadFrom 47 = .ok (.iload_n 3, 1) := by decide +kernel
theorem dX3_spreadFrom_48 : decode cX3_spreadFrom 48 = .ok (.iastore, 1) := by decide +kernel
theorem dX3_spreadFrom_49 : decode cX3_spreadFrom 49 = .ok (.aload_n 0, 1) := by decide +kernel
theorem dX3_spreadFrom_50 : decode cX3_spreadFrom 50 = .ok (.iload_n 1, 1) := by decide +kernel
theorem dX3_spreadFrom_51 : decode cX3_spreadFrom 51 = .ok (.iconst 1, 1) := by decide +kernel
theorem dX3_spreadFrom_52 : decode cX3_spreadFrom 52 = .ok (.isub, 1) := by decide +kernel
theorem dX3_spreadFrom_53 : decode cX3_spreadFrom 53 = .ok (.invokevirtual 35, 3) := by decide +kernel
theorem dX3_spreadFrom_56 : decode cX3_spreadFrom 56 = .ok (.ifCond .eq 13, 3) := by decide +kernel
theorem dX3_spreadFrom_59 : decode cX3_spreadFrom 59 = .ok (.aload_n 0, 1) := by decide +kernel
theorem dX3_spreadFrom_60 : decode cX3_spreadFrom 60 = .ok (.iload_n 1, 1) := by decide +kernel
theorem dX3_spreadFrom_61 : decode cX3_spreadFrom 61 = .ok (.iconst 1, 1) := by decide +kernel
theorem dX3_spreadFrom_62 : decode cX3_spreadFrom 62 = .ok (.iadd, 1) := by decide +kernel
theorem dX3_spreadFrom_63 : decode cX3_spreadFrom 63 = .ok (.iload_n 2, 1) := by decide +kernel
theorem dX3_spreadFrom_64 : decode cX3_spreadFrom 64 = .ok (.iload_n 3, 1) := by decide +kernel
theorem dX3_spreadFrom_65 : decode cX3_spreadFrom 65 = .ok (.iadd, 1) := by decide +kernel
theorem dX3_spreadFrom_66 : decode cX3_spreadFrom 66 = .ok (.invokestatic 31, 3) := by decide +kernel
theorem dX3_spreadFrom_69 : decode cX3_spreadFrom 69 = .ok (.iinc 3 1, 3) := by decide +kernel
theorem dX3_spreadFrom_72 : decode cX3_spreadFrom 72 = .ok (.goto (-40), 3) := by decide +kernel
theorem dX3_spreadFrom_75 : decode cX3_spreadFrom 75 = .ok (.aload_n 0, 1) := by decide +kernel
theorem dX3_spreadFrom_76 : decode cX3_spreadFrom 76 = .ok (.getfield 15, 3) := by decide +kernel
theorem dX3_spreadFrom_79 : decode cX3_spreadFrom 79 = .ok (.iload_n 1, 1) := by decide +kernel
theorem dX3_spreadFrom_80 : decode cX3_spreadFrom 80 = .ok (.iconst 0, 1) := by decide +kernel
theorem dX3_spreadFrom_81 : decode cX3_spreadFrom 81 = .ok (.iastore, 1) := by decide +kernel
theorem dX3_spreadFrom_82 : decode cX3_spreadFrom 82 = .ok (.return_, 1) := by decide +kernel
theorem dX3_spreadsIn_0 : decode cX3_spreadsIn 0 = .ok (.iload_n 1, 1) := by decide +kernel
theorem dX3_spreadsIn_1 : decode cX3_spreadsIn 1 = .ok (.ifCond .lt 26, 3) := by decide +kernel
theorem dX3_spreadsIn_4 : decode cX3_spreadsIn 4 = .ok (.iload_n 1, 1) := by decide +kernel
theorem dX3_spreadsIn_5 : decode cX3_spreadsIn 5 = .ok (.aload_n 0, 1) := by decide +kernel
theorem dX3_spreadsIn_6 : decode cX3_spreadsIn 6 = .ok (.getfield 18, 3) := by decide +kernel
theorem dX3_spreadsIn_9 : decode cX3_spreadsIn 9 = .ok (.if_icmp .ge 18, 3) := by decide +kernel
theorem dX3_spreadsIn_12 : decode cX3_spreadsIn 12 = .ok (.iload_n 1, 1) := by decide +kernel
theorem dX3_spreadsIn_13 : decode cX3_spreadsIn 13 = .ok (.bipush 8, 2) := by decide +kernel
theorem dX3_spreadsIn_15 : decode cX3_spreadsIn 15 = .ok (.if_icmp .ge 12, 3) := by decide +kernel
theorem dX3_spreadsIn_18 : decode cX3_spreadsIn 18 = .ok (.aload_n 0, 1) := by decide +kernel
theorem dX3_spreadsIn_19 : decode cX3_spreadsIn 19 = .ok (.getfield 15, 3) := by decide +kernel
theorem dX3_spreadsIn_22 : decode cX3_spreadsIn 22 = .ok (.iload_n 1, 1) := by decide +kernel
theorem dX3_spreadsIn_23 : decode cX3_spreadsIn 23 = .ok (.iaload, 1) := by decide +kernel
theorem dX3_spreadsIn_24 : decode cX3_spreadsIn 24 = .ok (.goto 4, 3) := by decide +kernel
theorem dX3_spreadsIn_27 : decode cX3_spreadsIn 27 = .ok (.iconst 0, 1) := by decide +kernel
theorem dX3_spreadsIn_28 : decode cX3_spreadsIn 28 = .ok (.ireturn, 1) := by decide +kernel
theorem dX4_bears_0 : decode cX4_bears 0 = .ok (.aload_n 0, 1) := by decide +kernel
theorem dX4_bears_1 : decode cX4_bears 1 = .ok (.iload_n 1, 1) := by decide +kernel
theorem dX4_bears_2 : decode cX4_bears 2 = .ok (.invokevirtual 71, 3) := by decide +kernel
theorem dX4_bears_5 : decode cX4_bears 5 = .ok (.ifCond .eq 42, 3) := by decide +kernel
theorem dX4_bears_8 : decode cX4_bears 8 = .ok (.aload_n 0, 1) := by decide +kernel
theorem dX4_bears_9 : decode cX4_bears 9 = .ok (.getfield 47, 3) := by decide +kernel
theorem dX4_bears_12 : decode cX4_bears 12 = .ok (.iload_n 1, 1) := by decide +kernel
theorem dX4_bears_13 : decode cX4_bears 13 = .ok (.ishr, 1) := by decide +kernel
theorem dX4_bears_14 : decode cX4_bears 14 = .ok (.iconst 1, 1) := by decide +kernel
theorem dX4_bears_15 : decode cX4_bears 15 = .ok (.iand, 1) := by decide +kernel
theorem dX4_bears_16 : decode cX4_bears 16 = .ok (.ifCond .ne 31, 3) := by decide +kernel
theorem dX4_bears_19 : decode cX4_bears 19 = .ok (.aload_n 0, 1) := by decide +kernel
theorem dX4_bears_20 : decode cX4_bears 20 = .ok (.getfield 9, 3) := by decide +kernel
theorem dX4_bears_23 : decode cX4_bears 23 = .ok (.iload_n 1, 1) := by decide +kernel
theorem dX4_bears_24 : decode cX4_bears 24 = .ok (.iaload, 1) := by decide +kernel
theorem dX4_bears_25 : decode cX4_bears 25 = .ok (.iload_n 2, 1) := by decide +kernel
theorem dX4_bears_26 : decode cX4_bears 26 = .ok (.aload_n 0, 1) := by decide +kernel
theorem dX4_bears_27 : decode cX4_bears 27 = .ok (.getfield 18, 3) := by decide +kernel
theorem dX4_bears_30 : decode cX4_bears 30 = .ok (.iconst 1, 1) := by decide +kernel
theorem dX4_bears_31 : decode cX4_bears 31 = .ok (.iaload, 1) := by decide +kernel
theorem dX4_bears_32 : decode cX4_bears 32 = .ok (.imul, 1) := by decide +kernel
theorem dX4_bears_33 : decode cX4_bears 33 = .ok (.iadd, 1) := by decide +kernel
theorem dX4_bears_34 : decode cX4_bears 34 = .ok (.aload_n 0, 1) := by decide +kernel
theorem dX4_bears_35 : decode cX4_bears 35 = .ok (.getfield 15, 3) := by decide +kernel
theorem dX4_bears_38 : decode cX4_bears 38 = .ok (.iload_n 1, 1) := by decide +kernel
theorem dX4_bears_39 : decode cX4_bears 39 = .ok (.iaload, 1) := by decide +kernel
theorem dX4_bears_40 : decode cX4_bears 40 = .ok (.if_icmp .gt 7, 3) := by decide +kernel
theorem dX4_bears_43 : decode cX4_bears 43 = .ok (.iconst 1, 1) := by decide +kernel
theorem dX4_bears_44 : decode cX4_bears 44 = .ok (.goto 4, 3) := by decide +kernel
theorem dX4_bears_47 : decode cX4_bears 47 = .ok (.iconst 0, 1) := by decide +kernel
theorem dX4_bears_48 : decode cX4_bears 48 = .ok (.ireturn, 1) := by decide +kernel
theorem dX4_begin_0 : decode cX4_begin 0 = .ok (.aload_n 0, 1) := by decide +kernel
theorem dX4_begin_1 : decode cX4_begin 1 = .ok (.iload_n 1, 1) := by decide +kernel
theorem dX4_begin_2 : decode cX4_begin 2 = .ok (.putfield 37, 3) := by decide +kernel
theorem dX4_begin_5 : decode cX4_begin 5 = .ok (.aload_n 0, 1) := by decide +kernel
theorem dX4_begin_6 : decode cX4_begin 6 = .ok (.getfield 15, 3) := by decide +kernel
theorem dX4_begin_9 : decode cX4_begin 9 = .ok (.bipush 20, 2) := by decide +kernel
theorem dX4_begin_11 : decode cX4_begin 11 = .ok (.invokestatic 41, 3) := by decide +kernel
theorem dX4_begin_14 : decode cX4_begin 14 = .ok (.aload_n 0, 1) := by decide +kernel
theorem dX4_begin_15 : decode cX4_begin 15 = .ok (.iconst 0, 1) := by decide +kernel
theorem dX4_begin_16 : decode cX4_begin 16 = .ok (.putfield 47, 3) := by decide +kernel
theorem dX4_begin_19 : decode cX4_begin 19 = .ok (.aload_n 0, 1) := by decide +kernel
theorem dX4_begin_20 : decode cX4_begin 20 = .ok (.iconst 0, 1) := by decide +kernel
theorem dX4_begin_21 : decode cX4_begin 21 = .ok (.putfield 50, 3) := by decide +kernel
theorem dX4_begin_24 : decode cX4_begin 24 = .ok (.aload_n 0, 1) := by decide +kernel
theorem dX4_begin_25 : decode cX4_begin 25 = .ok (.iconst 0, 1) := by decide +kernel
theorem dX4_begin_26 : decode cX4_begin 26 = .ok (.putfield 53, 3) := by decide +kernel
theorem dX4_begin_29 : decode cX4_begin 29 = .ok (.aload_n 0, 1) := by decide +kernel
theorem dX4_begin_30 : decode cX4_begin 30 = .ok (.invokevirtual 56, 3) := by decide +kernel
theorem dX4_begin_33 : decode cX4_begin 33 = .ok (.return_, 1) := by decide +kernel
theorem dX4_clearSnow_0 : decode cX4_clearSnow 0 = .ok (.aload_n 0, 1) := by decide +kernel
theorem dX4_clearSnow_1 : decode cX4_clearSnow 1 = .ok (.getfield 9, 3) := by decide +kernel
theorem dX4_clearSnow_4 : decode cX4_clearSnow 4 = .ok (.iconst 0, 1) := by decide +kernel
theorem dX4_clearSnow_5 : decode cX4_clearSnow 5 = .ok (.invokestatic 41, 3) := by decide +kernel
theorem dX4_clearSnow_8 : decode cX4_clearSnow 8 = .ok (.aload_n 0, 1) := by decide +kernel
theorem dX4_clearSnow_9 : decode cX4_clearSnow 9 = .ok (.invokevirtual 59, 3) := by decide +kernel
theorem dX4_clearSnow_12 : decode cX4_clearSnow 12 = .ok (.return_, 1) := by decide +kernel
theorem dX4_copy_0 : decode cX4_copy 0 = .ok (.aload_n 1, 1) := by decide +kernel
theorem dX4_copy_1 : decode cX4_copy 1 = .ok (.ifnonnull 4, 3) := by decide +kernel
theorem dX4_copy_4 : decode cX4_copy 4 = .ok (.return_, 1) := by decide +kernel
theorem dX4_copy_5 : decode cX4_copy 5 = .ok (.aload_n 0, 1) := by decide +kernel
theorem dX4_copy_6 : decode cX4_copy 6 = .ok (.aload_n 1, 1) := by decide +kernel
theorem dX4_copy_7 : decode cX4_copy 7 = .ok (.getfield 37, 3) := by decide +kernel
theorem dX4_copy_10 : decode cX4_copy 10 = .ok (.putfield 37, 3) := by decide +kernel
theorem dX4_copy_13 : decode cX4_copy 13 = .ok (.aload_n 1, 1) := by decide +kernel
theorem dX4_copy_14 : decode cX4_copy 14 = .ok (.getfield 9, 3) := by decide +kernel
theorem dX4_copy_17 : decode cX4_copy 17 = .ok (.iconst 0, 1) := by decide +kernel
theorem dX4_copy_18 : decode cX4_copy 18 = .ok (.aload_n 0, 1) := by decide +kernel
theorem dX4_copy_19 : decode cX4_copy 19 = .ok (.getfield 9, 3) := by decide +kernel
theorem dX4_copy_22 : decode cX4_copy 22 = .ok (.iconst 0, 1) := by decide +kernel
theorem dX4_copy_23 : decode cX4_copy 23 = .ok (.aload_n 0, 1) := by decide +kernel
theorem dX4_copy_24 : decode cX4_copy 24 = .ok (.getfield 9, 3) := by decide +kernel
theorem dX4_copy_27 : decode cX4_copy 27 = .ok (.arraylength, 1) := by decide +kernel
theorem dX4_copy_28 : decode cX4_copy 28 = .ok (.invokestatic 65, 3) := by decide +kernel
theorem dX4_copy_31 : decode cX4_copy 31 = .ok (.aload_n 1, 1) := by decide +kernel
theorem dX4_copy_32 : decode cX4_copy 32 = .ok (.getfield 15, 3) := by decide +kernel
theorem dX4_copy_35 : decode cX4_copy 35 = .ok (.iconst 0, 1) := by decide +kernel
theorem dX4_copy_36 : decode cX4_copy 36 = .ok (.aload_n 0, 1) := by decide +kernel
theorem dX4_copy_37 : decode cX4_copy 37 = .ok (.getfield 15, 3) := by decide +kernel
theorem dX4_copy_40 : decode cX4_copy 40 = .ok (.iconst 0, 1) := by decide +kernel
theorem dX4_copy_41 : decode cX4_copy 41 = .ok (.aload_n 0, 1) := by decide +kernel
theorem dX4_copy_42 : decode cX4_copy 42 = .ok (.getfield 15, 3) := by decide +kernel
theorem dX4_copy_45 : decode cX4_copy 45 = .ok (.arraylength, 1) := by decide +kernel
theorem dX4_copy_46 : decode cX4_copy 46 = .ok (.invokestatic 65, 3) := by decide +kernel
theorem dX4_copy_49 : decode cX4_copy 49 = .ok (.aload_n 0, 1) := by decide +kernel
theorem dX4_copy_50 : decode cX4_copy 50 = .ok (.aload_n 1, 1) := by decide +kernel
theorem dX4_copy_51 : decode cX4_copy 51 = .ok (.getfield 47, 3) := by decide +kernel
theorem dX4_copy_54 : decode cX4_copy 54 = .ok (.putfield 47, 3) := by decide +kernel
theorem dX4_copy_57 : decode cX4_copy 57 = .ok (.aload_n 0, 1) := by decide +kernel
theorem dX4_copy_58 : decode cX4_copy 58 = .ok (.aload_n 1, 1) := by decide +kernel
theorem dX4_copy_59 : decode cX4_copy 59 = .ok (.getfield 50, 3) := by decide +kernel
theorem dX4_copy_62 : decode cX4_copy 62 = .ok (.putfield 50, 3) := by decide +kernel
theorem dX4_copy_65 : decode cX4_copy 65 = .ok (.aload_n 1, 1) := by decide +kernel
theorem dX4_copy_66 : decode cX4_copy 66 = .ok (.getfield 18, 3) := by decide +kernel
theorem dX4_copy_69 : decode cX4_copy 69 = .ok (.iconst 0, 1) := by decide +kernel
theorem dX4_copy_70 : decode cX4_copy 70 = .ok (.aload_n 0, 1) := by decide +kernel
theorem dX4_copy_71 : decode cX4_copy 71 = .ok (.getfield 18, 3) := by decide +kernel
theorem dX4_copy_74 : decode cX4_copy 74 = .ok (.iconst 0, 1) := by decide +kernel
theorem dX4_copy_75 : decode cX4_copy 75 = .ok (.aload_n 0, 1) := by decide +kernel
theorem dX4_copy_76 : decode cX4_copy 76 = .ok (.getfield 18, 3) := by decide +kernel
theorem dX4_copy_79 : decode cX4_copy 79 = .ok (.arraylength, 1) := by decide +kernel
theorem dX4_copy_80 : decode cX4_copy 80 = .ok (.invokestatic 65, 3) := by decide +kernel
theorem dX4_copy_83 : decode cX4_copy 83 = .ok (.aload_n 1, 1) := by decide +kernel
theorem dX4_copy_84 : decode cX4_copy 84 = .ok (.getfield 21, 3) := by decide +kernel
theorem dX4_copy_87 : decode cX4_copy 87 = .ok (.iconst 0, 1) := by decide +kernel
theorem dX4_copy_88 : decode cX4_copy 88 = .ok (.aload_n 0, 1) := by decide +kernel
theorem dX4_copy_89 : decode cX4_copy 89 = .ok (.getfield 21, 3) := by decide +kernel
theorem dX4_copy_92 : decode cX4_copy 92 = .ok (.iconst 0, 1) := by decide +kernel
theorem dX4_copy_93 : decode cX4_copy 93 = .ok (.aload_n 0, 1) := by decide +kernel
theorem dX4_copy_94 : decode cX4_copy 94 = .ok (.getfield 21, 3) := by decide +kernel
theorem dX4_copy_97 : decode cX4_copy 97 = .ok (.arraylength, 1) := by decide +kernel
theorem dX4_copy_98 : decode cX4_copy 98 = .ok (.invokestatic 65, 3) := by decide +kernel
theorem dX4_copy_101 : decode cX4_copy 101 = .ok (.aload_n 1, 1) := by decide +kernel
theorem dX4_copy_102 : decode cX4_copy 102 = .ok (.getfield 24, 3) := by decide +kernel
theorem dX4_copy_105 : decode cX4_copy 105 = .ok (.iconst 0, 1) := by decide +kernel
theorem dX4_copy_106 : decode cX4_copy 106 = .ok (.aload_n 0, 1) := by decide +kernel
theorem dX4_copy_107 : decode cX4_copy 107 = .ok (.getfield 24, 3) := by decide +kernel
theorem dX4_copy_110 : decode cX4_copy 110 = .ok (.iconst 0, 1) := by decide +kernel
theorem dX4_copy_111 : decode cX4_copy 111 = .ok (.aload_n 0, 1) := by decide +kernel
theorem dX4_copy_112 : decode cX4_copy 112 = .ok (.getfield 24, 3) := by decide +kernel
theorem dX4_copy_115 : decode cX4_copy 115 = .ok (.arraylength, 1) := by decide +kernel
theorem dX4_copy_116 : decode cX4_copy 116 = .ok (.invokestatic 65, 3) := by decide +kernel
theorem dX4_copy_119 : decode cX4_copy 119 = .ok (.aload_n 0, 1) := by decide +kernel
theorem dX4_copy_120 : decode cX4_copy 120 = .ok (.aload_n 1, 1) := by decide +kernel
theorem dX4_copy_121 : decode cX4_copy 121 = .ok (.getfield 53, 3) := by decide +kernel
theorem dX4_copy_124 : decode cX4_copy 124 = .ok (.putfield 53, 3) := by decide +kernel
theorem dX4_copy_127 : decode cX4_copy 127 = .ok (.aload_n 1, 1) := by decide +kernel
theorem dX4_copy_128 : decode cX4_copy 128 = .ok (.getfield 27, 3) := by decide +kernel
theorem dX4_copy_131 : decode cX4_copy 131 = .ok (.iconst 0, 1) := by decide +kernel
theorem dX4_copy_132 : decode cX4_copy 132 = .ok (.aload_n 0, 1) := by decide +kernel
theorem dX4_copy_133 : decode cX4_copy 133 = .ok (.getfield 27, 3) := by decide +kernel
theorem dX4_copy_136 : decode cX4_copy 136 = .ok (.iconst 0, 1) := by decide +kernel
theorem dX4_copy_137 : decode cX4_copy 137 = .ok (.aload_n 0, 1) := by decide +kernel
theorem dX4_copy_138 : decode cX4_copy 138 = .ok (.getfield 27, 3) := by decide +kernel
theorem dX4_copy_141 : decode cX4_copy 141 = .ok (.arraylength, 1) := by decide +kernel
theorem dX4_copy_142 : decode cX4_copy 142 = .ok (.invokestatic 65, 3) := by decide +kernel
theorem dX4_copy_145 : decode cX4_copy 145 = .ok (.aload_n 1, 1) := by decide +kernel
theorem dX4_copy_146 : decode cX4_copy 146 = .ok (.getfield 30, 3) := by decide +kernel
theorem dX4_copy_149 : decode cX4_copy 149 = .ok (.iconst 0, 1) := by decide +kernel
theorem dX4_copy_150 : decode cX4_copy 150 = .ok (.aload_n 0, 1) := by decide +kernel
theorem dX4_copy_151 : decode cX4_copy 151 = .ok (.getfield 30, 3) := by decide +kernel
theorem dX4_copy_154 : decode cX4_copy 154 = .ok (.iconst 0, 1) := by decide +kernel
theorem dX4_copy_155 : decode cX4_copy 155 = .ok (.aload_n 0, 1) := by decide +kernel
theorem dX4_copy_156 : decode cX4_copy 156 = .ok (.getfield 30, 3) := by decide +kernel
theorem dX4_copy_159 : decode cX4_copy 159 = .ok (.arraylength, 1) := by decide +kernel
theorem dX4_copy_160 : decode cX4_copy 160 = .ok (.invokestatic 65, 3) := by decide +kernel
theorem dX4_copy_163 : decode cX4_copy 163 = .ok (.return_, 1) := by decide +kernel
theorem dX4_deepTogether_0 : decode cX4_deepTogether 0 = .ok (.iconst 0, 1) := by decide +kernel
theorem dX4_deepTogether_1 : decode cX4_deepTogether 1 = .ok (.istore_n 1, 1) := by decide +kernel
theorem dX4_deepTogether_2 : decode cX4_deepTogether 2 = .ok (.iconst 0, 1) := by decide +kernel
theorem dX4_deepTogether_3 : decode cX4_deepTogether 3 = .ok (.istore_n 2, 1) := by decide +kernel
theorem dX4_deepTogether_4 : decode cX4_deepTogether 4 = .ok (.iload_n 2, 1) := by decide +kernel
theorem dX4_deepTogether_5 : decode cX4_deepTogether 5 = .ok (.aload_n 0, 1) := by decide +kernel
theorem dX4_deepTogether_6 : decode cX4_deepTogether 6 = .ok (.getfield 37, 3) := by decide +kernel
theorem dX4_deepTogether_9 : decode cX4_deepTogether 9 = .ok (.if_icmp .ge 24, 3) := by decide +kernel
theorem dX4_deepTogether_12 : decode cX4_deepTogether 12 = .ok (.iload_n 2, 1) := by decide +kernel
theorem dX4_deepTogether_13 : decode cX4_deepTogether 13 = .ok (.bipush 8, 2) := by decide +kernel
theorem dX4_deepTogether_15 : decode cX4_deepTogether 15 = .ok (.if_icmp .ge 18, 3) := by decide +kernel
theorem dX4_deepTogether_18 : decode cX4_deepTogether 18 = .ok (.iload_n 1, 1) := by decide +kernel
theorem dX4_deepTogether_19 : decode cX4_deepTogether 19 = .ok (.aload_n 0, 1) := by decide +kernel
theorem dX4_deepTogether_20 : decode cX4_deepTogether 20 = .ok (.getfield 9, 3) := by decide +kernel
theorem dX4_deepTogether_23 : decode cX4_deepTogether 23 = .ok (.iload_n 2, 1) := by decide +kernel
theorem dX4_deepTogether_24 : decode cX4_deepTogether 24 = .ok (.iaload, 1) := by decide +kernel
theorem dX4_deepTogether_25 : decode cX4_deepTogether 25 = .ok (.iadd, 1) := by decide +kernel
theorem dX4_deepTogether_26 : decode cX4_deepTogether 26 = .ok (.istore_n 1, 1) := by decide +kernel
theorem dX4_deepTogether_27 : decode cX4_deepTogether 27 = .ok (.iinc 2 1, 3) := by decide +kernel
theorem dX4_deepTogether_30 : decode cX4_deepTogether 30 = .ok (.goto (-26), 3) := by decide +kernel
theorem dX4_deepTogether_33 : decode cX4_deepTogether 33 = .ok (.iload_n 1, 1) := by decide +kernel
theorem dX4_deepTogether_34 : decode cX4_deepTogether 34 = .ok (.ireturn, 1) := by decide +kernel
theorem dX4_draw_0 : decode cX4_draw 0 = .ok (.aload_n 0, 1) := by decide +kernel
theorem dX4_draw_1 : decode cX4_draw 1 = .ok (.getfield 37, 3) := by decide +kernel
theorem dX4_draw_4 : decode cX4_draw 4 = .ok (.iconst 1, 1) := by decide +kernel
theorem dX4_draw_5 : decode cX4_draw 5 = .ok (.if_icmp .ge 4, 3) := by decide +kernel
theorem dX4_draw_8 : decode cX4_draw 8 = .ok (.return_, 1) := by decide +kernel
theorem dX4_draw_9 : decode cX4_draw 9 = .ok (.iload_n 1, 1) := by decide +kernel
theorem dX4_draw_10 : decode cX4_draw 10 = .ok (.bipush 8, 2) := by decide +kernel
theorem dX4_draw_12 : decode cX4_draw 12 = .ok (.idiv, 1) := by decide +kernel
theorem dX4_draw_13 : decode cX4_draw 13 = .ok (.aload_n 0, 1) := by decide +kernel
theorem dX4_draw_14 : decode cX4_draw 14 = .ok (.getfield 37, 3) := by decide +kernel
theorem dX4_draw_17 : decode cX4_draw 17 = .ok (.irem, 1) := by decide +kernel
theorem dX4_draw_18 : decode cX4_draw 18 = .ok (.istore_n 2, 1) := by decide +kernel
theorem dX4_draw_19 : decode cX4_draw 19 = .ok (.iload_n 1, 1) := by decide +kernel
theorem dX4_draw_20 : decode cX4_draw 20 = .ok (.bipush 64, 2) := by decide +kernel
theorem dX4_draw_22 : decode cX4_draw 22 = .ok (.idiv, 1) := by decide +kernel
theorem dX4_draw_23 : decode cX4_draw 23 = .ok (.aload_n 0, 1) := by decide +kernel
theorem dX4_draw_24 : decode cX4_draw 24 = .ok (.getfield 37, 3) := by decide +kernel
theorem dX4_draw_27 : decode cX4_draw 27 = .ok (.irem, 1) := by decide +kernel
theorem dX4_draw_28 : decode cX4_draw 28 = .ok (.istore_n 3, 1) := by decide +kernel
theorem dX4_draw_29 : decode cX4_draw 29 = .ok (.iload_n 1, 1) := by decide +kernel
theorem dX4_draw_30 : decode cX4_draw 30 = .ok (.bipush 8, 2) := by decide +kernel
theorem dX4_draw_32 : decode cX4_draw 32 = .ok (.irem, 1) := by decide +kernel
theorem dX4_draw_33 : decode cX4_draw 33 = .ok (.tableswitch 79 0 4 #[35, 46, 57, 68, 68], 35) := by decide +kernel
theorem dX4_draw_68 : decode cX4_draw 68 = .ok (.aload_n 0, 1) := by decide +kernel
theorem dX4_draw_69 : decode cX4_draw 69 = .ok (.iconst 4, 1) := by decide +kernel
theorem dX4_draw_70 : decode cX4_draw 70 = .ok (.iconst 0, 1) := by decide +kernel
theorem dX4_draw_71 : decode cX4_draw 71 = .ok (.iconst 0, 1) := by decide +kernel
theorem dX4_draw_72 : decode cX4_draw 72 = .ok (.invokevirtual 115, 3) := by decide +kernel
theorem dX4_draw_75 : decode cX4_draw 75 = .ok (.pop, 1) := by decide +kernel
theorem dX4_draw_76 : decode cX4_draw 76 = .ok (.goto 44, 3) := by decide +kernel
theorem dX4_draw_79 : decode cX4_draw 79 = .ok (.aload_n 0, 1) := by decide +kernel
theorem dX4_draw_80 : decode cX4_draw 80 = .ok (.iconst 5, 1) := by decide +kernel
theorem dX4_draw_81 : decode cX4_draw 81 = .ok (.iconst 0, 1) := by decide +kernel
theorem dX4_draw_82 : decode cX4_draw 82 = .ok (.iconst 0, 1) := by decide +kernel
theorem dX4_draw_83 : decode cX4_draw 83 = .ok (.invokevirtual 115, 3) := by decide +kernel
theorem dX4_draw_86 : decode cX4_draw 86 = .ok (.pop, 1) := by decide +kernel
theorem dX4_draw_87 : decode cX4_draw 87 = .ok (.goto 33, 3) := by decide +kernel
theorem dX4_draw_90 : decode cX4_draw 90 = .ok (.aload_n 0, 1) := by decide +kernel
theorem dX4_draw_91 : decode cX4_draw 91 = .ok (.iconst 2, 1) := by decide +kernel
theorem dX4_draw_92 : decode cX4_draw 92 = .ok (.iload_n 2, 1) := by decide +kernel
theorem dX4_draw_93 : decode cX4_draw 93 = .ok (.iload_n 3, 1) := by decide +kernel
theorem dX4_draw_94 : decode cX4_draw 94 = .ok (.invokevirtual 115, 3) := by decide +kernel
theorem dX4_draw_97 : decode cX4_draw 97 = .ok (.pop, 1) := by decide +kernel
theorem dX4_draw_98 : decode cX4_draw 98 = .ok (.goto 22, 3) := by decide +kernel
theorem dX4_draw_101 : decode cX4_draw 101 = .ok (.aload_n 0, 1) := by decide +kernel
theorem dX4_draw_102 : decode cX4_draw 102 = .ok (.iconst 0, 1) := by decide +kernel
theorem dX4_draw_103 : decode cX4_draw 103 = .ok (.iload_n 2, 1) := by decide +kernel
theorem dX4_draw_104 : decode cX4_draw 104 = .ok (.iload_n 3, 1) := by decide +kernel
theorem dX4_draw_105 : decode cX4_draw 105 = .ok (.invokevirtual 115, 3) := by decide +kernel
theorem dX4_draw_108 : decode cX4_draw 108 = .ok (.pop, 1) := by decide +kernel
theorem dX4_draw_109 : decode cX4_draw 109 = .ok (.goto 11, 3) := by decide +kernel
theorem dX4_draw_112 : decode cX4_draw 112 = .ok (.aload_n 0, 1) := by decide +kernel
theorem dX4_draw_113 : decode cX4_draw 113 = .ok (.iconst 1, 1) := by decide +kernel
theorem dX4_draw_114 : decode cX4_draw 114 = .ok (.iload_n 2, 1) := by decide +kernel
theorem dX4_draw_115 : decode cX4_draw 115 = .ok (.iload_n 3, 1) := by decide +kernel
theorem dX4_draw_116 : decode cX4_draw 116 = .ok (.invokevirtual 115, 3) := by decide +kernel
theorem dX4_draw_119 : decode cX4_draw 119 = .ok (.pop, 1) := by decide +kernel
theorem dX4_draw_120 : decode cX4_draw 120 = .ok (.return_, 1) := by decide +kernel
theorem dX4_fall_0 : decode cX4_fall 0 = .ok (.aload_n 0, 1) := by decide +kernel
theorem dX4_fall_1 : decode cX4_fall 1 = .ok (.iload_n 2, 1) := by decide +kernel
theorem dX4_fall_2 : decode cX4_fall 2 = .ok (.invokevirtual 71, 3) := by decide +kernel
theorem dX4_fall_5 : decode cX4_fall 5 = .ok (.ifCond .eq 11, 3) := by decide +kernel
theorem dX4_fall_8 : decode cX4_fall 8 = .ok (.aload_n 0, 1) := by decide +kernel
theorem dX4_fall_9 : decode cX4_fall 9 = .ok (.iload_n 3, 1) := by decide +kernel
theorem dX4_fall_10 : decode cX4_fall 10 = .ok (.invokevirtual 71, 3) := by decide +kernel
theorem dX4_fall_13 : decode cX4_fall 13 = .ok (.ifCond .ne 4, 3) := by decide +kernel
theorem dX4_fall_16 : decode cX4_fall 16 = .ok (.return_, 1) := by decide +kernel
theorem dX4_fall_17 : decode cX4_fall 17 = .ok (.aload_n 0, 1) := by decide +kernel
theorem dX4_fall_18 : decode cX4_fall 18 = .ok (.iload_n 1, 1) := by decide +kernel
theorem dX4_fall_19 : decode cX4_fall 19 = .ok (.iload_n 2, 1) := by decide +kernel
theorem dX4_fall_20 : decode cX4_fall 20 = .ok (.iload_n 3, 1) := by decide +kernel
theorem dX4_fall_21 : decode cX4_fall 21 = .ok (.invokevirtual 78, 3) := by decide +kernel
theorem dX4_fall_24 : decode cX4_fall 24 = .ok (.istore 4, 2) := by decide +kernel
theorem dX4_fall_26 : decode cX4_fall 26 = .ok (.aload_n 0, 1) := by decide +kernel
theorem dX4_fall_27 : decode cX4_fall 27 = .ok (.getfield 9, 3) := by decide +kernel
theorem dX4_fall_30 : decode cX4_fall 30 = .ok (.iload_n 2, 1) := by decide +kernel
theorem dX4_fall_31 : decode cX4_fall 31 = .ok (.dup2, 1) := by decide +kernel
theorem dX4_fall_32 : decode cX4_fall 32 = .ok (.iaload, 1) := by decide +kernel
theorem dX4_fall_33 : decode cX4_fall 33 = .ok (.iload 4, 2) := by decide +kernel
theorem dX4_fall_35 : decode cX4_fall 35 = .ok (.iadd, 1) := by decide +kernel
theorem dX4_fall_36 : decode cX4_fall 36 = .ok (.iastore, 1) := by decide +kernel
theorem dX4_fall_37 : decode cX4_fall 37 = .ok (.aload_n 0, 1) := by decide +kernel
theorem dX4_fall_38 : decode cX4_fall 38 = .ok (.getfield 24, 3) := by decide +kernel
theorem dX4_fall_41 : decode cX4_fall 41 = .ok (.iload_n 2, 1) := by decide +kernel
theorem dX4_fall_42 : decode cX4_fall 42 = .ok (.bipush 8, 2) := by decide +kernel
theorem dX4_fall_44 : decode cX4_fall 44 = .ok (.imul, 1) := by decide +kernel
theorem dX4_fall_45 : decode cX4_fall 45 = .ok (.iload_n 3, 1) := by decide +kernel
theorem dX4_fall_46 : decode cX4_fall 46 = .ok (.iadd, 1) := by decide +kernel
theorem dX4_fall_47 : decode cX4_fall 47 = .ok (.dup2, 1) := by decide +kernel
theorem dX4_fall_48 : decode cX4_fall 48 = .ok (.iaload, 1) := by decide +kernel
theorem dX4_fall_49 : decode cX4_fall 49 = .ok (.iload 4, 2) := by decide +kernel
theorem dX4_fall_51 : decode cX4_fall 51 = .ok (.iadd, 1) := by decide +kernel
theorem dX4_fall_52 : decode cX4_fall 52 = .ok (.iastore, 1) := by decide +kernel
theorem dX4_fall_53 : decode cX4_fall 53 = .ok (.aload_n 0, 1) := by decide +kernel
theorem dX4_fall_54 : decode cX4_fall 54 = .ok (.getfield 21, 3) := by decide +kernel
theorem dX4_fall_57 : decode cX4_fall 57 = .ok (.iload_n 2, 1) := by decide +kernel
theorem dX4_fall_58 : decode cX4_fall 58 = .ok (.dup2, 1) := by decide +kernel
theorem dX4_fall_59 : decode cX4_fall 59 = .ok (.iaload, 1) := by decide +kernel
theorem dX4_fall_60 : decode cX4_fall 60 = .ok (.iconst 1, 1) := by decide +kernel
theorem dX4_fall_61 : decode cX4_fall 61 = .ok (.iload_n 3, 1) := by decide +kernel
theorem dX4_fall_62 : decode cX4_fall 62 = .ok (.ishl, 1) := by decide +kernel
theorem dX4_fall_63 : decode cX4_fall 63 = .ok (.ior, 1) := by decide +kernel
theorem dX4_fall_64 : decode cX4_fall 64 = .ok (.iastore, 1) := by decide +kernel
theorem dX4_fall_65 : decode cX4_fall 65 = .ok (.return_, 1) := by decide +kernel
theorem dX4_forgetWords_0 : decode cX4_forgetWords 0 = .ok (.iconst 0, 1) := by decide +kernel
theorem dX4_forgetWords_1 : decode cX4_forgetWords 1 = .ok (.istore_n 1, 1) := by decide +kernel
theorem dX4_forgetWords_2 : decode cX4_forgetWords 2 = .ok (.iload_n 1, 1) := by decide +kernel
theorem dX4_forgetWords_3 : decode cX4_forgetWords 3 = .ok (.bipush 8, 2) := by decide +kernel
theorem dX4_forgetWords_5 : decode cX4_forgetWords 5 = .ok (.if_icmp .ge 43, 3) := by decide +kernel
theorem dX4_forgetWords_8 : decode cX4_forgetWords 8 = .ok (.aload_n 0, 1) := by decide +kernel
theorem dX4_forgetWords_9 : decode cX4_forgetWords 9 = .ok (.getfield 21, 3) := by decide +kernel
theorem dX4_forgetWords_12 : decode cX4_forgetWords 12 = .ok (.iload_n 1, 1) := by decide +kernel
theorem dX4_forgetWords_13 : decode cX4_forgetWords 13 = .ok (.iaload, 1) := by decide +kernel
theorem dX4_forgetWords_14 : decode cX4_forgetWords 14 = .ok (.ifCond .eq 28, 3) := by decide +kernel
theorem dX4_forgetWords_17 : decode cX4_forgetWords 17 = .ok (.aload_n 0, 1) := by decide +kernel
theorem dX4_forgetWords_18 : decode cX4_forgetWords 18 = .ok (.getfield 21, 3) := by decide +kernel
theorem dX4_forgetWords_21 : decode cX4_forgetWords 21 = .ok (.iload_n 1, 1) := by decide +kernel
theorem dX4_forgetWords_22 : decode cX4_forgetWords 22 = .ok (.iconst 0, 1) := by decide +kernel
theorem dX4_forgetWords_23 : decode cX4_forgetWords 23 = .ok (.iastore, 1) := by decide +kernel
theorem dX4_forgetWords_24 : decode cX4_forgetWords 24 = .ok (.aload_n 0, 1) := by decide +kernel
theorem dX4_forgetWords_25 : decode cX4_forgetWords 25 = .ok (.getfield 24, 3) := by decide +kernel
theorem dX4_forgetWords_28 : decode cX4_forgetWords 28 = .ok (.iload_n 1, 1) := by decide +kernel
theorem dX4_forgetWords_29 : decode cX4_forgetWords 29 = .ok (.bipush 8, 2) := by decide +kernel
theorem dX4_forgetWords_31 : decode cX4_forgetWords 31 = .ok (.imul, 1) := by decide +kernel
theorem dX4_forgetWords_32 : decode cX4_forgetWords 32 = .ok (.iload_n 1, 1) := by decide +kernel
theorem dX4_forgetWords_33 : decode cX4_forgetWords 33 = .ok (.iconst 1, 1) := by decide +kernel
theorem dX4_forgetWords_34 : decode cX4_forgetWords 34 = .ok (.iadd, 1) := by decide +kernel
theorem dX4_forgetWords_35 : decode cX4_forgetWords 35 = .ok (.bipush 8, 2) := by decide +kernel
theorem dX4_forgetWords_37 : decode cX4_forgetWords 37 = .ok (.imul, 1) := by decide +kernel
theorem dX4_forgetWords_38 : decode cX4_forgetWords 38 = .ok (.iconst 0, 1) := by decide +kernel
theorem dX4_forgetWords_39 : decode cX4_forgetWords 39 = .ok (.invokestatic 62, 3) := by decide +kernel
theorem dX4_forgetWords_42 : decode cX4_forgetWords 42 = .ok (.iinc 1 1, 3) := by decide +kernel
theorem dX4_forgetWords_45 : decode cX4_forgetWords 45 = .ok (.goto (-43), 3) := by decide +kernel
theorem dX4_forgetWords_48 : decode cX4_forgetWords 48 = .ok (.return_, 1) := by decide +kernel
theorem dX4_has_0 : decode cX4_has 0 = .ok (.iload_n 1, 1) := by decide +kernel
theorem dX4_has_1 : decode cX4_has 1 = .ok (.ifCond .lt 21, 3) := by decide +kernel
theorem dX4_has_4 : decode cX4_has 4 = .ok (.iload_n 1, 1) := by decide +kernel
theorem dX4_has_5 : decode cX4_has 5 = .ok (.aload_n 0, 1) := by decide +kernel
theorem dX4_has_6 : decode cX4_has 6 = .ok (.getfield 37, 3) := by decide +kernel
theorem dX4_has_9 : decode cX4_has 9 = .ok (.if_icmp .ge 13, 3) := by decide +kernel
theorem dX4_has_12 : decode cX4_has 12 = .ok (.iload_n 1, 1) := by decide +kernel
theorem dX4_has_13 : decode cX4_has 13 = .ok (.bipush 8, 2) := by decide +kernel
theorem dX4_has_15 : decode cX4_has 15 = .ok (.if_icmp .ge 7, 3) := by decide +kernel
theorem dX4_has_18 : decode cX4_has 18 = .ok (.iconst 1, 1) := by decide +kernel
theorem dX4_has_19 : decode cX4_has 19 = .ok (.goto 4, 3) := by decide +kernel
theorem dX4_has_22 : decode cX4_has 22 = .ok (.iconst 0, 1) := by decide +kernel
theorem dX4_has_23 : decode cX4_has 23 = .ok (.ireturn, 1) := by decide +kernel
theorem dX4_hindrance_0 : decode cX4_hindrance 0 = .ok (.aload_n 0, 1) := by decide +kernel
theorem dX4_hindrance_1 : decode cX4_hindrance 1 = .ok (.iload_n 2, 1) := by decide +kernel
theorem dX4_hindrance_2 : decode cX4_hindrance 2 = .ok (.invokevirtual 71, 3) := by decide +kernel
theorem dX4_hindrance_5 : decode cX4_hindrance 5 = .ok (.ifCond .eq 13, 3) := by decide +kernel
theorem dX4_hindrance_8 : decode cX4_hindrance 8 = .ok (.iload_n 1, 1) := by decide +kernel
theorem dX4_hindrance_9 : decode cX4_hindrance 9 = .ok (.iconst 4, 1) := by decide +kernel
theorem dX4_hindrance_10 : decode cX4_hindrance 10 = .ok (.if_icmp .eq 8, 3) := by decide +kernel
theorem dX4_hindrance_13 : decode cX4_hindrance 13 = .ok (.iload_n 1, 1) := by decide +kernel
theorem dX4_hindrance_14 : decode cX4_hindrance 14 = .ok (.iconst 5, 1) := by decide +kernel
theorem dX4_hindrance_15 : decode cX4_hindrance 15 = .ok (.if_icmp .ne 5, 3) := by decide +kernel
theorem dX4_hindrance_18 : decode cX4_hindrance 18 = .ok (.iconst 0, 1) := by decide +kernel
theorem dX4_hindrance_19 : decode cX4_hindrance 19 = .ok (.ireturn, 1) := by decide +kernel
theorem dX4_hindrance_20 : decode cX4_hindrance 20 = .ok (.iload_n 1, 1) := by decide +kernel
theorem dX4_hindrance_21 : decode cX4_hindrance 21 = .ok (.iconst 3, 1) := by decide +kernel
theorem dX4_hindrance_22 : decode cX4_hindrance 22 = .ok (.if_icmp .ne 37, 3) := by decide +kernel
theorem dX4_hindrance_25 : decode cX4_hindrance 25 = .ok (.aload_n 0, 1) := by decide +kernel
theorem dX4_hindrance_26 : decode cX4_hindrance 26 = .ok (.iload_n 2, 1) := by decide +kernel
theorem dX4_hindrance_27 : decode cX4_hindrance 27 = .ok (.invokevirtual 75, 3) := by decide +kernel
theorem dX4_hindrance_30 : decode cX4_hindrance 30 = .ok (.ifCond .ne 23, 3) := by decide +kernel
theorem dX4_hindrance_33 : decode cX4_hindrance 33 = .ok (.aload_n 0, 1) := by decide +kernel
theorem dX4_hindrance_34 : decode cX4_hindrance 34 = .ok (.iload_n 2, 1) := by decide +kernel
theorem dX4_hindrance_35 : decode cX4_hindrance 35 = .ok (.iconst 1, 1) := by decide +kernel
theorem dX4_hindrance_36 : decode cX4_hindrance 36 = .ok (.isub, 1) := by decide +kernel
theorem dX4_hindrance_37 : decode cX4_hindrance 37 = .ok (.invokevirtual 75, 3) := by decide +kernel
theorem dX4_hindrance_40 : decode cX4_hindrance 40 = .ok (.ifCond .ne 13, 3) := by decide +kernel
theorem dX4_hindrance_43 : decode cX4_hindrance 43 = .ok (.aload_n 0, 1) := by decide +kernel
theorem dX4_hindrance_44 : decode cX4_hindrance 44 = .ok (.iload_n 2, 1) := by decide +kernel
theorem dX4_hindrance_45 : decode cX4_hindrance 45 = .ok (.iconst 1, 1) := by decide +kernel
theorem dX4_hindrance_46 : decode cX4_hindrance 46 = .ok (.iadd, 1) := by decide +kernel
theorem dX4_hindrance_47 : decode cX4_hindrance 47 = .ok (.invokevirtual 75, 3) := by decide +kernel
theorem dX4_hindrance_50 : decode cX4_hindrance 50 = .ok (.ifCond .eq 7, 3) := by decide +kernel
theorem dX4_hindrance_53 : decode cX4_hindrance 53 = .ok (.iconst 0, 1) := by decide +kernel
theorem dX4_hindrance_54 : decode cX4_hindrance 54 = .ok (.goto 4, 3) := by decide +kernel
theorem dX4_hindrance_57 : decode cX4_hindrance 57 = .ok (.iconst 2, 1) := by decide +kernel
theorem dX4_hindrance_58 : decode cX4_hindrance 58 = .ok (.ireturn, 1) := by decide +kernel
theorem dX4_hindrance_59 : decode cX4_hindrance 59 = .ok (.iload_n 2, 1) := by decide +kernel
theorem dX4_hindrance_60 : decode cX4_hindrance 60 = .ok (.iload_n 3, 1) := by decide +kernel
theorem dX4_hindrance_61 : decode cX4_hindrance 61 = .ok (.if_icmp .ne 5, 3) := by decide +kernel
theorem dX4_hindrance_64 : decode cX4_hindrance 64 = .ok (.iconst 1, 1) := by decide +kernel
theorem dX4_hindrance_65 : decode cX4_hindrance 65 = .ok (.ireturn, 1) := by decide +kernel
theorem dX4_hindrance_66 : decode cX4_hindrance 66 = .ok (.iload_n 1, 1) := by decide +kernel
theorem dX4_hindrance_67 : decode cX4_hindrance 67 = .ok (.iconst 2, 1) := by decide +kernel
theorem dX4_hindrance_68 : decode cX4_hindrance 68 = .ok (.if_icmp .ne 17, 3) := by decide +kernel
theorem dX4_hindrance_71 : decode cX4_hindrance 71 = .ok (.aload_n 0, 1) := by decide +kernel
theorem dX4_hindrance_72 : decode cX4_hindrance 72 = .ok (.iload_n 2, 1) := by decide +kernel
theorem dX4_hindrance_73 : decode cX4_hindrance 73 = .ok (.invokevirtual 75, 3) := by decide +kernel
theorem dX4_hindrance_76 : decode cX4_hindrance 76 = .ok (.ifCond .eq 7, 3) := by decide +kernel
theorem dX4_hindrance_79 : decode cX4_hindrance 79 = .ok (.iconst 0, 1) := by decide +kernel
theorem dX4_hindrance_80 : decode cX4_hindrance 80 = .ok (.goto 4, 3) := by decide +kernel
theorem dX4_hindrance_83 : decode cX4_hindrance 83 = .ok (.iconst 2, 1) := by decide +kernel
theorem dX4_hindrance_84 : decode cX4_hindrance 84 = .ok (.ireturn, 1) := by decide +kernel
theorem dX4_hindrance_85 : decode cX4_hindrance 85 = .ok (.aload_n 0, 1) := by decide +kernel
theorem dX4_hindrance_86 : decode cX4_hindrance 86 = .ok (.getfield 9, 3) := by decide +kernel
theorem dX4_hindrance_89 : decode cX4_hindrance 89 = .ok (.iload_n 2, 1) := by decide +kernel
theorem dX4_hindrance_90 : decode cX4_hindrance 90 = .ok (.iaload, 1) := by decide +kernel
theorem dX4_hindrance_91 : decode cX4_hindrance 91 = .ok (.aload_n 0, 1) := by decide +kernel
theorem dX4_hindrance_92 : decode cX4_hindrance 92 = .ok (.iload_n 1, 1) := by decide +kernel
theorem dX4_hindrance_93 : decode cX4_hindrance 93 = .ok (.iload_n 2, 1) := by decide +kernel
theorem dX4_hindrance_94 : decode cX4_hindrance 94 = .ok (.iload_n 3, 1) := by decide +kernel
theorem dX4_hindrance_95 : decode cX4_hindrance 95 = .ok (.invokevirtual 78, 3) := by decide +kernel
theorem dX4_hindrance_98 : decode cX4_hindrance 98 = .ok (.iadd, 1) := by decide +kernel
theorem dX4_hindrance_99 : decode cX4_hindrance 99 = .ok (.sipush 999, 3) := by decide +kernel
theorem dX4_hindrance_102 : decode cX4_hindrance 102 = .ok (.if_icmp .le 7, 3) := by decide +kernel
theorem dX4_hindrance_105 : decode cX4_hindrance 105 = .ok (.iconst 3, 1) := by decide +kernel
theorem dX4_hindrance_106 : decode cX4_hindrance 106 = .ok (.goto 4, 3) := by decide +kernel
theorem dX4_hindrance_109 : decode cX4_hindrance 109 = .ok (.iconst 0, 1) := by decide +kernel
theorem dX4_hindrance_110 : decode cX4_hindrance 110 = .ok (.ireturn, 1) := by decide +kernel
theorem dX4_init_0 : decode cX4_init 0 = .ok (.aload_n 0, 1) := by decide +kernel
theorem dX4_init_1 : decode cX4_init 1 = .ok (.invokespecial 3, 3) := by decide +kernel
theorem dX4_init_4 : decode cX4_init 4 = .ok (.aload_n 0, 1) := by decide +kernel
theorem dX4_init_5 : decode cX4_init 5 = .ok (.bipush 8, 2) := by decide +kernel
theorem dX4_init_7 : decode cX4_init 7 = .ok (.newarray .int, 2) := by decide +kernel
theorem dX4_init_9 : decode cX4_init 9 = .ok (.putfield 9, 3) := by decide +kernel
theorem dX4_init_12 : decode cX4_init 12 = .ok (.aload_n 0, 1) := by decide +kernel
theorem dX4_init_13 : decode cX4_init 13 = .ok (.bipush 8, 2) := by decide +kernel
theorem dX4_init_15 : decode cX4_init 15 = .ok (.newarray .int, 2) := by decide +kernel
theorem dX4_init_17 : decode cX4_init 17 = .ok (.putfield 15, 3) := by decide +kernel
theorem dX4_init_20 : decode cX4_init 20 = .ok (.aload_n 0, 1) := by decide +kernel
theorem dX4_init_21 : decode cX4_init 21 = .ok (.iconst 4, 1) := by decide +kernel
theorem dX4_init_22 : decode cX4_init 22 = .ok (.newarray .int, 2) := by decide +kernel
theorem dX4_init_24 : decode cX4_init 24 = .ok (.putfield 18, 3) := by decide +kernel
theorem dX4_init_27 : decode cX4_init 27 = .ok (.aload_n 0, 1) := by decide +kernel
theorem dX4_init_28 : decode cX4_init 28 = .ok (.bipush 8, 2) := by decide +kernel
theorem dX4_init_30 : decode cX4_init 30 = .ok (.newarray .int, 2) := by decide +kernel
theorem dX4_init_32 : decode cX4_init 32 = .ok (.putfield 21, 3) := by decide +kernel
theorem dX4_init_35 : decode cX4_init 35 = .ok (.aload_n 0, 1) := by decide +kernel
theorem dX4_init_36 : decode cX4_init 36 = .ok (.bipush 64, 2) := by decide +kernel
theorem dX4_init_38 : decode cX4_init 38 = .ok (.newarray .int, 2) := by decide +kernel
theorem dX4_init_40 : decode cX4_init 40 = .ok (.putfield 24, 3) := by decide +kernel
theorem dX4_init_43 : decode cX4_init 43 = .ok (.aload_n 0, 1) := by decide +kernel
theorem dX4_init_44 : decode cX4_init 44 = .ok (.bipush 8, 2) := by decide +kernel
theorem dX4_init_46 : decode cX4_init 46 = .ok (.newarray .int, 2) := by decide +kernel
theorem dX4_init_48 : decode cX4_init 48 = .ok (.putfield 27, 3) := by decide +kernel
theorem dX4_init_51 : decode cX4_init 51 = .ok (.aload_n 0, 1) := by decide +kernel
theorem dX4_init_52 : decode cX4_init 52 = .ok (.bipush 8, 2) := by decide +kernel
theorem dX4_init_54 : decode cX4_init 54 = .ok (.newarray .int, 2) := by decide +kernel
theorem dX4_init_56 : decode cX4_init 56 = .ok (.putfield 30, 3) := by decide +kernel
theorem dX4_init_59 : decode cX4_init 59 = .ok (.aload_n 0, 1) := by decide +kernel
theorem dX4_init_60 : decode cX4_init 60 = .ok (.getfield 18, 3) := by decide +kernel
theorem dX4_init_63 : decode cX4_init 63 = .ok (.iconst 0, 1) := by decide +kernel
theorem dX4_init_64 : decode cX4_init 64 = .ok (.iconst 1, 1) := by decide +kernel
theorem dX4_init_65 : decode cX4_init 65 = .ok (.iastore, 1) := by decide +kernel
theorem dX4_init_66 : decode cX4_init 66 = .ok (.aload_n 0, 1) := by decide +kernel
theorem dX4_init_67 : decode cX4_init 67 = .ok (.getfield 18, 3) := by decide +kernel
theorem dX4_init_70 : decode cX4_init 70 = .ok (.iconst 1, 1) := by decide +kernel
theorem dX4_init_71 : decode cX4_init 71 = .ok (.iconst 3, 1) := by decide +kernel
theorem dX4_init_72 : decode cX4_init 72 = .ok (.iastore, 1) := by decide +kernel
theorem dX4_init_73 : decode cX4_init 73 = .ok (.aload_n 0, 1) := by decide +kernel
theorem dX4_init_74 : decode cX4_init 74 = .ok (.getfield 18, 3) := by decide +kernel
theorem dX4_init_77 : decode cX4_init 77 = .ok (.iconst 2, 1) := by decide +kernel
theorem dX4_init_78 : decode cX4_init 78 = .ok (.iconst 1, 1) := by decide +kernel
theorem dX4_init_79 : decode cX4_init 79 = .ok (.iastore, 1) := by decide +kernel
theorem dX4_init_80 : decode cX4_init 80 = .ok (.aload_n 0, 1) := by decide +kernel
theorem dX4_init_81 : decode cX4_init 81 = .ok (.getfield 18, 3) := by decide +kernel
theorem dX4_init_84 : decode cX4_init 84 = .ok (.iconst 3, 1) := by decide +kernel
theorem dX4_init_85 : decode cX4_init 85 = .ok (.iconst 4, 1) := by decide +kernel
theorem dX4_init_86 : decode cX4_init 86 = .ok (.iastore, 1) := by decide +kernel
theorem dX4_init_87 : decode cX4_init 87 = .ok (.aload_n 0, 1) := by decide +kernel
theorem dX4_init_88 : decode cX4_init 88 = .ok (.bipush 6, 2) := by decide +kernel
theorem dX4_init_90 : decode cX4_init 90 = .ok (.invokevirtual 33, 3) := by decide +kernel
theorem dX4_init_93 : decode cX4_init 93 = .ok (.return_, 1) := by decide +kernel
theorem dX4_isDeep_0 : decode cX4_isDeep 0 = .ok (.aload_n 0, 1) := by decide +kernel
theorem dX4_isDeep_1 : decode cX4_isDeep 1 = .ok (.iload_n 1, 1) := by decide +kernel
theorem dX4_isDeep_2 : decode cX4_isDeep 2 = .ok (.invokevirtual 71, 3) := by decide +kernel
theorem dX4_isDeep_5 : decode cX4_isDeep 5 = .ok (.ifCond .eq 16, 3) := by decide +kernel
theorem dX4_isDeep_8 : decode cX4_isDeep 8 = .ok (.aload_n 0, 1) := by decide +kernel
theorem dX4_isDeep_9 : decode cX4_isDeep 9 = .ok (.getfield 9, 3) := by decide +kernel
theorem dX4_isDeep_12 : decode cX4_isDeep 12 = .ok (.iload_n 1, 1) := by decide +kernel
theorem dX4_isDeep_13 : decode cX4_isDeep 13 = .ok (.iaload, 1) := by decide +kernel
theorem dX4_isDeep_14 : decode cX4_isDeep 14 = .ok (.ifCond .le 7, 3) := by decide +kernel
theorem dX4_isDeep_17 : decode cX4_isDeep 17 = .ok (.iconst 1, 1) := by decide +kernel
theorem dX4_isDeep_18 : decode cX4_isDeep 18 = .ok (.goto 4, 3) := by decide +kernel
theorem dX4_isDeep_21 : decode cX4_isDeep 21 = .ok (.iconst 0, 1) := by decide +kernel
theorem dX4_isDeep_22 : decode cX4_isDeep 22 = .ok (.ireturn, 1) := by decide +kernel
theorem dX4_isSeen_0 : decode cX4_isSeen 0 = .ok (.iconst 0, 1) := by decide +kernel
theorem dX4_isSeen_1 : decode cX4_isSeen 1 = .ok (.istore_n 2, 1) := by decide +kernel
theorem dX4_isSeen_2 : decode cX4_isSeen 2 = .ok (.iload_n 2, 1) := by decide +kernel
theorem dX4_isSeen_3 : decode cX4_isSeen 3 = .ok (.aload_n 0, 1) := by decide +kernel
theorem dX4_isSeen_4 : decode cX4_isSeen 4 = .ok (.getfield 53, 3) := by decide +kernel
theorem dX4_isSeen_7 : decode cX4_isSeen 7 = .ok (.if_icmp .ge 27, 3) := by decide +kernel
theorem dX4_isSeen_10 : decode cX4_isSeen 10 = .ok (.iload_n 2, 1) := by decide +kernel
theorem dX4_isSeen_11 : decode cX4_isSeen 11 = .ok (.bipush 8, 2) := by decide +kernel
theorem dX4_isSeen_13 : decode cX4_isSeen 13 = .ok (.if_icmp .ge 21, 3) := by decide +kernel
theorem dX4_isSeen_16 : decode cX4_isSeen 16 = .ok (.aload_n 0, 1) := by decide +kernel
theorem dX4_isSeen_17 : decode cX4_isSeen 17 = .ok (.getfield 27, 3) := by decide +kernel
theorem dX4_isSeen_20 : decode cX4_isSeen 20 = .ok (.iload_n 2, 1) := by decide +kernel
theorem dX4_isSeen_21 : decode cX4_isSeen 21 = .ok (.iaload, 1) := by decide +kernel
theorem dX4_isSeen_22 : decode cX4_isSeen 22 = .ok (.iload_n 1, 1) := by decide +kernel
theorem dX4_isSeen_23 : decode cX4_isSeen 23 = .ok (.if_icmp .ne 5, 3) := by decide +kernel
theorem dX4_isSeen_26 : decode cX4_isSeen 26 = .ok (.iconst 1, 1) := by decide +kernel
theorem dX4_isSeen_27 : decode cX4_isSeen 27 = .ok (.ireturn, 1) := by decide +kernel
theorem dX4_isSeen_28 : decode cX4_isSeen 28 = .ok (.iinc 2 1, 3) := by decide +kernel
theorem dX4_isSeen_31 : decode cX4_isSeen 31 = .ok (.goto (-29), 3) := by decide +kernel
theorem dX4_isSeen_34 : decode cX4_isSeen 34 = .ok (.iconst 0, 1) := by decide +kernel
theorem dX4_isSeen_35 : decode cX4_isSeen 35 = .ok (.ireturn, 1) := by decide +kernel
theorem dX4_look_0 : decode cX4_look 0 = .ok (.aload_n 0, 1) := by decide +kernel
theorem dX4_look_1 : decode cX4_look 1 = .ok (.iload_n 1, 1) := by decide +kernel
theorem dX4_look_2 : decode cX4_look 2 = .ok (.invokevirtual 71, 3) := by decide +kernel
theorem dX4_look_5 : decode cX4_look 5 = .ok (.ifCond .ne 5, 3) := by decide +kernel
theorem dX4_look_8 : decode cX4_look 8 = .ok (.iconst (-1), 1) := by decide +kernel
theorem dX4_look_9 : decode cX4_look 9 = .ok (.ireturn, 1) := by decide +kernel
theorem dX4_look_10 : decode cX4_look 10 = .ok (.iload_n 2, 1) := by decide +kernel
theorem dX4_look_11 : decode cX4_look 11 = .ok (.ifCond .ne 12, 3) := by decide +kernel
theorem dX4_look_14 : decode cX4_look 14 = .ok (.aload_n 0, 1) := by decide +kernel
theorem dX4_look_15 : decode cX4_look 15 = .ok (.getfield 9, 3) := by decide +kernel
theorem dX4_look_18 : decode cX4_look 18 = .ok (.iload_n 1, 1) := by decide +kernel
theorem dX4_look_19 : decode cX4_look 19 = .ok (.iaload, 1) := by decide +kernel
theorem dX4_look_20 : decode cX4_look 20 = .ok (.goto 11, 3) := by decide +kernel
theorem dX4_look_23 : decode cX4_look 23 = .ok (.aload_n 0, 1) := by decide +kernel
theorem dX4_look_24 : decode cX4_look 24 = .ok (.getfield 47, 3) := by decide +kernel
theorem dX4_look_27 : decode cX4_look 27 = .ok (.iload_n 1, 1) := by decide +kernel
theorem dX4_look_28 : decode cX4_look 28 = .ok (.ishr, 1) := by decide +kernel
theorem dX4_look_29 : decode cX4_look 29 = .ok (.iconst 1, 1) := by decide +kernel
theorem dX4_look_30 : decode cX4_look 30 = .ok (.iand, 1) := by decide +kernel
theorem dX4_look_31 : decode cX4_look 31 = .ok (.ireturn, 1) := by decide +kernel
theorem dX4_lower_0 : decode cX4_lower 0 = .ok (.aload_n 0, 1) := by decide +kernel
theorem dX4_lower_1 : decode cX4_lower 1 = .ok (.iload_n 1, 1) := by decide +kernel
theorem dX4_lower_2 : decode cX4_lower 2 = .ok (.invokevirtual 71, 3) := by decide +kernel
theorem dX4_lower_5 : decode cX4_lower 5 = .ok (.ifCond .eq 21, 3) := by decide +kernel
theorem dX4_lower_8 : decode cX4_lower 8 = .ok (.aload_n 0, 1) := by decide +kernel
theorem dX4_lower_9 : decode cX4_lower 9 = .ok (.getfield 9, 3) := by decide +kernel
theorem dX4_lower_12 : decode cX4_lower 12 = .ok (.iload_n 1, 1) := by decide +kernel
theorem dX4_lower_13 : decode cX4_lower 13 = .ok (.iconst 0, 1) := by decide +kernel
theorem dX4_lower_14 : decode cX4_lower 14 = .ok (.aload_n 0, 1) := by decide +kernel
theorem dX4_lower_15 : decode cX4_lower 15 = .ok (.getfield 9, 3) := by decide +kernel
theorem dX4_lower_18 : decode cX4_lower 18 = .ok (.iload_n 1, 1) := by decide +kernel
theorem dX4_lower_19 : decode cX4_lower 19 = .ok (.iaload, 1) := by decide +kernel
theorem dX4_lower_20 : decode cX4_lower 20 = .ok (.iload_n 2, 1) := by decide +kernel
theorem dX4_lower_21 : decode cX4_lower 21 = .ok (.isub, 1) := by decide +kernel
theorem dX4_lower_22 : decode cX4_lower 22 = .ok (.invokestatic 96, 3) := by decide +kernel
theorem dX4_lower_25 : decode cX4_lower 25 = .ok (.iastore, 1) := by decide +kernel
theorem dX4_lower_26 : decode cX4_lower 26 = .ok (.return_, 1) := by decide +kernel
theorem dX4_mostSaidOf_0 : decode cX4_mostSaidOf 0 = .ok (.aload_n 0, 1) := by decide +kernel
theorem dX4_mostSaidOf_1 : decode cX4_mostSaidOf 1 = .ok (.iload_n 1, 1) := by decide +kernel
theorem dX4_mostSaidOf_2 : decode cX4_mostSaidOf 2 = .ok (.invokevirtual 71, 3) := by decide +kernel
theorem dX4_mostSaidOf_5 : decode cX4_mostSaidOf 5 = .ok (.ifCond .ne 6, 3) := by decide +kernel
theorem dX4_mostSaidOf_8 : decode cX4_mostSaidOf 8 = .ok (.bipush (-6), 2) := by decide +kernel
theorem dX4_mostSaidOf_10 : decode cX4_mostSaidOf 10 = .ok (.ireturn, 1) := by decide +kernel
theorem dX4_mostSaidOf_11 : decode cX4_mostSaidOf 11 = .ok (.iconst 0, 1) := by decide +kernel
theorem dX4_mostSaidOf_12 : decode cX4_mostSaidOf 12 = .ok (.istore_n 2, 1) := by decide +kernel
theorem dX4_mostSaidOf_13 : decode cX4_mostSaidOf 13 = .ok (.bipush (-6), 2) := by decide +kernel
theorem dX4_mostSaidOf_15 : decode cX4_mostSaidOf 15 = .ok (.istore_n 3, 1) := by decide +kernel
theorem dX4_mostSaidOf_16 : decode cX4_mostSaidOf 16 = .ok (.iconst 0, 1) := by decide +kernel
theorem dX4_mostSaidOf_17 : decode cX4_mostSaidOf 17 = .ok (.istore 4, 2) := by decide +kernel
theorem dX4_mostSaidOf_19 : decode cX4_mostSaidOf 19 = .ok (.iload 4, 2) := by decide +kernel
theorem dX4_mostSaidOf_21 : decode cX4_mostSaidOf 21 = .ok (.aload_n 0, 1) := by decide +kernel
theorem dX4_mostSaidOf_22 : decode cX4_mostSaidOf 22 = .ok (.getfield 37, 3) := by decide +kernel
theorem dX4_mostSaidOf_25 : decode cX4_mostSaidOf 25 = .ok (.if_icmp .ge 48, 3) := by decide +kernel
theorem dX4_mostSaidOf_28 : decode cX4_mostSaidOf 28 = .ok (.iload 4, 2) := by decide +kernel
theorem dX4_mostSaidOf_30 : decode cX4_mostSaidOf 30 = .ok (.bipush 8, 2) := by decide +kernel
theorem dX4_mostSaidOf_32 : decode cX4_mostSaidOf 32 = .ok (.if_icmp .ge 41, 3) := by decide +kernel
theorem dX4_mostSaidOf_35 : decode cX4_mostSaidOf 35 = .ok (.aload_n 0, 1) := by decide +kernel
theorem dX4_mostSaidOf_36 : decode cX4_mostSaidOf 36 = .ok (.getfield 24, 3) := by decide +kernel
theorem dX4_mostSaidOf_39 : decode cX4_mostSaidOf 39 = .ok (.iload_n 1, 1) := by decide +kernel
theorem dX4_mostSaidOf_40 : decode cX4_mostSaidOf 40 = .ok (.bipush 8, 2) := by decide +kernel
theorem dX4_mostSaidOf_42 : decode cX4_mostSaidOf 42 = .ok (.imul, 1) := by decide +kernel
theorem dX4_mostSaidOf_43 : decode cX4_mostSaidOf 43 = .ok (.iload 4, 2) := by decide +kernel
theorem dX4_mostSaidOf_45 : decode cX4_mostSaidOf 45 = .ok (.iadd, 1) := by decide +kernel
theorem dX4_mostSaidOf_46 : decode cX4_mostSaidOf 46 = .ok (.iaload, 1) := by decide +kernel
theorem dX4_mostSaidOf_47 : decode cX4_mostSaidOf 47 = .ok (.iload_n 2, 1) := by decide +kernel
theorem dX4_mostSaidOf_48 : decode cX4_mostSaidOf 48 = .ok (.if_icmp .le 19, 3) := by decide +kernel
theorem dX4_mostSaidOf_51 : decode cX4_mostSaidOf 51 = .ok (.aload_n 0, 1) := by decide +kernel
theorem dX4_mostSaidOf_52 : decode cX4_mostSaidOf 52 = .ok (.getfield 24, 3) := by decide +kernel
theorem dX4_mostSaidOf_55 : decode cX4_mostSaidOf 55 = .ok (.iload_n 1, 1) := by decide +kernel
theorem dX4_mostSaidOf_56 : decode cX4_mostSaidOf 56 = .ok (.bipush 8, 2) := by decide +kernel
theorem dX4_mostSaidOf_58 : decode cX4_mostSaidOf 58 = .ok (.imul, 1) := by decide +kernel
theorem dX4_mostSaidOf_59 : decode cX4_mostSaidOf 59 = .ok (.iload 4, 2) := by decide +kernel
theorem dX4_mostSaidOf_61 : decode cX4_mostSaidOf 61 = .ok (.iadd, 1) := by decide +kernel
theorem dX4_mostSaidOf_62 : decode cX4_mostSaidOf 62 = .ok (.iaload, 1) := by decide +kernel
theorem dX4_mostSaidOf_63 : decode cX4_mostSaidOf 63 = .ok (.istore_n 2, 1) := by decide +kernel
theorem dX4_mostSaidOf_64 : decode cX4_mostSaidOf 64 = .ok (.iload 4, 2) := by decide +kernel
theorem dX4_mostSaidOf_66 : decode cX4_mostSaidOf 66 = .ok (.istore_n 3, 1) := by decide +kernel
theorem dX4_mostSaidOf_67 : decode cX4_mostSaidOf 67 = .ok (.iinc 4 1, 3) := by decide +kernel
theorem dX4_mostSaidOf_70 : decode cX4_mostSaidOf 70 = .ok (.goto (-51), 3) := by decide +kernel
theorem dX4_mostSaidOf_73 : decode cX4_mostSaidOf 73 = .ok (.iload_n 3, 1) := by decide +kernel
theorem dX4_mostSaidOf_74 : decode cX4_mostSaidOf 74 = .ok (.ireturn, 1) := by decide +kernel
theorem dX4_overloaded_0 : decode cX4_overloaded 0 = .ok (.iconst 0, 1) := by decide +kernel
theorem dX4_overloaded_1 : decode cX4_overloaded 1 = .ok (.istore_n 1, 1) := by decide +kernel
theorem dX4_overloaded_2 : decode cX4_overloaded 2 = .ok (.iconst 0, 1) := by decide +kernel
theorem dX4_overloaded_3 : decode cX4_overloaded 3 = .ok (.istore_n 2, 1) := by decide +kernel
theorem dX4_overloaded_4 : decode cX4_overloaded 4 = .ok (.iload_n 2, 1) := by decide +kernel
theorem dX4_overloaded_5 : decode cX4_overloaded 5 = .ok (.aload_n 0, 1) := by decide +kernel
theorem dX4_overloaded_6 : decode cX4_overloaded 6 = .ok (.getfield 37, 3) := by decide +kernel
theorem dX4_overloaded_9 : decode cX4_overloaded 9 = .ok (.if_icmp .ge 36, 3) := by decide +kernel
theorem dX4_overloaded_12 : decode cX4_overloaded 12 = .ok (.iload_n 2, 1) := by decide +kernel
theorem dX4_overloaded_13 : decode cX4_overloaded 13 = .ok (.bipush 8, 2) := by decide +kernel
theorem dX4_overloaded_15 : decode cX4_overloaded 15 = .ok (.if_icmp .ge 30, 3) := by decide +kernel
theorem dX4_overloaded_18 : decode cX4_overloaded 18 = .ok (.aload_n 0, 1) := by decide +kernel
theorem dX4_overloaded_19 : decode cX4_overloaded 19 = .ok (.getfield 9, 3) := by decide +kernel
theorem dX4_overloaded_22 : decode cX4_overloaded 22 = .ok (.iload_n 2, 1) := by decide +kernel
theorem dX4_overloaded_23 : decode cX4_overloaded 23 = .ok (.iaload, 1) := by decide +kernel
theorem dX4_overloaded_24 : decode cX4_overloaded 24 = .ok (.aload_n 0, 1) := by decide +kernel
theorem dX4_overloaded_25 : decode cX4_overloaded 25 = .ok (.getfield 15, 3) := by decide +kernel
theorem dX4_overloaded_28 : decode cX4_overloaded 28 = .ok (.iload_n 2, 1) := by decide +kernel
theorem dX4_overloaded_29 : decode cX4_overloaded 29 = .ok (.iaload, 1) := by decide +kernel
theorem dX4_overloaded_30 : decode cX4_overloaded 30 = .ok (.if_icmp .le 9, 3) := by decide +kernel
theorem dX4_overloaded_33 : decode cX4_overloaded 33 = .ok (.iload_n 1, 1) := by decide +kernel
theorem dX4_overloaded_34 : decode cX4_overloaded 34 = .ok (.iconst 1, 1) := by decide +kernel
theorem dX4_overloaded_35 : decode cX4_overloaded 35 = .ok (.iload_n 2, 1) := by decide +kernel
theorem dX4_overloaded_36 : decode cX4_overloaded 36 = .ok (.ishl, 1) := by decide +kernel
theorem dX4_overloaded_37 : decode cX4_overloaded 37 = .ok (.ior, 1) := by decide +kernel
theorem dX4_overloaded_38 : decode cX4_overloaded 38 = .ok (.istore_n 1, 1) := by decide +kernel
theorem dX4_overloaded_39 : decode cX4_overloaded 39 = .ok (.iinc 2 1, 3) := by decide +kernel
theorem dX4_overloaded_42 : decode cX4_overloaded 42 = .ok (.goto (-38), 3) := by decide +kernel
theorem dX4_overloaded_45 : decode cX4_overloaded 45 = .ok (.iload_n 1, 1) := by decide +kernel
theorem dX4_overloaded_46 : decode cX4_overloaded 46 = .ok (.aload_n 0, 1) := by decide +kernel
theorem dX4_overloaded_47 : decode cX4_overloaded 47 = .ok (.getfield 47, 3) := by decide +kernel
theorem dX4_overloaded_50 : decode cX4_overloaded 50 = .ok (.iconst (-1), 1) := by decide +kernel
theorem dX4_overloaded_51 : decode cX4_overloaded 51 = .ok (.ixor, 1) := by decide +kernel
theorem dX4_overloaded_52 : decode cX4_overloaded 52 = .ok (.iand, 1) := by decide +kernel
theorem dX4_overloaded_53 : decode cX4_overloaded 53 = .ok (.ireturn, 1) := by decide +kernel
theorem dX4_sightsHold_0 : decode cX4_sightsHold 0 = .ok (.iconst 0, 1) := by decide +kernel
theorem dX4_sightsHold_1 : decode cX4_sightsHold 1 = .ok (.istore_n 2, 1) := by decide +kernel
theorem dX4_sightsHold_2 : decode cX4_sightsHold 2 = .ok (.iload_n 2, 1) := by decide +kernel
theorem dX4_sightsHold_3 : decode cX4_sightsHold 3 = .ok (.aload_n 0, 1) := by decide +kernel
theorem dX4_sightsHold_4 : decode cX4_sightsHold 4 = .ok (.getfield 53, 3) := by decide +kernel
theorem dX4_sightsHold_7 : decode cX4_sightsHold 7 = .ok (.if_icmp .ge 46, 3) := by decide +kernel
theorem dX4_sightsHold_10 : decode cX4_sightsHold 10 = .ok (.iload_n 2, 1) := by decide +kernel
theorem dX4_sightsHold_11 : decode cX4_sightsHold 11 = .ok (.bipush 8, 2) := by decide +kernel
theorem dX4_sightsHold_13 : decode cX4_sightsHold 13 = .ok (.if_icmp .ge 40, 3) := by decide +kernel
theorem dX4_sightsHold_16 : decode cX4_sightsHold 16 = .ok (.aload_n 0, 1) := by decide +kernel
theorem dX4_sightsHold_17 : decode cX4_sightsHold 17 = .ok (.getfield 27, 3) := by decide +kernel
theorem dX4_sightsHold_20 : decode cX4_sightsHold 20 = .ok (.iload_n 2, 1) := by decide +kernel
theorem dX4_sightsHold_21 : decode cX4_sightsHold 21 = .ok (.iaload, 1) := by decide +kernel
theorem dX4_sightsHold_22 : decode cX4_sightsHold 22 = .ok (.istore_n 3, 1) := by decide +kernel
theorem dX4_sightsHold_23 : decode cX4_sightsHold 23 = .ok (.iload_n 3, 1) := by decide +kernel
theorem dX4_sightsHold_24 : decode cX4_sightsHold 24 = .ok (.ifCond .lt 21, 3) := by decide +kernel
theorem dX4_sightsHold_27 : decode cX4_sightsHold 27 = .ok (.iload_n 3, 1) := by decide +kernel
theorem dX4_sightsHold_28 : decode cX4_sightsHold 28 = .ok (.aload_n 1, 1) := by decide +kernel
theorem dX4_sightsHold_29 : decode cX4_sightsHold 29 = .ok (.arraylength, 1) := by decide +kernel
theorem dX4_sightsHold_30 : decode cX4_sightsHold 30 = .ok (.if_icmp .ge 15, 3) := by decide +kernel
theorem dX4_sightsHold_33 : decode cX4_sightsHold 33 = .ok (.aload_n 1, 1) := by decide +kernel
theorem dX4_sightsHold_34 : decode cX4_sightsHold 34 = .ok (.iload_n 3, 1) := by decide +kernel
theorem dX4_sightsHold_35 : decode cX4_sightsHold 35 = .ok (.iaload, 1) := by decide +kernel
theorem dX4_sightsHold_36 : decode cX4_sightsHold 36 = .ok (.aload_n 0, 1) := by decide +kernel
theorem dX4_sightsHold_37 : decode cX4_sightsHold 37 = .ok (.getfield 30, 3) := by decide +kernel
theorem dX4_sightsHold_40 : decode cX4_sightsHold 40 = .ok (.iload_n 2, 1) := by decide +kernel
theorem dX4_sightsHold_41 : decode cX4_sightsHold 41 = .ok (.iaload, 1) := by decide +kernel
theorem dX4_sightsHold_42 : decode cX4_sightsHold 42 = .ok (.if_icmp .eq 5, 3) := by decide +kernel
theorem dX4_sightsHold_45 : decode cX4_sightsHold 45 = .ok (.iconst 0, 1) := by decide +kernel
theorem dX4_sightsHold_46 : decode cX4_sightsHold 46 = .ok (.ireturn, 1) := by decide +kernel
theorem dX4_sightsHold_47 : decode cX4_sightsHold 47 = .ok (.iinc 2 1, 3) := by decide +kernel
theorem dX4_sightsHold_50 : decode cX4_sightsHold 50 = .ok (.goto (-48), 3) := by decide +kernel
theorem dX4_sightsHold_53 : decode cX4_sightsHold 53 = .ok (.iconst 1, 1) := by decide +kernel
theorem dX4_sightsHold_54 : decode cX4_sightsHold 54 = .ok (.ireturn, 1) := by decide +kernel
theorem dX4_speak_0 : decode cX4_speak 0 = .ok (.iload_n 1, 1) := by decide +kernel
theorem dX4_speak_1 : decode cX4_speak 1 = .ok (.tableswitch 113 0 5 #[39, 39, 49, 63, 88, 102], 39) := by decide +kernel
theorem dX4_speak_40 : decode cX4_speak 40 = .ok (.aload_n 0, 1) := by decide +kernel
theorem dX4_speak_41 : decode cX4_speak 41 = .ok (.iload_n 1, 1) := by decide +kernel
theorem dX4_speak_42 : decode cX4_speak 42 = .ok (.iload_n 2, 1) := by decide +kernel
theorem dX4_speak_43 : decode cX4_speak 43 = .ok (.iload_n 3, 1) := by decide +kernel
theorem dX4_speak_44 : decode cX4_speak 44 = .ok (.invokevirtual 82, 3) := by decide +kernel
theorem dX4_speak_47 : decode cX4_speak 47 = .ok (.goto 67, 3) := by decide +kernel
theorem dX4_speak_50 : decode cX4_speak 50 = .ok (.aload_n 0, 1) := by decide +kernel
theorem dX4_speak_51 : decode cX4_speak 51 = .ok (.iload_n 2, 1) := by decide +kernel
theorem dX4_speak_52 : decode cX4_speak 52 = .ok (.aload_n 0, 1) := by decide +kernel
theorem dX4_speak_53 : decode cX4_speak 53 = .ok (.getfield 18, 3) := by decide +kernel
theorem dX4_speak_56 : decode cX4_speak 56 = .ok (.iconst 3, 1) := by decide +kernel
theorem dX4_speak_57 : decode cX4_speak 57 = .ok (.iaload, 1) := by decide +kernel
theorem dX4_speak_58 : decode cX4_speak 58 = .ok (.invokevirtual 86, 3) := by decide +kernel
theorem dX4_speak_61 : decode cX4_speak 61 = .ok (.goto 53, 3) := by decide +kernel
theorem dX4_speak_64 : decode cX4_speak 64 = .ok (.aload_n 0, 1) := by decide +kernel
theorem dX4_speak_65 : decode cX4_speak 65 = .ok (.iload_n 2, 1) := by decide +kernel
theorem dX4_speak_66 : decode cX4_speak 66 = .ok (.iconst 2, 1) := by decide +kernel
theorem dX4_speak_67 : decode cX4_speak 67 = .ok (.invokevirtual 86, 3) := by decide +kernel
theorem dX4_speak_70 : decode cX4_speak 70 = .ok (.aload_n 0, 1) := by decide +kernel
theorem dX4_speak_71 : decode cX4_speak 71 = .ok (.iload_n 2, 1) := by decide +kernel
theorem dX4_speak_72 : decode cX4_speak 72 = .ok (.iconst 1, 1) := by decide +kernel
theorem dX4_speak_73 : decode cX4_speak 73 = .ok (.isub, 1) := by decide +kernel
theorem dX4_speak_74 : decode cX4_speak 74 = .ok (.iconst 1, 1) := by decide +kernel
theorem dX4_speak_75 : decode cX4_speak 75 = .ok (.invokevirtual 86, 3) := by decide +kernel
theorem dX4_speak_78 : decode cX4_speak 78 = .ok (.aload_n 0, 1) := by decide +kernel
theorem dX4_speak_79 : decode cX4_speak 79 = .ok (.iload_n 2, 1) := by decide +kernel
theorem dX4_speak_80 : decode cX4_speak 80 = .ok (.iconst 1, 1) := by decide +kernel
theorem dX4_speak_81 : decode cX4_speak 81 = .ok (.iadd, 1) := by decide +kernel
theorem dX4_speak_82 : decode cX4_speak 82 = .ok (.iconst 1, 1) := by decide +kernel
theorem dX4_speak_83 : decode cX4_speak 83 = .ok (.invokevirtual 86, 3) := by decide +kernel
theorem dX4_speak_86 : decode cX4_speak 86 = .ok (.goto 28, 3) := by decide +kernel
theorem dX4_speak_89 : decode cX4_speak 89 = .ok (.aload_n 0, 1) := by decide +kernel
theorem dX4_speak_90 : decode cX4_speak 90 = .ok (.getfield 9, 3) := by decide +kernel
theorem dX4_speak_93 : decode cX4_speak 93 = .ok (.aload_n 0, 1) := by decide +kernel
theorem dX4_speak_94 : decode cX4_speak 94 = .ok (.getfield 37, 3) := by decide +kernel
theorem dX4_speak_97 : decode cX4_speak 97 = .ok (.invokestatic 90, 3) := by decide +kernel
theorem dX4_speak_100 : decode cX4_speak 100 = .ok (.goto 14, 3) := by decide +kernel
theorem dX4_speak_103 : decode cX4_speak 103 = .ok (.aload_n 0, 1) := by decide +kernel
theorem dX4_speak_104 : decode cX4_speak 104 = .ok (.invokevirtual 93, 3) := by decide +kernel
theorem dX4_speak_107 : decode cX4_speak 107 = .ok (.aload_n 0, 1) := by decide +kernel
theorem dX4_speak_108 : decode cX4_speak 108 = .ok (.invokevirtual 59, 3) := by decide +kernel
theorem dX4_speak_111 : decode cX4_speak 111 = .ok (.goto 3, 3) := by decide +kernel
theorem dX4_speak_114 : decode cX4_speak 114 = .ok (.return_, 1) := by decide +kernel
theorem dX4_tell_0 : decode cX4_tell 0 = .ok (.aload_n 0, 1) := by decide +kernel
theorem dX4_tell_1 : decode cX4_tell 1 = .ok (.iload_n 1, 1) := by decide +kernel
theorem dX4_tell_2 : decode cX4_tell 2 = .ok (.iload_n 2, 1) := by decide +kernel
theorem dX4_tell_3 : decode cX4_tell 3 = .ok (.iload_n 3, 1) := by decide +kernel
theorem dX4_tell_4 : decode cX4_tell 4 = .ok (.invokevirtual 105, 3) := by decide +kernel
theorem dX4_tell_7 : decode cX4_tell 7 = .ok (.istore 4, 2) := by decide +kernel
theorem dX4_tell_9 : decode cX4_tell 9 = .ok (.iload 4, 2) := by decide +kernel
theorem dX4_tell_11 : decode cX4_tell 11 = .ok (.ifCond .ne 23, 3) := by decide +kernel
theorem dX4_tell_14 : decode cX4_tell 14 = .ok (.aload_n 0, 1) := by decide +kernel
theorem dX4_tell_15 : decode cX4_tell 15 = .ok (.iload_n 1, 1) := by decide +kernel
theorem dX4_tell_16 : decode cX4_tell 16 = .ok (.iload_n 2, 1) := by decide +kernel
theorem dX4_tell_17 : decode cX4_tell 17 = .ok (.iload_n 3, 1) := by decide +kernel
theorem dX4_tell_18 : decode cX4_tell 18 = .ok (.invokevirtual 108, 3) := by decide +kernel
theorem dX4_tell_21 : decode cX4_tell 21 = .ok (.aload_n 0, 1) := by decide +kernel
theorem dX4_tell_22 : decode cX4_tell 22 = .ok (.dup, 1) := by decide +kernel
theorem dX4_tell_23 : decode cX4_tell 23 = .ok (.getfield 47, 3) := by decide +kernel
theorem dX4_tell_26 : decode cX4_tell 26 = .ok (.aload_n 0, 1) := by decide +kernel
theorem dX4_tell_27 : decode cX4_tell 27 = .ok (.invokevirtual 111, 3) := by decide +kernel
theorem dX4_tell_30 : decode cX4_tell 30 = .ok (.ior, 1) := by decide +kernel
theorem dX4_tell_31 : decode cX4_tell 31 = .ok (.putfield 47, 3) := by decide +kernel
theorem dX4_tell_34 : decode cX4_tell 34 = .ok (.iload 4, 2) := by decide +kernel
theorem dX4_tell_36 : decode cX4_tell 36 = .ok (.ireturn, 1) := by decide +kernel
theorem dX4_thaw_0 : decode cX4_thaw 0 = .ok (.iconst 0, 1) := by decide +kernel
theorem dX4_thaw_1 : decode cX4_thaw 1 = .ok (.istore_n 1, 1) := by decide +kernel
theorem dX4_thaw_2 : decode cX4_thaw 2 = .ok (.iload_n 1, 1) := by decide +kernel
theorem dX4_thaw_3 : decode cX4_thaw 3 = .ok (.aload_n 0, 1) := by decide +kernel
theorem dX4_thaw_4 : decode cX4_thaw 4 = .ok (.getfield 37, 3) := by decide +kernel
theorem dX4_thaw_7 : decode cX4_thaw 7 = .ok (.if_icmp .ge 46, 3) := by decide +kernel
theorem dX4_thaw_10 : decode cX4_thaw 10 = .ok (.iload_n 1, 1) := by decide +kernel
theorem dX4_thaw_11 : decode cX4_thaw 11 = .ok (.bipush 8, 2) := by decide +kernel
theorem dX4_thaw_13 : decode cX4_thaw 13 = .ok (.if_icmp .ge 40, 3) := by decide +kernel
theorem dX4_thaw_16 : decode cX4_thaw 16 = .ok (.iconst 3, 1) := by decide +kernel
theorem dX4_thaw_17 : decode cX4_thaw 17 = .ok (.aload_n 0, 1) := by decide +kernel
theorem dX4_thaw_18 : decode cX4_thaw 18 = .ok (.getfield 9, 3) := by decide +kernel
theorem dX4_thaw_21 : decode cX4_thaw 21 = .ok (.iload_n 1, 1) := by decide +kernel
theorem dX4_thaw_22 : decode cX4_thaw 22 = .ok (.iaload, 1) := by decide +kernel
theorem dX4_thaw_23 : decode cX4_thaw 23 = .ok (.invokestatic 102, 3) := by decide +kernel
theorem dX4_thaw_26 : decode cX4_thaw 26 = .ok (.istore_n 2, 1) := by decide +kernel
theorem dX4_thaw_27 : decode cX4_thaw 27 = .ok (.aload_n 0, 1) := by decide +kernel
theorem dX4_thaw_28 : decode cX4_thaw 28 = .ok (.getfield 9, 3) := by decide +kernel
theorem dX4_thaw_31 : decode cX4_thaw 31 = .ok (.iload_n 1, 1) := by decide +kernel
theorem dX4_thaw_32 : decode cX4_thaw 32 = .ok (.dup2, 1) := by decide +kernel
theorem dX4_thaw_33 : decode cX4_thaw 33 = .ok (.iaload, 1) := by decide +kernel
theorem dX4_thaw_34 : decode cX4_thaw 34 = .ok (.iload_n 2, 1) := by decide +kernel
theorem dX4_thaw_35 : decode cX4_thaw 35 = .ok (.isub, 1) := by decide +kernel
theorem dX4_thaw_36 : decode cX4_thaw 36 = .ok (.iastore, 1) := by decide +kernel
theorem dX4_thaw_37 : decode cX4_thaw 37 = .ok (.aload_n 0, 1) := by decide +kernel
theorem dX4_thaw_38 : decode cX4_thaw 38 = .ok (.dup, 1) := by decide +kernel
theorem dX4_thaw_39 : decode cX4_thaw 39 = .ok (.getfield 50, 3) := by decide +kernel
theorem dX4_thaw_42 : decode cX4_thaw 42 = .ok (.iload_n 2, 1) := by decide +kernel
theorem dX4_thaw_43 : decode cX4_thaw 43 = .ok (.iadd, 1) := by decide +kernel
theorem dX4_thaw_44 : decode cX4_thaw 44 = .ok (.putfield 50, 3) := by decide +kernel
theorem dX4_thaw_47 : decode cX4_thaw 47 = .ok (.iinc 1 1, 3) := by decide +kernel
theorem dX4_thaw_50 : decode cX4_thaw 50 = .ok (.goto (-48), 3) := by decide +kernel
theorem dX4_thaw_53 : decode cX4_thaw 53 = .ok (.return_, 1) := by decide +kernel
theorem dX4_weight_0 : decode cX4_weight 0 = .ok (.iload_n 2, 1) := by decide +kernel
theorem dX4_weight_1 : decode cX4_weight 1 = .ok (.ifCond .lt 18, 3) := by decide +kernel
theorem dX4_weight_4 : decode cX4_weight 4 = .ok (.iload_n 2, 1) := by decide +kernel
theorem dX4_weight_5 : decode cX4_weight 5 = .ok (.bipush 8, 2) := by decide +kernel
theorem dX4_weight_7 : decode cX4_weight 7 = .ok (.if_icmp .ge 12, 3) := by decide +kernel
theorem dX4_weight_10 : decode cX4_weight 10 = .ok (.iload_n 1, 1) := by decide +kernel
theorem dX4_weight_11 : decode cX4_weight 11 = .ok (.ifCond .eq 10, 3) := by decide +kernel
theorem dX4_weight_14 : decode cX4_weight 14 = .ok (.iload_n 1, 1) := by decide +kernel
theorem dX4_weight_15 : decode cX4_weight 15 = .ok (.iconst 1, 1) := by decide +kernel
theorem dX4_weight_16 : decode cX4_weight 16 = .ok (.if_icmp .eq 5, 3) := by decide +kernel
theorem dX4_weight_19 : decode cX4_weight 19 = .ok (.iconst 0, 1) := by decide +kernel
theorem dX4_weight_20 : decode cX4_weight 20 = .ok (.ireturn, 1) := by decide +kernel
theorem dX4_weight_21 : decode cX4_weight 21 = .ok (.aload_n 0, 1) := by decide +kernel
theorem dX4_weight_22 : decode cX4_weight 22 = .ok (.getfield 18, 3) := by decide +kernel
theorem dX4_weight_25 : decode cX4_weight 25 = .ok (.iload_n 1, 1) := by decide +kernel
theorem dX4_weight_26 : decode cX4_weight 26 = .ok (.iaload, 1) := by decide +kernel
theorem dX4_weight_27 : decode cX4_weight 27 = .ok (.aload_n 0, 1) := by decide +kernel
theorem dX4_weight_28 : decode cX4_weight 28 = .ok (.getfield 21, 3) := by decide +kernel
theorem dX4_weight_31 : decode cX4_weight 31 = .ok (.iload_n 2, 1) := by decide +kernel
theorem dX4_weight_32 : decode cX4_weight 32 = .ok (.iaload, 1) := by decide +kernel
theorem dX4_weight_33 : decode cX4_weight 33 = .ok (.iload_n 3, 1) := by decide +kernel
theorem dX4_weight_34 : decode cX4_weight 34 = .ok (.ishr, 1) := by decide +kernel
theorem dX4_weight_35 : decode cX4_weight 35 = .ok (.iconst 1, 1) := by decide +kernel
theorem dX4_weight_36 : decode cX4_weight 36 = .ok (.iand, 1) := by decide +kernel
theorem dX4_weight_37 : decode cX4_weight 37 = .ok (.iconst 1, 1) := by decide +kernel
theorem dX4_weight_38 : decode cX4_weight 38 = .ok (.if_icmp .ne 12, 3) := by decide +kernel
theorem dX4_weight_41 : decode cX4_weight 41 = .ok (.aload_n 0, 1) := by decide +kernel
theorem dX4_weight_42 : decode cX4_weight 42 = .ok (.getfield 18, 3) := by decide +kernel
theorem dX4_weight_45 : decode cX4_weight 45 = .ok (.iconst 2, 1) := by decide +kernel
theorem dX4_weight_46 : decode cX4_weight 46 = .ok (.iaload, 1) := by decide +kernel
theorem dX4_weight_47 : decode cX4_weight 47 = .ok (.goto 4, 3) := by decide +kernel
theorem dX4_weight_50 : decode cX4_weight 50 = .ok (.iconst 0, 1) := by decide +kernel
theorem dX4_weight_51 : decode cX4_weight 51 = .ok (.iadd, 1) := by decide +kernel
theorem dX4_weight_52 : decode cX4_weight 52 = .ok (.ireturn, 1) := by decide +kernel
theorem dX5_addWord_0 : decode cX5_addWord 0 = .ok (.aload_n 0, 1) := by decide +kernel
theorem dX5_addWord_1 : decode cX5_addWord 1 = .ok (.getfield 28, 3) := by decide +kernel
theorem dX5_addWord_4 : decode cX5_addWord 4 = .ok (.bipush 60, 2) := by decide +kernel
theorem dX5_addWord_6 : decode cX5_addWord 6 = .ok (.if_icmp .ge 43, 3) := by decide +kernel
theorem dX5_addWord_9 : decode cX5_addWord 9 = .ok (.aload_n 0, 1) := by decide +kernel
theorem dX5_addWord_10 : decode cX5_addWord 10 = .ok (.getfield 15, 3) := by decide +kernel
theorem dX5_addWord_13 : decode cX5_addWord 13 = .ok (.aload_n 0, 1) := by decide +kernel
theorem dX5_addWord_14 : decode cX5_addWord 14 = .ok (.getfield 28, 3) := by decide +kernel
theorem dX5_addWord_17 : decode cX5_addWord 17 = .ok (.iload_n 1, 1) := by decide +kernel
theorem dX5_addWord_18 : decode cX5_addWord 18 = .ok (.iastore, 1) := by decide +kernel
theorem dX5_addWord_19 : decode cX5_addWord 19 = .ok (.aload_n 0, 1) := by decide +kernel
theorem dX5_addWord_20 : decode cX5_addWord 20 = .ok (.getfield 18, 3) := by decide +kernel
theorem dX5_addWord_23 : decode cX5_addWord 23 = .ok (.aload_n 0, 1) := by decide +kernel
theorem dX5_addWord_24 : decode cX5_addWord 24 = .ok (.getfield 28, 3) := by decide +kernel
theorem dX5_addWord_27 : decode cX5_addWord 27 = .ok (.iload_n 2, 1) := by decide +kernel
theorem dX5_addWord_28 : decode cX5_addWord 28 = .ok (.iastore, 1) := by decide +kernel
theorem dX5_addWord_29 : decode cX5_addWord 29 = .ok (.aload_n 0, 1) := by decide +kernel
theorem dX5_addWord_30 : decode cX5_addWord 30 = .ok (.getfield 21, 3) := by decide +kernel
theorem dX5_addWord_33 : decode cX5_addWord 33 = .ok (.aload_n 0, 1) := by decide +kernel
theorem dX5_addWord_34 : decode cX5_addWord 34 = .ok (.getfield 28, 3) := by decide +kernel
theorem dX5_addWord_37 : decode cX5_addWord 37 = .ok (.iload_n 3, 1) := by decide +kernel
theorem dX5_addWord_38 : decode cX5_addWord 38 = .ok (.iastore, 1) := by decide +kernel
theorem dX5_addWord_39 : decode cX5_addWord 39 = .ok (.aload_n 0, 1) := by decide +kernel
theorem dX5_addWord_40 : decode cX5_addWord 40 = .ok (.dup, 1) := by decide +kernel
theorem dX5_addWord_41 : decode cX5_addWord 41 = .ok (.getfield 28, 3) := by decide +kernel
theorem dX5_addWord_44 : decode cX5_addWord 44 = .ok (.iconst 1, 1) := by decide +kernel
theorem dX5_addWord_45 : decode cX5_addWord 45 = .ok (.iadd, 1) := by decide +kernel
theorem dX5_addWord_46 : decode cX5_addWord 46 = .ok (.putfield 28, 3) := by decide +kernel
theorem dX5_addWord_49 : decode cX5_addWord 49 = .ok (.iload 4, 2) := by decide +kernel
theorem dX5_addWord_51 : decode cX5_addWord 51 = .ok (.ireturn, 1) := by decide +kernel
theorem dX5_fitsLaw_0 : decode cX5_fitsLaw 0 = .ok (.aload_n 1, 1) := by decide +kernel
theorem dX5_fitsLaw_1 : decode cX5_fitsLaw 1 = .ok (.invokevirtual 65, 3) := by decide +kernel
theorem dX5_fitsLaw_4 : decode cX5_fitsLaw 4 = .ok (.aload_n 1, 1) := by decide +kernel
theorem dX5_fitsLaw_5 : decode cX5_fitsLaw 5 = .ok (.getfield 68, 3) := by decide +kernel
theorem dX5_fitsLaw_8 : decode cX5_fitsLaw 8 = .ok (.iconst 0, 1) := by decide +kernel
theorem dX5_fitsLaw_9 : decode cX5_fitsLaw 9 = .ok (.iload_n 2, 1) := by decide +kernel
theorem dX5_fitsLaw_10 : decode cX5_fitsLaw 10 = .ok (.iastore, 1) := by decide +kernel
theorem dX5_fitsLaw_11 : decode cX5_fitsLaw 11 = .ok (.aload_n 1, 1) := by decide +kernel
theorem dX5_fitsLaw_12 : decode cX5_fitsLaw 12 = .ok (.getfield 68, 3) := by decide +kernel
theorem dX5_fitsLaw_15 : decode cX5_fitsLaw 15 = .ok (.iconst 1, 1) := by decide +kernel
theorem dX5_fitsLaw_16 : decode cX5_fitsLaw 16 = .ok (.iload_n 3, 1) := by decide +kernel
theorem dX5_fitsLaw_17 : decode cX5_fitsLaw 17 = .ok (.iastore, 1) := by decide +kernel
theorem dX5_fitsLaw_18 : decode cX5_fitsLaw 18 = .ok (.aload_n 1, 1) := by decide +kernel
theorem dX5_fitsLaw_19 : decode cX5_fitsLaw 19 = .ok (.getfield 68, 3) := by decide +kernel
theorem dX5_fitsLaw_22 : decode cX5_fitsLaw 22 = .ok (.iconst 2, 1) := by decide +kernel
theorem dX5_fitsLaw_23 : decode cX5_fitsLaw 23 = .ok (.iload 4, 2) := by decide +kernel
theorem dX5_fitsLaw_25 : decode cX5_fitsLaw 25 = .ok (.iastore, 1) := by decide +kernel
theorem dX5_fitsLaw_26 : decode cX5_fitsLaw 26 = .ok (.iconst 0, 1) := by decide +kernel
theorem dX5_fitsLaw_27 : decode cX5_fitsLaw 27 = .ok (.istore 5, 2) := by decide +kernel
theorem dX5_fitsLaw_29 : decode cX5_fitsLaw 29 = .ok (.iload 5, 2) := by decide +kernel
theorem dX5_fitsLaw_31 : decode cX5_fitsLaw 31 = .ok (.aload_n 0, 1) := by decide +kernel
theorem dX5_fitsLaw_32 : decode cX5_fitsLaw 32 = .ok (.getfield 28, 3) := by decide +kernel
theorem dX5_fitsLaw_35 : decode cX5_fitsLaw 35 = .ok (.if_icmp .ge 41, 3) := by decide +kernel
theorem dX5_fitsLaw_38 : decode cX5_fitsLaw 38 = .ok (.iload 5, 2) := by decide +kernel
theorem dX5_fitsLaw_40 : decode cX5_fitsLaw 40 = .ok (.bipush 60, 2) := by decide +kernel
theorem dX5_fitsLaw_42 : decode cX5_fitsLaw 42 = .ok (.if_icmp .ge 34, 3) := by decide +kernel
theorem dX5_fitsLaw_45 : decode cX5_fitsLaw 45 = .ok (.aload_n 1, 1) := by decide +kernel
theorem dX5_fitsLaw_46 : decode cX5_fitsLaw 46 = .ok (.aload_n 0, 1) := by decide +kernel
theorem dX5_fitsLaw_47 : decode cX5_fitsLaw 47 = .ok (.getfield 15, 3) := by decide +kernel
theorem dX5_fitsLaw_50 : decode cX5_fitsLaw 50 = .ok (.iload 5, 2) := by decide +kernel
theorem dX5_fitsLaw_52 : decode cX5_fitsLaw 52 = .ok (.iaload, 1) := by decide +kernel
theorem dX5_fitsLaw_53 : decode cX5_fitsLaw 53 = .ok (.aload_n 0, 1) := by decide +kernel
theorem dX5_fitsLaw_54 : decode cX5_fitsLaw 54 = .ok (.getfield 18, 3) := by decide +kernel
theorem dX5_fitsLaw_57 : decode cX5_fitsLaw 57 = .ok (.iload 5, 2) := by decide +kernel
theorem dX5_fitsLaw_59 : decode cX5_fitsLaw 59 = .ok (.iaload, 1) := by decide +kernel
theorem dX5_fitsLaw_60 : decode cX5_fitsLaw 60 = .ok (.aload_n 0, 1) := by decide +kernel
theorem dX5_fitsLaw_61 : decode cX5_fitsLaw 61 = .ok (.getfield 21, 3) := by decide +kernel
theorem dX5_fitsLaw_64 : decode cX5_fitsLaw 64 = .ok (.iload 5, 2) := by decide +kernel
theorem dX5_fitsLaw_66 : decode cX5_fitsLaw 66 = .ok (.iaload, 1) := by decide +kernel
theorem dX5_fitsLaw_67 : decode cX5_fitsLaw 67 = .ok (.invokevirtual 71, 3) := by decide +kernel
theorem dX5_fitsLaw_70 : decode cX5_fitsLaw 70 = .ok (.iinc 5 1, 3) := by decide +kernel
theorem dX5_fitsLaw_73 : decode cX5_fitsLaw 73 = .ok (.goto (-44), 3) := by decide +kernel
theorem dX5_fitsLaw_76 : decode cX5_fitsLaw 76 = .ok (.aload_n 1, 1) := by decide +kernel
theorem dX5_fitsLaw_77 : decode cX5_fitsLaw 77 = .ok (.aload_n 1, 1) := by decide +kernel
theorem dX5_fitsLaw_78 : decode cX5_fitsLaw 78 = .ok (.getfield 75, 3) := by decide +kernel
theorem dX5_fitsLaw_81 : decode cX5_fitsLaw 81 = .ok (.invokevirtual 78, 3) := by decide +kernel
theorem dX5_fitsLaw_84 : decode cX5_fitsLaw 84 = .ok (.ireturn, 1) := by decide +kernel
theorem dX5_holdOn_0 : decode cX5_holdOn 0 = .ok (.aload_n 0, 1) := by decide +kernel
theorem dX5_holdOn_1 : decode cX5_holdOn 1 = .ok (.bipush (-6), 2) := by decide +kernel
theorem dX5_holdOn_3 : decode cX5_holdOn 3 = .ok (.putfield 31, 3) := by decide +kernel
theorem dX5_holdOn_6 : decode cX5_holdOn 6 = .ok (.aload_n 0, 1) := by decide +kernel
theorem dX5_holdOn_7 : decode cX5_holdOn 7 = .ok (.bipush (-6), 2) := by decide +kernel
theorem dX5_holdOn_9 : decode cX5_holdOn 9 = .ok (.putfield 34, 3) := by decide +kernel
theorem dX5_holdOn_12 : decode cX5_holdOn 12 = .ok (.iconst 0, 1) := by decide +kernel
theorem dX5_holdOn_13 : decode cX5_holdOn 13 = .ok (.istore_n 2, 1) := by decide +kernel
theorem dX5_holdOn_14 : decode cX5_holdOn 14 = .ok (.iload_n 2, 1) := by decide +kernel
theorem dX5_holdOn_15 : decode cX5_holdOn 15 = .ok (.aload_n 0, 1) := by decide +kernel
theorem dX5_holdOn_16 : decode cX5_holdOn 16 = .ok (.getfield 28, 3) := by decide +kernel
theorem dX5_holdOn_19 : decode cX5_holdOn 19 = .ok (.if_icmp .ge 79, 3) := by decide +kernel
theorem dX5_holdOn_22 : decode cX5_holdOn 22 = .ok (.iload_n 2, 1) := by decide +kernel
theorem dX5_holdOn_23 : decode cX5_holdOn 23 = .ok (.bipush 60, 2) := by decide +kernel
theorem dX5_holdOn_25 : decode cX5_holdOn 25 = .ok (.if_icmp .ge 73, 3) := by decide +kernel
theorem dX5_holdOn_28 : decode cX5_holdOn 28 = .ok (.aload_n 1, 1) := by decide +kernel
theorem dX5_holdOn_29 : decode cX5_holdOn 29 = .ok (.getfield 52, 3) := by decide +kernel
theorem dX5_holdOn_32 : decode cX5_holdOn 32 = .ok (.istore_n 3, 1) := by decide +kernel
theorem dX5_holdOn_33 : decode cX5_holdOn 33 = .ok (.aload_n 1, 1) := by decide +kernel
theorem dX5_holdOn_34 : decode cX5_holdOn 34 = .ok (.aload_n 0, 1) := by decide +kernel
theorem dX5_holdOn_35 : decode cX5_holdOn 35 = .ok (.getfield 15, 3) := by decide +kernel
theorem dX5_holdOn_38 : decode cX5_holdOn 38 = .ok (.iload_n 2, 1) := by decide +kernel
theorem dX5_holdOn_39 : decode cX5_holdOn 39 = .ok (.iaload, 1) := by decide +kernel
theorem dX5_holdOn_40 : decode cX5_holdOn 40 = .ok (.aload_n 0, 1) := by decide +kernel
theorem dX5_holdOn_41 : decode cX5_holdOn 41 = .ok (.getfield 18, 3) := by decide +kernel
theorem dX5_holdOn_44 : decode cX5_holdOn 44 = .ok (.iload_n 2, 1) := by decide +kernel
theorem dX5_holdOn_45 : decode cX5_holdOn 45 = .ok (.iaload, 1) := by decide +kernel
theorem dX5_holdOn_46 : decode cX5_holdOn 46 = .ok (.aload_n 0, 1) := by decide +kernel
theorem dX5_holdOn_47 : decode cX5_holdOn 47 = .ok (.getfield 21, 3) := by decide +kernel
theorem dX5_holdOn_50 : decode cX5_holdOn 50 = .ok (.iload_n 2, 1) := by decide +kernel
theorem dX5_holdOn_51 : decode cX5_holdOn 51 = .ok (.iaload, 1) := by decide +kernel
theorem dX5_holdOn_52 : decode cX5_holdOn 52 = .ok (.invokevirtual 57, 3) := by decide +kernel
theorem dX5_holdOn_55 : decode cX5_holdOn 55 = .ok (.istore 4, 2) := by decide +kernel
theorem dX5_holdOn_57 : decode cX5_holdOn 57 = .ok (.iload 4, 2) := by decide +kernel
theorem dX5_holdOn_59 : decode cX5_holdOn 59 = .ok (.ifCond .eq 11, 3) := by decide +kernel
theorem dX5_holdOn_62 : decode cX5_holdOn 62 = .ok (.aload_n 0, 1) := by decide +kernel
theorem dX5_holdOn_63 : decode cX5_holdOn 63 = .ok (.iload 4, 2) := by decide +kernel
theorem dX5_holdOn_65 : decode cX5_holdOn 65 = .ok (.putfield 31, 3) := by decide +kernel
theorem dX5_holdOn_68 : decode cX5_holdOn 68 = .ok (.iload_n 2, 1) := by decide +kernel
theorem dX5_holdOn_69 : decode cX5_holdOn 69 = .ok (.ireturn, 1) := by decide +kernel
theorem dX5_holdOn_70 : decode cX5_holdOn 70 = .ok (.aload_n 0, 1) := by decide +kernel
theorem dX5_holdOn_71 : decode cX5_holdOn 71 = .ok (.getfield 34, 3) := by decide +kernel
theorem dX5_holdOn_74 : decode cX5_holdOn 74 = .ok (.bipush (-6), 2) := by decide +kernel
theorem dX5_holdOn_76 : decode cX5_holdOn 76 = .ok (.if_icmp .ne 16, 3) := by decide +kernel
theorem dX5_holdOn_79 : decode cX5_holdOn 79 = .ok (.aload_n 1, 1) := by decide +kernel
theorem dX5_holdOn_80 : decode cX5_holdOn 80 = .ok (.getfield 52, 3) := by decide +kernel
theorem dX5_holdOn_83 : decode cX5_holdOn 83 = .ok (.iload_n 3, 1) := by decide +kernel
theorem dX5_holdOn_84 : decode cX5_holdOn 84 = .ok (.if_icmp .eq 8, 3) := by decide +kernel
theorem dX5_holdOn_87 : decode cX5_holdOn 87 = .ok (.aload_n 0, 1) := by decide +kernel
theorem dX5_holdOn_88 : decode cX5_holdOn 88 = .ok (.iload_n 2, 1) := by decide +kernel
theorem dX5_holdOn_89 : decode cX5_holdOn 89 = .ok (.putfield 34, 3) := by decide +kernel
theorem dX5_holdOn_92 : decode cX5_holdOn 92 = .ok (.iinc 2 1, 3) := by decide +kernel
theorem dX5_holdOn_95 : decode cX5_holdOn 95 = .ok (.goto (-81), 3) := by decide +kernel
theorem dX5_holdOn_98 : decode cX5_holdOn 98 = .ok (.bipush (-6), 2) := by decide +kernel
theorem dX5_holdOn_100 : decode cX5_holdOn 100 = .ok (.ireturn, 1) := by decide +kernel
theorem dX5_init_0 : decode cX5_init 0 = .ok (.aload_n 0, 1) := by decide +kernel
theorem dX5_init_1 : decode cX5_init 1 = .ok (.invokespecial 3, 3) := by decide +kernel
theorem dX5_init_4 : decode cX5_init 4 = .ok (.aload_n 0, 1) := by decide +kernel
theorem dX5_init_5 : decode cX5_init 5 = .ok (.bipush 60, 2) := by decide +kernel
theorem dX5_init_7 : decode cX5_init 7 = .ok (.newarray .int, 2) := by decide +kernel
theorem dX5_init_9 : decode cX5_init 9 = .ok (.putfield 9, 3) := by decide +kernel
theorem dX5_init_12 : decode cX5_init 12 = .ok (.aload_n 0, 1) := by decide +kernel
theorem dX5_init_13 : decode cX5_init 13 = .ok (.bipush 60, 2) := by decide +kernel
theorem dX5_init_15 : decode cX5_init 15 = .ok (.newarray .int, 2) := by decide +kernel
theorem dX5_init_17 : decode cX5_init 17 = .ok (.putfield 15, 3) := by decide +kernel
theorem dX5_init_20 : decode cX5_init 20 = .ok (.aload_n 0, 1) := by decide +kernel
theorem dX5_init_21 : decode cX5_init 21 = .ok (.bipush 60, 2) := by decide +kernel
theorem dX5_init_23 : decode cX5_init 23 = .ok (.newarray .int, 2) := by decide +kernel
theorem dX5_init_25 : decode cX5_init 25 = .ok (.putfield 18, 3) := by decide +kernel
theorem dX5_init_28 : decode cX5_init 28 = .ok (.aload_n 0, 1) := by decide +kernel
theorem dX5_init_29 : decode cX5_init 29 = .ok (.bipush 60, 2) := by decide +kernel
theorem dX5_init_31 : decode cX5_init 31 = .ok (.newarray .int, 2) := by decide +kernel
theorem dX5_init_33 : decode cX5_init 33 = .ok (.putfield 21, 3) := by decide +kernel
theorem dX5_init_36 : decode cX5_init 36 = .ok (.aload_n 0, 1) := by decide +kernel
theorem dX5_init_37 : decode cX5_init 37 = .ok (.iconst 0, 1) := by decide +kernel
theorem dX5_init_38 : decode cX5_init 38 = .ok (.putfield 24, 3) := by decide +kernel
theorem dX5_init_41 : decode cX5_init 41 = .ok (.aload_n 0, 1) := by decide +kernel
theorem dX5_init_42 : decode cX5_init 42 = .ok (.iconst 0, 1) := by decide +kernel
theorem dX5_init_43 : decode cX5_init 43 = .ok (.putfield 28, 3) := by decide +kernel
theorem dX5_init_46 : decode cX5_init 46 = .ok (.aload_n 0, 1) := by decide +kernel
theorem dX5_init_47 : decode cX5_init 47 = .ok (.bipush (-6), 2) := by decide +kernel
theorem dX5_init_49 : decode cX5_init 49 = .ok (.putfield 31, 3) := by decide +kernel
theorem dX5_init_52 : decode cX5_init 52 = .ok (.aload_n 0, 1) := by decide +kernel
theorem dX5_init_53 : decode cX5_init 53 = .ok (.bipush (-6), 2) := by decide +kernel
theorem dX5_init_55 : decode cX5_init 55 = .ok (.putfield 34, 3) := by decide +kernel
theorem dX5_init_58 : decode cX5_init 58 = .ok (.return_, 1) := by decide +kernel
theorem dX5_isOfOthersOnly_0 : decode cX5_isOfOthersOnly 0 = .ok (.iconst 0, 1) := by decide +kernel
theorem dX5_isOfOthersOnly_1 : decode cX5_isOfOthersOnly 1 = .ok (.istore_n 1, 1) := by decide +kernel
theorem dX5_isOfOthersOnly_2 : decode cX5_isOfOthersOnly 2 = .ok (.iload_n 1, 1) := by decide +kernel
theorem dX5_isOfOthersOnly_3 : decode cX5_isOfOthersOnly 3 = .ok (.aload_n 0, 1) := by decide +kernel
theorem dX5_isOfOthersOnly_4 : decode cX5_isOfOthersOnly 4 = .ok (.getfield 28, 3) := by decide +kernel
theorem dX5_isOfOthersOnly_7 : decode cX5_isOfOthersOnly 7 = .ok (.if_icmp .ge 46, 3) := by decide +kernel
theorem dX5_isOfOthersOnly_10 : decode cX5_isOfOthersOnly 10 = .ok (.iload_n 1, 1) := by decide +kernel
theorem dX5_isOfOthersOnly_11 : decode cX5_isOfOthersOnly 11 = .ok (.bipush 60, 2) := by decide +kernel
theorem dX5_isOfOthersOnly_13 : decode cX5_isOfOthersOnly 13 = .ok (.if_icmp .ge 40, 3) := by decide +kernel
theorem dX5_isOfOthersOnly_16 : decode cX5_isOfOthersOnly 16 = .ok (.aload_n 0, 1) := by decide +kernel
theorem dX5_isOfOthersOnly_17 : decode cX5_isOfOthersOnly 17 = .ok (.getfield 15, 3) := by decide +kernel
theorem dX5_isOfOthersOnly_20 : decode cX5_isOfOthersOnly 20 = .ok (.iload_n 1, 1) := by decide +kernel
theorem dX5_isOfOthersOnly_21 : decode cX5_isOfOthersOnly 21 = .ok (.iaload, 1) := by decide +kernel
theorem dX5_isOfOthersOnly_22 : decode cX5_isOfOthersOnly 22 = .ok (.iconst 0, 1) := by decide +kernel
theorem dX5_isOfOthersOnly_23 : decode cX5_isOfOthersOnly 23 = .ok (.iconst 1, 1) := by decide +kernel
theorem dX5_isOfOthersOnly_24 : decode cX5_isOfOthersOnly 24 = .ok (.invokestatic 61, 3) := by decide +kernel
theorem dX5_isOfOthersOnly_27 : decode cX5_isOfOthersOnly 27 = .ok (.ifCond .ne 18, 3) := by decide +kernel
theorem dX5_isOfOthersOnly_30 : decode cX5_isOfOthersOnly 30 = .ok (.aload_n 0, 1) := by decide +kernel
theorem dX5_isOfOthersOnly_31 : decode cX5_isOfOthersOnly 31 = .ok (.getfield 18, 3) := by decide +kernel
theorem dX5_isOfOthersOnly_34 : decode cX5_isOfOthersOnly 34 = .ok (.iload_n 1, 1) := by decide +kernel
theorem dX5_isOfOthersOnly_35 : decode cX5_isOfOthersOnly 35 = .ok (.iaload, 1) := by decide +kernel
theorem dX5_isOfOthersOnly_36 : decode cX5_isOfOthersOnly 36 = .ok (.aload_n 0, 1) := by decide +kernel
theorem dX5_isOfOthersOnly_37 : decode cX5_isOfOthersOnly 37 = .ok (.getfield 21, 3) := by decide +kernel
theorem dX5_isOfOthersOnly_40 : decode cX5_isOfOthersOnly 40 = .ok (.iload_n 1, 1) := by decide +kernel
theorem dX5_isOfOthersOnly_41 : decode cX5_isOfOthersOnly 41 = .ok (.iaload, 1) := by decide +kernel
theorem dX5_isOfOthersOnly_42 : decode cX5_isOfOthersOnly 42 = .ok (.if_icmp .ne 5, 3) := by decide +kernel
theorem dX5_isOfOthersOnly_45 : decode cX5_isOfOthersOnly 45 = .ok (.iconst 0, 1) := by decide +kernel
theorem dX5_isOfOthersOnly_46 : decode cX5_isOfOthersOnly 46 = .ok (.ireturn, 1) := by decide +kernel
theorem dX5_isOfOthersOnly_47 : decode cX5_isOfOthersOnly 47 = .ok (.iinc 1 1, 3) := by decide +kernel
theorem dX5_isOfOthersOnly_50 : decode cX5_isOfOthersOnly 50 = .ok (.goto (-48), 3) := by decide +kernel
theorem dX5_isOfOthersOnly_53 : decode cX5_isOfOthersOnly 53 = .ok (.iconst 1, 1) := by decide +kernel
theorem dX5_isOfOthersOnly_54 : decode cX5_isOfOthersOnly 54 = .ok (.ireturn, 1) := by decide +kernel
theorem dX5_kindOf_0 : decode cX5_kindOf 0 = .ok (.iload_n 0, 1) := by decide +kernel
theorem dX5_kindOf_1 : decode cX5_kindOf 1 = .ok (.lookupswitch 41 #[(43, 39), (108, 37), (116, 35)], 35) := by decide +kernel
theorem dX5_kindOf_36 : decode cX5_kindOf 36 = .ok (.iconst 0, 1) := by decide +kernel
theorem dX5_kindOf_37 : decode cX5_kindOf 37 = .ok (.ireturn, 1) := by decide +kernel
theorem dX5_kindOf_38 : decode cX5_kindOf 38 = .ok (.iconst 1, 1) := by decide +kernel
theorem dX5_kindOf_39 : decode cX5_kindOf 39 = .ok (.ireturn, 1) := by decide +kernel
theorem dX5_kindOf_40 : decode cX5_kindOf 40 = .ok (.iconst 2, 1) := by decide +kernel
theorem dX5_kindOf_41 : decode cX5_kindOf 41 = .ok (.ireturn, 1) := by decide +kernel
theorem dX5_kindOf_42 : decode cX5_kindOf 42 = .ok (.bipush (-6), 2) := by decide +kernel
theorem dX5_kindOf_44 : decode cX5_kindOf 44 = .ok (.ireturn, 1) := by decide +kernel
theorem dX5_read_0 : decode cX5_read 0 = .ok (.aload_n 0, 1) := by decide +kernel
theorem dX5_read_1 : decode cX5_read 1 = .ok (.iconst 0, 1) := by decide +kernel
theorem dX5_read_2 : decode cX5_read 2 = .ok (.putfield 28, 3) := by decide +kernel
theorem dX5_read_5 : decode cX5_read 5 = .ok (.iconst 0, 1) := by decide +kernel
theorem dX5_read_6 : decode cX5_read 6 = .ok (.istore_n 2, 1) := by decide +kernel
theorem dX5_read_7 : decode cX5_read 7 = .ok (.iconst 0, 1) := by decide +kernel
theorem dX5_read_8 : decode cX5_read 8 = .ok (.istore_n 3, 1) := by decide +kernel
theorem dX5_read_9 : decode cX5_read 9 = .ok (.iload_n 3, 1) := by decide +kernel
theorem dX5_read_10 : decode cX5_read 10 = .ok (.bipush 60, 2) := by decide +kernel
theorem dX5_read_12 : decode cX5_read 12 = .ok (.if_icmp .ge 40, 3) := by decide +kernel
theorem dX5_read_15 : decode cX5_read 15 = .ok (.iload_n 2, 1) := by decide +kernel
theorem dX5_read_16 : decode cX5_read 16 = .ok (.aload_n 0, 1) := by decide +kernel
theorem dX5_read_17 : decode cX5_read 17 = .ok (.getfield 24, 3) := by decide +kernel
theorem dX5_read_20 : decode cX5_read 20 = .ok (.if_icmp .ge 32, 3) := by decide +kernel
theorem dX5_read_23 : decode cX5_read 23 = .ok (.aload_n 0, 1) := by decide +kernel
theorem dX5_read_24 : decode cX5_read 24 = .ok (.iload_n 2, 1) := by decide +kernel
theorem dX5_read_25 : decode cX5_read 25 = .ok (.iload_n 1, 1) := by decide +kernel
theorem dX5_read_26 : decode cX5_read 26 = .ok (.invokevirtual 37, 3) := by decide +kernel
theorem dX5_read_29 : decode cX5_read 29 = .ok (.istore 4, 2) := by decide +kernel
theorem dX5_read_31 : decode cX5_read 31 = .ok (.iload 4, 2) := by decide +kernel
theorem dX5_read_33 : decode cX5_read 33 = .ok (.iconst 1, 1) := by decide +kernel
theorem dX5_read_34 : decode cX5_read 34 = .ok (.if_icmp .ge 7, 3) := by decide +kernel
theorem dX5_read_37 : decode cX5_read 37 = .ok (.iload 4, 2) := by decide +kernel
theorem dX5_read_39 : decode cX5_read 39 = .ok (.ineg, 1) := by decide +kernel
theorem dX5_read_40 : decode cX5_read 40 = .ok (.ireturn, 1) := by decide +kernel
theorem dX5_read_41 : decode cX5_read 41 = .ok (.iload_n 2, 1) := by decide +kernel
theorem dX5_read_42 : decode cX5_read 42 = .ok (.iload 4, 2) := by decide +kernel
theorem dX5_read_44 : decode cX5_read 44 = .ok (.iadd, 1) := by decide +kernel
theorem dX5_read_45 : decode cX5_read 45 = .ok (.istore_n 2, 1) := by decide +kernel
theorem dX5_read_46 : decode cX5_read 46 = .ok (.iinc 3 1, 3) := by decide +kernel
theorem dX5_read_49 : decode cX5_read 49 = .ok (.goto (-40), 3) := by decide +kernel
theorem dX5_read_52 : decode cX5_read 52 = .ok (.bipush (-6), 2) := by decide +kernel
theorem dX5_read_54 : decode cX5_read 54 = .ok (.ireturn, 1) := by decide +kernel
theorem dX5_readWord_0 : decode cX5_readWord 0 = .ok (.aload_n 0, 1) := by decide +kernel
theorem dX5_readWord_1 : decode cX5_readWord 1 = .ok (.iload_n 1, 1) := by decide +kernel
theorem dX5_readWord_2 : decode cX5_readWord 2 = .ok (.invokevirtual 41, 3) := by decide +kernel
theorem dX5_readWord_5 : decode cX5_readWord 5 = .ok (.istore_n 3, 1) := by decide +kernel
theorem dX5_readWord_6 : decode cX5_readWord 6 = .ok (.iload_n 3, 1) := by decide +kernel
theorem dX5_readWord_7 : decode cX5_readWord 7 = .ok (.bipush 46, 2) := by decide +kernel
theorem dX5_readWord_9 : decode cX5_readWord 9 = .ok (.if_icmp .eq 9, 3) := by decide +kernel
theorem dX5_readWord_12 : decode cX5_readWord 12 = .ok (.iload_n 3, 1) := by decide +kernel
theorem dX5_readWord_13 : decode cX5_readWord 13 = .ok (.bipush 119, 2) := by decide +kernel
theorem dX5_readWord_15 : decode cX5_readWord 15 = .ok (.if_icmp .ne 22, 3) := by decide +kernel
theorem dX5_readWord_18 : decode cX5_readWord 18 = .ok (.aload_n 0, 1) := by decide +kernel
theorem dX5_readWord_19 : decode cX5_readWord 19 = .ok (.iload_n 3, 1) := by decide +kernel
theorem dX5_readWord_20 : decode cX5_readWord 20 = .ok (.bipush 119, 2) := by decide +kernel
theorem dX5_readWord_22 : decode cX5_readWord 22 = .ok (.if_icmp .ne 7, 3) := by decide +kernel
theorem dX5_readWord_25 : decode cX5_readWord 25 = .ok (.iconst 5, 1) := by decide +kernel
theorem dX5_readWord_26 : decode cX5_readWord 26 = .ok (.goto 4, 3) := by decide +kernel
theorem dX5_readWord_29 : decode cX5_readWord 29 = .ok (.iconst 4, 1) := by decide +kernel
theorem dX5_readWord_30 : decode cX5_readWord 30 = .ok (.iconst 0, 1) := by decide +kernel
theorem dX5_readWord_31 : decode cX5_readWord 31 = .ok (.iconst 0, 1) := by decide +kernel
theorem dX5_readWord_32 : decode cX5_readWord 32 = .ok (.iconst 1, 1) := by decide +kernel
theorem dX5_readWord_33 : decode cX5_readWord 33 = .ok (.invokevirtual 45, 3) := by decide +kernel
theorem dX5_readWord_36 : decode cX5_readWord 36 = .ok (.ireturn, 1) := by decide +kernel
theorem dX5_readWord_37 : decode cX5_readWord 37 = .ok (.iload_n 3, 1) := by decide +kernel
theorem dX5_readWord_38 : decode cX5_readWord 38 = .ok (.bipush 97, 2) := by decide +kernel
theorem dX5_readWord_40 : decode cX5_readWord 40 = .ok (.isub, 1) := by decide +kernel
theorem dX5_readWord_41 : decode cX5_readWord 41 = .ok (.istore 4, 2) := by decide +kernel
theorem dX5_readWord_43 : decode cX5_readWord 43 = .ok (.iload 4, 2) := by decide +kernel
theorem dX5_readWord_45 : decode cX5_readWord 45 = .ok (.ifCond .lt 9, 3) := by decide +kernel
theorem dX5_readWord_48 : decode cX5_readWord 48 = .ok (.iload 4, 2) := by decide +kernel
theorem dX5_readWord_50 : decode cX5_readWord 50 = .ok (.iload_n 2, 1) := by decide +kernel
theorem dX5_readWord_51 : decode cX5_readWord 51 = .ok (.if_icmp .lt 6, 3) := by decide +kernel
theorem dX5_readWord_54 : decode cX5_readWord 54 = .ok (.iload_n 1, 1) := by decide +kernel
theorem dX5_readWord_55 : decode cX5_readWord 55 = .ok (.ineg, 1) := by decide +kernel
theorem dX5_readWord_56 : decode cX5_readWord 56 = .ok (.ireturn, 1) := by decide +kernel
theorem dX5_readWord_57 : decode cX5_readWord 57 = .ok (.aload_n 0, 1) := by decide +kernel
theorem dX5_readWord_58 : decode cX5_readWord 58 = .ok (.iload_n 1, 1) := by decide +kernel
theorem dX5_readWord_59 : decode cX5_readWord 59 = .ok (.iconst 1, 1) := by decide +kernel
theorem dX5_readWord_60 : decode cX5_readWord 60 = .ok (.iadd, 1) := by decide +kernel
theorem dX5_readWord_61 : decode cX5_readWord 61 = .ok (.invokevirtual 41, 3) := by decide +kernel
theorem dX5_readWord_64 : decode cX5_readWord 64 = .ok (.istore 5, 2) := by decide +kernel
theorem dX5_readWord_66 : decode cX5_readWord 66 = .ok (.iload 5, 2) := by decide +kernel
theorem dX5_readWord_68 : decode cX5_readWord 68 = .ok (.bipush 42, 2) := by decide +kernel
theorem dX5_readWord_70 : decode cX5_readWord 70 = .ok (.if_icmp .ne 13, 3) := by decide +kernel
theorem dX5_readWord_73 : decode cX5_readWord 73 = .ok (.aload_n 0, 1) := by decide +kernel
theorem dX5_readWord_74 : decode cX5_readWord 74 = .ok (.iconst 3, 1) := by decide +kernel
theorem dX5_readWord_75 : decode cX5_readWord 75 = .ok (.iload 4, 2) := by decide +kernel
theorem dX5_readWord_77 : decode cX5_readWord 77 = .ok (.iconst 0, 1) := by decide +kernel
theorem dX5_readWord_78 : decode cX5_readWord 78 = .ok (.iconst 2, 1) := by decide +kernel
theorem dX5_readWord_79 : decode cX5_readWord 79 = .ok (.invokevirtual 45, 3) := by decide +kernel
theorem dX5_readWord_82 : decode cX5_readWord 82 = .ok (.ireturn, 1) := by decide +kernel
theorem dX5_readWord_83 : decode cX5_readWord 83 = .ok (.iload 5, 2) := by decide +kernel
theorem dX5_readWord_85 : decode cX5_readWord 85 = .ok (.bipush 65, 2) := by decide +kernel
theorem dX5_readWord_87 : decode cX5_readWord 87 = .ok (.isub, 1) := by decide +kernel
theorem dX5_readWord_88 : decode cX5_readWord 88 = .ok (.istore 6, 2) := by decide +kernel
theorem dX5_readWord_90 : decode cX5_readWord 90 = .ok (.iload 6, 2) := by decide +kernel
theorem dX5_readWord_92 : decode cX5_readWord 92 = .ok (.ifCond .lt 9, 3) := by decide +kernel
theorem dX5_readWord_95 : decode cX5_readWord 95 = .ok (.iload 6, 2) := by decide +kernel
theorem dX5_readWord_97 : decode cX5_readWord 97 = .ok (.iload_n 2, 1) := by decide +kernel
theorem dX5_readWord_98 : decode cX5_readWord 98 = .ok (.if_icmp .lt 8, 3) := by decide +kernel
theorem dX5_readWord_101 : decode cX5_readWord 101 = .ok (.iload_n 1, 1) := by decide +kernel
theorem dX5_readWord_102 : decode cX5_readWord 102 = .ok (.iconst 1, 1) := by decide +kernel
theorem dX5_readWord_103 : decode cX5_readWord 103 = .ok (.iadd, 1) := by decide +kernel
theorem dX5_readWord_104 : decode cX5_readWord 104 = .ok (.ineg, 1) := by decide +kernel
theorem dX5_readWord_105 : decode cX5_readWord 105 = .ok (.ireturn, 1) := by decide +kernel
theorem dX5_readWord_106 : decode cX5_readWord 106 = .ok (.aload_n 0, 1) := by decide +kernel
theorem dX5_readWord_107 : decode cX5_readWord 107 = .ok (.iload_n 1, 1) := by decide +kernel
theorem dX5_readWord_108 : decode cX5_readWord 108 = .ok (.iconst 2, 1) := by decide +kernel
theorem dX5_readWord_109 : decode cX5_readWord 109 = .ok (.iadd, 1) := by decide +kernel
theorem dX5_readWord_110 : decode cX5_readWord 110 = .ok (.invokevirtual 41, 3) := by decide +kernel
theorem dX5_readWord_113 : decode cX5_readWord 113 = .ok (.invokestatic 49, 3) := by decide +kernel
theorem dX5_readWord_116 : decode cX5_readWord 116 = .ok (.istore 7, 2) := by decide +kernel
theorem dX5_readWord_118 : decode cX5_readWord 118 = .ok (.iload 7, 2) := by decide +kernel
theorem dX5_readWord_120 : decode cX5_readWord 120 = .ok (.bipush (-6), 2) := by decide +kernel
theorem dX5_readWord_122 : decode cX5_readWord 122 = .ok (.if_icmp .ne 10, 3) := by decide +kernel
theorem dX5_readWord_125 : decode cX5_readWord 125 = .ok (.iload_n 1, 1) := by decide +kernel
theorem dX5_readWord_126 : decode cX5_readWord 126 = .ok (.iconst 2, 1) := by decide +kernel
theorem dX5_readWord_127 : decode cX5_readWord 127 = .ok (.iadd, 1) := by decide +kernel
theorem dX5_readWord_128 : decode cX5_readWord 128 = .ok (.ineg, 1) := by decide +kernel
theorem dX5_readWord_129 : decode cX5_readWord 129 = .ok (.goto 14, 3) := by decide +kernel
theorem dX5_readWord_132 : decode cX5_readWord 132 = .ok (.aload_n 0, 1) := by decide +kernel
theorem dX5_readWord_133 : decode cX5_readWord 133 = .ok (.iload 7, 2) := by decide +kernel
theorem dX5_readWord_135 : decode cX5_readWord 135 = .ok (.iload 4, 2) := by decide +kernel
theorem dX5_readWord_137 : decode cX5_readWord 137 = .ok (.iload 6, 2) := by decide +kernel
theorem dX5_readWord_139 : decode cX5_readWord 139 = .ok (.iconst 3, 1) := by decide +kernel
theorem dX5_readWord_140 : decode cX5_readWord 140 = .ok (.invokevirtual 45, 3) := by decide +kernel
theorem dX5_readWord_143 : decode cX5_readWord 143 = .ok (.ireturn, 1) := by decide +kernel
theorem dX5_signAt_0 : decode cX5_signAt 0 = .ok (.iload_n 1, 1) := by decide +kernel
theorem dX5_signAt_1 : decode cX5_signAt 1 = .ok (.ifCond .lt 26, 3) := by decide +kernel
theorem dX5_signAt_4 : decode cX5_signAt 4 = .ok (.iload_n 1, 1) := by decide +kernel
theorem dX5_signAt_5 : decode cX5_signAt 5 = .ok (.aload_n 0, 1) := by decide +kernel
theorem dX5_signAt_6 : decode cX5_signAt 6 = .ok (.getfield 24, 3) := by decide +kernel
theorem dX5_signAt_9 : decode cX5_signAt 9 = .ok (.if_icmp .ge 18, 3) := by decide +kernel
theorem dX5_signAt_12 : decode cX5_signAt 12 = .ok (.iload_n 1, 1) := by decide +kernel
theorem dX5_signAt_13 : decode cX5_signAt 13 = .ok (.bipush 60, 2) := by decide +kernel
theorem dX5_signAt_15 : decode cX5_signAt 15 = .ok (.if_icmp .ge 12, 3) := by decide +kernel
theorem dX5_signAt_18 : decode cX5_signAt 18 = .ok (.aload_n 0, 1) := by decide +kernel
theorem dX5_signAt_19 : decode cX5_signAt 19 = .ok (.getfield 9, 3) := by decide +kernel
theorem dX5_signAt_22 : decode cX5_signAt 22 = .ok (.iload_n 1, 1) := by decide +kernel
theorem dX5_signAt_23 : decode cX5_signAt 23 = .ok (.iaload, 1) := by decide +kernel
theorem dX5_signAt_24 : decode cX5_signAt 24 = .ok (.goto 4, 3) := by decide +kernel
theorem dX5_signAt_27 : decode cX5_signAt 27 = .ok (.iconst 0, 1) := by decide +kernel
theorem dX5_signAt_28 : decode cX5_signAt 28 = .ok (.ireturn, 1) := by decide +kernel
end
section
theorem dJ7_fill_53178_0 : decode cJ7_fill_53178 0 = .ok (.iconst 0, 1) := by decide +kernel
theorem dJ7_fill_53178_1 : decode cJ7_fill_53178 1 = .ok (.istore_n 2, 1) := by decide +kernel
theorem dJ7_fill_53178_2 : decode cJ7_fill_53178 2 = .ok (.aload_n 0, 1) := by decide +kernel
theorem dJ7_fill_53178_3 : decode cJ7_fill_53178 3 = .ok (.arraylength, 1) := by decide +kernel
theorem dJ7_fill_53178_4 : decode cJ7_fill_53178 4 = .ok (.istore_n 3, 1) := by decide +kernel
theorem dJ7_fill_53178_5 : decode cJ7_fill_53178 5 = .ok (.iload_n 2, 1) := by decide +kernel
theorem dJ7_fill_53178_6 : decode cJ7_fill_53178 6 = .ok (.iload_n 3, 1) := by decide +kernel
theorem dJ7_fill_53178_7 : decode cJ7_fill_53178 7 = .ok (.if_icmp .ge 13, 3) := by decide +kernel
theorem dJ7_fill_53178_10 : decode cJ7_fill_53178 10 = .ok (.aload_n 0, 1) := by decide +kernel
theorem dJ7_fill_53178_11 : decode cJ7_fill_53178 11 = .ok (.iload_n 2, 1) := by decide +kernel
theorem dJ7_fill_53178_12 : decode cJ7_fill_53178 12 = .ok (.iload_n 1, 1) := by decide +kernel
theorem dJ7_fill_53178_13 : decode cJ7_fill_53178 13 = .ok (.iastore, 1) := by decide +kernel
theorem dJ7_fill_53178_14 : decode cJ7_fill_53178 14 = .ok (.iinc 2 1, 3) := by decide +kernel
theorem dJ7_fill_53178_17 : decode cJ7_fill_53178 17 = .ok (.goto (-12), 3) := by decide +kernel
theorem dJ7_fill_53178_20 : decode cJ7_fill_53178 20 = .ok (.return_, 1) := by decide +kernel
theorem dJ7_fill_fda19_0 : decode cJ7_fill_fda19 0 = .ok (.aload_n 0, 1) := by decide +kernel
theorem dJ7_fill_fda19_1 : decode cJ7_fill_fda19 1 = .ok (.arraylength, 1) := by decide +kernel
theorem dJ7_fill_fda19_2 : decode cJ7_fill_fda19 2 = .ok (.iload_n 1, 1) := by decide +kernel
theorem dJ7_fill_fda19_3 : decode cJ7_fill_fda19 3 = .ok (.iload_n 2, 1) := by decide +kernel
theorem dJ7_fill_fda19_4 : decode cJ7_fill_fda19 4 = .ok (.invokestatic 13, 3) := by decide +kernel
theorem dJ7_fill_fda19_7 : decode cJ7_fill_fda19 7 = .ok (.iload_n 1, 1) := by decide +kernel
theorem dJ7_fill_fda19_8 : decode cJ7_fill_fda19 8 = .ok (.istore 4, 2) := by decide +kernel
theorem dJ7_fill_fda19_10 : decode cJ7_fill_fda19 10 = .ok (.iload 4, 2) := by decide +kernel
theorem dJ7_fill_fda19_12 : decode cJ7_fill_fda19 12 = .ok (.iload_n 2, 1) := by decide +kernel
theorem dJ7_fill_fda19_13 : decode cJ7_fill_fda19 13 = .ok (.if_icmp .ge 14, 3) := by decide +kernel
theorem dJ7_fill_fda19_16 : decode cJ7_fill_fda19 16 = .ok (.aload_n 0, 1) := by decide +kernel
theorem dJ7_fill_fda19_17 : decode cJ7_fill_fda19 17 = .ok (.iload 4, 2) := by decide +kernel
theorem dJ7_fill_fda19_19 : decode cJ7_fill_fda19 19 = .ok (.iload_n 3, 1) := by decide +kernel
theorem dJ7_fill_fda19_20 : decode cJ7_fill_fda19 20 = .ok (.iastore, 1) := by decide +kernel
theorem dJ7_fill_fda19_21 : decode cJ7_fill_fda19 21 = .ok (.iinc 4 1, 3) := by decide +kernel
theorem dJ7_fill_fda19_24 : decode cJ7_fill_fda19 24 = .ok (.goto (-14), 3) := by decide +kernel
theorem dJ7_fill_fda19_27 : decode cJ7_fill_fda19 27 = .ok (.return_, 1) := by decide +kernel
theorem dJ7_rangeCheck_23922_0 : decode cJ7_rangeCheck_23922 0 = .ok (.iload_n 1, 1) := by decide +kernel
theorem dJ7_rangeCheck_23922_1 : decode cJ7_rangeCheck_23922 1 = .ok (.iload_n 2, 1) := by decide +kernel
theorem dJ7_rangeCheck_23922_2 : decode cJ7_rangeCheck_23922 2 = .ok (.if_icmp .le 44, 3) := by decide +kernel
theorem dJ7_rangeCheck_23922_5 : decode cJ7_rangeCheck_23922 5 = .ok (.new 43, 3) := by decide +kernel
theorem dJ7_rangeCheck_23922_8 : decode cJ7_rangeCheck_23922 8 = .ok (.dup, 1) := by decide +kernel
theorem dJ7_rangeCheck_23922_9 : decode cJ7_rangeCheck_23922 9 = .ok (.new 45, 3) := by decide +kernel
theorem dJ7_rangeCheck_23922_12 : decode cJ7_rangeCheck_23922 12 = .ok (.dup, 1) := by decide +kernel
theorem dJ7_rangeCheck_23922_13 : decode cJ7_rangeCheck_23922 13 = .ok (.invokespecial 47, 3) := by decide +kernel
theorem dJ7_rangeCheck_23922_16 : decode cJ7_rangeCheck_23922 16 = .ok (.ldc 48, 2) := by decide +kernel
theorem dJ7_rangeCheck_23922_18 : decode cJ7_rangeCheck_23922 18 = .ok (.invokevirtual 50, 3) := by decide +kernel
theorem dJ7_rangeCheck_23922_21 : decode cJ7_rangeCheck_23922 21 = .ok (.iload_n 1, 1) := by decide +kernel
theorem dJ7_rangeCheck_23922_22 : decode cJ7_rangeCheck_23922 22 = .ok (.invokevirtual 54, 3) := by decide +kernel
theorem dJ7_rangeCheck_23922_25 : decode cJ7_rangeCheck_23922 25 = .ok (.ldc 57, 2) := by decide +kernel
theorem dJ7_rangeCheck_23922_27 : decode cJ7_rangeCheck_23922 27 = .ok (.invokevirtual 50, 3) := by decide +kernel
theorem dJ7_rangeCheck_23922_30 : decode cJ7_rangeCheck_23922 30 = .ok (.iload_n 2, 1) := by decide +kernel
theorem dJ7_rangeCheck_23922_31 : decode cJ7_rangeCheck_23922 31 = .ok (.invokevirtual 54, 3) := by decide +kernel
theorem dJ7_rangeCheck_23922_34 : decode cJ7_rangeCheck_23922 34 = .ok (.ldc 59, 2) := by decide +kernel
theorem dJ7_rangeCheck_23922_36 : decode cJ7_rangeCheck_23922 36 = .ok (.invokevirtual 50, 3) := by decide +kernel
theorem dJ7_rangeCheck_23922_39 : decode cJ7_rangeCheck_23922 39 = .ok (.invokevirtual 61, 3) := by decide +kernel
theorem dJ7_rangeCheck_23922_42 : decode cJ7_rangeCheck_23922 42 = .ok (.invokespecial 65, 3) := by decide +kernel
theorem dJ7_rangeCheck_23922_45 : decode cJ7_rangeCheck_23922 45 = .ok (.athrow, 1) := by decide +kernel
theorem dJ7_rangeCheck_23922_46 : decode cJ7_rangeCheck_23922 46 = .ok (.iload_n 1, 1) := by decide +kernel
theorem dJ7_rangeCheck_23922_47 : decode cJ7_rangeCheck_23922 47 = .ok (.ifCond .ge 12, 3) := by decide +kernel
theorem dJ7_rangeCheck_23922_50 : decode cJ7_rangeCheck_23922 50 = .ok (.new 68, 3) := by decide +kernel
theorem dJ7_rangeCheck_23922_53 : decode cJ7_rangeCheck_23922 53 = .ok (.dup, 1) := by decide +kernel
theorem dJ7_rangeCheck_23922_54 : decode cJ7_rangeCheck_23922 54 = .ok (.iload_n 1, 1) := by decide +kernel
theorem dJ7_rangeCheck_23922_55 : decode cJ7_rangeCheck_23922 55 = .ok (.invokespecial 70, 3) := by decide +kernel
theorem dJ7_rangeCheck_23922_58 : decode cJ7_rangeCheck_23922 58 = .ok (.athrow, 1) := by decide +kernel
theorem dJ7_rangeCheck_23922_59 : decode cJ7_rangeCheck_23922 59 = .ok (.iload_n 2, 1) := by decide +kernel
theorem dJ7_rangeCheck_23922_60 : decode cJ7_rangeCheck_23922 60 = .ok (.iload_n 0, 1) := by decide +kernel
theorem dJ7_rangeCheck_23922_61 : decode cJ7_rangeCheck_23922 61 = .ok (.if_icmp .le 12, 3) := by decide +kernel
theorem dJ7_rangeCheck_23922_64 : decode cJ7_rangeCheck_23922 64 = .ok (.new 68, 3) := by decide +kernel
theorem dJ7_rangeCheck_23922_67 : decode cJ7_rangeCheck_23922 67 = .ok (.dup, 1) := by decide +kernel
theorem dJ7_rangeCheck_23922_68 : decode cJ7_rangeCheck_23922 68 = .ok (.iload_n 2, 1) := by decide +kernel
theorem dJ7_rangeCheck_23922_69 : decode cJ7_rangeCheck_23922 69 = .ok (.invokespecial 70, 3) := by decide +kernel
theorem dJ7_rangeCheck_23922_72 : decode cJ7_rangeCheck_23922 72 = .ok (.athrow, 1) := by decide +kernel
theorem dJ7_rangeCheck_23922_73 : decode cJ7_rangeCheck_23922 73 = .ok (.return_, 1) := by decide +kernel
theorem dX6_behind_0 : decode cX6_behind 0 = .ok (.aload_n 0, 1) := by decide +kernel
theorem dX6_behind_1 : decode cX6_behind 1 = .ok (.getfield 10, 3) := by decide +kernel
theorem dX6_behind_4 : decode cX6_behind 4 = .ok (.iload_n 1, 1) := by decide +kernel
theorem dX6_behind_5 : decode cX6_behind 5 = .ok (.invokevirtual 66, 3) := by decide +kernel
theorem dX6_behind_8 : decode cX6_behind 8 = .ok (.ifCond .ne 5, 3) := by decide +kernel
theorem dX6_behind_11 : decode cX6_behind 11 = .ok (.iconst (-1), 1) := by decide +kernel
theorem dX6_behind_12 : decode cX6_behind 12 = .ok (.ireturn, 1) := by decide +kernel
theorem dX6_behind_13 : decode cX6_behind 13 = .ok (.iload_n 2, 1) := by decide +kernel
theorem dX6_behind_14 : decode cX6_behind 14 = .ok (.iconst 0, 1) := by decide +kernel
theorem dX6_behind_15 : decode cX6_behind 15 = .ok (.iconst 1, 1) := by decide +kernel
theorem dX6_behind_16 : decode cX6_behind 16 = .ok (.invokestatic 70, 3) := by decide +kernel
theorem dX6_behind_19 : decode cX6_behind 19 = .ok (.ifCond .eq 6, 3) := by decide +kernel
theorem dX6_behind_22 : decode cX6_behind 22 = .ok (.bipush (-2), 2) := by decide +kernel
theorem dX6_behind_24 : decode cX6_behind 24 = .ok (.ireturn, 1) := by decide +kernel
theorem dX6_behind_25 : decode cX6_behind 25 = .ok (.aload_n 0, 1) := by decide +kernel
theorem dX6_behind_26 : decode cX6_behind 26 = .ok (.invokevirtual 108, 3) := by decide +kernel
theorem dX6_behind_29 : decode cX6_behind 29 = .ok (.ifCond .ne 6, 3) := by decide +kernel
theorem dX6_behind_32 : decode cX6_behind 32 = .ok (.bipush (-5), 2) := by decide +kernel
theorem dX6_behind_34 : decode cX6_behind 34 = .ok (.ireturn, 1) := by decide +kernel
theorem dX6_behind_35 : decode cX6_behind 35 = .ok (.aload_n 0, 1) := by decide +kernel
theorem dX6_behind_36 : decode cX6_behind 36 = .ok (.getfield 16, 3) := by decide +kernel
theorem dX6_behind_39 : decode cX6_behind 39 = .ok (.iload_n 1, 1) := by decide +kernel
theorem dX6_behind_40 : decode cX6_behind 40 = .ok (.iload_n 2, 1) := by decide +kernel
theorem dX6_behind_41 : decode cX6_behind 41 = .ok (.invokevirtual 115, 3) := by decide +kernel
theorem dX6_behind_44 : decode cX6_behind 44 = .ok (.ireturn, 1) := by decide +kernel
theorem dX6_build_0 : decode cX6_build 0 = .ok (.aload_n 0, 1) := by decide +kernel
theorem dX6_build_1 : decode cX6_build 1 = .ok (.getfield 10, 3) := by decide +kernel
theorem dX6_build_4 : decode cX6_build 4 = .ok (.iload_n 1, 1) := by decide +kernel
theorem dX6_build_5 : decode cX6_build 5 = .ok (.invokevirtual 66, 3) := by decide +kernel
theorem dX6_build_8 : decode cX6_build 8 = .ok (.ifCond .ne 5, 3) := by decide +kernel
theorem dX6_build_11 : decode cX6_build 11 = .ok (.iconst (-1), 1) := by decide +kernel
theorem dX6_build_12 : decode cX6_build 12 = .ok (.ireturn, 1) := by decide +kernel
theorem dX6_build_13 : decode cX6_build 13 = .ok (.iload_n 2, 1) := by decide +kernel
theorem dX6_build_14 : decode cX6_build 14 = .ok (.iconst 0, 1) := by decide +kernel
theorem dX6_build_15 : decode cX6_build 15 = .ok (.bipush 10, 2) := by decide +kernel
theorem dX6_build_17 : decode cX6_build 17 = .ok (.invokestatic 70, 3) := by decide +kernel
theorem dX6_build_20 : decode cX6_build 20 = .ok (.ifCond .ne 35, 3) := by decide +kernel
theorem dX6_build_23 : decode cX6_build 23 = .ok (.iload_n 3, 1) := by decide +kernel
theorem dX6_build_24 : decode cX6_build 24 = .ok (.iconst 0, 1) := by decide +kernel
theorem dX6_build_25 : decode cX6_build 25 = .ok (.bipush 12, 2) := by decide +kernel
theorem dX6_build_27 : decode cX6_build 27 = .ok (.invokestatic 70, 3) := by decide +kernel
theorem dX6_build_30 : decode cX6_build 30 = .ok (.ifCond .ne 25, 3) := by decide +kernel
theorem dX6_build_33 : decode cX6_build 33 = .ok (.iload 5, 2) := by decide +kernel
theorem dX6_build_35 : decode cX6_build 35 = .ok (.iconst 1, 1) := by decide +kernel
theorem dX6_build_36 : decode cX6_build 36 = .ok (.bipush 100, 2) := by decide +kernel
theorem dX6_build_38 : decode cX6_build 38 = .ok (.invokestatic 70, 3) := by decide +kernel
theorem dX6_build_41 : decode cX6_build 41 = .ok (.ifCond .ne 14, 3) := by decide +kernel
theorem dX6_build_44 : decode cX6_build 44 = .ok (.iload 4, 2) := by decide +kernel
theorem dX6_build_46 : decode cX6_build 46 = .ok (.iconst 0, 1) := by decide +kernel
theorem dX6_build_47 : decode cX6_build 47 = .ok (.iload 5, 2) := by decide +kernel
theorem dX6_build_49 : decode cX6_build 49 = .ok (.invokestatic 70, 3) := by decide +kernel
theorem dX6_build_52 : decode cX6_build 52 = .ok (.ifCond .eq 6, 3) := by decide +kernel
theorem dX6_build_55 : decode cX6_build 55 = .ok (.bipush (-2), 2) := by decide +kernel
theorem dX6_build_57 : decode cX6_build 57 = .ok (.ireturn, 1) := by decide +kernel
theorem dX6_build_58 : decode cX6_build 58 = .ok (.iload 4, 2) := by decide +kernel
theorem dX6_build_60 : decode cX6_build 60 = .ok (.ifCond .ne 5, 3) := by decide +kernel
theorem dX6_build_63 : decode cX6_build 63 = .ok (.iconst 0, 1) := by decide +kernel
theorem dX6_build_64 : decode cX6_build 64 = .ok (.ireturn, 1) := by decide +kernel
theorem dX6_build_65 : decode cX6_build 65 = .ok (.iload 4, 2) := by decide +kernel
theorem dX6_build_67 : decode cX6_build 67 = .ok (.i2l, 1) := by decide +kernel
theorem dX6_build_68 : decode cX6_build 68 = .ok (.bipush 10, 2) := by decide +kernel
theorem dX6_build_70 : decode cX6_build 70 = .ok (.iload_n 3, 1) := by decide +kernel
theorem dX6_build_71 : decode cX6_build 71 = .ok (.invokestatic 195, 3) := by decide +kernel
theorem dX6_build_74 : decode cX6_build 74 = .ok (.lmul, 1) := by decide +kernel
theorem dX6_build_75 : decode cX6_build 75 = .ok (.lstore 6, 2) := by decide +kernel
theorem dX6_build_77 : decode cX6_build 77 = .ok (.lconst 0, 1) := by decide +kernel
theorem dX6_build_78 : decode cX6_build 78 = .ok (.lstore 8, 2) := by decide +kernel
theorem dX6_build_80 : decode cX6_build 80 = .ok (.iconst 0, 1) := by decide +kernel
theorem dX6_build_81 : decode cX6_build 81 = .ok (.istore 10, 2) := by decide +kernel
theorem dX6_build_83 : decode cX6_build 83 = .ok (.iload 10, 2) := by decide +kernel
theorem dX6_build_85 : decode cX6_build 85 = .ok (.iload_n 3, 1) := by decide +kernel
theorem dX6_build_86 : decode cX6_build 86 = .ok (.if_icmp .gt 73, 3) := by decide +kernel
theorem dX6_build_89 : decode cX6_build 89 = .ok (.lload 8, 2) := by decide +kernel
theorem dX6_build_91 : decode cX6_build 91 = .ok (.iload 10, 2) := by decide +kernel
theorem dX6_build_93 : decode cX6_build 93 = .ok (.iload_n 2, 1) := by decide +kernel
theorem dX6_build_94 : decode cX6_build 94 = .ok (.iload_n 3, 1) := by decide +kernel
theorem dX6_build_95 : decode cX6_build 95 = .ok (.invokestatic 191, 3) := by decide +kernel
theorem dX6_build_98 : decode cX6_build 98 = .ok (.ladd, 1) := by decide +kernel
theorem dX6_build_99 : decode cX6_build 99 = .ok (.lstore 8, 2) := by decide +kernel
theorem dX6_build_101 : decode cX6_build 101 = .ok (.lload 8, 2) := by decide +kernel
theorem dX6_build_103 : decode cX6_build 103 = .ok (.iload 5, 2) := by decide +kernel
theorem dX6_build_105 : decode cX6_build 105 = .ok (.i2l, 1) := by decide +kernel
theorem dX6_build_106 : decode cX6_build 106 = .ok (.lmul, 1) := by decide +kernel
theorem dX6_build_107 : decode cX6_build 107 = .ok (.lload 6, 2) := by decide +kernel
theorem dX6_build_109 : decode cX6_build 109 = .ok (.lcmp, 1) := by decide +kernel
theorem dX6_build_110 : decode cX6_build 110 = .ok (.ifCond .lt 43, 3) := by decide +kernel
theorem dX6_build_113 : decode cX6_build 113 = .ok (.aload_n 0, 1) := by decide +kernel
theorem dX6_build_114 : decode cX6_build 114 = .ok (.getfield 10, 3) := by decide +kernel
theorem dX6_build_117 : decode cX6_build 117 = .ok (.getfield 74, 3) := by decide +kernel
theorem dX6_build_120 : decode cX6_build 120 = .ok (.iload_n 1, 1) := by decide +kernel
theorem dX6_build_121 : decode cX6_build 121 = .ok (.iaload, 1) := by decide +kernel
theorem dX6_build_122 : decode cX6_build 122 = .ok (.iload 10, 2) := by decide +kernel
theorem dX6_build_124 : decode cX6_build 124 = .ok (.aload_n 0, 1) := by decide +kernel
theorem dX6_build_125 : decode cX6_build 125 = .ok (.getfield 10, 3) := by decide +kernel
theorem dX6_build_128 : decode cX6_build 128 = .ok (.getfield 84, 3) := by decide +kernel
theorem dX6_build_131 : decode cX6_build 131 = .ok (.iconst 1, 1) := by decide +kernel
theorem dX6_build_132 : decode cX6_build 132 = .ok (.iaload, 1) := by decide +kernel
theorem dX6_build_133 : decode cX6_build 133 = .ok (.imul, 1) := by decide +kernel
theorem dX6_build_134 : decode cX6_build 134 = .ok (.iadd, 1) := by decide +kernel
theorem dX6_build_135 : decode cX6_build 135 = .ok (.istore 11, 2) := by decide +kernel
theorem dX6_build_137 : decode cX6_build 137 = .ok (.iload 11, 2) := by decide +kernel
theorem dX6_build_139 : decode cX6_build 139 = .ok (.sipush 999, 3) := by decide +kernel
theorem dX6_build_142 : decode cX6_build 142 = .ok (.if_icmp .gt 8, 3) := by decide +kernel
theorem dX6_build_145 : decode cX6_build 145 = .ok (.iload 11, 2) := by decide +kernel
theorem dX6_build_147 : decode cX6_build 147 = .ok (.goto 5, 3) := by decide +kernel
theorem dX6_build_150 : decode cX6_build 150 = .ok (.bipush (-6), 2) := by decide +kernel
theorem dX6_build_152 : decode cX6_build 152 = .ok (.ireturn, 1) := by decide +kernel
theorem dX6_build_153 : decode cX6_build 153 = .ok (.iinc 10 1, 3) := by decide +kernel
theorem dX6_build_156 : decode cX6_build 156 = .ok (.goto (-73), 3) := by decide +kernel
theorem dX6_build_159 : decode cX6_build 159 = .ok (.bipush (-6), 2) := by decide +kernel
theorem dX6_build_161 : decode cX6_build 161 = .ok (.ireturn, 1) := by decide +kernel
theorem dX6_chanceOf_0 : decode cX6_chanceOf 0 = .ok (.lconst 1, 1) := by decide +kernel
theorem dX6_chanceOf_1 : decode cX6_chanceOf 1 = .ok (.lstore_n 3, 1) := by decide +kernel
theorem dX6_chanceOf_2 : decode cX6_chanceOf 2 = .ok (.iconst 1, 1) := by decide +kernel
theorem dX6_chanceOf_3 : decode cX6_chanceOf 3 = .ok (.istore 5, 2) := by decide +kernel
theorem dX6_chanceOf_5 : decode cX6_chanceOf 5 = .ok (.iload 5, 2) := by decide +kernel
theorem dX6_chanceOf_7 : decode cX6_chanceOf 7 = .ok (.iload_n 0, 1) := by decide +kernel
theorem dX6_chanceOf_8 : decode cX6_chanceOf 8 = .ok (.if_icmp .gt 23, 3) := by decide +kernel
theorem dX6_chanceOf_11 : decode cX6_chanceOf 11 = .ok (.lload_n 3, 1) := by decide +kernel
theorem dX6_chanceOf_12 : decode cX6_chanceOf 12 = .ok (.iload_n 2, 1) := by decide +kernel
theorem dX6_chanceOf_13 : decode cX6_chanceOf 13 = .ok (.iload 5, 2) := by decide +kernel
theorem dX6_chanceOf_15 : decode cX6_chanceOf 15 = .ok (.isub, 1) := by decide +kernel
theorem dX6_chanceOf_16 : decode cX6_chanceOf 16 = .ok (.iconst 1, 1) := by decide +kernel
theorem dX6_chanceOf_17 : decode cX6_chanceOf 17 = .ok (.iadd, 1) := by decide +kernel
theorem dX6_chanceOf_18 : decode cX6_chanceOf 18 = .ok (.i2l, 1) := by decide +kernel
theorem dX6_chanceOf_19 : decode cX6_chanceOf 19 = .ok (.lmul, 1) := by decide +kernel
theorem dX6_chanceOf_20 : decode cX6_chanceOf 20 = .ok (.iload 5, 2) := by decide +kernel
theorem dX6_chanceOf_22 : decode cX6_chanceOf 22 = .ok (.i2l, 1) := by decide +kernel
theorem dX6_chanceOf_23 : decode cX6_chanceOf 23 = .ok (.ldiv, 1) := by decide +kernel
theorem dX6_chanceOf_24 : decode cX6_chanceOf 24 = .ok (.lstore_n 3, 1) := by decide +kernel
theorem dX6_chanceOf_25 : decode cX6_chanceOf 25 = .ok (.iinc 5 1, 3) := by decide +kernel
theorem dX6_chanceOf_28 : decode cX6_chanceOf 28 = .ok (.goto (-23), 3) := by decide +kernel
theorem dX6_chanceOf_31 : decode cX6_chanceOf 31 = .ok (.lload_n 3, 1) := by decide +kernel
theorem dX6_chanceOf_32 : decode cX6_chanceOf 32 = .ok (.iload_n 1, 1) := by decide +kernel
theorem dX6_chanceOf_33 : decode cX6_chanceOf 33 = .ok (.iload_n 0, 1) := by decide +kernel
theorem dX6_chanceOf_34 : decode cX6_chanceOf 34 = .ok (.invokestatic 195, 3) := by decide +kernel
theorem dX6_chanceOf_37 : decode cX6_chanceOf 37 = .ok (.lmul, 1) := by decide +kernel
theorem dX6_chanceOf_38 : decode cX6_chanceOf 38 = .ok (.bipush 10, 2) := by decide +kernel
theorem dX6_chanceOf_40 : decode cX6_chanceOf 40 = .ok (.iload_n 1, 1) := by decide +kernel
theorem dX6_chanceOf_41 : decode cX6_chanceOf 41 = .ok (.isub, 1) := by decide +kernel
theorem dX6_chanceOf_42 : decode cX6_chanceOf 42 = .ok (.iload_n 2, 1) := by decide +kernel
theorem dX6_chanceOf_43 : decode cX6_chanceOf 43 = .ok (.iload_n 0, 1) := by decide +kernel
theorem dX6_chanceOf_44 : decode cX6_chanceOf 44 = .ok (.isub, 1) := by decide +kernel
theorem dX6_chanceOf_45 : decode cX6_chanceOf 45 = .ok (.invokestatic 195, 3) := by decide +kernel
theorem dX6_chanceOf_48 : decode cX6_chanceOf 48 = .ok (.lmul, 1) := by decide +kernel
theorem dX6_chanceOf_49 : decode cX6_chanceOf 49 = .ok (.lreturn, 1) := by decide +kernel
theorem dX6_cleared_0 : decode cX6_cleared 0 = .ok (.iload_n 1, 1) := by decide +kernel
theorem dX6_cleared_1 : decode cX6_cleared 1 = .ok (.iconst 0, 1) := by decide +kernel
theorem dX6_cleared_2 : decode cX6_cleared 2 = .ok (.sipush 999, 3) := by decide +kernel
theorem dX6_cleared_5 : decode cX6_cleared 5 = .ok (.invokestatic 70, 3) := by decide +kernel
theorem dX6_cleared_8 : decode cX6_cleared 8 = .ok (.ifCond .eq 6, 3) := by decide +kernel
theorem dX6_cleared_11 : decode cX6_cleared 11 = .ok (.bipush (-2), 2) := by decide +kernel
theorem dX6_cleared_13 : decode cX6_cleared 13 = .ok (.ireturn, 1) := by decide +kernel
theorem dX6_cleared_14 : decode cX6_cleared 14 = .ok (.aload_n 0, 1) := by decide +kernel
theorem dX6_cleared_15 : decode cX6_cleared 15 = .ok (.getfield 10, 3) := by decide +kernel
theorem dX6_cleared_18 : decode cX6_cleared 18 = .ok (.getfield 84, 3) := by decide +kernel
theorem dX6_cleared_21 : decode cX6_cleared 21 = .ok (.iconst 3, 1) := by decide +kernel
theorem dX6_cleared_22 : decode cX6_cleared 22 = .ok (.iaload, 1) := by decide +kernel
theorem dX6_cleared_23 : decode cX6_cleared 23 = .ok (.istore_n 2, 1) := by decide +kernel
theorem dX6_cleared_24 : decode cX6_cleared 24 = .ok (.iload_n 2, 1) := by decide +kernel
theorem dX6_cleared_25 : decode cX6_cleared 25 = .ok (.iconst 1, 1) := by decide +kernel
theorem dX6_cleared_26 : decode cX6_cleared 26 = .ok (.if_icmp .ge 6, 3) := by decide +kernel
theorem dX6_cleared_29 : decode cX6_cleared 29 = .ok (.bipush (-6), 2) := by decide +kernel
theorem dX6_cleared_31 : decode cX6_cleared 31 = .ok (.ireturn, 1) := by decide +kernel
theorem dX6_cleared_32 : decode cX6_cleared 32 = .ok (.iconst 0, 1) := by decide +kernel
theorem dX6_cleared_33 : decode cX6_cleared 33 = .ok (.istore_n 3, 1) := by decide +kernel
theorem dX6_cleared_34 : decode cX6_cleared 34 = .ok (.iconst 0, 1) := by decide +kernel
theorem dX6_cleared_35 : decode cX6_cleared 35 = .ok (.istore 4, 2) := by decide +kernel
theorem dX6_cleared_37 : decode cX6_cleared 37 = .ok (.iload 4, 2) := by decide +kernel
theorem dX6_cleared_39 : decode cX6_cleared 39 = .ok (.aload_n 0, 1) := by decide +kernel
theorem dX6_cleared_40 : decode cX6_cleared 40 = .ok (.getfield 10, 3) := by decide +kernel
theorem dX6_cleared_43 : decode cX6_cleared 43 = .ok (.getfield 58, 3) := by decide +kernel
theorem dX6_cleared_46 : decode cX6_cleared 46 = .ok (.if_icmp .ge 45, 3) := by decide +kernel
theorem dX6_cleared_49 : decode cX6_cleared 49 = .ok (.iload 4, 2) := by decide +kernel
theorem dX6_cleared_51 : decode cX6_cleared 51 = .ok (.bipush 8, 2) := by decide +kernel
theorem dX6_cleared_53 : decode cX6_cleared 53 = .ok (.if_icmp .ge 38, 3) := by decide +kernel
theorem dX6_cleared_56 : decode cX6_cleared 56 = .ok (.iconst 0, 1) := by decide +kernel
theorem dX6_cleared_57 : decode cX6_cleared 57 = .ok (.aload_n 0, 1) := by decide +kernel
theorem dX6_cleared_58 : decode cX6_cleared 58 = .ok (.getfield 10, 3) := by decide +kernel
theorem dX6_cleared_61 : decode cX6_cleared 61 = .ok (.getfield 74, 3) := by decide +kernel
theorem dX6_cleared_64 : decode cX6_cleared 64 = .ok (.iload 4, 2) := by decide +kernel
theorem dX6_cleared_66 : decode cX6_cleared 66 = .ok (.iaload, 1) := by decide +kernel
theorem dX6_cleared_67 : decode cX6_cleared 67 = .ok (.iload_n 1, 1) := by decide +kernel
theorem dX6_cleared_68 : decode cX6_cleared 68 = .ok (.isub, 1) := by decide +kernel
theorem dX6_cleared_69 : decode cX6_cleared 69 = .ok (.invokestatic 138, 3) := by decide +kernel
theorem dX6_cleared_72 : decode cX6_cleared 72 = .ok (.istore 5, 2) := by decide +kernel
theorem dX6_cleared_74 : decode cX6_cleared 74 = .ok (.iload_n 3, 1) := by decide +kernel
theorem dX6_cleared_75 : decode cX6_cleared 75 = .ok (.iload 5, 2) := by decide +kernel
theorem dX6_cleared_77 : decode cX6_cleared 77 = .ok (.iload_n 2, 1) := by decide +kernel
theorem dX6_cleared_78 : decode cX6_cleared 78 = .ok (.iadd, 1) := by decide +kernel
theorem dX6_cleared_79 : decode cX6_cleared 79 = .ok (.iconst 1, 1) := by decide +kernel
theorem dX6_cleared_80 : decode cX6_cleared 80 = .ok (.isub, 1) := by decide +kernel
theorem dX6_cleared_81 : decode cX6_cleared 81 = .ok (.iload_n 2, 1) := by decide +kernel
theorem dX6_cleared_82 : decode cX6_cleared 82 = .ok (.idiv, 1) := by decide +kernel
theorem dX6_cleared_83 : decode cX6_cleared 83 = .ok (.iadd, 1) := by decide +kernel
theorem dX6_cleared_84 : decode cX6_cleared 84 = .ok (.istore_n 3, 1) := by decide +kernel
theorem dX6_cleared_85 : decode cX6_cleared 85 = .ok (.iinc 4 1, 3) := by decide +kernel
theorem dX6_cleared_88 : decode cX6_cleared 88 = .ok (.goto (-51), 3) := by decide +kernel
theorem dX6_cleared_91 : decode cX6_cleared 91 = .ok (.iload_n 3, 1) := by decide +kernel
theorem dX6_cleared_92 : decode cX6_cleared 92 = .ok (.ireturn, 1) := by decide +kernel
theorem dX6_commonDivisor_0 : decode cX6_commonDivisor 0 = .ok (.lload_n 0, 1) := by decide +kernel
theorem dX6_commonDivisor_1 : decode cX6_commonDivisor 1 = .ok (.lstore 4, 2) := by decide +kernel
theorem dX6_commonDivisor_3 : decode cX6_commonDivisor 3 = .ok (.lload_n 2, 1) := by decide +kernel
theorem dX6_commonDivisor_4 : decode cX6_commonDivisor 4 = .ok (.lstore 6, 2) := by decide +kernel
theorem dX6_commonDivisor_6 : decode cX6_commonDivisor 6 = .ok (.iconst 0, 1) := by decide +kernel
theorem dX6_commonDivisor_7 : decode cX6_commonDivisor 7 = .ok (.istore 8, 2) := by decide +kernel
theorem dX6_commonDivisor_9 : decode cX6_commonDivisor 9 = .ok (.iload 8, 2) := by decide +kernel
theorem dX6_commonDivisor_11 : decode cX6_commonDivisor 11 = .ok (.bipush 100, 2) := by decide +kernel
theorem dX6_commonDivisor_13 : decode cX6_commonDivisor 13 = .ok (.if_icmp .ge 31, 3) := by decide +kernel
theorem dX6_commonDivisor_16 : decode cX6_commonDivisor 16 = .ok (.lload 6, 2) := by decide +kernel
theorem dX6_commonDivisor_18 : decode cX6_commonDivisor 18 = .ok (.lconst 0, 1) := by decide +kernel
theorem dX6_commonDivisor_19 : decode cX6_commonDivisor 19 = .ok (.lcmp, 1) := by decide +kernel
theorem dX6_commonDivisor_20 : decode cX6_commonDivisor 20 = .ok (.ifCond .eq 24, 3) := by decide +kernel
theorem dX6_commonDivisor_23 : decode cX6_commonDivisor 23 = .ok (.lload 4, 2) := by decide +kernel
theorem dX6_commonDivisor_25 : decode cX6_commonDivisor 25 = .ok (.lload 6, 2) := by decide +kernel
theorem dX6_commonDivisor_27 : decode cX6_commonDivisor 27 = .ok (.lrem, 1) := by decide +kernel
theorem dX6_commonDivisor_28 : decode cX6_commonDivisor 28 = .ok (.lstore 9, 2) := by decide +kernel
theorem dX6_commonDivisor_30 : decode cX6_commonDivisor 30 = .ok (.lload 6, 2) := by decide +kernel
theorem dX6_commonDivisor_32 : decode cX6_commonDivisor 32 = .ok (.lstore 4, 2) := by decide +kernel
theorem dX6_commonDivisor_34 : decode cX6_commonDivisor 34 = .ok (.lload 9, 2) := by decide +kernel
theorem dX6_commonDivisor_36 : decode cX6_commonDivisor 36 = .ok (.lstore 6, 2) := by decide +kernel
theorem dX6_commonDivisor_38 : decode cX6_commonDivisor 38 = .ok (.iinc 8 1, 3) := by decide +kernel
theorem dX6_commonDivisor_41 : decode cX6_commonDivisor 41 = .ok (.goto (-32), 3) := by decide +kernel
theorem dX6_commonDivisor_44 : decode cX6_commonDivisor 44 = .ok (.lload 4, 2) := by decide +kernel
theorem dX6_commonDivisor_46 : decode cX6_commonDivisor 46 = .ok (.lreturn, 1) := by decide +kernel
theorem dX6_done_0 : decode cX6_done 0 = .ok (.aload_n 0, 1) := by decide +kernel
theorem dX6_done_1 : decode cX6_done 1 = .ok (.invokevirtual 108, 3) := by decide +kernel
theorem dX6_done_4 : decode cX6_done 4 = .ok (.ifCond .ne 6, 3) := by decide +kernel
theorem dX6_done_7 : decode cX6_done 7 = .ok (.bipush (-5), 2) := by decide +kernel
theorem dX6_done_9 : decode cX6_done 9 = .ok (.ireturn, 1) := by decide +kernel
theorem dX6_done_10 : decode cX6_done 10 = .ok (.aload_n 0, 1) := by decide +kernel
theorem dX6_done_11 : decode cX6_done 11 = .ok (.getfield 10, 3) := by decide +kernel
theorem dX6_done_14 : decode cX6_done 14 = .ok (.aload_n 0, 1) := by decide +kernel
theorem dX6_done_15 : decode cX6_done 15 = .ok (.getfield 16, 3) := by decide +kernel
theorem dX6_done_18 : decode cX6_done 18 = .ok (.invokevirtual 97, 3) := by decide +kernel
theorem dX6_done_21 : decode cX6_done 21 = .ok (.aload_n 0, 1) := by decide +kernel
theorem dX6_done_22 : decode cX6_done 22 = .ok (.getfield 26, 3) := by decide +kernel
theorem dX6_done_25 : decode cX6_done 25 = .ok (.iconst 0, 1) := by decide +kernel
theorem dX6_done_26 : decode cX6_done 26 = .ok (.putfield 87, 3) := by decide +kernel
theorem dX6_done_29 : decode cX6_done 29 = .ok (.aload_n 0, 1) := by decide +kernel
theorem dX6_done_30 : decode cX6_done 30 = .ok (.getfield 26, 3) := by decide +kernel
theorem dX6_done_33 : decode cX6_done 33 = .ok (.getfield 112, 3) := by decide +kernel
theorem dX6_done_36 : decode cX6_done 36 = .ok (.ireturn, 1) := by decide +kernel
theorem dX6_elsewhere_0 : decode cX6_elsewhere 0 = .ok (.iload_n 1, 1) := by decide +kernel
theorem dX6_elsewhere_1 : decode cX6_elsewhere 1 = .ok (.iconst (-1), 1) := by decide +kernel
theorem dX6_elsewhere_2 : decode cX6_elsewhere 2 = .ok (.if_icmp .eq 16, 3) := by decide +kernel
theorem dX6_elsewhere_5 : decode cX6_elsewhere 5 = .ok (.aload_n 0, 1) := by decide +kernel
theorem dX6_elsewhere_6 : decode cX6_elsewhere 6 = .ok (.getfield 10, 3) := by decide +kernel
theorem dX6_elsewhere_9 : decode cX6_elsewhere 9 = .ok (.iload_n 1, 1) := by decide +kernel
theorem dX6_elsewhere_10 : decode cX6_elsewhere 10 = .ok (.invokevirtual 66, 3) := by decide +kernel
theorem dX6_elsewhere_13 : decode cX6_elsewhere 13 = .ok (.ifCond .ne 5, 3) := by decide +kernel
theorem dX6_elsewhere_16 : decode cX6_elsewhere 16 = .ok (.iconst (-1), 1) := by decide +kernel
theorem dX6_elsewhere_17 : decode cX6_elsewhere 17 = .ok (.ireturn, 1) := by decide +kernel
theorem dX6_elsewhere_18 : decode cX6_elsewhere 18 = .ok (.aload_n 0, 1) := by decide +kernel
theorem dX6_elsewhere_19 : decode cX6_elsewhere 19 = .ok (.getfield 54, 3) := by decide +kernel
theorem dX6_elsewhere_22 : decode cX6_elsewhere 22 = .ok (.aload_n 0, 1) := by decide +kernel
theorem dX6_elsewhere_23 : decode cX6_elsewhere 23 = .ok (.getfield 10, 3) := by decide +kernel
theorem dX6_elsewhere_26 : decode cX6_elsewhere 26 = .ok (.getfield 58, 3) := by decide +kernel
theorem dX6_elsewhere_29 : decode cX6_elsewhere 29 = .ok (.invokevirtual 203, 3) := by decide +kernel
theorem dX6_elsewhere_32 : decode cX6_elsewhere 32 = .ok (.istore_n 2, 1) := by decide +kernel
theorem dX6_elsewhere_33 : decode cX6_elsewhere 33 = .ok (.iload_n 1, 1) := by decide +kernel
theorem dX6_elsewhere_34 : decode cX6_elsewhere 34 = .ok (.iconst (-1), 1) := by decide +kernel
theorem dX6_elsewhere_35 : decode cX6_elsewhere 35 = .ok (.if_icmp .ne 7, 3) := by decide +kernel
theorem dX6_elsewhere_38 : decode cX6_elsewhere 38 = .ok (.iload_n 2, 1) := by decide +kernel
theorem dX6_elsewhere_39 : decode cX6_elsewhere 39 = .ok (.goto 12, 3) := by decide +kernel
theorem dX6_elsewhere_42 : decode cX6_elsewhere 42 = .ok (.aload_n 0, 1) := by decide +kernel
theorem dX6_elsewhere_43 : decode cX6_elsewhere 43 = .ok (.getfield 54, 3) := by decide +kernel
theorem dX6_elsewhere_46 : decode cX6_elsewhere 46 = .ok (.getfield 206, 3) := by decide +kernel
theorem dX6_elsewhere_49 : decode cX6_elsewhere 49 = .ok (.iload_n 1, 1) := by decide +kernel
theorem dX6_elsewhere_50 : decode cX6_elsewhere 50 = .ok (.iaload, 1) := by decide +kernel
theorem dX6_elsewhere_51 : decode cX6_elsewhere 51 = .ok (.ireturn, 1) := by decide +kernel
theorem dX6_fault_0 : decode cX6_fault 0 = .ok (.aload_n 0, 1) := by decide +kernel
theorem dX6_fault_1 : decode cX6_fault 1 = .ok (.getfield 26, 3) := by decide +kernel
theorem dX6_fault_4 : decode cX6_fault 4 = .ok (.aload_n 0, 1) := by decide +kernel
theorem dX6_fault_5 : decode cX6_fault 5 = .ok (.getfield 10, 3) := by decide +kernel
theorem dX6_fault_8 : decode cX6_fault 8 = .ok (.getfield 58, 3) := by decide +kernel
theorem dX6_fault_11 : decode cX6_fault 11 = .ok (.invokevirtual 93, 3) := by decide +kernel
theorem dX6_fault_14 : decode cX6_fault 14 = .ok (.ireturn, 1) := by decide +kernel
theorem dX6_first_0 : decode cX6_first 0 = .ok (.aload_n 0, 1) := by decide +kernel
theorem dX6_first_1 : decode cX6_first 1 = .ok (.invokevirtual 108, 3) := by decide +kernel
theorem dX6_first_4 : decode cX6_first 4 = .ok (.ifCond .ne 6, 3) := by decide +kernel
theorem dX6_first_7 : decode cX6_first 7 = .ok (.bipush (-5), 2) := by decide +kernel
theorem dX6_first_9 : decode cX6_first 9 = .ok (.ireturn, 1) := by decide +kernel
theorem dX6_first_10 : decode cX6_first 10 = .ok (.aload_n 0, 1) := by decide +kernel
theorem dX6_first_11 : decode cX6_first 11 = .ok (.getfield 26, 3) := by decide +kernel
theorem dX6_first_14 : decode cX6_first 14 = .ok (.getfield 119, 3) := by decide +kernel
theorem dX6_first_17 : decode cX6_first 17 = .ok (.ireturn, 1) := by decide +kernel
theorem dX6_forget_0 : decode cX6_forget 0 = .ok (.aload_n 0, 1) := by decide +kernel
theorem dX6_forget_1 : decode cX6_forget 1 = .ok (.getfield 10, 3) := by decide +kernel
theorem dX6_forget_4 : decode cX6_forget 4 = .ok (.getfield 150, 3) := by decide +kernel
theorem dX6_forget_7 : decode cX6_forget 7 = .ok (.istore_n 1, 1) := by decide +kernel
theorem dX6_forget_8 : decode cX6_forget 8 = .ok (.aload_n 0, 1) := by decide +kernel
theorem dX6_forget_9 : decode cX6_forget 9 = .ok (.getfield 10, 3) := by decide +kernel
theorem dX6_forget_12 : decode cX6_forget 12 = .ok (.iconst 0, 1) := by decide +kernel
theorem dX6_forget_13 : decode cX6_forget 13 = .ok (.putfield 150, 3) := by decide +kernel
theorem dX6_forget_16 : decode cX6_forget 16 = .ok (.iload_n 1, 1) := by decide +kernel
theorem dX6_forget_17 : decode cX6_forget 17 = .ok (.ireturn, 1) := by decide +kernel
theorem dX6_garden_0 : decode cX6_garden 0 = .ok (.aload_n 0, 1) := by decide +kernel
theorem dX6_garden_1 : decode cX6_garden 1 = .ok (.getfield 10, 3) := by decide +kernel
theorem dX6_garden_4 : decode cX6_garden 4 = .ok (.iload_n 1, 1) := by decide +kernel
theorem dX6_garden_5 : decode cX6_garden 5 = .ok (.invokevirtual 66, 3) := by decide +kernel
theorem dX6_garden_8 : decode cX6_garden 8 = .ok (.ifCond .ne 5, 3) := by decide +kernel
theorem dX6_garden_11 : decode cX6_garden 11 = .ok (.iconst (-1), 1) := by decide +kernel
theorem dX6_garden_12 : decode cX6_garden 12 = .ok (.ireturn, 1) := by decide +kernel
theorem dX6_garden_13 : decode cX6_garden 13 = .ok (.iload_n 2, 1) := by decide +kernel
theorem dX6_garden_14 : decode cX6_garden 14 = .ok (.iconst 0, 1) := by decide +kernel
theorem dX6_garden_15 : decode cX6_garden 15 = .ok (.iconst 1, 1) := by decide +kernel
theorem dX6_garden_16 : decode cX6_garden 16 = .ok (.invokestatic 70, 3) := by decide +kernel
theorem dX6_garden_19 : decode cX6_garden 19 = .ok (.ifCond .ne 14, 3) := by decide +kernel
theorem dX6_garden_22 : decode cX6_garden 22 = .ok (.iload_n 3, 1) := by decide +kernel
theorem dX6_garden_23 : decode cX6_garden 23 = .ok (.iconst 0, 1) := by decide +kernel
theorem dX6_garden_24 : decode cX6_garden 24 = .ok (.sipush 999, 3) := by decide +kernel
theorem dX6_garden_27 : decode cX6_garden 27 = .ok (.invokestatic 70, 3) := by decide +kernel
theorem dX6_garden_30 : decode cX6_garden 30 = .ok (.ifCond .eq 6, 3) := by decide +kernel
theorem dX6_garden_33 : decode cX6_garden 33 = .ok (.bipush (-2), 2) := by decide +kernel
theorem dX6_garden_35 : decode cX6_garden 35 = .ok (.ireturn, 1) := by decide +kernel
theorem dX6_garden_36 : decode cX6_garden 36 = .ok (.iload_n 2, 1) := by decide +kernel
theorem dX6_garden_37 : decode cX6_garden 37 = .ok (.ifCond .ne 27, 3) := by decide +kernel
theorem dX6_garden_40 : decode cX6_garden 40 = .ok (.aload_n 0, 1) := by decide +kernel
theorem dX6_garden_41 : decode cX6_garden 41 = .ok (.getfield 10, 3) := by decide +kernel
theorem dX6_garden_44 : decode cX6_garden 44 = .ok (.getfield 74, 3) := by decide +kernel
theorem dX6_garden_47 : decode cX6_garden 47 = .ok (.iload_n 1, 1) := by decide +kernel
theorem dX6_garden_48 : decode cX6_garden 48 = .ok (.iaload, 1) := by decide +kernel
theorem dX6_garden_49 : decode cX6_garden 49 = .ok (.istore 4, 2) := by decide +kernel
theorem dX6_garden_51 : decode cX6_garden 51 = .ok (.aload_n 0, 1) := by decide +kernel
theorem dX6_garden_52 : decode cX6_garden 52 = .ok (.getfield 10, 3) := by decide +kernel
theorem dX6_garden_55 : decode cX6_garden 55 = .ok (.getfield 74, 3) := by decide +kernel
theorem dX6_garden_58 : decode cX6_garden 58 = .ok (.iload_n 1, 1) := by decide +kernel
theorem dX6_garden_59 : decode cX6_garden 59 = .ok (.iload_n 3, 1) := by decide +kernel
theorem dX6_garden_60 : decode cX6_garden 60 = .ok (.iastore, 1) := by decide +kernel
theorem dX6_garden_61 : decode cX6_garden 61 = .ok (.goto 41, 3) := by decide +kernel
theorem dX6_garden_64 : decode cX6_garden 64 = .ok (.aload_n 0, 1) := by decide +kernel
theorem dX6_garden_65 : decode cX6_garden 65 = .ok (.getfield 10, 3) := by decide +kernel
theorem dX6_garden_68 : decode cX6_garden 68 = .ok (.getfield 78, 3) := by decide +kernel
theorem dX6_garden_71 : decode cX6_garden 71 = .ok (.iload_n 1, 1) := by decide +kernel
theorem dX6_garden_72 : decode cX6_garden 72 = .ok (.iaload, 1) := by decide +kernel
theorem dX6_garden_73 : decode cX6_garden 73 = .ok (.istore 4, 2) := by decide +kernel
theorem dX6_garden_75 : decode cX6_garden 75 = .ok (.aload_n 0, 1) := by decide +kernel
theorem dX6_garden_76 : decode cX6_garden 76 = .ok (.getfield 10, 3) := by decide +kernel
theorem dX6_garden_79 : decode cX6_garden 79 = .ok (.getfield 78, 3) := by decide +kernel
theorem dX6_garden_82 : decode cX6_garden 82 = .ok (.iload_n 1, 1) := by decide +kernel
theorem dX6_garden_83 : decode cX6_garden 83 = .ok (.iload_n 3, 1) := by decide +kernel
theorem dX6_garden_84 : decode cX6_garden 84 = .ok (.iastore, 1) := by decide +kernel
theorem dX6_garden_85 : decode cX6_garden 85 = .ok (.aload_n 0, 1) := by decide +kernel
theorem dX6_garden_86 : decode cX6_garden 86 = .ok (.getfield 10, 3) := by decide +kernel
theorem dX6_garden_89 : decode cX6_garden 89 = .ok (.dup, 1) := by decide +kernel
theorem dX6_garden_90 : decode cX6_garden 90 = .ok (.getfield 81, 3) := by decide +kernel
theorem dX6_garden_93 : decode cX6_garden 93 = .ok (.iconst 1, 1) := by decide +kernel
theorem dX6_garden_94 : decode cX6_garden 94 = .ok (.iload_n 1, 1) := by decide +kernel
theorem dX6_garden_95 : decode cX6_garden 95 = .ok (.ishl, 1) := by decide +kernel
theorem dX6_garden_96 : decode cX6_garden 96 = .ok (.iconst (-1), 1) := by decide +kernel
theorem dX6_garden_97 : decode cX6_garden 97 = .ok (.ixor, 1) := by decide +kernel
theorem dX6_garden_98 : decode cX6_garden 98 = .ok (.iand, 1) := by decide +kernel
theorem dX6_garden_99 : decode cX6_garden 99 = .ok (.putfield 81, 3) := by decide +kernel
theorem dX6_garden_102 : decode cX6_garden 102 = .ok (.iload 4, 2) := by decide +kernel
theorem dX6_garden_104 : decode cX6_garden 104 = .ok (.ireturn, 1) := by decide +kernel
theorem dX6_gardens_0 : decode cX6_gardens 0 = .ok (.iload_n 1, 1) := by decide +kernel
theorem dX6_gardens_1 : decode cX6_gardens 1 = .ok (.iconst 2, 1) := by decide +kernel
theorem dX6_gardens_2 : decode cX6_gardens 2 = .ok (.if_icmp .lt 9, 3) := by decide +kernel
theorem dX6_gardens_5 : decode cX6_gardens 5 = .ok (.iload_n 1, 1) := by decide +kernel
theorem dX6_gardens_6 : decode cX6_gardens 6 = .ok (.bipush 8, 2) := by decide +kernel
theorem dX6_gardens_8 : decode cX6_gardens 8 = .ok (.if_icmp .le 6, 3) := by decide +kernel
theorem dX6_gardens_11 : decode cX6_gardens 11 = .ok (.bipush (-2), 2) := by decide +kernel
theorem dX6_gardens_13 : decode cX6_gardens 13 = .ok (.ireturn, 1) := by decide +kernel
theorem dX6_gardens_14 : decode cX6_gardens 14 = .ok (.aload_n 0, 1) := by decide +kernel
theorem dX6_gardens_15 : decode cX6_gardens 15 = .ok (.getfield 10, 3) := by decide +kernel
theorem dX6_gardens_18 : decode cX6_gardens 18 = .ok (.getfield 58, 3) := by decide +kernel
theorem dX6_gardens_21 : decode cX6_gardens 21 = .ok (.istore_n 2, 1) := by decide +kernel
theorem dX6_gardens_22 : decode cX6_gardens 22 = .ok (.aload_n 0, 1) := by decide +kernel
theorem dX6_gardens_23 : decode cX6_gardens 23 = .ok (.getfield 10, 3) := by decide +kernel
theorem dX6_gardens_26 : decode cX6_gardens 26 = .ok (.iload_n 1, 1) := by decide +kernel
theorem dX6_gardens_27 : decode cX6_gardens 27 = .ok (.invokevirtual 62, 3) := by decide +kernel
theorem dX6_gardens_30 : decode cX6_gardens 30 = .ok (.iload_n 2, 1) := by decide +kernel
theorem dX6_gardens_31 : decode cX6_gardens 31 = .ok (.ireturn, 1) := by decide +kernel
theorem dX6_guests_0 : decode cX6_guests 0 = .ok (.aload_n 0, 1) := by decide +kernel
theorem dX6_guests_1 : decode cX6_guests 1 = .ok (.getfield 10, 3) := by decide +kernel
theorem dX6_guests_4 : decode cX6_guests 4 = .ok (.iload_n 1, 1) := by decide +kernel
theorem dX6_guests_5 : decode cX6_guests 5 = .ok (.invokevirtual 66, 3) := by decide +kernel
theorem dX6_guests_8 : decode cX6_guests 8 = .ok (.ifCond .ne 7, 3) := by decide +kernel
theorem dX6_guests_11 : decode cX6_guests 11 = .ok (.ldc2_w 183, 3) := by decide +kernel
theorem dX6_guests_14 : decode cX6_guests 14 = .ok (.lreturn, 1) := by decide +kernel
theorem dX6_guests_15 : decode cX6_guests 15 = .ok (.iload_n 2, 1) := by decide +kernel
theorem dX6_guests_16 : decode cX6_guests 16 = .ok (.iconst 0, 1) := by decide +kernel
theorem dX6_guests_17 : decode cX6_guests 17 = .ok (.bipush 10, 2) := by decide +kernel
theorem dX6_guests_19 : decode cX6_guests 19 = .ok (.invokestatic 70, 3) := by decide +kernel
theorem dX6_guests_22 : decode cX6_guests 22 = .ok (.ifCond .ne 23, 3) := by decide +kernel
theorem dX6_guests_25 : decode cX6_guests 25 = .ok (.iload_n 3, 1) := by decide +kernel
theorem dX6_guests_26 : decode cX6_guests 26 = .ok (.iconst 0, 1) := by decide +kernel
theorem dX6_guests_27 : decode cX6_guests 27 = .ok (.bipush 12, 2) := by decide +kernel
theorem dX6_guests_29 : decode cX6_guests 29 = .ok (.invokestatic 70, 3) := by decide +kernel
theorem dX6_guests_32 : decode cX6_guests 32 = .ok (.ifCond .ne 13, 3) := by decide +kernel
theorem dX6_guests_35 : decode cX6_guests 35 = .ok (.iload 4, 2) := by decide +kernel
theorem dX6_guests_37 : decode cX6_guests 37 = .ok (.iconst 0, 1) := by decide +kernel
theorem dX6_guests_38 : decode cX6_guests 38 = .ok (.iconst 1, 1) := by decide +kernel
theorem dX6_guests_39 : decode cX6_guests 39 = .ok (.invokestatic 70, 3) := by decide +kernel
theorem dX6_guests_42 : decode cX6_guests 42 = .ok (.ifCond .eq 7, 3) := by decide +kernel
theorem dX6_guests_45 : decode cX6_guests 45 = .ok (.ldc2_w 185, 3) := by decide +kernel
theorem dX6_guests_48 : decode cX6_guests 48 = .ok (.lreturn, 1) := by decide +kernel
theorem dX6_guests_49 : decode cX6_guests 49 = .ok (.lconst 0, 1) := by decide +kernel
theorem dX6_guests_50 : decode cX6_guests 50 = .ok (.lstore 5, 2) := by decide +kernel
theorem dX6_guests_52 : decode cX6_guests 52 = .ok (.iconst 0, 1) := by decide +kernel
theorem dX6_guests_53 : decode cX6_guests 53 = .ok (.istore 7, 2) := by decide +kernel
theorem dX6_guests_55 : decode cX6_guests 55 = .ok (.iload 7, 2) := by decide +kernel
theorem dX6_guests_57 : decode cX6_guests 57 = .ok (.iload_n 3, 1) := by decide +kernel
theorem dX6_guests_58 : decode cX6_guests 58 = .ok (.if_icmp .gt 34, 3) := by decide +kernel
theorem dX6_guests_61 : decode cX6_guests 61 = .ok (.aload_n 0, 1) := by decide +kernel
theorem dX6_guests_62 : decode cX6_guests 62 = .ok (.getfield 10, 3) := by decide +kernel
theorem dX6_guests_65 : decode cX6_guests 65 = .ok (.iload_n 1, 1) := by decide +kernel
theorem dX6_guests_66 : decode cX6_guests 66 = .ok (.iload 7, 2) := by decide +kernel
theorem dX6_guests_68 : decode cX6_guests 68 = .ok (.invokevirtual 187, 3) := by decide +kernel
theorem dX6_guests_71 : decode cX6_guests 71 = .ok (.ifCond .eq 15, 3) := by decide +kernel
theorem dX6_guests_74 : decode cX6_guests 74 = .ok (.lload 5, 2) := by decide +kernel
theorem dX6_guests_76 : decode cX6_guests 76 = .ok (.iload 7, 2) := by decide +kernel
theorem dX6_guests_78 : decode cX6_guests 78 = .ok (.iload_n 2, 1) := by decide +kernel
theorem dX6_guests_79 : decode cX6_guests 79 = .ok (.iload_n 3, 1) := by decide +kernel
theorem dX6_guests_80 : decode cX6_guests 80 = .ok (.invokestatic 191, 3) := by decide +kernel
theorem dX6_guests_83 : decode cX6_guests 83 = .ok (.ladd, 1) := by decide +kernel
theorem dX6_guests_84 : decode cX6_guests 84 = .ok (.lstore 5, 2) := by decide +kernel
theorem dX6_guests_86 : decode cX6_guests 86 = .ok (.iinc 7 1, 3) := by decide +kernel
theorem dX6_guests_89 : decode cX6_guests 89 = .ok (.goto (-34), 3) := by decide +kernel
theorem dX6_guests_92 : decode cX6_guests 92 = .ok (.bipush 10, 2) := by decide +kernel
theorem dX6_guests_94 : decode cX6_guests 94 = .ok (.iload_n 3, 1) := by decide +kernel
theorem dX6_guests_95 : decode cX6_guests 95 = .ok (.invokestatic 195, 3) := by decide +kernel
theorem dX6_guests_98 : decode cX6_guests 98 = .ok (.lstore 7, 2) := by decide +kernel
theorem dX6_guests_100 : decode cX6_guests 100 = .ok (.lload 5, 2) := by decide +kernel
theorem dX6_guests_102 : decode cX6_guests 102 = .ok (.lload 7, 2) := by decide +kernel
theorem dX6_guests_104 : decode cX6_guests 104 = .ok (.invokestatic 199, 3) := by decide +kernel
theorem dX6_guests_107 : decode cX6_guests 107 = .ok (.lstore 9, 2) := by decide +kernel
theorem dX6_guests_109 : decode cX6_guests 109 = .ok (.lload 9, 2) := by decide +kernel
theorem dX6_guests_111 : decode cX6_guests 111 = .ok (.lconst 1, 1) := by decide +kernel
theorem dX6_guests_112 : decode cX6_guests 112 = .ok (.lcmp, 1) := by decide +kernel
theorem dX6_guests_113 : decode cX6_guests 113 = .ok (.ifCond .ge 7, 3) := by decide +kernel
theorem dX6_guests_116 : decode cX6_guests 116 = .ok (.ldc2_w 185, 3) := by decide +kernel
theorem dX6_guests_119 : decode cX6_guests 119 = .ok (.lreturn, 1) := by decide +kernel
theorem dX6_guests_120 : decode cX6_guests 120 = .ok (.iload 4, 2) := by decide +kernel
theorem dX6_guests_122 : decode cX6_guests 122 = .ok (.ifCond .ne 8, 3) := by decide +kernel
theorem dX6_guests_125 : decode cX6_guests 125 = .ok (.lload 5, 2) := by decide +kernel
theorem dX6_guests_127 : decode cX6_guests 127 = .ok (.goto 5, 3) := by decide +kernel
theorem dX6_guests_130 : decode cX6_guests 130 = .ok (.lload 7, 2) := by decide +kernel
theorem dX6_guests_132 : decode cX6_guests 132 = .ok (.lload 9, 2) := by decide +kernel
theorem dX6_guests_134 : decode cX6_guests 134 = .ok (.ldiv, 1) := by decide +kernel
theorem dX6_guests_135 : decode cX6_guests 135 = .ok (.lreturn, 1) := by decide +kernel
theorem dX6_holds_0 : decode cX6_holds 0 = .ok (.aload_n 0, 1) := by decide +kernel
theorem dX6_holds_1 : decode cX6_holds 1 = .ok (.getfield 10, 3) := by decide +kernel
theorem dX6_holds_4 : decode cX6_holds 4 = .ok (.iload_n 1, 1) := by decide +kernel
theorem dX6_holds_5 : decode cX6_holds 5 = .ok (.invokevirtual 66, 3) := by decide +kernel
theorem dX6_holds_8 : decode cX6_holds 8 = .ok (.ifCond .ne 5, 3) := by decide +kernel
theorem dX6_holds_11 : decode cX6_holds 11 = .ok (.iconst (-1), 1) := by decide +kernel
theorem dX6_holds_12 : decode cX6_holds 12 = .ok (.ireturn, 1) := by decide +kernel
theorem dX6_holds_13 : decode cX6_holds 13 = .ok (.aload_n 0, 1) := by decide +kernel
theorem dX6_holds_14 : decode cX6_holds 14 = .ok (.getfield 10, 3) := by decide +kernel
theorem dX6_holds_17 : decode cX6_holds 17 = .ok (.getfield 74, 3) := by decide +kernel
theorem dX6_holds_20 : decode cX6_holds 20 = .ok (.iload_n 1, 1) := by decide +kernel
theorem dX6_holds_21 : decode cX6_holds 21 = .ok (.iaload, 1) := by decide +kernel
theorem dX6_holds_22 : decode cX6_holds 22 = .ok (.ifCond .ne 6, 3) := by decide +kernel
theorem dX6_holds_25 : decode cX6_holds 25 = .ok (.bipush (-3), 2) := by decide +kernel
theorem dX6_holds_27 : decode cX6_holds 27 = .ok (.ireturn, 1) := by decide +kernel
theorem dX6_holds_28 : decode cX6_holds 28 = .ok (.sipush 1000, 3) := by decide +kernel
theorem dX6_holds_31 : decode cX6_holds 31 = .ok (.istore_n 2, 1) := by decide +kernel
theorem dX6_holds_32 : decode cX6_holds 32 = .ok (.iload_n 1, 1) := by decide +kernel
theorem dX6_holds_33 : decode cX6_holds 33 = .ok (.iconst 1, 1) := by decide +kernel
theorem dX6_holds_34 : decode cX6_holds 34 = .ok (.iadd, 1) := by decide +kernel
theorem dX6_holds_35 : decode cX6_holds 35 = .ok (.istore_n 3, 1) := by decide +kernel
theorem dX6_holds_36 : decode cX6_holds 36 = .ok (.iload_n 3, 1) := by decide +kernel
theorem dX6_holds_37 : decode cX6_holds 37 = .ok (.aload_n 0, 1) := by decide +kernel
theorem dX6_holds_38 : decode cX6_holds 38 = .ok (.getfield 10, 3) := by decide +kernel
theorem dX6_holds_41 : decode cX6_holds 41 = .ok (.getfield 58, 3) := by decide +kernel
theorem dX6_holds_44 : decode cX6_holds 44 = .ok (.if_icmp .ge 31, 3) := by decide +kernel
theorem dX6_holds_47 : decode cX6_holds 47 = .ok (.iload_n 3, 1) := by decide +kernel
theorem dX6_holds_48 : decode cX6_holds 48 = .ok (.bipush 8, 2) := by decide +kernel
theorem dX6_holds_50 : decode cX6_holds 50 = .ok (.if_icmp .ge 25, 3) := by decide +kernel
theorem dX6_holds_53 : decode cX6_holds 53 = .ok (.iload_n 2, 1) := by decide +kernel
theorem dX6_holds_54 : decode cX6_holds 54 = .ok (.aload_n 0, 1) := by decide +kernel
theorem dX6_holds_55 : decode cX6_holds 55 = .ok (.getfield 10, 3) := by decide +kernel
theorem dX6_holds_58 : decode cX6_holds 58 = .ok (.getfield 74, 3) := by decide +kernel
theorem dX6_holds_61 : decode cX6_holds 61 = .ok (.iload_n 3, 1) := by decide +kernel
theorem dX6_holds_62 : decode cX6_holds 62 = .ok (.iaload, 1) := by decide +kernel
theorem dX6_holds_63 : decode cX6_holds 63 = .ok (.iconst 1, 1) := by decide +kernel
theorem dX6_holds_64 : decode cX6_holds 64 = .ok (.iadd, 1) := by decide +kernel
theorem dX6_holds_65 : decode cX6_holds 65 = .ok (.invokestatic 147, 3) := by decide +kernel
theorem dX6_holds_68 : decode cX6_holds 68 = .ok (.istore_n 2, 1) := by decide +kernel
theorem dX6_holds_69 : decode cX6_holds 69 = .ok (.iinc 3 1, 3) := by decide +kernel
theorem dX6_holds_72 : decode cX6_holds 72 = .ok (.goto (-36), 3) := by decide +kernel
theorem dX6_holds_75 : decode cX6_holds 75 = .ok (.iload_n 2, 1) := by decide +kernel
theorem dX6_holds_76 : decode cX6_holds 76 = .ok (.aload_n 0, 1) := by decide +kernel
theorem dX6_holds_77 : decode cX6_holds 77 = .ok (.getfield 10, 3) := by decide +kernel
theorem dX6_holds_80 : decode cX6_holds 80 = .ok (.getfield 74, 3) := by decide +kernel
theorem dX6_holds_83 : decode cX6_holds 83 = .ok (.iload_n 1, 1) := by decide +kernel
theorem dX6_holds_84 : decode cX6_holds 84 = .ok (.iaload, 1) := by decide +kernel
theorem dX6_holds_85 : decode cX6_holds 85 = .ok (.if_icmp .gt 7, 3) := by decide +kernel
theorem dX6_holds_88 : decode cX6_holds 88 = .ok (.iload_n 2, 1) := by decide +kernel
theorem dX6_holds_89 : decode cX6_holds 89 = .ok (.goto 5, 3) := by decide +kernel
theorem dX6_holds_92 : decode cX6_holds 92 = .ok (.bipush (-6), 2) := by decide +kernel
theorem dX6_holds_94 : decode cX6_holds 94 = .ok (.ireturn, 1) := by decide +kernel
theorem dX6_image_0 : decode cX6_image 0 = .ok (.iload_n 1, 1) := by decide +kernel
theorem dX6_image_1 : decode cX6_image 1 = .ok (.iconst 0, 1) := by decide +kernel
theorem dX6_image_2 : decode cX6_image 2 = .ok (.iconst 1, 1) := by decide +kernel
theorem dX6_image_3 : decode cX6_image 3 = .ok (.invokestatic 70, 3) := by decide +kernel
theorem dX6_image_6 : decode cX6_image 6 = .ok (.ifCond .eq 6, 3) := by decide +kernel
theorem dX6_image_9 : decode cX6_image 9 = .ok (.bipush (-2), 2) := by decide +kernel
theorem dX6_image_11 : decode cX6_image 11 = .ok (.ireturn, 1) := by decide +kernel
theorem dX6_image_12 : decode cX6_image 12 = .ok (.aload_n 0, 1) := by decide +kernel
theorem dX6_image_13 : decode cX6_image 13 = .ok (.getfield 19, 3) := by decide +kernel
theorem dX6_image_16 : decode cX6_image 16 = .ok (.iload_n 1, 1) := by decide +kernel
theorem dX6_image_17 : decode cX6_image 17 = .ok (.aaload, 1) := by decide +kernel
theorem dX6_image_18 : decode cX6_image 18 = .ok (.ifnonnull 16, 3) := by decide +kernel
theorem dX6_image_21 : decode cX6_image 21 = .ok (.aload_n 0, 1) := by decide +kernel
theorem dX6_image_22 : decode cX6_image 22 = .ok (.getfield 19, 3) := by decide +kernel
theorem dX6_image_25 : decode cX6_image 25 = .ok (.iload_n 1, 1) := by decide +kernel
theorem dX6_image_26 : decode cX6_image 26 = .ok (.new 7, 3) := by decide +kernel
theorem dX6_image_29 : decode cX6_image 29 = .ok (.dup, 1) := by decide +kernel
theorem dX6_image_30 : decode cX6_image 30 = .ok (.invokespecial 9, 3) := by decide +kernel
theorem dX6_image_33 : decode cX6_image 33 = .ok (.aastore, 1) := by decide +kernel
theorem dX6_image_34 : decode cX6_image 34 = .ok (.aload_n 0, 1) := by decide +kernel
theorem dX6_image_35 : decode cX6_image 35 = .ok (.getfield 19, 3) := by decide +kernel
theorem dX6_image_38 : decode cX6_image 38 = .ok (.iload_n 1, 1) := by decide +kernel
theorem dX6_image_39 : decode cX6_image 39 = .ok (.aaload, 1) := by decide +kernel
theorem dX6_image_40 : decode cX6_image 40 = .ok (.aload_n 0, 1) := by decide +kernel
theorem dX6_image_41 : decode cX6_image 41 = .ok (.getfield 10, 3) := by decide +kernel
theorem dX6_image_44 : decode cX6_image 44 = .ok (.invokevirtual 97, 3) := by decide +kernel
theorem dX6_image_47 : decode cX6_image 47 = .ok (.iconst 1, 1) := by decide +kernel
theorem dX6_image_48 : decode cX6_image 48 = .ok (.ireturn, 1) := by decide +kernel
theorem dX6_init_0 : decode cX6_init 0 = .ok (.aload_n 0, 1) := by decide +kernel
theorem dX6_init_1 : decode cX6_init 1 = .ok (.invokespecial 1, 3) := by decide +kernel
theorem dX6_init_4 : decode cX6_init 4 = .ok (.aload_n 0, 1) := by decide +kernel
theorem dX6_init_5 : decode cX6_init 5 = .ok (.new 7, 3) := by decide +kernel
theorem dX6_init_8 : decode cX6_init 8 = .ok (.dup, 1) := by decide +kernel
theorem dX6_init_9 : decode cX6_init 9 = .ok (.invokespecial 9, 3) := by decide +kernel
theorem dX6_init_12 : decode cX6_init 12 = .ok (.putfield 10, 3) := by decide +kernel
theorem dX6_init_15 : decode cX6_init 15 = .ok (.aload_n 0, 1) := by decide +kernel
theorem dX6_init_16 : decode cX6_init 16 = .ok (.new 7, 3) := by decide +kernel
theorem dX6_init_19 : decode cX6_init 19 = .ok (.dup, 1) := by decide +kernel
theorem dX6_init_20 : decode cX6_init 20 = .ok (.invokespecial 9, 3) := by decide +kernel
theorem dX6_init_23 : decode cX6_init 23 = .ok (.putfield 16, 3) := by decide +kernel
theorem dX6_init_26 : decode cX6_init 26 = .ok (.aload_n 0, 1) := by decide +kernel
theorem dX6_init_27 : decode cX6_init 27 = .ok (.iconst 2, 1) := by decide +kernel
theorem dX6_init_28 : decode cX6_init 28 = .ok (.anewarray 7, 3) := by decide +kernel
theorem dX6_init_31 : decode cX6_init 31 = .ok (.putfield 19, 3) := by decide +kernel
theorem dX6_init_34 : decode cX6_init 34 = .ok (.aload_n 0, 1) := by decide +kernel
theorem dX6_init_35 : decode cX6_init 35 = .ok (.new 23, 3) := by decide +kernel
theorem dX6_init_38 : decode cX6_init 38 = .ok (.dup, 1) := by decide +kernel
theorem dX6_init_39 : decode cX6_init 39 = .ok (.invokespecial 25, 3) := by decide +kernel
theorem dX6_init_42 : decode cX6_init 42 = .ok (.putfield 26, 3) := by decide +kernel
theorem dX6_init_45 : decode cX6_init 45 = .ok (.aload_n 0, 1) := by decide +kernel
theorem dX6_init_46 : decode cX6_init 46 = .ok (.new 30, 3) := by decide +kernel
theorem dX6_init_49 : decode cX6_init 49 = .ok (.dup, 1) := by decide +kernel
theorem dX6_init_50 : decode cX6_init 50 = .ok (.invokespecial 32, 3) := by decide +kernel
theorem dX6_init_53 : decode cX6_init 53 = .ok (.putfield 33, 3) := by decide +kernel
theorem dX6_init_56 : decode cX6_init 56 = .ok (.aload_n 0, 1) := by decide +kernel
theorem dX6_init_57 : decode cX6_init 57 = .ok (.new 37, 3) := by decide +kernel
theorem dX6_init_60 : decode cX6_init 60 = .ok (.dup, 1) := by decide +kernel
theorem dX6_init_61 : decode cX6_init 61 = .ok (.invokespecial 39, 3) := by decide +kernel
theorem dX6_init_64 : decode cX6_init 64 = .ok (.putfield 40, 3) := by decide +kernel
theorem dX6_init_67 : decode cX6_init 67 = .ok (.aload_n 0, 1) := by decide +kernel
theorem dX6_init_68 : decode cX6_init 68 = .ok (.new 44, 3) := by decide +kernel
theorem dX6_init_71 : decode cX6_init 71 = .ok (.dup, 1) := by decide +kernel
theorem dX6_init_72 : decode cX6_init 72 = .ok (.invokespecial 46, 3) := by decide +kernel
theorem dX6_init_75 : decode cX6_init 75 = .ok (.putfield 47, 3) := by decide +kernel
theorem dX6_init_78 : decode cX6_init 78 = .ok (.aload_n 0, 1) := by decide +kernel
theorem dX6_init_79 : decode cX6_init 79 = .ok (.new 51, 3) := by decide +kernel
theorem dX6_init_82 : decode cX6_init 82 = .ok (.dup, 1) := by decide +kernel
theorem dX6_init_83 : decode cX6_init 83 = .ok (.invokespecial 53, 3) := by decide +kernel
theorem dX6_init_86 : decode cX6_init 86 = .ok (.putfield 54, 3) := by decide +kernel
theorem dX6_init_89 : decode cX6_init 89 = .ok (.return_, 1) := by decide +kernel
theorem dX6_isOutside_0 : decode cX6_isOutside 0 = .ok (.iload_n 0, 1) := by decide +kernel
theorem dX6_isOutside_1 : decode cX6_isOutside 1 = .ok (.iload_n 1, 1) := by decide +kernel
theorem dX6_isOutside_2 : decode cX6_isOutside 2 = .ok (.if_icmp .lt 8, 3) := by decide +kernel
theorem dX6_isOutside_5 : decode cX6_isOutside 5 = .ok (.iload_n 0, 1) := by decide +kernel
theorem dX6_isOutside_6 : decode cX6_isOutside 6 = .ok (.iload_n 2, 1) := by decide +kernel
theorem dX6_isOutside_7 : decode cX6_isOutside 7 = .ok (.if_icmp .le 7, 3) := by decide +kernel
theorem dX6_isOutside_10 : decode cX6_isOutside 10 = .ok (.iconst 1, 1) := by decide +kernel
theorem dX6_isOutside_11 : decode cX6_isOutside 11 = .ok (.goto 4, 3) := by decide +kernel
theorem dX6_isOutside_14 : decode cX6_isOutside 14 = .ok (.iconst 0, 1) := by decide +kernel
theorem dX6_isOutside_15 : decode cX6_isOutside 15 = .ok (.ireturn, 1) := by decide +kernel
theorem dX6_judge_0 : decode cX6_judge 0 = .ok (.iload_n 1, 1) := by decide +kernel
theorem dX6_judge_1 : decode cX6_judge 1 = .ok (.iconst 0, 1) := by decide +kernel
theorem dX6_judge_2 : decode cX6_judge 2 = .ok (.iconst 1, 1) := by decide +kernel
theorem dX6_judge_3 : decode cX6_judge 3 = .ok (.invokestatic 70, 3) := by decide +kernel
theorem dX6_judge_6 : decode cX6_judge 6 = .ok (.ifCond .eq 6, 3) := by decide +kernel
theorem dX6_judge_9 : decode cX6_judge 9 = .ok (.bipush (-2), 2) := by decide +kernel
theorem dX6_judge_11 : decode cX6_judge 11 = .ok (.ireturn, 1) := by decide +kernel
theorem dX6_judge_12 : decode cX6_judge 12 = .ok (.aload_n 0, 1) := by decide +kernel
theorem dX6_judge_13 : decode cX6_judge 13 = .ok (.getfield 26, 3) := by decide +kernel
theorem dX6_judge_16 : decode cX6_judge 16 = .ok (.aload_n 0, 1) := by decide +kernel
theorem dX6_judge_17 : decode cX6_judge 17 = .ok (.getfield 10, 3) := by decide +kernel
theorem dX6_judge_20 : decode cX6_judge 20 = .ok (.getfield 58, 3) := by decide +kernel
theorem dX6_judge_23 : decode cX6_judge 23 = .ok (.invokevirtual 93, 3) := by decide +kernel
theorem dX6_judge_26 : decode cX6_judge 26 = .ok (.bipush (-6), 2) := by decide +kernel
theorem dX6_judge_28 : decode cX6_judge 28 = .ok (.if_icmp .eq 6, 3) := by decide +kernel
theorem dX6_judge_31 : decode cX6_judge 31 = .ok (.bipush (-5), 2) := by decide +kernel
theorem dX6_judge_33 : decode cX6_judge 33 = .ok (.ireturn, 1) := by decide +kernel
theorem dX6_judge_34 : decode cX6_judge 34 = .ok (.aload_n 0, 1) := by decide +kernel
theorem dX6_judge_35 : decode cX6_judge 35 = .ok (.getfield 16, 3) := by decide +kernel
theorem dX6_judge_38 : decode cX6_judge 38 = .ok (.aload_n 0, 1) := by decide +kernel
theorem dX6_judge_39 : decode cX6_judge 39 = .ok (.getfield 10, 3) := by decide +kernel
theorem dX6_judge_42 : decode cX6_judge 42 = .ok (.invokevirtual 97, 3) := by decide +kernel
theorem dX6_judge_45 : decode cX6_judge 45 = .ok (.aload_n 0, 1) := by decide +kernel
theorem dX6_judge_46 : decode cX6_judge 46 = .ok (.getfield 26, 3) := by decide +kernel
theorem dX6_judge_49 : decode cX6_judge 49 = .ok (.aload_n 0, 1) := by decide +kernel
theorem dX6_judge_50 : decode cX6_judge 50 = .ok (.getfield 16, 3) := by decide +kernel
theorem dX6_judge_53 : decode cX6_judge 53 = .ok (.invokevirtual 101, 3) := by decide +kernel
theorem dX6_judge_56 : decode cX6_judge 56 = .ok (.istore_n 2, 1) := by decide +kernel
theorem dX6_judge_57 : decode cX6_judge 57 = .ok (.iload_n 1, 1) := by decide +kernel
theorem dX6_judge_58 : decode cX6_judge 58 = .ok (.ifCond .ne 7, 3) := by decide +kernel
theorem dX6_judge_61 : decode cX6_judge 61 = .ok (.iload_n 2, 1) := by decide +kernel
theorem dX6_judge_62 : decode cX6_judge 62 = .ok (.goto 10, 3) := by decide +kernel
theorem dX6_judge_65 : decode cX6_judge 65 = .ok (.aload_n 0, 1) := by decide +kernel
theorem dX6_judge_66 : decode cX6_judge 66 = .ok (.getfield 26, 3) := by decide +kernel
theorem dX6_judge_69 : decode cX6_judge 69 = .ok (.getfield 105, 3) := by decide +kernel
theorem dX6_judge_72 : decode cX6_judge 72 = .ok (.ireturn, 1) := by decide +kernel
theorem dX6_laws_0 : decode cX6_laws 0 = .ok (.aload_n 0, 1) := by decide +kernel
theorem dX6_laws_1 : decode cX6_laws 1 = .ok (.getfield 26, 3) := by decide +kernel
theorem dX6_laws_4 : decode cX6_laws 4 = .ok (.aload_n 0, 1) := by decide +kernel
theorem dX6_laws_5 : decode cX6_laws 5 = .ok (.getfield 10, 3) := by decide +kernel
theorem dX6_laws_8 : decode cX6_laws 8 = .ok (.getfield 58, 3) := by decide +kernel
theorem dX6_laws_11 : decode cX6_laws 11 = .ok (.invokevirtual 93, 3) := by decide +kernel
theorem dX6_laws_14 : decode cX6_laws 14 = .ok (.bipush (-6), 2) := by decide +kernel
theorem dX6_laws_16 : decode cX6_laws 16 = .ok (.if_icmp .eq 6, 3) := by decide +kernel
theorem dX6_laws_19 : decode cX6_laws 19 = .ok (.bipush (-5), 2) := by decide +kernel
theorem dX6_laws_21 : decode cX6_laws 21 = .ok (.ireturn, 1) := by decide +kernel
theorem dX6_laws_22 : decode cX6_laws 22 = .ok (.aload_n 0, 1) := by decide +kernel
theorem dX6_laws_23 : decode cX6_laws 23 = .ok (.getfield 16, 3) := by decide +kernel
theorem dX6_laws_26 : decode cX6_laws 26 = .ok (.aload_n 0, 1) := by decide +kernel
theorem dX6_laws_27 : decode cX6_laws 27 = .ok (.getfield 10, 3) := by decide +kernel
theorem dX6_laws_30 : decode cX6_laws 30 = .ok (.invokevirtual 97, 3) := by decide +kernel
theorem dX6_laws_33 : decode cX6_laws 33 = .ok (.iconst 0, 1) := by decide +kernel
theorem dX6_laws_34 : decode cX6_laws 34 = .ok (.istore_n 2, 1) := by decide +kernel
theorem dX6_laws_35 : decode cX6_laws 35 = .ok (.iconst 0, 1) := by decide +kernel
theorem dX6_laws_36 : decode cX6_laws 36 = .ok (.istore_n 3, 1) := by decide +kernel
theorem dX6_laws_37 : decode cX6_laws 37 = .ok (.iload_n 3, 1) := by decide +kernel
theorem dX6_laws_38 : decode cX6_laws 38 = .ok (.iconst 5, 1) := by decide +kernel
theorem dX6_laws_39 : decode cX6_laws 39 = .ok (.if_icmp .gt 80, 3) := by decide +kernel
theorem dX6_laws_42 : decode cX6_laws 42 = .ok (.iconst 0, 1) := by decide +kernel
theorem dX6_laws_43 : decode cX6_laws 43 = .ok (.istore 4, 2) := by decide +kernel
theorem dX6_laws_45 : decode cX6_laws 45 = .ok (.iload 4, 2) := by decide +kernel
theorem dX6_laws_47 : decode cX6_laws 47 = .ok (.iconst 5, 1) := by decide +kernel
theorem dX6_laws_48 : decode cX6_laws 48 = .ok (.if_icmp .gt 65, 3) := by decide +kernel
theorem dX6_laws_51 : decode cX6_laws 51 = .ok (.iconst 0, 1) := by decide +kernel
theorem dX6_laws_52 : decode cX6_laws 52 = .ok (.istore 5, 2) := by decide +kernel
theorem dX6_laws_54 : decode cX6_laws 54 = .ok (.iload 5, 2) := by decide +kernel
theorem dX6_laws_56 : decode cX6_laws 56 = .ok (.iconst 5, 1) := by decide +kernel
theorem dX6_laws_57 : decode cX6_laws 57 = .ok (.if_icmp .gt 50, 3) := by decide +kernel
theorem dX6_laws_60 : decode cX6_laws 60 = .ok (.aload_n 0, 1) := by decide +kernel
theorem dX6_laws_61 : decode cX6_laws 61 = .ok (.getfield 26, 3) := by decide +kernel
theorem dX6_laws_64 : decode cX6_laws 64 = .ok (.aload_n 0, 1) := by decide +kernel
theorem dX6_laws_65 : decode cX6_laws 65 = .ok (.getfield 16, 3) := by decide +kernel
theorem dX6_laws_68 : decode cX6_laws 68 = .ok (.iload_n 3, 1) := by decide +kernel
theorem dX6_laws_69 : decode cX6_laws 69 = .ok (.iload 4, 2) := by decide +kernel
theorem dX6_laws_71 : decode cX6_laws 71 = .ok (.iload 5, 2) := by decide +kernel
theorem dX6_laws_73 : decode cX6_laws 73 = .ok (.invokevirtual 179, 3) := by decide +kernel
theorem dX6_laws_76 : decode cX6_laws 76 = .ok (.ifCond .eq 25, 3) := by decide +kernel
theorem dX6_laws_79 : decode cX6_laws 79 = .ok (.iload_n 2, 1) := by decide +kernel
theorem dX6_laws_80 : decode cX6_laws 80 = .ok (.iload_n 1, 1) := by decide +kernel
theorem dX6_laws_81 : decode cX6_laws 81 = .ok (.if_icmp .ne 17, 3) := by decide +kernel
theorem dX6_laws_84 : decode cX6_laws 84 = .ok (.bipush 100, 2) := by decide +kernel
theorem dX6_laws_86 : decode cX6_laws 86 = .ok (.iload_n 3, 1) := by decide +kernel
theorem dX6_laws_87 : decode cX6_laws 87 = .ok (.imul, 1) := by decide +kernel
theorem dX6_laws_88 : decode cX6_laws 88 = .ok (.bipush 10, 2) := by decide +kernel
theorem dX6_laws_90 : decode cX6_laws 90 = .ok (.iload 4, 2) := by decide +kernel
theorem dX6_laws_92 : decode cX6_laws 92 = .ok (.imul, 1) := by decide +kernel
theorem dX6_laws_93 : decode cX6_laws 93 = .ok (.iadd, 1) := by decide +kernel
theorem dX6_laws_94 : decode cX6_laws 94 = .ok (.iload 5, 2) := by decide +kernel
theorem dX6_laws_96 : decode cX6_laws 96 = .ok (.iadd, 1) := by decide +kernel
theorem dX6_laws_97 : decode cX6_laws 97 = .ok (.ireturn, 1) := by decide +kernel
theorem dX6_laws_98 : decode cX6_laws 98 = .ok (.iinc 2 1, 3) := by decide +kernel
theorem dX6_laws_101 : decode cX6_laws 101 = .ok (.iinc 5 1, 3) := by decide +kernel
theorem dX6_laws_104 : decode cX6_laws 104 = .ok (.goto (-50), 3) := by decide +kernel
theorem dX6_laws_107 : decode cX6_laws 107 = .ok (.iinc 4 1, 3) := by decide +kernel
theorem dX6_laws_110 : decode cX6_laws 110 = .ok (.goto (-65), 3) := by decide +kernel
theorem dX6_laws_113 : decode cX6_laws 113 = .ok (.iinc 3 1, 3) := by decide +kernel
theorem dX6_laws_116 : decode cX6_laws 116 = .ok (.goto (-79), 3) := by decide +kernel
theorem dX6_laws_119 : decode cX6_laws 119 = .ok (.iload_n 1, 1) := by decide +kernel
theorem dX6_laws_120 : decode cX6_laws 120 = .ok (.iconst (-1), 1) := by decide +kernel
theorem dX6_laws_121 : decode cX6_laws 121 = .ok (.if_icmp .ne 7, 3) := by decide +kernel
theorem dX6_laws_124 : decode cX6_laws 124 = .ok (.iload_n 2, 1) := by decide +kernel
theorem dX6_laws_125 : decode cX6_laws 125 = .ok (.goto 5, 3) := by decide +kernel
theorem dX6_laws_128 : decode cX6_laws 128 = .ok (.bipush (-6), 2) := by decide +kernel
theorem dX6_laws_130 : decode cX6_laws 130 = .ok (.ireturn, 1) := by decide +kernel
theorem dX6_next_0 : decode cX6_next 0 = .ok (.iload_n 1, 1) := by decide +kernel
theorem dX6_next_1 : decode cX6_next 1 = .ok (.iconst 0, 1) := by decide +kernel
theorem dX6_next_2 : decode cX6_next 2 = .ok (.iconst 3, 1) := by decide +kernel
theorem dX6_next_3 : decode cX6_next 3 = .ok (.invokestatic 70, 3) := by decide +kernel
theorem dX6_next_6 : decode cX6_next 6 = .ok (.ifCond .ne 12, 3) := by decide +kernel
theorem dX6_next_9 : decode cX6_next 9 = .ok (.iload_n 2, 1) := by decide +kernel
theorem dX6_next_10 : decode cX6_next 10 = .ok (.iconst 0, 1) := by decide +kernel
theorem dX6_next_11 : decode cX6_next 11 = .ok (.iconst 1, 1) := by decide +kernel
theorem dX6_next_12 : decode cX6_next 12 = .ok (.invokestatic 70, 3) := by decide +kernel
theorem dX6_next_15 : decode cX6_next 15 = .ok (.ifCond .eq 6, 3) := by decide +kernel
theorem dX6_next_18 : decode cX6_next 18 = .ok (.bipush (-2), 2) := by decide +kernel
theorem dX6_next_20 : decode cX6_next 20 = .ok (.ireturn, 1) := by decide +kernel
theorem dX6_next_21 : decode cX6_next 21 = .ok (.aload_n 0, 1) := by decide +kernel
theorem dX6_next_22 : decode cX6_next 22 = .ok (.getfield 47, 3) := by decide +kernel
theorem dX6_next_25 : decode cX6_next 25 = .ok (.aload_n 0, 1) := by decide +kernel
theorem dX6_next_26 : decode cX6_next 26 = .ok (.getfield 10, 3) := by decide +kernel
theorem dX6_next_29 : decode cX6_next 29 = .ok (.iload_n 1, 1) := by decide +kernel
theorem dX6_next_30 : decode cX6_next 30 = .ok (.invokevirtual 159, 3) := by decide +kernel
theorem dX6_next_33 : decode cX6_next 33 = .ok (.aload_n 0, 1) := by decide +kernel
theorem dX6_next_34 : decode cX6_next 34 = .ok (.getfield 47, 3) := by decide +kernel
theorem dX6_next_37 : decode cX6_next 37 = .ok (.invokevirtual 172, 3) := by decide +kernel
theorem dX6_next_40 : decode cX6_next 40 = .ok (.istore_n 3, 1) := by decide +kernel
theorem dX6_next_41 : decode cX6_next 41 = .ok (.iload_n 2, 1) := by decide +kernel
theorem dX6_next_42 : decode cX6_next 42 = .ok (.ifCond .eq 9, 3) := by decide +kernel
theorem dX6_next_45 : decode cX6_next 45 = .ok (.iload_n 3, 1) := by decide +kernel
theorem dX6_next_46 : decode cX6_next 46 = .ok (.bipush (-6), 2) := by decide +kernel
theorem dX6_next_48 : decode cX6_next 48 = .ok (.if_icmp .ne 7, 3) := by decide +kernel
theorem dX6_next_51 : decode cX6_next 51 = .ok (.iload_n 3, 1) := by decide +kernel
theorem dX6_next_52 : decode cX6_next 52 = .ok (.goto 11, 3) := by decide +kernel
theorem dX6_next_55 : decode cX6_next 55 = .ok (.aload_n 0, 1) := by decide +kernel
theorem dX6_next_56 : decode cX6_next 56 = .ok (.getfield 47, 3) := by decide +kernel
theorem dX6_next_59 : decode cX6_next 59 = .ok (.iload_n 3, 1) := by decide +kernel
theorem dX6_next_60 : decode cX6_next 60 = .ok (.invokevirtual 176, 3) := by decide +kernel
theorem dX6_next_63 : decode cX6_next 63 = .ok (.ireturn, 1) := by decide +kernel
theorem dX6_passNight_0 : decode cX6_passNight 0 = .ok (.iconst 0, 1) := by decide +kernel
theorem dX6_passNight_1 : decode cX6_passNight 1 = .ok (.istore_n 2, 1) := by decide +kernel
theorem dX6_passNight_2 : decode cX6_passNight 2 = .ok (.iconst 0, 1) := by decide +kernel
theorem dX6_passNight_3 : decode cX6_passNight 3 = .ok (.istore_n 3, 1) := by decide +kernel
theorem dX6_passNight_4 : decode cX6_passNight 4 = .ok (.iload_n 3, 1) := by decide +kernel
theorem dX6_passNight_5 : decode cX6_passNight 5 = .ok (.iload_n 1, 1) := by decide +kernel
theorem dX6_passNight_6 : decode cX6_passNight 6 = .ok (.if_icmp .ge 75, 3) := by decide +kernel
theorem dX6_passNight_9 : decode cX6_passNight 9 = .ok (.iload_n 3, 1) := by decide +kernel
theorem dX6_passNight_10 : decode cX6_passNight 10 = .ok (.aload_n 0, 1) := by decide +kernel
theorem dX6_passNight_11 : decode cX6_passNight 11 = .ok (.arraylength, 1) := by decide +kernel
theorem dX6_passNight_12 : decode cX6_passNight 12 = .ok (.if_icmp .ge 69, 3) := by decide +kernel
theorem dX6_passNight_15 : decode cX6_passNight 15 = .ok (.iload_n 3, 1) := by decide +kernel
theorem dX6_passNight_16 : decode cX6_passNight 16 = .ok (.iconst 1, 1) := by decide +kernel
theorem dX6_passNight_17 : decode cX6_passNight 17 = .ok (.iadd, 1) := by decide +kernel
theorem dX6_passNight_18 : decode cX6_passNight 18 = .ok (.iload_n 1, 1) := by decide +kernel
theorem dX6_passNight_19 : decode cX6_passNight 19 = .ok (.if_icmp .ge 15, 3) := by decide +kernel
theorem dX6_passNight_22 : decode cX6_passNight 22 = .ok (.iload_n 3, 1) := by decide +kernel
theorem dX6_passNight_23 : decode cX6_passNight 23 = .ok (.iconst 1, 1) := by decide +kernel
theorem dX6_passNight_24 : decode cX6_passNight 24 = .ok (.iadd, 1) := by decide +kernel
theorem dX6_passNight_25 : decode cX6_passNight 25 = .ok (.aload_n 0, 1) := by decide +kernel
theorem dX6_passNight_26 : decode cX6_passNight 26 = .ok (.arraylength, 1) := by decide +kernel
theorem dX6_passNight_27 : decode cX6_passNight 27 = .ok (.if_icmp .ge 7, 3) := by decide +kernel
theorem dX6_passNight_30 : decode cX6_passNight 30 = .ok (.iconst 1, 1) := by decide +kernel
theorem dX6_passNight_31 : decode cX6_passNight 31 = .ok (.goto 4, 3) := by decide +kernel
theorem dX6_passNight_34 : decode cX6_passNight 34 = .ok (.iconst 0, 1) := by decide +kernel
theorem dX6_passNight_35 : decode cX6_passNight 35 = .ok (.istore 4, 2) := by decide +kernel
theorem dX6_passNight_37 : decode cX6_passNight 37 = .ok (.iload 4, 2) := by decide +kernel
theorem dX6_passNight_39 : decode cX6_passNight 39 = .ok (.ifCond .eq 20, 3) := by decide +kernel
theorem dX6_passNight_42 : decode cX6_passNight 42 = .ok (.aload_n 0, 1) := by decide +kernel
theorem dX6_passNight_43 : decode cX6_passNight 43 = .ok (.iload_n 3, 1) := by decide +kernel
theorem dX6_passNight_44 : decode cX6_passNight 44 = .ok (.iaload, 1) := by decide +kernel
theorem dX6_passNight_45 : decode cX6_passNight 45 = .ok (.aload_n 0, 1) := by decide +kernel
theorem dX6_passNight_46 : decode cX6_passNight 46 = .ok (.iload_n 3, 1) := by decide +kernel
theorem dX6_passNight_47 : decode cX6_passNight 47 = .ok (.iconst 1, 1) := by decide +kernel
theorem dX6_passNight_48 : decode cX6_passNight 48 = .ok (.iadd, 1) := by decide +kernel
theorem dX6_passNight_49 : decode cX6_passNight 49 = .ok (.iaload, 1) := by decide +kernel
theorem dX6_passNight_50 : decode cX6_passNight 50 = .ok (.iconst 2, 1) := by decide +kernel
theorem dX6_passNight_51 : decode cX6_passNight 51 = .ok (.iadd, 1) := by decide +kernel
theorem dX6_passNight_52 : decode cX6_passNight 52 = .ok (.if_icmp .lt 7, 3) := by decide +kernel
theorem dX6_passNight_55 : decode cX6_passNight 55 = .ok (.iconst 1, 1) := by decide +kernel
theorem dX6_passNight_56 : decode cX6_passNight 56 = .ok (.goto 4, 3) := by decide +kernel
theorem dX6_passNight_59 : decode cX6_passNight 59 = .ok (.iconst 0, 1) := by decide +kernel
theorem dX6_passNight_60 : decode cX6_passNight 60 = .ok (.istore 5, 2) := by decide +kernel
theorem dX6_passNight_62 : decode cX6_passNight 62 = .ok (.aload_n 0, 1) := by decide +kernel
theorem dX6_passNight_63 : decode cX6_passNight 63 = .ok (.iload_n 3, 1) := by decide +kernel
theorem dX6_passNight_64 : decode cX6_passNight 64 = .ok (.dup2, 1) := by decide +kernel
theorem dX6_passNight_65 : decode cX6_passNight 65 = .ok (.iaload, 1) := by decide +kernel
theorem dX6_passNight_66 : decode cX6_passNight 66 = .ok (.iload_n 2, 1) := by decide +kernel
theorem dX6_passNight_67 : decode cX6_passNight 67 = .ok (.iload 5, 2) := by decide +kernel
theorem dX6_passNight_69 : decode cX6_passNight 69 = .ok (.isub, 1) := by decide +kernel
theorem dX6_passNight_70 : decode cX6_passNight 70 = .ok (.iadd, 1) := by decide +kernel
theorem dX6_passNight_71 : decode cX6_passNight 71 = .ok (.iastore, 1) := by decide +kernel
theorem dX6_passNight_72 : decode cX6_passNight 72 = .ok (.iload 5, 2) := by decide +kernel
theorem dX6_passNight_74 : decode cX6_passNight 74 = .ok (.istore_n 2, 1) := by decide +kernel
theorem dX6_passNight_75 : decode cX6_passNight 75 = .ok (.iinc 3 1, 3) := by decide +kernel
theorem dX6_passNight_78 : decode cX6_passNight 78 = .ok (.goto (-74), 3) := by decide +kernel
theorem dX6_passNight_81 : decode cX6_passNight 81 = .ok (.return_, 1) := by decide +kernel
theorem dX6_power_0 : decode cX6_power 0 = .ok (.lconst 1, 1) := by decide +kernel
theorem dX6_power_1 : decode cX6_power 1 = .ok (.lstore_n 2, 1) := by decide +kernel
theorem dX6_power_2 : decode cX6_power 2 = .ok (.iconst 0, 1) := by decide +kernel
theorem dX6_power_3 : decode cX6_power 3 = .ok (.istore 4, 2) := by decide +kernel
theorem dX6_power_5 : decode cX6_power 5 = .ok (.iload 4, 2) := by decide +kernel
theorem dX6_power_7 : decode cX6_power 7 = .ok (.iload_n 1, 1) := by decide +kernel
theorem dX6_power_8 : decode cX6_power 8 = .ok (.if_icmp .ge 14, 3) := by decide +kernel
theorem dX6_power_11 : decode cX6_power 11 = .ok (.lload_n 2, 1) := by decide +kernel
theorem dX6_power_12 : decode cX6_power 12 = .ok (.iload_n 0, 1) := by decide +kernel
theorem dX6_power_13 : decode cX6_power 13 = .ok (.i2l, 1) := by decide +kernel
theorem dX6_power_14 : decode cX6_power 14 = .ok (.lmul, 1) := by decide +kernel
theorem dX6_power_15 : decode cX6_power 15 = .ok (.lstore_n 2, 1) := by decide +kernel
theorem dX6_power_16 : decode cX6_power 16 = .ok (.iinc 4 1, 3) := by decide +kernel
theorem dX6_power_19 : decode cX6_power 19 = .ok (.goto (-14), 3) := by decide +kernel
theorem dX6_power_22 : decode cX6_power 22 = .ok (.lload_n 2, 1) := by decide +kernel
theorem dX6_power_23 : decode cX6_power 23 = .ok (.lreturn, 1) := by decide +kernel
theorem dX6_recognised_0 : decode cX6_recognised 0 = .ok (.aload_n 0, 1) := by decide +kernel
theorem dX6_recognised_1 : decode cX6_recognised 1 = .ok (.getfield 10, 3) := by decide +kernel
theorem dX6_recognised_4 : decode cX6_recognised 4 = .ok (.iload_n 1, 1) := by decide +kernel
theorem dX6_recognised_5 : decode cX6_recognised 5 = .ok (.invokevirtual 66, 3) := by decide +kernel
theorem dX6_recognised_8 : decode cX6_recognised 8 = .ok (.ifCond .ne 5, 3) := by decide +kernel
theorem dX6_recognised_11 : decode cX6_recognised 11 = .ok (.iconst (-1), 1) := by decide +kernel
theorem dX6_recognised_12 : decode cX6_recognised 12 = .ok (.ireturn, 1) := by decide +kernel
theorem dX6_recognised_13 : decode cX6_recognised 13 = .ok (.aload_n 0, 1) := by decide +kernel
theorem dX6_recognised_14 : decode cX6_recognised 14 = .ok (.getfield 10, 3) := by decide +kernel
theorem dX6_recognised_17 : decode cX6_recognised 17 = .ok (.iload_n 1, 1) := by decide +kernel
theorem dX6_recognised_18 : decode cX6_recognised 18 = .ok (.invokevirtual 122, 3) := by decide +kernel
theorem dX6_recognised_21 : decode cX6_recognised 21 = .ok (.ireturn, 1) := by decide +kernel
theorem dX6_restore_0 : decode cX6_restore 0 = .ok (.iload_n 1, 1) := by decide +kernel
theorem dX6_restore_1 : decode cX6_restore 1 = .ok (.iconst 0, 1) := by decide +kernel
theorem dX6_restore_2 : decode cX6_restore 2 = .ok (.iconst 1, 1) := by decide +kernel
theorem dX6_restore_3 : decode cX6_restore 3 = .ok (.invokestatic 70, 3) := by decide +kernel
theorem dX6_restore_6 : decode cX6_restore 6 = .ok (.ifCond .eq 6, 3) := by decide +kernel
theorem dX6_restore_9 : decode cX6_restore 9 = .ok (.bipush (-2), 2) := by decide +kernel
theorem dX6_restore_11 : decode cX6_restore 11 = .ok (.ireturn, 1) := by decide +kernel
theorem dX6_restore_12 : decode cX6_restore 12 = .ok (.aload_n 0, 1) := by decide +kernel
theorem dX6_restore_13 : decode cX6_restore 13 = .ok (.getfield 19, 3) := by decide +kernel
theorem dX6_restore_16 : decode cX6_restore 16 = .ok (.iload_n 1, 1) := by decide +kernel
theorem dX6_restore_17 : decode cX6_restore 17 = .ok (.aaload, 1) := by decide +kernel
theorem dX6_restore_18 : decode cX6_restore 18 = .ok (.ifnonnull 6, 3) := by decide +kernel
theorem dX6_restore_21 : decode cX6_restore 21 = .ok (.bipush (-3), 2) := by decide +kernel
theorem dX6_restore_23 : decode cX6_restore 23 = .ok (.ireturn, 1) := by decide +kernel
theorem dX6_restore_24 : decode cX6_restore 24 = .ok (.aload_n 0, 1) := by decide +kernel
theorem dX6_restore_25 : decode cX6_restore 25 = .ok (.getfield 10, 3) := by decide +kernel
theorem dX6_restore_28 : decode cX6_restore 28 = .ok (.aload_n 0, 1) := by decide +kernel
theorem dX6_restore_29 : decode cX6_restore 29 = .ok (.getfield 19, 3) := by decide +kernel
theorem dX6_restore_32 : decode cX6_restore 32 = .ok (.iload_n 1, 1) := by decide +kernel
theorem dX6_restore_33 : decode cX6_restore 33 = .ok (.aaload, 1) := by decide +kernel
theorem dX6_restore_34 : decode cX6_restore 34 = .ok (.invokevirtual 97, 3) := by decide +kernel
theorem dX6_restore_37 : decode cX6_restore 37 = .ok (.iconst 1, 1) := by decide +kernel
theorem dX6_restore_38 : decode cX6_restore 38 = .ok (.ireturn, 1) := by decide +kernel
theorem dX6_salted_0 : decode cX6_salted 0 = .ok (.iload_n 1, 1) := by decide +kernel
theorem dX6_salted_1 : decode cX6_salted 1 = .ok (.iconst 0, 1) := by decide +kernel
theorem dX6_salted_2 : decode cX6_salted 2 = .ok (.sipush 999, 3) := by decide +kernel
theorem dX6_salted_5 : decode cX6_salted 5 = .ok (.invokestatic 70, 3) := by decide +kernel
theorem dX6_salted_8 : decode cX6_salted 8 = .ok (.ifCond .eq 6, 3) := by decide +kernel
theorem dX6_salted_11 : decode cX6_salted 11 = .ok (.bipush (-2), 2) := by decide +kernel
theorem dX6_salted_13 : decode cX6_salted 13 = .ok (.ireturn, 1) := by decide +kernel
theorem dX6_salted_14 : decode cX6_salted 14 = .ok (.aload_n 0, 1) := by decide +kernel
theorem dX6_salted_15 : decode cX6_salted 15 = .ok (.getfield 40, 3) := by decide +kernel
theorem dX6_salted_18 : decode cX6_salted 18 = .ok (.aload_n 0, 1) := by decide +kernel
theorem dX6_salted_19 : decode cX6_salted 19 = .ok (.getfield 10, 3) := by decide +kernel
theorem dX6_salted_22 : decode cX6_salted 22 = .ok (.iload_n 1, 1) := by decide +kernel
theorem dX6_salted_23 : decode cX6_salted 23 = .ok (.invokevirtual 143, 3) := by decide +kernel
theorem dX6_salted_26 : decode cX6_salted 26 = .ok (.ireturn, 1) := by decide +kernel
theorem dX6_say_0 : decode cX6_say 0 = .ok (.iload_n 1, 1) := by decide +kernel
theorem dX6_say_1 : decode cX6_say 1 = .ok (.bipush 33, 2) := by decide +kernel
theorem dX6_say_3 : decode cX6_say 3 = .ok (.bipush 126, 2) := by decide +kernel
theorem dX6_say_5 : decode cX6_say 5 = .ok (.invokestatic 70, 3) := by decide +kernel
theorem dX6_say_8 : decode cX6_say 8 = .ok (.ifCond .eq 6, 3) := by decide +kernel
theorem dX6_say_11 : decode cX6_say 11 = .ok (.bipush (-2), 2) := by decide +kernel
theorem dX6_say_13 : decode cX6_say 13 = .ok (.ireturn, 1) := by decide +kernel
theorem dX6_say_14 : decode cX6_say 14 = .ok (.aload_n 0, 1) := by decide +kernel
theorem dX6_say_15 : decode cX6_say 15 = .ok (.getfield 26, 3) := by decide +kernel
theorem dX6_say_18 : decode cX6_say 18 = .ok (.getfield 87, 3) := by decide +kernel
theorem dX6_say_21 : decode cX6_say 21 = .ok (.bipush 60, 2) := by decide +kernel
theorem dX6_say_23 : decode cX6_say 23 = .ok (.if_icmp .lt 6, 3) := by decide +kernel
theorem dX6_say_26 : decode cX6_say 26 = .ok (.bipush (-4), 2) := by decide +kernel
theorem dX6_say_28 : decode cX6_say 28 = .ok (.ireturn, 1) := by decide +kernel
theorem dX6_say_29 : decode cX6_say 29 = .ok (.aload_n 0, 1) := by decide +kernel
theorem dX6_say_30 : decode cX6_say 30 = .ok (.getfield 26, 3) := by decide +kernel
theorem dX6_say_33 : decode cX6_say 33 = .ok (.getfield 90, 3) := by decide +kernel
theorem dX6_say_36 : decode cX6_say 36 = .ok (.aload_n 0, 1) := by decide +kernel
theorem dX6_say_37 : decode cX6_say 37 = .ok (.getfield 26, 3) := by decide +kernel
theorem dX6_say_40 : decode cX6_say 40 = .ok (.getfield 87, 3) := by decide +kernel
theorem dX6_say_43 : decode cX6_say 43 = .ok (.iload_n 1, 1) := by decide +kernel
theorem dX6_say_44 : decode cX6_say 44 = .ok (.iastore, 1) := by decide +kernel
theorem dX6_say_45 : decode cX6_say 45 = .ok (.aload_n 0, 1) := by decide +kernel
theorem dX6_say_46 : decode cX6_say 46 = .ok (.getfield 26, 3) := by decide +kernel
theorem dX6_say_49 : decode cX6_say 49 = .ok (.dup, 1) := by decide +kernel
theorem dX6_say_50 : decode cX6_say 50 = .ok (.getfield 87, 3) := by decide +kernel
theorem dX6_say_53 : decode cX6_say 53 = .ok (.iconst 1, 1) := by decide +kernel
theorem dX6_say_54 : decode cX6_say 54 = .ok (.iadd, 1) := by decide +kernel
theorem dX6_say_55 : decode cX6_say 55 = .ok (.putfield 87, 3) := by decide +kernel
theorem dX6_say_58 : decode cX6_say 58 = .ok (.aload_n 0, 1) := by decide +kernel
theorem dX6_say_59 : decode cX6_say 59 = .ok (.getfield 26, 3) := by decide +kernel
theorem dX6_say_62 : decode cX6_say 62 = .ok (.getfield 87, 3) := by decide +kernel
theorem dX6_say_65 : decode cX6_say 65 = .ok (.ireturn, 1) := by decide +kernel
theorem dX6_seen_0 : decode cX6_seen 0 = .ok (.aload_n 0, 1) := by decide +kernel
theorem dX6_seen_1 : decode cX6_seen 1 = .ok (.getfield 10, 3) := by decide +kernel
theorem dX6_seen_4 : decode cX6_seen 4 = .ok (.iload_n 1, 1) := by decide +kernel
theorem dX6_seen_5 : decode cX6_seen 5 = .ok (.invokevirtual 66, 3) := by decide +kernel
theorem dX6_seen_8 : decode cX6_seen 8 = .ok (.ifCond .ne 5, 3) := by decide +kernel
theorem dX6_seen_11 : decode cX6_seen 11 = .ok (.iconst (-1), 1) := by decide +kernel
theorem dX6_seen_12 : decode cX6_seen 12 = .ok (.ireturn, 1) := by decide +kernel
theorem dX6_seen_13 : decode cX6_seen 13 = .ok (.iload_n 2, 1) := by decide +kernel
theorem dX6_seen_14 : decode cX6_seen 14 = .ok (.iconst 0, 1) := by decide +kernel
theorem dX6_seen_15 : decode cX6_seen 15 = .ok (.sipush 999, 3) := by decide +kernel
theorem dX6_seen_18 : decode cX6_seen 18 = .ok (.invokestatic 70, 3) := by decide +kernel
theorem dX6_seen_21 : decode cX6_seen 21 = .ok (.ifCond .eq 6, 3) := by decide +kernel
theorem dX6_seen_24 : decode cX6_seen 24 = .ok (.bipush (-2), 2) := by decide +kernel
theorem dX6_seen_26 : decode cX6_seen 26 = .ok (.ireturn, 1) := by decide +kernel
theorem dX6_seen_27 : decode cX6_seen 27 = .ok (.aload_n 0, 1) := by decide +kernel
theorem dX6_seen_28 : decode cX6_seen 28 = .ok (.getfield 10, 3) := by decide +kernel
theorem dX6_seen_31 : decode cX6_seen 31 = .ok (.getfield 150, 3) := by decide +kernel
theorem dX6_seen_34 : decode cX6_seen 34 = .ok (.bipush 8, 2) := by decide +kernel
theorem dX6_seen_36 : decode cX6_seen 36 = .ok (.if_icmp .lt 6, 3) := by decide +kernel
theorem dX6_seen_39 : decode cX6_seen 39 = .ok (.bipush (-4), 2) := by decide +kernel
theorem dX6_seen_41 : decode cX6_seen 41 = .ok (.ireturn, 1) := by decide +kernel
theorem dX6_seen_42 : decode cX6_seen 42 = .ok (.aload_n 0, 1) := by decide +kernel
theorem dX6_seen_43 : decode cX6_seen 43 = .ok (.getfield 10, 3) := by decide +kernel
theorem dX6_seen_46 : decode cX6_seen 46 = .ok (.getfield 153, 3) := by decide +kernel
theorem dX6_seen_49 : decode cX6_seen 49 = .ok (.aload_n 0, 1) := by decide +kernel
theorem dX6_seen_50 : decode cX6_seen 50 = .ok (.getfield 10, 3) := by decide +kernel
theorem dX6_seen_53 : decode cX6_seen 53 = .ok (.getfield 150, 3) := by decide +kernel
theorem dX6_seen_56 : decode cX6_seen 56 = .ok (.iload_n 1, 1) := by decide +kernel
theorem dX6_seen_57 : decode cX6_seen 57 = .ok (.iastore, 1) := by decide +kernel
theorem dX6_seen_58 : decode cX6_seen 58 = .ok (.aload_n 0, 1) := by decide +kernel
theorem dX6_seen_59 : decode cX6_seen 59 = .ok (.getfield 10, 3) := by decide +kernel
theorem dX6_seen_62 : decode cX6_seen 62 = .ok (.getfield 156, 3) := by decide +kernel
theorem dX6_seen_65 : decode cX6_seen 65 = .ok (.aload_n 0, 1) := by decide +kernel
theorem dX6_seen_66 : decode cX6_seen 66 = .ok (.getfield 10, 3) := by decide +kernel
theorem dX6_seen_69 : decode cX6_seen 69 = .ok (.getfield 150, 3) := by decide +kernel
theorem dX6_seen_72 : decode cX6_seen 72 = .ok (.iload_n 2, 1) := by decide +kernel
theorem dX6_seen_73 : decode cX6_seen 73 = .ok (.iastore, 1) := by decide +kernel
theorem dX6_seen_74 : decode cX6_seen 74 = .ok (.aload_n 0, 1) := by decide +kernel
theorem dX6_seen_75 : decode cX6_seen 75 = .ok (.getfield 10, 3) := by decide +kernel
theorem dX6_seen_78 : decode cX6_seen 78 = .ok (.dup, 1) := by decide +kernel
theorem dX6_seen_79 : decode cX6_seen 79 = .ok (.getfield 150, 3) := by decide +kernel
theorem dX6_seen_82 : decode cX6_seen 82 = .ok (.iconst 1, 1) := by decide +kernel
theorem dX6_seen_83 : decode cX6_seen 83 = .ok (.iadd, 1) := by decide +kernel
theorem dX6_seen_84 : decode cX6_seen 84 = .ok (.putfield 150, 3) := by decide +kernel
theorem dX6_seen_87 : decode cX6_seen 87 = .ok (.aload_n 0, 1) := by decide +kernel
theorem dX6_seen_88 : decode cX6_seen 88 = .ok (.getfield 10, 3) := by decide +kernel
theorem dX6_seen_91 : decode cX6_seen 91 = .ok (.getfield 150, 3) := by decide +kernel
theorem dX6_seen_94 : decode cX6_seen 94 = .ok (.ireturn, 1) := by decide +kernel
theorem dX6_set_0 : decode cX6_set 0 = .ok (.iload_n 1, 1) := by decide +kernel
theorem dX6_set_1 : decode cX6_set 1 = .ok (.iconst 0, 1) := by decide +kernel
theorem dX6_set_2 : decode cX6_set 2 = .ok (.iconst 3, 1) := by decide +kernel
theorem dX6_set_3 : decode cX6_set 3 = .ok (.invokestatic 70, 3) := by decide +kernel
theorem dX6_set_6 : decode cX6_set 6 = .ok (.ifCond .ne 22, 3) := by decide +kernel
theorem dX6_set_9 : decode cX6_set 9 = .ok (.iload_n 2, 1) := by decide +kernel
theorem dX6_set_10 : decode cX6_set 10 = .ok (.iload_n 1, 1) := by decide +kernel
theorem dX6_set_11 : decode cX6_set 11 = .ok (.iconst 3, 1) := by decide +kernel
theorem dX6_set_12 : decode cX6_set 12 = .ok (.if_icmp .ne 7, 3) := by decide +kernel
theorem dX6_set_15 : decode cX6_set 15 = .ok (.iconst 1, 1) := by decide +kernel
theorem dX6_set_16 : decode cX6_set 16 = .ok (.goto 4, 3) := by decide +kernel
theorem dX6_set_19 : decode cX6_set 19 = .ok (.iconst 0, 1) := by decide +kernel
theorem dX6_set_20 : decode cX6_set 20 = .ok (.bipush 9, 2) := by decide +kernel
theorem dX6_set_22 : decode cX6_set 22 = .ok (.invokestatic 70, 3) := by decide +kernel
theorem dX6_set_25 : decode cX6_set 25 = .ok (.ifCond .eq 6, 3) := by decide +kernel
theorem dX6_set_28 : decode cX6_set 28 = .ok (.bipush (-2), 2) := by decide +kernel
theorem dX6_set_30 : decode cX6_set 30 = .ok (.ireturn, 1) := by decide +kernel
theorem dX6_set_31 : decode cX6_set 31 = .ok (.aload_n 0, 1) := by decide +kernel
theorem dX6_set_32 : decode cX6_set 32 = .ok (.getfield 10, 3) := by decide +kernel
theorem dX6_set_35 : decode cX6_set 35 = .ok (.getfield 84, 3) := by decide +kernel
theorem dX6_set_38 : decode cX6_set 38 = .ok (.iload_n 1, 1) := by decide +kernel
theorem dX6_set_39 : decode cX6_set 39 = .ok (.iaload, 1) := by decide +kernel
theorem dX6_set_40 : decode cX6_set 40 = .ok (.istore_n 3, 1) := by decide +kernel
theorem dX6_set_41 : decode cX6_set 41 = .ok (.aload_n 0, 1) := by decide +kernel
theorem dX6_set_42 : decode cX6_set 42 = .ok (.getfield 10, 3) := by decide +kernel
theorem dX6_set_45 : decode cX6_set 45 = .ok (.getfield 84, 3) := by decide +kernel
theorem dX6_set_48 : decode cX6_set 48 = .ok (.iload_n 1, 1) := by decide +kernel
theorem dX6_set_49 : decode cX6_set 49 = .ok (.iload_n 2, 1) := by decide +kernel
theorem dX6_set_50 : decode cX6_set 50 = .ok (.iastore, 1) := by decide +kernel
theorem dX6_set_51 : decode cX6_set 51 = .ok (.iload_n 3, 1) := by decide +kernel
theorem dX6_set_52 : decode cX6_set 52 = .ok (.ireturn, 1) := by decide +kernel
theorem dX6_slide_0 : decode cX6_slide 0 = .ok (.aload_n 0, 1) := by decide +kernel
theorem dX6_slide_1 : decode cX6_slide 1 = .ok (.getfield 10, 3) := by decide +kernel
theorem dX6_slide_4 : decode cX6_slide 4 = .ok (.iload_n 1, 1) := by decide +kernel
theorem dX6_slide_5 : decode cX6_slide 5 = .ok (.invokevirtual 66, 3) := by decide +kernel
theorem dX6_slide_8 : decode cX6_slide 8 = .ok (.ifCond .ne 5, 3) := by decide +kernel
theorem dX6_slide_11 : decode cX6_slide 11 = .ok (.iconst (-1), 1) := by decide +kernel
theorem dX6_slide_12 : decode cX6_slide 12 = .ok (.ireturn, 1) := by decide +kernel
theorem dX6_slide_13 : decode cX6_slide 13 = .ok (.iload_n 2, 1) := by decide +kernel
theorem dX6_slide_14 : decode cX6_slide 14 = .ok (.iconst 1, 1) := by decide +kernel
theorem dX6_slide_15 : decode cX6_slide 15 = .ok (.sipush 999, 3) := by decide +kernel
theorem dX6_slide_18 : decode cX6_slide 18 = .ok (.invokestatic 70, 3) := by decide +kernel
theorem dX6_slide_21 : decode cX6_slide 21 = .ok (.ifCond .ne 12, 3) := by decide +kernel
theorem dX6_slide_24 : decode cX6_slide 24 = .ok (.iload_n 3, 1) := by decide +kernel
theorem dX6_slide_25 : decode cX6_slide 25 = .ok (.iconst 0, 1) := by decide +kernel
theorem dX6_slide_26 : decode cX6_slide 26 = .ok (.iconst 1, 1) := by decide +kernel
theorem dX6_slide_27 : decode cX6_slide 27 = .ok (.invokestatic 70, 3) := by decide +kernel
theorem dX6_slide_30 : decode cX6_slide 30 = .ok (.ifCond .eq 6, 3) := by decide +kernel
theorem dX6_slide_33 : decode cX6_slide 33 = .ok (.bipush (-2), 2) := by decide +kernel
theorem dX6_slide_35 : decode cX6_slide 35 = .ok (.ireturn, 1) := by decide +kernel
theorem dX6_slide_36 : decode cX6_slide 36 = .ok (.aload_n 0, 1) := by decide +kernel
theorem dX6_slide_37 : decode cX6_slide 37 = .ok (.getfield 10, 3) := by decide +kernel
theorem dX6_slide_40 : decode cX6_slide 40 = .ok (.getfield 74, 3) := by decide +kernel
theorem dX6_slide_43 : decode cX6_slide 43 = .ok (.iload_n 1, 1) := by decide +kernel
theorem dX6_slide_44 : decode cX6_slide 44 = .ok (.iaload, 1) := by decide +kernel
theorem dX6_slide_45 : decode cX6_slide 45 = .ok (.iload_n 2, 1) := by decide +kernel
theorem dX6_slide_46 : decode cX6_slide 46 = .ok (.if_icmp .ge 6, 3) := by decide +kernel
theorem dX6_slide_49 : decode cX6_slide 49 = .ok (.bipush (-3), 2) := by decide +kernel
theorem dX6_slide_51 : decode cX6_slide 51 = .ok (.ireturn, 1) := by decide +kernel
theorem dX6_slide_52 : decode cX6_slide 52 = .ok (.aload_n 0, 1) := by decide +kernel
theorem dX6_slide_53 : decode cX6_slide 53 = .ok (.getfield 10, 3) := by decide +kernel
theorem dX6_slide_56 : decode cX6_slide 56 = .ok (.getfield 74, 3) := by decide +kernel
theorem dX6_slide_59 : decode cX6_slide 59 = .ok (.iload_n 1, 1) := by decide +kernel
theorem dX6_slide_60 : decode cX6_slide 60 = .ok (.iaload, 1) := by decide +kernel
theorem dX6_slide_61 : decode cX6_slide 61 = .ok (.istore 4, 2) := by decide +kernel
theorem dX6_slide_63 : decode cX6_slide 63 = .ok (.iload_n 1, 1) := by decide +kernel
theorem dX6_slide_64 : decode cX6_slide 64 = .ok (.iconst 1, 1) := by decide +kernel
theorem dX6_slide_65 : decode cX6_slide 65 = .ok (.iadd, 1) := by decide +kernel
theorem dX6_slide_66 : decode cX6_slide 66 = .ok (.istore 5, 2) := by decide +kernel
theorem dX6_slide_68 : decode cX6_slide 68 = .ok (.iload 5, 2) := by decide +kernel
theorem dX6_slide_70 : decode cX6_slide 70 = .ok (.aload_n 0, 1) := by decide +kernel
theorem dX6_slide_71 : decode cX6_slide 71 = .ok (.getfield 10, 3) := by decide +kernel
theorem dX6_slide_74 : decode cX6_slide 74 = .ok (.getfield 58, 3) := by decide +kernel
theorem dX6_slide_77 : decode cX6_slide 77 = .ok (.if_icmp .ge 45, 3) := by decide +kernel
theorem dX6_slide_80 : decode cX6_slide 80 = .ok (.iload 5, 2) := by decide +kernel
theorem dX6_slide_82 : decode cX6_slide 82 = .ok (.bipush 8, 2) := by decide +kernel
theorem dX6_slide_84 : decode cX6_slide 84 = .ok (.if_icmp .ge 38, 3) := by decide +kernel
theorem dX6_slide_87 : decode cX6_slide 87 = .ok (.aload_n 0, 1) := by decide +kernel
theorem dX6_slide_88 : decode cX6_slide 88 = .ok (.getfield 10, 3) := by decide +kernel
theorem dX6_slide_91 : decode cX6_slide 91 = .ok (.getfield 74, 3) := by decide +kernel
theorem dX6_slide_94 : decode cX6_slide 94 = .ok (.iload 5, 2) := by decide +kernel
theorem dX6_slide_96 : decode cX6_slide 96 = .ok (.iaload, 1) := by decide +kernel
theorem dX6_slide_97 : decode cX6_slide 97 = .ok (.iload_n 2, 1) := by decide +kernel
theorem dX6_slide_98 : decode cX6_slide 98 = .ok (.if_icmp .lt 24, 3) := by decide +kernel
theorem dX6_slide_101 : decode cX6_slide 101 = .ok (.iload 4, 2) := by decide +kernel
theorem dX6_slide_103 : decode cX6_slide 103 = .ok (.aload_n 0, 1) := by decide +kernel
theorem dX6_slide_104 : decode cX6_slide 104 = .ok (.getfield 10, 3) := by decide +kernel
theorem dX6_slide_107 : decode cX6_slide 107 = .ok (.getfield 74, 3) := by decide +kernel
theorem dX6_slide_110 : decode cX6_slide 110 = .ok (.iload 5, 2) := by decide +kernel
theorem dX6_slide_112 : decode cX6_slide 112 = .ok (.iaload, 1) := by decide +kernel
theorem dX6_slide_113 : decode cX6_slide 113 = .ok (.iadd, 1) := by decide +kernel
theorem dX6_slide_114 : decode cX6_slide 114 = .ok (.istore 4, 2) := by decide +kernel
theorem dX6_slide_116 : decode cX6_slide 116 = .ok (.iinc 5 1, 3) := by decide +kernel
theorem dX6_slide_119 : decode cX6_slide 119 = .ok (.goto (-51), 3) := by decide +kernel
theorem dX6_slide_122 : decode cX6_slide 122 = .ok (.iload_n 3, 1) := by decide +kernel
theorem dX6_slide_123 : decode cX6_slide 123 = .ok (.iconst 1, 1) := by decide +kernel
theorem dX6_slide_124 : decode cX6_slide 124 = .ok (.if_icmp .ne 6, 3) := by decide +kernel
theorem dX6_slide_127 : decode cX6_slide 127 = .ok (.iload 4, 2) := by decide +kernel
theorem dX6_slide_129 : decode cX6_slide 129 = .ok (.ireturn, 1) := by decide +kernel
theorem dX6_slide_130 : decode cX6_slide 130 = .ok (.aload_n 0, 1) := by decide +kernel
theorem dX6_slide_131 : decode cX6_slide 131 = .ok (.getfield 10, 3) := by decide +kernel
theorem dX6_slide_134 : decode cX6_slide 134 = .ok (.iload 5, 2) := by decide +kernel
theorem dX6_slide_136 : decode cX6_slide 136 = .ok (.invokevirtual 66, 3) := by decide +kernel
theorem dX6_slide_139 : decode cX6_slide 139 = .ok (.ifCond .eq 8, 3) := by decide +kernel
theorem dX6_slide_142 : decode cX6_slide 142 = .ok (.iload 5, 2) := by decide +kernel
theorem dX6_slide_144 : decode cX6_slide 144 = .ok (.goto 5, 3) := by decide +kernel
theorem dX6_slide_147 : decode cX6_slide 147 = .ok (.bipush (-6), 2) := by decide +kernel
theorem dX6_slide_149 : decode cX6_slide 149 = .ok (.ireturn, 1) := by decide +kernel
theorem dX6_state_0 : decode cX6_state 0 = .ok (.aload_n 0, 1) := by decide +kernel
theorem dX6_state_1 : decode cX6_state 1 = .ok (.getfield 10, 3) := by decide +kernel
theorem dX6_state_4 : decode cX6_state 4 = .ok (.iload_n 1, 1) := by decide +kernel
theorem dX6_state_5 : decode cX6_state 5 = .ok (.invokevirtual 66, 3) := by decide +kernel
theorem dX6_state_8 : decode cX6_state 8 = .ok (.ifCond .ne 5, 3) := by decide +kernel
theorem dX6_state_11 : decode cX6_state 11 = .ok (.iconst (-1), 1) := by decide +kernel
theorem dX6_state_12 : decode cX6_state 12 = .ok (.ireturn, 1) := by decide +kernel
theorem dX6_state_13 : decode cX6_state 13 = .ok (.iload_n 2, 1) := by decide +kernel
theorem dX6_state_14 : decode cX6_state 14 = .ok (.iconst 0, 1) := by decide +kernel
theorem dX6_state_15 : decode cX6_state 15 = .ok (.iconst 1, 1) := by decide +kernel
theorem dX6_state_16 : decode cX6_state 16 = .ok (.invokestatic 70, 3) := by decide +kernel
theorem dX6_state_19 : decode cX6_state 19 = .ok (.ifCond .eq 6, 3) := by decide +kernel
theorem dX6_state_22 : decode cX6_state 22 = .ok (.bipush (-2), 2) := by decide +kernel
theorem dX6_state_24 : decode cX6_state 24 = .ok (.ireturn, 1) := by decide +kernel
theorem dX6_state_25 : decode cX6_state 25 = .ok (.aload_n 0, 1) := by decide +kernel
theorem dX6_state_26 : decode cX6_state 26 = .ok (.getfield 10, 3) := by decide +kernel
theorem dX6_state_29 : decode cX6_state 29 = .ok (.iload_n 1, 1) := by decide +kernel
theorem dX6_state_30 : decode cX6_state 30 = .ok (.iload_n 2, 1) := by decide +kernel
theorem dX6_state_31 : decode cX6_state 31 = .ok (.invokevirtual 115, 3) := by decide +kernel
theorem dX6_state_34 : decode cX6_state 34 = .ok (.ireturn, 1) := by decide +kernel
theorem dX6_talkCanBe_0 : decode cX6_talkCanBe 0 = .ok (.aload_n 0, 1) := by decide +kernel
theorem dX6_talkCanBe_1 : decode cX6_talkCanBe 1 = .ok (.getfield 26, 3) := by decide +kernel
theorem dX6_talkCanBe_4 : decode cX6_talkCanBe 4 = .ok (.aload_n 0, 1) := by decide +kernel
theorem dX6_talkCanBe_5 : decode cX6_talkCanBe 5 = .ok (.getfield 10, 3) := by decide +kernel
theorem dX6_talkCanBe_8 : decode cX6_talkCanBe 8 = .ok (.getfield 58, 3) := by decide +kernel
theorem dX6_talkCanBe_11 : decode cX6_talkCanBe 11 = .ok (.invokevirtual 93, 3) := by decide +kernel
theorem dX6_talkCanBe_14 : decode cX6_talkCanBe 14 = .ok (.bipush (-6), 2) := by decide +kernel
theorem dX6_talkCanBe_16 : decode cX6_talkCanBe 16 = .ok (.if_icmp .eq 5, 3) := by decide +kernel
theorem dX6_talkCanBe_19 : decode cX6_talkCanBe 19 = .ok (.iconst 0, 1) := by decide +kernel
theorem dX6_talkCanBe_20 : decode cX6_talkCanBe 20 = .ok (.ireturn, 1) := by decide +kernel
theorem dX6_talkCanBe_21 : decode cX6_talkCanBe 21 = .ok (.aload_n 0, 1) := by decide +kernel
theorem dX6_talkCanBe_22 : decode cX6_talkCanBe 22 = .ok (.getfield 16, 3) := by decide +kernel
theorem dX6_talkCanBe_25 : decode cX6_talkCanBe 25 = .ok (.aload_n 0, 1) := by decide +kernel
theorem dX6_talkCanBe_26 : decode cX6_talkCanBe 26 = .ok (.getfield 10, 3) := by decide +kernel
theorem dX6_talkCanBe_29 : decode cX6_talkCanBe 29 = .ok (.invokevirtual 97, 3) := by decide +kernel
theorem dX6_talkCanBe_32 : decode cX6_talkCanBe 32 = .ok (.aload_n 0, 1) := by decide +kernel
theorem dX6_talkCanBe_33 : decode cX6_talkCanBe 33 = .ok (.getfield 26, 3) := by decide +kernel
theorem dX6_talkCanBe_36 : decode cX6_talkCanBe 36 = .ok (.aload_n 0, 1) := by decide +kernel
theorem dX6_talkCanBe_37 : decode cX6_talkCanBe 37 = .ok (.getfield 16, 3) := by decide +kernel
theorem dX6_talkCanBe_40 : decode cX6_talkCanBe 40 = .ok (.invokevirtual 101, 3) := by decide +kernel
theorem dX6_talkCanBe_43 : decode cX6_talkCanBe 43 = .ok (.bipush (-6), 2) := by decide +kernel
theorem dX6_talkCanBe_45 : decode cX6_talkCanBe 45 = .ok (.if_icmp .ne 7, 3) := by decide +kernel
theorem dX6_talkCanBe_48 : decode cX6_talkCanBe 48 = .ok (.iconst 1, 1) := by decide +kernel
theorem dX6_talkCanBe_49 : decode cX6_talkCanBe 49 = .ok (.goto 4, 3) := by decide +kernel
theorem dX6_talkCanBe_52 : decode cX6_talkCanBe 52 = .ok (.iconst 0, 1) := by decide +kernel
theorem dX6_talkCanBe_53 : decode cX6_talkCanBe 53 = .ok (.ireturn, 1) := by decide +kernel
theorem dX6_told_0 : decode cX6_told 0 = .ok (.aload_n 0, 1) := by decide +kernel
theorem dX6_told_1 : decode cX6_told 1 = .ok (.getfield 10, 3) := by decide +kernel
theorem dX6_told_4 : decode cX6_told 4 = .ok (.iload_n 1, 1) := by decide +kernel
theorem dX6_told_5 : decode cX6_told 5 = .ok (.bipush 10, 2) := by decide +kernel
theorem dX6_told_7 : decode cX6_told 7 = .ok (.isub, 1) := by decide +kernel
theorem dX6_told_8 : decode cX6_told 8 = .ok (.invokevirtual 66, 3) := by decide +kernel
theorem dX6_told_11 : decode cX6_told 11 = .ok (.ifCond .eq 16, 3) := by decide +kernel
theorem dX6_told_14 : decode cX6_told 14 = .ok (.aload_n 0, 1) := by decide +kernel
theorem dX6_told_15 : decode cX6_told 15 = .ok (.getfield 10, 3) := by decide +kernel
theorem dX6_told_18 : decode cX6_told 18 = .ok (.getfield 78, 3) := by decide +kernel
theorem dX6_told_21 : decode cX6_told 21 = .ok (.iload_n 1, 1) := by decide +kernel
theorem dX6_told_22 : decode cX6_told 22 = .ok (.bipush 10, 2) := by decide +kernel
theorem dX6_told_24 : decode cX6_told 24 = .ok (.isub, 1) := by decide +kernel
theorem dX6_told_25 : decode cX6_told 25 = .ok (.iaload, 1) := by decide +kernel
theorem dX6_told_26 : decode cX6_told 26 = .ok (.ireturn, 1) := by decide +kernel
theorem dX6_told_27 : decode cX6_told 27 = .ok (.iload_n 1, 1) := by decide +kernel
theorem dX6_told_28 : decode cX6_told 28 = .ok (.tableswitch 92 0 7 #[48, 56, 64, 72, 72, 72, 72, 84], 48) := by decide +kernel
theorem dX6_told_76 : decode cX6_told 76 = .ok (.aload_n 0, 1) := by decide +kernel
theorem dX6_told_77 : decode cX6_told 77 = .ok (.getfield 26, 3) := by decide +kernel
theorem dX6_told_80 : decode cX6_told 80 = .ok (.getfield 87, 3) := by decide +kernel
theorem dX6_told_83 : decode cX6_told 83 = .ok (.ireturn, 1) := by decide +kernel
theorem dX6_told_84 : decode cX6_told 84 = .ok (.aload_n 0, 1) := by decide +kernel
theorem dX6_told_85 : decode cX6_told 85 = .ok (.getfield 10, 3) := by decide +kernel
theorem dX6_told_88 : decode cX6_told 88 = .ok (.getfield 58, 3) := by decide +kernel
theorem dX6_told_91 : decode cX6_told 91 = .ok (.ireturn, 1) := by decide +kernel
theorem dX6_told_92 : decode cX6_told 92 = .ok (.aload_n 0, 1) := by decide +kernel
theorem dX6_told_93 : decode cX6_told 93 = .ok (.getfield 10, 3) := by decide +kernel
theorem dX6_told_96 : decode cX6_told 96 = .ok (.getfield 216, 3) := by decide +kernel
theorem dX6_told_99 : decode cX6_told 99 = .ok (.ireturn, 1) := by decide +kernel
theorem dX6_told_100 : decode cX6_told 100 = .ok (.aload_n 0, 1) := by decide +kernel
theorem dX6_told_101 : decode cX6_told 101 = .ok (.getfield 10, 3) := by decide +kernel
theorem dX6_told_104 : decode cX6_told 104 = .ok (.getfield 84, 3) := by decide +kernel
theorem dX6_told_107 : decode cX6_told 107 = .ok (.iload_n 1, 1) := by decide +kernel
theorem dX6_told_108 : decode cX6_told 108 = .ok (.iconst 3, 1) := by decide +kernel
theorem dX6_told_109 : decode cX6_told 109 = .ok (.isub, 1) := by decide +kernel
theorem dX6_told_110 : decode cX6_told 110 = .ok (.iaload, 1) := by decide +kernel
theorem dX6_told_111 : decode cX6_told 111 = .ok (.ireturn, 1) := by decide +kernel
theorem dX6_told_112 : decode cX6_told 112 = .ok (.aload_n 0, 1) := by decide +kernel
theorem dX6_told_113 : decode cX6_told 113 = .ok (.getfield 10, 3) := by decide +kernel
theorem dX6_told_116 : decode cX6_told 116 = .ok (.getfield 150, 3) := by decide +kernel
theorem dX6_told_119 : decode cX6_told 119 = .ok (.ireturn, 1) := by decide +kernel
theorem dX6_told_120 : decode cX6_told 120 = .ok (.bipush (-2), 2) := by decide +kernel
theorem dX6_told_122 : decode cX6_told 122 = .ok (.ireturn, 1) := by decide +kernel
theorem dX6_where_0 : decode cX6_where 0 = .ok (.aload_n 0, 1) := by decide +kernel
theorem dX6_where_1 : decode cX6_where 1 = .ok (.getfield 26, 3) := by decide +kernel
theorem dX6_where_4 : decode cX6_where 4 = .ok (.aload_n 0, 1) := by decide +kernel
theorem dX6_where_5 : decode cX6_where 5 = .ok (.getfield 10, 3) := by decide +kernel
theorem dX6_where_8 : decode cX6_where 8 = .ok (.getfield 58, 3) := by decide +kernel
theorem dX6_where_11 : decode cX6_where 11 = .ok (.invokevirtual 93, 3) := by decide +kernel
theorem dX6_where_14 : decode cX6_where 14 = .ok (.bipush (-6), 2) := by decide +kernel
theorem dX6_where_16 : decode cX6_where 16 = .ok (.if_icmp .ne 13, 3) := by decide +kernel
theorem dX6_where_19 : decode cX6_where 19 = .ok (.aload_n 0, 1) := by decide +kernel
theorem dX6_where_20 : decode cX6_where 20 = .ok (.getfield 26, 3) := by decide +kernel
theorem dX6_where_23 : decode cX6_where 23 = .ok (.invokevirtual 125, 3) := by decide +kernel
theorem dX6_where_26 : decode cX6_where 26 = .ok (.ifCond .ne 6, 3) := by decide +kernel
theorem dX6_where_29 : decode cX6_where 29 = .ok (.bipush (-5), 2) := by decide +kernel
theorem dX6_where_31 : decode cX6_where 31 = .ok (.ireturn, 1) := by decide +kernel
theorem dX6_where_32 : decode cX6_where 32 = .ok (.aload_n 0, 1) := by decide +kernel
theorem dX6_where_33 : decode cX6_where 33 = .ok (.getfield 26, 3) := by decide +kernel
theorem dX6_where_36 : decode cX6_where 36 = .ok (.getfield 112, 3) := by decide +kernel
theorem dX6_where_39 : decode cX6_where 39 = .ok (.iconst 4, 1) := by decide +kernel
theorem dX6_where_40 : decode cX6_where 40 = .ok (.if_icmp .le 6, 3) := by decide +kernel
theorem dX6_where_43 : decode cX6_where 43 = .ok (.bipush (-4), 2) := by decide +kernel
theorem dX6_where_45 : decode cX6_where 45 = .ok (.ireturn, 1) := by decide +kernel
theorem dX6_where_46 : decode cX6_where 46 = .ok (.aload_n 0, 1) := by decide +kernel
theorem dX6_where_47 : decode cX6_where 47 = .ok (.getfield 16, 3) := by decide +kernel
theorem dX6_where_50 : decode cX6_where 50 = .ok (.aload_n 0, 1) := by decide +kernel
theorem dX6_where_51 : decode cX6_where 51 = .ok (.getfield 10, 3) := by decide +kernel
theorem dX6_where_54 : decode cX6_where 54 = .ok (.invokevirtual 97, 3) := by decide +kernel
theorem dX6_where_57 : decode cX6_where 57 = .ok (.aload_n 0, 1) := by decide +kernel
theorem dX6_where_58 : decode cX6_where 58 = .ok (.getfield 33, 3) := by decide +kernel
theorem dX6_where_61 : decode cX6_where 61 = .ok (.aload_n 0, 1) := by decide +kernel
theorem dX6_where_62 : decode cX6_where 62 = .ok (.getfield 16, 3) := by decide +kernel
theorem dX6_where_65 : decode cX6_where 65 = .ok (.aload_n 0, 1) := by decide +kernel
theorem dX6_where_66 : decode cX6_where 66 = .ok (.getfield 26, 3) := by decide +kernel
theorem dX6_where_69 : decode cX6_where 69 = .ok (.invokevirtual 128, 3) := by decide +kernel
theorem dX6_where_72 : decode cX6_where 72 = .ok (.iload_n 1, 1) := by decide +kernel
theorem dX6_where_73 : decode cX6_where 73 = .ok (.iconst (-1), 1) := by decide +kernel
theorem dX6_where_74 : decode cX6_where 74 = .ok (.if_icmp .ne 11, 3) := by decide +kernel
theorem dX6_where_77 : decode cX6_where 77 = .ok (.aload_n 0, 1) := by decide +kernel
theorem dX6_where_78 : decode cX6_where 78 = .ok (.getfield 33, 3) := by decide +kernel
theorem dX6_where_81 : decode cX6_where 81 = .ok (.getfield 132, 3) := by decide +kernel
theorem dX6_where_84 : decode cX6_where 84 = .ok (.ireturn, 1) := by decide +kernel
theorem dX6_where_85 : decode cX6_where 85 = .ok (.iload_n 1, 1) := by decide +kernel
theorem dX6_where_86 : decode cX6_where 86 = .ok (.ifCond .lt 26, 3) := by decide +kernel
theorem dX6_where_89 : decode cX6_where 89 = .ok (.iload_n 1, 1) := by decide +kernel
theorem dX6_where_90 : decode cX6_where 90 = .ok (.aload_n 0, 1) := by decide +kernel
theorem dX6_where_91 : decode cX6_where 91 = .ok (.getfield 26, 3) := by decide +kernel
theorem dX6_where_94 : decode cX6_where 94 = .ok (.getfield 112, 3) := by decide +kernel
theorem dX6_where_97 : decode cX6_where 97 = .ok (.if_icmp .ge 15, 3) := by decide +kernel
theorem dX6_where_100 : decode cX6_where 100 = .ok (.aload_n 0, 1) := by decide +kernel
theorem dX6_where_101 : decode cX6_where 101 = .ok (.getfield 33, 3) := by decide +kernel
theorem dX6_where_104 : decode cX6_where 104 = .ok (.getfield 135, 3) := by decide +kernel
theorem dX6_where_107 : decode cX6_where 107 = .ok (.iload_n 1, 1) := by decide +kernel
theorem dX6_where_108 : decode cX6_where 108 = .ok (.iaload, 1) := by decide +kernel
theorem dX6_where_109 : decode cX6_where 109 = .ok (.goto 5, 3) := by decide +kernel
theorem dX6_where_112 : decode cX6_where 112 = .ok (.bipush (-6), 2) := by decide +kernel
theorem dX6_where_114 : decode cX6_where 114 = .ok (.ireturn, 1) := by decide +kernel
theorem dX6_who_0 : decode cX6_who 0 = .ok (.iload_n 1, 1) := by decide +kernel
theorem dX6_who_1 : decode cX6_who 1 = .ok (.iconst 0, 1) := by decide +kernel
theorem dX6_who_2 : decode cX6_who 2 = .ok (.iconst 3, 1) := by decide +kernel
theorem dX6_who_3 : decode cX6_who 3 = .ok (.invokestatic 70, 3) := by decide +kernel
theorem dX6_who_6 : decode cX6_who 6 = .ok (.ifCond .ne 12, 3) := by decide +kernel
theorem dX6_who_9 : decode cX6_who 9 = .ok (.iload_n 2, 1) := by decide +kernel
theorem dX6_who_10 : decode cX6_who 10 = .ok (.iconst 0, 1) := by decide +kernel
theorem dX6_who_11 : decode cX6_who 11 = .ok (.iconst 2, 1) := by decide +kernel
theorem dX6_who_12 : decode cX6_who 12 = .ok (.invokestatic 70, 3) := by decide +kernel
theorem dX6_who_15 : decode cX6_who 15 = .ok (.ifCond .eq 6, 3) := by decide +kernel
theorem dX6_who_18 : decode cX6_who 18 = .ok (.bipush (-2), 2) := by decide +kernel
theorem dX6_who_20 : decode cX6_who 20 = .ok (.ireturn, 1) := by decide +kernel
theorem dX6_who_21 : decode cX6_who 21 = .ok (.aload_n 0, 1) := by decide +kernel
theorem dX6_who_22 : decode cX6_who 22 = .ok (.getfield 47, 3) := by decide +kernel
theorem dX6_who_25 : decode cX6_who 25 = .ok (.aload_n 0, 1) := by decide +kernel
theorem dX6_who_26 : decode cX6_who 26 = .ok (.getfield 10, 3) := by decide +kernel
theorem dX6_who_29 : decode cX6_who 29 = .ok (.iload_n 1, 1) := by decide +kernel
theorem dX6_who_30 : decode cX6_who 30 = .ok (.invokevirtual 159, 3) := by decide +kernel
theorem dX6_who_33 : decode cX6_who 33 = .ok (.iload_n 2, 1) := by decide +kernel
theorem dX6_who_34 : decode cX6_who 34 = .ok (.ifCond .ne 11, 3) := by decide +kernel
theorem dX6_who_37 : decode cX6_who 37 = .ok (.aload_n 0, 1) := by decide +kernel
theorem dX6_who_38 : decode cX6_who 38 = .ok (.getfield 47, 3) := by decide +kernel
theorem dX6_who_41 : decode cX6_who 41 = .ok (.getfield 163, 3) := by decide +kernel
theorem dX6_who_44 : decode cX6_who 44 = .ok (.ireturn, 1) := by decide +kernel
theorem dX6_who_45 : decode cX6_who 45 = .ok (.iload_n 2, 1) := by decide +kernel
theorem dX6_who_46 : decode cX6_who 46 = .ok (.iconst 1, 1) := by decide +kernel
theorem dX6_who_47 : decode cX6_who 47 = .ok (.if_icmp .ne 13, 3) := by decide +kernel
theorem dX6_who_50 : decode cX6_who 50 = .ok (.aload_n 0, 1) := by decide +kernel
theorem dX6_who_51 : decode cX6_who 51 = .ok (.getfield 47, 3) := by decide +kernel
theorem dX6_who_54 : decode cX6_who 54 = .ok (.getfield 166, 3) := by decide +kernel
theorem dX6_who_57 : decode cX6_who 57 = .ok (.goto 10, 3) := by decide +kernel
theorem dX6_who_60 : decode cX6_who 60 = .ok (.aload_n 0, 1) := by decide +kernel
theorem dX6_who_61 : decode cX6_who 61 = .ok (.getfield 47, 3) := by decide +kernel
theorem dX6_who_64 : decode cX6_who 64 = .ok (.getfield 169, 3) := by decide +kernel
theorem dX6_who_67 : decode cX6_who 67 = .ok (.ireturn, 1) := by decide +kernel
theorem dX6_winter_0 : decode cX6_winter 0 = .ok (.iload_n 1, 1) := by decide +kernel
theorem dX6_winter_1 : decode cX6_winter 1 = .ok (.iconst 0, 1) := by decide +kernel
theorem dX6_winter_2 : decode cX6_winter 2 = .ok (.sipush 9999, 3) := by decide +kernel
theorem dX6_winter_5 : decode cX6_winter 5 = .ok (.invokestatic 70, 3) := by decide +kernel
theorem dX6_winter_8 : decode cX6_winter 8 = .ok (.ifCond .ne 22, 3) := by decide +kernel
theorem dX6_winter_11 : decode cX6_winter 11 = .ok (.iload_n 2, 1) := by decide +kernel
theorem dX6_winter_12 : decode cX6_winter 12 = .ok (.iconst 1, 1) := by decide +kernel
theorem dX6_winter_13 : decode cX6_winter 13 = .ok (.bipush 99, 2) := by decide +kernel
theorem dX6_winter_15 : decode cX6_winter 15 = .ok (.invokestatic 70, 3) := by decide +kernel
theorem dX6_winter_18 : decode cX6_winter 18 = .ok (.ifCond .ne 12, 3) := by decide +kernel
theorem dX6_winter_21 : decode cX6_winter 21 = .ok (.iload_n 3, 1) := by decide +kernel
theorem dX6_winter_22 : decode cX6_winter 22 = .ok (.iconst 0, 1) := by decide +kernel
theorem dX6_winter_23 : decode cX6_winter 23 = .ok (.iconst 2, 1) := by decide +kernel
theorem dX6_winter_24 : decode cX6_winter 24 = .ok (.invokestatic 70, 3) := by decide +kernel
theorem dX6_winter_27 : decode cX6_winter 27 = .ok (.ifCond .eq 6, 3) := by decide +kernel
theorem dX6_winter_30 : decode cX6_winter 30 = .ok (.bipush (-2), 2) := by decide +kernel
theorem dX6_winter_32 : decode cX6_winter 32 = .ok (.ireturn, 1) := by decide +kernel
theorem dX6_winter_33 : decode cX6_winter 33 = .ok (.aload_n 0, 1) := by decide +kernel
theorem dX6_winter_34 : decode cX6_winter 34 = .ok (.getfield 16, 3) := by decide +kernel
theorem dX6_winter_37 : decode cX6_winter 37 = .ok (.aload_n 0, 1) := by decide +kernel
theorem dX6_winter_38 : decode cX6_winter 38 = .ok (.getfield 10, 3) := by decide +kernel
theorem dX6_winter_41 : decode cX6_winter 41 = .ok (.invokevirtual 97, 3) := by decide +kernel
theorem dX6_winter_44 : decode cX6_winter 44 = .ok (.iload_n 1, 1) := by decide +kernel
theorem dX6_winter_45 : decode cX6_winter 45 = .ok (.istore 4, 2) := by decide +kernel
theorem dX6_winter_47 : decode cX6_winter 47 = .ok (.iconst 0, 1) := by decide +kernel
theorem dX6_winter_48 : decode cX6_winter 48 = .ok (.istore 5, 2) := by decide +kernel
theorem dX6_winter_50 : decode cX6_winter 50 = .ok (.iload 5, 2) := by decide +kernel
theorem dX6_winter_52 : decode cX6_winter 52 = .ok (.iload_n 2, 1) := by decide +kernel
theorem dX6_winter_53 : decode cX6_winter 53 = .ok (.if_icmp .ge 31, 3) := by decide +kernel
theorem dX6_winter_56 : decode cX6_winter 56 = .ok (.bipush 75, 2) := by decide +kernel
theorem dX6_winter_58 : decode cX6_winter 58 = .ok (.iload 4, 2) := by decide +kernel
theorem dX6_winter_60 : decode cX6_winter 60 = .ok (.imul, 1) := by decide +kernel
theorem dX6_winter_61 : decode cX6_winter 61 = .ok (.bipush 74, 2) := by decide +kernel
theorem dX6_winter_63 : decode cX6_winter 63 = .ok (.iadd, 1) := by decide +kernel
theorem dX6_winter_64 : decode cX6_winter 64 = .ok (.ldc 209, 2) := by decide +kernel
theorem dX6_winter_66 : decode cX6_winter 66 = .ok (.irem, 1) := by decide +kernel
theorem dX6_winter_67 : decode cX6_winter 67 = .ok (.istore 4, 2) := by decide +kernel
theorem dX6_winter_69 : decode cX6_winter 69 = .ok (.aload_n 0, 1) := by decide +kernel
theorem dX6_winter_70 : decode cX6_winter 70 = .ok (.getfield 16, 3) := by decide +kernel
theorem dX6_winter_73 : decode cX6_winter 73 = .ok (.iload 4, 2) := by decide +kernel
theorem dX6_winter_75 : decode cX6_winter 75 = .ok (.invokevirtual 210, 3) := by decide +kernel
theorem dX6_winter_78 : decode cX6_winter 78 = .ok (.iinc 5 1, 3) := by decide +kernel
theorem dX6_winter_81 : decode cX6_winter 81 = .ok (.goto (-31), 3) := by decide +kernel
theorem dX6_winter_84 : decode cX6_winter 84 = .ok (.iload_n 3, 1) := by decide +kernel
theorem dX6_winter_85 : decode cX6_winter 85 = .ok (.ifCond .ne 11, 3) := by decide +kernel
theorem dX6_winter_88 : decode cX6_winter 88 = .ok (.aload_n 0, 1) := by decide +kernel
theorem dX6_winter_89 : decode cX6_winter 89 = .ok (.getfield 16, 3) := by decide +kernel
theorem dX6_winter_92 : decode cX6_winter 92 = .ok (.invokevirtual 213, 3) := by decide +kernel
theorem dX6_winter_95 : decode cX6_winter 95 = .ok (.ireturn, 1) := by decide +kernel
theorem dX6_winter_96 : decode cX6_winter 96 = .ok (.iload_n 3, 1) := by decide +kernel
theorem dX6_winter_97 : decode cX6_winter 97 = .ok (.iconst 1, 1) := by decide +kernel
theorem dX6_winter_98 : decode cX6_winter 98 = .ok (.if_icmp .ne 13, 3) := by decide +kernel
theorem dX6_winter_101 : decode cX6_winter 101 = .ok (.aload_n 0, 1) := by decide +kernel
theorem dX6_winter_102 : decode cX6_winter 102 = .ok (.getfield 16, 3) := by decide +kernel
theorem dX6_winter_105 : decode cX6_winter 105 = .ok (.getfield 81, 3) := by decide +kernel
theorem dX6_winter_108 : decode cX6_winter 108 = .ok (.goto 10, 3) := by decide +kernel
theorem dX6_winter_111 : decode cX6_winter 111 = .ok (.aload_n 0, 1) := by decide +kernel
theorem dX6_winter_112 : decode cX6_winter 112 = .ok (.getfield 16, 3) := by decide +kernel
theorem dX6_winter_115 : decode cX6_winter 115 = .ok (.getfield 216, 3) := by decide +kernel
theorem dX6_winter_118 : decode cX6_winter 118 = .ok (.ireturn, 1) := by decide +kernel
theorem dX6_wipe_0 : decode cX6_wipe 0 = .ok (.aload_n 0, 1) := by decide +kernel
theorem dX6_wipe_1 : decode cX6_wipe 1 = .ok (.getfield 26, 3) := by decide +kernel
theorem dX6_wipe_4 : decode cX6_wipe 4 = .ok (.getfield 87, 3) := by decide +kernel
theorem dX6_wipe_7 : decode cX6_wipe 7 = .ok (.istore_n 1, 1) := by decide +kernel
theorem dX6_wipe_8 : decode cX6_wipe 8 = .ok (.aload_n 0, 1) := by decide +kernel
theorem dX6_wipe_9 : decode cX6_wipe 9 = .ok (.getfield 26, 3) := by decide +kernel
theorem dX6_wipe_12 : decode cX6_wipe 12 = .ok (.iconst 0, 1) := by decide +kernel
theorem dX6_wipe_13 : decode cX6_wipe 13 = .ok (.putfield 87, 3) := by decide +kernel
theorem dX6_wipe_16 : decode cX6_wipe 16 = .ok (.iload_n 1, 1) := by decide +kernel
theorem dX6_wipe_17 : decode cX6_wipe 17 = .ok (.ireturn, 1) := by decide +kernel
end
section
theorem dX7_asNow_0 : decode cX7_asNow 0 = .ok (.aload_n 0, 1) := by decide +kernel
theorem dX7_asNow_1 : decode cX7_asNow 1 = .ok (.aload_n 0, 1) := by decide +kernel
theorem dX7_asNow_2 : decode cX7_asNow 2 = .ok (.getfield 82, 3) := by decide +kernel
theorem dX7_asNow_5 : decode cX7_asNow 5 = .ok (.putfield 106, 3) := by decide +kernel
theorem dX7_asNow_8 : decode cX7_asNow 8 = .ok (.aload_n 0, 1) := by decide +kernel
theorem dX7_asNow_9 : decode cX7_asNow 9 = .ok (.aload_n 0, 1) := by decide +kernel
theorem dX7_asNow_10 : decode cX7_asNow 10 = .ok (.getfield 85, 3) := by decide +kernel
theorem dX7_asNow_13 : decode cX7_asNow 13 = .ok (.putfield 109, 3) := by decide +kernel
theorem dX7_asNow_16 : decode cX7_asNow 16 = .ok (.aload_n 0, 1) := by decide +kernel
theorem dX7_asNow_17 : decode cX7_asNow 17 = .ok (.aload_n 0, 1) := by decide +kernel
theorem dX7_asNow_18 : decode cX7_asNow 18 = .ok (.getfield 26, 3) := by decide +kernel
theorem dX7_asNow_21 : decode cX7_asNow 21 = .ok (.putfield 112, 3) := by decide +kernel
theorem dX7_asNow_24 : decode cX7_asNow 24 = .ok (.aload_n 0, 1) := by decide +kernel
theorem dX7_asNow_25 : decode cX7_asNow 25 = .ok (.aload_n 0, 1) := by decide +kernel
theorem dX7_asNow_26 : decode cX7_asNow 26 = .ok (.getfield 29, 3) := by decide +kernel
theorem dX7_asNow_29 : decode cX7_asNow 29 = .ok (.putfield 115, 3) := by decide +kernel
theorem dX7_asNow_32 : decode cX7_asNow 32 = .ok (.aload_n 0, 1) := by decide +kernel
theorem dX7_asNow_33 : decode cX7_asNow 33 = .ok (.aload_n 0, 1) := by decide +kernel
theorem dX7_asNow_34 : decode cX7_asNow 34 = .ok (.getfield 32, 3) := by decide +kernel
theorem dX7_asNow_37 : decode cX7_asNow 37 = .ok (.putfield 118, 3) := by decide +kernel
theorem dX7_asNow_40 : decode cX7_asNow 40 = .ok (.iconst 0, 1) := by decide +kernel
theorem dX7_asNow_41 : decode cX7_asNow 41 = .ok (.istore_n 1, 1) := by decide +kernel
theorem dX7_asNow_42 : decode cX7_asNow 42 = .ok (.iload_n 1, 1) := by decide +kernel
theorem dX7_asNow_43 : decode cX7_asNow 43 = .ok (.bipush 8, 2) := by decide +kernel
theorem dX7_asNow_45 : decode cX7_asNow 45 = .ok (.if_icmp .ge 33, 3) := by decide +kernel
theorem dX7_asNow_48 : decode cX7_asNow 48 = .ok (.aload_n 0, 1) := by decide +kernel
theorem dX7_asNow_49 : decode cX7_asNow 49 = .ok (.getfield 44, 3) := by decide +kernel
theorem dX7_asNow_52 : decode cX7_asNow 52 = .ok (.iload_n 1, 1) := by decide +kernel
theorem dX7_asNow_53 : decode cX7_asNow 53 = .ok (.aload_n 0, 1) := by decide +kernel
theorem dX7_asNow_54 : decode cX7_asNow 54 = .ok (.getfield 13, 3) := by decide +kernel
theorem dX7_asNow_57 : decode cX7_asNow 57 = .ok (.iload_n 1, 1) := by decide +kernel
theorem dX7_asNow_58 : decode cX7_asNow 58 = .ok (.iaload, 1) := by decide +kernel
theorem dX7_asNow_59 : decode cX7_asNow 59 = .ok (.iastore, 1) := by decide +kernel
theorem dX7_asNow_60 : decode cX7_asNow 60 = .ok (.aload_n 0, 1) := by decide +kernel
theorem dX7_asNow_61 : decode cX7_asNow 61 = .ok (.getfield 50, 3) := by decide +kernel
theorem dX7_asNow_64 : decode cX7_asNow 64 = .ok (.iload_n 1, 1) := by decide +kernel
theorem dX7_asNow_65 : decode cX7_asNow 65 = .ok (.aload_n 0, 1) := by decide +kernel
theorem dX7_asNow_66 : decode cX7_asNow 66 = .ok (.getfield 20, 3) := by decide +kernel
theorem dX7_asNow_69 : decode cX7_asNow 69 = .ok (.iload_n 1, 1) := by decide +kernel
theorem dX7_asNow_70 : decode cX7_asNow 70 = .ok (.iaload, 1) := by decide +kernel
theorem dX7_asNow_71 : decode cX7_asNow 71 = .ok (.iastore, 1) := by decide +kernel
theorem dX7_asNow_72 : decode cX7_asNow 72 = .ok (.iinc 1 1, 3) := by decide +kernel
theorem dX7_asNow_75 : decode cX7_asNow 75 = .ok (.goto (-33), 3) := by decide +kernel
theorem dX7_asNow_78 : decode cX7_asNow 78 = .ok (.iconst 0, 1) := by decide +kernel
theorem dX7_asNow_79 : decode cX7_asNow 79 = .ok (.istore_n 1, 1) := by decide +kernel
theorem dX7_asNow_80 : decode cX7_asNow 80 = .ok (.iload_n 1, 1) := by decide +kernel
theorem dX7_asNow_81 : decode cX7_asNow 81 = .ok (.bipush 64, 2) := by decide +kernel
theorem dX7_asNow_83 : decode cX7_asNow 83 = .ok (.if_icmp .ge 21, 3) := by decide +kernel
theorem dX7_asNow_86 : decode cX7_asNow 86 = .ok (.aload_n 0, 1) := by decide +kernel
theorem dX7_asNow_87 : decode cX7_asNow 87 = .ok (.getfield 53, 3) := by decide +kernel
theorem dX7_asNow_90 : decode cX7_asNow 90 = .ok (.iload_n 1, 1) := by decide +kernel
theorem dX7_asNow_91 : decode cX7_asNow 91 = .ok (.aload_n 0, 1) := by decide +kernel
theorem dX7_asNow_92 : decode cX7_asNow 92 = .ok (.getfield 23, 3) := by decide +kernel
theorem dX7_asNow_95 : decode cX7_asNow 95 = .ok (.iload_n 1, 1) := by decide +kernel
theorem dX7_asNow_96 : decode cX7_asNow 96 = .ok (.iaload, 1) := by decide +kernel
theorem dX7_asNow_97 : decode cX7_asNow 97 = .ok (.iastore, 1) := by decide +kernel
theorem dX7_asNow_98 : decode cX7_asNow 98 = .ok (.iinc 1 1, 3) := by decide +kernel
theorem dX7_asNow_101 : decode cX7_asNow 101 = .ok (.goto (-21), 3) := by decide +kernel
theorem dX7_asNow_104 : decode cX7_asNow 104 = .ok (.return_, 1) := by decide +kernel
theorem dX7_barOfTalk_0 : decode cX7_barOfTalk 0 = .ok (.aload_n 0, 1) := by decide +kernel
theorem dX7_barOfTalk_1 : decode cX7_barOfTalk 1 = .ok (.invokevirtual 168, 3) := by decide +kernel
theorem dX7_barOfTalk_4 : decode cX7_barOfTalk 4 = .ok (.aload_n 0, 1) := by decide +kernel
theorem dX7_barOfTalk_5 : decode cX7_barOfTalk 5 = .ok (.invokevirtual 102, 3) := by decide +kernel
theorem dX7_barOfTalk_8 : decode cX7_barOfTalk 8 = .ok (.ifCond .ge 11, 3) := by decide +kernel
theorem dX7_barOfTalk_11 : decode cX7_barOfTalk 11 = .ok (.aload_n 0, 1) := by decide +kernel
theorem dX7_barOfTalk_12 : decode cX7_barOfTalk 12 = .ok (.iconst 0, 1) := by decide +kernel
theorem dX7_barOfTalk_13 : decode cX7_barOfTalk 13 = .ok (.invokevirtual 171, 3) := by decide +kernel
theorem dX7_barOfTalk_16 : decode cX7_barOfTalk 16 = .ok (.ifCond .lt 8, 3) := by decide +kernel
theorem dX7_barOfTalk_19 : decode cX7_barOfTalk 19 = .ok (.bipush (-5), 2) := by decide +kernel
theorem dX7_barOfTalk_21 : decode cX7_barOfTalk 21 = .ok (.goto 4, 3) := by decide +kernel
theorem dX7_barOfTalk_24 : decode cX7_barOfTalk 24 = .ok (.iconst 0, 1) := by decide +kernel
theorem dX7_barOfTalk_25 : decode cX7_barOfTalk 25 = .ok (.ireturn, 1) := by decide +kernel
theorem dX7_bearing_0 : decode cX7_bearing 0 = .ok (.lconst 0, 1) := by decide +kernel
theorem dX7_bearing_1 : decode cX7_bearing 1 = .ok (.lstore 5, 2) := by decide +kernel
theorem dX7_bearing_3 : decode cX7_bearing 3 = .ok (.iconst 0, 1) := by decide +kernel
theorem dX7_bearing_4 : decode cX7_bearing 4 = .ok (.istore 7, 2) := by decide +kernel
theorem dX7_bearing_6 : decode cX7_bearing 6 = .ok (.iload 7, 2) := by decide +kernel
theorem dX7_bearing_8 : decode cX7_bearing 8 = .ok (.iconst 1, 1) := by decide +kernel
theorem dX7_bearing_9 : decode cX7_bearing 9 = .ok (.iload_n 3, 1) := by decide +kernel
theorem dX7_bearing_10 : decode cX7_bearing 10 = .ok (.ishl, 1) := by decide +kernel
theorem dX7_bearing_11 : decode cX7_bearing 11 = .ok (.if_icmp .ge 103, 3) := by decide +kernel
theorem dX7_bearing_14 : decode cX7_bearing 14 = .ok (.lconst 1, 1) := by decide +kernel
theorem dX7_bearing_15 : decode cX7_bearing 15 = .ok (.lstore 8, 2) := by decide +kernel
theorem dX7_bearing_17 : decode cX7_bearing 17 = .ok (.iconst 0, 1) := by decide +kernel
theorem dX7_bearing_18 : decode cX7_bearing 18 = .ok (.istore 10, 2) := by decide +kernel
theorem dX7_bearing_20 : decode cX7_bearing 20 = .ok (.iconst 0, 1) := by decide +kernel
theorem dX7_bearing_21 : decode cX7_bearing 21 = .ok (.istore 11, 2) := by decide +kernel
theorem dX7_bearing_23 : decode cX7_bearing 23 = .ok (.iload 11, 2) := by decide +kernel
theorem dX7_bearing_25 : decode cX7_bearing 25 = .ok (.iload_n 3, 1) := by decide +kernel
theorem dX7_bearing_26 : decode cX7_bearing 26 = .ok (.if_icmp .ge 57, 3) := by decide +kernel
theorem dX7_bearing_29 : decode cX7_bearing 29 = .ok (.lload 8, 2) := by decide +kernel
theorem dX7_bearing_31 : decode cX7_bearing 31 = .ok (.iload 7, 2) := by decide +kernel
theorem dX7_bearing_33 : decode cX7_bearing 33 = .ok (.iload 11, 2) := by decide +kernel
theorem dX7_bearing_35 : decode cX7_bearing 35 = .ok (.invokestatic 121, 3) := by decide +kernel
theorem dX7_bearing_38 : decode cX7_bearing 38 = .ok (.ifCond .eq 8, 3) := by decide +kernel
theorem dX7_bearing_41 : decode cX7_bearing 41 = .ok (.iload_n 2, 1) := by decide +kernel
theorem dX7_bearing_42 : decode cX7_bearing 42 = .ok (.i2l, 1) := by decide +kernel
theorem dX7_bearing_43 : decode cX7_bearing 43 = .ok (.goto 8, 3) := by decide +kernel
theorem dX7_bearing_46 : decode cX7_bearing 46 = .ok (.bipush 10, 2) := by decide +kernel
theorem dX7_bearing_48 : decode cX7_bearing 48 = .ok (.iload_n 2, 1) := by decide +kernel
theorem dX7_bearing_49 : decode cX7_bearing 49 = .ok (.isub, 1) := by decide +kernel
theorem dX7_bearing_50 : decode cX7_bearing 50 = .ok (.i2l, 1) := by decide +kernel
theorem dX7_bearing_51 : decode cX7_bearing 51 = .ok (.lmul, 1) := by decide +kernel
theorem dX7_bearing_52 : decode cX7_bearing 52 = .ok (.lstore 8, 2) := by decide +kernel
theorem dX7_bearing_54 : decode cX7_bearing 54 = .ok (.iload 10, 2) := by decide +kernel
theorem dX7_bearing_56 : decode cX7_bearing 56 = .ok (.iload 7, 2) := by decide +kernel
theorem dX7_bearing_58 : decode cX7_bearing 58 = .ok (.iload 11, 2) := by decide +kernel
theorem dX7_bearing_60 : decode cX7_bearing 60 = .ok (.invokestatic 121, 3) := by decide +kernel
theorem dX7_bearing_63 : decode cX7_bearing 63 = .ok (.ifCond .eq 10, 3) := by decide +kernel
theorem dX7_bearing_66 : decode cX7_bearing 66 = .ok (.aload_n 0, 1) := by decide +kernel
theorem dX7_bearing_67 : decode cX7_bearing 67 = .ok (.getfield 29, 3) := by decide +kernel
theorem dX7_bearing_70 : decode cX7_bearing 70 = .ok (.goto 4, 3) := by decide +kernel
theorem dX7_bearing_73 : decode cX7_bearing 73 = .ok (.iconst 0, 1) := by decide +kernel
theorem dX7_bearing_74 : decode cX7_bearing 74 = .ok (.iadd, 1) := by decide +kernel
theorem dX7_bearing_75 : decode cX7_bearing 75 = .ok (.istore 10, 2) := by decide +kernel
theorem dX7_bearing_77 : decode cX7_bearing 77 = .ok (.iinc 11 1, 3) := by decide +kernel
theorem dX7_bearing_80 : decode cX7_bearing 80 = .ok (.goto (-57), 3) := by decide +kernel
theorem dX7_bearing_83 : decode cX7_bearing 83 = .ok (.lload 5, 2) := by decide +kernel
theorem dX7_bearing_85 : decode cX7_bearing 85 = .ok (.aload_n 0, 1) := by decide +kernel
theorem dX7_bearing_86 : decode cX7_bearing 86 = .ok (.getfield 13, 3) := by decide +kernel
theorem dX7_bearing_89 : decode cX7_bearing 89 = .ok (.iload_n 1, 1) := by decide +kernel
theorem dX7_bearing_90 : decode cX7_bearing 90 = .ok (.iaload, 1) := by decide +kernel
theorem dX7_bearing_91 : decode cX7_bearing 91 = .ok (.iload 10, 2) := by decide +kernel
theorem dX7_bearing_93 : decode cX7_bearing 93 = .ok (.iadd, 1) := by decide +kernel
theorem dX7_bearing_94 : decode cX7_bearing 94 = .ok (.iload 4, 2) := by decide +kernel
theorem dX7_bearing_96 : decode cX7_bearing 96 = .ok (.if_icmp .gt 8, 3) := by decide +kernel
theorem dX7_bearing_99 : decode cX7_bearing 99 = .ok (.lload 8, 2) := by decide +kernel
theorem dX7_bearing_101 : decode cX7_bearing 101 = .ok (.goto 4, 3) := by decide +kernel
theorem dX7_bearing_104 : decode cX7_bearing 104 = .ok (.lconst 0, 1) := by decide +kernel
theorem dX7_bearing_105 : decode cX7_bearing 105 = .ok (.ladd, 1) := by decide +kernel
theorem dX7_bearing_106 : decode cX7_bearing 106 = .ok (.lstore 5, 2) := by decide +kernel
theorem dX7_bearing_108 : decode cX7_bearing 108 = .ok (.iinc 7 1, 3) := by decide +kernel
theorem dX7_bearing_111 : decode cX7_bearing 111 = .ok (.goto (-105), 3) := by decide +kernel
theorem dX7_bearing_114 : decode cX7_bearing 114 = .ok (.lload 5, 2) := by decide +kernel
theorem dX7_bearing_116 : decode cX7_bearing 116 = .ok (.lreturn, 1) := by decide +kernel
theorem dX7_behind_0 : decode cX7_behind 0 = .ok (.aload_n 0, 1) := by decide +kernel
theorem dX7_behind_1 : decode cX7_behind 1 = .ok (.iload_n 1, 1) := by decide +kernel
theorem dX7_behind_2 : decode cX7_behind 2 = .ok (.invokevirtual 95, 3) := by decide +kernel
theorem dX7_behind_5 : decode cX7_behind 5 = .ok (.ifCond .ne 5, 3) := by decide +kernel
theorem dX7_behind_8 : decode cX7_behind 8 = .ok (.iconst (-1), 1) := by decide +kernel
theorem dX7_behind_9 : decode cX7_behind 9 = .ok (.ireturn, 1) := by decide +kernel
theorem dX7_behind_10 : decode cX7_behind 10 = .ok (.iload_n 2, 1) := by decide +kernel
theorem dX7_behind_11 : decode cX7_behind 11 = .ok (.iconst 0, 1) := by decide +kernel
theorem dX7_behind_12 : decode cX7_behind 12 = .ok (.iconst 1, 1) := by decide +kernel
theorem dX7_behind_13 : decode cX7_behind 13 = .ok (.invokestatic 91, 3) := by decide +kernel
theorem dX7_behind_16 : decode cX7_behind 16 = .ok (.ifCond .ne 6, 3) := by decide +kernel
theorem dX7_behind_19 : decode cX7_behind 19 = .ok (.bipush (-2), 2) := by decide +kernel
theorem dX7_behind_21 : decode cX7_behind 21 = .ok (.ireturn, 1) := by decide +kernel
theorem dX7_behind_22 : decode cX7_behind 22 = .ok (.aload_n 0, 1) := by decide +kernel
theorem dX7_behind_23 : decode cX7_behind 23 = .ok (.invokevirtual 175, 3) := by decide +kernel
theorem dX7_behind_26 : decode cX7_behind 26 = .ok (.ifCond .ge 6, 3) := by decide +kernel
theorem dX7_behind_29 : decode cX7_behind 29 = .ok (.bipush (-5), 2) := by decide +kernel
theorem dX7_behind_31 : decode cX7_behind 31 = .ok (.ireturn, 1) := by decide +kernel
theorem dX7_behind_32 : decode cX7_behind 32 = .ok (.iload_n 2, 1) := by decide +kernel
theorem dX7_behind_33 : decode cX7_behind 33 = .ok (.ifCond .ne 12, 3) := by decide +kernel
theorem dX7_behind_36 : decode cX7_behind 36 = .ok (.aload_n 0, 1) := by decide +kernel
theorem dX7_behind_37 : decode cX7_behind 37 = .ok (.getfield 44, 3) := by decide +kernel
theorem dX7_behind_40 : decode cX7_behind 40 = .ok (.iload_n 1, 1) := by decide +kernel
theorem dX7_behind_41 : decode cX7_behind 41 = .ok (.iaload, 1) := by decide +kernel
theorem dX7_behind_42 : decode cX7_behind 42 = .ok (.goto 11, 3) := by decide +kernel
theorem dX7_behind_45 : decode cX7_behind 45 = .ok (.aload_n 0, 1) := by decide +kernel
theorem dX7_behind_46 : decode cX7_behind 46 = .ok (.getfield 106, 3) := by decide +kernel
theorem dX7_behind_49 : decode cX7_behind 49 = .ok (.iload_n 1, 1) := by decide +kernel
theorem dX7_behind_50 : decode cX7_behind 50 = .ok (.ishr, 1) := by decide +kernel
theorem dX7_behind_51 : decode cX7_behind 51 = .ok (.iconst 1, 1) := by decide +kernel
theorem dX7_behind_52 : decode cX7_behind 52 = .ok (.iand, 1) := by decide +kernel
theorem dX7_behind_53 : decode cX7_behind 53 = .ok (.ireturn, 1) := by decide +kernel
theorem dX7_build_0 : decode cX7_build 0 = .ok (.aload_n 0, 1) := by decide +kernel
theorem dX7_build_1 : decode cX7_build 1 = .ok (.iload_n 1, 1) := by decide +kernel
theorem dX7_build_2 : decode cX7_build 2 = .ok (.invokevirtual 95, 3) := by decide +kernel
theorem dX7_build_5 : decode cX7_build 5 = .ok (.ifCond .ne 5, 3) := by decide +kernel
theorem dX7_build_8 : decode cX7_build 8 = .ok (.iconst (-1), 1) := by decide +kernel
theorem dX7_build_9 : decode cX7_build 9 = .ok (.ireturn, 1) := by decide +kernel
theorem dX7_build_10 : decode cX7_build 10 = .ok (.iload_n 2, 1) := by decide +kernel
theorem dX7_build_11 : decode cX7_build 11 = .ok (.iconst 0, 1) := by decide +kernel
theorem dX7_build_12 : decode cX7_build 12 = .ok (.bipush 10, 2) := by decide +kernel
theorem dX7_build_14 : decode cX7_build 14 = .ok (.invokestatic 91, 3) := by decide +kernel
theorem dX7_build_17 : decode cX7_build 17 = .ok (.ifCond .eq 35, 3) := by decide +kernel
theorem dX7_build_20 : decode cX7_build 20 = .ok (.iload_n 3, 1) := by decide +kernel
theorem dX7_build_21 : decode cX7_build 21 = .ok (.iconst 0, 1) := by decide +kernel
theorem dX7_build_22 : decode cX7_build 22 = .ok (.bipush 12, 2) := by decide +kernel
theorem dX7_build_24 : decode cX7_build 24 = .ok (.invokestatic 91, 3) := by decide +kernel
theorem dX7_build_27 : decode cX7_build 27 = .ok (.ifCond .eq 25, 3) := by decide +kernel
theorem dX7_build_30 : decode cX7_build 30 = .ok (.iload 5, 2) := by decide +kernel
theorem dX7_build_32 : decode cX7_build 32 = .ok (.iconst 1, 1) := by decide +kernel
theorem dX7_build_33 : decode cX7_build 33 = .ok (.bipush 100, 2) := by decide +kernel
theorem dX7_build_35 : decode cX7_build 35 = .ok (.invokestatic 91, 3) := by decide +kernel
theorem dX7_build_38 : decode cX7_build 38 = .ok (.ifCond .eq 14, 3) := by decide +kernel
theorem dX7_build_41 : decode cX7_build 41 = .ok (.iload 4, 2) := by decide +kernel
theorem dX7_build_43 : decode cX7_build 43 = .ok (.iconst 0, 1) := by decide +kernel
theorem dX7_build_44 : decode cX7_build 44 = .ok (.iload 5, 2) := by decide +kernel
theorem dX7_build_46 : decode cX7_build 46 = .ok (.invokestatic 91, 3) := by decide +kernel
theorem dX7_build_49 : decode cX7_build 49 = .ok (.ifCond .ne 6, 3) := by decide +kernel
theorem dX7_build_52 : decode cX7_build 52 = .ok (.bipush (-2), 2) := by decide +kernel
theorem dX7_build_54 : decode cX7_build 54 = .ok (.ireturn, 1) := by decide +kernel
theorem dX7_build_55 : decode cX7_build 55 = .ok (.iload 4, 2) := by decide +kernel
theorem dX7_build_57 : decode cX7_build 57 = .ok (.ifCond .ne 5, 3) := by decide +kernel
theorem dX7_build_60 : decode cX7_build 60 = .ok (.iconst 0, 1) := by decide +kernel
theorem dX7_build_61 : decode cX7_build 61 = .ok (.ireturn, 1) := by decide +kernel
theorem dX7_build_62 : decode cX7_build 62 = .ok (.iconst 0, 1) := by decide +kernel
theorem dX7_build_63 : decode cX7_build 63 = .ok (.istore 6, 2) := by decide +kernel
theorem dX7_build_65 : decode cX7_build 65 = .ok (.iload 6, 2) := by decide +kernel
theorem dX7_build_67 : decode cX7_build 67 = .ok (.iload_n 3, 1) := by decide +kernel
theorem dX7_build_68 : decode cX7_build 68 = .ok (.if_icmp .gt 61, 3) := by decide +kernel
theorem dX7_build_71 : decode cX7_build 71 = .ok (.aload_n 0, 1) := by decide +kernel
theorem dX7_build_72 : decode cX7_build 72 = .ok (.getfield 13, 3) := by decide +kernel
theorem dX7_build_75 : decode cX7_build 75 = .ok (.iload_n 1, 1) := by decide +kernel
theorem dX7_build_76 : decode cX7_build 76 = .ok (.iaload, 1) := by decide +kernel
theorem dX7_build_77 : decode cX7_build 77 = .ok (.iload 6, 2) := by decide +kernel
theorem dX7_build_79 : decode cX7_build 79 = .ok (.aload_n 0, 1) := by decide +kernel
theorem dX7_build_80 : decode cX7_build 80 = .ok (.getfield 29, 3) := by decide +kernel
theorem dX7_build_83 : decode cX7_build 83 = .ok (.imul, 1) := by decide +kernel
theorem dX7_build_84 : decode cX7_build 84 = .ok (.iadd, 1) := by decide +kernel
theorem dX7_build_85 : decode cX7_build 85 = .ok (.istore 7, 2) := by decide +kernel
theorem dX7_build_87 : decode cX7_build 87 = .ok (.iload 7, 2) := by decide +kernel
theorem dX7_build_89 : decode cX7_build 89 = .ok (.sipush 1000, 3) := by decide +kernel
theorem dX7_build_92 : decode cX7_build 92 = .ok (.if_icmp .ge 31, 3) := by decide +kernel
theorem dX7_build_95 : decode cX7_build 95 = .ok (.aload_n 0, 1) := by decide +kernel
theorem dX7_build_96 : decode cX7_build 96 = .ok (.iload_n 1, 1) := by decide +kernel
theorem dX7_build_97 : decode cX7_build 97 = .ok (.iload_n 2, 1) := by decide +kernel
theorem dX7_build_98 : decode cX7_build 98 = .ok (.iload_n 3, 1) := by decide +kernel
theorem dX7_build_99 : decode cX7_build 99 = .ok (.iload 7, 2) := by decide +kernel
theorem dX7_build_101 : decode cX7_build 101 = .ok (.invokevirtual 222, 3) := by decide +kernel
theorem dX7_build_104 : decode cX7_build 104 = .ok (.iload 5, 2) := by decide +kernel
theorem dX7_build_106 : decode cX7_build 106 = .ok (.i2l, 1) := by decide +kernel
theorem dX7_build_107 : decode cX7_build 107 = .ok (.lmul, 1) := by decide +kernel
theorem dX7_build_108 : decode cX7_build 108 = .ok (.iload_n 3, 1) := by decide +kernel
theorem dX7_build_109 : decode cX7_build 109 = .ok (.invokestatic 226, 3) := by decide +kernel
theorem dX7_build_112 : decode cX7_build 112 = .ok (.iload 4, 2) := by decide +kernel
theorem dX7_build_114 : decode cX7_build 114 = .ok (.i2l, 1) := by decide +kernel
theorem dX7_build_115 : decode cX7_build 115 = .ok (.lmul, 1) := by decide +kernel
theorem dX7_build_116 : decode cX7_build 116 = .ok (.lcmp, 1) := by decide +kernel
theorem dX7_build_117 : decode cX7_build 117 = .ok (.ifCond .lt 6, 3) := by decide +kernel
theorem dX7_build_120 : decode cX7_build 120 = .ok (.iload 7, 2) := by decide +kernel
theorem dX7_build_122 : decode cX7_build 122 = .ok (.ireturn, 1) := by decide +kernel
theorem dX7_build_123 : decode cX7_build 123 = .ok (.iinc 6 1, 3) := by decide +kernel
theorem dX7_build_126 : decode cX7_build 126 = .ok (.goto (-61), 3) := by decide +kernel
theorem dX7_build_129 : decode cX7_build 129 = .ok (.bipush (-6), 2) := by decide +kernel
theorem dX7_build_131 : decode cX7_build 131 = .ok (.ireturn, 1) := by decide +kernel
theorem dX7_clear_0 : decode cX7_clear 0 = .ok (.aload_n 0, 1) := by decide +kernel
theorem dX7_clear_1 : decode cX7_clear 1 = .ok (.iconst 0, 1) := by decide +kernel
theorem dX7_clear_2 : decode cX7_clear 2 = .ok (.putfield 82, 3) := by decide +kernel
theorem dX7_clear_5 : decode cX7_clear 5 = .ok (.aload_n 0, 1) := by decide +kernel
theorem dX7_clear_6 : decode cX7_clear 6 = .ok (.iconst 0, 1) := by decide +kernel
theorem dX7_clear_7 : decode cX7_clear 7 = .ok (.putfield 85, 3) := by decide +kernel
theorem dX7_clear_10 : decode cX7_clear 10 = .ok (.aload_n 0, 1) := by decide +kernel
theorem dX7_clear_11 : decode cX7_clear 11 = .ok (.iconst 0, 1) := by decide +kernel
theorem dX7_clear_12 : decode cX7_clear 12 = .ok (.putfield 88, 3) := by decide +kernel
theorem dX7_clear_15 : decode cX7_clear 15 = .ok (.iconst 0, 1) := by decide +kernel
theorem dX7_clear_16 : decode cX7_clear 16 = .ok (.istore_n 1, 1) := by decide +kernel
theorem dX7_clear_17 : decode cX7_clear 17 = .ok (.iload_n 1, 1) := by decide +kernel
theorem dX7_clear_18 : decode cX7_clear 18 = .ok (.bipush 8, 2) := by decide +kernel
theorem dX7_clear_20 : decode cX7_clear 20 = .ok (.if_icmp .ge 31, 3) := by decide +kernel
theorem dX7_clear_23 : decode cX7_clear 23 = .ok (.aload_n 0, 1) := by decide +kernel
theorem dX7_clear_24 : decode cX7_clear 24 = .ok (.getfield 13, 3) := by decide +kernel
theorem dX7_clear_27 : decode cX7_clear 27 = .ok (.iload_n 1, 1) := by decide +kernel
theorem dX7_clear_28 : decode cX7_clear 28 = .ok (.iconst 0, 1) := by decide +kernel
theorem dX7_clear_29 : decode cX7_clear 29 = .ok (.iastore, 1) := by decide +kernel
theorem dX7_clear_30 : decode cX7_clear 30 = .ok (.aload_n 0, 1) := by decide +kernel
theorem dX7_clear_31 : decode cX7_clear 31 = .ok (.getfield 17, 3) := by decide +kernel
theorem dX7_clear_34 : decode cX7_clear 34 = .ok (.iload_n 1, 1) := by decide +kernel
theorem dX7_clear_35 : decode cX7_clear 35 = .ok (.bipush 20, 2) := by decide +kernel
theorem dX7_clear_37 : decode cX7_clear 37 = .ok (.iastore, 1) := by decide +kernel
theorem dX7_clear_38 : decode cX7_clear 38 = .ok (.aload_n 0, 1) := by decide +kernel
theorem dX7_clear_39 : decode cX7_clear 39 = .ok (.getfield 20, 3) := by decide +kernel
theorem dX7_clear_42 : decode cX7_clear 42 = .ok (.iload_n 1, 1) := by decide +kernel
theorem dX7_clear_43 : decode cX7_clear 43 = .ok (.iconst 0, 1) := by decide +kernel
theorem dX7_clear_44 : decode cX7_clear 44 = .ok (.iastore, 1) := by decide +kernel
theorem dX7_clear_45 : decode cX7_clear 45 = .ok (.iinc 1 1, 3) := by decide +kernel
theorem dX7_clear_48 : decode cX7_clear 48 = .ok (.goto (-31), 3) := by decide +kernel
theorem dX7_clear_51 : decode cX7_clear 51 = .ok (.iconst 0, 1) := by decide +kernel
theorem dX7_clear_52 : decode cX7_clear 52 = .ok (.istore_n 1, 1) := by decide +kernel
theorem dX7_clear_53 : decode cX7_clear 53 = .ok (.iload_n 1, 1) := by decide +kernel
theorem dX7_clear_54 : decode cX7_clear 54 = .ok (.bipush 64, 2) := by decide +kernel
theorem dX7_clear_56 : decode cX7_clear 56 = .ok (.if_icmp .ge 16, 3) := by decide +kernel
theorem dX7_clear_59 : decode cX7_clear 59 = .ok (.aload_n 0, 1) := by decide +kernel
theorem dX7_clear_60 : decode cX7_clear 60 = .ok (.getfield 23, 3) := by decide +kernel
theorem dX7_clear_63 : decode cX7_clear 63 = .ok (.iload_n 1, 1) := by decide +kernel
theorem dX7_clear_64 : decode cX7_clear 64 = .ok (.iconst 0, 1) := by decide +kernel
theorem dX7_clear_65 : decode cX7_clear 65 = .ok (.iastore, 1) := by decide +kernel
theorem dX7_clear_66 : decode cX7_clear 66 = .ok (.iinc 1 1, 3) := by decide +kernel
theorem dX7_clear_69 : decode cX7_clear 69 = .ok (.goto (-16), 3) := by decide +kernel
theorem dX7_clear_72 : decode cX7_clear 72 = .ok (.return_, 1) := by decide +kernel
theorem dX7_cleared_0 : decode cX7_cleared 0 = .ok (.iload_n 1, 1) := by decide +kernel
theorem dX7_cleared_1 : decode cX7_cleared 1 = .ok (.iconst 0, 1) := by decide +kernel
theorem dX7_cleared_2 : decode cX7_cleared 2 = .ok (.sipush 999, 3) := by decide +kernel
theorem dX7_cleared_5 : decode cX7_cleared 5 = .ok (.invokestatic 91, 3) := by decide +kernel
theorem dX7_cleared_8 : decode cX7_cleared 8 = .ok (.ifCond .ne 6, 3) := by decide +kernel
theorem dX7_cleared_11 : decode cX7_cleared 11 = .ok (.bipush (-2), 2) := by decide +kernel
theorem dX7_cleared_13 : decode cX7_cleared 13 = .ok (.ireturn, 1) := by decide +kernel
theorem dX7_cleared_14 : decode cX7_cleared 14 = .ok (.iconst 0, 1) := by decide +kernel
theorem dX7_cleared_15 : decode cX7_cleared 15 = .ok (.istore_n 2, 1) := by decide +kernel
theorem dX7_cleared_16 : decode cX7_cleared 16 = .ok (.iconst 0, 1) := by decide +kernel
theorem dX7_cleared_17 : decode cX7_cleared 17 = .ok (.istore_n 3, 1) := by decide +kernel
theorem dX7_cleared_18 : decode cX7_cleared 18 = .ok (.iload_n 3, 1) := by decide +kernel
theorem dX7_cleared_19 : decode cX7_cleared 19 = .ok (.aload_n 0, 1) := by decide +kernel
theorem dX7_cleared_20 : decode cX7_cleared 20 = .ok (.getfield 7, 3) := by decide +kernel
theorem dX7_cleared_23 : decode cX7_cleared 23 = .ok (.if_icmp .ge 38, 3) := by decide +kernel
theorem dX7_cleared_26 : decode cX7_cleared 26 = .ok (.aload_n 0, 1) := by decide +kernel
theorem dX7_cleared_27 : decode cX7_cleared 27 = .ok (.getfield 13, 3) := by decide +kernel
theorem dX7_cleared_30 : decode cX7_cleared 30 = .ok (.iload_n 3, 1) := by decide +kernel
theorem dX7_cleared_31 : decode cX7_cleared 31 = .ok (.iaload, 1) := by decide +kernel
theorem dX7_cleared_32 : decode cX7_cleared 32 = .ok (.iload_n 1, 1) := by decide +kernel
theorem dX7_cleared_33 : decode cX7_cleared 33 = .ok (.invokestatic 129, 3) := by decide +kernel
theorem dX7_cleared_36 : decode cX7_cleared 36 = .ok (.istore 4, 2) := by decide +kernel
theorem dX7_cleared_38 : decode cX7_cleared 38 = .ok (.iload_n 2, 1) := by decide +kernel
theorem dX7_cleared_39 : decode cX7_cleared 39 = .ok (.iload 4, 2) := by decide +kernel
theorem dX7_cleared_41 : decode cX7_cleared 41 = .ok (.aload_n 0, 1) := by decide +kernel
theorem dX7_cleared_42 : decode cX7_cleared 42 = .ok (.getfield 35, 3) := by decide +kernel
theorem dX7_cleared_45 : decode cX7_cleared 45 = .ok (.iadd, 1) := by decide +kernel
theorem dX7_cleared_46 : decode cX7_cleared 46 = .ok (.iconst 1, 1) := by decide +kernel
theorem dX7_cleared_47 : decode cX7_cleared 47 = .ok (.isub, 1) := by decide +kernel
theorem dX7_cleared_48 : decode cX7_cleared 48 = .ok (.aload_n 0, 1) := by decide +kernel
theorem dX7_cleared_49 : decode cX7_cleared 49 = .ok (.getfield 35, 3) := by decide +kernel
theorem dX7_cleared_52 : decode cX7_cleared 52 = .ok (.idiv, 1) := by decide +kernel
theorem dX7_cleared_53 : decode cX7_cleared 53 = .ok (.iadd, 1) := by decide +kernel
theorem dX7_cleared_54 : decode cX7_cleared 54 = .ok (.istore_n 2, 1) := by decide +kernel
theorem dX7_cleared_55 : decode cX7_cleared 55 = .ok (.iinc 3 1, 3) := by decide +kernel
theorem dX7_cleared_58 : decode cX7_cleared 58 = .ok (.goto (-40), 3) := by decide +kernel
theorem dX7_cleared_61 : decode cX7_cleared 61 = .ok (.iload_n 2, 1) := by decide +kernel
theorem dX7_cleared_62 : decode cX7_cleared 62 = .ok (.ireturn, 1) := by decide +kernel
theorem dX7_collapse_0 : decode cX7_collapse 0 = .ok (.iconst 0, 1) := by decide +kernel
theorem dX7_collapse_1 : decode cX7_collapse 1 = .ok (.istore_n 1, 1) := by decide +kernel
theorem dX7_collapse_2 : decode cX7_collapse 2 = .ok (.iload_n 1, 1) := by decide +kernel
theorem dX7_collapse_3 : decode cX7_collapse 3 = .ok (.aload_n 0, 1) := by decide +kernel
theorem dX7_collapse_4 : decode cX7_collapse 4 = .ok (.getfield 7, 3) := by decide +kernel
theorem dX7_collapse_7 : decode cX7_collapse 7 = .ok (.if_icmp .ge 40, 3) := by decide +kernel
theorem dX7_collapse_10 : decode cX7_collapse 10 = .ok (.aload_n 0, 1) := by decide +kernel
theorem dX7_collapse_11 : decode cX7_collapse 11 = .ok (.dup, 1) := by decide +kernel
theorem dX7_collapse_12 : decode cX7_collapse 12 = .ok (.getfield 106, 3) := by decide +kernel
theorem dX7_collapse_15 : decode cX7_collapse 15 = .ok (.aload_n 0, 1) := by decide +kernel
theorem dX7_collapse_16 : decode cX7_collapse 16 = .ok (.getfield 44, 3) := by decide +kernel
theorem dX7_collapse_19 : decode cX7_collapse 19 = .ok (.iload_n 1, 1) := by decide +kernel
theorem dX7_collapse_20 : decode cX7_collapse 20 = .ok (.iaload, 1) := by decide +kernel
theorem dX7_collapse_21 : decode cX7_collapse 21 = .ok (.aload_n 0, 1) := by decide +kernel
theorem dX7_collapse_22 : decode cX7_collapse 22 = .ok (.getfield 17, 3) := by decide +kernel
theorem dX7_collapse_25 : decode cX7_collapse 25 = .ok (.iload_n 1, 1) := by decide +kernel
theorem dX7_collapse_26 : decode cX7_collapse 26 = .ok (.iaload, 1) := by decide +kernel
theorem dX7_collapse_27 : decode cX7_collapse 27 = .ok (.if_icmp .le 9, 3) := by decide +kernel
theorem dX7_collapse_30 : decode cX7_collapse 30 = .ok (.iconst 1, 1) := by decide +kernel
theorem dX7_collapse_31 : decode cX7_collapse 31 = .ok (.iload_n 1, 1) := by decide +kernel
theorem dX7_collapse_32 : decode cX7_collapse 32 = .ok (.ishl, 1) := by decide +kernel
theorem dX7_collapse_33 : decode cX7_collapse 33 = .ok (.goto 4, 3) := by decide +kernel
theorem dX7_collapse_36 : decode cX7_collapse 36 = .ok (.iconst 0, 1) := by decide +kernel
theorem dX7_collapse_37 : decode cX7_collapse 37 = .ok (.ior, 1) := by decide +kernel
theorem dX7_collapse_38 : decode cX7_collapse 38 = .ok (.putfield 106, 3) := by decide +kernel
theorem dX7_collapse_41 : decode cX7_collapse 41 = .ok (.iinc 1 1, 3) := by decide +kernel
theorem dX7_collapse_44 : decode cX7_collapse 44 = .ok (.goto (-42), 3) := by decide +kernel
theorem dX7_collapse_47 : decode cX7_collapse 47 = .ok (.return_, 1) := by decide +kernel
theorem dX7_done_0 : decode cX7_done 0 = .ok (.aload_n 0, 1) := by decide +kernel
theorem dX7_done_1 : decode cX7_done 1 = .ok (.invokevirtual 175, 3) := by decide +kernel
theorem dX7_done_4 : decode cX7_done 4 = .ok (.ifCond .ge 6, 3) := by decide +kernel
theorem dX7_done_7 : decode cX7_done 7 = .ok (.bipush (-5), 2) := by decide +kernel
theorem dX7_done_9 : decode cX7_done 9 = .ok (.ireturn, 1) := by decide +kernel
theorem dX7_done_10 : decode cX7_done 10 = .ok (.aload_n 0, 1) := by decide +kernel
theorem dX7_done_11 : decode cX7_done 11 = .ok (.aload_n 0, 1) := by decide +kernel
theorem dX7_done_12 : decode cX7_done 12 = .ok (.getfield 106, 3) := by decide +kernel
theorem dX7_done_15 : decode cX7_done 15 = .ok (.putfield 82, 3) := by decide +kernel
theorem dX7_done_18 : decode cX7_done 18 = .ok (.aload_n 0, 1) := by decide +kernel
theorem dX7_done_19 : decode cX7_done 19 = .ok (.aload_n 0, 1) := by decide +kernel
theorem dX7_done_20 : decode cX7_done 20 = .ok (.getfield 109, 3) := by decide +kernel
theorem dX7_done_23 : decode cX7_done 23 = .ok (.putfield 85, 3) := by decide +kernel
theorem dX7_done_26 : decode cX7_done 26 = .ok (.iconst 0, 1) := by decide +kernel
theorem dX7_done_27 : decode cX7_done 27 = .ok (.istore_n 1, 1) := by decide +kernel
theorem dX7_done_28 : decode cX7_done 28 = .ok (.iload_n 1, 1) := by decide +kernel
theorem dX7_done_29 : decode cX7_done 29 = .ok (.bipush 8, 2) := by decide +kernel
theorem dX7_done_31 : decode cX7_done 31 = .ok (.if_icmp .ge 33, 3) := by decide +kernel
theorem dX7_done_34 : decode cX7_done 34 = .ok (.aload_n 0, 1) := by decide +kernel
theorem dX7_done_35 : decode cX7_done 35 = .ok (.getfield 13, 3) := by decide +kernel
theorem dX7_done_38 : decode cX7_done 38 = .ok (.iload_n 1, 1) := by decide +kernel
theorem dX7_done_39 : decode cX7_done 39 = .ok (.aload_n 0, 1) := by decide +kernel
theorem dX7_done_40 : decode cX7_done 40 = .ok (.getfield 44, 3) := by decide +kernel
theorem dX7_done_43 : decode cX7_done 43 = .ok (.iload_n 1, 1) := by decide +kernel
theorem dX7_done_44 : decode cX7_done 44 = .ok (.iaload, 1) := by decide +kernel
theorem dX7_done_45 : decode cX7_done 45 = .ok (.iastore, 1) := by decide +kernel
theorem dX7_done_46 : decode cX7_done 46 = .ok (.aload_n 0, 1) := by decide +kernel
theorem dX7_done_47 : decode cX7_done 47 = .ok (.getfield 20, 3) := by decide +kernel
theorem dX7_done_50 : decode cX7_done 50 = .ok (.iload_n 1, 1) := by decide +kernel
theorem dX7_done_51 : decode cX7_done 51 = .ok (.aload_n 0, 1) := by decide +kernel
theorem dX7_done_52 : decode cX7_done 52 = .ok (.getfield 50, 3) := by decide +kernel
theorem dX7_done_55 : decode cX7_done 55 = .ok (.iload_n 1, 1) := by decide +kernel
theorem dX7_done_56 : decode cX7_done 56 = .ok (.iaload, 1) := by decide +kernel
theorem dX7_done_57 : decode cX7_done 57 = .ok (.iastore, 1) := by decide +kernel
theorem dX7_done_58 : decode cX7_done 58 = .ok (.iinc 1 1, 3) := by decide +kernel
theorem dX7_done_61 : decode cX7_done 61 = .ok (.goto (-33), 3) := by decide +kernel
theorem dX7_done_64 : decode cX7_done 64 = .ok (.iconst 0, 1) := by decide +kernel
theorem dX7_done_65 : decode cX7_done 65 = .ok (.istore_n 1, 1) := by decide +kernel
theorem dX7_done_66 : decode cX7_done 66 = .ok (.iload_n 1, 1) := by decide +kernel
theorem dX7_done_67 : decode cX7_done 67 = .ok (.bipush 64, 2) := by decide +kernel
theorem dX7_done_69 : decode cX7_done 69 = .ok (.if_icmp .ge 21, 3) := by decide +kernel
theorem dX7_done_72 : decode cX7_done 72 = .ok (.aload_n 0, 1) := by decide +kernel
theorem dX7_done_73 : decode cX7_done 73 = .ok (.getfield 23, 3) := by decide +kernel
theorem dX7_done_76 : decode cX7_done 76 = .ok (.iload_n 1, 1) := by decide +kernel
theorem dX7_done_77 : decode cX7_done 77 = .ok (.aload_n 0, 1) := by decide +kernel
theorem dX7_done_78 : decode cX7_done 78 = .ok (.getfield 53, 3) := by decide +kernel
theorem dX7_done_81 : decode cX7_done 81 = .ok (.iload_n 1, 1) := by decide +kernel
theorem dX7_done_82 : decode cX7_done 82 = .ok (.iaload, 1) := by decide +kernel
theorem dX7_done_83 : decode cX7_done 83 = .ok (.iastore, 1) := by decide +kernel
theorem dX7_done_84 : decode cX7_done 84 = .ok (.iinc 1 1, 3) := by decide +kernel
theorem dX7_done_87 : decode cX7_done 87 = .ok (.goto (-21), 3) := by decide +kernel
theorem dX7_done_90 : decode cX7_done 90 = .ok (.aload_n 0, 1) := by decide +kernel
theorem dX7_done_91 : decode cX7_done 91 = .ok (.iconst 0, 1) := by decide +kernel
theorem dX7_done_92 : decode cX7_done 92 = .ok (.putfield 99, 3) := by decide +kernel
theorem dX7_done_95 : decode cX7_done 95 = .ok (.aload_n 0, 1) := by decide +kernel
theorem dX7_done_96 : decode cX7_done 96 = .ok (.getfield 137, 3) := by decide +kernel
theorem dX7_done_99 : decode cX7_done 99 = .ok (.ireturn, 1) := by decide +kernel
theorem dX7_elsewhere_0 : decode cX7_elsewhere 0 = .ok (.iload_n 1, 1) := by decide +kernel
theorem dX7_elsewhere_1 : decode cX7_elsewhere 1 = .ok (.iconst (-1), 1) := by decide +kernel
theorem dX7_elsewhere_2 : decode cX7_elsewhere 2 = .ok (.if_icmp .eq 13, 3) := by decide +kernel
theorem dX7_elsewhere_5 : decode cX7_elsewhere 5 = .ok (.aload_n 0, 1) := by decide +kernel
theorem dX7_elsewhere_6 : decode cX7_elsewhere 6 = .ok (.iload_n 1, 1) := by decide +kernel
theorem dX7_elsewhere_7 : decode cX7_elsewhere 7 = .ok (.invokevirtual 95, 3) := by decide +kernel
theorem dX7_elsewhere_10 : decode cX7_elsewhere 10 = .ok (.ifCond .ne 5, 3) := by decide +kernel
theorem dX7_elsewhere_13 : decode cX7_elsewhere 13 = .ok (.iconst (-1), 1) := by decide +kernel
theorem dX7_elsewhere_14 : decode cX7_elsewhere 14 = .ok (.ireturn, 1) := by decide +kernel
theorem dX7_elsewhere_15 : decode cX7_elsewhere 15 = .ok (.iconst 0, 1) := by decide +kernel
theorem dX7_elsewhere_16 : decode cX7_elsewhere 16 = .ok (.istore_n 2, 1) := by decide +kernel
theorem dX7_elsewhere_17 : decode cX7_elsewhere 17 = .ok (.iload_n 2, 1) := by decide +kernel
theorem dX7_elsewhere_18 : decode cX7_elsewhere 18 = .ok (.aload_n 0, 1) := by decide +kernel
theorem dX7_elsewhere_19 : decode cX7_elsewhere 19 = .ok (.getfield 7, 3) := by decide +kernel
theorem dX7_elsewhere_22 : decode cX7_elsewhere 22 = .ok (.if_icmp .ge 34, 3) := by decide +kernel
theorem dX7_elsewhere_25 : decode cX7_elsewhere 25 = .ok (.aload_n 0, 1) := by decide +kernel
theorem dX7_elsewhere_26 : decode cX7_elsewhere 26 = .ok (.getfield 69, 3) := by decide +kernel
theorem dX7_elsewhere_29 : decode cX7_elsewhere 29 = .ok (.iload_n 2, 1) := by decide +kernel
theorem dX7_elsewhere_30 : decode cX7_elsewhere 30 = .ok (.iload_n 2, 1) := by decide +kernel
theorem dX7_elsewhere_31 : decode cX7_elsewhere 31 = .ok (.aload_n 0, 1) := by decide +kernel
theorem dX7_elsewhere_32 : decode cX7_elsewhere 32 = .ok (.getfield 7, 3) := by decide +kernel
theorem dX7_elsewhere_35 : decode cX7_elsewhere 35 = .ok (.iconst 1, 1) := by decide +kernel
theorem dX7_elsewhere_36 : decode cX7_elsewhere 36 = .ok (.isub, 1) := by decide +kernel
theorem dX7_elsewhere_37 : decode cX7_elsewhere 37 = .ok (.if_icmp .ne 9, 3) := by decide +kernel
theorem dX7_elsewhere_40 : decode cX7_elsewhere 40 = .ok (.iload_n 2, 1) := by decide +kernel
theorem dX7_elsewhere_41 : decode cX7_elsewhere 41 = .ok (.iconst 1, 1) := by decide +kernel
theorem dX7_elsewhere_42 : decode cX7_elsewhere 42 = .ok (.isub, 1) := by decide +kernel
theorem dX7_elsewhere_43 : decode cX7_elsewhere 43 = .ok (.goto 6, 3) := by decide +kernel
theorem dX7_elsewhere_46 : decode cX7_elsewhere 46 = .ok (.iload_n 2, 1) := by decide +kernel
theorem dX7_elsewhere_47 : decode cX7_elsewhere 47 = .ok (.iconst 1, 1) := by decide +kernel
theorem dX7_elsewhere_48 : decode cX7_elsewhere 48 = .ok (.iadd, 1) := by decide +kernel
theorem dX7_elsewhere_49 : decode cX7_elsewhere 49 = .ok (.iastore, 1) := by decide +kernel
theorem dX7_elsewhere_50 : decode cX7_elsewhere 50 = .ok (.iinc 2 1, 3) := by decide +kernel
theorem dX7_elsewhere_53 : decode cX7_elsewhere 53 = .ok (.goto (-36), 3) := by decide +kernel
theorem dX7_elsewhere_56 : decode cX7_elsewhere 56 = .ok (.iconst 0, 1) := by decide +kernel
theorem dX7_elsewhere_57 : decode cX7_elsewhere 57 = .ok (.istore_n 2, 1) := by decide +kernel
theorem dX7_elsewhere_58 : decode cX7_elsewhere 58 = .ok (.iconst 1, 1) := by decide +kernel
theorem dX7_elsewhere_59 : decode cX7_elsewhere 59 = .ok (.istore_n 3, 1) := by decide +kernel
theorem dX7_elsewhere_60 : decode cX7_elsewhere 60 = .ok (.iload_n 3, 1) := by decide +kernel
theorem dX7_elsewhere_61 : decode cX7_elsewhere 61 = .ok (.ifCond .eq 135, 3) := by decide +kernel
theorem dX7_elsewhere_64 : decode cX7_elsewhere 64 = .ok (.iload_n 2, 1) := by decide +kernel
theorem dX7_elsewhere_65 : decode cX7_elsewhere 65 = .ok (.bipush 50, 2) := by decide +kernel
theorem dX7_elsewhere_67 : decode cX7_elsewhere 67 = .ok (.if_icmp .ge 129, 3) := by decide +kernel
theorem dX7_elsewhere_70 : decode cX7_elsewhere 70 = .ok (.iconst 0, 1) := by decide +kernel
theorem dX7_elsewhere_71 : decode cX7_elsewhere 71 = .ok (.istore_n 3, 1) := by decide +kernel
theorem dX7_elsewhere_72 : decode cX7_elsewhere 72 = .ok (.iconst 0, 1) := by decide +kernel
theorem dX7_elsewhere_73 : decode cX7_elsewhere 73 = .ok (.istore 4, 2) := by decide +kernel
theorem dX7_elsewhere_75 : decode cX7_elsewhere 75 = .ok (.iload 4, 2) := by decide +kernel
theorem dX7_elsewhere_77 : decode cX7_elsewhere 77 = .ok (.aload_n 0, 1) := by decide +kernel
theorem dX7_elsewhere_78 : decode cX7_elsewhere 78 = .ok (.getfield 7, 3) := by decide +kernel
theorem dX7_elsewhere_81 : decode cX7_elsewhere 81 = .ok (.if_icmp .ge 109, 3) := by decide +kernel
theorem dX7_elsewhere_84 : decode cX7_elsewhere 84 = .ok (.aload_n 0, 1) := by decide +kernel
theorem dX7_elsewhere_85 : decode cX7_elsewhere 85 = .ok (.getfield 69, 3) := by decide +kernel
theorem dX7_elsewhere_88 : decode cX7_elsewhere 88 = .ok (.iload 4, 2) := by decide +kernel
theorem dX7_elsewhere_90 : decode cX7_elsewhere 90 = .ok (.iaload, 1) := by decide +kernel
theorem dX7_elsewhere_91 : decode cX7_elsewhere 91 = .ok (.istore 5, 2) := by decide +kernel
theorem dX7_elsewhere_93 : decode cX7_elsewhere 93 = .ok (.aload_n 0, 1) := by decide +kernel
theorem dX7_elsewhere_94 : decode cX7_elsewhere 94 = .ok (.iload 4, 2) := by decide +kernel
theorem dX7_elsewhere_96 : decode cX7_elsewhere 96 = .ok (.iload 5, 2) := by decide +kernel
theorem dX7_elsewhere_98 : decode cX7_elsewhere 98 = .ok (.invokevirtual 230, 3) := by decide +kernel
theorem dX7_elsewhere_101 : decode cX7_elsewhere 101 = .ok (.istore 6, 2) := by decide +kernel
theorem dX7_elsewhere_103 : decode cX7_elsewhere 103 = .ok (.iconst 0, 1) := by decide +kernel
theorem dX7_elsewhere_104 : decode cX7_elsewhere 104 = .ok (.istore 7, 2) := by decide +kernel
theorem dX7_elsewhere_106 : decode cX7_elsewhere 106 = .ok (.iload 7, 2) := by decide +kernel
theorem dX7_elsewhere_108 : decode cX7_elsewhere 108 = .ok (.aload_n 0, 1) := by decide +kernel
theorem dX7_elsewhere_109 : decode cX7_elsewhere 109 = .ok (.getfield 7, 3) := by decide +kernel
theorem dX7_elsewhere_112 : decode cX7_elsewhere 112 = .ok (.if_icmp .ge 41, 3) := by decide +kernel
theorem dX7_elsewhere_115 : decode cX7_elsewhere 115 = .ok (.aload_n 0, 1) := by decide +kernel
theorem dX7_elsewhere_116 : decode cX7_elsewhere 116 = .ok (.iload 4, 2) := by decide +kernel
theorem dX7_elsewhere_118 : decode cX7_elsewhere 118 = .ok (.iload 7, 2) := by decide +kernel
theorem dX7_elsewhere_120 : decode cX7_elsewhere 120 = .ok (.invokevirtual 230, 3) := by decide +kernel
theorem dX7_elsewhere_123 : decode cX7_elsewhere 123 = .ok (.istore 8, 2) := by decide +kernel
theorem dX7_elsewhere_125 : decode cX7_elsewhere 125 = .ok (.iload 7, 2) := by decide +kernel
theorem dX7_elsewhere_127 : decode cX7_elsewhere 127 = .ok (.iload 4, 2) := by decide +kernel
theorem dX7_elsewhere_129 : decode cX7_elsewhere 129 = .ok (.if_icmp .eq 18, 3) := by decide +kernel
theorem dX7_elsewhere_132 : decode cX7_elsewhere 132 = .ok (.iload 8, 2) := by decide +kernel
theorem dX7_elsewhere_134 : decode cX7_elsewhere 134 = .ok (.iload 6, 2) := by decide +kernel
theorem dX7_elsewhere_136 : decode cX7_elsewhere 136 = .ok (.if_icmp .ge 11, 3) := by decide +kernel
theorem dX7_elsewhere_139 : decode cX7_elsewhere 139 = .ok (.iload 7, 2) := by decide +kernel
theorem dX7_elsewhere_141 : decode cX7_elsewhere 141 = .ok (.istore 5, 2) := by decide +kernel
theorem dX7_elsewhere_143 : decode cX7_elsewhere 143 = .ok (.iload 8, 2) := by decide +kernel
theorem dX7_elsewhere_145 : decode cX7_elsewhere 145 = .ok (.istore 6, 2) := by decide +kernel
theorem dX7_elsewhere_147 : decode cX7_elsewhere 147 = .ok (.iinc 7 1, 3) := by decide +kernel
theorem dX7_elsewhere_150 : decode cX7_elsewhere 150 = .ok (.goto (-44), 3) := by decide +kernel
theorem dX7_elsewhere_153 : decode cX7_elsewhere 153 = .ok (.iload_n 3, 1) := by decide +kernel
theorem dX7_elsewhere_154 : decode cX7_elsewhere 154 = .ok (.ifCond .ne 15, 3) := by decide +kernel
theorem dX7_elsewhere_157 : decode cX7_elsewhere 157 = .ok (.iload 5, 2) := by decide +kernel
theorem dX7_elsewhere_159 : decode cX7_elsewhere 159 = .ok (.aload_n 0, 1) := by decide +kernel
theorem dX7_elsewhere_160 : decode cX7_elsewhere 160 = .ok (.getfield 69, 3) := by decide +kernel
theorem dX7_elsewhere_163 : decode cX7_elsewhere 163 = .ok (.iload 4, 2) := by decide +kernel
theorem dX7_elsewhere_165 : decode cX7_elsewhere 165 = .ok (.iaload, 1) := by decide +kernel
theorem dX7_elsewhere_166 : decode cX7_elsewhere 166 = .ok (.if_icmp .eq 7, 3) := by decide +kernel
theorem dX7_elsewhere_169 : decode cX7_elsewhere 169 = .ok (.iconst 1, 1) := by decide +kernel
theorem dX7_elsewhere_170 : decode cX7_elsewhere 170 = .ok (.goto 4, 3) := by decide +kernel
theorem dX7_elsewhere_173 : decode cX7_elsewhere 173 = .ok (.iconst 0, 1) := by decide +kernel
theorem dX7_elsewhere_174 : decode cX7_elsewhere 174 = .ok (.istore_n 3, 1) := by decide +kernel
theorem dX7_elsewhere_175 : decode cX7_elsewhere 175 = .ok (.aload_n 0, 1) := by decide +kernel
theorem dX7_elsewhere_176 : decode cX7_elsewhere 176 = .ok (.getfield 69, 3) := by decide +kernel
theorem dX7_elsewhere_179 : decode cX7_elsewhere 179 = .ok (.iload 4, 2) := by decide +kernel
theorem dX7_elsewhere_181 : decode cX7_elsewhere 181 = .ok (.iload 5, 2) := by decide +kernel
theorem dX7_elsewhere_183 : decode cX7_elsewhere 183 = .ok (.iastore, 1) := by decide +kernel
theorem dX7_elsewhere_184 : decode cX7_elsewhere 184 = .ok (.iinc 4 1, 3) := by decide +kernel
theorem dX7_elsewhere_187 : decode cX7_elsewhere 187 = .ok (.goto (-112), 3) := by decide +kernel
theorem dX7_elsewhere_190 : decode cX7_elsewhere 190 = .ok (.iinc 2 1, 3) := by decide +kernel
theorem dX7_elsewhere_193 : decode cX7_elsewhere 193 = .ok (.goto (-133), 3) := by decide +kernel
theorem dX7_elsewhere_196 : decode cX7_elsewhere 196 = .ok (.iconst 0, 1) := by decide +kernel
theorem dX7_elsewhere_197 : decode cX7_elsewhere 197 = .ok (.istore 4, 2) := by decide +kernel
theorem dX7_elsewhere_199 : decode cX7_elsewhere 199 = .ok (.iconst 0, 1) := by decide +kernel
theorem dX7_elsewhere_200 : decode cX7_elsewhere 200 = .ok (.istore 5, 2) := by decide +kernel
theorem dX7_elsewhere_202 : decode cX7_elsewhere 202 = .ok (.iload 5, 2) := by decide +kernel
theorem dX7_elsewhere_204 : decode cX7_elsewhere 204 = .ok (.aload_n 0, 1) := by decide +kernel
theorem dX7_elsewhere_205 : decode cX7_elsewhere 205 = .ok (.getfield 7, 3) := by decide +kernel
theorem dX7_elsewhere_208 : decode cX7_elsewhere 208 = .ok (.if_icmp .ge 30, 3) := by decide +kernel
theorem dX7_elsewhere_211 : decode cX7_elsewhere 211 = .ok (.iload 4, 2) := by decide +kernel
theorem dX7_elsewhere_213 : decode cX7_elsewhere 213 = .ok (.aload_n 0, 1) := by decide +kernel
theorem dX7_elsewhere_214 : decode cX7_elsewhere 214 = .ok (.getfield 69, 3) := by decide +kernel
theorem dX7_elsewhere_217 : decode cX7_elsewhere 217 = .ok (.iload 5, 2) := by decide +kernel
theorem dX7_elsewhere_219 : decode cX7_elsewhere 219 = .ok (.iaload, 1) := by decide +kernel
theorem dX7_elsewhere_220 : decode cX7_elsewhere 220 = .ok (.iload_n 1, 1) := by decide +kernel
theorem dX7_elsewhere_221 : decode cX7_elsewhere 221 = .ok (.if_icmp .ne 7, 3) := by decide +kernel
theorem dX7_elsewhere_224 : decode cX7_elsewhere 224 = .ok (.iconst 1, 1) := by decide +kernel
theorem dX7_elsewhere_225 : decode cX7_elsewhere 225 = .ok (.goto 4, 3) := by decide +kernel
theorem dX7_elsewhere_228 : decode cX7_elsewhere 228 = .ok (.iconst 0, 1) := by decide +kernel
theorem dX7_elsewhere_229 : decode cX7_elsewhere 229 = .ok (.iadd, 1) := by decide +kernel
theorem dX7_elsewhere_230 : decode cX7_elsewhere 230 = .ok (.istore 4, 2) := by decide +kernel
theorem dX7_elsewhere_232 : decode cX7_elsewhere 232 = .ok (.iinc 5 1, 3) := by decide +kernel
theorem dX7_elsewhere_235 : decode cX7_elsewhere 235 = .ok (.goto (-33), 3) := by decide +kernel
theorem dX7_elsewhere_238 : decode cX7_elsewhere 238 = .ok (.iload_n 1, 1) := by decide +kernel
theorem dX7_elsewhere_239 : decode cX7_elsewhere 239 = .ok (.ifCond .lt 8, 3) := by decide +kernel
theorem dX7_elsewhere_242 : decode cX7_elsewhere 242 = .ok (.iload 4, 2) := by decide +kernel
theorem dX7_elsewhere_244 : decode cX7_elsewhere 244 = .ok (.goto 13, 3) := by decide +kernel
theorem dX7_elsewhere_247 : decode cX7_elsewhere 247 = .ok (.iload_n 3, 1) := by decide +kernel
theorem dX7_elsewhere_248 : decode cX7_elsewhere 248 = .ok (.ifCond .eq 8, 3) := by decide +kernel
theorem dX7_elsewhere_251 : decode cX7_elsewhere 251 = .ok (.bipush (-6), 2) := by decide +kernel
theorem dX7_elsewhere_253 : decode cX7_elsewhere 253 = .ok (.goto 4, 3) := by decide +kernel
theorem dX7_elsewhere_256 : decode cX7_elsewhere 256 = .ok (.iload_n 2, 1) := by decide +kernel
theorem dX7_elsewhere_257 : decode cX7_elsewhere 257 = .ok (.ireturn, 1) := by decide +kernel
theorem dX7_fault_0 : decode cX7_fault 0 = .ok (.aload_n 0, 1) := by decide +kernel
theorem dX7_fault_1 : decode cX7_fault 1 = .ok (.invokevirtual 102, 3) := by decide +kernel
theorem dX7_fault_4 : decode cX7_fault 4 = .ok (.ireturn, 1) := by decide +kernel
theorem dX7_faultOf_0 : decode cX7_faultOf 0 = .ok (.iconst 0, 1) := by decide +kernel
theorem dX7_faultOf_1 : decode cX7_faultOf 1 = .ok (.istore_n 1, 1) := by decide +kernel
theorem dX7_faultOf_2 : decode cX7_faultOf 2 = .ok (.iconst 0, 1) := by decide +kernel
theorem dX7_faultOf_3 : decode cX7_faultOf 3 = .ok (.istore_n 2, 1) := by decide +kernel
theorem dX7_faultOf_4 : decode cX7_faultOf 4 = .ok (.iload_n 2, 1) := by decide +kernel
theorem dX7_faultOf_5 : decode cX7_faultOf 5 = .ok (.aload_n 0, 1) := by decide +kernel
theorem dX7_faultOf_6 : decode cX7_faultOf 6 = .ok (.getfield 99, 3) := by decide +kernel
theorem dX7_faultOf_9 : decode cX7_faultOf 9 = .ok (.if_icmp .ge 153, 3) := by decide +kernel
theorem dX7_faultOf_12 : decode cX7_faultOf 12 = .ok (.aload_n 0, 1) := by decide +kernel
theorem dX7_faultOf_13 : decode cX7_faultOf 13 = .ok (.getfield 41, 3) := by decide +kernel
theorem dX7_faultOf_16 : decode cX7_faultOf 16 = .ok (.iload_n 2, 1) := by decide +kernel
theorem dX7_faultOf_17 : decode cX7_faultOf 17 = .ok (.iaload, 1) := by decide +kernel
theorem dX7_faultOf_18 : decode cX7_faultOf 18 = .ok (.istore_n 3, 1) := by decide +kernel
theorem dX7_faultOf_19 : decode cX7_faultOf 19 = .ok (.iload_n 1, 1) := by decide +kernel
theorem dX7_faultOf_20 : decode cX7_faultOf 20 = .ok (.ifCond .ne 34, 3) := by decide +kernel
theorem dX7_faultOf_23 : decode cX7_faultOf 23 = .ok (.aload_n 0, 1) := by decide +kernel
theorem dX7_faultOf_24 : decode cX7_faultOf 24 = .ok (.iload_n 3, 1) := by decide +kernel
theorem dX7_faultOf_25 : decode cX7_faultOf 25 = .ok (.bipush 97, 2) := by decide +kernel
theorem dX7_faultOf_27 : decode cX7_faultOf 27 = .ok (.isub, 1) := by decide +kernel
theorem dX7_faultOf_28 : decode cX7_faultOf 28 = .ok (.invokevirtual 95, 3) := by decide +kernel
theorem dX7_faultOf_31 : decode cX7_faultOf 31 = .ok (.ifCond .ne 15, 3) := by decide +kernel
theorem dX7_faultOf_34 : decode cX7_faultOf 34 = .ok (.iload_n 3, 1) := by decide +kernel
theorem dX7_faultOf_35 : decode cX7_faultOf 35 = .ok (.bipush 46, 2) := by decide +kernel
theorem dX7_faultOf_37 : decode cX7_faultOf 37 = .ok (.if_icmp .eq 9, 3) := by decide +kernel
theorem dX7_faultOf_40 : decode cX7_faultOf 40 = .ok (.iload_n 3, 1) := by decide +kernel
theorem dX7_faultOf_41 : decode cX7_faultOf 41 = .ok (.bipush 119, 2) := by decide +kernel
theorem dX7_faultOf_43 : decode cX7_faultOf 43 = .ok (.if_icmp .ne 7, 3) := by decide +kernel
theorem dX7_faultOf_46 : decode cX7_faultOf 46 = .ok (.iconst 1, 1) := by decide +kernel
theorem dX7_faultOf_47 : decode cX7_faultOf 47 = .ok (.goto 60, 3) := by decide +kernel
theorem dX7_faultOf_50 : decode cX7_faultOf 50 = .ok (.iconst 0, 1) := by decide +kernel
theorem dX7_faultOf_51 : decode cX7_faultOf 51 = .ok (.goto 56, 3) := by decide +kernel
theorem dX7_faultOf_54 : decode cX7_faultOf 54 = .ok (.iload_n 1, 1) := by decide +kernel
theorem dX7_faultOf_55 : decode cX7_faultOf 55 = .ok (.iconst 1, 1) := by decide +kernel
theorem dX7_faultOf_56 : decode cX7_faultOf 56 = .ok (.if_icmp .ne 28, 3) := by decide +kernel
theorem dX7_faultOf_59 : decode cX7_faultOf 59 = .ok (.aload_n 0, 1) := by decide +kernel
theorem dX7_faultOf_60 : decode cX7_faultOf 60 = .ok (.iload_n 3, 1) := by decide +kernel
theorem dX7_faultOf_61 : decode cX7_faultOf 61 = .ok (.bipush 65, 2) := by decide +kernel
theorem dX7_faultOf_63 : decode cX7_faultOf 63 = .ok (.isub, 1) := by decide +kernel
theorem dX7_faultOf_64 : decode cX7_faultOf 64 = .ok (.invokevirtual 95, 3) := by decide +kernel
theorem dX7_faultOf_67 : decode cX7_faultOf 67 = .ok (.ifCond .ne 9, 3) := by decide +kernel
theorem dX7_faultOf_70 : decode cX7_faultOf 70 = .ok (.iload_n 3, 1) := by decide +kernel
theorem dX7_faultOf_71 : decode cX7_faultOf 71 = .ok (.bipush 42, 2) := by decide +kernel
theorem dX7_faultOf_73 : decode cX7_faultOf 73 = .ok (.if_icmp .ne 7, 3) := by decide +kernel
theorem dX7_faultOf_76 : decode cX7_faultOf 76 = .ok (.iconst 1, 1) := by decide +kernel
theorem dX7_faultOf_77 : decode cX7_faultOf 77 = .ok (.goto 30, 3) := by decide +kernel
theorem dX7_faultOf_80 : decode cX7_faultOf 80 = .ok (.iconst 0, 1) := by decide +kernel
theorem dX7_faultOf_81 : decode cX7_faultOf 81 = .ok (.goto 26, 3) := by decide +kernel
theorem dX7_faultOf_84 : decode cX7_faultOf 84 = .ok (.iload_n 3, 1) := by decide +kernel
theorem dX7_faultOf_85 : decode cX7_faultOf 85 = .ok (.bipush 116, 2) := by decide +kernel
theorem dX7_faultOf_87 : decode cX7_faultOf 87 = .ok (.if_icmp .eq 15, 3) := by decide +kernel
theorem dX7_faultOf_90 : decode cX7_faultOf 90 = .ok (.iload_n 3, 1) := by decide +kernel
theorem dX7_faultOf_91 : decode cX7_faultOf 91 = .ok (.bipush 108, 2) := by decide +kernel
theorem dX7_faultOf_93 : decode cX7_faultOf 93 = .ok (.if_icmp .eq 9, 3) := by decide +kernel
theorem dX7_faultOf_96 : decode cX7_faultOf 96 = .ok (.iload_n 3, 1) := by decide +kernel
theorem dX7_faultOf_97 : decode cX7_faultOf 97 = .ok (.bipush 43, 2) := by decide +kernel
theorem dX7_faultOf_99 : decode cX7_faultOf 99 = .ok (.if_icmp .ne 7, 3) := by decide +kernel
theorem dX7_faultOf_102 : decode cX7_faultOf 102 = .ok (.iconst 1, 1) := by decide +kernel
theorem dX7_faultOf_103 : decode cX7_faultOf 103 = .ok (.goto 4, 3) := by decide +kernel
theorem dX7_faultOf_106 : decode cX7_faultOf 106 = .ok (.iconst 0, 1) := by decide +kernel
theorem dX7_faultOf_107 : decode cX7_faultOf 107 = .ok (.istore 4, 2) := by decide +kernel
theorem dX7_faultOf_109 : decode cX7_faultOf 109 = .ok (.iload 4, 2) := by decide +kernel
theorem dX7_faultOf_111 : decode cX7_faultOf 111 = .ok (.ifCond .ne 5, 3) := by decide +kernel
theorem dX7_faultOf_114 : decode cX7_faultOf 114 = .ok (.iload_n 2, 1) := by decide +kernel
theorem dX7_faultOf_115 : decode cX7_faultOf 115 = .ok (.ireturn, 1) := by decide +kernel
theorem dX7_faultOf_116 : decode cX7_faultOf 116 = .ok (.iload_n 1, 1) := by decide +kernel
theorem dX7_faultOf_117 : decode cX7_faultOf 117 = .ok (.ifCond .ne 22, 3) := by decide +kernel
theorem dX7_faultOf_120 : decode cX7_faultOf 120 = .ok (.aload_n 0, 1) := by decide +kernel
theorem dX7_faultOf_121 : decode cX7_faultOf 121 = .ok (.iload_n 3, 1) := by decide +kernel
theorem dX7_faultOf_122 : decode cX7_faultOf 122 = .ok (.bipush 97, 2) := by decide +kernel
theorem dX7_faultOf_124 : decode cX7_faultOf 124 = .ok (.isub, 1) := by decide +kernel
theorem dX7_faultOf_125 : decode cX7_faultOf 125 = .ok (.invokevirtual 95, 3) := by decide +kernel
theorem dX7_faultOf_128 : decode cX7_faultOf 128 = .ok (.ifCond .eq 7, 3) := by decide +kernel
theorem dX7_faultOf_131 : decode cX7_faultOf 131 = .ok (.iconst 1, 1) := by decide +kernel
theorem dX7_faultOf_132 : decode cX7_faultOf 132 = .ok (.goto 23, 3) := by decide +kernel
theorem dX7_faultOf_135 : decode cX7_faultOf 135 = .ok (.iconst 0, 1) := by decide +kernel
theorem dX7_faultOf_136 : decode cX7_faultOf 136 = .ok (.goto 19, 3) := by decide +kernel
theorem dX7_faultOf_139 : decode cX7_faultOf 139 = .ok (.iload_n 1, 1) := by decide +kernel
theorem dX7_faultOf_140 : decode cX7_faultOf 140 = .ok (.iconst 1, 1) := by decide +kernel
theorem dX7_faultOf_141 : decode cX7_faultOf 141 = .ok (.if_icmp .ne 13, 3) := by decide +kernel
theorem dX7_faultOf_144 : decode cX7_faultOf 144 = .ok (.iload_n 3, 1) := by decide +kernel
theorem dX7_faultOf_145 : decode cX7_faultOf 145 = .ok (.bipush 42, 2) := by decide +kernel
theorem dX7_faultOf_147 : decode cX7_faultOf 147 = .ok (.if_icmp .eq 7, 3) := by decide +kernel
theorem dX7_faultOf_150 : decode cX7_faultOf 150 = .ok (.iconst 2, 1) := by decide +kernel
theorem dX7_faultOf_151 : decode cX7_faultOf 151 = .ok (.goto 4, 3) := by decide +kernel
theorem dX7_faultOf_154 : decode cX7_faultOf 154 = .ok (.iconst 0, 1) := by decide +kernel
theorem dX7_faultOf_155 : decode cX7_faultOf 155 = .ok (.istore_n 1, 1) := by decide +kernel
theorem dX7_faultOf_156 : decode cX7_faultOf 156 = .ok (.iinc 2 1, 3) := by decide +kernel
theorem dX7_faultOf_159 : decode cX7_faultOf 159 = .ok (.goto (-155), 3) := by decide +kernel
theorem dX7_faultOf_162 : decode cX7_faultOf 162 = .ok (.iload_n 1, 1) := by decide +kernel
theorem dX7_faultOf_163 : decode cX7_faultOf 163 = .ok (.ifCond .ne 8, 3) := by decide +kernel
theorem dX7_faultOf_166 : decode cX7_faultOf 166 = .ok (.bipush (-6), 2) := by decide +kernel
theorem dX7_faultOf_168 : decode cX7_faultOf 168 = .ok (.goto 7, 3) := by decide +kernel
theorem dX7_faultOf_171 : decode cX7_faultOf 171 = .ok (.aload_n 0, 1) := by decide +kernel
theorem dX7_faultOf_172 : decode cX7_faultOf 172 = .ok (.getfield 99, 3) := by decide +kernel
theorem dX7_faultOf_175 : decode cX7_faultOf 175 = .ok (.ireturn, 1) := by decide +kernel
theorem dX7_first_0 : decode cX7_first 0 = .ok (.aload_n 0, 1) := by decide +kernel
theorem dX7_first_1 : decode cX7_first 1 = .ok (.invokevirtual 175, 3) := by decide +kernel
theorem dX7_first_4 : decode cX7_first 4 = .ok (.ifCond .ge 8, 3) := by decide +kernel
theorem dX7_first_7 : decode cX7_first 7 = .ok (.bipush (-5), 2) := by decide +kernel
theorem dX7_first_9 : decode cX7_first 9 = .ok (.goto 7, 3) := by decide +kernel
theorem dX7_first_12 : decode cX7_first 12 = .ok (.aload_n 0, 1) := by decide +kernel
theorem dX7_first_13 : decode cX7_first 13 = .ok (.getfield 140, 3) := by decide +kernel
theorem dX7_first_16 : decode cX7_first 16 = .ok (.ireturn, 1) := by decide +kernel
theorem dX7_flakesOf_0 : decode cX7_flakesOf 0 = .ok (.iload_n 3, 1) := by decide +kernel
theorem dX7_flakesOf_1 : decode cX7_flakesOf 1 = .ok (.bipush 116, 2) := by decide +kernel
theorem dX7_flakesOf_3 : decode cX7_flakesOf 3 = .ok (.if_icmp .ne 10, 3) := by decide +kernel
theorem dX7_flakesOf_6 : decode cX7_flakesOf 6 = .ok (.aload_n 0, 1) := by decide +kernel
theorem dX7_flakesOf_7 : decode cX7_flakesOf 7 = .ok (.getfield 112, 3) := by decide +kernel
theorem dX7_flakesOf_10 : decode cX7_flakesOf 10 = .ok (.goto 7, 3) := by decide +kernel
theorem dX7_flakesOf_13 : decode cX7_flakesOf 13 = .ok (.aload_n 0, 1) := by decide +kernel
theorem dX7_flakesOf_14 : decode cX7_flakesOf 14 = .ok (.getfield 115, 3) := by decide +kernel
theorem dX7_flakesOf_17 : decode cX7_flakesOf 17 = .ok (.aload_n 0, 1) := by decide +kernel
theorem dX7_flakesOf_18 : decode cX7_flakesOf 18 = .ok (.getfield 50, 3) := by decide +kernel
theorem dX7_flakesOf_21 : decode cX7_flakesOf 21 = .ok (.iload_n 1, 1) := by decide +kernel
theorem dX7_flakesOf_22 : decode cX7_flakesOf 22 = .ok (.iaload, 1) := by decide +kernel
theorem dX7_flakesOf_23 : decode cX7_flakesOf 23 = .ok (.iload_n 2, 1) := by decide +kernel
theorem dX7_flakesOf_24 : decode cX7_flakesOf 24 = .ok (.invokestatic 121, 3) := by decide +kernel
theorem dX7_flakesOf_27 : decode cX7_flakesOf 27 = .ok (.ifCond .eq 10, 3) := by decide +kernel
theorem dX7_flakesOf_30 : decode cX7_flakesOf 30 = .ok (.aload_n 0, 1) := by decide +kernel
theorem dX7_flakesOf_31 : decode cX7_flakesOf 31 = .ok (.getfield 118, 3) := by decide +kernel
theorem dX7_flakesOf_34 : decode cX7_flakesOf 34 = .ok (.goto 4, 3) := by decide +kernel
theorem dX7_flakesOf_37 : decode cX7_flakesOf 37 = .ok (.iconst 0, 1) := by decide +kernel
theorem dX7_flakesOf_38 : decode cX7_flakesOf 38 = .ok (.iadd, 1) := by decide +kernel
theorem dX7_flakesOf_39 : decode cX7_flakesOf 39 = .ok (.ireturn, 1) := by decide +kernel
theorem dX7_forget_0 : decode cX7_forget 0 = .ok (.aload_n 0, 1) := by decide +kernel
theorem dX7_forget_1 : decode cX7_forget 1 = .ok (.getfield 88, 3) := by decide +kernel
theorem dX7_forget_4 : decode cX7_forget 4 = .ok (.istore_n 1, 1) := by decide +kernel
theorem dX7_forget_5 : decode cX7_forget 5 = .ok (.aload_n 0, 1) := by decide +kernel
theorem dX7_forget_6 : decode cX7_forget 6 = .ok (.iconst 0, 1) := by decide +kernel
theorem dX7_forget_7 : decode cX7_forget 7 = .ok (.putfield 88, 3) := by decide +kernel
theorem dX7_forget_10 : decode cX7_forget 10 = .ok (.iload_n 1, 1) := by decide +kernel
theorem dX7_forget_11 : decode cX7_forget 11 = .ok (.ireturn, 1) := by decide +kernel
theorem dX7_garden_0 : decode cX7_garden 0 = .ok (.aload_n 0, 1) := by decide +kernel
theorem dX7_garden_1 : decode cX7_garden 1 = .ok (.iload_n 1, 1) := by decide +kernel
theorem dX7_garden_2 : decode cX7_garden 2 = .ok (.invokevirtual 95, 3) := by decide +kernel
theorem dX7_garden_5 : decode cX7_garden 5 = .ok (.ifCond .ne 5, 3) := by decide +kernel
theorem dX7_garden_8 : decode cX7_garden 8 = .ok (.iconst (-1), 1) := by decide +kernel
theorem dX7_garden_9 : decode cX7_garden 9 = .ok (.ireturn, 1) := by decide +kernel
theorem dX7_garden_10 : decode cX7_garden 10 = .ok (.iload_n 2, 1) := by decide +kernel
theorem dX7_garden_11 : decode cX7_garden 11 = .ok (.iconst 0, 1) := by decide +kernel
theorem dX7_garden_12 : decode cX7_garden 12 = .ok (.iconst 1, 1) := by decide +kernel
theorem dX7_garden_13 : decode cX7_garden 13 = .ok (.invokestatic 91, 3) := by decide +kernel
theorem dX7_garden_16 : decode cX7_garden 16 = .ok (.ifCond .eq 14, 3) := by decide +kernel
theorem dX7_garden_19 : decode cX7_garden 19 = .ok (.iload_n 3, 1) := by decide +kernel
theorem dX7_garden_20 : decode cX7_garden 20 = .ok (.iconst 0, 1) := by decide +kernel
theorem dX7_garden_21 : decode cX7_garden 21 = .ok (.sipush 999, 3) := by decide +kernel
theorem dX7_garden_24 : decode cX7_garden 24 = .ok (.invokestatic 91, 3) := by decide +kernel
theorem dX7_garden_27 : decode cX7_garden 27 = .ok (.ifCond .ne 6, 3) := by decide +kernel
theorem dX7_garden_30 : decode cX7_garden 30 = .ok (.bipush (-2), 2) := by decide +kernel
theorem dX7_garden_32 : decode cX7_garden 32 = .ok (.ireturn, 1) := by decide +kernel
theorem dX7_garden_33 : decode cX7_garden 33 = .ok (.iload_n 2, 1) := by decide +kernel
theorem dX7_garden_34 : decode cX7_garden 34 = .ok (.ifCond .ne 12, 3) := by decide +kernel
theorem dX7_garden_37 : decode cX7_garden 37 = .ok (.aload_n 0, 1) := by decide +kernel
theorem dX7_garden_38 : decode cX7_garden 38 = .ok (.getfield 13, 3) := by decide +kernel
theorem dX7_garden_41 : decode cX7_garden 41 = .ok (.iload_n 1, 1) := by decide +kernel
theorem dX7_garden_42 : decode cX7_garden 42 = .ok (.iaload, 1) := by decide +kernel
theorem dX7_garden_43 : decode cX7_garden 43 = .ok (.goto 9, 3) := by decide +kernel
theorem dX7_garden_46 : decode cX7_garden 46 = .ok (.aload_n 0, 1) := by decide +kernel
theorem dX7_garden_47 : decode cX7_garden 47 = .ok (.getfield 17, 3) := by decide +kernel
theorem dX7_garden_50 : decode cX7_garden 50 = .ok (.iload_n 1, 1) := by decide +kernel
theorem dX7_garden_51 : decode cX7_garden 51 = .ok (.iaload, 1) := by decide +kernel
theorem dX7_garden_52 : decode cX7_garden 52 = .ok (.istore 4, 2) := by decide +kernel
theorem dX7_garden_54 : decode cX7_garden 54 = .ok (.iload_n 2, 1) := by decide +kernel
theorem dX7_garden_55 : decode cX7_garden 55 = .ok (.ifCond .ne 13, 3) := by decide +kernel
theorem dX7_garden_58 : decode cX7_garden 58 = .ok (.aload_n 0, 1) := by decide +kernel
theorem dX7_garden_59 : decode cX7_garden 59 = .ok (.getfield 13, 3) := by decide +kernel
theorem dX7_garden_62 : decode cX7_garden 62 = .ok (.iload_n 1, 1) := by decide +kernel
theorem dX7_garden_63 : decode cX7_garden 63 = .ok (.iload_n 3, 1) := by decide +kernel
theorem dX7_garden_64 : decode cX7_garden 64 = .ok (.iastore, 1) := by decide +kernel
theorem dX7_garden_65 : decode cX7_garden 65 = .ok (.goto 24, 3) := by decide +kernel
theorem dX7_garden_68 : decode cX7_garden 68 = .ok (.aload_n 0, 1) := by decide +kernel
theorem dX7_garden_69 : decode cX7_garden 69 = .ok (.getfield 17, 3) := by decide +kernel
theorem dX7_garden_72 : decode cX7_garden 72 = .ok (.iload_n 1, 1) := by decide +kernel
theorem dX7_garden_73 : decode cX7_garden 73 = .ok (.iload_n 3, 1) := by decide +kernel
theorem dX7_garden_74 : decode cX7_garden 74 = .ok (.iastore, 1) := by decide +kernel
theorem dX7_garden_75 : decode cX7_garden 75 = .ok (.aload_n 0, 1) := by decide +kernel
theorem dX7_garden_76 : decode cX7_garden 76 = .ok (.dup, 1) := by decide +kernel
theorem dX7_garden_77 : decode cX7_garden 77 = .ok (.getfield 82, 3) := by decide +kernel
theorem dX7_garden_80 : decode cX7_garden 80 = .ok (.iconst 1, 1) := by decide +kernel
theorem dX7_garden_81 : decode cX7_garden 81 = .ok (.iload_n 1, 1) := by decide +kernel
theorem dX7_garden_82 : decode cX7_garden 82 = .ok (.ishl, 1) := by decide +kernel
theorem dX7_garden_83 : decode cX7_garden 83 = .ok (.iconst (-1), 1) := by decide +kernel
theorem dX7_garden_84 : decode cX7_garden 84 = .ok (.ixor, 1) := by decide +kernel
theorem dX7_garden_85 : decode cX7_garden 85 = .ok (.iand, 1) := by decide +kernel
theorem dX7_garden_86 : decode cX7_garden 86 = .ok (.putfield 82, 3) := by decide +kernel
theorem dX7_garden_89 : decode cX7_garden 89 = .ok (.iload 4, 2) := by decide +kernel
theorem dX7_garden_91 : decode cX7_garden 91 = .ok (.ireturn, 1) := by decide +kernel
theorem dX7_gardens_0 : decode cX7_gardens 0 = .ok (.iload_n 1, 1) := by decide +kernel
theorem dX7_gardens_1 : decode cX7_gardens 1 = .ok (.iconst 2, 1) := by decide +kernel
theorem dX7_gardens_2 : decode cX7_gardens 2 = .ok (.bipush 8, 2) := by decide +kernel
theorem dX7_gardens_4 : decode cX7_gardens 4 = .ok (.invokestatic 91, 3) := by decide +kernel
theorem dX7_gardens_7 : decode cX7_gardens 7 = .ok (.ifCond .ne 6, 3) := by decide +kernel
theorem dX7_gardens_10 : decode cX7_gardens 10 = .ok (.bipush (-2), 2) := by decide +kernel
theorem dX7_gardens_12 : decode cX7_gardens 12 = .ok (.ireturn, 1) := by decide +kernel
theorem dX7_gardens_13 : decode cX7_gardens 13 = .ok (.aload_n 0, 1) := by decide +kernel
theorem dX7_gardens_14 : decode cX7_gardens 14 = .ok (.getfield 7, 3) := by decide +kernel
theorem dX7_gardens_17 : decode cX7_gardens 17 = .ok (.istore_n 2, 1) := by decide +kernel
theorem dX7_gardens_18 : decode cX7_gardens 18 = .ok (.aload_n 0, 1) := by decide +kernel
theorem dX7_gardens_19 : decode cX7_gardens 19 = .ok (.iload_n 1, 1) := by decide +kernel
theorem dX7_gardens_20 : decode cX7_gardens 20 = .ok (.putfield 7, 3) := by decide +kernel
theorem dX7_gardens_23 : decode cX7_gardens 23 = .ok (.aload_n 0, 1) := by decide +kernel
theorem dX7_gardens_24 : decode cX7_gardens 24 = .ok (.invokevirtual 79, 3) := by decide +kernel
theorem dX7_gardens_27 : decode cX7_gardens 27 = .ok (.iload_n 2, 1) := by decide +kernel
theorem dX7_gardens_28 : decode cX7_gardens 28 = .ok (.ireturn, 1) := by decide +kernel
theorem dX7_goTalk_0 : decode cX7_goTalk 0 = .ok (.aload_n 0, 1) := by decide +kernel
theorem dX7_goTalk_1 : decode cX7_goTalk 1 = .ok (.iconst 0, 1) := by decide +kernel
theorem dX7_goTalk_2 : decode cX7_goTalk 2 = .ok (.putfield 137, 3) := by decide +kernel
theorem dX7_goTalk_5 : decode cX7_goTalk 5 = .ok (.aload_n 0, 1) := by decide +kernel
theorem dX7_goTalk_6 : decode cX7_goTalk 6 = .ok (.bipush (-6), 2) := by decide +kernel
theorem dX7_goTalk_8 : decode cX7_goTalk 8 = .ok (.putfield 140, 3) := by decide +kernel
theorem dX7_goTalk_11 : decode cX7_goTalk 11 = .ok (.iconst 0, 1) := by decide +kernel
theorem dX7_goTalk_12 : decode cX7_goTalk 12 = .ok (.istore_n 2, 1) := by decide +kernel
theorem dX7_goTalk_13 : decode cX7_goTalk 13 = .ok (.iload_n 2, 1) := by decide +kernel
theorem dX7_goTalk_14 : decode cX7_goTalk 14 = .ok (.aload_n 0, 1) := by decide +kernel
theorem dX7_goTalk_15 : decode cX7_goTalk 15 = .ok (.getfield 99, 3) := by decide +kernel
theorem dX7_goTalk_18 : decode cX7_goTalk 18 = .ok (.if_icmp .ge 251, 3) := by decide +kernel
theorem dX7_goTalk_21 : decode cX7_goTalk 21 = .ok (.aload_n 0, 1) := by decide +kernel
theorem dX7_goTalk_22 : decode cX7_goTalk 22 = .ok (.getfield 41, 3) := by decide +kernel
theorem dX7_goTalk_25 : decode cX7_goTalk 25 = .ok (.iload_n 2, 1) := by decide +kernel
theorem dX7_goTalk_26 : decode cX7_goTalk 26 = .ok (.iaload, 1) := by decide +kernel
theorem dX7_goTalk_27 : decode cX7_goTalk 27 = .ok (.istore_n 3, 1) := by decide +kernel
theorem dX7_goTalk_28 : decode cX7_goTalk 28 = .ok (.aload_n 0, 1) := by decide +kernel
theorem dX7_goTalk_29 : decode cX7_goTalk 29 = .ok (.getfield 106, 3) := by decide +kernel
theorem dX7_goTalk_32 : decode cX7_goTalk 32 = .ok (.istore 4, 2) := by decide +kernel
theorem dX7_goTalk_34 : decode cX7_goTalk 34 = .ok (.aload_n 0, 1) := by decide +kernel
theorem dX7_goTalk_35 : decode cX7_goTalk 35 = .ok (.iconst 0, 1) := by decide +kernel
theorem dX7_goTalk_36 : decode cX7_goTalk 36 = .ok (.putfield 143, 3) := by decide +kernel
theorem dX7_goTalk_39 : decode cX7_goTalk 39 = .ok (.iload_n 3, 1) := by decide +kernel
theorem dX7_goTalk_40 : decode cX7_goTalk 40 = .ok (.bipush 46, 2) := by decide +kernel
theorem dX7_goTalk_42 : decode cX7_goTalk 42 = .ok (.if_icmp .ne 13, 3) := by decide +kernel
theorem dX7_goTalk_45 : decode cX7_goTalk 45 = .ok (.aload_n 0, 1) := by decide +kernel
theorem dX7_goTalk_46 : decode cX7_goTalk 46 = .ok (.invokevirtual 146, 3) := by decide +kernel
theorem dX7_goTalk_49 : decode cX7_goTalk 49 = .ok (.iinc 2 1, 3) := by decide +kernel
theorem dX7_goTalk_52 : decode cX7_goTalk 52 = .ok (.goto 153, 3) := by decide +kernel
theorem dX7_goTalk_55 : decode cX7_goTalk 55 = .ok (.iload_n 3, 1) := by decide +kernel
theorem dX7_goTalk_56 : decode cX7_goTalk 56 = .ok (.bipush 119, 2) := by decide +kernel
theorem dX7_goTalk_58 : decode cX7_goTalk 58 = .ok (.if_icmp .ne 13, 3) := by decide +kernel
theorem dX7_goTalk_61 : decode cX7_goTalk 61 = .ok (.aload_n 0, 1) := by decide +kernel
theorem dX7_goTalk_62 : decode cX7_goTalk 62 = .ok (.invokevirtual 149, 3) := by decide +kernel
theorem dX7_goTalk_65 : decode cX7_goTalk 65 = .ok (.iinc 2 1, 3) := by decide +kernel
theorem dX7_goTalk_68 : decode cX7_goTalk 68 = .ok (.goto 137, 3) := by decide +kernel
theorem dX7_goTalk_71 : decode cX7_goTalk 71 = .ok (.aload_n 0, 1) := by decide +kernel
theorem dX7_goTalk_72 : decode cX7_goTalk 72 = .ok (.getfield 41, 3) := by decide +kernel
theorem dX7_goTalk_75 : decode cX7_goTalk 75 = .ok (.iload_n 2, 1) := by decide +kernel
theorem dX7_goTalk_76 : decode cX7_goTalk 76 = .ok (.iconst 1, 1) := by decide +kernel
theorem dX7_goTalk_77 : decode cX7_goTalk 77 = .ok (.iadd, 1) := by decide +kernel
theorem dX7_goTalk_78 : decode cX7_goTalk 78 = .ok (.iaload, 1) := by decide +kernel
theorem dX7_goTalk_79 : decode cX7_goTalk 79 = .ok (.bipush 42, 2) := by decide +kernel
theorem dX7_goTalk_81 : decode cX7_goTalk 81 = .ok (.if_icmp .ne 48, 3) := by decide +kernel
theorem dX7_goTalk_84 : decode cX7_goTalk 84 = .ok (.aload_n 0, 1) := by decide +kernel
theorem dX7_goTalk_85 : decode cX7_goTalk 85 = .ok (.iload_n 1, 1) := by decide +kernel
theorem dX7_goTalk_86 : decode cX7_goTalk 86 = .ok (.ifCond .ne 18, 3) := by decide +kernel
theorem dX7_goTalk_89 : decode cX7_goTalk 89 = .ok (.aload_n 0, 1) := by decide +kernel
theorem dX7_goTalk_90 : decode cX7_goTalk 90 = .ok (.iload_n 3, 1) := by decide +kernel
theorem dX7_goTalk_91 : decode cX7_goTalk 91 = .ok (.bipush 97, 2) := by decide +kernel
theorem dX7_goTalk_93 : decode cX7_goTalk 93 = .ok (.isub, 1) := by decide +kernel
theorem dX7_goTalk_94 : decode cX7_goTalk 94 = .ok (.invokevirtual 152, 3) := by decide +kernel
theorem dX7_goTalk_97 : decode cX7_goTalk 97 = .ok (.ifCond .eq 7, 3) := by decide +kernel
theorem dX7_goTalk_100 : decode cX7_goTalk 100 = .ok (.iconst 2, 1) := by decide +kernel
theorem dX7_goTalk_101 : decode cX7_goTalk 101 = .ok (.goto 4, 3) := by decide +kernel
theorem dX7_goTalk_104 : decode cX7_goTalk 104 = .ok (.iconst 0, 1) := by decide +kernel
theorem dX7_goTalk_105 : decode cX7_goTalk 105 = .ok (.putfield 143, 3) := by decide +kernel
theorem dX7_goTalk_108 : decode cX7_goTalk 108 = .ok (.aload_n 0, 1) := by decide +kernel
theorem dX7_goTalk_109 : decode cX7_goTalk 109 = .ok (.getfield 143, 3) := by decide +kernel
theorem dX7_goTalk_112 : decode cX7_goTalk 112 = .ok (.ifCond .ne 11, 3) := by decide +kernel
theorem dX7_goTalk_115 : decode cX7_goTalk 115 = .ok (.aload_n 0, 1) := by decide +kernel
theorem dX7_goTalk_116 : decode cX7_goTalk 116 = .ok (.iload_n 3, 1) := by decide +kernel
theorem dX7_goTalk_117 : decode cX7_goTalk 117 = .ok (.bipush 97, 2) := by decide +kernel
theorem dX7_goTalk_119 : decode cX7_goTalk 119 = .ok (.isub, 1) := by decide +kernel
theorem dX7_goTalk_120 : decode cX7_goTalk 120 = .ok (.invokevirtual 155, 3) := by decide +kernel
theorem dX7_goTalk_123 : decode cX7_goTalk 123 = .ok (.iinc 2 2, 3) := by decide +kernel
theorem dX7_goTalk_126 : decode cX7_goTalk 126 = .ok (.goto 79, 3) := by decide +kernel
theorem dX7_goTalk_129 : decode cX7_goTalk 129 = .ok (.aload_n 0, 1) := by decide +kernel
theorem dX7_goTalk_130 : decode cX7_goTalk 130 = .ok (.iload_n 1, 1) := by decide +kernel
theorem dX7_goTalk_131 : decode cX7_goTalk 131 = .ok (.ifCond .eq 7, 3) := by decide +kernel
theorem dX7_goTalk_134 : decode cX7_goTalk 134 = .ok (.iconst 0, 1) := by decide +kernel
theorem dX7_goTalk_135 : decode cX7_goTalk 135 = .ok (.goto 30, 3) := by decide +kernel
theorem dX7_goTalk_138 : decode cX7_goTalk 138 = .ok (.aload_n 0, 1) := by decide +kernel
theorem dX7_goTalk_139 : decode cX7_goTalk 139 = .ok (.iload_n 3, 1) := by decide +kernel
theorem dX7_goTalk_140 : decode cX7_goTalk 140 = .ok (.bipush 97, 2) := by decide +kernel
theorem dX7_goTalk_142 : decode cX7_goTalk 142 = .ok (.isub, 1) := by decide +kernel
theorem dX7_goTalk_143 : decode cX7_goTalk 143 = .ok (.aload_n 0, 1) := by decide +kernel
theorem dX7_goTalk_144 : decode cX7_goTalk 144 = .ok (.getfield 41, 3) := by decide +kernel
theorem dX7_goTalk_147 : decode cX7_goTalk 147 = .ok (.iload_n 2, 1) := by decide +kernel
theorem dX7_goTalk_148 : decode cX7_goTalk 148 = .ok (.iconst 1, 1) := by decide +kernel
theorem dX7_goTalk_149 : decode cX7_goTalk 149 = .ok (.iadd, 1) := by decide +kernel
theorem dX7_goTalk_150 : decode cX7_goTalk 150 = .ok (.iaload, 1) := by decide +kernel
theorem dX7_goTalk_151 : decode cX7_goTalk 151 = .ok (.bipush 65, 2) := by decide +kernel
theorem dX7_goTalk_153 : decode cX7_goTalk 153 = .ok (.isub, 1) := by decide +kernel
theorem dX7_goTalk_154 : decode cX7_goTalk 154 = .ok (.aload_n 0, 1) := by decide +kernel
theorem dX7_goTalk_155 : decode cX7_goTalk 155 = .ok (.getfield 41, 3) := by decide +kernel
theorem dX7_goTalk_158 : decode cX7_goTalk 158 = .ok (.iload_n 2, 1) := by decide +kernel
theorem dX7_goTalk_159 : decode cX7_goTalk 159 = .ok (.iconst 2, 1) := by decide +kernel
theorem dX7_goTalk_160 : decode cX7_goTalk 160 = .ok (.iadd, 1) := by decide +kernel
theorem dX7_goTalk_161 : decode cX7_goTalk 161 = .ok (.iaload, 1) := by decide +kernel
theorem dX7_goTalk_162 : decode cX7_goTalk 162 = .ok (.invokevirtual 159, 3) := by decide +kernel
theorem dX7_goTalk_165 : decode cX7_goTalk 165 = .ok (.putfield 143, 3) := by decide +kernel
theorem dX7_goTalk_168 : decode cX7_goTalk 168 = .ok (.aload_n 0, 1) := by decide +kernel
theorem dX7_goTalk_169 : decode cX7_goTalk 169 = .ok (.getfield 143, 3) := by decide +kernel
theorem dX7_goTalk_172 : decode cX7_goTalk 172 = .ok (.ifCond .ne 30, 3) := by decide +kernel
theorem dX7_goTalk_175 : decode cX7_goTalk 175 = .ok (.aload_n 0, 1) := by decide +kernel
theorem dX7_goTalk_176 : decode cX7_goTalk 176 = .ok (.iload_n 3, 1) := by decide +kernel
theorem dX7_goTalk_177 : decode cX7_goTalk 177 = .ok (.bipush 97, 2) := by decide +kernel
theorem dX7_goTalk_179 : decode cX7_goTalk 179 = .ok (.isub, 1) := by decide +kernel
theorem dX7_goTalk_180 : decode cX7_goTalk 180 = .ok (.aload_n 0, 1) := by decide +kernel
theorem dX7_goTalk_181 : decode cX7_goTalk 181 = .ok (.getfield 41, 3) := by decide +kernel
theorem dX7_goTalk_184 : decode cX7_goTalk 184 = .ok (.iload_n 2, 1) := by decide +kernel
theorem dX7_goTalk_185 : decode cX7_goTalk 185 = .ok (.iconst 1, 1) := by decide +kernel
theorem dX7_goTalk_186 : decode cX7_goTalk 186 = .ok (.iadd, 1) := by decide +kernel
theorem dX7_goTalk_187 : decode cX7_goTalk 187 = .ok (.iaload, 1) := by decide +kernel
theorem dX7_goTalk_188 : decode cX7_goTalk 188 = .ok (.bipush 65, 2) := by decide +kernel
theorem dX7_goTalk_190 : decode cX7_goTalk 190 = .ok (.isub, 1) := by decide +kernel
theorem dX7_goTalk_191 : decode cX7_goTalk 191 = .ok (.aload_n 0, 1) := by decide +kernel
theorem dX7_goTalk_192 : decode cX7_goTalk 192 = .ok (.getfield 41, 3) := by decide +kernel
theorem dX7_goTalk_195 : decode cX7_goTalk 195 = .ok (.iload_n 2, 1) := by decide +kernel
theorem dX7_goTalk_196 : decode cX7_goTalk 196 = .ok (.iconst 2, 1) := by decide +kernel
theorem dX7_goTalk_197 : decode cX7_goTalk 197 = .ok (.iadd, 1) := by decide +kernel
theorem dX7_goTalk_198 : decode cX7_goTalk 198 = .ok (.iaload, 1) := by decide +kernel
theorem dX7_goTalk_199 : decode cX7_goTalk 199 = .ok (.invokevirtual 162, 3) := by decide +kernel
theorem dX7_goTalk_202 : decode cX7_goTalk 202 = .ok (.iinc 2 3, 3) := by decide +kernel
theorem dX7_goTalk_205 : decode cX7_goTalk 205 = .ok (.aload_n 0, 1) := by decide +kernel
theorem dX7_goTalk_206 : decode cX7_goTalk 206 = .ok (.getfield 143, 3) := by decide +kernel
theorem dX7_goTalk_209 : decode cX7_goTalk 209 = .ok (.ifCond .le 8, 3) := by decide +kernel
theorem dX7_goTalk_212 : decode cX7_goTalk 212 = .ok (.aload_n 0, 1) := by decide +kernel
theorem dX7_goTalk_213 : decode cX7_goTalk 213 = .ok (.getfield 137, 3) := by decide +kernel
theorem dX7_goTalk_216 : decode cX7_goTalk 216 = .ok (.ireturn, 1) := by decide +kernel
theorem dX7_goTalk_217 : decode cX7_goTalk 217 = .ok (.iload_n 1, 1) := by decide +kernel
theorem dX7_goTalk_218 : decode cX7_goTalk 218 = .ok (.ifCond .ne 7, 3) := by decide +kernel
theorem dX7_goTalk_221 : decode cX7_goTalk 221 = .ok (.aload_n 0, 1) := by decide +kernel
theorem dX7_goTalk_222 : decode cX7_goTalk 222 = .ok (.invokevirtual 165, 3) := by decide +kernel
theorem dX7_goTalk_225 : decode cX7_goTalk 225 = .ok (.aload_n 0, 1) := by decide +kernel
theorem dX7_goTalk_226 : decode cX7_goTalk 226 = .ok (.aload_n 0, 1) := by decide +kernel
theorem dX7_goTalk_227 : decode cX7_goTalk 227 = .ok (.getfield 140, 3) := by decide +kernel
theorem dX7_goTalk_230 : decode cX7_goTalk 230 = .ok (.ifCond .ge 19, 3) := by decide +kernel
theorem dX7_goTalk_233 : decode cX7_goTalk 233 = .ok (.aload_n 0, 1) := by decide +kernel
theorem dX7_goTalk_234 : decode cX7_goTalk 234 = .ok (.getfield 106, 3) := by decide +kernel
theorem dX7_goTalk_237 : decode cX7_goTalk 237 = .ok (.iload 4, 2) := by decide +kernel
theorem dX7_goTalk_239 : decode cX7_goTalk 239 = .ok (.if_icmp .eq 10, 3) := by decide +kernel
theorem dX7_goTalk_242 : decode cX7_goTalk 242 = .ok (.aload_n 0, 1) := by decide +kernel
theorem dX7_goTalk_243 : decode cX7_goTalk 243 = .ok (.getfield 137, 3) := by decide +kernel
theorem dX7_goTalk_246 : decode cX7_goTalk 246 = .ok (.goto 7, 3) := by decide +kernel
theorem dX7_goTalk_249 : decode cX7_goTalk 249 = .ok (.aload_n 0, 1) := by decide +kernel
theorem dX7_goTalk_250 : decode cX7_goTalk 250 = .ok (.getfield 140, 3) := by decide +kernel
theorem dX7_goTalk_253 : decode cX7_goTalk 253 = .ok (.putfield 140, 3) := by decide +kernel
theorem dX7_goTalk_256 : decode cX7_goTalk 256 = .ok (.aload_n 0, 1) := by decide +kernel
theorem dX7_goTalk_257 : decode cX7_goTalk 257 = .ok (.dup, 1) := by decide +kernel
theorem dX7_goTalk_258 : decode cX7_goTalk 258 = .ok (.getfield 137, 3) := by decide +kernel
theorem dX7_goTalk_261 : decode cX7_goTalk 261 = .ok (.iconst 1, 1) := by decide +kernel
theorem dX7_goTalk_262 : decode cX7_goTalk 262 = .ok (.iadd, 1) := by decide +kernel
theorem dX7_goTalk_263 : decode cX7_goTalk 263 = .ok (.putfield 137, 3) := by decide +kernel
theorem dX7_goTalk_266 : decode cX7_goTalk 266 = .ok (.goto (-253), 3) := by decide +kernel
theorem dX7_goTalk_269 : decode cX7_goTalk 269 = .ok (.bipush (-6), 2) := by decide +kernel
theorem dX7_goTalk_271 : decode cX7_goTalk 271 = .ok (.ireturn, 1) := by decide +kernel
theorem dX7_guests_0 : decode cX7_guests 0 = .ok (.aload_n 0, 1) := by decide +kernel
theorem dX7_guests_1 : decode cX7_guests 1 = .ok (.iload_n 1, 1) := by decide +kernel
theorem dX7_guests_2 : decode cX7_guests 2 = .ok (.invokevirtual 95, 3) := by decide +kernel
theorem dX7_guests_5 : decode cX7_guests 5 = .ok (.ifCond .ne 7, 3) := by decide +kernel
theorem dX7_guests_8 : decode cX7_guests 8 = .ok (.ldc2_w 218, 3) := by decide +kernel
theorem dX7_guests_11 : decode cX7_guests 11 = .ok (.lreturn, 1) := by decide +kernel
theorem dX7_guests_12 : decode cX7_guests 12 = .ok (.iload_n 2, 1) := by decide +kernel
theorem dX7_guests_13 : decode cX7_guests 13 = .ok (.iconst 0, 1) := by decide +kernel
theorem dX7_guests_14 : decode cX7_guests 14 = .ok (.bipush 10, 2) := by decide +kernel
theorem dX7_guests_16 : decode cX7_guests 16 = .ok (.invokestatic 91, 3) := by decide +kernel
theorem dX7_guests_19 : decode cX7_guests 19 = .ok (.ifCond .eq 23, 3) := by decide +kernel
theorem dX7_guests_22 : decode cX7_guests 22 = .ok (.iload_n 3, 1) := by decide +kernel
theorem dX7_guests_23 : decode cX7_guests 23 = .ok (.iconst 0, 1) := by decide +kernel
theorem dX7_guests_24 : decode cX7_guests 24 = .ok (.bipush 12, 2) := by decide +kernel
theorem dX7_guests_26 : decode cX7_guests 26 = .ok (.invokestatic 91, 3) := by decide +kernel
theorem dX7_guests_29 : decode cX7_guests 29 = .ok (.ifCond .eq 13, 3) := by decide +kernel
theorem dX7_guests_32 : decode cX7_guests 32 = .ok (.iload 4, 2) := by decide +kernel
theorem dX7_guests_34 : decode cX7_guests 34 = .ok (.iconst 0, 1) := by decide +kernel
theorem dX7_guests_35 : decode cX7_guests 35 = .ok (.iconst 1, 1) := by decide +kernel
theorem dX7_guests_36 : decode cX7_guests 36 = .ok (.invokestatic 91, 3) := by decide +kernel
theorem dX7_guests_39 : decode cX7_guests 39 = .ok (.ifCond .ne 7, 3) := by decide +kernel
theorem dX7_guests_42 : decode cX7_guests 42 = .ok (.ldc2_w 220, 3) := by decide +kernel
theorem dX7_guests_45 : decode cX7_guests 45 = .ok (.lreturn, 1) := by decide +kernel
theorem dX7_guests_46 : decode cX7_guests 46 = .ok (.aload_n 0, 1) := by decide +kernel
theorem dX7_guests_47 : decode cX7_guests 47 = .ok (.getfield 82, 3) := by decide +kernel
theorem dX7_guests_50 : decode cX7_guests 50 = .ok (.iload_n 1, 1) := by decide +kernel
theorem dX7_guests_51 : decode cX7_guests 51 = .ok (.invokestatic 121, 3) := by decide +kernel
theorem dX7_guests_54 : decode cX7_guests 54 = .ok (.ifCond .eq 7, 3) := by decide +kernel
theorem dX7_guests_57 : decode cX7_guests 57 = .ok (.lconst 0, 1) := by decide +kernel
theorem dX7_guests_58 : decode cX7_guests 58 = .ok (.goto 16, 3) := by decide +kernel
theorem dX7_guests_61 : decode cX7_guests 61 = .ok (.aload_n 0, 1) := by decide +kernel
theorem dX7_guests_62 : decode cX7_guests 62 = .ok (.iload_n 1, 1) := by decide +kernel
theorem dX7_guests_63 : decode cX7_guests 63 = .ok (.iload_n 2, 1) := by decide +kernel
theorem dX7_guests_64 : decode cX7_guests 64 = .ok (.iload_n 3, 1) := by decide +kernel
theorem dX7_guests_65 : decode cX7_guests 65 = .ok (.aload_n 0, 1) := by decide +kernel
theorem dX7_guests_66 : decode cX7_guests 66 = .ok (.getfield 17, 3) := by decide +kernel
theorem dX7_guests_69 : decode cX7_guests 69 = .ok (.iload_n 1, 1) := by decide +kernel
theorem dX7_guests_70 : decode cX7_guests 70 = .ok (.iaload, 1) := by decide +kernel
theorem dX7_guests_71 : decode cX7_guests 71 = .ok (.invokevirtual 222, 3) := by decide +kernel
theorem dX7_guests_74 : decode cX7_guests 74 = .ok (.lstore 5, 2) := by decide +kernel
theorem dX7_guests_76 : decode cX7_guests 76 = .ok (.iload_n 3, 1) := by decide +kernel
theorem dX7_guests_77 : decode cX7_guests 77 = .ok (.invokestatic 226, 3) := by decide +kernel
theorem dX7_guests_80 : decode cX7_guests 80 = .ok (.lstore 7, 2) := by decide +kernel
theorem dX7_guests_82 : decode cX7_guests 82 = .ok (.lload 5, 2) := by decide +kernel
theorem dX7_guests_84 : decode cX7_guests 84 = .ok (.lstore 9, 2) := by decide +kernel
theorem dX7_guests_86 : decode cX7_guests 86 = .ok (.lload 7, 2) := by decide +kernel
theorem dX7_guests_88 : decode cX7_guests 88 = .ok (.lstore 11, 2) := by decide +kernel
theorem dX7_guests_90 : decode cX7_guests 90 = .ok (.lload 11, 2) := by decide +kernel
theorem dX7_guests_92 : decode cX7_guests 92 = .ok (.lconst 0, 1) := by decide +kernel
theorem dX7_guests_93 : decode cX7_guests 93 = .ok (.lcmp, 1) := by decide +kernel
theorem dX7_guests_94 : decode cX7_guests 94 = .ok (.ifCond .eq 21, 3) := by decide +kernel
theorem dX7_guests_97 : decode cX7_guests 97 = .ok (.lload 9, 2) := by decide +kernel
theorem dX7_guests_99 : decode cX7_guests 99 = .ok (.lload 11, 2) := by decide +kernel
theorem dX7_guests_101 : decode cX7_guests 101 = .ok (.lrem, 1) := by decide +kernel
theorem dX7_guests_102 : decode cX7_guests 102 = .ok (.lstore 13, 2) := by decide +kernel
theorem dX7_guests_104 : decode cX7_guests 104 = .ok (.lload 11, 2) := by decide +kernel
theorem dX7_guests_106 : decode cX7_guests 106 = .ok (.lstore 9, 2) := by decide +kernel
theorem dX7_guests_108 : decode cX7_guests 108 = .ok (.lload 13, 2) := by decide +kernel
theorem dX7_guests_110 : decode cX7_guests 110 = .ok (.lstore 11, 2) := by decide +kernel
theorem dX7_guests_112 : decode cX7_guests 112 = .ok (.goto (-22), 3) := by decide +kernel
theorem dX7_guests_115 : decode cX7_guests 115 = .ok (.iload 4, 2) := by decide +kernel
theorem dX7_guests_117 : decode cX7_guests 117 = .ok (.ifCond .ne 11, 3) := by decide +kernel
theorem dX7_guests_120 : decode cX7_guests 120 = .ok (.lload 5, 2) := by decide +kernel
theorem dX7_guests_122 : decode cX7_guests 122 = .ok (.lload 9, 2) := by decide +kernel
theorem dX7_guests_124 : decode cX7_guests 124 = .ok (.ldiv, 1) := by decide +kernel
theorem dX7_guests_125 : decode cX7_guests 125 = .ok (.goto 8, 3) := by decide +kernel
theorem dX7_guests_128 : decode cX7_guests 128 = .ok (.lload 7, 2) := by decide +kernel
theorem dX7_guests_130 : decode cX7_guests 130 = .ok (.lload 9, 2) := by decide +kernel
theorem dX7_guests_132 : decode cX7_guests 132 = .ok (.ldiv, 1) := by decide +kernel
theorem dX7_guests_133 : decode cX7_guests 133 = .ok (.lreturn, 1) := by decide +kernel
theorem dX7_has_0 : decode cX7_has 0 = .ok (.iload_n 0, 1) := by decide +kernel
theorem dX7_has_1 : decode cX7_has 1 = .ok (.iload_n 1, 1) := by decide +kernel
theorem dX7_has_2 : decode cX7_has 2 = .ok (.ishr, 1) := by decide +kernel
theorem dX7_has_3 : decode cX7_has 3 = .ok (.iconst 1, 1) := by decide +kernel
theorem dX7_has_4 : decode cX7_has 4 = .ok (.iand, 1) := by decide +kernel
theorem dX7_has_5 : decode cX7_has 5 = .ok (.iconst 1, 1) := by decide +kernel
theorem dX7_has_6 : decode cX7_has 6 = .ok (.if_icmp .ne 7, 3) := by decide +kernel
theorem dX7_has_9 : decode cX7_has 9 = .ok (.iconst 1, 1) := by decide +kernel
theorem dX7_has_10 : decode cX7_has 10 = .ok (.goto 4, 3) := by decide +kernel
theorem dX7_has_13 : decode cX7_has 13 = .ok (.iconst 0, 1) := by decide +kernel
theorem dX7_has_14 : decode cX7_has 14 = .ok (.ireturn, 1) := by decide +kernel
theorem dX7_holds_0 : decode cX7_holds 0 = .ok (.aload_n 0, 1) := by decide +kernel
theorem dX7_holds_1 : decode cX7_holds 1 = .ok (.iload_n 1, 1) := by decide +kernel
theorem dX7_holds_2 : decode cX7_holds 2 = .ok (.invokevirtual 95, 3) := by decide +kernel
theorem dX7_holds_5 : decode cX7_holds 5 = .ok (.ifCond .ne 5, 3) := by decide +kernel
theorem dX7_holds_8 : decode cX7_holds 8 = .ok (.iconst (-1), 1) := by decide +kernel
theorem dX7_holds_9 : decode cX7_holds 9 = .ok (.ireturn, 1) := by decide +kernel
theorem dX7_holds_10 : decode cX7_holds 10 = .ok (.aload_n 0, 1) := by decide +kernel
theorem dX7_holds_11 : decode cX7_holds 11 = .ok (.getfield 13, 3) := by decide +kernel
theorem dX7_holds_14 : decode cX7_holds 14 = .ok (.iload_n 1, 1) := by decide +kernel
theorem dX7_holds_15 : decode cX7_holds 15 = .ok (.iaload, 1) := by decide +kernel
theorem dX7_holds_16 : decode cX7_holds 16 = .ok (.ifCond .ne 6, 3) := by decide +kernel
theorem dX7_holds_19 : decode cX7_holds 19 = .ok (.bipush (-3), 2) := by decide +kernel
theorem dX7_holds_21 : decode cX7_holds 21 = .ok (.ireturn, 1) := by decide +kernel
theorem dX7_holds_22 : decode cX7_holds 22 = .ok (.iconst 1, 1) := by decide +kernel
theorem dX7_holds_23 : decode cX7_holds 23 = .ok (.istore_n 2, 1) := by decide +kernel
theorem dX7_holds_24 : decode cX7_holds 24 = .ok (.iload_n 2, 1) := by decide +kernel
theorem dX7_holds_25 : decode cX7_holds 25 = .ok (.aload_n 0, 1) := by decide +kernel
theorem dX7_holds_26 : decode cX7_holds 26 = .ok (.getfield 13, 3) := by decide +kernel
theorem dX7_holds_29 : decode cX7_holds 29 = .ok (.iload_n 1, 1) := by decide +kernel
theorem dX7_holds_30 : decode cX7_holds 30 = .ok (.iaload, 1) := by decide +kernel
theorem dX7_holds_31 : decode cX7_holds 31 = .ok (.if_icmp .gt 20, 3) := by decide +kernel
theorem dX7_holds_34 : decode cX7_holds 34 = .ok (.aload_n 0, 1) := by decide +kernel
theorem dX7_holds_35 : decode cX7_holds 35 = .ok (.iload_n 1, 1) := by decide +kernel
theorem dX7_holds_36 : decode cX7_holds 36 = .ok (.iload_n 2, 1) := by decide +kernel
theorem dX7_holds_37 : decode cX7_holds 37 = .ok (.invokevirtual 192, 3) := by decide +kernel
theorem dX7_holds_40 : decode cX7_holds 40 = .ok (.ifCond .lt 5, 3) := by decide +kernel
theorem dX7_holds_43 : decode cX7_holds 43 = .ok (.iload_n 2, 1) := by decide +kernel
theorem dX7_holds_44 : decode cX7_holds 44 = .ok (.ireturn, 1) := by decide +kernel
theorem dX7_holds_45 : decode cX7_holds 45 = .ok (.iinc 2 1, 3) := by decide +kernel
theorem dX7_holds_48 : decode cX7_holds 48 = .ok (.goto (-24), 3) := by decide +kernel
theorem dX7_holds_51 : decode cX7_holds 51 = .ok (.bipush (-6), 2) := by decide +kernel
theorem dX7_holds_53 : decode cX7_holds 53 = .ok (.ireturn, 1) := by decide +kernel
theorem dX7_holdsNow_0 : decode cX7_holdsNow 0 = .ok (.iconst 1, 1) := by decide +kernel
theorem dX7_holdsNow_1 : decode cX7_holdsNow 1 = .ok (.istore_n 1, 1) := by decide +kernel
theorem dX7_holdsNow_2 : decode cX7_holdsNow 2 = .ok (.iconst 0, 1) := by decide +kernel
theorem dX7_holdsNow_3 : decode cX7_holdsNow 3 = .ok (.istore_n 2, 1) := by decide +kernel
theorem dX7_holdsNow_4 : decode cX7_holdsNow 4 = .ok (.iload_n 2, 1) := by decide +kernel
theorem dX7_holdsNow_5 : decode cX7_holdsNow 5 = .ok (.aload_n 0, 1) := by decide +kernel
theorem dX7_holdsNow_6 : decode cX7_holdsNow 6 = .ok (.getfield 88, 3) := by decide +kernel
theorem dX7_holdsNow_9 : decode cX7_holdsNow 9 = .ok (.if_icmp .ge 45, 3) := by decide +kernel
theorem dX7_holdsNow_12 : decode cX7_holdsNow 12 = .ok (.iload_n 1, 1) := by decide +kernel
theorem dX7_holdsNow_13 : decode cX7_holdsNow 13 = .ok (.ifCond .eq 33, 3) := by decide +kernel
theorem dX7_holdsNow_16 : decode cX7_holdsNow 16 = .ok (.aload_n 0, 1) := by decide +kernel
theorem dX7_holdsNow_17 : decode cX7_holdsNow 17 = .ok (.getfield 44, 3) := by decide +kernel
theorem dX7_holdsNow_20 : decode cX7_holdsNow 20 = .ok (.aload_n 0, 1) := by decide +kernel
theorem dX7_holdsNow_21 : decode cX7_holdsNow 21 = .ok (.getfield 38, 3) := by decide +kernel
theorem dX7_holdsNow_24 : decode cX7_holdsNow 24 = .ok (.iconst 2, 1) := by decide +kernel
theorem dX7_holdsNow_25 : decode cX7_holdsNow 25 = .ok (.iload_n 2, 1) := by decide +kernel
theorem dX7_holdsNow_26 : decode cX7_holdsNow 26 = .ok (.imul, 1) := by decide +kernel
theorem dX7_holdsNow_27 : decode cX7_holdsNow 27 = .ok (.iaload, 1) := by decide +kernel
theorem dX7_holdsNow_28 : decode cX7_holdsNow 28 = .ok (.iaload, 1) := by decide +kernel
theorem dX7_holdsNow_29 : decode cX7_holdsNow 29 = .ok (.aload_n 0, 1) := by decide +kernel
theorem dX7_holdsNow_30 : decode cX7_holdsNow 30 = .ok (.getfield 38, 3) := by decide +kernel
theorem dX7_holdsNow_33 : decode cX7_holdsNow 33 = .ok (.iconst 2, 1) := by decide +kernel
theorem dX7_holdsNow_34 : decode cX7_holdsNow 34 = .ok (.iload_n 2, 1) := by decide +kernel
theorem dX7_holdsNow_35 : decode cX7_holdsNow 35 = .ok (.imul, 1) := by decide +kernel
theorem dX7_holdsNow_36 : decode cX7_holdsNow 36 = .ok (.iconst 1, 1) := by decide +kernel
theorem dX7_holdsNow_37 : decode cX7_holdsNow 37 = .ok (.iadd, 1) := by decide +kernel
theorem dX7_holdsNow_38 : decode cX7_holdsNow 38 = .ok (.iaload, 1) := by decide +kernel
theorem dX7_holdsNow_39 : decode cX7_holdsNow 39 = .ok (.if_icmp .ne 7, 3) := by decide +kernel
theorem dX7_holdsNow_42 : decode cX7_holdsNow 42 = .ok (.iconst 1, 1) := by decide +kernel
theorem dX7_holdsNow_43 : decode cX7_holdsNow 43 = .ok (.goto 4, 3) := by decide +kernel
theorem dX7_holdsNow_46 : decode cX7_holdsNow 46 = .ok (.iconst 0, 1) := by decide +kernel
theorem dX7_holdsNow_47 : decode cX7_holdsNow 47 = .ok (.istore_n 1, 1) := by decide +kernel
theorem dX7_holdsNow_48 : decode cX7_holdsNow 48 = .ok (.iinc 2 1, 3) := by decide +kernel
theorem dX7_holdsNow_51 : decode cX7_holdsNow 51 = .ok (.goto (-47), 3) := by decide +kernel
theorem dX7_holdsNow_54 : decode cX7_holdsNow 54 = .ok (.iload_n 1, 1) := by decide +kernel
theorem dX7_holdsNow_55 : decode cX7_holdsNow 55 = .ok (.ireturn, 1) := by decide +kernel
theorem dX7_image_0 : decode cX7_image 0 = .ok (.iload_n 1, 1) := by decide +kernel
theorem dX7_image_1 : decode cX7_image 1 = .ok (.iconst 0, 1) := by decide +kernel
theorem dX7_image_2 : decode cX7_image 2 = .ok (.iconst 1, 1) := by decide +kernel
theorem dX7_image_3 : decode cX7_image 3 = .ok (.invokestatic 91, 3) := by decide +kernel
theorem dX7_image_6 : decode cX7_image 6 = .ok (.ifCond .ne 6, 3) := by decide +kernel
theorem dX7_image_9 : decode cX7_image 9 = .ok (.bipush (-2), 2) := by decide +kernel
theorem dX7_image_11 : decode cX7_image 11 = .ok (.ireturn, 1) := by decide +kernel
theorem dX7_image_12 : decode cX7_image 12 = .ok (.sipush 130, 3) := by decide +kernel
theorem dX7_image_15 : decode cX7_image 15 = .ok (.iload_n 1, 1) := by decide +kernel
theorem dX7_image_16 : decode cX7_image 16 = .ok (.imul, 1) := by decide +kernel
theorem dX7_image_17 : decode cX7_image 17 = .ok (.istore_n 2, 1) := by decide +kernel
theorem dX7_image_18 : decode cX7_image 18 = .ok (.iconst 0, 1) := by decide +kernel
theorem dX7_image_19 : decode cX7_image 19 = .ok (.istore_n 3, 1) := by decide +kernel
theorem dX7_image_20 : decode cX7_image 20 = .ok (.iload_n 3, 1) := by decide +kernel
theorem dX7_image_21 : decode cX7_image 21 = .ok (.bipush 8, 2) := by decide +kernel
theorem dX7_image_23 : decode cX7_image 23 = .ok (.if_icmp .ge 57, 3) := by decide +kernel
theorem dX7_image_26 : decode cX7_image 26 = .ok (.aload_n 0, 1) := by decide +kernel
theorem dX7_image_27 : decode cX7_image 27 = .ok (.getfield 72, 3) := by decide +kernel
theorem dX7_image_30 : decode cX7_image 30 = .ok (.iload_n 2, 1) := by decide +kernel
theorem dX7_image_31 : decode cX7_image 31 = .ok (.iload_n 3, 1) := by decide +kernel
theorem dX7_image_32 : decode cX7_image 32 = .ok (.iadd, 1) := by decide +kernel
theorem dX7_image_33 : decode cX7_image 33 = .ok (.aload_n 0, 1) := by decide +kernel
theorem dX7_image_34 : decode cX7_image 34 = .ok (.getfield 13, 3) := by decide +kernel
theorem dX7_image_37 : decode cX7_image 37 = .ok (.iload_n 3, 1) := by decide +kernel
theorem dX7_image_38 : decode cX7_image 38 = .ok (.iaload, 1) := by decide +kernel
theorem dX7_image_39 : decode cX7_image 39 = .ok (.iastore, 1) := by decide +kernel
theorem dX7_image_40 : decode cX7_image 40 = .ok (.aload_n 0, 1) := by decide +kernel
theorem dX7_image_41 : decode cX7_image 41 = .ok (.getfield 72, 3) := by decide +kernel
theorem dX7_image_44 : decode cX7_image 44 = .ok (.iload_n 2, 1) := by decide +kernel
theorem dX7_image_45 : decode cX7_image 45 = .ok (.bipush 8, 2) := by decide +kernel
theorem dX7_image_47 : decode cX7_image 47 = .ok (.iadd, 1) := by decide +kernel
theorem dX7_image_48 : decode cX7_image 48 = .ok (.iload_n 3, 1) := by decide +kernel
theorem dX7_image_49 : decode cX7_image 49 = .ok (.iadd, 1) := by decide +kernel
theorem dX7_image_50 : decode cX7_image 50 = .ok (.aload_n 0, 1) := by decide +kernel
theorem dX7_image_51 : decode cX7_image 51 = .ok (.getfield 17, 3) := by decide +kernel
theorem dX7_image_54 : decode cX7_image 54 = .ok (.iload_n 3, 1) := by decide +kernel
theorem dX7_image_55 : decode cX7_image 55 = .ok (.iaload, 1) := by decide +kernel
theorem dX7_image_56 : decode cX7_image 56 = .ok (.iastore, 1) := by decide +kernel
theorem dX7_image_57 : decode cX7_image 57 = .ok (.aload_n 0, 1) := by decide +kernel
theorem dX7_image_58 : decode cX7_image 58 = .ok (.getfield 72, 3) := by decide +kernel
theorem dX7_image_61 : decode cX7_image 61 = .ok (.iload_n 2, 1) := by decide +kernel
theorem dX7_image_62 : decode cX7_image 62 = .ok (.bipush 16, 2) := by decide +kernel
theorem dX7_image_64 : decode cX7_image 64 = .ok (.iadd, 1) := by decide +kernel
theorem dX7_image_65 : decode cX7_image 65 = .ok (.iload_n 3, 1) := by decide +kernel
theorem dX7_image_66 : decode cX7_image 66 = .ok (.iadd, 1) := by decide +kernel
theorem dX7_image_67 : decode cX7_image 67 = .ok (.aload_n 0, 1) := by decide +kernel
theorem dX7_image_68 : decode cX7_image 68 = .ok (.getfield 20, 3) := by decide +kernel
theorem dX7_image_71 : decode cX7_image 71 = .ok (.iload_n 3, 1) := by decide +kernel
theorem dX7_image_72 : decode cX7_image 72 = .ok (.iaload, 1) := by decide +kernel
theorem dX7_image_73 : decode cX7_image 73 = .ok (.iastore, 1) := by decide +kernel
theorem dX7_image_74 : decode cX7_image 74 = .ok (.iinc 3 1, 3) := by decide +kernel
theorem dX7_image_77 : decode cX7_image 77 = .ok (.goto (-57), 3) := by decide +kernel
theorem dX7_image_80 : decode cX7_image 80 = .ok (.iconst 0, 1) := by decide +kernel
theorem dX7_image_81 : decode cX7_image 81 = .ok (.istore_n 3, 1) := by decide +kernel
theorem dX7_image_82 : decode cX7_image 82 = .ok (.iload_n 3, 1) := by decide +kernel
theorem dX7_image_83 : decode cX7_image 83 = .ok (.bipush 64, 2) := by decide +kernel
theorem dX7_image_85 : decode cX7_image 85 = .ok (.if_icmp .ge 26, 3) := by decide +kernel
theorem dX7_image_88 : decode cX7_image 88 = .ok (.aload_n 0, 1) := by decide +kernel
theorem dX7_image_89 : decode cX7_image 89 = .ok (.getfield 72, 3) := by decide +kernel
theorem dX7_image_92 : decode cX7_image 92 = .ok (.iload_n 2, 1) := by decide +kernel
theorem dX7_image_93 : decode cX7_image 93 = .ok (.bipush 24, 2) := by decide +kernel
theorem dX7_image_95 : decode cX7_image 95 = .ok (.iadd, 1) := by decide +kernel
theorem dX7_image_96 : decode cX7_image 96 = .ok (.iload_n 3, 1) := by decide +kernel
theorem dX7_image_97 : decode cX7_image 97 = .ok (.iadd, 1) := by decide +kernel
theorem dX7_image_98 : decode cX7_image 98 = .ok (.aload_n 0, 1) := by decide +kernel
theorem dX7_image_99 : decode cX7_image 99 = .ok (.getfield 23, 3) := by decide +kernel
theorem dX7_image_102 : decode cX7_image 102 = .ok (.iload_n 3, 1) := by decide +kernel
theorem dX7_image_103 : decode cX7_image 103 = .ok (.iaload, 1) := by decide +kernel
theorem dX7_image_104 : decode cX7_image 104 = .ok (.iastore, 1) := by decide +kernel
theorem dX7_image_105 : decode cX7_image 105 = .ok (.iinc 3 1, 3) := by decide +kernel
theorem dX7_image_108 : decode cX7_image 108 = .ok (.goto (-26), 3) := by decide +kernel
theorem dX7_image_111 : decode cX7_image 111 = .ok (.iconst 0, 1) := by decide +kernel
theorem dX7_image_112 : decode cX7_image 112 = .ok (.istore_n 3, 1) := by decide +kernel
theorem dX7_image_113 : decode cX7_image 113 = .ok (.iload_n 3, 1) := by decide +kernel
theorem dX7_image_114 : decode cX7_image 114 = .ok (.bipush 16, 2) := by decide +kernel
theorem dX7_image_116 : decode cX7_image 116 = .ok (.if_icmp .ge 26, 3) := by decide +kernel
theorem dX7_image_119 : decode cX7_image 119 = .ok (.aload_n 0, 1) := by decide +kernel
theorem dX7_image_120 : decode cX7_image 120 = .ok (.getfield 72, 3) := by decide +kernel
theorem dX7_image_123 : decode cX7_image 123 = .ok (.iload_n 2, 1) := by decide +kernel
theorem dX7_image_124 : decode cX7_image 124 = .ok (.bipush 88, 2) := by decide +kernel
theorem dX7_image_126 : decode cX7_image 126 = .ok (.iadd, 1) := by decide +kernel
theorem dX7_image_127 : decode cX7_image 127 = .ok (.iload_n 3, 1) := by decide +kernel
theorem dX7_image_128 : decode cX7_image 128 = .ok (.iadd, 1) := by decide +kernel
theorem dX7_image_129 : decode cX7_image 129 = .ok (.aload_n 0, 1) := by decide +kernel
theorem dX7_image_130 : decode cX7_image 130 = .ok (.getfield 38, 3) := by decide +kernel
theorem dX7_image_133 : decode cX7_image 133 = .ok (.iload_n 3, 1) := by decide +kernel
theorem dX7_image_134 : decode cX7_image 134 = .ok (.iaload, 1) := by decide +kernel
theorem dX7_image_135 : decode cX7_image 135 = .ok (.iastore, 1) := by decide +kernel
theorem dX7_image_136 : decode cX7_image 136 = .ok (.iinc 3 1, 3) := by decide +kernel
theorem dX7_image_139 : decode cX7_image 139 = .ok (.goto (-26), 3) := by decide +kernel
theorem dX7_image_142 : decode cX7_image 142 = .ok (.aload_n 0, 1) := by decide +kernel
theorem dX7_image_143 : decode cX7_image 143 = .ok (.getfield 72, 3) := by decide +kernel
theorem dX7_image_146 : decode cX7_image 146 = .ok (.iload_n 2, 1) := by decide +kernel
theorem dX7_image_147 : decode cX7_image 147 = .ok (.bipush 104, 2) := by decide +kernel
theorem dX7_image_149 : decode cX7_image 149 = .ok (.iadd, 1) := by decide +kernel
theorem dX7_image_150 : decode cX7_image 150 = .ok (.aload_n 0, 1) := by decide +kernel
theorem dX7_image_151 : decode cX7_image 151 = .ok (.getfield 7, 3) := by decide +kernel
theorem dX7_image_154 : decode cX7_image 154 = .ok (.iastore, 1) := by decide +kernel
theorem dX7_image_155 : decode cX7_image 155 = .ok (.aload_n 0, 1) := by decide +kernel
theorem dX7_image_156 : decode cX7_image 156 = .ok (.getfield 72, 3) := by decide +kernel
theorem dX7_image_159 : decode cX7_image 159 = .ok (.iload_n 2, 1) := by decide +kernel
theorem dX7_image_160 : decode cX7_image 160 = .ok (.bipush 105, 2) := by decide +kernel
theorem dX7_image_162 : decode cX7_image 162 = .ok (.iadd, 1) := by decide +kernel
theorem dX7_image_163 : decode cX7_image 163 = .ok (.aload_n 0, 1) := by decide +kernel
theorem dX7_image_164 : decode cX7_image 164 = .ok (.getfield 82, 3) := by decide +kernel
theorem dX7_image_167 : decode cX7_image 167 = .ok (.iastore, 1) := by decide +kernel
theorem dX7_image_168 : decode cX7_image 168 = .ok (.aload_n 0, 1) := by decide +kernel
theorem dX7_image_169 : decode cX7_image 169 = .ok (.getfield 72, 3) := by decide +kernel
theorem dX7_image_172 : decode cX7_image 172 = .ok (.iload_n 2, 1) := by decide +kernel
theorem dX7_image_173 : decode cX7_image 173 = .ok (.bipush 106, 2) := by decide +kernel
theorem dX7_image_175 : decode cX7_image 175 = .ok (.iadd, 1) := by decide +kernel
theorem dX7_image_176 : decode cX7_image 176 = .ok (.aload_n 0, 1) := by decide +kernel
theorem dX7_image_177 : decode cX7_image 177 = .ok (.getfield 85, 3) := by decide +kernel
theorem dX7_image_180 : decode cX7_image 180 = .ok (.iastore, 1) := by decide +kernel
theorem dX7_image_181 : decode cX7_image 181 = .ok (.aload_n 0, 1) := by decide +kernel
theorem dX7_image_182 : decode cX7_image 182 = .ok (.getfield 72, 3) := by decide +kernel
theorem dX7_image_185 : decode cX7_image 185 = .ok (.iload_n 2, 1) := by decide +kernel
theorem dX7_image_186 : decode cX7_image 186 = .ok (.bipush 107, 2) := by decide +kernel
theorem dX7_image_188 : decode cX7_image 188 = .ok (.iadd, 1) := by decide +kernel
theorem dX7_image_189 : decode cX7_image 189 = .ok (.aload_n 0, 1) := by decide +kernel
theorem dX7_image_190 : decode cX7_image 190 = .ok (.getfield 26, 3) := by decide +kernel
theorem dX7_image_193 : decode cX7_image 193 = .ok (.iastore, 1) := by decide +kernel
theorem dX7_image_194 : decode cX7_image 194 = .ok (.aload_n 0, 1) := by decide +kernel
theorem dX7_image_195 : decode cX7_image 195 = .ok (.getfield 72, 3) := by decide +kernel
theorem dX7_image_198 : decode cX7_image 198 = .ok (.iload_n 2, 1) := by decide +kernel
theorem dX7_image_199 : decode cX7_image 199 = .ok (.bipush 108, 2) := by decide +kernel
theorem dX7_image_201 : decode cX7_image 201 = .ok (.iadd, 1) := by decide +kernel
theorem dX7_image_202 : decode cX7_image 202 = .ok (.aload_n 0, 1) := by decide +kernel
theorem dX7_image_203 : decode cX7_image 203 = .ok (.getfield 29, 3) := by decide +kernel
theorem dX7_image_206 : decode cX7_image 206 = .ok (.iastore, 1) := by decide +kernel
theorem dX7_image_207 : decode cX7_image 207 = .ok (.aload_n 0, 1) := by decide +kernel
theorem dX7_image_208 : decode cX7_image 208 = .ok (.getfield 72, 3) := by decide +kernel
theorem dX7_image_211 : decode cX7_image 211 = .ok (.iload_n 2, 1) := by decide +kernel
theorem dX7_image_212 : decode cX7_image 212 = .ok (.bipush 109, 2) := by decide +kernel
theorem dX7_image_214 : decode cX7_image 214 = .ok (.iadd, 1) := by decide +kernel
theorem dX7_image_215 : decode cX7_image 215 = .ok (.aload_n 0, 1) := by decide +kernel
theorem dX7_image_216 : decode cX7_image 216 = .ok (.getfield 32, 3) := by decide +kernel
theorem dX7_image_219 : decode cX7_image 219 = .ok (.iastore, 1) := by decide +kernel
theorem dX7_image_220 : decode cX7_image 220 = .ok (.aload_n 0, 1) := by decide +kernel
theorem dX7_image_221 : decode cX7_image 221 = .ok (.getfield 72, 3) := by decide +kernel
theorem dX7_image_224 : decode cX7_image 224 = .ok (.iload_n 2, 1) := by decide +kernel
theorem dX7_image_225 : decode cX7_image 225 = .ok (.bipush 110, 2) := by decide +kernel
theorem dX7_image_227 : decode cX7_image 227 = .ok (.iadd, 1) := by decide +kernel
theorem dX7_image_228 : decode cX7_image 228 = .ok (.aload_n 0, 1) := by decide +kernel
theorem dX7_image_229 : decode cX7_image 229 = .ok (.getfield 35, 3) := by decide +kernel
theorem dX7_image_232 : decode cX7_image 232 = .ok (.iastore, 1) := by decide +kernel
theorem dX7_image_233 : decode cX7_image 233 = .ok (.aload_n 0, 1) := by decide +kernel
theorem dX7_image_234 : decode cX7_image 234 = .ok (.getfield 72, 3) := by decide +kernel
theorem dX7_image_237 : decode cX7_image 237 = .ok (.iload_n 2, 1) := by decide +kernel
theorem dX7_image_238 : decode cX7_image 238 = .ok (.bipush 111, 2) := by decide +kernel
theorem dX7_image_240 : decode cX7_image 240 = .ok (.iadd, 1) := by decide +kernel
theorem dX7_image_241 : decode cX7_image 241 = .ok (.aload_n 0, 1) := by decide +kernel
theorem dX7_image_242 : decode cX7_image 242 = .ok (.getfield 88, 3) := by decide +kernel
theorem dX7_image_245 : decode cX7_image 245 = .ok (.iastore, 1) := by decide +kernel
theorem dX7_image_246 : decode cX7_image 246 = .ok (.aload_n 0, 1) := by decide +kernel
theorem dX7_image_247 : decode cX7_image 247 = .ok (.getfield 75, 3) := by decide +kernel
theorem dX7_image_250 : decode cX7_image 250 = .ok (.iload_n 1, 1) := by decide +kernel
theorem dX7_image_251 : decode cX7_image 251 = .ok (.iconst 1, 1) := by decide +kernel
theorem dX7_image_252 : decode cX7_image 252 = .ok (.bastore, 1) := by decide +kernel
theorem dX7_image_253 : decode cX7_image 253 = .ok (.iconst 1, 1) := by decide +kernel
theorem dX7_image_254 : decode cX7_image 254 = .ok (.ireturn, 1) := by decide +kernel
theorem dX7_in_0 : decode cX7_in 0 = .ok (.iload_n 0, 1) := by decide +kernel
theorem dX7_in_1 : decode cX7_in 1 = .ok (.iload_n 1, 1) := by decide +kernel
theorem dX7_in_2 : decode cX7_in 2 = .ok (.if_icmp .lt 12, 3) := by decide +kernel
theorem dX7_in_5 : decode cX7_in 5 = .ok (.iload_n 0, 1) := by decide +kernel
theorem dX7_in_6 : decode cX7_in 6 = .ok (.iload_n 2, 1) := by decide +kernel
theorem dX7_in_7 : decode cX7_in 7 = .ok (.if_icmp .gt 7, 3) := by decide +kernel
theorem dX7_in_10 : decode cX7_in 10 = .ok (.iconst 1, 1) := by decide +kernel
theorem dX7_in_11 : decode cX7_in 11 = .ok (.goto 4, 3) := by decide +kernel
theorem dX7_in_14 : decode cX7_in 14 = .ok (.iconst 0, 1) := by decide +kernel
theorem dX7_in_15 : decode cX7_in 15 = .ok (.ireturn, 1) := by decide +kernel
theorem dX7_init_0 : decode cX7_init 0 = .ok (.aload_n 0, 1) := by decide +kernel
theorem dX7_init_1 : decode cX7_init 1 = .ok (.invokespecial 1, 3) := by decide +kernel
theorem dX7_init_4 : decode cX7_init 4 = .ok (.aload_n 0, 1) := by decide +kernel
theorem dX7_init_5 : decode cX7_init 5 = .ok (.bipush 6, 2) := by decide +kernel
theorem dX7_init_7 : decode cX7_init 7 = .ok (.putfield 7, 3) := by decide +kernel
theorem dX7_init_10 : decode cX7_init 10 = .ok (.aload_n 0, 1) := by decide +kernel
theorem dX7_init_11 : decode cX7_init 11 = .ok (.bipush 8, 2) := by decide +kernel
theorem dX7_init_13 : decode cX7_init 13 = .ok (.newarray .int, 2) := by decide +kernel
theorem dX7_init_15 : decode cX7_init 15 = .ok (.putfield 13, 3) := by decide +kernel
theorem dX7_init_18 : decode cX7_init 18 = .ok (.aload_n 0, 1) := by decide +kernel
theorem dX7_init_19 : decode cX7_init 19 = .ok (.bipush 8, 2) := by decide +kernel
theorem dX7_init_21 : decode cX7_init 21 = .ok (.newarray .int, 2) := by decide +kernel
theorem dX7_init_23 : decode cX7_init 23 = .ok (.putfield 17, 3) := by decide +kernel
theorem dX7_init_26 : decode cX7_init 26 = .ok (.aload_n 0, 1) := by decide +kernel
theorem dX7_init_27 : decode cX7_init 27 = .ok (.bipush 8, 2) := by decide +kernel
theorem dX7_init_29 : decode cX7_init 29 = .ok (.newarray .int, 2) := by decide +kernel
theorem dX7_init_31 : decode cX7_init 31 = .ok (.putfield 20, 3) := by decide +kernel
theorem dX7_init_34 : decode cX7_init 34 = .ok (.aload_n 0, 1) := by decide +kernel
theorem dX7_init_35 : decode cX7_init 35 = .ok (.bipush 64, 2) := by decide +kernel
theorem dX7_init_37 : decode cX7_init 37 = .ok (.newarray .int, 2) := by decide +kernel
theorem dX7_init_39 : decode cX7_init 39 = .ok (.putfield 23, 3) := by decide +kernel
theorem dX7_init_42 : decode cX7_init 42 = .ok (.aload_n 0, 1) := by decide +kernel
theorem dX7_init_43 : decode cX7_init 43 = .ok (.iconst 1, 1) := by decide +kernel
theorem dX7_init_44 : decode cX7_init 44 = .ok (.putfield 26, 3) := by decide +kernel
theorem dX7_init_47 : decode cX7_init 47 = .ok (.aload_n 0, 1) := by decide +kernel
theorem dX7_init_48 : decode cX7_init 48 = .ok (.iconst 3, 1) := by decide +kernel
theorem dX7_init_49 : decode cX7_init 49 = .ok (.putfield 29, 3) := by decide +kernel
theorem dX7_init_52 : decode cX7_init 52 = .ok (.aload_n 0, 1) := by decide +kernel
theorem dX7_init_53 : decode cX7_init 53 = .ok (.iconst 1, 1) := by decide +kernel
theorem dX7_init_54 : decode cX7_init 54 = .ok (.putfield 32, 3) := by decide +kernel
theorem dX7_init_57 : decode cX7_init 57 = .ok (.aload_n 0, 1) := by decide +kernel
theorem dX7_init_58 : decode cX7_init 58 = .ok (.iconst 4, 1) := by decide +kernel
theorem dX7_init_59 : decode cX7_init 59 = .ok (.putfield 35, 3) := by decide +kernel
theorem dX7_init_62 : decode cX7_init 62 = .ok (.aload_n 0, 1) := by decide +kernel
theorem dX7_init_63 : decode cX7_init 63 = .ok (.bipush 16, 2) := by decide +kernel
theorem dX7_init_65 : decode cX7_init 65 = .ok (.newarray .int, 2) := by decide +kernel
theorem dX7_init_67 : decode cX7_init 67 = .ok (.putfield 38, 3) := by decide +kernel
theorem dX7_init_70 : decode cX7_init 70 = .ok (.aload_n 0, 1) := by decide +kernel
theorem dX7_init_71 : decode cX7_init 71 = .ok (.bipush 60, 2) := by decide +kernel
theorem dX7_init_73 : decode cX7_init 73 = .ok (.newarray .int, 2) := by decide +kernel
theorem dX7_init_75 : decode cX7_init 75 = .ok (.putfield 41, 3) := by decide +kernel
theorem dX7_init_78 : decode cX7_init 78 = .ok (.aload_n 0, 1) := by decide +kernel
theorem dX7_init_79 : decode cX7_init 79 = .ok (.bipush 8, 2) := by decide +kernel
theorem dX7_init_81 : decode cX7_init 81 = .ok (.newarray .int, 2) := by decide +kernel
theorem dX7_init_83 : decode cX7_init 83 = .ok (.putfield 44, 3) := by decide +kernel
theorem dX7_init_86 : decode cX7_init 86 = .ok (.aload_n 0, 1) := by decide +kernel
theorem dX7_init_87 : decode cX7_init 87 = .ok (.bipush 8, 2) := by decide +kernel
theorem dX7_init_89 : decode cX7_init 89 = .ok (.newarray .int, 2) := by decide +kernel
theorem dX7_init_91 : decode cX7_init 91 = .ok (.putfield 47, 3) := by decide +kernel
theorem dX7_init_94 : decode cX7_init 94 = .ok (.aload_n 0, 1) := by decide +kernel
theorem dX7_init_95 : decode cX7_init 95 = .ok (.bipush 8, 2) := by decide +kernel
theorem dX7_init_97 : decode cX7_init 97 = .ok (.newarray .int, 2) := by decide +kernel
theorem dX7_init_99 : decode cX7_init 99 = .ok (.putfield 50, 3) := by decide +kernel
theorem dX7_init_102 : decode cX7_init 102 = .ok (.aload_n 0, 1) := by decide +kernel
theorem dX7_init_103 : decode cX7_init 103 = .ok (.bipush 64, 2) := by decide +kernel
theorem dX7_init_105 : decode cX7_init 105 = .ok (.newarray .int, 2) := by decide +kernel
theorem dX7_init_107 : decode cX7_init 107 = .ok (.putfield 53, 3) := by decide +kernel
theorem dX7_init_110 : decode cX7_init 110 = .ok (.aload_n 0, 1) := by decide +kernel
theorem dX7_init_111 : decode cX7_init 111 = .ok (.iconst 4, 1) := by decide +kernel
theorem dX7_init_112 : decode cX7_init 112 = .ok (.newarray .int, 2) := by decide +kernel
theorem dX7_init_114 : decode cX7_init 114 = .ok (.putfield 56, 3) := by decide +kernel
theorem dX7_init_117 : decode cX7_init 117 = .ok (.aload_n 0, 1) := by decide +kernel
theorem dX7_init_118 : decode cX7_init 118 = .ok (.iconst 4, 1) := by decide +kernel
theorem dX7_init_119 : decode cX7_init 119 = .ok (.newarray .int, 2) := by decide +kernel
theorem dX7_init_121 : decode cX7_init 121 = .ok (.putfield 59, 3) := by decide +kernel
theorem dX7_init_124 : decode cX7_init 124 = .ok (.aload_n 0, 1) := by decide +kernel
theorem dX7_init_125 : decode cX7_init 125 = .ok (.ldc 62, 2) := by decide +kernel
theorem dX7_init_127 : decode cX7_init 127 = .ok (.newarray .int, 2) := by decide +kernel
theorem dX7_init_129 : decode cX7_init 129 = .ok (.putfield 63, 3) := by decide +kernel
theorem dX7_init_132 : decode cX7_init 132 = .ok (.aload_n 0, 1) := by decide +kernel
theorem dX7_init_133 : decode cX7_init 133 = .ok (.sipush 1100, 3) := by decide +kernel
theorem dX7_init_136 : decode cX7_init 136 = .ok (.newarray .int, 2) := by decide +kernel
theorem dX7_init_138 : decode cX7_init 138 = .ok (.putfield 66, 3) := by decide +kernel
theorem dX7_init_141 : decode cX7_init 141 = .ok (.aload_n 0, 1) := by decide +kernel
theorem dX7_init_142 : decode cX7_init 142 = .ok (.bipush 8, 2) := by decide +kernel
theorem dX7_init_144 : decode cX7_init 144 = .ok (.newarray .int, 2) := by decide +kernel
theorem dX7_init_146 : decode cX7_init 146 = .ok (.putfield 69, 3) := by decide +kernel
theorem dX7_init_149 : decode cX7_init 149 = .ok (.aload_n 0, 1) := by decide +kernel
theorem dX7_init_150 : decode cX7_init 150 = .ok (.sipush 260, 3) := by decide +kernel
theorem dX7_init_153 : decode cX7_init 153 = .ok (.newarray .int, 2) := by decide +kernel
theorem dX7_init_155 : decode cX7_init 155 = .ok (.putfield 72, 3) := by decide +kernel
theorem dX7_init_158 : decode cX7_init 158 = .ok (.aload_n 0, 1) := by decide +kernel
theorem dX7_init_159 : decode cX7_init 159 = .ok (.iconst 2, 1) := by decide +kernel
theorem dX7_init_160 : decode cX7_init 160 = .ok (.newarray .boolean, 2) := by decide +kernel
theorem dX7_init_162 : decode cX7_init 162 = .ok (.putfield 75, 3) := by decide +kernel
theorem dX7_init_165 : decode cX7_init 165 = .ok (.aload_n 0, 1) := by decide +kernel
theorem dX7_init_166 : decode cX7_init 166 = .ok (.invokevirtual 79, 3) := by decide +kernel
theorem dX7_init_169 : decode cX7_init 169 = .ok (.return_, 1) := by decide +kernel
theorem dX7_isBare_0 : decode cX7_isBare 0 = .ok (.aload_n 0, 1) := by decide +kernel
theorem dX7_isBare_1 : decode cX7_isBare 1 = .ok (.getfield 44, 3) := by decide +kernel
theorem dX7_isBare_4 : decode cX7_isBare 4 = .ok (.iload_n 1, 1) := by decide +kernel
theorem dX7_isBare_5 : decode cX7_isBare 5 = .ok (.iaload, 1) := by decide +kernel
theorem dX7_isBare_6 : decode cX7_isBare 6 = .ok (.ifCond .ne 43, 3) := by decide +kernel
theorem dX7_isBare_9 : decode cX7_isBare 9 = .ok (.iload_n 1, 1) := by decide +kernel
theorem dX7_isBare_10 : decode cX7_isBare 10 = .ok (.ifCond .eq 14, 3) := by decide +kernel
theorem dX7_isBare_13 : decode cX7_isBare 13 = .ok (.aload_n 0, 1) := by decide +kernel
theorem dX7_isBare_14 : decode cX7_isBare 14 = .ok (.getfield 44, 3) := by decide +kernel
theorem dX7_isBare_17 : decode cX7_isBare 17 = .ok (.iload_n 1, 1) := by decide +kernel
theorem dX7_isBare_18 : decode cX7_isBare 18 = .ok (.iconst 1, 1) := by decide +kernel
theorem dX7_isBare_19 : decode cX7_isBare 19 = .ok (.isub, 1) := by decide +kernel
theorem dX7_isBare_20 : decode cX7_isBare 20 = .ok (.iaload, 1) := by decide +kernel
theorem dX7_isBare_21 : decode cX7_isBare 21 = .ok (.ifCond .ne 28, 3) := by decide +kernel
theorem dX7_isBare_24 : decode cX7_isBare 24 = .ok (.iload_n 1, 1) := by decide +kernel
theorem dX7_isBare_25 : decode cX7_isBare 25 = .ok (.aload_n 0, 1) := by decide +kernel
theorem dX7_isBare_26 : decode cX7_isBare 26 = .ok (.getfield 7, 3) := by decide +kernel
theorem dX7_isBare_29 : decode cX7_isBare 29 = .ok (.iconst 1, 1) := by decide +kernel
theorem dX7_isBare_30 : decode cX7_isBare 30 = .ok (.isub, 1) := by decide +kernel
theorem dX7_isBare_31 : decode cX7_isBare 31 = .ok (.if_icmp .eq 14, 3) := by decide +kernel
theorem dX7_isBare_34 : decode cX7_isBare 34 = .ok (.aload_n 0, 1) := by decide +kernel
theorem dX7_isBare_35 : decode cX7_isBare 35 = .ok (.getfield 44, 3) := by decide +kernel
theorem dX7_isBare_38 : decode cX7_isBare 38 = .ok (.iload_n 1, 1) := by decide +kernel
theorem dX7_isBare_39 : decode cX7_isBare 39 = .ok (.iconst 1, 1) := by decide +kernel
theorem dX7_isBare_40 : decode cX7_isBare 40 = .ok (.iadd, 1) := by decide +kernel
theorem dX7_isBare_41 : decode cX7_isBare 41 = .ok (.iaload, 1) := by decide +kernel
theorem dX7_isBare_42 : decode cX7_isBare 42 = .ok (.ifCond .ne 7, 3) := by decide +kernel
theorem dX7_isBare_45 : decode cX7_isBare 45 = .ok (.iconst 1, 1) := by decide +kernel
theorem dX7_isBare_46 : decode cX7_isBare 46 = .ok (.goto 4, 3) := by decide +kernel
theorem dX7_isBare_49 : decode cX7_isBare 49 = .ok (.iconst 0, 1) := by decide +kernel
theorem dX7_isBare_50 : decode cX7_isBare 50 = .ok (.ireturn, 1) := by decide +kernel
theorem dX7_isGarden_0 : decode cX7_isGarden 0 = .ok (.iload_n 1, 1) := by decide +kernel
theorem dX7_isGarden_1 : decode cX7_isGarden 1 = .ok (.iconst 0, 1) := by decide +kernel
theorem dX7_isGarden_2 : decode cX7_isGarden 2 = .ok (.aload_n 0, 1) := by decide +kernel
theorem dX7_isGarden_3 : decode cX7_isGarden 3 = .ok (.getfield 7, 3) := by decide +kernel
theorem dX7_isGarden_6 : decode cX7_isGarden 6 = .ok (.iconst 1, 1) := by decide +kernel
theorem dX7_isGarden_7 : decode cX7_isGarden 7 = .ok (.isub, 1) := by decide +kernel
theorem dX7_isGarden_8 : decode cX7_isGarden 8 = .ok (.invokestatic 91, 3) := by decide +kernel
theorem dX7_isGarden_11 : decode cX7_isGarden 11 = .ok (.ireturn, 1) := by decide +kernel
theorem dX7_isLaw_0 : decode cX7_isLaw 0 = .ok (.aload_n 0, 1) := by decide +kernel
theorem dX7_isLaw_1 : decode cX7_isLaw 1 = .ok (.invokevirtual 168, 3) := by decide +kernel
theorem dX7_isLaw_4 : decode cX7_isLaw 4 = .ok (.iconst 0, 1) := by decide +kernel
theorem dX7_isLaw_5 : decode cX7_isLaw 5 = .ok (.istore_n 2, 1) := by decide +kernel
theorem dX7_isLaw_6 : decode cX7_isLaw 6 = .ok (.iload_n 2, 1) := by decide +kernel
theorem dX7_isLaw_7 : decode cX7_isLaw 7 = .ok (.bipush 8, 2) := by decide +kernel
theorem dX7_isLaw_9 : decode cX7_isLaw 9 = .ok (.if_icmp .ge 23, 3) := by decide +kernel
theorem dX7_isLaw_12 : decode cX7_isLaw 12 = .ok (.aload_n 0, 1) := by decide +kernel
theorem dX7_isLaw_13 : decode cX7_isLaw 13 = .ok (.getfield 44, 3) := by decide +kernel
theorem dX7_isLaw_16 : decode cX7_isLaw 16 = .ok (.iload_n 2, 1) := by decide +kernel
theorem dX7_isLaw_17 : decode cX7_isLaw 17 = .ok (.iconst 0, 1) := by decide +kernel
theorem dX7_isLaw_18 : decode cX7_isLaw 18 = .ok (.iastore, 1) := by decide +kernel
theorem dX7_isLaw_19 : decode cX7_isLaw 19 = .ok (.aload_n 0, 1) := by decide +kernel
theorem dX7_isLaw_20 : decode cX7_isLaw 20 = .ok (.getfield 50, 3) := by decide +kernel
theorem dX7_isLaw_23 : decode cX7_isLaw 23 = .ok (.iload_n 2, 1) := by decide +kernel
theorem dX7_isLaw_24 : decode cX7_isLaw 24 = .ok (.iconst 0, 1) := by decide +kernel
theorem dX7_isLaw_25 : decode cX7_isLaw 25 = .ok (.iastore, 1) := by decide +kernel
theorem dX7_isLaw_26 : decode cX7_isLaw 26 = .ok (.iinc 2 1, 3) := by decide +kernel
theorem dX7_isLaw_29 : decode cX7_isLaw 29 = .ok (.goto (-23), 3) := by decide +kernel
theorem dX7_isLaw_32 : decode cX7_isLaw 32 = .ok (.aload_n 0, 1) := by decide +kernel
theorem dX7_isLaw_33 : decode cX7_isLaw 33 = .ok (.iload_n 1, 1) := by decide +kernel
theorem dX7_isLaw_34 : decode cX7_isLaw 34 = .ok (.bipush 100, 2) := by decide +kernel
theorem dX7_isLaw_36 : decode cX7_isLaw 36 = .ok (.idiv, 1) := by decide +kernel
theorem dX7_isLaw_37 : decode cX7_isLaw 37 = .ok (.putfield 112, 3) := by decide +kernel
theorem dX7_isLaw_40 : decode cX7_isLaw 40 = .ok (.aload_n 0, 1) := by decide +kernel
theorem dX7_isLaw_41 : decode cX7_isLaw 41 = .ok (.iload_n 1, 1) := by decide +kernel
theorem dX7_isLaw_42 : decode cX7_isLaw 42 = .ok (.bipush 10, 2) := by decide +kernel
theorem dX7_isLaw_44 : decode cX7_isLaw 44 = .ok (.idiv, 1) := by decide +kernel
theorem dX7_isLaw_45 : decode cX7_isLaw 45 = .ok (.bipush 10, 2) := by decide +kernel
theorem dX7_isLaw_47 : decode cX7_isLaw 47 = .ok (.irem, 1) := by decide +kernel
theorem dX7_isLaw_48 : decode cX7_isLaw 48 = .ok (.putfield 115, 3) := by decide +kernel
theorem dX7_isLaw_51 : decode cX7_isLaw 51 = .ok (.aload_n 0, 1) := by decide +kernel
theorem dX7_isLaw_52 : decode cX7_isLaw 52 = .ok (.iload_n 1, 1) := by decide +kernel
theorem dX7_isLaw_53 : decode cX7_isLaw 53 = .ok (.bipush 10, 2) := by decide +kernel
theorem dX7_isLaw_55 : decode cX7_isLaw 55 = .ok (.irem, 1) := by decide +kernel
theorem dX7_isLaw_56 : decode cX7_isLaw 56 = .ok (.putfield 118, 3) := by decide +kernel
theorem dX7_isLaw_59 : decode cX7_isLaw 59 = .ok (.aload_n 0, 1) := by decide +kernel
theorem dX7_isLaw_60 : decode cX7_isLaw 60 = .ok (.iconst 1, 1) := by decide +kernel
theorem dX7_isLaw_61 : decode cX7_isLaw 61 = .ok (.invokevirtual 171, 3) := by decide +kernel
theorem dX7_isLaw_64 : decode cX7_isLaw 64 = .ok (.pop, 1) := by decide +kernel
theorem dX7_isLaw_65 : decode cX7_isLaw 65 = .ok (.aload_n 0, 1) := by decide +kernel
theorem dX7_isLaw_66 : decode cX7_isLaw 66 = .ok (.invokevirtual 204, 3) := by decide +kernel
theorem dX7_isLaw_69 : decode cX7_isLaw 69 = .ok (.ireturn, 1) := by decide +kernel
theorem dX7_isPlain_0 : decode cX7_isPlain 0 = .ok (.aload_n 0, 1) := by decide +kernel
theorem dX7_isPlain_1 : decode cX7_isPlain 1 = .ok (.invokevirtual 102, 3) := by decide +kernel
theorem dX7_isPlain_4 : decode cX7_isPlain 4 = .ok (.ifCond .ge 16, 3) := by decide +kernel
theorem dX7_isPlain_7 : decode cX7_isPlain 7 = .ok (.aload_n 0, 1) := by decide +kernel
theorem dX7_isPlain_8 : decode cX7_isPlain 8 = .ok (.getfield 99, 3) := by decide +kernel
theorem dX7_isPlain_11 : decode cX7_isPlain 11 = .ok (.iconst 3, 1) := by decide +kernel
theorem dX7_isPlain_12 : decode cX7_isPlain 12 = .ok (.irem, 1) := by decide +kernel
theorem dX7_isPlain_13 : decode cX7_isPlain 13 = .ok (.ifCond .ne 7, 3) := by decide +kernel
theorem dX7_isPlain_16 : decode cX7_isPlain 16 = .ok (.iconst 1, 1) := by decide +kernel
theorem dX7_isPlain_17 : decode cX7_isPlain 17 = .ok (.goto 4, 3) := by decide +kernel
theorem dX7_isPlain_20 : decode cX7_isPlain 20 = .ok (.iconst 0, 1) := by decide +kernel
theorem dX7_isPlain_21 : decode cX7_isPlain 21 = .ok (.istore_n 1, 1) := by decide +kernel
theorem dX7_isPlain_22 : decode cX7_isPlain 22 = .ok (.iconst 0, 1) := by decide +kernel
theorem dX7_isPlain_23 : decode cX7_isPlain 23 = .ok (.istore_n 2, 1) := by decide +kernel
theorem dX7_isPlain_24 : decode cX7_isPlain 24 = .ok (.iload_n 2, 1) := by decide +kernel
theorem dX7_isPlain_25 : decode cX7_isPlain 25 = .ok (.aload_n 0, 1) := by decide +kernel
theorem dX7_isPlain_26 : decode cX7_isPlain 26 = .ok (.getfield 99, 3) := by decide +kernel
theorem dX7_isPlain_29 : decode cX7_isPlain 29 = .ok (.if_icmp .ge 97, 3) := by decide +kernel
theorem dX7_isPlain_32 : decode cX7_isPlain 32 = .ok (.iload_n 1, 1) := by decide +kernel
theorem dX7_isPlain_33 : decode cX7_isPlain 33 = .ok (.ifCond .eq 93, 3) := by decide +kernel
theorem dX7_isPlain_36 : decode cX7_isPlain 36 = .ok (.aload_n 0, 1) := by decide +kernel
theorem dX7_isPlain_37 : decode cX7_isPlain 37 = .ok (.aload_n 0, 1) := by decide +kernel
theorem dX7_isPlain_38 : decode cX7_isPlain 38 = .ok (.getfield 41, 3) := by decide +kernel
theorem dX7_isPlain_41 : decode cX7_isPlain 41 = .ok (.iload_n 2, 1) := by decide +kernel
theorem dX7_isPlain_42 : decode cX7_isPlain 42 = .ok (.iaload, 1) := by decide +kernel
theorem dX7_isPlain_43 : decode cX7_isPlain 43 = .ok (.bipush 97, 2) := by decide +kernel
theorem dX7_isPlain_45 : decode cX7_isPlain 45 = .ok (.isub, 1) := by decide +kernel
theorem dX7_isPlain_46 : decode cX7_isPlain 46 = .ok (.invokevirtual 95, 3) := by decide +kernel
theorem dX7_isPlain_49 : decode cX7_isPlain 49 = .ok (.ifCond .eq 69, 3) := by decide +kernel
theorem dX7_isPlain_52 : decode cX7_isPlain 52 = .ok (.aload_n 0, 1) := by decide +kernel
theorem dX7_isPlain_53 : decode cX7_isPlain 53 = .ok (.getfield 41, 3) := by decide +kernel
theorem dX7_isPlain_56 : decode cX7_isPlain 56 = .ok (.iload_n 2, 1) := by decide +kernel
theorem dX7_isPlain_57 : decode cX7_isPlain 57 = .ok (.iconst 1, 1) := by decide +kernel
theorem dX7_isPlain_58 : decode cX7_isPlain 58 = .ok (.iadd, 1) := by decide +kernel
theorem dX7_isPlain_59 : decode cX7_isPlain 59 = .ok (.iaload, 1) := by decide +kernel
theorem dX7_isPlain_60 : decode cX7_isPlain 60 = .ok (.bipush 42, 2) := by decide +kernel
theorem dX7_isPlain_62 : decode cX7_isPlain 62 = .ok (.if_icmp .eq 56, 3) := by decide +kernel
theorem dX7_isPlain_65 : decode cX7_isPlain 65 = .ok (.aload_n 0, 1) := by decide +kernel
theorem dX7_isPlain_66 : decode cX7_isPlain 66 = .ok (.getfield 41, 3) := by decide +kernel
theorem dX7_isPlain_69 : decode cX7_isPlain 69 = .ok (.iload_n 2, 1) := by decide +kernel
theorem dX7_isPlain_70 : decode cX7_isPlain 70 = .ok (.iconst 2, 1) := by decide +kernel
theorem dX7_isPlain_71 : decode cX7_isPlain 71 = .ok (.iadd, 1) := by decide +kernel
theorem dX7_isPlain_72 : decode cX7_isPlain 72 = .ok (.iaload, 1) := by decide +kernel
theorem dX7_isPlain_73 : decode cX7_isPlain 73 = .ok (.bipush 116, 2) := by decide +kernel
theorem dX7_isPlain_75 : decode cX7_isPlain 75 = .ok (.if_icmp .eq 16, 3) := by decide +kernel
theorem dX7_isPlain_78 : decode cX7_isPlain 78 = .ok (.aload_n 0, 1) := by decide +kernel
theorem dX7_isPlain_79 : decode cX7_isPlain 79 = .ok (.getfield 41, 3) := by decide +kernel
theorem dX7_isPlain_82 : decode cX7_isPlain 82 = .ok (.iload_n 2, 1) := by decide +kernel
theorem dX7_isPlain_83 : decode cX7_isPlain 83 = .ok (.iconst 2, 1) := by decide +kernel
theorem dX7_isPlain_84 : decode cX7_isPlain 84 = .ok (.iadd, 1) := by decide +kernel
theorem dX7_isPlain_85 : decode cX7_isPlain 85 = .ok (.iaload, 1) := by decide +kernel
theorem dX7_isPlain_86 : decode cX7_isPlain 86 = .ok (.bipush 108, 2) := by decide +kernel
theorem dX7_isPlain_88 : decode cX7_isPlain 88 = .ok (.if_icmp .ne 30, 3) := by decide +kernel
theorem dX7_isPlain_91 : decode cX7_isPlain 91 = .ok (.aload_n 0, 1) := by decide +kernel
theorem dX7_isPlain_92 : decode cX7_isPlain 92 = .ok (.getfield 41, 3) := by decide +kernel
theorem dX7_isPlain_95 : decode cX7_isPlain 95 = .ok (.iload_n 2, 1) := by decide +kernel
theorem dX7_isPlain_96 : decode cX7_isPlain 96 = .ok (.iaload, 1) := by decide +kernel
theorem dX7_isPlain_97 : decode cX7_isPlain 97 = .ok (.bipush 97, 2) := by decide +kernel
theorem dX7_isPlain_99 : decode cX7_isPlain 99 = .ok (.isub, 1) := by decide +kernel
theorem dX7_isPlain_100 : decode cX7_isPlain 100 = .ok (.aload_n 0, 1) := by decide +kernel
theorem dX7_isPlain_101 : decode cX7_isPlain 101 = .ok (.getfield 41, 3) := by decide +kernel
theorem dX7_isPlain_104 : decode cX7_isPlain 104 = .ok (.iload_n 2, 1) := by decide +kernel
theorem dX7_isPlain_105 : decode cX7_isPlain 105 = .ok (.iconst 1, 1) := by decide +kernel
theorem dX7_isPlain_106 : decode cX7_isPlain 106 = .ok (.iadd, 1) := by decide +kernel
theorem dX7_isPlain_107 : decode cX7_isPlain 107 = .ok (.iaload, 1) := by decide +kernel
theorem dX7_isPlain_108 : decode cX7_isPlain 108 = .ok (.bipush 65, 2) := by decide +kernel
theorem dX7_isPlain_110 : decode cX7_isPlain 110 = .ok (.isub, 1) := by decide +kernel
theorem dX7_isPlain_111 : decode cX7_isPlain 111 = .ok (.if_icmp .eq 7, 3) := by decide +kernel
theorem dX7_isPlain_114 : decode cX7_isPlain 114 = .ok (.iconst 1, 1) := by decide +kernel
theorem dX7_isPlain_115 : decode cX7_isPlain 115 = .ok (.goto 4, 3) := by decide +kernel
theorem dX7_isPlain_118 : decode cX7_isPlain 118 = .ok (.iconst 0, 1) := by decide +kernel
theorem dX7_isPlain_119 : decode cX7_isPlain 119 = .ok (.istore_n 1, 1) := by decide +kernel
theorem dX7_isPlain_120 : decode cX7_isPlain 120 = .ok (.iinc 2 3, 3) := by decide +kernel
theorem dX7_isPlain_123 : decode cX7_isPlain 123 = .ok (.goto (-99), 3) := by decide +kernel
theorem dX7_isPlain_126 : decode cX7_isPlain 126 = .ok (.iload_n 1, 1) := by decide +kernel
theorem dX7_isPlain_127 : decode cX7_isPlain 127 = .ok (.ireturn, 1) := by decide +kernel
theorem dX7_isSeen_0 : decode cX7_isSeen 0 = .ok (.iconst 0, 1) := by decide +kernel
theorem dX7_isSeen_1 : decode cX7_isSeen 1 = .ok (.istore_n 2, 1) := by decide +kernel
theorem dX7_isSeen_2 : decode cX7_isSeen 2 = .ok (.iconst 0, 1) := by decide +kernel
theorem dX7_isSeen_3 : decode cX7_isSeen 3 = .ok (.istore_n 3, 1) := by decide +kernel
theorem dX7_isSeen_4 : decode cX7_isSeen 4 = .ok (.iload_n 3, 1) := by decide +kernel
theorem dX7_isSeen_5 : decode cX7_isSeen 5 = .ok (.aload_n 0, 1) := by decide +kernel
theorem dX7_isSeen_6 : decode cX7_isSeen 6 = .ok (.getfield 88, 3) := by decide +kernel
theorem dX7_isSeen_9 : decode cX7_isSeen 9 = .ok (.if_icmp .ge 31, 3) := by decide +kernel
theorem dX7_isSeen_12 : decode cX7_isSeen 12 = .ok (.iload_n 2, 1) := by decide +kernel
theorem dX7_isSeen_13 : decode cX7_isSeen 13 = .ok (.ifCond .ne 15, 3) := by decide +kernel
theorem dX7_isSeen_16 : decode cX7_isSeen 16 = .ok (.aload_n 0, 1) := by decide +kernel
theorem dX7_isSeen_17 : decode cX7_isSeen 17 = .ok (.getfield 38, 3) := by decide +kernel
theorem dX7_isSeen_20 : decode cX7_isSeen 20 = .ok (.iconst 2, 1) := by decide +kernel
theorem dX7_isSeen_21 : decode cX7_isSeen 21 = .ok (.iload_n 3, 1) := by decide +kernel
theorem dX7_isSeen_22 : decode cX7_isSeen 22 = .ok (.imul, 1) := by decide +kernel
theorem dX7_isSeen_23 : decode cX7_isSeen 23 = .ok (.iaload, 1) := by decide +kernel
theorem dX7_isSeen_24 : decode cX7_isSeen 24 = .ok (.iload_n 1, 1) := by decide +kernel
theorem dX7_isSeen_25 : decode cX7_isSeen 25 = .ok (.if_icmp .ne 7, 3) := by decide +kernel
theorem dX7_isSeen_28 : decode cX7_isSeen 28 = .ok (.iconst 1, 1) := by decide +kernel
theorem dX7_isSeen_29 : decode cX7_isSeen 29 = .ok (.goto 4, 3) := by decide +kernel
theorem dX7_isSeen_32 : decode cX7_isSeen 32 = .ok (.iconst 0, 1) := by decide +kernel
theorem dX7_isSeen_33 : decode cX7_isSeen 33 = .ok (.istore_n 2, 1) := by decide +kernel
theorem dX7_isSeen_34 : decode cX7_isSeen 34 = .ok (.iinc 3 1, 3) := by decide +kernel
theorem dX7_isSeen_37 : decode cX7_isSeen 37 = .ok (.goto (-33), 3) := by decide +kernel
theorem dX7_isSeen_40 : decode cX7_isSeen 40 = .ok (.iload_n 2, 1) := by decide +kernel
theorem dX7_isSeen_41 : decode cX7_isSeen 41 = .ok (.ireturn, 1) := by decide +kernel
end
section
theorem dX7_judge_0 : decode cX7_judge 0 = .ok (.iload_n 1, 1) := by decide +kernel
theorem dX7_judge_1 : decode cX7_judge 1 = .ok (.iconst 0, 1) := by decide +kernel
theorem dX7_judge_2 : decode cX7_judge 2 = .ok (.iconst 1, 1) := by decide +kernel
theorem dX7_judge_3 : decode cX7_judge 3 = .ok (.invokestatic 91, 3) := by decide +kernel
theorem dX7_judge_6 : decode cX7_judge 6 = .ok (.ifCond .ne 6, 3) := by decide +kernel
theorem dX7_judge_9 : decode cX7_judge 9 = .ok (.bipush (-2), 2) := by decide +kernel
theorem dX7_judge_11 : decode cX7_judge 11 = .ok (.ireturn, 1) := by decide +kernel
theorem dX7_judge_12 : decode cX7_judge 12 = .ok (.aload_n 0, 1) := by decide +kernel
theorem dX7_judge_13 : decode cX7_judge 13 = .ok (.invokevirtual 102, 3) := by decide +kernel
theorem dX7_judge_16 : decode cX7_judge 16 = .ok (.ifCond .lt 6, 3) := by decide +kernel
theorem dX7_judge_19 : decode cX7_judge 19 = .ok (.bipush (-5), 2) := by decide +kernel
theorem dX7_judge_21 : decode cX7_judge 21 = .ok (.ireturn, 1) := by decide +kernel
theorem dX7_judge_22 : decode cX7_judge 22 = .ok (.aload_n 0, 1) := by decide +kernel
theorem dX7_judge_23 : decode cX7_judge 23 = .ok (.invokevirtual 168, 3) := by decide +kernel
theorem dX7_judge_26 : decode cX7_judge 26 = .ok (.aload_n 0, 1) := by decide +kernel
theorem dX7_judge_27 : decode cX7_judge 27 = .ok (.iconst 0, 1) := by decide +kernel
theorem dX7_judge_28 : decode cX7_judge 28 = .ok (.invokevirtual 171, 3) := by decide +kernel
theorem dX7_judge_31 : decode cX7_judge 31 = .ok (.istore_n 2, 1) := by decide +kernel
theorem dX7_judge_32 : decode cX7_judge 32 = .ok (.iload_n 2, 1) := by decide +kernel
theorem dX7_judge_33 : decode cX7_judge 33 = .ok (.ifCond .lt 7, 3) := by decide +kernel
theorem dX7_judge_36 : decode cX7_judge 36 = .ok (.iload_n 1, 1) := by decide +kernel
theorem dX7_judge_37 : decode cX7_judge 37 = .ok (.ifCond .ne 7, 3) := by decide +kernel
theorem dX7_judge_40 : decode cX7_judge 40 = .ok (.iload_n 2, 1) := by decide +kernel
theorem dX7_judge_41 : decode cX7_judge 41 = .ok (.goto 7, 3) := by decide +kernel
theorem dX7_judge_44 : decode cX7_judge 44 = .ok (.aload_n 0, 1) := by decide +kernel
theorem dX7_judge_45 : decode cX7_judge 45 = .ok (.getfield 143, 3) := by decide +kernel
theorem dX7_judge_48 : decode cX7_judge 48 = .ok (.ireturn, 1) := by decide +kernel
theorem dX7_laws_0 : decode cX7_laws 0 = .ok (.aload_n 0, 1) := by decide +kernel
theorem dX7_laws_1 : decode cX7_laws 1 = .ok (.invokevirtual 102, 3) := by decide +kernel
theorem dX7_laws_4 : decode cX7_laws 4 = .ok (.ifCond .lt 6, 3) := by decide +kernel
theorem dX7_laws_7 : decode cX7_laws 7 = .ok (.bipush (-5), 2) := by decide +kernel
theorem dX7_laws_9 : decode cX7_laws 9 = .ok (.ireturn, 1) := by decide +kernel
theorem dX7_laws_10 : decode cX7_laws 10 = .ok (.iconst 0, 1) := by decide +kernel
theorem dX7_laws_11 : decode cX7_laws 11 = .ok (.istore_n 2, 1) := by decide +kernel
theorem dX7_laws_12 : decode cX7_laws 12 = .ok (.iconst 0, 1) := by decide +kernel
theorem dX7_laws_13 : decode cX7_laws 13 = .ok (.istore_n 3, 1) := by decide +kernel
theorem dX7_laws_14 : decode cX7_laws 14 = .ok (.iload_n 3, 1) := by decide +kernel
theorem dX7_laws_15 : decode cX7_laws 15 = .ok (.sipush 556, 3) := by decide +kernel
theorem dX7_laws_18 : decode cX7_laws 18 = .ok (.if_icmp .ge 57, 3) := by decide +kernel
theorem dX7_laws_21 : decode cX7_laws 21 = .ok (.iload_n 3, 1) := by decide +kernel
theorem dX7_laws_22 : decode cX7_laws 22 = .ok (.bipush 100, 2) := by decide +kernel
theorem dX7_laws_24 : decode cX7_laws 24 = .ok (.idiv, 1) := by decide +kernel
theorem dX7_laws_25 : decode cX7_laws 25 = .ok (.bipush 6, 2) := by decide +kernel
theorem dX7_laws_27 : decode cX7_laws 27 = .ok (.if_icmp .ge 42, 3) := by decide +kernel
theorem dX7_laws_30 : decode cX7_laws 30 = .ok (.iload_n 3, 1) := by decide +kernel
theorem dX7_laws_31 : decode cX7_laws 31 = .ok (.bipush 10, 2) := by decide +kernel
theorem dX7_laws_33 : decode cX7_laws 33 = .ok (.idiv, 1) := by decide +kernel
theorem dX7_laws_34 : decode cX7_laws 34 = .ok (.bipush 10, 2) := by decide +kernel
theorem dX7_laws_36 : decode cX7_laws 36 = .ok (.irem, 1) := by decide +kernel
theorem dX7_laws_37 : decode cX7_laws 37 = .ok (.bipush 6, 2) := by decide +kernel
theorem dX7_laws_39 : decode cX7_laws 39 = .ok (.if_icmp .ge 30, 3) := by decide +kernel
theorem dX7_laws_42 : decode cX7_laws 42 = .ok (.iload_n 3, 1) := by decide +kernel
theorem dX7_laws_43 : decode cX7_laws 43 = .ok (.bipush 10, 2) := by decide +kernel
theorem dX7_laws_45 : decode cX7_laws 45 = .ok (.irem, 1) := by decide +kernel
theorem dX7_laws_46 : decode cX7_laws 46 = .ok (.bipush 6, 2) := by decide +kernel
theorem dX7_laws_48 : decode cX7_laws 48 = .ok (.if_icmp .ge 21, 3) := by decide +kernel
theorem dX7_laws_51 : decode cX7_laws 51 = .ok (.aload_n 0, 1) := by decide +kernel
theorem dX7_laws_52 : decode cX7_laws 52 = .ok (.iload_n 3, 1) := by decide +kernel
theorem dX7_laws_53 : decode cX7_laws 53 = .ok (.invokevirtual 213, 3) := by decide +kernel
theorem dX7_laws_56 : decode cX7_laws 56 = .ok (.ifCond .eq 13, 3) := by decide +kernel
theorem dX7_laws_59 : decode cX7_laws 59 = .ok (.iload_n 2, 1) := by decide +kernel
theorem dX7_laws_60 : decode cX7_laws 60 = .ok (.iload_n 1, 1) := by decide +kernel
theorem dX7_laws_61 : decode cX7_laws 61 = .ok (.if_icmp .ne 5, 3) := by decide +kernel
theorem dX7_laws_64 : decode cX7_laws 64 = .ok (.iload_n 3, 1) := by decide +kernel
theorem dX7_laws_65 : decode cX7_laws 65 = .ok (.ireturn, 1) := by decide +kernel
theorem dX7_laws_66 : decode cX7_laws 66 = .ok (.iinc 2 1, 3) := by decide +kernel
theorem dX7_laws_69 : decode cX7_laws 69 = .ok (.iinc 3 1, 3) := by decide +kernel
theorem dX7_laws_72 : decode cX7_laws 72 = .ok (.goto (-58), 3) := by decide +kernel
theorem dX7_laws_75 : decode cX7_laws 75 = .ok (.iload_n 1, 1) := by decide +kernel
theorem dX7_laws_76 : decode cX7_laws 76 = .ok (.iconst (-1), 1) := by decide +kernel
theorem dX7_laws_77 : decode cX7_laws 77 = .ok (.if_icmp .ne 7, 3) := by decide +kernel
theorem dX7_laws_80 : decode cX7_laws 80 = .ok (.iload_n 2, 1) := by decide +kernel
theorem dX7_laws_81 : decode cX7_laws 81 = .ok (.goto 5, 3) := by decide +kernel
theorem dX7_laws_84 : decode cX7_laws 84 = .ok (.bipush (-6), 2) := by decide +kernel
theorem dX7_laws_86 : decode cX7_laws 86 = .ok (.ireturn, 1) := by decide +kernel
theorem dX7_layWho_0 : decode cX7_layWho 0 = .ok (.aload_n 0, 1) := by decide +kernel
theorem dX7_layWho_1 : decode cX7_layWho 1 = .ok (.iconst 0, 1) := by decide +kernel
theorem dX7_layWho_2 : decode cX7_layWho 2 = .ok (.putfield 195, 3) := by decide +kernel
theorem dX7_layWho_5 : decode cX7_layWho 5 = .ok (.aload_n 0, 1) := by decide +kernel
theorem dX7_layWho_6 : decode cX7_layWho 6 = .ok (.iconst 0, 1) := by decide +kernel
theorem dX7_layWho_7 : decode cX7_layWho 7 = .ok (.putfield 198, 3) := by decide +kernel
theorem dX7_layWho_10 : decode cX7_layWho 10 = .ok (.aload_n 0, 1) := by decide +kernel
theorem dX7_layWho_11 : decode cX7_layWho 11 = .ok (.sipush 255, 3) := by decide +kernel
theorem dX7_layWho_14 : decode cX7_layWho 14 = .ok (.putfield 201, 3) := by decide +kernel
theorem dX7_layWho_17 : decode cX7_layWho 17 = .ok (.iconst 1, 1) := by decide +kernel
theorem dX7_layWho_18 : decode cX7_layWho 18 = .ok (.istore_n 2, 1) := by decide +kernel
theorem dX7_layWho_19 : decode cX7_layWho 19 = .ok (.iconst 0, 1) := by decide +kernel
theorem dX7_layWho_20 : decode cX7_layWho 20 = .ok (.istore_n 3, 1) := by decide +kernel
theorem dX7_layWho_21 : decode cX7_layWho 21 = .ok (.iload_n 3, 1) := by decide +kernel
theorem dX7_layWho_22 : decode cX7_layWho 22 = .ok (.iload_n 1, 1) := by decide +kernel
theorem dX7_layWho_23 : decode cX7_layWho 23 = .ok (.if_icmp .ge 18, 3) := by decide +kernel
theorem dX7_layWho_26 : decode cX7_layWho 26 = .ok (.iload_n 2, 1) := by decide +kernel
theorem dX7_layWho_27 : decode cX7_layWho 27 = .ok (.iconst 2, 1) := by decide +kernel
theorem dX7_layWho_28 : decode cX7_layWho 28 = .ok (.aload_n 0, 1) := by decide +kernel
theorem dX7_layWho_29 : decode cX7_layWho 29 = .ok (.getfield 7, 3) := by decide +kernel
theorem dX7_layWho_32 : decode cX7_layWho 32 = .ok (.imul, 1) := by decide +kernel
theorem dX7_layWho_33 : decode cX7_layWho 33 = .ok (.imul, 1) := by decide +kernel
theorem dX7_layWho_34 : decode cX7_layWho 34 = .ok (.istore_n 2, 1) := by decide +kernel
theorem dX7_layWho_35 : decode cX7_layWho 35 = .ok (.iinc 3 1, 3) := by decide +kernel
theorem dX7_layWho_38 : decode cX7_layWho 38 = .ok (.goto (-17), 3) := by decide +kernel
theorem dX7_layWho_41 : decode cX7_layWho 41 = .ok (.iconst 0, 1) := by decide +kernel
theorem dX7_layWho_42 : decode cX7_layWho 42 = .ok (.istore_n 3, 1) := by decide +kernel
theorem dX7_layWho_43 : decode cX7_layWho 43 = .ok (.iload_n 3, 1) := by decide +kernel
theorem dX7_layWho_44 : decode cX7_layWho 44 = .ok (.iload_n 2, 1) := by decide +kernel
theorem dX7_layWho_45 : decode cX7_layWho 45 = .ok (.if_icmp .ge 180, 3) := by decide +kernel
theorem dX7_layWho_48 : decode cX7_layWho 48 = .ok (.aload_n 0, 1) := by decide +kernel
theorem dX7_layWho_49 : decode cX7_layWho 49 = .ok (.invokevirtual 168, 3) := by decide +kernel
theorem dX7_layWho_52 : decode cX7_layWho 52 = .ok (.iload_n 3, 1) := by decide +kernel
theorem dX7_layWho_53 : decode cX7_layWho 53 = .ok (.istore 4, 2) := by decide +kernel
theorem dX7_layWho_55 : decode cX7_layWho 55 = .ok (.iconst 0, 1) := by decide +kernel
theorem dX7_layWho_56 : decode cX7_layWho 56 = .ok (.istore 5, 2) := by decide +kernel
theorem dX7_layWho_58 : decode cX7_layWho 58 = .ok (.iconst 0, 1) := by decide +kernel
theorem dX7_layWho_59 : decode cX7_layWho 59 = .ok (.istore 6, 2) := by decide +kernel
theorem dX7_layWho_61 : decode cX7_layWho 61 = .ok (.iload 6, 2) := by decide +kernel
theorem dX7_layWho_63 : decode cX7_layWho 63 = .ok (.iload_n 1, 1) := by decide +kernel
theorem dX7_layWho_64 : decode cX7_layWho 64 = .ok (.if_icmp .ge 72, 3) := by decide +kernel
theorem dX7_layWho_67 : decode cX7_layWho 67 = .ok (.iload 4, 2) := by decide +kernel
theorem dX7_layWho_69 : decode cX7_layWho 69 = .ok (.iconst 2, 1) := by decide +kernel
theorem dX7_layWho_70 : decode cX7_layWho 70 = .ok (.aload_n 0, 1) := by decide +kernel
theorem dX7_layWho_71 : decode cX7_layWho 71 = .ok (.getfield 7, 3) := by decide +kernel
theorem dX7_layWho_74 : decode cX7_layWho 74 = .ok (.imul, 1) := by decide +kernel
theorem dX7_layWho_75 : decode cX7_layWho 75 = .ok (.irem, 1) := by decide +kernel
theorem dX7_layWho_76 : decode cX7_layWho 76 = .ok (.istore 7, 2) := by decide +kernel
theorem dX7_layWho_78 : decode cX7_layWho 78 = .ok (.iload 4, 2) := by decide +kernel
theorem dX7_layWho_80 : decode cX7_layWho 80 = .ok (.iconst 2, 1) := by decide +kernel
theorem dX7_layWho_81 : decode cX7_layWho 81 = .ok (.aload_n 0, 1) := by decide +kernel
theorem dX7_layWho_82 : decode cX7_layWho 82 = .ok (.getfield 7, 3) := by decide +kernel
theorem dX7_layWho_85 : decode cX7_layWho 85 = .ok (.imul, 1) := by decide +kernel
theorem dX7_layWho_86 : decode cX7_layWho 86 = .ok (.idiv, 1) := by decide +kernel
theorem dX7_layWho_87 : decode cX7_layWho 87 = .ok (.istore 4, 2) := by decide +kernel
theorem dX7_layWho_89 : decode cX7_layWho 89 = .ok (.aload_n 0, 1) := by decide +kernel
theorem dX7_layWho_90 : decode cX7_layWho 90 = .ok (.getfield 44, 3) := by decide +kernel
theorem dX7_layWho_93 : decode cX7_layWho 93 = .ok (.iload 7, 2) := by decide +kernel
theorem dX7_layWho_95 : decode cX7_layWho 95 = .ok (.iconst 2, 1) := by decide +kernel
theorem dX7_layWho_96 : decode cX7_layWho 96 = .ok (.idiv, 1) := by decide +kernel
theorem dX7_layWho_97 : decode cX7_layWho 97 = .ok (.dup2, 1) := by decide +kernel
theorem dX7_layWho_98 : decode cX7_layWho 98 = .ok (.iaload, 1) := by decide +kernel
theorem dX7_layWho_99 : decode cX7_layWho 99 = .ok (.iload 7, 2) := by decide +kernel
theorem dX7_layWho_101 : decode cX7_layWho 101 = .ok (.iconst 2, 1) := by decide +kernel
theorem dX7_layWho_102 : decode cX7_layWho 102 = .ok (.irem, 1) := by decide +kernel
theorem dX7_layWho_103 : decode cX7_layWho 103 = .ok (.ifCond .ne 10, 3) := by decide +kernel
theorem dX7_layWho_106 : decode cX7_layWho 106 = .ok (.aload_n 0, 1) := by decide +kernel
theorem dX7_layWho_107 : decode cX7_layWho 107 = .ok (.getfield 26, 3) := by decide +kernel
theorem dX7_layWho_110 : decode cX7_layWho 110 = .ok (.goto 7, 3) := by decide +kernel
theorem dX7_layWho_113 : decode cX7_layWho 113 = .ok (.aload_n 0, 1) := by decide +kernel
theorem dX7_layWho_114 : decode cX7_layWho 114 = .ok (.getfield 29, 3) := by decide +kernel
theorem dX7_layWho_117 : decode cX7_layWho 117 = .ok (.iadd, 1) := by decide +kernel
theorem dX7_layWho_118 : decode cX7_layWho 118 = .ok (.iastore, 1) := by decide +kernel
theorem dX7_layWho_119 : decode cX7_layWho 119 = .ok (.iload 5, 2) := by decide +kernel
theorem dX7_layWho_121 : decode cX7_layWho 121 = .ok (.iconst 1, 1) := by decide +kernel
theorem dX7_layWho_122 : decode cX7_layWho 122 = .ok (.iload 7, 2) := by decide +kernel
theorem dX7_layWho_124 : decode cX7_layWho 124 = .ok (.iconst 2, 1) := by decide +kernel
theorem dX7_layWho_125 : decode cX7_layWho 125 = .ok (.idiv, 1) := by decide +kernel
theorem dX7_layWho_126 : decode cX7_layWho 126 = .ok (.ishl, 1) := by decide +kernel
theorem dX7_layWho_127 : decode cX7_layWho 127 = .ok (.ior, 1) := by decide +kernel
theorem dX7_layWho_128 : decode cX7_layWho 128 = .ok (.istore 5, 2) := by decide +kernel
theorem dX7_layWho_130 : decode cX7_layWho 130 = .ok (.iinc 6 1, 3) := by decide +kernel
theorem dX7_layWho_133 : decode cX7_layWho 133 = .ok (.goto (-72), 3) := by decide +kernel
theorem dX7_layWho_136 : decode cX7_layWho 136 = .ok (.aload_n 0, 1) := by decide +kernel
theorem dX7_layWho_137 : decode cX7_layWho 137 = .ok (.invokevirtual 146, 3) := by decide +kernel
theorem dX7_layWho_140 : decode cX7_layWho 140 = .ok (.aload_n 0, 1) := by decide +kernel
theorem dX7_layWho_141 : decode cX7_layWho 141 = .ok (.invokevirtual 204, 3) := by decide +kernel
theorem dX7_layWho_144 : decode cX7_layWho 144 = .ok (.ifCond .eq 75, 3) := by decide +kernel
theorem dX7_layWho_147 : decode cX7_layWho 147 = .ok (.iconst 0, 1) := by decide +kernel
theorem dX7_layWho_148 : decode cX7_layWho 148 = .ok (.istore 6, 2) := by decide +kernel
theorem dX7_layWho_150 : decode cX7_layWho 150 = .ok (.iload 6, 2) := by decide +kernel
theorem dX7_layWho_152 : decode cX7_layWho 152 = .ok (.aload_n 0, 1) := by decide +kernel
theorem dX7_layWho_153 : decode cX7_layWho 153 = .ok (.getfield 7, 3) := by decide +kernel
theorem dX7_layWho_156 : decode cX7_layWho 156 = .ok (.if_icmp .ge 31, 3) := by decide +kernel
theorem dX7_layWho_159 : decode cX7_layWho 159 = .ok (.aload_n 0, 1) := by decide +kernel
theorem dX7_layWho_160 : decode cX7_layWho 160 = .ok (.getfield 63, 3) := by decide +kernel
theorem dX7_layWho_163 : decode cX7_layWho 163 = .ok (.bipush 8, 2) := by decide +kernel
theorem dX7_layWho_165 : decode cX7_layWho 165 = .ok (.aload_n 0, 1) := by decide +kernel
theorem dX7_layWho_166 : decode cX7_layWho 166 = .ok (.getfield 195, 3) := by decide +kernel
theorem dX7_layWho_169 : decode cX7_layWho 169 = .ok (.imul, 1) := by decide +kernel
theorem dX7_layWho_170 : decode cX7_layWho 170 = .ok (.iload 6, 2) := by decide +kernel
theorem dX7_layWho_172 : decode cX7_layWho 172 = .ok (.iadd, 1) := by decide +kernel
theorem dX7_layWho_173 : decode cX7_layWho 173 = .ok (.aload_n 0, 1) := by decide +kernel
theorem dX7_layWho_174 : decode cX7_layWho 174 = .ok (.getfield 44, 3) := by decide +kernel
theorem dX7_layWho_177 : decode cX7_layWho 177 = .ok (.iload 6, 2) := by decide +kernel
theorem dX7_layWho_179 : decode cX7_layWho 179 = .ok (.iaload, 1) := by decide +kernel
theorem dX7_layWho_180 : decode cX7_layWho 180 = .ok (.iastore, 1) := by decide +kernel
theorem dX7_layWho_181 : decode cX7_layWho 181 = .ok (.iinc 6 1, 3) := by decide +kernel
theorem dX7_layWho_184 : decode cX7_layWho 184 = .ok (.goto (-34), 3) := by decide +kernel
theorem dX7_layWho_187 : decode cX7_layWho 187 = .ok (.aload_n 0, 1) := by decide +kernel
theorem dX7_layWho_188 : decode cX7_layWho 188 = .ok (.dup, 1) := by decide +kernel
theorem dX7_layWho_189 : decode cX7_layWho 189 = .ok (.getfield 195, 3) := by decide +kernel
theorem dX7_layWho_192 : decode cX7_layWho 192 = .ok (.iconst 1, 1) := by decide +kernel
theorem dX7_layWho_193 : decode cX7_layWho 193 = .ok (.iadd, 1) := by decide +kernel
theorem dX7_layWho_194 : decode cX7_layWho 194 = .ok (.putfield 195, 3) := by decide +kernel
theorem dX7_layWho_197 : decode cX7_layWho 197 = .ok (.aload_n 0, 1) := by decide +kernel
theorem dX7_layWho_198 : decode cX7_layWho 198 = .ok (.dup, 1) := by decide +kernel
theorem dX7_layWho_199 : decode cX7_layWho 199 = .ok (.getfield 198, 3) := by decide +kernel
theorem dX7_layWho_202 : decode cX7_layWho 202 = .ok (.iload 5, 2) := by decide +kernel
theorem dX7_layWho_204 : decode cX7_layWho 204 = .ok (.ior, 1) := by decide +kernel
theorem dX7_layWho_205 : decode cX7_layWho 205 = .ok (.putfield 198, 3) := by decide +kernel
theorem dX7_layWho_208 : decode cX7_layWho 208 = .ok (.aload_n 0, 1) := by decide +kernel
theorem dX7_layWho_209 : decode cX7_layWho 209 = .ok (.dup, 1) := by decide +kernel
theorem dX7_layWho_210 : decode cX7_layWho 210 = .ok (.getfield 201, 3) := by decide +kernel
theorem dX7_layWho_213 : decode cX7_layWho 213 = .ok (.iload 5, 2) := by decide +kernel
theorem dX7_layWho_215 : decode cX7_layWho 215 = .ok (.iand, 1) := by decide +kernel
theorem dX7_layWho_216 : decode cX7_layWho 216 = .ok (.putfield 201, 3) := by decide +kernel
theorem dX7_layWho_219 : decode cX7_layWho 219 = .ok (.iinc 3 1, 3) := by decide +kernel
theorem dX7_layWho_222 : decode cX7_layWho 222 = .ok (.goto (-179), 3) := by decide +kernel
theorem dX7_layWho_225 : decode cX7_layWho 225 = .ok (.return_, 1) := by decide +kernel
theorem dX7_less_0 : decode cX7_less 0 = .ok (.iload_n 0, 1) := by decide +kernel
theorem dX7_less_1 : decode cX7_less 1 = .ok (.iload_n 1, 1) := by decide +kernel
theorem dX7_less_2 : decode cX7_less 2 = .ok (.if_icmp .le 9, 3) := by decide +kernel
theorem dX7_less_5 : decode cX7_less 5 = .ok (.iload_n 0, 1) := by decide +kernel
theorem dX7_less_6 : decode cX7_less 6 = .ok (.iload_n 1, 1) := by decide +kernel
theorem dX7_less_7 : decode cX7_less 7 = .ok (.isub, 1) := by decide +kernel
theorem dX7_less_8 : decode cX7_less 8 = .ok (.goto 4, 3) := by decide +kernel
theorem dX7_less_11 : decode cX7_less 11 = .ok (.iconst 0, 1) := by decide +kernel
theorem dX7_less_12 : decode cX7_less 12 = .ok (.ireturn, 1) := by decide +kernel
theorem dX7_next_0 : decode cX7_next 0 = .ok (.iload_n 1, 1) := by decide +kernel
theorem dX7_next_1 : decode cX7_next 1 = .ok (.iconst 0, 1) := by decide +kernel
theorem dX7_next_2 : decode cX7_next 2 = .ok (.iconst 3, 1) := by decide +kernel
theorem dX7_next_3 : decode cX7_next 3 = .ok (.invokestatic 91, 3) := by decide +kernel
theorem dX7_next_6 : decode cX7_next 6 = .ok (.ifCond .eq 12, 3) := by decide +kernel
theorem dX7_next_9 : decode cX7_next 9 = .ok (.iload_n 2, 1) := by decide +kernel
theorem dX7_next_10 : decode cX7_next 10 = .ok (.iconst 0, 1) := by decide +kernel
theorem dX7_next_11 : decode cX7_next 11 = .ok (.iconst 1, 1) := by decide +kernel
theorem dX7_next_12 : decode cX7_next 12 = .ok (.invokestatic 91, 3) := by decide +kernel
theorem dX7_next_15 : decode cX7_next 15 = .ok (.ifCond .ne 6, 3) := by decide +kernel
theorem dX7_next_18 : decode cX7_next 18 = .ok (.bipush (-2), 2) := by decide +kernel
theorem dX7_next_20 : decode cX7_next 20 = .ok (.ireturn, 1) := by decide +kernel
theorem dX7_next_21 : decode cX7_next 21 = .ok (.aload_n 0, 1) := by decide +kernel
theorem dX7_next_22 : decode cX7_next 22 = .ok (.iload_n 1, 1) := by decide +kernel
theorem dX7_next_23 : decode cX7_next 23 = .ok (.invokevirtual 207, 3) := by decide +kernel
theorem dX7_next_26 : decode cX7_next 26 = .ok (.ldc 181, 2) := by decide +kernel
theorem dX7_next_28 : decode cX7_next 28 = .ok (.istore_n 3, 1) := by decide +kernel
theorem dX7_next_29 : decode cX7_next 29 = .ok (.bipush (-6), 2) := by decide +kernel
theorem dX7_next_31 : decode cX7_next 31 = .ok (.istore 4, 2) := by decide +kernel
theorem dX7_next_33 : decode cX7_next 33 = .ok (.iconst 0, 1) := by decide +kernel
theorem dX7_next_34 : decode cX7_next 34 = .ok (.istore 5, 2) := by decide +kernel
theorem dX7_next_36 : decode cX7_next 36 = .ok (.iload 5, 2) := by decide +kernel
theorem dX7_next_38 : decode cX7_next 38 = .ok (.aload_n 0, 1) := by decide +kernel
theorem dX7_next_39 : decode cX7_next 39 = .ok (.getfield 7, 3) := by decide +kernel
theorem dX7_next_42 : decode cX7_next 42 = .ok (.if_icmp .ge 162, 3) := by decide +kernel
theorem dX7_next_45 : decode cX7_next 45 = .ok (.iconst 0, 1) := by decide +kernel
theorem dX7_next_46 : decode cX7_next 46 = .ok (.istore 6, 2) := by decide +kernel
theorem dX7_next_48 : decode cX7_next 48 = .ok (.iload 6, 2) := by decide +kernel
theorem dX7_next_50 : decode cX7_next 50 = .ok (.sipush 1100, 3) := by decide +kernel
theorem dX7_next_53 : decode cX7_next 53 = .ok (.if_icmp .ge 17, 3) := by decide +kernel
theorem dX7_next_56 : decode cX7_next 56 = .ok (.aload_n 0, 1) := by decide +kernel
theorem dX7_next_57 : decode cX7_next 57 = .ok (.getfield 66, 3) := by decide +kernel
theorem dX7_next_60 : decode cX7_next 60 = .ok (.iload 6, 2) := by decide +kernel
theorem dX7_next_62 : decode cX7_next 62 = .ok (.iconst 0, 1) := by decide +kernel
theorem dX7_next_63 : decode cX7_next 63 = .ok (.iastore, 1) := by decide +kernel
theorem dX7_next_64 : decode cX7_next 64 = .ok (.iinc 6 1, 3) := by decide +kernel
theorem dX7_next_67 : decode cX7_next 67 = .ok (.goto (-19), 3) := by decide +kernel
theorem dX7_next_70 : decode cX7_next 70 = .ok (.iconst 0, 1) := by decide +kernel
theorem dX7_next_71 : decode cX7_next 71 = .ok (.istore 6, 2) := by decide +kernel
theorem dX7_next_73 : decode cX7_next 73 = .ok (.iconst 0, 1) := by decide +kernel
theorem dX7_next_74 : decode cX7_next 74 = .ok (.istore 7, 2) := by decide +kernel
theorem dX7_next_76 : decode cX7_next 76 = .ok (.iload 7, 2) := by decide +kernel
theorem dX7_next_78 : decode cX7_next 78 = .ok (.aload_n 0, 1) := by decide +kernel
theorem dX7_next_79 : decode cX7_next 79 = .ok (.getfield 195, 3) := by decide +kernel
theorem dX7_next_82 : decode cX7_next 82 = .ok (.if_icmp .ge 61, 3) := by decide +kernel
theorem dX7_next_85 : decode cX7_next 85 = .ok (.aload_n 0, 1) := by decide +kernel
theorem dX7_next_86 : decode cX7_next 86 = .ok (.getfield 63, 3) := by decide +kernel
theorem dX7_next_89 : decode cX7_next 89 = .ok (.bipush 8, 2) := by decide +kernel
theorem dX7_next_91 : decode cX7_next 91 = .ok (.iload 7, 2) := by decide +kernel
theorem dX7_next_93 : decode cX7_next 93 = .ok (.imul, 1) := by decide +kernel
theorem dX7_next_94 : decode cX7_next 94 = .ok (.iload 5, 2) := by decide +kernel
theorem dX7_next_96 : decode cX7_next 96 = .ok (.iadd, 1) := by decide +kernel
theorem dX7_next_97 : decode cX7_next 97 = .ok (.iaload, 1) := by decide +kernel
theorem dX7_next_98 : decode cX7_next 98 = .ok (.istore 8, 2) := by decide +kernel
theorem dX7_next_100 : decode cX7_next 100 = .ok (.aload_n 0, 1) := by decide +kernel
theorem dX7_next_101 : decode cX7_next 101 = .ok (.getfield 66, 3) := by decide +kernel
theorem dX7_next_104 : decode cX7_next 104 = .ok (.iload 8, 2) := by decide +kernel
theorem dX7_next_106 : decode cX7_next 106 = .ok (.dup2, 1) := by decide +kernel
theorem dX7_next_107 : decode cX7_next 107 = .ok (.iaload, 1) := by decide +kernel
theorem dX7_next_108 : decode cX7_next 108 = .ok (.iconst 1, 1) := by decide +kernel
theorem dX7_next_109 : decode cX7_next 109 = .ok (.iadd, 1) := by decide +kernel
theorem dX7_next_110 : decode cX7_next 110 = .ok (.iastore, 1) := by decide +kernel
theorem dX7_next_111 : decode cX7_next 111 = .ok (.aload_n 0, 1) := by decide +kernel
theorem dX7_next_112 : decode cX7_next 112 = .ok (.getfield 66, 3) := by decide +kernel
theorem dX7_next_115 : decode cX7_next 115 = .ok (.iload 8, 2) := by decide +kernel
theorem dX7_next_117 : decode cX7_next 117 = .ok (.iaload, 1) := by decide +kernel
theorem dX7_next_118 : decode cX7_next 118 = .ok (.iload 6, 2) := by decide +kernel
theorem dX7_next_120 : decode cX7_next 120 = .ok (.if_icmp .le 13, 3) := by decide +kernel
theorem dX7_next_123 : decode cX7_next 123 = .ok (.aload_n 0, 1) := by decide +kernel
theorem dX7_next_124 : decode cX7_next 124 = .ok (.getfield 66, 3) := by decide +kernel
theorem dX7_next_127 : decode cX7_next 127 = .ok (.iload 8, 2) := by decide +kernel
theorem dX7_next_129 : decode cX7_next 129 = .ok (.iaload, 1) := by decide +kernel
theorem dX7_next_130 : decode cX7_next 130 = .ok (.goto 5, 3) := by decide +kernel
theorem dX7_next_133 : decode cX7_next 133 = .ok (.iload 6, 2) := by decide +kernel
theorem dX7_next_135 : decode cX7_next 135 = .ok (.istore 6, 2) := by decide +kernel
theorem dX7_next_137 : decode cX7_next 137 = .ok (.iinc 7 1, 3) := by decide +kernel
theorem dX7_next_140 : decode cX7_next 140 = .ok (.goto (-64), 3) := by decide +kernel
theorem dX7_next_143 : decode cX7_next 143 = .ok (.aload_n 0, 1) := by decide +kernel
theorem dX7_next_144 : decode cX7_next 144 = .ok (.getfield 195, 3) := by decide +kernel
theorem dX7_next_147 : decode cX7_next 147 = .ok (.ifCond .le 22, 3) := by decide +kernel
theorem dX7_next_150 : decode cX7_next 150 = .ok (.aload_n 0, 1) := by decide +kernel
theorem dX7_next_151 : decode cX7_next 151 = .ok (.iload 5, 2) := by decide +kernel
theorem dX7_next_153 : decode cX7_next 153 = .ok (.invokevirtual 210, 3) := by decide +kernel
theorem dX7_next_156 : decode cX7_next 156 = .ok (.ifCond .ne 13, 3) := by decide +kernel
theorem dX7_next_159 : decode cX7_next 159 = .ok (.iload 6, 2) := by decide +kernel
theorem dX7_next_161 : decode cX7_next 161 = .ok (.iload_n 3, 1) := by decide +kernel
theorem dX7_next_162 : decode cX7_next 162 = .ok (.if_icmp .ge 7, 3) := by decide +kernel
theorem dX7_next_165 : decode cX7_next 165 = .ok (.iconst 1, 1) := by decide +kernel
theorem dX7_next_166 : decode cX7_next 166 = .ok (.goto 4, 3) := by decide +kernel
theorem dX7_next_169 : decode cX7_next 169 = .ok (.iconst 0, 1) := by decide +kernel
theorem dX7_next_170 : decode cX7_next 170 = .ok (.istore 7, 2) := by decide +kernel
theorem dX7_next_172 : decode cX7_next 172 = .ok (.iload 7, 2) := by decide +kernel
theorem dX7_next_174 : decode cX7_next 174 = .ok (.ifCond .eq 8, 3) := by decide +kernel
theorem dX7_next_177 : decode cX7_next 177 = .ok (.iload 5, 2) := by decide +kernel
theorem dX7_next_179 : decode cX7_next 179 = .ok (.goto 5, 3) := by decide +kernel
theorem dX7_next_182 : decode cX7_next 182 = .ok (.iload 4, 2) := by decide +kernel
theorem dX7_next_184 : decode cX7_next 184 = .ok (.istore 4, 2) := by decide +kernel
theorem dX7_next_186 : decode cX7_next 186 = .ok (.iload 7, 2) := by decide +kernel
theorem dX7_next_188 : decode cX7_next 188 = .ok (.ifCond .eq 8, 3) := by decide +kernel
theorem dX7_next_191 : decode cX7_next 191 = .ok (.iload 6, 2) := by decide +kernel
theorem dX7_next_193 : decode cX7_next 193 = .ok (.goto 4, 3) := by decide +kernel
theorem dX7_next_196 : decode cX7_next 196 = .ok (.iload_n 3, 1) := by decide +kernel
theorem dX7_next_197 : decode cX7_next 197 = .ok (.istore_n 3, 1) := by decide +kernel
theorem dX7_next_198 : decode cX7_next 198 = .ok (.iinc 5 1, 3) := by decide +kernel
theorem dX7_next_201 : decode cX7_next 201 = .ok (.goto (-165), 3) := by decide +kernel
theorem dX7_next_204 : decode cX7_next 204 = .ok (.iload 4, 2) := by decide +kernel
theorem dX7_next_206 : decode cX7_next 206 = .ok (.ifCond .lt 7, 3) := by decide +kernel
theorem dX7_next_209 : decode cX7_next 209 = .ok (.iload_n 2, 1) := by decide +kernel
theorem dX7_next_210 : decode cX7_next 210 = .ok (.ifCond .ne 8, 3) := by decide +kernel
theorem dX7_next_213 : decode cX7_next 213 = .ok (.iload 4, 2) := by decide +kernel
theorem dX7_next_215 : decode cX7_next 215 = .ok (.goto 4, 3) := by decide +kernel
theorem dX7_next_218 : decode cX7_next 218 = .ok (.iload_n 3, 1) := by decide +kernel
theorem dX7_next_219 : decode cX7_next 219 = .ok (.ireturn, 1) := by decide +kernel
theorem dX7_night_0 : decode cX7_night 0 = .ok (.iconst 0, 1) := by decide +kernel
theorem dX7_night_1 : decode cX7_night 1 = .ok (.istore_n 1, 1) := by decide +kernel
theorem dX7_night_2 : decode cX7_night 2 = .ok (.iload_n 1, 1) := by decide +kernel
theorem dX7_night_3 : decode cX7_night 3 = .ok (.aload_n 0, 1) := by decide +kernel
theorem dX7_night_4 : decode cX7_night 4 = .ok (.getfield 7, 3) := by decide +kernel
theorem dX7_night_7 : decode cX7_night 7 = .ok (.if_icmp .ge 21, 3) := by decide +kernel
theorem dX7_night_10 : decode cX7_night 10 = .ok (.aload_n 0, 1) := by decide +kernel
theorem dX7_night_11 : decode cX7_night 11 = .ok (.getfield 47, 3) := by decide +kernel
theorem dX7_night_14 : decode cX7_night 14 = .ok (.iload_n 1, 1) := by decide +kernel
theorem dX7_night_15 : decode cX7_night 15 = .ok (.aload_n 0, 1) := by decide +kernel
theorem dX7_night_16 : decode cX7_night 16 = .ok (.getfield 44, 3) := by decide +kernel
theorem dX7_night_19 : decode cX7_night 19 = .ok (.iload_n 1, 1) := by decide +kernel
theorem dX7_night_20 : decode cX7_night 20 = .ok (.iaload, 1) := by decide +kernel
theorem dX7_night_21 : decode cX7_night 21 = .ok (.iastore, 1) := by decide +kernel
theorem dX7_night_22 : decode cX7_night 22 = .ok (.iinc 1 1, 3) := by decide +kernel
theorem dX7_night_25 : decode cX7_night 25 = .ok (.goto (-23), 3) := by decide +kernel
theorem dX7_night_28 : decode cX7_night 28 = .ok (.iconst 0, 1) := by decide +kernel
theorem dX7_night_29 : decode cX7_night 29 = .ok (.istore_n 1, 1) := by decide +kernel
theorem dX7_night_30 : decode cX7_night 30 = .ok (.iload_n 1, 1) := by decide +kernel
theorem dX7_night_31 : decode cX7_night 31 = .ok (.iconst 1, 1) := by decide +kernel
theorem dX7_night_32 : decode cX7_night 32 = .ok (.iadd, 1) := by decide +kernel
theorem dX7_night_33 : decode cX7_night 33 = .ok (.aload_n 0, 1) := by decide +kernel
theorem dX7_night_34 : decode cX7_night 34 = .ok (.getfield 7, 3) := by decide +kernel
theorem dX7_night_37 : decode cX7_night 37 = .ok (.if_icmp .ge 50, 3) := by decide +kernel
theorem dX7_night_40 : decode cX7_night 40 = .ok (.aload_n 0, 1) := by decide +kernel
theorem dX7_night_41 : decode cX7_night 41 = .ok (.getfield 44, 3) := by decide +kernel
theorem dX7_night_44 : decode cX7_night 44 = .ok (.iload_n 1, 1) := by decide +kernel
theorem dX7_night_45 : decode cX7_night 45 = .ok (.iaload, 1) := by decide +kernel
theorem dX7_night_46 : decode cX7_night 46 = .ok (.aload_n 0, 1) := by decide +kernel
theorem dX7_night_47 : decode cX7_night 47 = .ok (.getfield 44, 3) := by decide +kernel
theorem dX7_night_50 : decode cX7_night 50 = .ok (.iload_n 1, 1) := by decide +kernel
theorem dX7_night_51 : decode cX7_night 51 = .ok (.iconst 1, 1) := by decide +kernel
theorem dX7_night_52 : decode cX7_night 52 = .ok (.iadd, 1) := by decide +kernel
theorem dX7_night_53 : decode cX7_night 53 = .ok (.iaload, 1) := by decide +kernel
theorem dX7_night_54 : decode cX7_night 54 = .ok (.isub, 1) := by decide +kernel
theorem dX7_night_55 : decode cX7_night 55 = .ok (.iconst 2, 1) := by decide +kernel
theorem dX7_night_56 : decode cX7_night 56 = .ok (.if_icmp .lt 25, 3) := by decide +kernel
theorem dX7_night_59 : decode cX7_night 59 = .ok (.aload_n 0, 1) := by decide +kernel
theorem dX7_night_60 : decode cX7_night 60 = .ok (.getfield 47, 3) := by decide +kernel
theorem dX7_night_63 : decode cX7_night 63 = .ok (.iload_n 1, 1) := by decide +kernel
theorem dX7_night_64 : decode cX7_night 64 = .ok (.dup2, 1) := by decide +kernel
theorem dX7_night_65 : decode cX7_night 65 = .ok (.iaload, 1) := by decide +kernel
theorem dX7_night_66 : decode cX7_night 66 = .ok (.iconst 1, 1) := by decide +kernel
theorem dX7_night_67 : decode cX7_night 67 = .ok (.isub, 1) := by decide +kernel
theorem dX7_night_68 : decode cX7_night 68 = .ok (.iastore, 1) := by decide +kernel
theorem dX7_night_69 : decode cX7_night 69 = .ok (.aload_n 0, 1) := by decide +kernel
theorem dX7_night_70 : decode cX7_night 70 = .ok (.getfield 47, 3) := by decide +kernel
theorem dX7_night_73 : decode cX7_night 73 = .ok (.iload_n 1, 1) := by decide +kernel
theorem dX7_night_74 : decode cX7_night 74 = .ok (.iconst 1, 1) := by decide +kernel
theorem dX7_night_75 : decode cX7_night 75 = .ok (.iadd, 1) := by decide +kernel
theorem dX7_night_76 : decode cX7_night 76 = .ok (.dup2, 1) := by decide +kernel
theorem dX7_night_77 : decode cX7_night 77 = .ok (.iaload, 1) := by decide +kernel
theorem dX7_night_78 : decode cX7_night 78 = .ok (.iconst 1, 1) := by decide +kernel
theorem dX7_night_79 : decode cX7_night 79 = .ok (.iadd, 1) := by decide +kernel
theorem dX7_night_80 : decode cX7_night 80 = .ok (.iastore, 1) := by decide +kernel
theorem dX7_night_81 : decode cX7_night 81 = .ok (.iinc 1 1, 3) := by decide +kernel
theorem dX7_night_84 : decode cX7_night 84 = .ok (.goto (-54), 3) := by decide +kernel
theorem dX7_night_87 : decode cX7_night 87 = .ok (.iconst 0, 1) := by decide +kernel
theorem dX7_night_88 : decode cX7_night 88 = .ok (.istore_n 1, 1) := by decide +kernel
theorem dX7_night_89 : decode cX7_night 89 = .ok (.iload_n 1, 1) := by decide +kernel
theorem dX7_night_90 : decode cX7_night 90 = .ok (.aload_n 0, 1) := by decide +kernel
theorem dX7_night_91 : decode cX7_night 91 = .ok (.getfield 7, 3) := by decide +kernel
theorem dX7_night_94 : decode cX7_night 94 = .ok (.if_icmp .ge 21, 3) := by decide +kernel
theorem dX7_night_97 : decode cX7_night 97 = .ok (.aload_n 0, 1) := by decide +kernel
theorem dX7_night_98 : decode cX7_night 98 = .ok (.getfield 44, 3) := by decide +kernel
theorem dX7_night_101 : decode cX7_night 101 = .ok (.iload_n 1, 1) := by decide +kernel
theorem dX7_night_102 : decode cX7_night 102 = .ok (.aload_n 0, 1) := by decide +kernel
theorem dX7_night_103 : decode cX7_night 103 = .ok (.getfield 47, 3) := by decide +kernel
theorem dX7_night_106 : decode cX7_night 106 = .ok (.iload_n 1, 1) := by decide +kernel
theorem dX7_night_107 : decode cX7_night 107 = .ok (.iaload, 1) := by decide +kernel
theorem dX7_night_108 : decode cX7_night 108 = .ok (.iastore, 1) := by decide +kernel
theorem dX7_night_109 : decode cX7_night 109 = .ok (.iinc 1 1, 3) := by decide +kernel
theorem dX7_night_112 : decode cX7_night 112 = .ok (.goto (-23), 3) := by decide +kernel
theorem dX7_night_115 : decode cX7_night 115 = .ok (.return_, 1) := by decide +kernel
theorem dX7_others_0 : decode cX7_others 0 = .ok (.iconst 0, 1) := by decide +kernel
theorem dX7_others_1 : decode cX7_others 1 = .ok (.istore_n 3, 1) := by decide +kernel
theorem dX7_others_2 : decode cX7_others 2 = .ok (.iconst 0, 1) := by decide +kernel
theorem dX7_others_3 : decode cX7_others 3 = .ok (.istore 4, 2) := by decide +kernel
theorem dX7_others_5 : decode cX7_others 5 = .ok (.iload 4, 2) := by decide +kernel
theorem dX7_others_7 : decode cX7_others 7 = .ok (.aload_n 0, 1) := by decide +kernel
theorem dX7_others_8 : decode cX7_others 8 = .ok (.getfield 7, 3) := by decide +kernel
theorem dX7_others_11 : decode cX7_others 11 = .ok (.if_icmp .ge 34, 3) := by decide +kernel
theorem dX7_others_14 : decode cX7_others 14 = .ok (.iload_n 3, 1) := by decide +kernel
theorem dX7_others_15 : decode cX7_others 15 = .ok (.iload 4, 2) := by decide +kernel
theorem dX7_others_17 : decode cX7_others 17 = .ok (.iload_n 1, 1) := by decide +kernel
theorem dX7_others_18 : decode cX7_others 18 = .ok (.if_icmp .eq 18, 3) := by decide +kernel
theorem dX7_others_21 : decode cX7_others 21 = .ok (.aload_n 0, 1) := by decide +kernel
theorem dX7_others_22 : decode cX7_others 22 = .ok (.getfield 69, 3) := by decide +kernel
theorem dX7_others_25 : decode cX7_others 25 = .ok (.iload 4, 2) := by decide +kernel
theorem dX7_others_27 : decode cX7_others 27 = .ok (.iaload, 1) := by decide +kernel
theorem dX7_others_28 : decode cX7_others 28 = .ok (.iload_n 2, 1) := by decide +kernel
theorem dX7_others_29 : decode cX7_others 29 = .ok (.if_icmp .ne 7, 3) := by decide +kernel
theorem dX7_others_32 : decode cX7_others 32 = .ok (.iconst 1, 1) := by decide +kernel
theorem dX7_others_33 : decode cX7_others 33 = .ok (.goto 4, 3) := by decide +kernel
theorem dX7_others_36 : decode cX7_others 36 = .ok (.iconst 0, 1) := by decide +kernel
theorem dX7_others_37 : decode cX7_others 37 = .ok (.iadd, 1) := by decide +kernel
theorem dX7_others_38 : decode cX7_others 38 = .ok (.istore_n 3, 1) := by decide +kernel
theorem dX7_others_39 : decode cX7_others 39 = .ok (.iinc 4 1, 3) := by decide +kernel
theorem dX7_others_42 : decode cX7_others 42 = .ok (.goto (-37), 3) := by decide +kernel
theorem dX7_others_45 : decode cX7_others 45 = .ok (.iload_n 3, 1) := by decide +kernel
theorem dX7_others_46 : decode cX7_others 46 = .ok (.ireturn, 1) := by decide +kernel
theorem dX7_recognised_0 : decode cX7_recognised 0 = .ok (.aload_n 0, 1) := by decide +kernel
theorem dX7_recognised_1 : decode cX7_recognised 1 = .ok (.iload_n 1, 1) := by decide +kernel
theorem dX7_recognised_2 : decode cX7_recognised 2 = .ok (.invokevirtual 95, 3) := by decide +kernel
theorem dX7_recognised_5 : decode cX7_recognised 5 = .ok (.ifCond .ne 5, 3) := by decide +kernel
theorem dX7_recognised_8 : decode cX7_recognised 8 = .ok (.iconst (-1), 1) := by decide +kernel
theorem dX7_recognised_9 : decode cX7_recognised 9 = .ok (.ireturn, 1) := by decide +kernel
theorem dX7_recognised_10 : decode cX7_recognised 10 = .ok (.bipush (-6), 2) := by decide +kernel
theorem dX7_recognised_12 : decode cX7_recognised 12 = .ok (.istore_n 2, 1) := by decide +kernel
theorem dX7_recognised_13 : decode cX7_recognised 13 = .ok (.iconst 0, 1) := by decide +kernel
theorem dX7_recognised_14 : decode cX7_recognised 14 = .ok (.istore_n 3, 1) := by decide +kernel
theorem dX7_recognised_15 : decode cX7_recognised 15 = .ok (.iconst 0, 1) := by decide +kernel
theorem dX7_recognised_16 : decode cX7_recognised 16 = .ok (.istore 4, 2) := by decide +kernel
theorem dX7_recognised_18 : decode cX7_recognised 18 = .ok (.iload 4, 2) := by decide +kernel
theorem dX7_recognised_20 : decode cX7_recognised 20 = .ok (.aload_n 0, 1) := by decide +kernel
theorem dX7_recognised_21 : decode cX7_recognised 21 = .ok (.getfield 7, 3) := by decide +kernel
theorem dX7_recognised_24 : decode cX7_recognised 24 = .ok (.if_icmp .ge 65, 3) := by decide +kernel
theorem dX7_recognised_27 : decode cX7_recognised 27 = .ok (.aload_n 0, 1) := by decide +kernel
theorem dX7_recognised_28 : decode cX7_recognised 28 = .ok (.getfield 23, 3) := by decide +kernel
theorem dX7_recognised_31 : decode cX7_recognised 31 = .ok (.bipush 8, 2) := by decide +kernel
theorem dX7_recognised_33 : decode cX7_recognised 33 = .ok (.iload_n 1, 1) := by decide +kernel
theorem dX7_recognised_34 : decode cX7_recognised 34 = .ok (.imul, 1) := by decide +kernel
theorem dX7_recognised_35 : decode cX7_recognised 35 = .ok (.iload 4, 2) := by decide +kernel
theorem dX7_recognised_37 : decode cX7_recognised 37 = .ok (.iadd, 1) := by decide +kernel
theorem dX7_recognised_38 : decode cX7_recognised 38 = .ok (.iaload, 1) := by decide +kernel
theorem dX7_recognised_39 : decode cX7_recognised 39 = .ok (.iload_n 3, 1) := by decide +kernel
theorem dX7_recognised_40 : decode cX7_recognised 40 = .ok (.if_icmp .le 8, 3) := by decide +kernel
theorem dX7_recognised_43 : decode cX7_recognised 43 = .ok (.iload 4, 2) := by decide +kernel
theorem dX7_recognised_45 : decode cX7_recognised 45 = .ok (.goto 4, 3) := by decide +kernel
theorem dX7_recognised_48 : decode cX7_recognised 48 = .ok (.iload_n 2, 1) := by decide +kernel
theorem dX7_recognised_49 : decode cX7_recognised 49 = .ok (.istore_n 2, 1) := by decide +kernel
theorem dX7_recognised_50 : decode cX7_recognised 50 = .ok (.aload_n 0, 1) := by decide +kernel
theorem dX7_recognised_51 : decode cX7_recognised 51 = .ok (.getfield 23, 3) := by decide +kernel
theorem dX7_recognised_54 : decode cX7_recognised 54 = .ok (.bipush 8, 2) := by decide +kernel
theorem dX7_recognised_56 : decode cX7_recognised 56 = .ok (.iload_n 1, 1) := by decide +kernel
theorem dX7_recognised_57 : decode cX7_recognised 57 = .ok (.imul, 1) := by decide +kernel
theorem dX7_recognised_58 : decode cX7_recognised 58 = .ok (.iload 4, 2) := by decide +kernel
theorem dX7_recognised_60 : decode cX7_recognised 60 = .ok (.iadd, 1) := by decide +kernel
theorem dX7_recognised_61 : decode cX7_recognised 61 = .ok (.iaload, 1) := by decide +kernel
theorem dX7_recognised_62 : decode cX7_recognised 62 = .ok (.iload_n 3, 1) := by decide +kernel
theorem dX7_recognised_63 : decode cX7_recognised 63 = .ok (.if_icmp .le 18, 3) := by decide +kernel
theorem dX7_recognised_66 : decode cX7_recognised 66 = .ok (.aload_n 0, 1) := by decide +kernel
theorem dX7_recognised_67 : decode cX7_recognised 67 = .ok (.getfield 23, 3) := by decide +kernel
theorem dX7_recognised_70 : decode cX7_recognised 70 = .ok (.bipush 8, 2) := by decide +kernel
theorem dX7_recognised_72 : decode cX7_recognised 72 = .ok (.iload_n 1, 1) := by decide +kernel
theorem dX7_recognised_73 : decode cX7_recognised 73 = .ok (.imul, 1) := by decide +kernel
theorem dX7_recognised_74 : decode cX7_recognised 74 = .ok (.iload 4, 2) := by decide +kernel
theorem dX7_recognised_76 : decode cX7_recognised 76 = .ok (.iadd, 1) := by decide +kernel
theorem dX7_recognised_77 : decode cX7_recognised 77 = .ok (.iaload, 1) := by decide +kernel
theorem dX7_recognised_78 : decode cX7_recognised 78 = .ok (.goto 4, 3) := by decide +kernel
theorem dX7_recognised_81 : decode cX7_recognised 81 = .ok (.iload_n 3, 1) := by decide +kernel
theorem dX7_recognised_82 : decode cX7_recognised 82 = .ok (.istore_n 3, 1) := by decide +kernel
theorem dX7_recognised_83 : decode cX7_recognised 83 = .ok (.iinc 4 1, 3) := by decide +kernel
theorem dX7_recognised_86 : decode cX7_recognised 86 = .ok (.goto (-68), 3) := by decide +kernel
theorem dX7_recognised_89 : decode cX7_recognised 89 = .ok (.iload_n 2, 1) := by decide +kernel
theorem dX7_recognised_90 : decode cX7_recognised 90 = .ok (.ireturn, 1) := by decide +kernel
theorem dX7_restore_0 : decode cX7_restore 0 = .ok (.iload_n 1, 1) := by decide +kernel
theorem dX7_restore_1 : decode cX7_restore 1 = .ok (.iconst 0, 1) := by decide +kernel
theorem dX7_restore_2 : decode cX7_restore 2 = .ok (.iconst 1, 1) := by decide +kernel
theorem dX7_restore_3 : decode cX7_restore 3 = .ok (.invokestatic 91, 3) := by decide +kernel
theorem dX7_restore_6 : decode cX7_restore 6 = .ok (.ifCond .ne 6, 3) := by decide +kernel
theorem dX7_restore_9 : decode cX7_restore 9 = .ok (.bipush (-2), 2) := by decide +kernel
theorem dX7_restore_11 : decode cX7_restore 11 = .ok (.ireturn, 1) := by decide +kernel
theorem dX7_restore_12 : decode cX7_restore 12 = .ok (.aload_n 0, 1) := by decide +kernel
theorem dX7_restore_13 : decode cX7_restore 13 = .ok (.getfield 75, 3) := by decide +kernel
theorem dX7_restore_16 : decode cX7_restore 16 = .ok (.iload_n 1, 1) := by decide +kernel
theorem dX7_restore_17 : decode cX7_restore 17 = .ok (.baload, 1) := by decide +kernel
theorem dX7_restore_18 : decode cX7_restore 18 = .ok (.ifCond .ne 6, 3) := by decide +kernel
theorem dX7_restore_21 : decode cX7_restore 21 = .ok (.bipush (-3), 2) := by decide +kernel
theorem dX7_restore_23 : decode cX7_restore 23 = .ok (.ireturn, 1) := by decide +kernel
theorem dX7_restore_24 : decode cX7_restore 24 = .ok (.sipush 130, 3) := by decide +kernel
theorem dX7_restore_27 : decode cX7_restore 27 = .ok (.iload_n 1, 1) := by decide +kernel
theorem dX7_restore_28 : decode cX7_restore 28 = .ok (.imul, 1) := by decide +kernel
theorem dX7_restore_29 : decode cX7_restore 29 = .ok (.istore_n 2, 1) := by decide +kernel
theorem dX7_restore_30 : decode cX7_restore 30 = .ok (.iconst 0, 1) := by decide +kernel
theorem dX7_restore_31 : decode cX7_restore 31 = .ok (.istore_n 3, 1) := by decide +kernel
theorem dX7_restore_32 : decode cX7_restore 32 = .ok (.iload_n 3, 1) := by decide +kernel
theorem dX7_restore_33 : decode cX7_restore 33 = .ok (.bipush 8, 2) := by decide +kernel
theorem dX7_restore_35 : decode cX7_restore 35 = .ok (.if_icmp .ge 57, 3) := by decide +kernel
theorem dX7_restore_38 : decode cX7_restore 38 = .ok (.aload_n 0, 1) := by decide +kernel
theorem dX7_restore_39 : decode cX7_restore 39 = .ok (.getfield 13, 3) := by decide +kernel
theorem dX7_restore_42 : decode cX7_restore 42 = .ok (.iload_n 3, 1) := by decide +kernel
theorem dX7_restore_43 : decode cX7_restore 43 = .ok (.aload_n 0, 1) := by decide +kernel
theorem dX7_restore_44 : decode cX7_restore 44 = .ok (.getfield 72, 3) := by decide +kernel
theorem dX7_restore_47 : decode cX7_restore 47 = .ok (.iload_n 2, 1) := by decide +kernel
theorem dX7_restore_48 : decode cX7_restore 48 = .ok (.iload_n 3, 1) := by decide +kernel
theorem dX7_restore_49 : decode cX7_restore 49 = .ok (.iadd, 1) := by decide +kernel
theorem dX7_restore_50 : decode cX7_restore 50 = .ok (.iaload, 1) := by decide +kernel
theorem dX7_restore_51 : decode cX7_restore 51 = .ok (.iastore, 1) := by decide +kernel
theorem dX7_restore_52 : decode cX7_restore 52 = .ok (.aload_n 0, 1) := by decide +kernel
theorem dX7_restore_53 : decode cX7_restore 53 = .ok (.getfield 17, 3) := by decide +kernel
theorem dX7_restore_56 : decode cX7_restore 56 = .ok (.iload_n 3, 1) := by decide +kernel
theorem dX7_restore_57 : decode cX7_restore 57 = .ok (.aload_n 0, 1) := by decide +kernel
theorem dX7_restore_58 : decode cX7_restore 58 = .ok (.getfield 72, 3) := by decide +kernel
theorem dX7_restore_61 : decode cX7_restore 61 = .ok (.iload_n 2, 1) := by decide +kernel
theorem dX7_restore_62 : decode cX7_restore 62 = .ok (.bipush 8, 2) := by decide +kernel
theorem dX7_restore_64 : decode cX7_restore 64 = .ok (.iadd, 1) := by decide +kernel
theorem dX7_restore_65 : decode cX7_restore 65 = .ok (.iload_n 3, 1) := by decide +kernel
theorem dX7_restore_66 : decode cX7_restore 66 = .ok (.iadd, 1) := by decide +kernel
theorem dX7_restore_67 : decode cX7_restore 67 = .ok (.iaload, 1) := by decide +kernel
theorem dX7_restore_68 : decode cX7_restore 68 = .ok (.iastore, 1) := by decide +kernel
theorem dX7_restore_69 : decode cX7_restore 69 = .ok (.aload_n 0, 1) := by decide +kernel
theorem dX7_restore_70 : decode cX7_restore 70 = .ok (.getfield 20, 3) := by decide +kernel
theorem dX7_restore_73 : decode cX7_restore 73 = .ok (.iload_n 3, 1) := by decide +kernel
theorem dX7_restore_74 : decode cX7_restore 74 = .ok (.aload_n 0, 1) := by decide +kernel
theorem dX7_restore_75 : decode cX7_restore 75 = .ok (.getfield 72, 3) := by decide +kernel
theorem dX7_restore_78 : decode cX7_restore 78 = .ok (.iload_n 2, 1) := by decide +kernel
theorem dX7_restore_79 : decode cX7_restore 79 = .ok (.bipush 16, 2) := by decide +kernel
theorem dX7_restore_81 : decode cX7_restore 81 = .ok (.iadd, 1) := by decide +kernel
theorem dX7_restore_82 : decode cX7_restore 82 = .ok (.iload_n 3, 1) := by decide +kernel
theorem dX7_restore_83 : decode cX7_restore 83 = .ok (.iadd, 1) := by decide +kernel
theorem dX7_restore_84 : decode cX7_restore 84 = .ok (.iaload, 1) := by decide +kernel
theorem dX7_restore_85 : decode cX7_restore 85 = .ok (.iastore, 1) := by decide +kernel
theorem dX7_restore_86 : decode cX7_restore 86 = .ok (.iinc 3 1, 3) := by decide +kernel
theorem dX7_restore_89 : decode cX7_restore 89 = .ok (.goto (-57), 3) := by decide +kernel
theorem dX7_restore_92 : decode cX7_restore 92 = .ok (.iconst 0, 1) := by decide +kernel
theorem dX7_restore_93 : decode cX7_restore 93 = .ok (.istore_n 3, 1) := by decide +kernel
theorem dX7_restore_94 : decode cX7_restore 94 = .ok (.iload_n 3, 1) := by decide +kernel
theorem dX7_restore_95 : decode cX7_restore 95 = .ok (.bipush 64, 2) := by decide +kernel
theorem dX7_restore_97 : decode cX7_restore 97 = .ok (.if_icmp .ge 26, 3) := by decide +kernel
theorem dX7_restore_100 : decode cX7_restore 100 = .ok (.aload_n 0, 1) := by decide +kernel
theorem dX7_restore_101 : decode cX7_restore 101 = .ok (.getfield 23, 3) := by decide +kernel
theorem dX7_restore_104 : decode cX7_restore 104 = .ok (.iload_n 3, 1) := by decide +kernel
theorem dX7_restore_105 : decode cX7_restore 105 = .ok (.aload_n 0, 1) := by decide +kernel
theorem dX7_restore_106 : decode cX7_restore 106 = .ok (.getfield 72, 3) := by decide +kernel
theorem dX7_restore_109 : decode cX7_restore 109 = .ok (.iload_n 2, 1) := by decide +kernel
theorem dX7_restore_110 : decode cX7_restore 110 = .ok (.bipush 24, 2) := by decide +kernel
theorem dX7_restore_112 : decode cX7_restore 112 = .ok (.iadd, 1) := by decide +kernel
theorem dX7_restore_113 : decode cX7_restore 113 = .ok (.iload_n 3, 1) := by decide +kernel
theorem dX7_restore_114 : decode cX7_restore 114 = .ok (.iadd, 1) := by decide +kernel
theorem dX7_restore_115 : decode cX7_restore 115 = .ok (.iaload, 1) := by decide +kernel
theorem dX7_restore_116 : decode cX7_restore 116 = .ok (.iastore, 1) := by decide +kernel
theorem dX7_restore_117 : decode cX7_restore 117 = .ok (.iinc 3 1, 3) := by decide +kernel
theorem dX7_restore_120 : decode cX7_restore 120 = .ok (.goto (-26), 3) := by decide +kernel
theorem dX7_restore_123 : decode cX7_restore 123 = .ok (.iconst 0, 1) := by decide +kernel
theorem dX7_restore_124 : decode cX7_restore 124 = .ok (.istore_n 3, 1) := by decide +kernel
theorem dX7_restore_125 : decode cX7_restore 125 = .ok (.iload_n 3, 1) := by decide +kernel
theorem dX7_restore_126 : decode cX7_restore 126 = .ok (.bipush 16, 2) := by decide +kernel
theorem dX7_restore_128 : decode cX7_restore 128 = .ok (.if_icmp .ge 26, 3) := by decide +kernel
theorem dX7_restore_131 : decode cX7_restore 131 = .ok (.aload_n 0, 1) := by decide +kernel
theorem dX7_restore_132 : decode cX7_restore 132 = .ok (.getfield 38, 3) := by decide +kernel
theorem dX7_restore_135 : decode cX7_restore 135 = .ok (.iload_n 3, 1) := by decide +kernel
theorem dX7_restore_136 : decode cX7_restore 136 = .ok (.aload_n 0, 1) := by decide +kernel
theorem dX7_restore_137 : decode cX7_restore 137 = .ok (.getfield 72, 3) := by decide +kernel
theorem dX7_restore_140 : decode cX7_restore 140 = .ok (.iload_n 2, 1) := by decide +kernel
theorem dX7_restore_141 : decode cX7_restore 141 = .ok (.bipush 88, 2) := by decide +kernel
theorem dX7_restore_143 : decode cX7_restore 143 = .ok (.iadd, 1) := by decide +kernel
theorem dX7_restore_144 : decode cX7_restore 144 = .ok (.iload_n 3, 1) := by decide +kernel
theorem dX7_restore_145 : decode cX7_restore 145 = .ok (.iadd, 1) := by decide +kernel
theorem dX7_restore_146 : decode cX7_restore 146 = .ok (.iaload, 1) := by decide +kernel
theorem dX7_restore_147 : decode cX7_restore 147 = .ok (.iastore, 1) := by decide +kernel
theorem dX7_restore_148 : decode cX7_restore 148 = .ok (.iinc 3 1, 3) := by decide +kernel
theorem dX7_restore_151 : decode cX7_restore 151 = .ok (.goto (-26), 3) := by decide +kernel
theorem dX7_restore_154 : decode cX7_restore 154 = .ok (.aload_n 0, 1) := by decide +kernel
theorem dX7_restore_155 : decode cX7_restore 155 = .ok (.aload_n 0, 1) := by decide +kernel
theorem dX7_restore_156 : decode cX7_restore 156 = .ok (.getfield 72, 3) := by decide +kernel
theorem dX7_restore_159 : decode cX7_restore 159 = .ok (.iload_n 2, 1) := by decide +kernel
theorem dX7_restore_160 : decode cX7_restore 160 = .ok (.bipush 104, 2) := by decide +kernel
theorem dX7_restore_162 : decode cX7_restore 162 = .ok (.iadd, 1) := by decide +kernel
theorem dX7_restore_163 : decode cX7_restore 163 = .ok (.iaload, 1) := by decide +kernel
theorem dX7_restore_164 : decode cX7_restore 164 = .ok (.putfield 7, 3) := by decide +kernel
theorem dX7_restore_167 : decode cX7_restore 167 = .ok (.aload_n 0, 1) := by decide +kernel
theorem dX7_restore_168 : decode cX7_restore 168 = .ok (.aload_n 0, 1) := by decide +kernel
theorem dX7_restore_169 : decode cX7_restore 169 = .ok (.getfield 72, 3) := by decide +kernel
theorem dX7_restore_172 : decode cX7_restore 172 = .ok (.iload_n 2, 1) := by decide +kernel
theorem dX7_restore_173 : decode cX7_restore 173 = .ok (.bipush 105, 2) := by decide +kernel
theorem dX7_restore_175 : decode cX7_restore 175 = .ok (.iadd, 1) := by decide +kernel
theorem dX7_restore_176 : decode cX7_restore 176 = .ok (.iaload, 1) := by decide +kernel
theorem dX7_restore_177 : decode cX7_restore 177 = .ok (.putfield 82, 3) := by decide +kernel
theorem dX7_restore_180 : decode cX7_restore 180 = .ok (.aload_n 0, 1) := by decide +kernel
theorem dX7_restore_181 : decode cX7_restore 181 = .ok (.aload_n 0, 1) := by decide +kernel
theorem dX7_restore_182 : decode cX7_restore 182 = .ok (.getfield 72, 3) := by decide +kernel
theorem dX7_restore_185 : decode cX7_restore 185 = .ok (.iload_n 2, 1) := by decide +kernel
theorem dX7_restore_186 : decode cX7_restore 186 = .ok (.bipush 106, 2) := by decide +kernel
theorem dX7_restore_188 : decode cX7_restore 188 = .ok (.iadd, 1) := by decide +kernel
theorem dX7_restore_189 : decode cX7_restore 189 = .ok (.iaload, 1) := by decide +kernel
theorem dX7_restore_190 : decode cX7_restore 190 = .ok (.putfield 85, 3) := by decide +kernel
theorem dX7_restore_193 : decode cX7_restore 193 = .ok (.aload_n 0, 1) := by decide +kernel
theorem dX7_restore_194 : decode cX7_restore 194 = .ok (.aload_n 0, 1) := by decide +kernel
theorem dX7_restore_195 : decode cX7_restore 195 = .ok (.getfield 72, 3) := by decide +kernel
theorem dX7_restore_198 : decode cX7_restore 198 = .ok (.iload_n 2, 1) := by decide +kernel
theorem dX7_restore_199 : decode cX7_restore 199 = .ok (.bipush 107, 2) := by decide +kernel
theorem dX7_restore_201 : decode cX7_restore 201 = .ok (.iadd, 1) := by decide +kernel
theorem dX7_restore_202 : decode cX7_restore 202 = .ok (.iaload, 1) := by decide +kernel
theorem dX7_restore_203 : decode cX7_restore 203 = .ok (.putfield 26, 3) := by decide +kernel
theorem dX7_restore_206 : decode cX7_restore 206 = .ok (.aload_n 0, 1) := by decide +kernel
theorem dX7_restore_207 : decode cX7_restore 207 = .ok (.aload_n 0, 1) := by decide +kernel
theorem dX7_restore_208 : decode cX7_restore 208 = .ok (.getfield 72, 3) := by decide +kernel
theorem dX7_restore_211 : decode cX7_restore 211 = .ok (.iload_n 2, 1) := by decide +kernel
theorem dX7_restore_212 : decode cX7_restore 212 = .ok (.bipush 108, 2) := by decide +kernel
theorem dX7_restore_214 : decode cX7_restore 214 = .ok (.iadd, 1) := by decide +kernel
theorem dX7_restore_215 : decode cX7_restore 215 = .ok (.iaload, 1) := by decide +kernel
theorem dX7_restore_216 : decode cX7_restore 216 = .ok (.putfield 29, 3) := by decide +kernel
theorem dX7_restore_219 : decode cX7_restore 219 = .ok (.aload_n 0, 1) := by decide +kernel
theorem dX7_restore_220 : decode cX7_restore 220 = .ok (.aload_n 0, 1) := by decide +kernel
theorem dX7_restore_221 : decode cX7_restore 221 = .ok (.getfield 72, 3) := by decide +kernel
theorem dX7_restore_224 : decode cX7_restore 224 = .ok (.iload_n 2, 1) := by decide +kernel
theorem dX7_restore_225 : decode cX7_restore 225 = .ok (.bipush 109, 2) := by decide +kernel
theorem dX7_restore_227 : decode cX7_restore 227 = .ok (.iadd, 1) := by decide +kernel
theorem dX7_restore_228 : decode cX7_restore 228 = .ok (.iaload, 1) := by decide +kernel
theorem dX7_restore_229 : decode cX7_restore 229 = .ok (.putfield 32, 3) := by decide +kernel
theorem dX7_restore_232 : decode cX7_restore 232 = .ok (.aload_n 0, 1) := by decide +kernel
theorem dX7_restore_233 : decode cX7_restore 233 = .ok (.aload_n 0, 1) := by decide +kernel
theorem dX7_restore_234 : decode cX7_restore 234 = .ok (.getfield 72, 3) := by decide +kernel
theorem dX7_restore_237 : decode cX7_restore 237 = .ok (.iload_n 2, 1) := by decide +kernel
theorem dX7_restore_238 : decode cX7_restore 238 = .ok (.bipush 110, 2) := by decide +kernel
theorem dX7_restore_240 : decode cX7_restore 240 = .ok (.iadd, 1) := by decide +kernel
theorem dX7_restore_241 : decode cX7_restore 241 = .ok (.iaload, 1) := by decide +kernel
theorem dX7_restore_242 : decode cX7_restore 242 = .ok (.putfield 35, 3) := by decide +kernel
theorem dX7_restore_245 : decode cX7_restore 245 = .ok (.aload_n 0, 1) := by decide +kernel
theorem dX7_restore_246 : decode cX7_restore 246 = .ok (.aload_n 0, 1) := by decide +kernel
theorem dX7_restore_247 : decode cX7_restore 247 = .ok (.getfield 72, 3) := by decide +kernel
theorem dX7_restore_250 : decode cX7_restore 250 = .ok (.iload_n 2, 1) := by decide +kernel
theorem dX7_restore_251 : decode cX7_restore 251 = .ok (.bipush 111, 2) := by decide +kernel
theorem dX7_restore_253 : decode cX7_restore 253 = .ok (.iadd, 1) := by decide +kernel
theorem dX7_restore_254 : decode cX7_restore 254 = .ok (.iaload, 1) := by decide +kernel
theorem dX7_restore_255 : decode cX7_restore 255 = .ok (.putfield 88, 3) := by decide +kernel
theorem dX7_restore_258 : decode cX7_restore 258 = .ok (.iconst 1, 1) := by decide +kernel
theorem dX7_restore_259 : decode cX7_restore 259 = .ok (.ireturn, 1) := by decide +kernel
theorem dX7_salt_0 : decode cX7_salt 0 = .ok (.aload_n 0, 1) := by decide +kernel
theorem dX7_salt_1 : decode cX7_salt 1 = .ok (.getfield 44, 3) := by decide +kernel
theorem dX7_salt_4 : decode cX7_salt 4 = .ok (.iload_n 1, 1) := by decide +kernel
theorem dX7_salt_5 : decode cX7_salt 5 = .ok (.aload_n 0, 1) := by decide +kernel
theorem dX7_salt_6 : decode cX7_salt 6 = .ok (.getfield 44, 3) := by decide +kernel
theorem dX7_salt_9 : decode cX7_salt 9 = .ok (.iload_n 1, 1) := by decide +kernel
theorem dX7_salt_10 : decode cX7_salt 10 = .ok (.iaload, 1) := by decide +kernel
theorem dX7_salt_11 : decode cX7_salt 11 = .ok (.iconst 2, 1) := by decide +kernel
theorem dX7_salt_12 : decode cX7_salt 12 = .ok (.invokestatic 129, 3) := by decide +kernel
theorem dX7_salt_15 : decode cX7_salt 15 = .ok (.iastore, 1) := by decide +kernel
theorem dX7_salt_16 : decode cX7_salt 16 = .ok (.iload_n 1, 1) := by decide +kernel
theorem dX7_salt_17 : decode cX7_salt 17 = .ok (.ifCond .le 23, 3) := by decide +kernel
theorem dX7_salt_20 : decode cX7_salt 20 = .ok (.aload_n 0, 1) := by decide +kernel
theorem dX7_salt_21 : decode cX7_salt 21 = .ok (.getfield 44, 3) := by decide +kernel
theorem dX7_salt_24 : decode cX7_salt 24 = .ok (.iload_n 1, 1) := by decide +kernel
theorem dX7_salt_25 : decode cX7_salt 25 = .ok (.iconst 1, 1) := by decide +kernel
theorem dX7_salt_26 : decode cX7_salt 26 = .ok (.isub, 1) := by decide +kernel
theorem dX7_salt_27 : decode cX7_salt 27 = .ok (.aload_n 0, 1) := by decide +kernel
theorem dX7_salt_28 : decode cX7_salt 28 = .ok (.getfield 44, 3) := by decide +kernel
theorem dX7_salt_31 : decode cX7_salt 31 = .ok (.iload_n 1, 1) := by decide +kernel
theorem dX7_salt_32 : decode cX7_salt 32 = .ok (.iconst 1, 1) := by decide +kernel
theorem dX7_salt_33 : decode cX7_salt 33 = .ok (.isub, 1) := by decide +kernel
theorem dX7_salt_34 : decode cX7_salt 34 = .ok (.iaload, 1) := by decide +kernel
theorem dX7_salt_35 : decode cX7_salt 35 = .ok (.iconst 1, 1) := by decide +kernel
theorem dX7_salt_36 : decode cX7_salt 36 = .ok (.invokestatic 129, 3) := by decide +kernel
theorem dX7_salt_39 : decode cX7_salt 39 = .ok (.iastore, 1) := by decide +kernel
theorem dX7_salt_40 : decode cX7_salt 40 = .ok (.iload_n 1, 1) := by decide +kernel
theorem dX7_salt_41 : decode cX7_salt 41 = .ok (.aload_n 0, 1) := by decide +kernel
theorem dX7_salt_42 : decode cX7_salt 42 = .ok (.getfield 7, 3) := by decide +kernel
theorem dX7_salt_45 : decode cX7_salt 45 = .ok (.iconst 1, 1) := by decide +kernel
theorem dX7_salt_46 : decode cX7_salt 46 = .ok (.isub, 1) := by decide +kernel
theorem dX7_salt_47 : decode cX7_salt 47 = .ok (.if_icmp .ge 23, 3) := by decide +kernel
theorem dX7_salt_50 : decode cX7_salt 50 = .ok (.aload_n 0, 1) := by decide +kernel
theorem dX7_salt_51 : decode cX7_salt 51 = .ok (.getfield 44, 3) := by decide +kernel
theorem dX7_salt_54 : decode cX7_salt 54 = .ok (.iload_n 1, 1) := by decide +kernel
theorem dX7_salt_55 : decode cX7_salt 55 = .ok (.iconst 1, 1) := by decide +kernel
theorem dX7_salt_56 : decode cX7_salt 56 = .ok (.iadd, 1) := by decide +kernel
theorem dX7_salt_57 : decode cX7_salt 57 = .ok (.aload_n 0, 1) := by decide +kernel
theorem dX7_salt_58 : decode cX7_salt 58 = .ok (.getfield 44, 3) := by decide +kernel
theorem dX7_salt_61 : decode cX7_salt 61 = .ok (.iload_n 1, 1) := by decide +kernel
theorem dX7_salt_62 : decode cX7_salt 62 = .ok (.iconst 1, 1) := by decide +kernel
theorem dX7_salt_63 : decode cX7_salt 63 = .ok (.iadd, 1) := by decide +kernel
theorem dX7_salt_64 : decode cX7_salt 64 = .ok (.iaload, 1) := by decide +kernel
theorem dX7_salt_65 : decode cX7_salt 65 = .ok (.iconst 1, 1) := by decide +kernel
theorem dX7_salt_66 : decode cX7_salt 66 = .ok (.invokestatic 129, 3) := by decide +kernel
theorem dX7_salt_69 : decode cX7_salt 69 = .ok (.iastore, 1) := by decide +kernel
theorem dX7_salt_70 : decode cX7_salt 70 = .ok (.return_, 1) := by decide +kernel
theorem dX7_salted_0 : decode cX7_salted 0 = .ok (.iload_n 1, 1) := by decide +kernel
theorem dX7_salted_1 : decode cX7_salted 1 = .ok (.iconst 0, 1) := by decide +kernel
theorem dX7_salted_2 : decode cX7_salted 2 = .ok (.sipush 999, 3) := by decide +kernel
theorem dX7_salted_5 : decode cX7_salted 5 = .ok (.invokestatic 91, 3) := by decide +kernel
theorem dX7_salted_8 : decode cX7_salted 8 = .ok (.ifCond .ne 6, 3) := by decide +kernel
theorem dX7_salted_11 : decode cX7_salted 11 = .ok (.bipush (-2), 2) := by decide +kernel
theorem dX7_salted_13 : decode cX7_salted 13 = .ok (.ireturn, 1) := by decide +kernel
theorem dX7_salted_14 : decode cX7_salted 14 = .ok (.iconst 1, 1) := by decide +kernel
theorem dX7_salted_15 : decode cX7_salted 15 = .ok (.istore_n 2, 1) := by decide +kernel
theorem dX7_salted_16 : decode cX7_salted 16 = .ok (.iconst 0, 1) := by decide +kernel
theorem dX7_salted_17 : decode cX7_salted 17 = .ok (.istore_n 3, 1) := by decide +kernel
theorem dX7_salted_18 : decode cX7_salted 18 = .ok (.iload_n 3, 1) := by decide +kernel
theorem dX7_salted_19 : decode cX7_salted 19 = .ok (.bipush 6, 2) := by decide +kernel
theorem dX7_salted_21 : decode cX7_salted 21 = .ok (.if_icmp .ge 151, 3) := by decide +kernel
theorem dX7_salted_24 : decode cX7_salted 24 = .ok (.iconst 0, 1) := by decide +kernel
theorem dX7_salted_25 : decode cX7_salted 25 = .ok (.istore 4, 2) := by decide +kernel
theorem dX7_salted_27 : decode cX7_salted 27 = .ok (.iload 4, 2) := by decide +kernel
theorem dX7_salted_29 : decode cX7_salted 29 = .ok (.iload_n 2, 1) := by decide +kernel
theorem dX7_salted_30 : decode cX7_salted 30 = .ok (.if_icmp .ge 129, 3) := by decide +kernel
theorem dX7_salted_33 : decode cX7_salted 33 = .ok (.aload_n 0, 1) := by decide +kernel
theorem dX7_salted_34 : decode cX7_salted 34 = .ok (.invokevirtual 168, 3) := by decide +kernel
theorem dX7_salted_37 : decode cX7_salted 37 = .ok (.iload 4, 2) := by decide +kernel
theorem dX7_salted_39 : decode cX7_salted 39 = .ok (.istore 5, 2) := by decide +kernel
theorem dX7_salted_41 : decode cX7_salted 41 = .ok (.iconst 1, 1) := by decide +kernel
theorem dX7_salted_42 : decode cX7_salted 42 = .ok (.istore 6, 2) := by decide +kernel
theorem dX7_salted_44 : decode cX7_salted 44 = .ok (.iconst 0, 1) := by decide +kernel
theorem dX7_salted_45 : decode cX7_salted 45 = .ok (.istore 7, 2) := by decide +kernel
theorem dX7_salted_47 : decode cX7_salted 47 = .ok (.iload 7, 2) := by decide +kernel
theorem dX7_salted_49 : decode cX7_salted 49 = .ok (.iload_n 3, 1) := by decide +kernel
theorem dX7_salted_50 : decode cX7_salted 50 = .ok (.if_icmp .ge 55, 3) := by decide +kernel
theorem dX7_salted_53 : decode cX7_salted 53 = .ok (.iload 6, 2) := by decide +kernel
theorem dX7_salted_55 : decode cX7_salted 55 = .ok (.ifCond .eq 50, 3) := by decide +kernel
theorem dX7_salted_58 : decode cX7_salted 58 = .ok (.aload_n 0, 1) := by decide +kernel
theorem dX7_salted_59 : decode cX7_salted 59 = .ok (.iload 5, 2) := by decide +kernel
theorem dX7_salted_61 : decode cX7_salted 61 = .ok (.aload_n 0, 1) := by decide +kernel
theorem dX7_salted_62 : decode cX7_salted 62 = .ok (.getfield 7, 3) := by decide +kernel
theorem dX7_salted_65 : decode cX7_salted 65 = .ok (.irem, 1) := by decide +kernel
theorem dX7_salted_66 : decode cX7_salted 66 = .ok (.invokevirtual 152, 3) := by decide +kernel
theorem dX7_salted_69 : decode cX7_salted 69 = .ok (.ifCond .ne 7, 3) := by decide +kernel
theorem dX7_salted_72 : decode cX7_salted 72 = .ok (.iconst 1, 1) := by decide +kernel
theorem dX7_salted_73 : decode cX7_salted 73 = .ok (.goto 4, 3) := by decide +kernel
theorem dX7_salted_76 : decode cX7_salted 76 = .ok (.iconst 0, 1) := by decide +kernel
theorem dX7_salted_77 : decode cX7_salted 77 = .ok (.istore 6, 2) := by decide +kernel
theorem dX7_salted_79 : decode cX7_salted 79 = .ok (.aload_n 0, 1) := by decide +kernel
theorem dX7_salted_80 : decode cX7_salted 80 = .ok (.iload 5, 2) := by decide +kernel
theorem dX7_salted_82 : decode cX7_salted 82 = .ok (.aload_n 0, 1) := by decide +kernel
theorem dX7_salted_83 : decode cX7_salted 83 = .ok (.getfield 7, 3) := by decide +kernel
theorem dX7_salted_86 : decode cX7_salted 86 = .ok (.irem, 1) := by decide +kernel
theorem dX7_salted_87 : decode cX7_salted 87 = .ok (.invokevirtual 155, 3) := by decide +kernel
theorem dX7_salted_90 : decode cX7_salted 90 = .ok (.iload 5, 2) := by decide +kernel
theorem dX7_salted_92 : decode cX7_salted 92 = .ok (.aload_n 0, 1) := by decide +kernel
theorem dX7_salted_93 : decode cX7_salted 93 = .ok (.getfield 7, 3) := by decide +kernel
theorem dX7_salted_96 : decode cX7_salted 96 = .ok (.idiv, 1) := by decide +kernel
theorem dX7_salted_97 : decode cX7_salted 97 = .ok (.istore 5, 2) := by decide +kernel
theorem dX7_salted_99 : decode cX7_salted 99 = .ok (.iinc 7 1, 3) := by decide +kernel
theorem dX7_salted_102 : decode cX7_salted 102 = .ok (.goto (-55), 3) := by decide +kernel
theorem dX7_salted_105 : decode cX7_salted 105 = .ok (.iconst 0, 1) := by decide +kernel
theorem dX7_salted_106 : decode cX7_salted 106 = .ok (.istore 7, 2) := by decide +kernel
theorem dX7_salted_108 : decode cX7_salted 108 = .ok (.iload 7, 2) := by decide +kernel
theorem dX7_salted_110 : decode cX7_salted 110 = .ok (.aload_n 0, 1) := by decide +kernel
theorem dX7_salted_111 : decode cX7_salted 111 = .ok (.getfield 7, 3) := by decide +kernel
theorem dX7_salted_114 : decode cX7_salted 114 = .ok (.if_icmp .ge 32, 3) := by decide +kernel
theorem dX7_salted_117 : decode cX7_salted 117 = .ok (.iload 6, 2) := by decide +kernel
theorem dX7_salted_119 : decode cX7_salted 119 = .ok (.ifCond .eq 27, 3) := by decide +kernel
theorem dX7_salted_122 : decode cX7_salted 122 = .ok (.aload_n 0, 1) := by decide +kernel
theorem dX7_salted_123 : decode cX7_salted 123 = .ok (.getfield 44, 3) := by decide +kernel
theorem dX7_salted_126 : decode cX7_salted 126 = .ok (.iload 7, 2) := by decide +kernel
theorem dX7_salted_128 : decode cX7_salted 128 = .ok (.iaload, 1) := by decide +kernel
theorem dX7_salted_129 : decode cX7_salted 129 = .ok (.iload_n 1, 1) := by decide +kernel
theorem dX7_salted_130 : decode cX7_salted 130 = .ok (.if_icmp .gt 7, 3) := by decide +kernel
theorem dX7_salted_133 : decode cX7_salted 133 = .ok (.iconst 1, 1) := by decide +kernel
theorem dX7_salted_134 : decode cX7_salted 134 = .ok (.goto 4, 3) := by decide +kernel
theorem dX7_salted_137 : decode cX7_salted 137 = .ok (.iconst 0, 1) := by decide +kernel
theorem dX7_salted_138 : decode cX7_salted 138 = .ok (.istore 6, 2) := by decide +kernel
theorem dX7_salted_140 : decode cX7_salted 140 = .ok (.iinc 7 1, 3) := by decide +kernel
theorem dX7_salted_143 : decode cX7_salted 143 = .ok (.goto (-35), 3) := by decide +kernel
theorem dX7_salted_146 : decode cX7_salted 146 = .ok (.iload 6, 2) := by decide +kernel
theorem dX7_salted_148 : decode cX7_salted 148 = .ok (.ifCond .eq 5, 3) := by decide +kernel
theorem dX7_salted_151 : decode cX7_salted 151 = .ok (.iload_n 3, 1) := by decide +kernel
theorem dX7_salted_152 : decode cX7_salted 152 = .ok (.ireturn, 1) := by decide +kernel
theorem dX7_salted_153 : decode cX7_salted 153 = .ok (.iinc 4 1, 3) := by decide +kernel
theorem dX7_salted_156 : decode cX7_salted 156 = .ok (.goto (-129), 3) := by decide +kernel
theorem dX7_salted_159 : decode cX7_salted 159 = .ok (.iload_n 2, 1) := by decide +kernel
theorem dX7_salted_160 : decode cX7_salted 160 = .ok (.aload_n 0, 1) := by decide +kernel
theorem dX7_salted_161 : decode cX7_salted 161 = .ok (.getfield 7, 3) := by decide +kernel
theorem dX7_salted_164 : decode cX7_salted 164 = .ok (.imul, 1) := by decide +kernel
theorem dX7_salted_165 : decode cX7_salted 165 = .ok (.istore_n 2, 1) := by decide +kernel
theorem dX7_salted_166 : decode cX7_salted 166 = .ok (.iinc 3 1, 3) := by decide +kernel
theorem dX7_salted_169 : decode cX7_salted 169 = .ok (.goto (-151), 3) := by decide +kernel
theorem dX7_salted_172 : decode cX7_salted 172 = .ok (.bipush (-6), 2) := by decide +kernel
theorem dX7_salted_174 : decode cX7_salted 174 = .ok (.ireturn, 1) := by decide +kernel
theorem dX7_say_0 : decode cX7_say 0 = .ok (.iload_n 1, 1) := by decide +kernel
theorem dX7_say_1 : decode cX7_say 1 = .ok (.bipush 33, 2) := by decide +kernel
theorem dX7_say_3 : decode cX7_say 3 = .ok (.bipush 126, 2) := by decide +kernel
theorem dX7_say_5 : decode cX7_say 5 = .ok (.invokestatic 91, 3) := by decide +kernel
theorem dX7_say_8 : decode cX7_say 8 = .ok (.ifCond .ne 6, 3) := by decide +kernel
theorem dX7_say_11 : decode cX7_say 11 = .ok (.bipush (-2), 2) := by decide +kernel
theorem dX7_say_13 : decode cX7_say 13 = .ok (.ireturn, 1) := by decide +kernel
theorem dX7_say_14 : decode cX7_say 14 = .ok (.aload_n 0, 1) := by decide +kernel
theorem dX7_say_15 : decode cX7_say 15 = .ok (.getfield 99, 3) := by decide +kernel
theorem dX7_say_18 : decode cX7_say 18 = .ok (.bipush 60, 2) := by decide +kernel
theorem dX7_say_20 : decode cX7_say 20 = .ok (.if_icmp .ne 6, 3) := by decide +kernel
theorem dX7_say_23 : decode cX7_say 23 = .ok (.bipush (-4), 2) := by decide +kernel
theorem dX7_say_25 : decode cX7_say 25 = .ok (.ireturn, 1) := by decide +kernel
theorem dX7_say_26 : decode cX7_say 26 = .ok (.aload_n 0, 1) := by decide +kernel
theorem dX7_say_27 : decode cX7_say 27 = .ok (.getfield 41, 3) := by decide +kernel
theorem dX7_say_30 : decode cX7_say 30 = .ok (.aload_n 0, 1) := by decide +kernel
theorem dX7_say_31 : decode cX7_say 31 = .ok (.getfield 99, 3) := by decide +kernel
theorem dX7_say_34 : decode cX7_say 34 = .ok (.iload_n 1, 1) := by decide +kernel
theorem dX7_say_35 : decode cX7_say 35 = .ok (.iastore, 1) := by decide +kernel
theorem dX7_say_36 : decode cX7_say 36 = .ok (.aload_n 0, 1) := by decide +kernel
theorem dX7_say_37 : decode cX7_say 37 = .ok (.dup, 1) := by decide +kernel
theorem dX7_say_38 : decode cX7_say 38 = .ok (.getfield 99, 3) := by decide +kernel
theorem dX7_say_41 : decode cX7_say 41 = .ok (.iconst 1, 1) := by decide +kernel
theorem dX7_say_42 : decode cX7_say 42 = .ok (.iadd, 1) := by decide +kernel
theorem dX7_say_43 : decode cX7_say 43 = .ok (.putfield 99, 3) := by decide +kernel
theorem dX7_say_46 : decode cX7_say 46 = .ok (.aload_n 0, 1) := by decide +kernel
theorem dX7_say_47 : decode cX7_say 47 = .ok (.getfield 99, 3) := by decide +kernel
theorem dX7_say_50 : decode cX7_say 50 = .ok (.ireturn, 1) := by decide +kernel
theorem dX7_seen_0 : decode cX7_seen 0 = .ok (.aload_n 0, 1) := by decide +kernel
theorem dX7_seen_1 : decode cX7_seen 1 = .ok (.iload_n 1, 1) := by decide +kernel
theorem dX7_seen_2 : decode cX7_seen 2 = .ok (.invokevirtual 95, 3) := by decide +kernel
theorem dX7_seen_5 : decode cX7_seen 5 = .ok (.ifCond .ne 5, 3) := by decide +kernel
theorem dX7_seen_8 : decode cX7_seen 8 = .ok (.iconst (-1), 1) := by decide +kernel
theorem dX7_seen_9 : decode cX7_seen 9 = .ok (.ireturn, 1) := by decide +kernel
theorem dX7_seen_10 : decode cX7_seen 10 = .ok (.iload_n 2, 1) := by decide +kernel
theorem dX7_seen_11 : decode cX7_seen 11 = .ok (.iconst 0, 1) := by decide +kernel
theorem dX7_seen_12 : decode cX7_seen 12 = .ok (.sipush 999, 3) := by decide +kernel
theorem dX7_seen_15 : decode cX7_seen 15 = .ok (.invokestatic 91, 3) := by decide +kernel
theorem dX7_seen_18 : decode cX7_seen 18 = .ok (.ifCond .ne 6, 3) := by decide +kernel
theorem dX7_seen_21 : decode cX7_seen 21 = .ok (.bipush (-2), 2) := by decide +kernel
theorem dX7_seen_23 : decode cX7_seen 23 = .ok (.ireturn, 1) := by decide +kernel
theorem dX7_seen_24 : decode cX7_seen 24 = .ok (.aload_n 0, 1) := by decide +kernel
theorem dX7_seen_25 : decode cX7_seen 25 = .ok (.getfield 88, 3) := by decide +kernel
theorem dX7_seen_28 : decode cX7_seen 28 = .ok (.bipush 8, 2) := by decide +kernel
theorem dX7_seen_30 : decode cX7_seen 30 = .ok (.if_icmp .ne 6, 3) := by decide +kernel
theorem dX7_seen_33 : decode cX7_seen 33 = .ok (.bipush (-4), 2) := by decide +kernel
theorem dX7_seen_35 : decode cX7_seen 35 = .ok (.ireturn, 1) := by decide +kernel
theorem dX7_seen_36 : decode cX7_seen 36 = .ok (.aload_n 0, 1) := by decide +kernel
theorem dX7_seen_37 : decode cX7_seen 37 = .ok (.getfield 38, 3) := by decide +kernel
theorem dX7_seen_40 : decode cX7_seen 40 = .ok (.iconst 2, 1) := by decide +kernel
theorem dX7_seen_41 : decode cX7_seen 41 = .ok (.aload_n 0, 1) := by decide +kernel
theorem dX7_seen_42 : decode cX7_seen 42 = .ok (.getfield 88, 3) := by decide +kernel
theorem dX7_seen_45 : decode cX7_seen 45 = .ok (.imul, 1) := by decide +kernel
theorem dX7_seen_46 : decode cX7_seen 46 = .ok (.iload_n 1, 1) := by decide +kernel
theorem dX7_seen_47 : decode cX7_seen 47 = .ok (.iastore, 1) := by decide +kernel
theorem dX7_seen_48 : decode cX7_seen 48 = .ok (.aload_n 0, 1) := by decide +kernel
theorem dX7_seen_49 : decode cX7_seen 49 = .ok (.getfield 38, 3) := by decide +kernel
theorem dX7_seen_52 : decode cX7_seen 52 = .ok (.iconst 2, 1) := by decide +kernel
theorem dX7_seen_53 : decode cX7_seen 53 = .ok (.aload_n 0, 1) := by decide +kernel
theorem dX7_seen_54 : decode cX7_seen 54 = .ok (.getfield 88, 3) := by decide +kernel
theorem dX7_seen_57 : decode cX7_seen 57 = .ok (.imul, 1) := by decide +kernel
theorem dX7_seen_58 : decode cX7_seen 58 = .ok (.iconst 1, 1) := by decide +kernel
theorem dX7_seen_59 : decode cX7_seen 59 = .ok (.iadd, 1) := by decide +kernel
theorem dX7_seen_60 : decode cX7_seen 60 = .ok (.iload_n 2, 1) := by decide +kernel
theorem dX7_seen_61 : decode cX7_seen 61 = .ok (.iastore, 1) := by decide +kernel
theorem dX7_seen_62 : decode cX7_seen 62 = .ok (.aload_n 0, 1) := by decide +kernel
theorem dX7_seen_63 : decode cX7_seen 63 = .ok (.dup, 1) := by decide +kernel
theorem dX7_seen_64 : decode cX7_seen 64 = .ok (.getfield 88, 3) := by decide +kernel
theorem dX7_seen_67 : decode cX7_seen 67 = .ok (.iconst 1, 1) := by decide +kernel
theorem dX7_seen_68 : decode cX7_seen 68 = .ok (.iadd, 1) := by decide +kernel
theorem dX7_seen_69 : decode cX7_seen 69 = .ok (.putfield 88, 3) := by decide +kernel
theorem dX7_seen_72 : decode cX7_seen 72 = .ok (.aload_n 0, 1) := by decide +kernel
theorem dX7_seen_73 : decode cX7_seen 73 = .ok (.getfield 88, 3) := by decide +kernel
theorem dX7_seen_76 : decode cX7_seen 76 = .ok (.ireturn, 1) := by decide +kernel
theorem dX7_set_0 : decode cX7_set 0 = .ok (.iload_n 1, 1) := by decide +kernel
theorem dX7_set_1 : decode cX7_set 1 = .ok (.iconst 0, 1) := by decide +kernel
theorem dX7_set_2 : decode cX7_set 2 = .ok (.iconst 3, 1) := by decide +kernel
theorem dX7_set_3 : decode cX7_set 3 = .ok (.invokestatic 91, 3) := by decide +kernel
theorem dX7_set_6 : decode cX7_set 6 = .ok (.ifCond .eq 22, 3) := by decide +kernel
theorem dX7_set_9 : decode cX7_set 9 = .ok (.iload_n 2, 1) := by decide +kernel
theorem dX7_set_10 : decode cX7_set 10 = .ok (.iload_n 1, 1) := by decide +kernel
theorem dX7_set_11 : decode cX7_set 11 = .ok (.iconst 3, 1) := by decide +kernel
theorem dX7_set_12 : decode cX7_set 12 = .ok (.if_icmp .ne 7, 3) := by decide +kernel
theorem dX7_set_15 : decode cX7_set 15 = .ok (.iconst 1, 1) := by decide +kernel
theorem dX7_set_16 : decode cX7_set 16 = .ok (.goto 4, 3) := by decide +kernel
theorem dX7_set_19 : decode cX7_set 19 = .ok (.iconst 0, 1) := by decide +kernel
theorem dX7_set_20 : decode cX7_set 20 = .ok (.bipush 9, 2) := by decide +kernel
theorem dX7_set_22 : decode cX7_set 22 = .ok (.invokestatic 91, 3) := by decide +kernel
theorem dX7_set_25 : decode cX7_set 25 = .ok (.ifCond .ne 6, 3) := by decide +kernel
theorem dX7_set_28 : decode cX7_set 28 = .ok (.bipush (-2), 2) := by decide +kernel
theorem dX7_set_30 : decode cX7_set 30 = .ok (.ireturn, 1) := by decide +kernel
theorem dX7_set_31 : decode cX7_set 31 = .ok (.iload_n 1, 1) := by decide +kernel
theorem dX7_set_32 : decode cX7_set 32 = .ok (.ifCond .ne 10, 3) := by decide +kernel
theorem dX7_set_35 : decode cX7_set 35 = .ok (.aload_n 0, 1) := by decide +kernel
theorem dX7_set_36 : decode cX7_set 36 = .ok (.getfield 26, 3) := by decide +kernel
theorem dX7_set_39 : decode cX7_set 39 = .ok (.goto 31, 3) := by decide +kernel
theorem dX7_set_42 : decode cX7_set 42 = .ok (.iload_n 1, 1) := by decide +kernel
theorem dX7_set_43 : decode cX7_set 43 = .ok (.iconst 1, 1) := by decide +kernel
theorem dX7_set_44 : decode cX7_set 44 = .ok (.if_icmp .ne 10, 3) := by decide +kernel
theorem dX7_set_47 : decode cX7_set 47 = .ok (.aload_n 0, 1) := by decide +kernel
theorem dX7_set_48 : decode cX7_set 48 = .ok (.getfield 29, 3) := by decide +kernel
theorem dX7_set_51 : decode cX7_set 51 = .ok (.goto 19, 3) := by decide +kernel
theorem dX7_set_54 : decode cX7_set 54 = .ok (.iload_n 1, 1) := by decide +kernel
theorem dX7_set_55 : decode cX7_set 55 = .ok (.iconst 2, 1) := by decide +kernel
theorem dX7_set_56 : decode cX7_set 56 = .ok (.if_icmp .ne 10, 3) := by decide +kernel
theorem dX7_set_59 : decode cX7_set 59 = .ok (.aload_n 0, 1) := by decide +kernel
theorem dX7_set_60 : decode cX7_set 60 = .ok (.getfield 32, 3) := by decide +kernel
theorem dX7_set_63 : decode cX7_set 63 = .ok (.goto 7, 3) := by decide +kernel
theorem dX7_set_66 : decode cX7_set 66 = .ok (.aload_n 0, 1) := by decide +kernel
theorem dX7_set_67 : decode cX7_set 67 = .ok (.getfield 35, 3) := by decide +kernel
theorem dX7_set_70 : decode cX7_set 70 = .ok (.istore_n 3, 1) := by decide +kernel
theorem dX7_set_71 : decode cX7_set 71 = .ok (.aload_n 0, 1) := by decide +kernel
theorem dX7_set_72 : decode cX7_set 72 = .ok (.iload_n 1, 1) := by decide +kernel
theorem dX7_set_73 : decode cX7_set 73 = .ok (.ifCond .ne 7, 3) := by decide +kernel
theorem dX7_set_76 : decode cX7_set 76 = .ok (.iload_n 2, 1) := by decide +kernel
theorem dX7_set_77 : decode cX7_set 77 = .ok (.goto 7, 3) := by decide +kernel
theorem dX7_set_80 : decode cX7_set 80 = .ok (.aload_n 0, 1) := by decide +kernel
theorem dX7_set_81 : decode cX7_set 81 = .ok (.getfield 26, 3) := by decide +kernel
theorem dX7_set_84 : decode cX7_set 84 = .ok (.putfield 26, 3) := by decide +kernel
theorem dX7_set_87 : decode cX7_set 87 = .ok (.aload_n 0, 1) := by decide +kernel
theorem dX7_set_88 : decode cX7_set 88 = .ok (.iload_n 1, 1) := by decide +kernel
theorem dX7_set_89 : decode cX7_set 89 = .ok (.iconst 1, 1) := by decide +kernel
theorem dX7_set_90 : decode cX7_set 90 = .ok (.if_icmp .ne 7, 3) := by decide +kernel
theorem dX7_set_93 : decode cX7_set 93 = .ok (.iload_n 2, 1) := by decide +kernel
theorem dX7_set_94 : decode cX7_set 94 = .ok (.goto 7, 3) := by decide +kernel
theorem dX7_set_97 : decode cX7_set 97 = .ok (.aload_n 0, 1) := by decide +kernel
theorem dX7_set_98 : decode cX7_set 98 = .ok (.getfield 29, 3) := by decide +kernel
theorem dX7_set_101 : decode cX7_set 101 = .ok (.putfield 29, 3) := by decide +kernel
theorem dX7_set_104 : decode cX7_set 104 = .ok (.aload_n 0, 1) := by decide +kernel
theorem dX7_set_105 : decode cX7_set 105 = .ok (.iload_n 1, 1) := by decide +kernel
theorem dX7_set_106 : decode cX7_set 106 = .ok (.iconst 2, 1) := by decide +kernel
theorem dX7_set_107 : decode cX7_set 107 = .ok (.if_icmp .ne 7, 3) := by decide +kernel
theorem dX7_set_110 : decode cX7_set 110 = .ok (.iload_n 2, 1) := by decide +kernel
theorem dX7_set_111 : decode cX7_set 111 = .ok (.goto 7, 3) := by decide +kernel
theorem dX7_set_114 : decode cX7_set 114 = .ok (.aload_n 0, 1) := by decide +kernel
theorem dX7_set_115 : decode cX7_set 115 = .ok (.getfield 32, 3) := by decide +kernel
theorem dX7_set_118 : decode cX7_set 118 = .ok (.putfield 32, 3) := by decide +kernel
theorem dX7_set_121 : decode cX7_set 121 = .ok (.aload_n 0, 1) := by decide +kernel
theorem dX7_set_122 : decode cX7_set 122 = .ok (.iload_n 1, 1) := by decide +kernel
theorem dX7_set_123 : decode cX7_set 123 = .ok (.iconst 3, 1) := by decide +kernel
theorem dX7_set_124 : decode cX7_set 124 = .ok (.if_icmp .ne 7, 3) := by decide +kernel
theorem dX7_set_127 : decode cX7_set 127 = .ok (.iload_n 2, 1) := by decide +kernel
theorem dX7_set_128 : decode cX7_set 128 = .ok (.goto 7, 3) := by decide +kernel
theorem dX7_set_131 : decode cX7_set 131 = .ok (.aload_n 0, 1) := by decide +kernel
theorem dX7_set_132 : decode cX7_set 132 = .ok (.getfield 35, 3) := by decide +kernel
theorem dX7_set_135 : decode cX7_set 135 = .ok (.putfield 35, 3) := by decide +kernel
theorem dX7_set_138 : decode cX7_set 138 = .ok (.iload_n 3, 1) := by decide +kernel
theorem dX7_set_139 : decode cX7_set 139 = .ok (.ireturn, 1) := by decide +kernel
theorem dX7_slide_0 : decode cX7_slide 0 = .ok (.aload_n 0, 1) := by decide +kernel
theorem dX7_slide_1 : decode cX7_slide 1 = .ok (.iload_n 1, 1) := by decide +kernel
theorem dX7_slide_2 : decode cX7_slide 2 = .ok (.invokevirtual 95, 3) := by decide +kernel
theorem dX7_slide_5 : decode cX7_slide 5 = .ok (.ifCond .ne 5, 3) := by decide +kernel
theorem dX7_slide_8 : decode cX7_slide 8 = .ok (.iconst (-1), 1) := by decide +kernel
theorem dX7_slide_9 : decode cX7_slide 9 = .ok (.ireturn, 1) := by decide +kernel
theorem dX7_slide_10 : decode cX7_slide 10 = .ok (.iload_n 2, 1) := by decide +kernel
theorem dX7_slide_11 : decode cX7_slide 11 = .ok (.iconst 1, 1) := by decide +kernel
theorem dX7_slide_12 : decode cX7_slide 12 = .ok (.sipush 999, 3) := by decide +kernel
theorem dX7_slide_15 : decode cX7_slide 15 = .ok (.invokestatic 91, 3) := by decide +kernel
theorem dX7_slide_18 : decode cX7_slide 18 = .ok (.ifCond .eq 12, 3) := by decide +kernel
theorem dX7_slide_21 : decode cX7_slide 21 = .ok (.iload_n 3, 1) := by decide +kernel
theorem dX7_slide_22 : decode cX7_slide 22 = .ok (.iconst 0, 1) := by decide +kernel
theorem dX7_slide_23 : decode cX7_slide 23 = .ok (.iconst 1, 1) := by decide +kernel
theorem dX7_slide_24 : decode cX7_slide 24 = .ok (.invokestatic 91, 3) := by decide +kernel
theorem dX7_slide_27 : decode cX7_slide 27 = .ok (.ifCond .ne 6, 3) := by decide +kernel
theorem dX7_slide_30 : decode cX7_slide 30 = .ok (.bipush (-2), 2) := by decide +kernel
theorem dX7_slide_32 : decode cX7_slide 32 = .ok (.ireturn, 1) := by decide +kernel
theorem dX7_slide_33 : decode cX7_slide 33 = .ok (.aload_n 0, 1) := by decide +kernel
theorem dX7_slide_34 : decode cX7_slide 34 = .ok (.getfield 13, 3) := by decide +kernel
theorem dX7_slide_37 : decode cX7_slide 37 = .ok (.iload_n 1, 1) := by decide +kernel
theorem dX7_slide_38 : decode cX7_slide 38 = .ok (.iaload, 1) := by decide +kernel
theorem dX7_slide_39 : decode cX7_slide 39 = .ok (.iload_n 2, 1) := by decide +kernel
theorem dX7_slide_40 : decode cX7_slide 40 = .ok (.if_icmp .ge 6, 3) := by decide +kernel
theorem dX7_slide_43 : decode cX7_slide 43 = .ok (.bipush (-3), 2) := by decide +kernel
theorem dX7_slide_45 : decode cX7_slide 45 = .ok (.ireturn, 1) := by decide +kernel
theorem dX7_slide_46 : decode cX7_slide 46 = .ok (.aload_n 0, 1) := by decide +kernel
theorem dX7_slide_47 : decode cX7_slide 47 = .ok (.iload_n 1, 1) := by decide +kernel
theorem dX7_slide_48 : decode cX7_slide 48 = .ok (.iload_n 2, 1) := by decide +kernel
theorem dX7_slide_49 : decode cX7_slide 49 = .ok (.invokevirtual 192, 3) := by decide +kernel
theorem dX7_slide_52 : decode cX7_slide 52 = .ok (.istore 4, 2) := by decide +kernel
theorem dX7_slide_54 : decode cX7_slide 54 = .ok (.iload_n 3, 1) := by decide +kernel
theorem dX7_slide_55 : decode cX7_slide 55 = .ok (.ifCond .ne 8, 3) := by decide +kernel
theorem dX7_slide_58 : decode cX7_slide 58 = .ok (.iload 4, 2) := by decide +kernel
theorem dX7_slide_60 : decode cX7_slide 60 = .ok (.goto 7, 3) := by decide +kernel
theorem dX7_slide_63 : decode cX7_slide 63 = .ok (.aload_n 0, 1) := by decide +kernel
theorem dX7_slide_64 : decode cX7_slide 64 = .ok (.getfield 189, 3) := by decide +kernel
theorem dX7_slide_67 : decode cX7_slide 67 = .ok (.ireturn, 1) := by decide +kernel
theorem dX7_slideOf_0 : decode cX7_slideOf 0 = .ok (.aload_n 0, 1) := by decide +kernel
theorem dX7_slideOf_1 : decode cX7_slideOf 1 = .ok (.aload_n 0, 1) := by decide +kernel
theorem dX7_slideOf_2 : decode cX7_slideOf 2 = .ok (.getfield 13, 3) := by decide +kernel
theorem dX7_slideOf_5 : decode cX7_slideOf 5 = .ok (.iload_n 1, 1) := by decide +kernel
theorem dX7_slideOf_6 : decode cX7_slideOf 6 = .ok (.iaload, 1) := by decide +kernel
theorem dX7_slideOf_7 : decode cX7_slideOf 7 = .ok (.putfield 189, 3) := by decide +kernel
theorem dX7_slideOf_10 : decode cX7_slideOf 10 = .ok (.iload_n 1, 1) := by decide +kernel
theorem dX7_slideOf_11 : decode cX7_slideOf 11 = .ok (.iconst 1, 1) := by decide +kernel
theorem dX7_slideOf_12 : decode cX7_slideOf 12 = .ok (.iadd, 1) := by decide +kernel
theorem dX7_slideOf_13 : decode cX7_slideOf 13 = .ok (.istore_n 3, 1) := by decide +kernel
theorem dX7_slideOf_14 : decode cX7_slideOf 14 = .ok (.iload_n 3, 1) := by decide +kernel
theorem dX7_slideOf_15 : decode cX7_slideOf 15 = .ok (.aload_n 0, 1) := by decide +kernel
theorem dX7_slideOf_16 : decode cX7_slideOf 16 = .ok (.getfield 7, 3) := by decide +kernel
theorem dX7_slideOf_19 : decode cX7_slideOf 19 = .ok (.if_icmp .ge 34, 3) := by decide +kernel
theorem dX7_slideOf_22 : decode cX7_slideOf 22 = .ok (.aload_n 0, 1) := by decide +kernel
theorem dX7_slideOf_23 : decode cX7_slideOf 23 = .ok (.getfield 13, 3) := by decide +kernel
theorem dX7_slideOf_26 : decode cX7_slideOf 26 = .ok (.iload_n 3, 1) := by decide +kernel
theorem dX7_slideOf_27 : decode cX7_slideOf 27 = .ok (.iaload, 1) := by decide +kernel
theorem dX7_slideOf_28 : decode cX7_slideOf 28 = .ok (.iload_n 2, 1) := by decide +kernel
theorem dX7_slideOf_29 : decode cX7_slideOf 29 = .ok (.if_icmp .lt 24, 3) := by decide +kernel
theorem dX7_slideOf_32 : decode cX7_slideOf 32 = .ok (.aload_n 0, 1) := by decide +kernel
theorem dX7_slideOf_33 : decode cX7_slideOf 33 = .ok (.dup, 1) := by decide +kernel
theorem dX7_slideOf_34 : decode cX7_slideOf 34 = .ok (.getfield 189, 3) := by decide +kernel
theorem dX7_slideOf_37 : decode cX7_slideOf 37 = .ok (.aload_n 0, 1) := by decide +kernel
theorem dX7_slideOf_38 : decode cX7_slideOf 38 = .ok (.getfield 13, 3) := by decide +kernel
theorem dX7_slideOf_41 : decode cX7_slideOf 41 = .ok (.iload_n 3, 1) := by decide +kernel
theorem dX7_slideOf_42 : decode cX7_slideOf 42 = .ok (.iaload, 1) := by decide +kernel
theorem dX7_slideOf_43 : decode cX7_slideOf 43 = .ok (.iadd, 1) := by decide +kernel
theorem dX7_slideOf_44 : decode cX7_slideOf 44 = .ok (.putfield 189, 3) := by decide +kernel
theorem dX7_slideOf_47 : decode cX7_slideOf 47 = .ok (.iinc 3 1, 3) := by decide +kernel
theorem dX7_slideOf_50 : decode cX7_slideOf 50 = .ok (.goto (-36), 3) := by decide +kernel
theorem dX7_slideOf_53 : decode cX7_slideOf 53 = .ok (.iload_n 3, 1) := by decide +kernel
theorem dX7_slideOf_54 : decode cX7_slideOf 54 = .ok (.aload_n 0, 1) := by decide +kernel
theorem dX7_slideOf_55 : decode cX7_slideOf 55 = .ok (.getfield 7, 3) := by decide +kernel
theorem dX7_slideOf_58 : decode cX7_slideOf 58 = .ok (.if_icmp .ge 7, 3) := by decide +kernel
theorem dX7_slideOf_61 : decode cX7_slideOf 61 = .ok (.iload_n 3, 1) := by decide +kernel
theorem dX7_slideOf_62 : decode cX7_slideOf 62 = .ok (.goto 5, 3) := by decide +kernel
theorem dX7_slideOf_65 : decode cX7_slideOf 65 = .ok (.bipush (-6), 2) := by decide +kernel
theorem dX7_slideOf_67 : decode cX7_slideOf 67 = .ok (.ireturn, 1) := by decide +kernel
theorem dX7_snow_0 : decode cX7_snow 0 = .ok (.aload_n 0, 1) := by decide +kernel
theorem dX7_snow_1 : decode cX7_snow 1 = .ok (.iload_n 1, 1) := by decide +kernel
theorem dX7_snow_2 : decode cX7_snow 2 = .ok (.iload_n 2, 1) := by decide +kernel
theorem dX7_snow_3 : decode cX7_snow 3 = .ok (.iload_n 3, 1) := by decide +kernel
theorem dX7_snow_4 : decode cX7_snow 4 = .ok (.invokevirtual 125, 3) := by decide +kernel
theorem dX7_snow_7 : decode cX7_snow 7 = .ok (.istore 4, 2) := by decide +kernel
theorem dX7_snow_9 : decode cX7_snow 9 = .ok (.aload_n 0, 1) := by decide +kernel
theorem dX7_snow_10 : decode cX7_snow 10 = .ok (.getfield 44, 3) := by decide +kernel
theorem dX7_snow_13 : decode cX7_snow 13 = .ok (.iload_n 1, 1) := by decide +kernel
theorem dX7_snow_14 : decode cX7_snow 14 = .ok (.dup2, 1) := by decide +kernel
theorem dX7_snow_15 : decode cX7_snow 15 = .ok (.iaload, 1) := by decide +kernel
theorem dX7_snow_16 : decode cX7_snow 16 = .ok (.iload 4, 2) := by decide +kernel
theorem dX7_snow_18 : decode cX7_snow 18 = .ok (.iadd, 1) := by decide +kernel
theorem dX7_snow_19 : decode cX7_snow 19 = .ok (.iastore, 1) := by decide +kernel
theorem dX7_snow_20 : decode cX7_snow 20 = .ok (.aload_n 0, 1) := by decide +kernel
theorem dX7_snow_21 : decode cX7_snow 21 = .ok (.getfield 53, 3) := by decide +kernel
theorem dX7_snow_24 : decode cX7_snow 24 = .ok (.bipush 8, 2) := by decide +kernel
theorem dX7_snow_26 : decode cX7_snow 26 = .ok (.iload_n 1, 1) := by decide +kernel
theorem dX7_snow_27 : decode cX7_snow 27 = .ok (.imul, 1) := by decide +kernel
theorem dX7_snow_28 : decode cX7_snow 28 = .ok (.iload_n 2, 1) := by decide +kernel
theorem dX7_snow_29 : decode cX7_snow 29 = .ok (.iadd, 1) := by decide +kernel
theorem dX7_snow_30 : decode cX7_snow 30 = .ok (.dup2, 1) := by decide +kernel
theorem dX7_snow_31 : decode cX7_snow 31 = .ok (.iaload, 1) := by decide +kernel
theorem dX7_snow_32 : decode cX7_snow 32 = .ok (.iload 4, 2) := by decide +kernel
theorem dX7_snow_34 : decode cX7_snow 34 = .ok (.iadd, 1) := by decide +kernel
theorem dX7_snow_35 : decode cX7_snow 35 = .ok (.iastore, 1) := by decide +kernel
theorem dX7_snow_36 : decode cX7_snow 36 = .ok (.aload_n 0, 1) := by decide +kernel
theorem dX7_snow_37 : decode cX7_snow 37 = .ok (.getfield 50, 3) := by decide +kernel
theorem dX7_snow_40 : decode cX7_snow 40 = .ok (.iload_n 1, 1) := by decide +kernel
theorem dX7_snow_41 : decode cX7_snow 41 = .ok (.dup2, 1) := by decide +kernel
theorem dX7_snow_42 : decode cX7_snow 42 = .ok (.iaload, 1) := by decide +kernel
theorem dX7_snow_43 : decode cX7_snow 43 = .ok (.iconst 1, 1) := by decide +kernel
theorem dX7_snow_44 : decode cX7_snow 44 = .ok (.iload_n 2, 1) := by decide +kernel
theorem dX7_snow_45 : decode cX7_snow 45 = .ok (.ishl, 1) := by decide +kernel
theorem dX7_snow_46 : decode cX7_snow 46 = .ok (.ior, 1) := by decide +kernel
theorem dX7_snow_47 : decode cX7_snow 47 = .ok (.iastore, 1) := by decide +kernel
theorem dX7_snow_48 : decode cX7_snow 48 = .ok (.return_, 1) := by decide +kernel
theorem dX7_speak_0 : decode cX7_speak 0 = .ok (.iload_n 3, 1) := by decide +kernel
theorem dX7_speak_1 : decode cX7_speak 1 = .ok (.bipush 43, 2) := by decide +kernel
theorem dX7_speak_3 : decode cX7_speak 3 = .ok (.if_icmp .ne 25, 3) := by decide +kernel
theorem dX7_speak_6 : decode cX7_speak 6 = .ok (.aload_n 0, 1) := by decide +kernel
theorem dX7_speak_7 : decode cX7_speak 7 = .ok (.getfield 44, 3) := by decide +kernel
theorem dX7_speak_10 : decode cX7_speak 10 = .ok (.iload_n 1, 1) := by decide +kernel
theorem dX7_speak_11 : decode cX7_speak 11 = .ok (.aload_n 0, 1) := by decide +kernel
theorem dX7_speak_12 : decode cX7_speak 12 = .ok (.getfield 44, 3) := by decide +kernel
theorem dX7_speak_15 : decode cX7_speak 15 = .ok (.iload_n 1, 1) := by decide +kernel
theorem dX7_speak_16 : decode cX7_speak 16 = .ok (.iaload, 1) := by decide +kernel
theorem dX7_speak_17 : decode cX7_speak 17 = .ok (.aload_n 0, 1) := by decide +kernel
theorem dX7_speak_18 : decode cX7_speak 18 = .ok (.getfield 35, 3) := by decide +kernel
theorem dX7_speak_21 : decode cX7_speak 21 = .ok (.invokestatic 129, 3) := by decide +kernel
theorem dX7_speak_24 : decode cX7_speak 24 = .ok (.iastore, 1) := by decide +kernel
theorem dX7_speak_25 : decode cX7_speak 25 = .ok (.goto 10, 3) := by decide +kernel
theorem dX7_speak_28 : decode cX7_speak 28 = .ok (.aload_n 0, 1) := by decide +kernel
theorem dX7_speak_29 : decode cX7_speak 29 = .ok (.iload_n 1, 1) := by decide +kernel
theorem dX7_speak_30 : decode cX7_speak 30 = .ok (.iload_n 2, 1) := by decide +kernel
theorem dX7_speak_31 : decode cX7_speak 31 = .ok (.iload_n 3, 1) := by decide +kernel
theorem dX7_speak_32 : decode cX7_speak 32 = .ok (.invokevirtual 133, 3) := by decide +kernel
theorem dX7_speak_35 : decode cX7_speak 35 = .ok (.return_, 1) := by decide +kernel
theorem dX7_state_0 : decode cX7_state 0 = .ok (.aload_n 0, 1) := by decide +kernel
theorem dX7_state_1 : decode cX7_state 1 = .ok (.iload_n 1, 1) := by decide +kernel
theorem dX7_state_2 : decode cX7_state 2 = .ok (.invokevirtual 95, 3) := by decide +kernel
theorem dX7_state_5 : decode cX7_state 5 = .ok (.ifCond .ne 5, 3) := by decide +kernel
theorem dX7_state_8 : decode cX7_state 8 = .ok (.iconst (-1), 1) := by decide +kernel
theorem dX7_state_9 : decode cX7_state 9 = .ok (.ireturn, 1) := by decide +kernel
theorem dX7_state_10 : decode cX7_state 10 = .ok (.iload_n 2, 1) := by decide +kernel
theorem dX7_state_11 : decode cX7_state 11 = .ok (.ifCond .ne 12, 3) := by decide +kernel
theorem dX7_state_14 : decode cX7_state 14 = .ok (.aload_n 0, 1) := by decide +kernel
theorem dX7_state_15 : decode cX7_state 15 = .ok (.getfield 13, 3) := by decide +kernel
theorem dX7_state_18 : decode cX7_state 18 = .ok (.iload_n 1, 1) := by decide +kernel
theorem dX7_state_19 : decode cX7_state 19 = .ok (.iaload, 1) := by decide +kernel
theorem dX7_state_20 : decode cX7_state 20 = .ok (.goto 21, 3) := by decide +kernel
theorem dX7_state_23 : decode cX7_state 23 = .ok (.iload_n 2, 1) := by decide +kernel
theorem dX7_state_24 : decode cX7_state 24 = .ok (.iconst 1, 1) := by decide +kernel
theorem dX7_state_25 : decode cX7_state 25 = .ok (.if_icmp .ne 14, 3) := by decide +kernel
theorem dX7_state_28 : decode cX7_state 28 = .ok (.aload_n 0, 1) := by decide +kernel
theorem dX7_state_29 : decode cX7_state 29 = .ok (.getfield 82, 3) := by decide +kernel
theorem dX7_state_32 : decode cX7_state 32 = .ok (.iload_n 1, 1) := by decide +kernel
theorem dX7_state_33 : decode cX7_state 33 = .ok (.ishr, 1) := by decide +kernel
theorem dX7_state_34 : decode cX7_state 34 = .ok (.iconst 1, 1) := by decide +kernel
theorem dX7_state_35 : decode cX7_state 35 = .ok (.iand, 1) := by decide +kernel
theorem dX7_state_36 : decode cX7_state 36 = .ok (.goto 5, 3) := by decide +kernel
theorem dX7_state_39 : decode cX7_state 39 = .ok (.bipush (-2), 2) := by decide +kernel
theorem dX7_state_41 : decode cX7_state 41 = .ok (.ireturn, 1) := by decide +kernel
theorem dX7_tens_0 : decode cX7_tens 0 = .ok (.lconst 1, 1) := by decide +kernel
theorem dX7_tens_1 : decode cX7_tens 1 = .ok (.lstore_n 1, 1) := by decide +kernel
theorem dX7_tens_2 : decode cX7_tens 2 = .ok (.iconst 0, 1) := by decide +kernel
theorem dX7_tens_3 : decode cX7_tens 3 = .ok (.istore_n 3, 1) := by decide +kernel
theorem dX7_tens_4 : decode cX7_tens 4 = .ok (.iload_n 3, 1) := by decide +kernel
theorem dX7_tens_5 : decode cX7_tens 5 = .ok (.iload_n 0, 1) := by decide +kernel
theorem dX7_tens_6 : decode cX7_tens 6 = .ok (.if_icmp .ge 15, 3) := by decide +kernel
theorem dX7_tens_9 : decode cX7_tens 9 = .ok (.lload_n 1, 1) := by decide +kernel
theorem dX7_tens_10 : decode cX7_tens 10 = .ok (.ldc2_w 216, 3) := by decide +kernel
theorem dX7_tens_13 : decode cX7_tens 13 = .ok (.lmul, 1) := by decide +kernel
theorem dX7_tens_14 : decode cX7_tens 14 = .ok (.lstore_n 1, 1) := by decide +kernel
theorem dX7_tens_15 : decode cX7_tens 15 = .ok (.iinc 3 1, 3) := by decide +kernel
theorem dX7_tens_18 : decode cX7_tens 18 = .ok (.goto (-14), 3) := by decide +kernel
theorem dX7_tens_21 : decode cX7_tens 21 = .ok (.lload_n 1, 1) := by decide +kernel
theorem dX7_tens_22 : decode cX7_tens 22 = .ok (.lreturn, 1) := by decide +kernel
theorem dX7_thaw_0 : decode cX7_thaw 0 = .ok (.iconst 0, 1) := by decide +kernel
theorem dX7_thaw_1 : decode cX7_thaw 1 = .ok (.istore_n 1, 1) := by decide +kernel
theorem dX7_thaw_2 : decode cX7_thaw 2 = .ok (.iload_n 1, 1) := by decide +kernel
theorem dX7_thaw_3 : decode cX7_thaw 3 = .ok (.aload_n 0, 1) := by decide +kernel
theorem dX7_thaw_4 : decode cX7_thaw 4 = .ok (.getfield 7, 3) := by decide +kernel
theorem dX7_thaw_7 : decode cX7_thaw 7 = .ok (.if_icmp .ge 57, 3) := by decide +kernel
theorem dX7_thaw_10 : decode cX7_thaw 10 = .ok (.aload_n 0, 1) := by decide +kernel
theorem dX7_thaw_11 : decode cX7_thaw 11 = .ok (.getfield 44, 3) := by decide +kernel
theorem dX7_thaw_14 : decode cX7_thaw 14 = .ok (.iload_n 1, 1) := by decide +kernel
theorem dX7_thaw_15 : decode cX7_thaw 15 = .ok (.iaload, 1) := by decide +kernel
theorem dX7_thaw_16 : decode cX7_thaw 16 = .ok (.iconst 3, 1) := by decide +kernel
theorem dX7_thaw_17 : decode cX7_thaw 17 = .ok (.if_icmp .ge 12, 3) := by decide +kernel
theorem dX7_thaw_20 : decode cX7_thaw 20 = .ok (.aload_n 0, 1) := by decide +kernel
theorem dX7_thaw_21 : decode cX7_thaw 21 = .ok (.getfield 44, 3) := by decide +kernel
theorem dX7_thaw_24 : decode cX7_thaw 24 = .ok (.iload_n 1, 1) := by decide +kernel
theorem dX7_thaw_25 : decode cX7_thaw 25 = .ok (.iaload, 1) := by decide +kernel
theorem dX7_thaw_26 : decode cX7_thaw 26 = .ok (.goto 4, 3) := by decide +kernel
theorem dX7_thaw_29 : decode cX7_thaw 29 = .ok (.iconst 3, 1) := by decide +kernel
theorem dX7_thaw_30 : decode cX7_thaw 30 = .ok (.istore_n 2, 1) := by decide +kernel
theorem dX7_thaw_31 : decode cX7_thaw 31 = .ok (.aload_n 0, 1) := by decide +kernel
theorem dX7_thaw_32 : decode cX7_thaw 32 = .ok (.getfield 44, 3) := by decide +kernel
theorem dX7_thaw_35 : decode cX7_thaw 35 = .ok (.iload_n 1, 1) := by decide +kernel
theorem dX7_thaw_36 : decode cX7_thaw 36 = .ok (.dup2, 1) := by decide +kernel
theorem dX7_thaw_37 : decode cX7_thaw 37 = .ok (.iaload, 1) := by decide +kernel
theorem dX7_thaw_38 : decode cX7_thaw 38 = .ok (.iload_n 2, 1) := by decide +kernel
theorem dX7_thaw_39 : decode cX7_thaw 39 = .ok (.isub, 1) := by decide +kernel
theorem dX7_thaw_40 : decode cX7_thaw 40 = .ok (.iastore, 1) := by decide +kernel
theorem dX7_thaw_41 : decode cX7_thaw 41 = .ok (.aload_n 0, 1) := by decide +kernel
theorem dX7_thaw_42 : decode cX7_thaw 42 = .ok (.dup, 1) := by decide +kernel
theorem dX7_thaw_43 : decode cX7_thaw 43 = .ok (.getfield 109, 3) := by decide +kernel
theorem dX7_thaw_46 : decode cX7_thaw 46 = .ok (.iload_n 2, 1) := by decide +kernel
theorem dX7_thaw_47 : decode cX7_thaw 47 = .ok (.iadd, 1) := by decide +kernel
theorem dX7_thaw_48 : decode cX7_thaw 48 = .ok (.putfield 109, 3) := by decide +kernel
theorem dX7_thaw_51 : decode cX7_thaw 51 = .ok (.aload_n 0, 1) := by decide +kernel
theorem dX7_thaw_52 : decode cX7_thaw 52 = .ok (.getfield 50, 3) := by decide +kernel
theorem dX7_thaw_55 : decode cX7_thaw 55 = .ok (.iload_n 1, 1) := by decide +kernel
theorem dX7_thaw_56 : decode cX7_thaw 56 = .ok (.iconst 0, 1) := by decide +kernel
theorem dX7_thaw_57 : decode cX7_thaw 57 = .ok (.iastore, 1) := by decide +kernel
theorem dX7_thaw_58 : decode cX7_thaw 58 = .ok (.iinc 1 1, 3) := by decide +kernel
theorem dX7_thaw_61 : decode cX7_thaw 61 = .ok (.goto (-59), 3) := by decide +kernel
theorem dX7_thaw_64 : decode cX7_thaw 64 = .ok (.iconst 0, 1) := by decide +kernel
theorem dX7_thaw_65 : decode cX7_thaw 65 = .ok (.istore_n 1, 1) := by decide +kernel
theorem dX7_thaw_66 : decode cX7_thaw 66 = .ok (.iload_n 1, 1) := by decide +kernel
theorem dX7_thaw_67 : decode cX7_thaw 67 = .ok (.bipush 64, 2) := by decide +kernel
theorem dX7_thaw_69 : decode cX7_thaw 69 = .ok (.if_icmp .ge 16, 3) := by decide +kernel
theorem dX7_thaw_72 : decode cX7_thaw 72 = .ok (.aload_n 0, 1) := by decide +kernel
theorem dX7_thaw_73 : decode cX7_thaw 73 = .ok (.getfield 53, 3) := by decide +kernel
theorem dX7_thaw_76 : decode cX7_thaw 76 = .ok (.iload_n 1, 1) := by decide +kernel
theorem dX7_thaw_77 : decode cX7_thaw 77 = .ok (.iconst 0, 1) := by decide +kernel
theorem dX7_thaw_78 : decode cX7_thaw 78 = .ok (.iastore, 1) := by decide +kernel
theorem dX7_thaw_79 : decode cX7_thaw 79 = .ok (.iinc 1 1, 3) := by decide +kernel
theorem dX7_thaw_82 : decode cX7_thaw 82 = .ok (.goto (-16), 3) := by decide +kernel
theorem dX7_thaw_85 : decode cX7_thaw 85 = .ok (.return_, 1) := by decide +kernel
theorem dX7_told_0 : decode cX7_told 0 = .ok (.iload_n 1, 1) := by decide +kernel
theorem dX7_told_1 : decode cX7_told 1 = .ok (.bipush 10, 2) := by decide +kernel
theorem dX7_told_3 : decode cX7_told 3 = .ok (.if_icmp .lt 29, 3) := by decide +kernel
theorem dX7_told_6 : decode cX7_told 6 = .ok (.aload_n 0, 1) := by decide +kernel
theorem dX7_told_7 : decode cX7_told 7 = .ok (.iload_n 1, 1) := by decide +kernel
theorem dX7_told_8 : decode cX7_told 8 = .ok (.bipush 10, 2) := by decide +kernel
theorem dX7_told_10 : decode cX7_told 10 = .ok (.isub, 1) := by decide +kernel
theorem dX7_told_11 : decode cX7_told 11 = .ok (.invokevirtual 95, 3) := by decide +kernel
theorem dX7_told_14 : decode cX7_told 14 = .ok (.ifCond .eq 15, 3) := by decide +kernel
theorem dX7_told_17 : decode cX7_told 17 = .ok (.aload_n 0, 1) := by decide +kernel
theorem dX7_told_18 : decode cX7_told 18 = .ok (.getfield 17, 3) := by decide +kernel
theorem dX7_told_21 : decode cX7_told 21 = .ok (.iload_n 1, 1) := by decide +kernel
theorem dX7_told_22 : decode cX7_told 22 = .ok (.bipush 10, 2) := by decide +kernel
theorem dX7_told_24 : decode cX7_told 24 = .ok (.isub, 1) := by decide +kernel
theorem dX7_told_25 : decode cX7_told 25 = .ok (.iaload, 1) := by decide +kernel
theorem dX7_told_26 : decode cX7_told 26 = .ok (.goto 5, 3) := by decide +kernel
theorem dX7_told_29 : decode cX7_told 29 = .ok (.bipush (-2), 2) := by decide +kernel
theorem dX7_told_31 : decode cX7_told 31 = .ok (.ireturn, 1) := by decide +kernel
theorem dX7_told_32 : decode cX7_told 32 = .ok (.iload_n 1, 1) := by decide +kernel
theorem dX7_told_33 : decode cX7_told 33 = .ok (.tableswitch 78 0 6 #[43, 48, 53, 58, 63, 68, 73], 43) := by decide +kernel
theorem dX7_told_76 : decode cX7_told 76 = .ok (.aload_n 0, 1) := by decide +kernel
theorem dX7_told_77 : decode cX7_told 77 = .ok (.getfield 99, 3) := by decide +kernel
theorem dX7_told_80 : decode cX7_told 80 = .ok (.ireturn, 1) := by decide +kernel
theorem dX7_told_81 : decode cX7_told 81 = .ok (.aload_n 0, 1) := by decide +kernel
theorem dX7_told_82 : decode cX7_told 82 = .ok (.getfield 7, 3) := by decide +kernel
theorem dX7_told_85 : decode cX7_told 85 = .ok (.ireturn, 1) := by decide +kernel
theorem dX7_told_86 : decode cX7_told 86 = .ok (.aload_n 0, 1) := by decide +kernel
theorem dX7_told_87 : decode cX7_told 87 = .ok (.getfield 85, 3) := by decide +kernel
theorem dX7_told_90 : decode cX7_told 90 = .ok (.ireturn, 1) := by decide +kernel
theorem dX7_told_91 : decode cX7_told 91 = .ok (.aload_n 0, 1) := by decide +kernel
theorem dX7_told_92 : decode cX7_told 92 = .ok (.getfield 26, 3) := by decide +kernel
theorem dX7_told_95 : decode cX7_told 95 = .ok (.ireturn, 1) := by decide +kernel
theorem dX7_told_96 : decode cX7_told 96 = .ok (.aload_n 0, 1) := by decide +kernel
theorem dX7_told_97 : decode cX7_told 97 = .ok (.getfield 29, 3) := by decide +kernel
theorem dX7_told_100 : decode cX7_told 100 = .ok (.ireturn, 1) := by decide +kernel
theorem dX7_told_101 : decode cX7_told 101 = .ok (.aload_n 0, 1) := by decide +kernel
theorem dX7_told_102 : decode cX7_told 102 = .ok (.getfield 32, 3) := by decide +kernel
theorem dX7_told_105 : decode cX7_told 105 = .ok (.ireturn, 1) := by decide +kernel
theorem dX7_told_106 : decode cX7_told 106 = .ok (.aload_n 0, 1) := by decide +kernel
theorem dX7_told_107 : decode cX7_told 107 = .ok (.getfield 35, 3) := by decide +kernel
theorem dX7_told_110 : decode cX7_told 110 = .ok (.ireturn, 1) := by decide +kernel
theorem dX7_told_111 : decode cX7_told 111 = .ok (.iload_n 1, 1) := by decide +kernel
theorem dX7_told_112 : decode cX7_told 112 = .ok (.bipush 7, 2) := by decide +kernel
theorem dX7_told_114 : decode cX7_told 114 = .ok (.if_icmp .ne 10, 3) := by decide +kernel
theorem dX7_told_117 : decode cX7_told 117 = .ok (.aload_n 0, 1) := by decide +kernel
theorem dX7_told_118 : decode cX7_told 118 = .ok (.getfield 88, 3) := by decide +kernel
theorem dX7_told_121 : decode cX7_told 121 = .ok (.goto 5, 3) := by decide +kernel
theorem dX7_told_124 : decode cX7_told 124 = .ok (.bipush (-2), 2) := by decide +kernel
theorem dX7_told_126 : decode cX7_told 126 = .ok (.ireturn, 1) := by decide +kernel
theorem dX7_unsaid_0 : decode cX7_unsaid 0 = .ok (.iconst 0, 1) := by decide +kernel
theorem dX7_unsaid_1 : decode cX7_unsaid 1 = .ok (.istore_n 1, 1) := by decide +kernel
theorem dX7_unsaid_2 : decode cX7_unsaid 2 = .ok (.aload_n 0, 1) := by decide +kernel
theorem dX7_unsaid_3 : decode cX7_unsaid 3 = .ok (.invokevirtual 168, 3) := by decide +kernel
theorem dX7_unsaid_6 : decode cX7_unsaid 6 = .ok (.iconst 0, 1) := by decide +kernel
theorem dX7_unsaid_7 : decode cX7_unsaid 7 = .ok (.istore_n 2, 1) := by decide +kernel
theorem dX7_unsaid_8 : decode cX7_unsaid 8 = .ok (.iload_n 2, 1) := by decide +kernel
theorem dX7_unsaid_9 : decode cX7_unsaid 9 = .ok (.aload_n 0, 1) := by decide +kernel
theorem dX7_unsaid_10 : decode cX7_unsaid 10 = .ok (.getfield 178, 3) := by decide +kernel
theorem dX7_unsaid_13 : decode cX7_unsaid 13 = .ok (.if_icmp .ge 104, 3) := by decide +kernel
theorem dX7_unsaid_16 : decode cX7_unsaid 16 = .ok (.aload_n 0, 1) := by decide +kernel
theorem dX7_unsaid_17 : decode cX7_unsaid 17 = .ok (.getfield 41, 3) := by decide +kernel
theorem dX7_unsaid_20 : decode cX7_unsaid 20 = .ok (.iconst 3, 1) := by decide +kernel
theorem dX7_unsaid_21 : decode cX7_unsaid 21 = .ok (.iload_n 2, 1) := by decide +kernel
theorem dX7_unsaid_22 : decode cX7_unsaid 22 = .ok (.imul, 1) := by decide +kernel
theorem dX7_unsaid_23 : decode cX7_unsaid 23 = .ok (.iconst 1, 1) := by decide +kernel
theorem dX7_unsaid_24 : decode cX7_unsaid 24 = .ok (.iadd, 1) := by decide +kernel
theorem dX7_unsaid_25 : decode cX7_unsaid 25 = .ok (.iaload, 1) := by decide +kernel
theorem dX7_unsaid_26 : decode cX7_unsaid 26 = .ok (.bipush 65, 2) := by decide +kernel
theorem dX7_unsaid_28 : decode cX7_unsaid 28 = .ok (.isub, 1) := by decide +kernel
theorem dX7_unsaid_29 : decode cX7_unsaid 29 = .ok (.istore_n 3, 1) := by decide +kernel
theorem dX7_unsaid_30 : decode cX7_unsaid 30 = .ok (.aload_n 0, 1) := by decide +kernel
theorem dX7_unsaid_31 : decode cX7_unsaid 31 = .ok (.getfield 41, 3) := by decide +kernel
theorem dX7_unsaid_34 : decode cX7_unsaid 34 = .ok (.iconst 3, 1) := by decide +kernel
theorem dX7_unsaid_35 : decode cX7_unsaid 35 = .ok (.iload_n 2, 1) := by decide +kernel
theorem dX7_unsaid_36 : decode cX7_unsaid 36 = .ok (.imul, 1) := by decide +kernel
theorem dX7_unsaid_37 : decode cX7_unsaid 37 = .ok (.iconst 2, 1) := by decide +kernel
theorem dX7_unsaid_38 : decode cX7_unsaid 38 = .ok (.iadd, 1) := by decide +kernel
theorem dX7_unsaid_39 : decode cX7_unsaid 39 = .ok (.iaload, 1) := by decide +kernel
theorem dX7_unsaid_40 : decode cX7_unsaid 40 = .ok (.istore 4, 2) := by decide +kernel
theorem dX7_unsaid_42 : decode cX7_unsaid 42 = .ok (.aload_n 0, 1) := by decide +kernel
theorem dX7_unsaid_43 : decode cX7_unsaid 43 = .ok (.getfield 56, 3) := by decide +kernel
theorem dX7_unsaid_46 : decode cX7_unsaid 46 = .ok (.iload_n 2, 1) := by decide +kernel
theorem dX7_unsaid_47 : decode cX7_unsaid 47 = .ok (.iaload, 1) := by decide +kernel
theorem dX7_unsaid_48 : decode cX7_unsaid 48 = .ok (.aload_n 0, 1) := by decide +kernel
theorem dX7_unsaid_49 : decode cX7_unsaid 49 = .ok (.getfield 7, 3) := by decide +kernel
theorem dX7_unsaid_52 : decode cX7_unsaid 52 = .ok (.if_icmp .ne 9, 3) := by decide +kernel
theorem dX7_unsaid_55 : decode cX7_unsaid 55 = .ok (.iinc 1 1, 3) := by decide +kernel
theorem dX7_unsaid_58 : decode cX7_unsaid 58 = .ok (.goto 53, 3) := by decide +kernel
theorem dX7_unsaid_61 : decode cX7_unsaid 61 = .ok (.aload_n 0, 1) := by decide +kernel
theorem dX7_unsaid_62 : decode cX7_unsaid 62 = .ok (.aload_n 0, 1) := by decide +kernel
theorem dX7_unsaid_63 : decode cX7_unsaid 63 = .ok (.getfield 56, 3) := by decide +kernel
theorem dX7_unsaid_66 : decode cX7_unsaid 66 = .ok (.iload_n 2, 1) := by decide +kernel
theorem dX7_unsaid_67 : decode cX7_unsaid 67 = .ok (.iaload, 1) := by decide +kernel
theorem dX7_unsaid_68 : decode cX7_unsaid 68 = .ok (.iload_n 3, 1) := by decide +kernel
theorem dX7_unsaid_69 : decode cX7_unsaid 69 = .ok (.iload 4, 2) := by decide +kernel
theorem dX7_unsaid_71 : decode cX7_unsaid 71 = .ok (.invokevirtual 159, 3) := by decide +kernel
theorem dX7_unsaid_74 : decode cX7_unsaid 74 = .ok (.ifCond .le 6, 3) := by decide +kernel
theorem dX7_unsaid_77 : decode cX7_unsaid 77 = .ok (.ldc 181, 2) := by decide +kernel
theorem dX7_unsaid_79 : decode cX7_unsaid 79 = .ok (.ireturn, 1) := by decide +kernel
theorem dX7_unsaid_80 : decode cX7_unsaid 80 = .ok (.aload_n 0, 1) := by decide +kernel
theorem dX7_unsaid_81 : decode cX7_unsaid 81 = .ok (.aload_n 0, 1) := by decide +kernel
theorem dX7_unsaid_82 : decode cX7_unsaid 82 = .ok (.getfield 56, 3) := by decide +kernel
theorem dX7_unsaid_85 : decode cX7_unsaid 85 = .ok (.iload_n 2, 1) := by decide +kernel
theorem dX7_unsaid_86 : decode cX7_unsaid 86 = .ok (.iaload, 1) := by decide +kernel
theorem dX7_unsaid_87 : decode cX7_unsaid 87 = .ok (.iload_n 3, 1) := by decide +kernel
theorem dX7_unsaid_88 : decode cX7_unsaid 88 = .ok (.iload 4, 2) := by decide +kernel
theorem dX7_unsaid_90 : decode cX7_unsaid 90 = .ok (.invokevirtual 162, 3) := by decide +kernel
theorem dX7_unsaid_93 : decode cX7_unsaid 93 = .ok (.aload_n 0, 1) := by decide +kernel
theorem dX7_unsaid_94 : decode cX7_unsaid 94 = .ok (.invokevirtual 165, 3) := by decide +kernel
theorem dX7_unsaid_97 : decode cX7_unsaid 97 = .ok (.aload_n 0, 1) := by decide +kernel
theorem dX7_unsaid_98 : decode cX7_unsaid 98 = .ok (.getfield 106, 3) := by decide +kernel
theorem dX7_unsaid_101 : decode cX7_unsaid 101 = .ok (.aload_n 0, 1) := by decide +kernel
theorem dX7_unsaid_102 : decode cX7_unsaid 102 = .ok (.getfield 82, 3) := by decide +kernel
theorem dX7_unsaid_105 : decode cX7_unsaid 105 = .ok (.if_icmp .eq 6, 3) := by decide +kernel
theorem dX7_unsaid_108 : decode cX7_unsaid 108 = .ok (.ldc 181, 2) := by decide +kernel
theorem dX7_unsaid_110 : decode cX7_unsaid 110 = .ok (.ireturn, 1) := by decide +kernel
theorem dX7_unsaid_111 : decode cX7_unsaid 111 = .ok (.iinc 2 1, 3) := by decide +kernel
theorem dX7_unsaid_114 : decode cX7_unsaid 114 = .ok (.goto (-106), 3) := by decide +kernel
theorem dX7_unsaid_117 : decode cX7_unsaid 117 = .ok (.iload_n 1, 1) := by decide +kernel
theorem dX7_unsaid_118 : decode cX7_unsaid 118 = .ok (.ireturn, 1) := by decide +kernel
theorem dX7_where_0 : decode cX7_where 0 = .ok (.aload_n 0, 1) := by decide +kernel
theorem dX7_where_1 : decode cX7_where 1 = .ok (.invokevirtual 182, 3) := by decide +kernel
theorem dX7_where_4 : decode cX7_where 4 = .ok (.ifCond .ne 6, 3) := by decide +kernel
theorem dX7_where_7 : decode cX7_where 7 = .ok (.bipush (-5), 2) := by decide +kernel
theorem dX7_where_9 : decode cX7_where 9 = .ok (.ireturn, 1) := by decide +kernel
theorem dX7_where_10 : decode cX7_where 10 = .ok (.aload_n 0, 1) := by decide +kernel
theorem dX7_where_11 : decode cX7_where 11 = .ok (.getfield 99, 3) := by decide +kernel
theorem dX7_where_14 : decode cX7_where 14 = .ok (.bipush 12, 2) := by decide +kernel
theorem dX7_where_16 : decode cX7_where 16 = .ok (.if_icmp .le 6, 3) := by decide +kernel
theorem dX7_where_19 : decode cX7_where 19 = .ok (.bipush (-4), 2) := by decide +kernel
theorem dX7_where_21 : decode cX7_where 21 = .ok (.ireturn, 1) := by decide +kernel
theorem dX7_where_22 : decode cX7_where 22 = .ok (.aload_n 0, 1) := by decide +kernel
theorem dX7_where_23 : decode cX7_where 23 = .ok (.aload_n 0, 1) := by decide +kernel
theorem dX7_where_24 : decode cX7_where 24 = .ok (.getfield 99, 3) := by decide +kernel
theorem dX7_where_27 : decode cX7_where 27 = .ok (.iconst 3, 1) := by decide +kernel
theorem dX7_where_28 : decode cX7_where 28 = .ok (.idiv, 1) := by decide +kernel
theorem dX7_where_29 : decode cX7_where 29 = .ok (.putfield 178, 3) := by decide +kernel
theorem dX7_where_32 : decode cX7_where 32 = .ok (.iconst 1, 1) := by decide +kernel
theorem dX7_where_33 : decode cX7_where 33 = .ok (.istore_n 2, 1) := by decide +kernel
theorem dX7_where_34 : decode cX7_where 34 = .ok (.iconst 0, 1) := by decide +kernel
theorem dX7_where_35 : decode cX7_where 35 = .ok (.istore_n 3, 1) := by decide +kernel
theorem dX7_where_36 : decode cX7_where 36 = .ok (.iload_n 3, 1) := by decide +kernel
theorem dX7_where_37 : decode cX7_where 37 = .ok (.aload_n 0, 1) := by decide +kernel
theorem dX7_where_38 : decode cX7_where 38 = .ok (.getfield 178, 3) := by decide +kernel
theorem dX7_where_41 : decode cX7_where 41 = .ok (.if_icmp .ge 18, 3) := by decide +kernel
theorem dX7_where_44 : decode cX7_where 44 = .ok (.iload_n 2, 1) := by decide +kernel
theorem dX7_where_45 : decode cX7_where 45 = .ok (.aload_n 0, 1) := by decide +kernel
theorem dX7_where_46 : decode cX7_where 46 = .ok (.getfield 7, 3) := by decide +kernel
theorem dX7_where_49 : decode cX7_where 49 = .ok (.iconst 1, 1) := by decide +kernel
theorem dX7_where_50 : decode cX7_where 50 = .ok (.iadd, 1) := by decide +kernel
theorem dX7_where_51 : decode cX7_where 51 = .ok (.imul, 1) := by decide +kernel
theorem dX7_where_52 : decode cX7_where 52 = .ok (.istore_n 2, 1) := by decide +kernel
theorem dX7_where_53 : decode cX7_where 53 = .ok (.iinc 3 1, 3) := by decide +kernel
theorem dX7_where_56 : decode cX7_where 56 = .ok (.goto (-20), 3) := by decide +kernel
theorem dX7_where_59 : decode cX7_where 59 = .ok (.ldc 181, 2) := by decide +kernel
theorem dX7_where_61 : decode cX7_where 61 = .ok (.istore_n 3, 1) := by decide +kernel
theorem dX7_where_62 : decode cX7_where 62 = .ok (.iconst 0, 1) := by decide +kernel
theorem dX7_where_63 : decode cX7_where 63 = .ok (.istore 4, 2) := by decide +kernel
theorem dX7_where_65 : decode cX7_where 65 = .ok (.iload 4, 2) := by decide +kernel
theorem dX7_where_67 : decode cX7_where 67 = .ok (.iload_n 2, 1) := by decide +kernel
theorem dX7_where_68 : decode cX7_where 68 = .ok (.if_icmp .ge 106, 3) := by decide +kernel
theorem dX7_where_71 : decode cX7_where 71 = .ok (.iload 4, 2) := by decide +kernel
theorem dX7_where_73 : decode cX7_where 73 = .ok (.istore 5, 2) := by decide +kernel
theorem dX7_where_75 : decode cX7_where 75 = .ok (.aload_n 0, 1) := by decide +kernel
theorem dX7_where_76 : decode cX7_where 76 = .ok (.getfield 178, 3) := by decide +kernel
theorem dX7_where_79 : decode cX7_where 79 = .ok (.iconst 1, 1) := by decide +kernel
theorem dX7_where_80 : decode cX7_where 80 = .ok (.isub, 1) := by decide +kernel
theorem dX7_where_81 : decode cX7_where 81 = .ok (.istore 6, 2) := by decide +kernel
theorem dX7_where_83 : decode cX7_where 83 = .ok (.iload 6, 2) := by decide +kernel
theorem dX7_where_85 : decode cX7_where 85 = .ok (.ifCond .lt 36, 3) := by decide +kernel
theorem dX7_where_88 : decode cX7_where 88 = .ok (.aload_n 0, 1) := by decide +kernel
theorem dX7_where_89 : decode cX7_where 89 = .ok (.getfield 56, 3) := by decide +kernel
theorem dX7_where_92 : decode cX7_where 92 = .ok (.iload 6, 2) := by decide +kernel
theorem dX7_where_94 : decode cX7_where 94 = .ok (.iload 5, 2) := by decide +kernel
theorem dX7_where_96 : decode cX7_where 96 = .ok (.aload_n 0, 1) := by decide +kernel
theorem dX7_where_97 : decode cX7_where 97 = .ok (.getfield 7, 3) := by decide +kernel
theorem dX7_where_100 : decode cX7_where 100 = .ok (.iconst 1, 1) := by decide +kernel
theorem dX7_where_101 : decode cX7_where 101 = .ok (.iadd, 1) := by decide +kernel
theorem dX7_where_102 : decode cX7_where 102 = .ok (.irem, 1) := by decide +kernel
theorem dX7_where_103 : decode cX7_where 103 = .ok (.iastore, 1) := by decide +kernel
theorem dX7_where_104 : decode cX7_where 104 = .ok (.iload 5, 2) := by decide +kernel
theorem dX7_where_106 : decode cX7_where 106 = .ok (.aload_n 0, 1) := by decide +kernel
theorem dX7_where_107 : decode cX7_where 107 = .ok (.getfield 7, 3) := by decide +kernel
theorem dX7_where_110 : decode cX7_where 110 = .ok (.iconst 1, 1) := by decide +kernel
theorem dX7_where_111 : decode cX7_where 111 = .ok (.iadd, 1) := by decide +kernel
theorem dX7_where_112 : decode cX7_where 112 = .ok (.idiv, 1) := by decide +kernel
theorem dX7_where_113 : decode cX7_where 113 = .ok (.istore 5, 2) := by decide +kernel
theorem dX7_where_115 : decode cX7_where 115 = .ok (.iinc 6 (-1), 3) := by decide +kernel
theorem dX7_where_118 : decode cX7_where 118 = .ok (.goto (-35), 3) := by decide +kernel
theorem dX7_where_121 : decode cX7_where 121 = .ok (.aload_n 0, 1) := by decide +kernel
theorem dX7_where_122 : decode cX7_where 122 = .ok (.invokevirtual 186, 3) := by decide +kernel
theorem dX7_where_125 : decode cX7_where 125 = .ok (.istore 6, 2) := by decide +kernel
theorem dX7_where_127 : decode cX7_where 127 = .ok (.iload 6, 2) := by decide +kernel
theorem dX7_where_129 : decode cX7_where 129 = .ok (.iload_n 3, 1) := by decide +kernel
theorem dX7_where_130 : decode cX7_where 130 = .ok (.if_icmp .ge 38, 3) := by decide +kernel
theorem dX7_where_133 : decode cX7_where 133 = .ok (.iload 6, 2) := by decide +kernel
theorem dX7_where_135 : decode cX7_where 135 = .ok (.istore_n 3, 1) := by decide +kernel
theorem dX7_where_136 : decode cX7_where 136 = .ok (.iconst 0, 1) := by decide +kernel
theorem dX7_where_137 : decode cX7_where 137 = .ok (.istore 7, 2) := by decide +kernel
theorem dX7_where_139 : decode cX7_where 139 = .ok (.iload 7, 2) := by decide +kernel
theorem dX7_where_141 : decode cX7_where 141 = .ok (.aload_n 0, 1) := by decide +kernel
theorem dX7_where_142 : decode cX7_where 142 = .ok (.getfield 178, 3) := by decide +kernel
theorem dX7_where_145 : decode cX7_where 145 = .ok (.if_icmp .ge 23, 3) := by decide +kernel
theorem dX7_where_148 : decode cX7_where 148 = .ok (.aload_n 0, 1) := by decide +kernel
theorem dX7_where_149 : decode cX7_where 149 = .ok (.getfield 59, 3) := by decide +kernel
theorem dX7_where_152 : decode cX7_where 152 = .ok (.iload 7, 2) := by decide +kernel
theorem dX7_where_154 : decode cX7_where 154 = .ok (.aload_n 0, 1) := by decide +kernel
theorem dX7_where_155 : decode cX7_where 155 = .ok (.getfield 56, 3) := by decide +kernel
theorem dX7_where_158 : decode cX7_where 158 = .ok (.iload 7, 2) := by decide +kernel
theorem dX7_where_160 : decode cX7_where 160 = .ok (.iaload, 1) := by decide +kernel
theorem dX7_where_161 : decode cX7_where 161 = .ok (.iastore, 1) := by decide +kernel
theorem dX7_where_162 : decode cX7_where 162 = .ok (.iinc 7 1, 3) := by decide +kernel
theorem dX7_where_165 : decode cX7_where 165 = .ok (.goto (-26), 3) := by decide +kernel
theorem dX7_where_168 : decode cX7_where 168 = .ok (.iinc 4 1, 3) := by decide +kernel
theorem dX7_where_171 : decode cX7_where 171 = .ok (.goto (-106), 3) := by decide +kernel
theorem dX7_where_174 : decode cX7_where 174 = .ok (.iload_n 1, 1) := by decide +kernel
theorem dX7_where_175 : decode cX7_where 175 = .ok (.iconst (-1), 1) := by decide +kernel
theorem dX7_where_176 : decode cX7_where 176 = .ok (.if_icmp .ne 5, 3) := by decide +kernel
theorem dX7_where_179 : decode cX7_where 179 = .ok (.iload_n 3, 1) := by decide +kernel
theorem dX7_where_180 : decode cX7_where 180 = .ok (.ireturn, 1) := by decide +kernel
theorem dX7_where_181 : decode cX7_where 181 = .ok (.iload_n 1, 1) := by decide +kernel
theorem dX7_where_182 : decode cX7_where 182 = .ok (.iconst 0, 1) := by decide +kernel
theorem dX7_where_183 : decode cX7_where 183 = .ok (.aload_n 0, 1) := by decide +kernel
theorem dX7_where_184 : decode cX7_where 184 = .ok (.getfield 178, 3) := by decide +kernel
theorem dX7_where_187 : decode cX7_where 187 = .ok (.iconst 1, 1) := by decide +kernel
theorem dX7_where_188 : decode cX7_where 188 = .ok (.isub, 1) := by decide +kernel
theorem dX7_where_189 : decode cX7_where 189 = .ok (.invokestatic 91, 3) := by decide +kernel
theorem dX7_where_192 : decode cX7_where 192 = .ok (.ifCond .eq 25, 3) := by decide +kernel
theorem dX7_where_195 : decode cX7_where 195 = .ok (.aload_n 0, 1) := by decide +kernel
theorem dX7_where_196 : decode cX7_where 196 = .ok (.getfield 59, 3) := by decide +kernel
theorem dX7_where_199 : decode cX7_where 199 = .ok (.iload_n 1, 1) := by decide +kernel
theorem dX7_where_200 : decode cX7_where 200 = .ok (.iaload, 1) := by decide +kernel
theorem dX7_where_201 : decode cX7_where 201 = .ok (.aload_n 0, 1) := by decide +kernel
theorem dX7_where_202 : decode cX7_where 202 = .ok (.getfield 7, 3) := by decide +kernel
theorem dX7_where_205 : decode cX7_where 205 = .ok (.if_icmp .ge 12, 3) := by decide +kernel
theorem dX7_where_208 : decode cX7_where 208 = .ok (.aload_n 0, 1) := by decide +kernel
theorem dX7_where_209 : decode cX7_where 209 = .ok (.getfield 59, 3) := by decide +kernel
theorem dX7_where_212 : decode cX7_where 212 = .ok (.iload_n 1, 1) := by decide +kernel
theorem dX7_where_213 : decode cX7_where 213 = .ok (.iaload, 1) := by decide +kernel
theorem dX7_where_214 : decode cX7_where 214 = .ok (.goto 5, 3) := by decide +kernel
theorem dX7_where_217 : decode cX7_where 217 = .ok (.bipush (-6), 2) := by decide +kernel
theorem dX7_where_219 : decode cX7_where 219 = .ok (.ireturn, 1) := by decide +kernel
theorem dX7_who_0 : decode cX7_who 0 = .ok (.iload_n 1, 1) := by decide +kernel
theorem dX7_who_1 : decode cX7_who 1 = .ok (.iconst 0, 1) := by decide +kernel
theorem dX7_who_2 : decode cX7_who 2 = .ok (.iconst 3, 1) := by decide +kernel
theorem dX7_who_3 : decode cX7_who 3 = .ok (.invokestatic 91, 3) := by decide +kernel
theorem dX7_who_6 : decode cX7_who 6 = .ok (.ifCond .eq 12, 3) := by decide +kernel
theorem dX7_who_9 : decode cX7_who 9 = .ok (.iload_n 2, 1) := by decide +kernel
theorem dX7_who_10 : decode cX7_who 10 = .ok (.iconst 0, 1) := by decide +kernel
theorem dX7_who_11 : decode cX7_who 11 = .ok (.iconst 2, 1) := by decide +kernel
theorem dX7_who_12 : decode cX7_who 12 = .ok (.invokestatic 91, 3) := by decide +kernel
theorem dX7_who_15 : decode cX7_who 15 = .ok (.ifCond .ne 6, 3) := by decide +kernel
theorem dX7_who_18 : decode cX7_who 18 = .ok (.bipush (-2), 2) := by decide +kernel
theorem dX7_who_20 : decode cX7_who 20 = .ok (.ireturn, 1) := by decide +kernel
theorem dX7_who_21 : decode cX7_who 21 = .ok (.aload_n 0, 1) := by decide +kernel
theorem dX7_who_22 : decode cX7_who 22 = .ok (.iload_n 1, 1) := by decide +kernel
theorem dX7_who_23 : decode cX7_who 23 = .ok (.invokevirtual 207, 3) := by decide +kernel
theorem dX7_who_26 : decode cX7_who 26 = .ok (.iload_n 2, 1) := by decide +kernel
theorem dX7_who_27 : decode cX7_who 27 = .ok (.ifCond .ne 10, 3) := by decide +kernel
theorem dX7_who_30 : decode cX7_who 30 = .ok (.aload_n 0, 1) := by decide +kernel
theorem dX7_who_31 : decode cX7_who 31 = .ok (.getfield 195, 3) := by decide +kernel
theorem dX7_who_34 : decode cX7_who 34 = .ok (.goto 30, 3) := by decide +kernel
theorem dX7_who_37 : decode cX7_who 37 = .ok (.iload_n 2, 1) := by decide +kernel
theorem dX7_who_38 : decode cX7_who 38 = .ok (.iconst 1, 1) := by decide +kernel
theorem dX7_who_39 : decode cX7_who 39 = .ok (.if_icmp .ne 10, 3) := by decide +kernel
theorem dX7_who_42 : decode cX7_who 42 = .ok (.aload_n 0, 1) := by decide +kernel
theorem dX7_who_43 : decode cX7_who 43 = .ok (.getfield 198, 3) := by decide +kernel
theorem dX7_who_46 : decode cX7_who 46 = .ok (.goto 18, 3) := by decide +kernel
theorem dX7_who_49 : decode cX7_who 49 = .ok (.aload_n 0, 1) := by decide +kernel
theorem dX7_who_50 : decode cX7_who 50 = .ok (.getfield 195, 3) := by decide +kernel
theorem dX7_who_53 : decode cX7_who 53 = .ok (.ifCond .ne 7, 3) := by decide +kernel
theorem dX7_who_56 : decode cX7_who 56 = .ok (.iconst 0, 1) := by decide +kernel
theorem dX7_who_57 : decode cX7_who 57 = .ok (.goto 7, 3) := by decide +kernel
theorem dX7_who_60 : decode cX7_who 60 = .ok (.aload_n 0, 1) := by decide +kernel
theorem dX7_who_61 : decode cX7_who 61 = .ok (.getfield 201, 3) := by decide +kernel
theorem dX7_who_64 : decode cX7_who 64 = .ok (.ireturn, 1) := by decide +kernel
theorem dX7_whyNot_0 : decode cX7_whyNot 0 = .ok (.iload_n 1, 1) := by decide +kernel
theorem dX7_whyNot_1 : decode cX7_whyNot 1 = .ok (.iload_n 2, 1) := by decide +kernel
theorem dX7_whyNot_2 : decode cX7_whyNot 2 = .ok (.if_icmp .ne 5, 3) := by decide +kernel
theorem dX7_whyNot_5 : decode cX7_whyNot 5 = .ok (.iconst 1, 1) := by decide +kernel
theorem dX7_whyNot_6 : decode cX7_whyNot 6 = .ok (.ireturn, 1) := by decide +kernel
theorem dX7_whyNot_7 : decode cX7_whyNot 7 = .ok (.iload_n 3, 1) := by decide +kernel
theorem dX7_whyNot_8 : decode cX7_whyNot 8 = .ok (.bipush 43, 2) := by decide +kernel
theorem dX7_whyNot_10 : decode cX7_whyNot 10 = .ok (.if_icmp .ne 18, 3) := by decide +kernel
theorem dX7_whyNot_13 : decode cX7_whyNot 13 = .ok (.aload_n 0, 1) := by decide +kernel
theorem dX7_whyNot_14 : decode cX7_whyNot 14 = .ok (.getfield 44, 3) := by decide +kernel
theorem dX7_whyNot_17 : decode cX7_whyNot 17 = .ok (.iload_n 1, 1) := by decide +kernel
theorem dX7_whyNot_18 : decode cX7_whyNot 18 = .ok (.iaload, 1) := by decide +kernel
theorem dX7_whyNot_19 : decode cX7_whyNot 19 = .ok (.ifCond .ne 7, 3) := by decide +kernel
theorem dX7_whyNot_22 : decode cX7_whyNot 22 = .ok (.iconst 2, 1) := by decide +kernel
theorem dX7_whyNot_23 : decode cX7_whyNot 23 = .ok (.goto 4, 3) := by decide +kernel
theorem dX7_whyNot_26 : decode cX7_whyNot 26 = .ok (.iconst 0, 1) := by decide +kernel
theorem dX7_whyNot_27 : decode cX7_whyNot 27 = .ok (.ireturn, 1) := by decide +kernel
theorem dX7_whyNot_28 : decode cX7_whyNot 28 = .ok (.aload_n 0, 1) := by decide +kernel
theorem dX7_whyNot_29 : decode cX7_whyNot 29 = .ok (.getfield 44, 3) := by decide +kernel
theorem dX7_whyNot_32 : decode cX7_whyNot 32 = .ok (.iload_n 1, 1) := by decide +kernel
theorem dX7_whyNot_33 : decode cX7_whyNot 33 = .ok (.iaload, 1) := by decide +kernel
theorem dX7_whyNot_34 : decode cX7_whyNot 34 = .ok (.aload_n 0, 1) := by decide +kernel
theorem dX7_whyNot_35 : decode cX7_whyNot 35 = .ok (.iload_n 1, 1) := by decide +kernel
theorem dX7_whyNot_36 : decode cX7_whyNot 36 = .ok (.iload_n 2, 1) := by decide +kernel
theorem dX7_whyNot_37 : decode cX7_whyNot 37 = .ok (.iload_n 3, 1) := by decide +kernel
theorem dX7_whyNot_38 : decode cX7_whyNot 38 = .ok (.invokevirtual 125, 3) := by decide +kernel
theorem dX7_whyNot_41 : decode cX7_whyNot 41 = .ok (.iadd, 1) := by decide +kernel
theorem dX7_whyNot_42 : decode cX7_whyNot 42 = .ok (.sipush 999, 3) := by decide +kernel
theorem dX7_whyNot_45 : decode cX7_whyNot 45 = .ok (.if_icmp .le 7, 3) := by decide +kernel
theorem dX7_whyNot_48 : decode cX7_whyNot 48 = .ok (.iconst 3, 1) := by decide +kernel
theorem dX7_whyNot_49 : decode cX7_whyNot 49 = .ok (.goto 4, 3) := by decide +kernel
theorem dX7_whyNot_52 : decode cX7_whyNot 52 = .ok (.iconst 0, 1) := by decide +kernel
theorem dX7_whyNot_53 : decode cX7_whyNot 53 = .ok (.ireturn, 1) := by decide +kernel
theorem dX7_winter_0 : decode cX7_winter 0 = .ok (.iload_n 1, 1) := by decide +kernel
theorem dX7_winter_1 : decode cX7_winter 1 = .ok (.iconst 0, 1) := by decide +kernel
theorem dX7_winter_2 : decode cX7_winter 2 = .ok (.sipush 9999, 3) := by decide +kernel
theorem dX7_winter_5 : decode cX7_winter 5 = .ok (.invokestatic 91, 3) := by decide +kernel
theorem dX7_winter_8 : decode cX7_winter 8 = .ok (.ifCond .eq 22, 3) := by decide +kernel
theorem dX7_winter_11 : decode cX7_winter 11 = .ok (.iload_n 2, 1) := by decide +kernel
theorem dX7_winter_12 : decode cX7_winter 12 = .ok (.iconst 1, 1) := by decide +kernel
theorem dX7_winter_13 : decode cX7_winter 13 = .ok (.bipush 99, 2) := by decide +kernel
theorem dX7_winter_15 : decode cX7_winter 15 = .ok (.invokestatic 91, 3) := by decide +kernel
theorem dX7_winter_18 : decode cX7_winter 18 = .ok (.ifCond .eq 12, 3) := by decide +kernel
theorem dX7_winter_21 : decode cX7_winter 21 = .ok (.iload_n 3, 1) := by decide +kernel
theorem dX7_winter_22 : decode cX7_winter 22 = .ok (.iconst 0, 1) := by decide +kernel
theorem dX7_winter_23 : decode cX7_winter 23 = .ok (.iconst 2, 1) := by decide +kernel
theorem dX7_winter_24 : decode cX7_winter 24 = .ok (.invokestatic 91, 3) := by decide +kernel
theorem dX7_winter_27 : decode cX7_winter 27 = .ok (.ifCond .ne 6, 3) := by decide +kernel
theorem dX7_winter_30 : decode cX7_winter 30 = .ok (.bipush (-2), 2) := by decide +kernel
theorem dX7_winter_32 : decode cX7_winter 32 = .ok (.ireturn, 1) := by decide +kernel
theorem dX7_winter_33 : decode cX7_winter 33 = .ok (.aload_n 0, 1) := by decide +kernel
theorem dX7_winter_34 : decode cX7_winter 34 = .ok (.invokevirtual 168, 3) := by decide +kernel
theorem dX7_winter_37 : decode cX7_winter 37 = .ok (.iload_n 1, 1) := by decide +kernel
theorem dX7_winter_38 : decode cX7_winter 38 = .ok (.istore 4, 2) := by decide +kernel
theorem dX7_winter_40 : decode cX7_winter 40 = .ok (.iconst 0, 1) := by decide +kernel
theorem dX7_winter_41 : decode cX7_winter 41 = .ok (.istore 5, 2) := by decide +kernel
theorem dX7_winter_43 : decode cX7_winter 43 = .ok (.iload 5, 2) := by decide +kernel
theorem dX7_winter_45 : decode cX7_winter 45 = .ok (.iload_n 2, 1) := by decide +kernel
theorem dX7_winter_46 : decode cX7_winter 46 = .ok (.if_icmp .ge 139, 3) := by decide +kernel
theorem dX7_winter_49 : decode cX7_winter 49 = .ok (.bipush 75, 2) := by decide +kernel
theorem dX7_winter_51 : decode cX7_winter 51 = .ok (.iload 4, 2) := by decide +kernel
theorem dX7_winter_53 : decode cX7_winter 53 = .ok (.imul, 1) := by decide +kernel
theorem dX7_winter_54 : decode cX7_winter 54 = .ok (.bipush 74, 2) := by decide +kernel
theorem dX7_winter_56 : decode cX7_winter 56 = .ok (.iadd, 1) := by decide +kernel
theorem dX7_winter_57 : decode cX7_winter 57 = .ok (.ldc 233, 2) := by decide +kernel
theorem dX7_winter_59 : decode cX7_winter 59 = .ok (.irem, 1) := by decide +kernel
theorem dX7_winter_60 : decode cX7_winter 60 = .ok (.istore 4, 2) := by decide +kernel
theorem dX7_winter_62 : decode cX7_winter 62 = .ok (.iload 4, 2) := by decide +kernel
theorem dX7_winter_64 : decode cX7_winter 64 = .ok (.bipush 8, 2) := by decide +kernel
theorem dX7_winter_66 : decode cX7_winter 66 = .ok (.irem, 1) := by decide +kernel
theorem dX7_winter_67 : decode cX7_winter 67 = .ok (.istore 6, 2) := by decide +kernel
theorem dX7_winter_69 : decode cX7_winter 69 = .ok (.iload 4, 2) := by decide +kernel
theorem dX7_winter_71 : decode cX7_winter 71 = .ok (.bipush 8, 2) := by decide +kernel
theorem dX7_winter_73 : decode cX7_winter 73 = .ok (.idiv, 1) := by decide +kernel
theorem dX7_winter_74 : decode cX7_winter 74 = .ok (.aload_n 0, 1) := by decide +kernel
theorem dX7_winter_75 : decode cX7_winter 75 = .ok (.getfield 7, 3) := by decide +kernel
theorem dX7_winter_78 : decode cX7_winter 78 = .ok (.irem, 1) := by decide +kernel
theorem dX7_winter_79 : decode cX7_winter 79 = .ok (.istore 7, 2) := by decide +kernel
theorem dX7_winter_81 : decode cX7_winter 81 = .ok (.iload 4, 2) := by decide +kernel
theorem dX7_winter_83 : decode cX7_winter 83 = .ok (.bipush 64, 2) := by decide +kernel
theorem dX7_winter_85 : decode cX7_winter 85 = .ok (.idiv, 1) := by decide +kernel
theorem dX7_winter_86 : decode cX7_winter 86 = .ok (.aload_n 0, 1) := by decide +kernel
theorem dX7_winter_87 : decode cX7_winter 87 = .ok (.getfield 7, 3) := by decide +kernel
theorem dX7_winter_90 : decode cX7_winter 90 = .ok (.irem, 1) := by decide +kernel
theorem dX7_winter_91 : decode cX7_winter 91 = .ok (.istore 8, 2) := by decide +kernel
theorem dX7_winter_93 : decode cX7_winter 93 = .ok (.iload 6, 2) := by decide +kernel
theorem dX7_winter_95 : decode cX7_winter 95 = .ok (.iconst 2, 1) := by decide +kernel
theorem dX7_winter_96 : decode cX7_winter 96 = .ok (.if_icmp .ne 8, 3) := by decide +kernel
theorem dX7_winter_99 : decode cX7_winter 99 = .ok (.bipush 43, 2) := by decide +kernel
theorem dX7_winter_101 : decode cX7_winter 101 = .ok (.goto 16, 3) := by decide +kernel
theorem dX7_winter_104 : decode cX7_winter 104 = .ok (.iload 6, 2) := by decide +kernel
theorem dX7_winter_106 : decode cX7_winter 106 = .ok (.iconst 5, 1) := by decide +kernel
theorem dX7_winter_107 : decode cX7_winter 107 = .ok (.if_icmp .ge 8, 3) := by decide +kernel
theorem dX7_winter_110 : decode cX7_winter 110 = .ok (.bipush 116, 2) := by decide +kernel
theorem dX7_winter_112 : decode cX7_winter 112 = .ok (.goto 5, 3) := by decide +kernel
theorem dX7_winter_115 : decode cX7_winter 115 = .ok (.bipush 108, 2) := by decide +kernel
theorem dX7_winter_117 : decode cX7_winter 117 = .ok (.istore 9, 2) := by decide +kernel
theorem dX7_winter_119 : decode cX7_winter 119 = .ok (.iload 6, 2) := by decide +kernel
theorem dX7_winter_121 : decode cX7_winter 121 = .ok (.ifCond .ne 14, 3) := by decide +kernel
theorem dX7_winter_124 : decode cX7_winter 124 = .ok (.aload_n 0, 1) := by decide +kernel
theorem dX7_winter_125 : decode cX7_winter 125 = .ok (.invokevirtual 146, 3) := by decide +kernel
theorem dX7_winter_128 : decode cX7_winter 128 = .ok (.aload_n 0, 1) := by decide +kernel
theorem dX7_winter_129 : decode cX7_winter 129 = .ok (.invokevirtual 165, 3) := by decide +kernel
theorem dX7_winter_132 : decode cX7_winter 132 = .ok (.goto 47, 3) := by decide +kernel
theorem dX7_winter_135 : decode cX7_winter 135 = .ok (.iload 6, 2) := by decide +kernel
theorem dX7_winter_137 : decode cX7_winter 137 = .ok (.iconst 1, 1) := by decide +kernel
theorem dX7_winter_138 : decode cX7_winter 138 = .ok (.if_icmp .ne 14, 3) := by decide +kernel
theorem dX7_winter_141 : decode cX7_winter 141 = .ok (.aload_n 0, 1) := by decide +kernel
theorem dX7_winter_142 : decode cX7_winter 142 = .ok (.invokevirtual 149, 3) := by decide +kernel
theorem dX7_winter_145 : decode cX7_winter 145 = .ok (.aload_n 0, 1) := by decide +kernel
theorem dX7_winter_146 : decode cX7_winter 146 = .ok (.invokevirtual 165, 3) := by decide +kernel
theorem dX7_winter_149 : decode cX7_winter 149 = .ok (.goto 30, 3) := by decide +kernel
theorem dX7_winter_152 : decode cX7_winter 152 = .ok (.aload_n 0, 1) := by decide +kernel
theorem dX7_winter_153 : decode cX7_winter 153 = .ok (.iload 7, 2) := by decide +kernel
theorem dX7_winter_155 : decode cX7_winter 155 = .ok (.iload 8, 2) := by decide +kernel
theorem dX7_winter_157 : decode cX7_winter 157 = .ok (.iload 9, 2) := by decide +kernel
theorem dX7_winter_159 : decode cX7_winter 159 = .ok (.invokevirtual 159, 3) := by decide +kernel
theorem dX7_winter_162 : decode cX7_winter 162 = .ok (.ifCond .ne 17, 3) := by decide +kernel
theorem dX7_winter_165 : decode cX7_winter 165 = .ok (.aload_n 0, 1) := by decide +kernel
theorem dX7_winter_166 : decode cX7_winter 166 = .ok (.iload 7, 2) := by decide +kernel
theorem dX7_winter_168 : decode cX7_winter 168 = .ok (.iload 8, 2) := by decide +kernel
theorem dX7_winter_170 : decode cX7_winter 170 = .ok (.iload 9, 2) := by decide +kernel
theorem dX7_winter_172 : decode cX7_winter 172 = .ok (.invokevirtual 162, 3) := by decide +kernel
theorem dX7_winter_175 : decode cX7_winter 175 = .ok (.aload_n 0, 1) := by decide +kernel
theorem dX7_winter_176 : decode cX7_winter 176 = .ok (.invokevirtual 165, 3) := by decide +kernel
theorem dX7_winter_179 : decode cX7_winter 179 = .ok (.iinc 5 1, 3) := by decide +kernel
theorem dX7_winter_182 : decode cX7_winter 182 = .ok (.goto (-139), 3) := by decide +kernel
theorem dX7_winter_185 : decode cX7_winter 185 = .ok (.iconst 0, 1) := by decide +kernel
theorem dX7_winter_186 : decode cX7_winter 186 = .ok (.istore 5, 2) := by decide +kernel
theorem dX7_winter_188 : decode cX7_winter 188 = .ok (.iconst 0, 1) := by decide +kernel
theorem dX7_winter_189 : decode cX7_winter 189 = .ok (.istore 6, 2) := by decide +kernel
theorem dX7_winter_191 : decode cX7_winter 191 = .ok (.iload 6, 2) := by decide +kernel
theorem dX7_winter_193 : decode cX7_winter 193 = .ok (.aload_n 0, 1) := by decide +kernel
theorem dX7_winter_194 : decode cX7_winter 194 = .ok (.getfield 7, 3) := by decide +kernel
theorem dX7_winter_197 : decode cX7_winter 197 = .ok (.if_icmp .ge 21, 3) := by decide +kernel
theorem dX7_winter_200 : decode cX7_winter 200 = .ok (.iload 5, 2) := by decide +kernel
theorem dX7_winter_202 : decode cX7_winter 202 = .ok (.aload_n 0, 1) := by decide +kernel
theorem dX7_winter_203 : decode cX7_winter 203 = .ok (.getfield 44, 3) := by decide +kernel
theorem dX7_winter_206 : decode cX7_winter 206 = .ok (.iload 6, 2) := by decide +kernel
theorem dX7_winter_208 : decode cX7_winter 208 = .ok (.iaload, 1) := by decide +kernel
theorem dX7_winter_209 : decode cX7_winter 209 = .ok (.iadd, 1) := by decide +kernel
theorem dX7_winter_210 : decode cX7_winter 210 = .ok (.istore 5, 2) := by decide +kernel
theorem dX7_winter_212 : decode cX7_winter 212 = .ok (.iinc 6 1, 3) := by decide +kernel
theorem dX7_winter_215 : decode cX7_winter 215 = .ok (.goto (-24), 3) := by decide +kernel
theorem dX7_winter_218 : decode cX7_winter 218 = .ok (.iload_n 3, 1) := by decide +kernel
theorem dX7_winter_219 : decode cX7_winter 219 = .ok (.ifCond .ne 8, 3) := by decide +kernel
theorem dX7_winter_222 : decode cX7_winter 222 = .ok (.iload 5, 2) := by decide +kernel
theorem dX7_winter_224 : decode cX7_winter 224 = .ok (.goto 19, 3) := by decide +kernel
theorem dX7_winter_227 : decode cX7_winter 227 = .ok (.iload_n 3, 1) := by decide +kernel
theorem dX7_winter_228 : decode cX7_winter 228 = .ok (.iconst 1, 1) := by decide +kernel
theorem dX7_winter_229 : decode cX7_winter 229 = .ok (.if_icmp .ne 10, 3) := by decide +kernel
theorem dX7_winter_232 : decode cX7_winter 232 = .ok (.aload_n 0, 1) := by decide +kernel
theorem dX7_winter_233 : decode cX7_winter 233 = .ok (.getfield 106, 3) := by decide +kernel
theorem dX7_winter_236 : decode cX7_winter 236 = .ok (.goto 7, 3) := by decide +kernel
theorem dX7_winter_239 : decode cX7_winter 239 = .ok (.aload_n 0, 1) := by decide +kernel
theorem dX7_winter_240 : decode cX7_winter 240 = .ok (.getfield 109, 3) := by decide +kernel
theorem dX7_winter_243 : decode cX7_winter 243 = .ok (.ireturn, 1) := by decide +kernel
theorem dX7_wipe_0 : decode cX7_wipe 0 = .ok (.aload_n 0, 1) := by decide +kernel
theorem dX7_wipe_1 : decode cX7_wipe 1 = .ok (.getfield 99, 3) := by decide +kernel
theorem dX7_wipe_4 : decode cX7_wipe 4 = .ok (.istore_n 1, 1) := by decide +kernel
theorem dX7_wipe_5 : decode cX7_wipe 5 = .ok (.aload_n 0, 1) := by decide +kernel
theorem dX7_wipe_6 : decode cX7_wipe 6 = .ok (.iconst 0, 1) := by decide +kernel
theorem dX7_wipe_7 : decode cX7_wipe 7 = .ok (.putfield 99, 3) := by decide +kernel
theorem dX7_wipe_10 : decode cX7_wipe 10 = .ok (.iload_n 1, 1) := by decide +kernel
theorem dX7_wipe_11 : decode cX7_wipe 11 = .ok (.ireturn, 1) := by decide +kernel
end
section
theorem dL_law_0 : decode cL_law 0 = .ok (.new 7, 3) := by decide +kernel
theorem dL_law_3 : decode cL_law 3 = .ok (.dup, 1) := by decide +kernel
theorem dL_law_4 : decode cL_law 4 = .ok (.invokespecial 9, 3) := by decide +kernel
theorem dL_law_7 : decode cL_law 7 = .ok (.astore_n 1, 1) := by decide +kernel
theorem dL_law_8 : decode cL_law 8 = .ok (.new 10, 3) := by decide +kernel
theorem dL_law_11 : decode cL_law 11 = .ok (.dup, 1) := by decide +kernel
theorem dL_law_12 : decode cL_law 12 = .ok (.invokespecial 12, 3) := by decide +kernel
theorem dL_law_15 : decode cL_law 15 = .ok (.astore_n 2, 1) := by decide +kernel
theorem dL_law_16 : decode cL_law 16 = .ok (.iconst 0, 1) := by decide +kernel
theorem dL_law_17 : decode cL_law 17 = .ok (.istore_n 3, 1) := by decide +kernel
theorem dL_law_18 : decode cL_law 18 = .ok (.iload_n 3, 1) := by decide +kernel
theorem dL_law_19 : decode cL_law 19 = .ok (.aload_n 0, 1) := by decide +kernel
theorem dL_law_20 : decode cL_law 20 = .ok (.arraylength, 1) := by decide +kernel
theorem dL_law_21 : decode cL_law 21 = .ok (.bipush 6, 2) := by decide +kernel
theorem dL_law_23 : decode cL_law 23 = .ok (.isub, 1) := by decide +kernel
theorem dL_law_24 : decode cL_law 24 = .ok (.if_icmp .gt 954, 3) := by decide +kernel
theorem dL_law_27 : decode cL_law 27 = .ok (.aload_n 0, 1) := by decide +kernel
theorem dL_law_28 : decode cL_law 28 = .ok (.iload_n 3, 1) := by decide +kernel
theorem dL_law_29 : decode cL_law 29 = .ok (.iaload, 1) := by decide +kernel
theorem dL_law_30 : decode cL_law 30 = .ok (.bipush 31, 2) := by decide +kernel
theorem dL_law_32 : decode cL_law 32 = .ok (.iand, 1) := by decide +kernel
theorem dL_law_33 : decode cL_law 33 = .ok (.tableswitch 939 0 28 #[131, 154, 197, 230, 253, 266, 279, 302, 315, 348, 381, 394, 417, 440, 463, 486, 529, 552, 585, 598, 631, 664, 687, 741, 804, 827, 870, 893, 916], 131) := by decide +kernel
theorem dL_law_164 : decode cL_law 164 = .ok (.aload_n 1, 1) := by decide +kernel
theorem dL_law_165 : decode cL_law 165 = .ok (.aload_n 0, 1) := by decide +kernel
theorem dL_law_166 : decode cL_law 166 = .ok (.iload_n 3, 1) := by decide +kernel
theorem dL_law_167 : decode cL_law 167 = .ok (.iconst 1, 1) := by decide +kernel
theorem dL_law_168 : decode cL_law 168 = .ok (.iadd, 1) := by decide +kernel
theorem dL_law_169 : decode cL_law 169 = .ok (.iaload, 1) := by decide +kernel
theorem dL_law_170 : decode cL_law 170 = .ok (.invokevirtual 13, 3) := by decide +kernel
theorem dL_law_173 : decode cL_law 173 = .ok (.aload_n 2, 1) := by decide +kernel
theorem dL_law_174 : decode cL_law 174 = .ok (.aload_n 0, 1) := by decide +kernel
theorem dL_law_175 : decode cL_law 175 = .ok (.iload_n 3, 1) := by decide +kernel
theorem dL_law_176 : decode cL_law 176 = .ok (.iconst 1, 1) := by decide +kernel
theorem dL_law_177 : decode cL_law 177 = .ok (.iadd, 1) := by decide +kernel
theorem dL_law_178 : decode cL_law 178 = .ok (.iaload, 1) := by decide +kernel
theorem dL_law_179 : decode cL_law 179 = .ok (.invokevirtual 17, 3) := by decide +kernel
theorem dL_law_182 : decode cL_law 182 = .ok (.if_icmp .eq 790, 3) := by decide +kernel
theorem dL_law_185 : decode cL_law 185 = .ok (.iconst 0, 1) := by decide +kernel
theorem dL_law_186 : decode cL_law 186 = .ok (.ireturn, 1) := by decide +kernel
theorem dL_law_187 : decode cL_law 187 = .ok (.aload_n 1, 1) := by decide +kernel
theorem dL_law_188 : decode cL_law 188 = .ok (.aload_n 0, 1) := by decide +kernel
theorem dL_law_189 : decode cL_law 189 = .ok (.iload_n 3, 1) := by decide +kernel
theorem dL_law_190 : decode cL_law 190 = .ok (.iconst 1, 1) := by decide +kernel
theorem dL_law_191 : decode cL_law 191 = .ok (.iadd, 1) := by decide +kernel
theorem dL_law_192 : decode cL_law 192 = .ok (.iaload, 1) := by decide +kernel
theorem dL_law_193 : decode cL_law 193 = .ok (.aload_n 0, 1) := by decide +kernel
theorem dL_law_194 : decode cL_law 194 = .ok (.iload_n 3, 1) := by decide +kernel
theorem dL_law_195 : decode cL_law 195 = .ok (.iconst 2, 1) := by decide +kernel
theorem dL_law_196 : decode cL_law 196 = .ok (.iadd, 1) := by decide +kernel
theorem dL_law_197 : decode cL_law 197 = .ok (.iaload, 1) := by decide +kernel
theorem dL_law_198 : decode cL_law 198 = .ok (.aload_n 0, 1) := by decide +kernel
theorem dL_law_199 : decode cL_law 199 = .ok (.iload_n 3, 1) := by decide +kernel
theorem dL_law_200 : decode cL_law 200 = .ok (.iconst 3, 1) := by decide +kernel
theorem dL_law_201 : decode cL_law 201 = .ok (.iadd, 1) := by decide +kernel
theorem dL_law_202 : decode cL_law 202 = .ok (.iaload, 1) := by decide +kernel
theorem dL_law_203 : decode cL_law 203 = .ok (.invokevirtual 18, 3) := by decide +kernel
theorem dL_law_206 : decode cL_law 206 = .ok (.aload_n 2, 1) := by decide +kernel
theorem dL_law_207 : decode cL_law 207 = .ok (.aload_n 0, 1) := by decide +kernel
theorem dL_law_208 : decode cL_law 208 = .ok (.iload_n 3, 1) := by decide +kernel
theorem dL_law_209 : decode cL_law 209 = .ok (.iconst 1, 1) := by decide +kernel
theorem dL_law_210 : decode cL_law 210 = .ok (.iadd, 1) := by decide +kernel
theorem dL_law_211 : decode cL_law 211 = .ok (.iaload, 1) := by decide +kernel
theorem dL_law_212 : decode cL_law 212 = .ok (.aload_n 0, 1) := by decide +kernel
theorem dL_law_213 : decode cL_law 213 = .ok (.iload_n 3, 1) := by decide +kernel
theorem dL_law_214 : decode cL_law 214 = .ok (.iconst 2, 1) := by decide +kernel
theorem dL_law_215 : decode cL_law 215 = .ok (.iadd, 1) := by decide +kernel
theorem dL_law_216 : decode cL_law 216 = .ok (.iaload, 1) := by decide +kernel
theorem dL_law_217 : decode cL_law 217 = .ok (.aload_n 0, 1) := by decide +kernel
theorem dL_law_218 : decode cL_law 218 = .ok (.iload_n 3, 1) := by decide +kernel
theorem dL_law_219 : decode cL_law 219 = .ok (.iconst 3, 1) := by decide +kernel
theorem dL_law_220 : decode cL_law 220 = .ok (.iadd, 1) := by decide +kernel
theorem dL_law_221 : decode cL_law 221 = .ok (.iaload, 1) := by decide +kernel
theorem dL_law_222 : decode cL_law 222 = .ok (.invokevirtual 22, 3) := by decide +kernel
theorem dL_law_225 : decode cL_law 225 = .ok (.if_icmp .eq 747, 3) := by decide +kernel
theorem dL_law_228 : decode cL_law 228 = .ok (.iconst 0, 1) := by decide +kernel
theorem dL_law_229 : decode cL_law 229 = .ok (.ireturn, 1) := by decide +kernel
theorem dL_law_230 : decode cL_law 230 = .ok (.aload_n 1, 1) := by decide +kernel
theorem dL_law_231 : decode cL_law 231 = .ok (.aload_n 0, 1) := by decide +kernel
theorem dL_law_232 : decode cL_law 232 = .ok (.iload_n 3, 1) := by decide +kernel
theorem dL_law_233 : decode cL_law 233 = .ok (.iconst 1, 1) := by decide +kernel
theorem dL_law_234 : decode cL_law 234 = .ok (.iadd, 1) := by decide +kernel
theorem dL_law_235 : decode cL_law 235 = .ok (.iaload, 1) := by decide +kernel
theorem dL_law_236 : decode cL_law 236 = .ok (.aload_n 0, 1) := by decide +kernel
theorem dL_law_237 : decode cL_law 237 = .ok (.iload_n 3, 1) := by decide +kernel
theorem dL_law_238 : decode cL_law 238 = .ok (.iconst 2, 1) := by decide +kernel
theorem dL_law_239 : decode cL_law 239 = .ok (.iadd, 1) := by decide +kernel
theorem dL_law_240 : decode cL_law 240 = .ok (.iaload, 1) := by decide +kernel
theorem dL_law_241 : decode cL_law 241 = .ok (.invokevirtual 23, 3) := by decide +kernel
theorem dL_law_244 : decode cL_law 244 = .ok (.aload_n 2, 1) := by decide +kernel
theorem dL_law_245 : decode cL_law 245 = .ok (.aload_n 0, 1) := by decide +kernel
theorem dL_law_246 : decode cL_law 246 = .ok (.iload_n 3, 1) := by decide +kernel
theorem dL_law_247 : decode cL_law 247 = .ok (.iconst 1, 1) := by decide +kernel
theorem dL_law_248 : decode cL_law 248 = .ok (.iadd, 1) := by decide +kernel
theorem dL_law_249 : decode cL_law 249 = .ok (.iaload, 1) := by decide +kernel
theorem dL_law_250 : decode cL_law 250 = .ok (.aload_n 0, 1) := by decide +kernel
theorem dL_law_251 : decode cL_law 251 = .ok (.iload_n 3, 1) := by decide +kernel
theorem dL_law_252 : decode cL_law 252 = .ok (.iconst 2, 1) := by decide +kernel
theorem dL_law_253 : decode cL_law 253 = .ok (.iadd, 1) := by decide +kernel
theorem dL_law_254 : decode cL_law 254 = .ok (.iaload, 1) := by decide +kernel
theorem dL_law_255 : decode cL_law 255 = .ok (.invokevirtual 27, 3) := by decide +kernel
theorem dL_law_258 : decode cL_law 258 = .ok (.if_icmp .eq 714, 3) := by decide +kernel
theorem dL_law_261 : decode cL_law 261 = .ok (.iconst 0, 1) := by decide +kernel
theorem dL_law_262 : decode cL_law 262 = .ok (.ireturn, 1) := by decide +kernel
theorem dL_law_263 : decode cL_law 263 = .ok (.aload_n 1, 1) := by decide +kernel
theorem dL_law_264 : decode cL_law 264 = .ok (.aload_n 0, 1) := by decide +kernel
theorem dL_law_265 : decode cL_law 265 = .ok (.iload_n 3, 1) := by decide +kernel
theorem dL_law_266 : decode cL_law 266 = .ok (.iconst 1, 1) := by decide +kernel
theorem dL_law_267 : decode cL_law 267 = .ok (.iadd, 1) := by decide +kernel
theorem dL_law_268 : decode cL_law 268 = .ok (.iaload, 1) := by decide +kernel
theorem dL_law_269 : decode cL_law 269 = .ok (.invokevirtual 28, 3) := by decide +kernel
theorem dL_law_272 : decode cL_law 272 = .ok (.aload_n 2, 1) := by decide +kernel
theorem dL_law_273 : decode cL_law 273 = .ok (.aload_n 0, 1) := by decide +kernel
theorem dL_law_274 : decode cL_law 274 = .ok (.iload_n 3, 1) := by decide +kernel
theorem dL_law_275 : decode cL_law 275 = .ok (.iconst 1, 1) := by decide +kernel
theorem dL_law_276 : decode cL_law 276 = .ok (.iadd, 1) := by decide +kernel
theorem dL_law_277 : decode cL_law 277 = .ok (.iaload, 1) := by decide +kernel
theorem dL_law_278 : decode cL_law 278 = .ok (.invokevirtual 31, 3) := by decide +kernel
theorem dL_law_281 : decode cL_law 281 = .ok (.if_icmp .eq 691, 3) := by decide +kernel
theorem dL_law_284 : decode cL_law 284 = .ok (.iconst 0, 1) := by decide +kernel
theorem dL_law_285 : decode cL_law 285 = .ok (.ireturn, 1) := by decide +kernel
theorem dL_law_286 : decode cL_law 286 = .ok (.aload_n 1, 1) := by decide +kernel
theorem dL_law_287 : decode cL_law 287 = .ok (.invokevirtual 32, 3) := by decide +kernel
theorem dL_law_290 : decode cL_law 290 = .ok (.aload_n 2, 1) := by decide +kernel
theorem dL_law_291 : decode cL_law 291 = .ok (.invokevirtual 36, 3) := by decide +kernel
theorem dL_law_294 : decode cL_law 294 = .ok (.if_icmp .eq 678, 3) := by decide +kernel
theorem dL_law_297 : decode cL_law 297 = .ok (.iconst 0, 1) := by decide +kernel
theorem dL_law_298 : decode cL_law 298 = .ok (.ireturn, 1) := by decide +kernel
theorem dL_law_299 : decode cL_law 299 = .ok (.aload_n 1, 1) := by decide +kernel
theorem dL_law_300 : decode cL_law 300 = .ok (.invokevirtual 37, 3) := by decide +kernel
theorem dL_law_303 : decode cL_law 303 = .ok (.aload_n 2, 1) := by decide +kernel
theorem dL_law_304 : decode cL_law 304 = .ok (.invokevirtual 40, 3) := by decide +kernel
theorem dL_law_307 : decode cL_law 307 = .ok (.if_icmp .eq 665, 3) := by decide +kernel
theorem dL_law_310 : decode cL_law 310 = .ok (.iconst 0, 1) := by decide +kernel
theorem dL_law_311 : decode cL_law 311 = .ok (.ireturn, 1) := by decide +kernel
theorem dL_law_312 : decode cL_law 312 = .ok (.aload_n 1, 1) := by decide +kernel
theorem dL_law_313 : decode cL_law 313 = .ok (.aload_n 0, 1) := by decide +kernel
theorem dL_law_314 : decode cL_law 314 = .ok (.iload_n 3, 1) := by decide +kernel
theorem dL_law_315 : decode cL_law 315 = .ok (.iconst 1, 1) := by decide +kernel
theorem dL_law_316 : decode cL_law 316 = .ok (.iadd, 1) := by decide +kernel
theorem dL_law_317 : decode cL_law 317 = .ok (.iaload, 1) := by decide +kernel
theorem dL_law_318 : decode cL_law 318 = .ok (.invokevirtual 41, 3) := by decide +kernel
theorem dL_law_321 : decode cL_law 321 = .ok (.aload_n 2, 1) := by decide +kernel
theorem dL_law_322 : decode cL_law 322 = .ok (.aload_n 0, 1) := by decide +kernel
theorem dL_law_323 : decode cL_law 323 = .ok (.iload_n 3, 1) := by decide +kernel
theorem dL_law_324 : decode cL_law 324 = .ok (.iconst 1, 1) := by decide +kernel
theorem dL_law_325 : decode cL_law 325 = .ok (.iadd, 1) := by decide +kernel
theorem dL_law_326 : decode cL_law 326 = .ok (.iaload, 1) := by decide +kernel
theorem dL_law_327 : decode cL_law 327 = .ok (.invokevirtual 44, 3) := by decide +kernel
theorem dL_law_330 : decode cL_law 330 = .ok (.if_icmp .eq 642, 3) := by decide +kernel
theorem dL_law_333 : decode cL_law 333 = .ok (.iconst 0, 1) := by decide +kernel
theorem dL_law_334 : decode cL_law 334 = .ok (.ireturn, 1) := by decide +kernel
theorem dL_law_335 : decode cL_law 335 = .ok (.aload_n 1, 1) := by decide +kernel
theorem dL_law_336 : decode cL_law 336 = .ok (.invokevirtual 45, 3) := by decide +kernel
theorem dL_law_339 : decode cL_law 339 = .ok (.aload_n 2, 1) := by decide +kernel
theorem dL_law_340 : decode cL_law 340 = .ok (.invokevirtual 48, 3) := by decide +kernel
theorem dL_law_343 : decode cL_law 343 = .ok (.if_icmp .eq 629, 3) := by decide +kernel
theorem dL_law_346 : decode cL_law 346 = .ok (.iconst 0, 1) := by decide +kernel
theorem dL_law_347 : decode cL_law 347 = .ok (.ireturn, 1) := by decide +kernel
theorem dL_law_348 : decode cL_law 348 = .ok (.aload_n 1, 1) := by decide +kernel
theorem dL_law_349 : decode cL_law 349 = .ok (.aload_n 0, 1) := by decide +kernel
theorem dL_law_350 : decode cL_law 350 = .ok (.iload_n 3, 1) := by decide +kernel
theorem dL_law_351 : decode cL_law 351 = .ok (.iconst 1, 1) := by decide +kernel
theorem dL_law_352 : decode cL_law 352 = .ok (.iadd, 1) := by decide +kernel
theorem dL_law_353 : decode cL_law 353 = .ok (.iaload, 1) := by decide +kernel
theorem dL_law_354 : decode cL_law 354 = .ok (.aload_n 0, 1) := by decide +kernel
theorem dL_law_355 : decode cL_law 355 = .ok (.iload_n 3, 1) := by decide +kernel
theorem dL_law_356 : decode cL_law 356 = .ok (.iconst 2, 1) := by decide +kernel
theorem dL_law_357 : decode cL_law 357 = .ok (.iadd, 1) := by decide +kernel
theorem dL_law_358 : decode cL_law 358 = .ok (.iaload, 1) := by decide +kernel
theorem dL_law_359 : decode cL_law 359 = .ok (.invokevirtual 49, 3) := by decide +kernel
theorem dL_law_362 : decode cL_law 362 = .ok (.aload_n 2, 1) := by decide +kernel
theorem dL_law_363 : decode cL_law 363 = .ok (.aload_n 0, 1) := by decide +kernel
theorem dL_law_364 : decode cL_law 364 = .ok (.iload_n 3, 1) := by decide +kernel
theorem dL_law_365 : decode cL_law 365 = .ok (.iconst 1, 1) := by decide +kernel
theorem dL_law_366 : decode cL_law 366 = .ok (.iadd, 1) := by decide +kernel
theorem dL_law_367 : decode cL_law 367 = .ok (.iaload, 1) := by decide +kernel
theorem dL_law_368 : decode cL_law 368 = .ok (.aload_n 0, 1) := by decide +kernel
theorem dL_law_369 : decode cL_law 369 = .ok (.iload_n 3, 1) := by decide +kernel
theorem dL_law_370 : decode cL_law 370 = .ok (.iconst 2, 1) := by decide +kernel
theorem dL_law_371 : decode cL_law 371 = .ok (.iadd, 1) := by decide +kernel
theorem dL_law_372 : decode cL_law 372 = .ok (.iaload, 1) := by decide +kernel
theorem dL_law_373 : decode cL_law 373 = .ok (.invokevirtual 52, 3) := by decide +kernel
theorem dL_law_376 : decode cL_law 376 = .ok (.if_icmp .eq 596, 3) := by decide +kernel
theorem dL_law_379 : decode cL_law 379 = .ok (.iconst 0, 1) := by decide +kernel
theorem dL_law_380 : decode cL_law 380 = .ok (.ireturn, 1) := by decide +kernel
theorem dL_law_381 : decode cL_law 381 = .ok (.aload_n 1, 1) := by decide +kernel
theorem dL_law_382 : decode cL_law 382 = .ok (.aload_n 0, 1) := by decide +kernel
theorem dL_law_383 : decode cL_law 383 = .ok (.iload_n 3, 1) := by decide +kernel
theorem dL_law_384 : decode cL_law 384 = .ok (.iconst 1, 1) := by decide +kernel
theorem dL_law_385 : decode cL_law 385 = .ok (.iadd, 1) := by decide +kernel
theorem dL_law_386 : decode cL_law 386 = .ok (.iaload, 1) := by decide +kernel
theorem dL_law_387 : decode cL_law 387 = .ok (.aload_n 0, 1) := by decide +kernel
theorem dL_law_388 : decode cL_law 388 = .ok (.iload_n 3, 1) := by decide +kernel
theorem dL_law_389 : decode cL_law 389 = .ok (.iconst 2, 1) := by decide +kernel
theorem dL_law_390 : decode cL_law 390 = .ok (.iadd, 1) := by decide +kernel
theorem dL_law_391 : decode cL_law 391 = .ok (.iaload, 1) := by decide +kernel
theorem dL_law_392 : decode cL_law 392 = .ok (.invokevirtual 53, 3) := by decide +kernel
theorem dL_law_395 : decode cL_law 395 = .ok (.aload_n 2, 1) := by decide +kernel
theorem dL_law_396 : decode cL_law 396 = .ok (.aload_n 0, 1) := by decide +kernel
theorem dL_law_397 : decode cL_law 397 = .ok (.iload_n 3, 1) := by decide +kernel
theorem dL_law_398 : decode cL_law 398 = .ok (.iconst 1, 1) := by decide +kernel
theorem dL_law_399 : decode cL_law 399 = .ok (.iadd, 1) := by decide +kernel
theorem dL_law_400 : decode cL_law 400 = .ok (.iaload, 1) := by decide +kernel
theorem dL_law_401 : decode cL_law 401 = .ok (.aload_n 0, 1) := by decide +kernel
theorem dL_law_402 : decode cL_law 402 = .ok (.iload_n 3, 1) := by decide +kernel
theorem dL_law_403 : decode cL_law 403 = .ok (.iconst 2, 1) := by decide +kernel
theorem dL_law_404 : decode cL_law 404 = .ok (.iadd, 1) := by decide +kernel
theorem dL_law_405 : decode cL_law 405 = .ok (.iaload, 1) := by decide +kernel
theorem dL_law_406 : decode cL_law 406 = .ok (.invokevirtual 56, 3) := by decide +kernel
theorem dL_law_409 : decode cL_law 409 = .ok (.if_icmp .eq 563, 3) := by decide +kernel
theorem dL_law_412 : decode cL_law 412 = .ok (.iconst 0, 1) := by decide +kernel
theorem dL_law_413 : decode cL_law 413 = .ok (.ireturn, 1) := by decide +kernel
theorem dL_law_414 : decode cL_law 414 = .ok (.aload_n 1, 1) := by decide +kernel
theorem dL_law_415 : decode cL_law 415 = .ok (.invokevirtual 57, 3) := by decide +kernel
theorem dL_law_418 : decode cL_law 418 = .ok (.aload_n 2, 1) := by decide +kernel
theorem dL_law_419 : decode cL_law 419 = .ok (.invokevirtual 60, 3) := by decide +kernel
theorem dL_law_422 : decode cL_law 422 = .ok (.if_icmp .eq 550, 3) := by decide +kernel
theorem dL_law_425 : decode cL_law 425 = .ok (.iconst 0, 1) := by decide +kernel
theorem dL_law_426 : decode cL_law 426 = .ok (.ireturn, 1) := by decide +kernel
theorem dL_law_427 : decode cL_law 427 = .ok (.aload_n 1, 1) := by decide +kernel
theorem dL_law_428 : decode cL_law 428 = .ok (.aload_n 0, 1) := by decide +kernel
theorem dL_law_429 : decode cL_law 429 = .ok (.iload_n 3, 1) := by decide +kernel
theorem dL_law_430 : decode cL_law 430 = .ok (.iconst 1, 1) := by decide +kernel
theorem dL_law_431 : decode cL_law 431 = .ok (.iadd, 1) := by decide +kernel
theorem dL_law_432 : decode cL_law 432 = .ok (.iaload, 1) := by decide +kernel
theorem dL_law_433 : decode cL_law 433 = .ok (.invokevirtual 61, 3) := by decide +kernel
theorem dL_law_436 : decode cL_law 436 = .ok (.aload_n 2, 1) := by decide +kernel
theorem dL_law_437 : decode cL_law 437 = .ok (.aload_n 0, 1) := by decide +kernel
theorem dL_law_438 : decode cL_law 438 = .ok (.iload_n 3, 1) := by decide +kernel
theorem dL_law_439 : decode cL_law 439 = .ok (.iconst 1, 1) := by decide +kernel
theorem dL_law_440 : decode cL_law 440 = .ok (.iadd, 1) := by decide +kernel
theorem dL_law_441 : decode cL_law 441 = .ok (.iaload, 1) := by decide +kernel
theorem dL_law_442 : decode cL_law 442 = .ok (.invokevirtual 64, 3) := by decide +kernel
theorem dL_law_445 : decode cL_law 445 = .ok (.if_icmp .eq 527, 3) := by decide +kernel
theorem dL_law_448 : decode cL_law 448 = .ok (.iconst 0, 1) := by decide +kernel
theorem dL_law_449 : decode cL_law 449 = .ok (.ireturn, 1) := by decide +kernel
theorem dL_law_450 : decode cL_law 450 = .ok (.aload_n 1, 1) := by decide +kernel
theorem dL_law_451 : decode cL_law 451 = .ok (.aload_n 0, 1) := by decide +kernel
theorem dL_law_452 : decode cL_law 452 = .ok (.iload_n 3, 1) := by decide +kernel
theorem dL_law_453 : decode cL_law 453 = .ok (.iconst 1, 1) := by decide +kernel
theorem dL_law_454 : decode cL_law 454 = .ok (.iadd, 1) := by decide +kernel
theorem dL_law_455 : decode cL_law 455 = .ok (.iaload, 1) := by decide +kernel
theorem dL_law_456 : decode cL_law 456 = .ok (.invokevirtual 65, 3) := by decide +kernel
theorem dL_law_459 : decode cL_law 459 = .ok (.aload_n 2, 1) := by decide +kernel
theorem dL_law_460 : decode cL_law 460 = .ok (.aload_n 0, 1) := by decide +kernel
theorem dL_law_461 : decode cL_law 461 = .ok (.iload_n 3, 1) := by decide +kernel
theorem dL_law_462 : decode cL_law 462 = .ok (.iconst 1, 1) := by decide +kernel
theorem dL_law_463 : decode cL_law 463 = .ok (.iadd, 1) := by decide +kernel
theorem dL_law_464 : decode cL_law 464 = .ok (.iaload, 1) := by decide +kernel
theorem dL_law_465 : decode cL_law 465 = .ok (.invokevirtual 68, 3) := by decide +kernel
theorem dL_law_468 : decode cL_law 468 = .ok (.if_icmp .eq 504, 3) := by decide +kernel
theorem dL_law_471 : decode cL_law 471 = .ok (.iconst 0, 1) := by decide +kernel
theorem dL_law_472 : decode cL_law 472 = .ok (.ireturn, 1) := by decide +kernel
theorem dL_law_473 : decode cL_law 473 = .ok (.aload_n 1, 1) := by decide +kernel
theorem dL_law_474 : decode cL_law 474 = .ok (.aload_n 0, 1) := by decide +kernel
theorem dL_law_475 : decode cL_law 475 = .ok (.iload_n 3, 1) := by decide +kernel
theorem dL_law_476 : decode cL_law 476 = .ok (.iconst 1, 1) := by decide +kernel
theorem dL_law_477 : decode cL_law 477 = .ok (.iadd, 1) := by decide +kernel
theorem dL_law_478 : decode cL_law 478 = .ok (.iaload, 1) := by decide +kernel
theorem dL_law_479 : decode cL_law 479 = .ok (.invokevirtual 69, 3) := by decide +kernel
theorem dL_law_482 : decode cL_law 482 = .ok (.aload_n 2, 1) := by decide +kernel
theorem dL_law_483 : decode cL_law 483 = .ok (.aload_n 0, 1) := by decide +kernel
theorem dL_law_484 : decode cL_law 484 = .ok (.iload_n 3, 1) := by decide +kernel
theorem dL_law_485 : decode cL_law 485 = .ok (.iconst 1, 1) := by decide +kernel
theorem dL_law_486 : decode cL_law 486 = .ok (.iadd, 1) := by decide +kernel
theorem dL_law_487 : decode cL_law 487 = .ok (.iaload, 1) := by decide +kernel
theorem dL_law_488 : decode cL_law 488 = .ok (.invokevirtual 72, 3) := by decide +kernel
theorem dL_law_491 : decode cL_law 491 = .ok (.if_icmp .eq 481, 3) := by decide +kernel
theorem dL_law_494 : decode cL_law 494 = .ok (.iconst 0, 1) := by decide +kernel
theorem dL_law_495 : decode cL_law 495 = .ok (.ireturn, 1) := by decide +kernel
theorem dL_law_496 : decode cL_law 496 = .ok (.aload_n 1, 1) := by decide +kernel
theorem dL_law_497 : decode cL_law 497 = .ok (.aload_n 0, 1) := by decide +kernel
theorem dL_law_498 : decode cL_law 498 = .ok (.iload_n 3, 1) := by decide +kernel
theorem dL_law_499 : decode cL_law 499 = .ok (.iconst 1, 1) := by decide +kernel
theorem dL_law_500 : decode cL_law 500 = .ok (.iadd, 1) := by decide +kernel
theorem dL_law_501 : decode cL_law 501 = .ok (.iaload, 1) := by decide +kernel
theorem dL_law_502 : decode cL_law 502 = .ok (.invokevirtual 73, 3) := by decide +kernel
theorem dL_law_505 : decode cL_law 505 = .ok (.aload_n 2, 1) := by decide +kernel
theorem dL_law_506 : decode cL_law 506 = .ok (.aload_n 0, 1) := by decide +kernel
theorem dL_law_507 : decode cL_law 507 = .ok (.iload_n 3, 1) := by decide +kernel
theorem dL_law_508 : decode cL_law 508 = .ok (.iconst 1, 1) := by decide +kernel
theorem dL_law_509 : decode cL_law 509 = .ok (.iadd, 1) := by decide +kernel
theorem dL_law_510 : decode cL_law 510 = .ok (.iaload, 1) := by decide +kernel
theorem dL_law_511 : decode cL_law 511 = .ok (.invokevirtual 76, 3) := by decide +kernel
theorem dL_law_514 : decode cL_law 514 = .ok (.if_icmp .eq 458, 3) := by decide +kernel
theorem dL_law_517 : decode cL_law 517 = .ok (.iconst 0, 1) := by decide +kernel
theorem dL_law_518 : decode cL_law 518 = .ok (.ireturn, 1) := by decide +kernel
theorem dL_law_519 : decode cL_law 519 = .ok (.aload_n 1, 1) := by decide +kernel
theorem dL_law_520 : decode cL_law 520 = .ok (.aload_n 0, 1) := by decide +kernel
theorem dL_law_521 : decode cL_law 521 = .ok (.iload_n 3, 1) := by decide +kernel
theorem dL_law_522 : decode cL_law 522 = .ok (.iconst 1, 1) := by decide +kernel
theorem dL_law_523 : decode cL_law 523 = .ok (.iadd, 1) := by decide +kernel
theorem dL_law_524 : decode cL_law 524 = .ok (.iaload, 1) := by decide +kernel
theorem dL_law_525 : decode cL_law 525 = .ok (.aload_n 0, 1) := by decide +kernel
theorem dL_law_526 : decode cL_law 526 = .ok (.iload_n 3, 1) := by decide +kernel
theorem dL_law_527 : decode cL_law 527 = .ok (.iconst 2, 1) := by decide +kernel
theorem dL_law_528 : decode cL_law 528 = .ok (.iadd, 1) := by decide +kernel
theorem dL_law_529 : decode cL_law 529 = .ok (.iaload, 1) := by decide +kernel
theorem dL_law_530 : decode cL_law 530 = .ok (.aload_n 0, 1) := by decide +kernel
theorem dL_law_531 : decode cL_law 531 = .ok (.iload_n 3, 1) := by decide +kernel
theorem dL_law_532 : decode cL_law 532 = .ok (.iconst 3, 1) := by decide +kernel
theorem dL_law_533 : decode cL_law 533 = .ok (.iadd, 1) := by decide +kernel
theorem dL_law_534 : decode cL_law 534 = .ok (.iaload, 1) := by decide +kernel
theorem dL_law_535 : decode cL_law 535 = .ok (.invokevirtual 77, 3) := by decide +kernel
theorem dL_law_538 : decode cL_law 538 = .ok (.aload_n 2, 1) := by decide +kernel
theorem dL_law_539 : decode cL_law 539 = .ok (.aload_n 0, 1) := by decide +kernel
theorem dL_law_540 : decode cL_law 540 = .ok (.iload_n 3, 1) := by decide +kernel
theorem dL_law_541 : decode cL_law 541 = .ok (.iconst 1, 1) := by decide +kernel
theorem dL_law_542 : decode cL_law 542 = .ok (.iadd, 1) := by decide +kernel
theorem dL_law_543 : decode cL_law 543 = .ok (.iaload, 1) := by decide +kernel
theorem dL_law_544 : decode cL_law 544 = .ok (.aload_n 0, 1) := by decide +kernel
theorem dL_law_545 : decode cL_law 545 = .ok (.iload_n 3, 1) := by decide +kernel
theorem dL_law_546 : decode cL_law 546 = .ok (.iconst 2, 1) := by decide +kernel
theorem dL_law_547 : decode cL_law 547 = .ok (.iadd, 1) := by decide +kernel
theorem dL_law_548 : decode cL_law 548 = .ok (.iaload, 1) := by decide +kernel
theorem dL_law_549 : decode cL_law 549 = .ok (.aload_n 0, 1) := by decide +kernel
theorem dL_law_550 : decode cL_law 550 = .ok (.iload_n 3, 1) := by decide +kernel
theorem dL_law_551 : decode cL_law 551 = .ok (.iconst 3, 1) := by decide +kernel
theorem dL_law_552 : decode cL_law 552 = .ok (.iadd, 1) := by decide +kernel
theorem dL_law_553 : decode cL_law 553 = .ok (.iaload, 1) := by decide +kernel
theorem dL_law_554 : decode cL_law 554 = .ok (.invokevirtual 80, 3) := by decide +kernel
theorem dL_law_557 : decode cL_law 557 = .ok (.if_icmp .eq 415, 3) := by decide +kernel
theorem dL_law_560 : decode cL_law 560 = .ok (.iconst 0, 1) := by decide +kernel
theorem dL_law_561 : decode cL_law 561 = .ok (.ireturn, 1) := by decide +kernel
theorem dL_law_562 : decode cL_law 562 = .ok (.aload_n 1, 1) := by decide +kernel
theorem dL_law_563 : decode cL_law 563 = .ok (.aload_n 0, 1) := by decide +kernel
theorem dL_law_564 : decode cL_law 564 = .ok (.iload_n 3, 1) := by decide +kernel
theorem dL_law_565 : decode cL_law 565 = .ok (.iconst 1, 1) := by decide +kernel
theorem dL_law_566 : decode cL_law 566 = .ok (.iadd, 1) := by decide +kernel
theorem dL_law_567 : decode cL_law 567 = .ok (.iaload, 1) := by decide +kernel
theorem dL_law_568 : decode cL_law 568 = .ok (.invokevirtual 81, 3) := by decide +kernel
theorem dL_law_571 : decode cL_law 571 = .ok (.aload_n 2, 1) := by decide +kernel
theorem dL_law_572 : decode cL_law 572 = .ok (.aload_n 0, 1) := by decide +kernel
theorem dL_law_573 : decode cL_law 573 = .ok (.iload_n 3, 1) := by decide +kernel
theorem dL_law_574 : decode cL_law 574 = .ok (.iconst 1, 1) := by decide +kernel
theorem dL_law_575 : decode cL_law 575 = .ok (.iadd, 1) := by decide +kernel
theorem dL_law_576 : decode cL_law 576 = .ok (.iaload, 1) := by decide +kernel
theorem dL_law_577 : decode cL_law 577 = .ok (.invokevirtual 84, 3) := by decide +kernel
theorem dL_law_580 : decode cL_law 580 = .ok (.if_icmp .eq 392, 3) := by decide +kernel
theorem dL_law_583 : decode cL_law 583 = .ok (.iconst 0, 1) := by decide +kernel
theorem dL_law_584 : decode cL_law 584 = .ok (.ireturn, 1) := by decide +kernel
theorem dL_law_585 : decode cL_law 585 = .ok (.aload_n 1, 1) := by decide +kernel
theorem dL_law_586 : decode cL_law 586 = .ok (.aload_n 0, 1) := by decide +kernel
theorem dL_law_587 : decode cL_law 587 = .ok (.iload_n 3, 1) := by decide +kernel
theorem dL_law_588 : decode cL_law 588 = .ok (.iconst 1, 1) := by decide +kernel
theorem dL_law_589 : decode cL_law 589 = .ok (.iadd, 1) := by decide +kernel
theorem dL_law_590 : decode cL_law 590 = .ok (.iaload, 1) := by decide +kernel
theorem dL_law_591 : decode cL_law 591 = .ok (.aload_n 0, 1) := by decide +kernel
theorem dL_law_592 : decode cL_law 592 = .ok (.iload_n 3, 1) := by decide +kernel
theorem dL_law_593 : decode cL_law 593 = .ok (.iconst 2, 1) := by decide +kernel
theorem dL_law_594 : decode cL_law 594 = .ok (.iadd, 1) := by decide +kernel
theorem dL_law_595 : decode cL_law 595 = .ok (.iaload, 1) := by decide +kernel
theorem dL_law_596 : decode cL_law 596 = .ok (.invokevirtual 85, 3) := by decide +kernel
theorem dL_law_599 : decode cL_law 599 = .ok (.aload_n 2, 1) := by decide +kernel
theorem dL_law_600 : decode cL_law 600 = .ok (.aload_n 0, 1) := by decide +kernel
theorem dL_law_601 : decode cL_law 601 = .ok (.iload_n 3, 1) := by decide +kernel
theorem dL_law_602 : decode cL_law 602 = .ok (.iconst 1, 1) := by decide +kernel
theorem dL_law_603 : decode cL_law 603 = .ok (.iadd, 1) := by decide +kernel
theorem dL_law_604 : decode cL_law 604 = .ok (.iaload, 1) := by decide +kernel
theorem dL_law_605 : decode cL_law 605 = .ok (.aload_n 0, 1) := by decide +kernel
theorem dL_law_606 : decode cL_law 606 = .ok (.iload_n 3, 1) := by decide +kernel
theorem dL_law_607 : decode cL_law 607 = .ok (.iconst 2, 1) := by decide +kernel
theorem dL_law_608 : decode cL_law 608 = .ok (.iadd, 1) := by decide +kernel
theorem dL_law_609 : decode cL_law 609 = .ok (.iaload, 1) := by decide +kernel
theorem dL_law_610 : decode cL_law 610 = .ok (.invokevirtual 88, 3) := by decide +kernel
theorem dL_law_613 : decode cL_law 613 = .ok (.if_icmp .eq 359, 3) := by decide +kernel
theorem dL_law_616 : decode cL_law 616 = .ok (.iconst 0, 1) := by decide +kernel
theorem dL_law_617 : decode cL_law 617 = .ok (.ireturn, 1) := by decide +kernel
theorem dL_law_618 : decode cL_law 618 = .ok (.aload_n 1, 1) := by decide +kernel
theorem dL_law_619 : decode cL_law 619 = .ok (.invokevirtual 89, 3) := by decide +kernel
theorem dL_law_622 : decode cL_law 622 = .ok (.aload_n 2, 1) := by decide +kernel
theorem dL_law_623 : decode cL_law 623 = .ok (.invokevirtual 92, 3) := by decide +kernel
theorem dL_law_626 : decode cL_law 626 = .ok (.if_icmp .eq 346, 3) := by decide +kernel
theorem dL_law_629 : decode cL_law 629 = .ok (.iconst 0, 1) := by decide +kernel
theorem dL_law_630 : decode cL_law 630 = .ok (.ireturn, 1) := by decide +kernel
theorem dL_law_631 : decode cL_law 631 = .ok (.aload_n 1, 1) := by decide +kernel
theorem dL_law_632 : decode cL_law 632 = .ok (.aload_n 0, 1) := by decide +kernel
theorem dL_law_633 : decode cL_law 633 = .ok (.iload_n 3, 1) := by decide +kernel
theorem dL_law_634 : decode cL_law 634 = .ok (.iconst 1, 1) := by decide +kernel
theorem dL_law_635 : decode cL_law 635 = .ok (.iadd, 1) := by decide +kernel
theorem dL_law_636 : decode cL_law 636 = .ok (.iaload, 1) := by decide +kernel
theorem dL_law_637 : decode cL_law 637 = .ok (.aload_n 0, 1) := by decide +kernel
theorem dL_law_638 : decode cL_law 638 = .ok (.iload_n 3, 1) := by decide +kernel
theorem dL_law_639 : decode cL_law 639 = .ok (.iconst 2, 1) := by decide +kernel
theorem dL_law_640 : decode cL_law 640 = .ok (.iadd, 1) := by decide +kernel
theorem dL_law_641 : decode cL_law 641 = .ok (.iaload, 1) := by decide +kernel
theorem dL_law_642 : decode cL_law 642 = .ok (.invokevirtual 93, 3) := by decide +kernel
theorem dL_law_645 : decode cL_law 645 = .ok (.aload_n 2, 1) := by decide +kernel
theorem dL_law_646 : decode cL_law 646 = .ok (.aload_n 0, 1) := by decide +kernel
theorem dL_law_647 : decode cL_law 647 = .ok (.iload_n 3, 1) := by decide +kernel
theorem dL_law_648 : decode cL_law 648 = .ok (.iconst 1, 1) := by decide +kernel
theorem dL_law_649 : decode cL_law 649 = .ok (.iadd, 1) := by decide +kernel
theorem dL_law_650 : decode cL_law 650 = .ok (.iaload, 1) := by decide +kernel
theorem dL_law_651 : decode cL_law 651 = .ok (.aload_n 0, 1) := by decide +kernel
theorem dL_law_652 : decode cL_law 652 = .ok (.iload_n 3, 1) := by decide +kernel
theorem dL_law_653 : decode cL_law 653 = .ok (.iconst 2, 1) := by decide +kernel
theorem dL_law_654 : decode cL_law 654 = .ok (.iadd, 1) := by decide +kernel
theorem dL_law_655 : decode cL_law 655 = .ok (.iaload, 1) := by decide +kernel
theorem dL_law_656 : decode cL_law 656 = .ok (.invokevirtual 96, 3) := by decide +kernel
theorem dL_law_659 : decode cL_law 659 = .ok (.if_icmp .eq 313, 3) := by decide +kernel
theorem dL_law_662 : decode cL_law 662 = .ok (.iconst 0, 1) := by decide +kernel
theorem dL_law_663 : decode cL_law 663 = .ok (.ireturn, 1) := by decide +kernel
theorem dL_law_664 : decode cL_law 664 = .ok (.aload_n 1, 1) := by decide +kernel
theorem dL_law_665 : decode cL_law 665 = .ok (.aload_n 0, 1) := by decide +kernel
theorem dL_law_666 : decode cL_law 666 = .ok (.iload_n 3, 1) := by decide +kernel
theorem dL_law_667 : decode cL_law 667 = .ok (.iconst 1, 1) := by decide +kernel
theorem dL_law_668 : decode cL_law 668 = .ok (.iadd, 1) := by decide +kernel
theorem dL_law_669 : decode cL_law 669 = .ok (.iaload, 1) := by decide +kernel
theorem dL_law_670 : decode cL_law 670 = .ok (.aload_n 0, 1) := by decide +kernel
theorem dL_law_671 : decode cL_law 671 = .ok (.iload_n 3, 1) := by decide +kernel
theorem dL_law_672 : decode cL_law 672 = .ok (.iconst 2, 1) := by decide +kernel
theorem dL_law_673 : decode cL_law 673 = .ok (.iadd, 1) := by decide +kernel
theorem dL_law_674 : decode cL_law 674 = .ok (.iaload, 1) := by decide +kernel
theorem dL_law_675 : decode cL_law 675 = .ok (.invokevirtual 97, 3) := by decide +kernel
theorem dL_law_678 : decode cL_law 678 = .ok (.aload_n 2, 1) := by decide +kernel
theorem dL_law_679 : decode cL_law 679 = .ok (.aload_n 0, 1) := by decide +kernel
theorem dL_law_680 : decode cL_law 680 = .ok (.iload_n 3, 1) := by decide +kernel
theorem dL_law_681 : decode cL_law 681 = .ok (.iconst 1, 1) := by decide +kernel
theorem dL_law_682 : decode cL_law 682 = .ok (.iadd, 1) := by decide +kernel
theorem dL_law_683 : decode cL_law 683 = .ok (.iaload, 1) := by decide +kernel
theorem dL_law_684 : decode cL_law 684 = .ok (.aload_n 0, 1) := by decide +kernel
theorem dL_law_685 : decode cL_law 685 = .ok (.iload_n 3, 1) := by decide +kernel
theorem dL_law_686 : decode cL_law 686 = .ok (.iconst 2, 1) := by decide +kernel
theorem dL_law_687 : decode cL_law 687 = .ok (.iadd, 1) := by decide +kernel
theorem dL_law_688 : decode cL_law 688 = .ok (.iaload, 1) := by decide +kernel
theorem dL_law_689 : decode cL_law 689 = .ok (.invokevirtual 100, 3) := by decide +kernel
theorem dL_law_692 : decode cL_law 692 = .ok (.if_icmp .eq 280, 3) := by decide +kernel
theorem dL_law_695 : decode cL_law 695 = .ok (.iconst 0, 1) := by decide +kernel
theorem dL_law_696 : decode cL_law 696 = .ok (.ireturn, 1) := by decide +kernel
theorem dL_law_697 : decode cL_law 697 = .ok (.aload_n 1, 1) := by decide +kernel
theorem dL_law_698 : decode cL_law 698 = .ok (.aload_n 0, 1) := by decide +kernel
theorem dL_law_699 : decode cL_law 699 = .ok (.iload_n 3, 1) := by decide +kernel
theorem dL_law_700 : decode cL_law 700 = .ok (.iconst 1, 1) := by decide +kernel
theorem dL_law_701 : decode cL_law 701 = .ok (.iadd, 1) := by decide +kernel
theorem dL_law_702 : decode cL_law 702 = .ok (.iaload, 1) := by decide +kernel
theorem dL_law_703 : decode cL_law 703 = .ok (.invokevirtual 101, 3) := by decide +kernel
theorem dL_law_706 : decode cL_law 706 = .ok (.aload_n 2, 1) := by decide +kernel
theorem dL_law_707 : decode cL_law 707 = .ok (.aload_n 0, 1) := by decide +kernel
theorem dL_law_708 : decode cL_law 708 = .ok (.iload_n 3, 1) := by decide +kernel
theorem dL_law_709 : decode cL_law 709 = .ok (.iconst 1, 1) := by decide +kernel
theorem dL_law_710 : decode cL_law 710 = .ok (.iadd, 1) := by decide +kernel
theorem dL_law_711 : decode cL_law 711 = .ok (.iaload, 1) := by decide +kernel
theorem dL_law_712 : decode cL_law 712 = .ok (.invokevirtual 104, 3) := by decide +kernel
theorem dL_law_715 : decode cL_law 715 = .ok (.if_icmp .eq 257, 3) := by decide +kernel
theorem dL_law_718 : decode cL_law 718 = .ok (.iconst 0, 1) := by decide +kernel
theorem dL_law_719 : decode cL_law 719 = .ok (.ireturn, 1) := by decide +kernel
theorem dL_law_720 : decode cL_law 720 = .ok (.aload_n 1, 1) := by decide +kernel
theorem dL_law_721 : decode cL_law 721 = .ok (.aload_n 0, 1) := by decide +kernel
theorem dL_law_722 : decode cL_law 722 = .ok (.iload_n 3, 1) := by decide +kernel
theorem dL_law_723 : decode cL_law 723 = .ok (.iconst 1, 1) := by decide +kernel
theorem dL_law_724 : decode cL_law 724 = .ok (.iadd, 1) := by decide +kernel
theorem dL_law_725 : decode cL_law 725 = .ok (.iaload, 1) := by decide +kernel
theorem dL_law_726 : decode cL_law 726 = .ok (.aload_n 0, 1) := by decide +kernel
theorem dL_law_727 : decode cL_law 727 = .ok (.iload_n 3, 1) := by decide +kernel
theorem dL_law_728 : decode cL_law 728 = .ok (.iconst 2, 1) := by decide +kernel
theorem dL_law_729 : decode cL_law 729 = .ok (.iadd, 1) := by decide +kernel
theorem dL_law_730 : decode cL_law 730 = .ok (.iaload, 1) := by decide +kernel
theorem dL_law_731 : decode cL_law 731 = .ok (.aload_n 0, 1) := by decide +kernel
theorem dL_law_732 : decode cL_law 732 = .ok (.iload_n 3, 1) := by decide +kernel
theorem dL_law_733 : decode cL_law 733 = .ok (.iconst 3, 1) := by decide +kernel
theorem dL_law_734 : decode cL_law 734 = .ok (.iadd, 1) := by decide +kernel
theorem dL_law_735 : decode cL_law 735 = .ok (.iaload, 1) := by decide +kernel
theorem dL_law_736 : decode cL_law 736 = .ok (.aload_n 0, 1) := by decide +kernel
theorem dL_law_737 : decode cL_law 737 = .ok (.iload_n 3, 1) := by decide +kernel
theorem dL_law_738 : decode cL_law 738 = .ok (.iconst 4, 1) := by decide +kernel
theorem dL_law_739 : decode cL_law 739 = .ok (.iadd, 1) := by decide +kernel
theorem dL_law_740 : decode cL_law 740 = .ok (.iaload, 1) := by decide +kernel
theorem dL_law_741 : decode cL_law 741 = .ok (.invokevirtual 105, 3) := by decide +kernel
theorem dL_law_744 : decode cL_law 744 = .ok (.aload_n 2, 1) := by decide +kernel
theorem dL_law_745 : decode cL_law 745 = .ok (.aload_n 0, 1) := by decide +kernel
theorem dL_law_746 : decode cL_law 746 = .ok (.iload_n 3, 1) := by decide +kernel
theorem dL_law_747 : decode cL_law 747 = .ok (.iconst 1, 1) := by decide +kernel
theorem dL_law_748 : decode cL_law 748 = .ok (.iadd, 1) := by decide +kernel
theorem dL_law_749 : decode cL_law 749 = .ok (.iaload, 1) := by decide +kernel
theorem dL_law_750 : decode cL_law 750 = .ok (.aload_n 0, 1) := by decide +kernel
theorem dL_law_751 : decode cL_law 751 = .ok (.iload_n 3, 1) := by decide +kernel
theorem dL_law_752 : decode cL_law 752 = .ok (.iconst 2, 1) := by decide +kernel
theorem dL_law_753 : decode cL_law 753 = .ok (.iadd, 1) := by decide +kernel
theorem dL_law_754 : decode cL_law 754 = .ok (.iaload, 1) := by decide +kernel
theorem dL_law_755 : decode cL_law 755 = .ok (.aload_n 0, 1) := by decide +kernel
theorem dL_law_756 : decode cL_law 756 = .ok (.iload_n 3, 1) := by decide +kernel
theorem dL_law_757 : decode cL_law 757 = .ok (.iconst 3, 1) := by decide +kernel
theorem dL_law_758 : decode cL_law 758 = .ok (.iadd, 1) := by decide +kernel
theorem dL_law_759 : decode cL_law 759 = .ok (.iaload, 1) := by decide +kernel
theorem dL_law_760 : decode cL_law 760 = .ok (.aload_n 0, 1) := by decide +kernel
theorem dL_law_761 : decode cL_law 761 = .ok (.iload_n 3, 1) := by decide +kernel
theorem dL_law_762 : decode cL_law 762 = .ok (.iconst 4, 1) := by decide +kernel
theorem dL_law_763 : decode cL_law 763 = .ok (.iadd, 1) := by decide +kernel
theorem dL_law_764 : decode cL_law 764 = .ok (.iaload, 1) := by decide +kernel
theorem dL_law_765 : decode cL_law 765 = .ok (.invokevirtual 109, 3) := by decide +kernel
theorem dL_law_768 : decode cL_law 768 = .ok (.lcmp, 1) := by decide +kernel
theorem dL_law_769 : decode cL_law 769 = .ok (.ifCond .eq 203, 3) := by decide +kernel
theorem dL_law_772 : decode cL_law 772 = .ok (.iconst 0, 1) := by decide +kernel
theorem dL_law_773 : decode cL_law 773 = .ok (.ireturn, 1) := by decide +kernel
theorem dL_law_774 : decode cL_law 774 = .ok (.aload_n 1, 1) := by decide +kernel
theorem dL_law_775 : decode cL_law 775 = .ok (.aload_n 0, 1) := by decide +kernel
theorem dL_law_776 : decode cL_law 776 = .ok (.iload_n 3, 1) := by decide +kernel
theorem dL_law_777 : decode cL_law 777 = .ok (.iconst 1, 1) := by decide +kernel
theorem dL_law_778 : decode cL_law 778 = .ok (.iadd, 1) := by decide +kernel
theorem dL_law_779 : decode cL_law 779 = .ok (.iaload, 1) := by decide +kernel
theorem dL_law_780 : decode cL_law 780 = .ok (.aload_n 0, 1) := by decide +kernel
theorem dL_law_781 : decode cL_law 781 = .ok (.iload_n 3, 1) := by decide +kernel
theorem dL_law_782 : decode cL_law 782 = .ok (.iconst 2, 1) := by decide +kernel
theorem dL_law_783 : decode cL_law 783 = .ok (.iadd, 1) := by decide +kernel
theorem dL_law_784 : decode cL_law 784 = .ok (.iaload, 1) := by decide +kernel
theorem dL_law_785 : decode cL_law 785 = .ok (.aload_n 0, 1) := by decide +kernel
theorem dL_law_786 : decode cL_law 786 = .ok (.iload_n 3, 1) := by decide +kernel
theorem dL_law_787 : decode cL_law 787 = .ok (.iconst 3, 1) := by decide +kernel
theorem dL_law_788 : decode cL_law 788 = .ok (.iadd, 1) := by decide +kernel
theorem dL_law_789 : decode cL_law 789 = .ok (.iaload, 1) := by decide +kernel
theorem dL_law_790 : decode cL_law 790 = .ok (.aload_n 0, 1) := by decide +kernel
theorem dL_law_791 : decode cL_law 791 = .ok (.iload_n 3, 1) := by decide +kernel
theorem dL_law_792 : decode cL_law 792 = .ok (.iconst 4, 1) := by decide +kernel
theorem dL_law_793 : decode cL_law 793 = .ok (.iadd, 1) := by decide +kernel
theorem dL_law_794 : decode cL_law 794 = .ok (.iaload, 1) := by decide +kernel
theorem dL_law_795 : decode cL_law 795 = .ok (.aload_n 0, 1) := by decide +kernel
theorem dL_law_796 : decode cL_law 796 = .ok (.iload_n 3, 1) := by decide +kernel
theorem dL_law_797 : decode cL_law 797 = .ok (.iconst 5, 1) := by decide +kernel
theorem dL_law_798 : decode cL_law 798 = .ok (.iadd, 1) := by decide +kernel
theorem dL_law_799 : decode cL_law 799 = .ok (.iaload, 1) := by decide +kernel
theorem dL_law_800 : decode cL_law 800 = .ok (.invokevirtual 110, 3) := by decide +kernel
theorem dL_law_803 : decode cL_law 803 = .ok (.aload_n 2, 1) := by decide +kernel
theorem dL_law_804 : decode cL_law 804 = .ok (.aload_n 0, 1) := by decide +kernel
theorem dL_law_805 : decode cL_law 805 = .ok (.iload_n 3, 1) := by decide +kernel
theorem dL_law_806 : decode cL_law 806 = .ok (.iconst 1, 1) := by decide +kernel
theorem dL_law_807 : decode cL_law 807 = .ok (.iadd, 1) := by decide +kernel
theorem dL_law_808 : decode cL_law 808 = .ok (.iaload, 1) := by decide +kernel
theorem dL_law_809 : decode cL_law 809 = .ok (.aload_n 0, 1) := by decide +kernel
theorem dL_law_810 : decode cL_law 810 = .ok (.iload_n 3, 1) := by decide +kernel
theorem dL_law_811 : decode cL_law 811 = .ok (.iconst 2, 1) := by decide +kernel
theorem dL_law_812 : decode cL_law 812 = .ok (.iadd, 1) := by decide +kernel
theorem dL_law_813 : decode cL_law 813 = .ok (.iaload, 1) := by decide +kernel
theorem dL_law_814 : decode cL_law 814 = .ok (.aload_n 0, 1) := by decide +kernel
theorem dL_law_815 : decode cL_law 815 = .ok (.iload_n 3, 1) := by decide +kernel
theorem dL_law_816 : decode cL_law 816 = .ok (.iconst 3, 1) := by decide +kernel
theorem dL_law_817 : decode cL_law 817 = .ok (.iadd, 1) := by decide +kernel
theorem dL_law_818 : decode cL_law 818 = .ok (.iaload, 1) := by decide +kernel
theorem dL_law_819 : decode cL_law 819 = .ok (.aload_n 0, 1) := by decide +kernel
theorem dL_law_820 : decode cL_law 820 = .ok (.iload_n 3, 1) := by decide +kernel
theorem dL_law_821 : decode cL_law 821 = .ok (.iconst 4, 1) := by decide +kernel
theorem dL_law_822 : decode cL_law 822 = .ok (.iadd, 1) := by decide +kernel
theorem dL_law_823 : decode cL_law 823 = .ok (.iaload, 1) := by decide +kernel
theorem dL_law_824 : decode cL_law 824 = .ok (.aload_n 0, 1) := by decide +kernel
theorem dL_law_825 : decode cL_law 825 = .ok (.iload_n 3, 1) := by decide +kernel
theorem dL_law_826 : decode cL_law 826 = .ok (.iconst 5, 1) := by decide +kernel
theorem dL_law_827 : decode cL_law 827 = .ok (.iadd, 1) := by decide +kernel
theorem dL_law_828 : decode cL_law 828 = .ok (.iaload, 1) := by decide +kernel
theorem dL_law_829 : decode cL_law 829 = .ok (.invokevirtual 114, 3) := by decide +kernel
theorem dL_law_832 : decode cL_law 832 = .ok (.if_icmp .eq 140, 3) := by decide +kernel
theorem dL_law_835 : decode cL_law 835 = .ok (.iconst 0, 1) := by decide +kernel
theorem dL_law_836 : decode cL_law 836 = .ok (.ireturn, 1) := by decide +kernel
theorem dL_law_837 : decode cL_law 837 = .ok (.aload_n 1, 1) := by decide +kernel
theorem dL_law_838 : decode cL_law 838 = .ok (.aload_n 0, 1) := by decide +kernel
theorem dL_law_839 : decode cL_law 839 = .ok (.iload_n 3, 1) := by decide +kernel
theorem dL_law_840 : decode cL_law 840 = .ok (.iconst 1, 1) := by decide +kernel
theorem dL_law_841 : decode cL_law 841 = .ok (.iadd, 1) := by decide +kernel
theorem dL_law_842 : decode cL_law 842 = .ok (.iaload, 1) := by decide +kernel
theorem dL_law_843 : decode cL_law 843 = .ok (.invokevirtual 115, 3) := by decide +kernel
theorem dL_law_846 : decode cL_law 846 = .ok (.aload_n 2, 1) := by decide +kernel
theorem dL_law_847 : decode cL_law 847 = .ok (.aload_n 0, 1) := by decide +kernel
theorem dL_law_848 : decode cL_law 848 = .ok (.iload_n 3, 1) := by decide +kernel
theorem dL_law_849 : decode cL_law 849 = .ok (.iconst 1, 1) := by decide +kernel
theorem dL_law_850 : decode cL_law 850 = .ok (.iadd, 1) := by decide +kernel
theorem dL_law_851 : decode cL_law 851 = .ok (.iaload, 1) := by decide +kernel
theorem dL_law_852 : decode cL_law 852 = .ok (.invokevirtual 118, 3) := by decide +kernel
theorem dL_law_855 : decode cL_law 855 = .ok (.if_icmp .eq 117, 3) := by decide +kernel
theorem dL_law_858 : decode cL_law 858 = .ok (.iconst 0, 1) := by decide +kernel
theorem dL_law_859 : decode cL_law 859 = .ok (.ireturn, 1) := by decide +kernel
theorem dL_law_860 : decode cL_law 860 = .ok (.aload_n 1, 1) := by decide +kernel
theorem dL_law_861 : decode cL_law 861 = .ok (.aload_n 0, 1) := by decide +kernel
theorem dL_law_862 : decode cL_law 862 = .ok (.iload_n 3, 1) := by decide +kernel
theorem dL_law_863 : decode cL_law 863 = .ok (.iconst 1, 1) := by decide +kernel
theorem dL_law_864 : decode cL_law 864 = .ok (.iadd, 1) := by decide +kernel
theorem dL_law_865 : decode cL_law 865 = .ok (.iaload, 1) := by decide +kernel
theorem dL_law_866 : decode cL_law 866 = .ok (.aload_n 0, 1) := by decide +kernel
theorem dL_law_867 : decode cL_law 867 = .ok (.iload_n 3, 1) := by decide +kernel
theorem dL_law_868 : decode cL_law 868 = .ok (.iconst 2, 1) := by decide +kernel
theorem dL_law_869 : decode cL_law 869 = .ok (.iadd, 1) := by decide +kernel
theorem dL_law_870 : decode cL_law 870 = .ok (.iaload, 1) := by decide +kernel
theorem dL_law_871 : decode cL_law 871 = .ok (.aload_n 0, 1) := by decide +kernel
theorem dL_law_872 : decode cL_law 872 = .ok (.iload_n 3, 1) := by decide +kernel
theorem dL_law_873 : decode cL_law 873 = .ok (.iconst 3, 1) := by decide +kernel
theorem dL_law_874 : decode cL_law 874 = .ok (.iadd, 1) := by decide +kernel
theorem dL_law_875 : decode cL_law 875 = .ok (.iaload, 1) := by decide +kernel
theorem dL_law_876 : decode cL_law 876 = .ok (.invokevirtual 119, 3) := by decide +kernel
theorem dL_law_879 : decode cL_law 879 = .ok (.aload_n 2, 1) := by decide +kernel
theorem dL_law_880 : decode cL_law 880 = .ok (.aload_n 0, 1) := by decide +kernel
theorem dL_law_881 : decode cL_law 881 = .ok (.iload_n 3, 1) := by decide +kernel
theorem dL_law_882 : decode cL_law 882 = .ok (.iconst 1, 1) := by decide +kernel
theorem dL_law_883 : decode cL_law 883 = .ok (.iadd, 1) := by decide +kernel
theorem dL_law_884 : decode cL_law 884 = .ok (.iaload, 1) := by decide +kernel
theorem dL_law_885 : decode cL_law 885 = .ok (.aload_n 0, 1) := by decide +kernel
theorem dL_law_886 : decode cL_law 886 = .ok (.iload_n 3, 1) := by decide +kernel
theorem dL_law_887 : decode cL_law 887 = .ok (.iconst 2, 1) := by decide +kernel
theorem dL_law_888 : decode cL_law 888 = .ok (.iadd, 1) := by decide +kernel
theorem dL_law_889 : decode cL_law 889 = .ok (.iaload, 1) := by decide +kernel
theorem dL_law_890 : decode cL_law 890 = .ok (.aload_n 0, 1) := by decide +kernel
theorem dL_law_891 : decode cL_law 891 = .ok (.iload_n 3, 1) := by decide +kernel
theorem dL_law_892 : decode cL_law 892 = .ok (.iconst 3, 1) := by decide +kernel
theorem dL_law_893 : decode cL_law 893 = .ok (.iadd, 1) := by decide +kernel
theorem dL_law_894 : decode cL_law 894 = .ok (.iaload, 1) := by decide +kernel
theorem dL_law_895 : decode cL_law 895 = .ok (.invokevirtual 122, 3) := by decide +kernel
theorem dL_law_898 : decode cL_law 898 = .ok (.if_icmp .eq 74, 3) := by decide +kernel
theorem dL_law_901 : decode cL_law 901 = .ok (.iconst 0, 1) := by decide +kernel
theorem dL_law_902 : decode cL_law 902 = .ok (.ireturn, 1) := by decide +kernel
theorem dL_law_903 : decode cL_law 903 = .ok (.aload_n 1, 1) := by decide +kernel
theorem dL_law_904 : decode cL_law 904 = .ok (.aload_n 0, 1) := by decide +kernel
theorem dL_law_905 : decode cL_law 905 = .ok (.iload_n 3, 1) := by decide +kernel
theorem dL_law_906 : decode cL_law 906 = .ok (.iconst 1, 1) := by decide +kernel
theorem dL_law_907 : decode cL_law 907 = .ok (.iadd, 1) := by decide +kernel
theorem dL_law_908 : decode cL_law 908 = .ok (.iaload, 1) := by decide +kernel
theorem dL_law_909 : decode cL_law 909 = .ok (.invokevirtual 123, 3) := by decide +kernel
theorem dL_law_912 : decode cL_law 912 = .ok (.aload_n 2, 1) := by decide +kernel
theorem dL_law_913 : decode cL_law 913 = .ok (.aload_n 0, 1) := by decide +kernel
theorem dL_law_914 : decode cL_law 914 = .ok (.iload_n 3, 1) := by decide +kernel
theorem dL_law_915 : decode cL_law 915 = .ok (.iconst 1, 1) := by decide +kernel
theorem dL_law_916 : decode cL_law 916 = .ok (.iadd, 1) := by decide +kernel
theorem dL_law_917 : decode cL_law 917 = .ok (.iaload, 1) := by decide +kernel
theorem dL_law_918 : decode cL_law 918 = .ok (.invokevirtual 126, 3) := by decide +kernel
theorem dL_law_921 : decode cL_law 921 = .ok (.if_icmp .eq 51, 3) := by decide +kernel
theorem dL_law_924 : decode cL_law 924 = .ok (.iconst 0, 1) := by decide +kernel
theorem dL_law_925 : decode cL_law 925 = .ok (.ireturn, 1) := by decide +kernel
theorem dL_law_926 : decode cL_law 926 = .ok (.aload_n 1, 1) := by decide +kernel
theorem dL_law_927 : decode cL_law 927 = .ok (.aload_n 0, 1) := by decide +kernel
theorem dL_law_928 : decode cL_law 928 = .ok (.iload_n 3, 1) := by decide +kernel
theorem dL_law_929 : decode cL_law 929 = .ok (.iconst 1, 1) := by decide +kernel
theorem dL_law_930 : decode cL_law 930 = .ok (.iadd, 1) := by decide +kernel
theorem dL_law_931 : decode cL_law 931 = .ok (.iaload, 1) := by decide +kernel
theorem dL_law_932 : decode cL_law 932 = .ok (.invokevirtual 127, 3) := by decide +kernel
theorem dL_law_935 : decode cL_law 935 = .ok (.aload_n 2, 1) := by decide +kernel
theorem dL_law_936 : decode cL_law 936 = .ok (.aload_n 0, 1) := by decide +kernel
theorem dL_law_937 : decode cL_law 937 = .ok (.iload_n 3, 1) := by decide +kernel
theorem dL_law_938 : decode cL_law 938 = .ok (.iconst 1, 1) := by decide +kernel
theorem dL_law_939 : decode cL_law 939 = .ok (.iadd, 1) := by decide +kernel
theorem dL_law_940 : decode cL_law 940 = .ok (.iaload, 1) := by decide +kernel
theorem dL_law_941 : decode cL_law 941 = .ok (.invokevirtual 130, 3) := by decide +kernel
theorem dL_law_944 : decode cL_law 944 = .ok (.if_icmp .eq 28, 3) := by decide +kernel
theorem dL_law_947 : decode cL_law 947 = .ok (.iconst 0, 1) := by decide +kernel
theorem dL_law_948 : decode cL_law 948 = .ok (.ireturn, 1) := by decide +kernel
theorem dL_law_949 : decode cL_law 949 = .ok (.aload_n 1, 1) := by decide +kernel
theorem dL_law_950 : decode cL_law 950 = .ok (.aload_n 0, 1) := by decide +kernel
theorem dL_law_951 : decode cL_law 951 = .ok (.iload_n 3, 1) := by decide +kernel
theorem dL_law_952 : decode cL_law 952 = .ok (.iconst 1, 1) := by decide +kernel
theorem dL_law_953 : decode cL_law 953 = .ok (.iadd, 1) := by decide +kernel
theorem dL_law_954 : decode cL_law 954 = .ok (.iaload, 1) := by decide +kernel
theorem dL_law_955 : decode cL_law 955 = .ok (.invokevirtual 131, 3) := by decide +kernel
theorem dL_law_958 : decode cL_law 958 = .ok (.aload_n 2, 1) := by decide +kernel
theorem dL_law_959 : decode cL_law 959 = .ok (.aload_n 0, 1) := by decide +kernel
theorem dL_law_960 : decode cL_law 960 = .ok (.iload_n 3, 1) := by decide +kernel
theorem dL_law_961 : decode cL_law 961 = .ok (.iconst 1, 1) := by decide +kernel
theorem dL_law_962 : decode cL_law 962 = .ok (.iadd, 1) := by decide +kernel
theorem dL_law_963 : decode cL_law 963 = .ok (.iaload, 1) := by decide +kernel
theorem dL_law_964 : decode cL_law 964 = .ok (.invokevirtual 134, 3) := by decide +kernel
theorem dL_law_967 : decode cL_law 967 = .ok (.if_icmp .eq 5, 3) := by decide +kernel
theorem dL_law_970 : decode cL_law 970 = .ok (.iconst 0, 1) := by decide +kernel
theorem dL_law_971 : decode cL_law 971 = .ok (.ireturn, 1) := by decide +kernel
theorem dL_law_972 : decode cL_law 972 = .ok (.iinc 3 6, 3) := by decide +kernel
theorem dL_law_975 : decode cL_law 975 = .ok (.goto (-957), 3) := by decide +kernel
theorem dL_law_978 : decode cL_law 978 = .ok (.iconst 1, 1) := by decide +kernel
theorem dL_law_979 : decode cL_law 979 = .ok (.ireturn, 1) := by decide +kernel
end
section
/-! the machine seen through whole numbers: values, cells, worlds; the judgement Wa; contracts Ct -/
/-- the words of the tables that hold at every call -/
def lw_ok : List Cond := lw_tbl.filter goodWord
theorem lw_in (i : Nat) {w : Cond} (h : lw_tbl[i]? = some w) (hg : goodWord w = true) : w ∈ lw_ok := List.mem_filter.mpr ⟨List.mem_of_getElem? h, hg⟩
abbrev zV : Type := Int ⊕ (Int ⊕ (Option Nat ⊕ Unit))
abbrev zI (a : Int) : zV := Sum.inl a
abbrev zL (a : Int) : zV := Sum.inr (Sum.inl a)
abbrev zO (r : Option Nat) : zV := Sum.inr (Sum.inr (Sum.inl r))
abbrev zR (k : Nat) : zV := zO (some k)
abbrev zN : zV := zO none
abbrev zX : zV := Sum.inr (Sum.inr (Sum.inr ()))
abbrev zB (P : Prop) [Decidable P] : zV := zI (if P then 1 else 0)
def zu (base b : Nat) (v : zV) : Value := match v with
  | Sum.inl a => .int (Int32.ofInt a)
  | Sum.inr (Sum.inl a) => .long (Int64.ofInt a)
  | Sum.inr (Sum.inr (Sum.inl r)) => va_rf (r.map (fun k => base + k))
  | Sum.inr (Sum.inr (Sum.inr _)) => .ref b
def zcat (v : zV) : Nat := match v with
  | Sum.inr (Sum.inl _) => 2
  | _ => 1
theorem zu_cat (base b : Nat) (v : zV) : (zu base b v).category = zcat v := by
  rcases v with a | a | r | u
  · rfl
  · rfl
  · cases r <;> rfl
  · rfl
def zok (a : Option zV) : Bool := match a with
  | some v => zcat v == 1
  | none => true
abbrev zS : Type := (Nat × Nat) ⊕ Nat
def zT (ci : Nat) (j : Nat) : FieldType := match ci with
  | 0 => tyX0 j
  | 1 => tyX1 j
  | 2 => tyX2 j
  | 3 => tyX3 j
  | 4 => tyX4 j
  | 5 => tyX5 j
  | 6 => tyX6 j
  | _ => tyX7 j
def zNf (ci : Nat) : Nat := match ci with
  | 0 => 2
  | 1 => 5
  | 2 => 9
  | 3 => 4
  | 4 => 11
  | 5 => 8
  | 6 => 8
  | _ => 39
def zf (base ci j : Nat) (r : Option Nat) (x : Int) : Value := match zT ci j with
  | .int => .int (Int32.ofInt x)
  | _ => va_rf (r.map (fun k => base + k))
abbrev zY : Type := ClassId × ClassId × ClassId
def zc (cy : zY) (base : Nat) (sh : Option zS) (r : Nat → Option Nat) (f : Nat → Int) : va_E := match sh with
  | some (Sum.inl (0, n)) => .inl (cy.1, n, .inl (fun j => Int32.ofInt (f j)))
  | some (Sum.inl (1, n)) => .inl (cy.2.1, n, .inl (fun j => Int32.ofInt (f j)))
  | some (Sum.inl (_, n)) => .inl (cy.2.2, n, .inr (.inr (.inr (.inr (fun j => (r j).map (fun k => base + k))))))
  | some (Sum.inr ci) => .inr (ci, (List.range (zNf ci)).map (fun j => zf base ci j (r j) (f j)))
  | none => .inl (cy.1, 0, .inl (fun _ => 0))
abbrev zH : Type := Nat → Option zS
abbrev zG : Type := Nat → Nat → Option Nat
abbrev zE : Type := Nat → Nat → Int
def zw (cy : zY) (base n : Nat) (S : zH) (Rf : zG) (V : zE) : va_W := (List.range n).map (fun k => (base + k, zc cy base (S k) (Rf k) (V k)))
theorem zw_at {cy : zY} {base n : Nat} {S : zH} {Rf : zG} {V : zE} {k : Nat} (h : k < n) : (zw cy base n S Rf V)[k]? = some (base + k, zc cy base (S k) (Rf k) (V k)) := by
  simp [zw, h]
theorem zw_lt {cy : zY} {base n : Nat} {S : zH} {Rf : zG} {V : zE} {k : Nat} {q : Nat × va_E} (h : (zw cy base n S Rf V)[k]? = some q) : k < n ∧ q = (base + k, zc cy base (S k) (Rf k) (V k)) := by
  by_cases hk : k < n
  · rw [zw_at hk] at h; exact ⟨hk, (Option.some.inj h).symm⟩
  · simp [zw, hk] at h
abbrev zA (base : Nat) : Nat → Prop := fun q => base ≤ q
theorem zw_D {cy : zY} {base n : Nat} {S : zH} {Rf : zG} {V : zE} : va_D (zA base) (zw cy base n S Rf V) := by
  refine ⟨fun i j p q hi hj he => ?_, fun k q hk => ?_⟩
  · obtain ⟨_, rfl⟩ := zw_lt hi
    obtain ⟨_, rfl⟩ := zw_lt hj
    dsimp only at he; omega
  · obtain ⟨_, rfl⟩ := zw_lt hk
    exact Nat.le_add_right _ _
/-- a row put, a place put -/
def zp {α : Type} (V : Nat → Nat → α) (k : Nat) (f : Nat → α) : Nat → Nat → α := fun a => if a = k then f else V a
def za {α : Type} (f : Nat → α) (j : Nat) (x : α) : Nat → α := fun i => if i = j then x else f i
theorem zp_s {α : Type} (V : Nat → Nat → α) (k : Nat) (f : Nat → α) : zp V k f k = f := by simp [zp]
theorem zp_n {α : Type} (V : Nat → Nat → α) {k a : Nat} (f : Nat → α) (h : a ≠ k) : zp V k f a = V a := by simp [zp, h]
theorem za_s {α : Type} (f : Nat → α) (j : Nat) (x : α) : za f j x j = x := by simp [za]
theorem za_n {α : Type} (f : Nat → α) {j i : Nat} (x : α) (h : i ≠ j) : za f j x i = f i := by simp [za, h]
theorem zw_set {cy : zY} {base n : Nat} {S : zH} {Rf Rf' : zG} {V V' : zE} {k : Nat} {e : va_E} (hk : k < n) (he : zc cy base (S k) (Rf' k) (V' k) = e) (ho : ∀ i, i ≠ k → Rf' i = Rf i ∧ V' i = V i) :
    (zw cy base n S Rf V).set k (base + k, e) = zw cy base n S Rf' V' := by
  subst he
  apply List.ext_getElem?
  intro i
  rw [List.getElem?_set]
  by_cases hi : k = i
  · subst hi
    rw [if_pos rfl, zw_at hk, if_pos (by simp [zw, hk])]
  · rw [if_neg hi]
    by_cases hin : i < n
    · rw [zw_at hin, zw_at hin, (ho i (fun h => hi h.symm)).1, (ho i (fun h => hi h.symm)).2]
    · simp [zw, hin]
theorem zmap_set {α : Type} {N j : Nat} {g g' : Nat → α} {v : α} (hj : g' j = v) (ho : ∀ i, i ≠ j → g' i = g i) : ((List.range N).map g).set j v = (List.range N).map g' := by
  apply List.ext_getElem?
  intro i
  rw [List.getElem?_set]
  by_cases hi : j = i
  · subst hi
    by_cases hN : j < N <;> simp [hN, hj]
  · rw [if_neg hi]
    by_cases hN : i < N
    · simp [hN, ho i (fun h => hi h.symm)]
    · simp [hN]
abbrev ztys (cy : zY) : List (ClassId × FieldType) := [(cy.1, .int), (cy.2.1, .boolean), (cy.2.2, .object "SnowTalk$Street")]
abbrev zM : Type := MethodName × ByteArray × Nat × Option FieldType
abbrev zQ : Type := Option zV → zH → zG → zE → Prop
abbrev zXt : Type := State → Array Value → Nat → Nat → Prop
abbrev zZt : Type := State → Array Value → List Frame → va_G → zY → Nat → Nat → State → Prop
def zC (X : zXt) (μ : zM) (p : Program) (s : State) (m : MethodId) (args : Array Value) (meth : Method) (c : Code) (D : va_G) (cy : zY) (base b : Nat) : Prop :=
  p.tables.exec = Jvm.exec ∧ c.code = μ.2.1 ∧ meth.sig.returnType = μ.2.2.2 ∧ c.maxLocals = μ.2.2.1 ∧ s.vm.findClass μ.1.cls = some m.cls ∧ (∀ w ∈ lw_ok, w.before args s = true) ∧ meth.locks = false ∧ va_K D vwCl (ztys cy) s ∧ base ≤ s.heap.size ∧ meth.name = μ.1.name ∧ X s args base b
def zHp (D : va_G) (cy : zY) (base n : Nat) (S : zH) (Rf : zG) (V : zE) (H : Heap) (s : State) (locs : List Loc) (ce : Nat) : Prop :=
  va_P D vwCl (zw cy base n S Rf V) H ∧ s.heap.size + ce = base + n ∧ va_S (zA base) s.heap H locs ∧ ∀ k, S k ≠ none → k < n
def zLs (base b nL : Nat) (L : List (Option zV)) (ls : Array Slot) : Prop := ls.size = nL ∧ lv_wf ls ∧ ∀ (i : Nat) (v : zV), L[i]? = some (some v) → ls[i]? = some (.val (zu base b v))
def Wa (X : zXt) (μ : zM) (R : Room) (Z : zZt) (ce sl n : Nat) (S : zH) (pc : Nat) (L : List (Option zV)) (st : List zV) (Rf : zG) (V : zE) : Prop :=
  ∀ (p : Program) (l : Launch) (e : Env) (s : State) (m : MethodId) (args : Array Value) (below : List Frame) (meth : Method) (c : Code) (D : va_G) (cy : zY) (base b : Nat) (H : Heap) (locs : List Loc) (ls : Array Slot),
    zC X μ p s m args meth c D cy base b → zHp D cy base n S Rf V H s locs ce → zLs base b μ.2.2.1 L ls →
    W p l e R s m args below meth c H locs ce sl (Z s args below D cy base b) (F0 m pc ls (st.map (zu base b)))
def zqc (Q : zQ) (n1 : Nat) (D : va_G) (cy : zY) (base b : Nat) : Array Value → State → Outcome → State → Prop := fun _ st o t =>
  ∃ (r : Option zV) (S' : zH) (Rf' : zG) (V' : zE), Q r S' Rf' V' ∧ o = .returned (r.map (zu base b)) ∧ va_P D vwCl (zw cy base n1 S' Rf' V') t.heap ∧ t.heap.size = base + n1 ∧ (∀ k, S' k ≠ none → k < n1) ∧ va_F (zA base) st t
abbrev zrm (d mc ms : Nat) : Room := { frames := d, cells := mc, slots := ms, locals := 40 * d }
def zpc (as : List zV) (n : Nat) (S : zH) (Rf : zG) (V : zE) (D : va_G) (cy : zY) (base b : Nat) : Array Value → State → Prop := fun v U =>
  v = (as.map (zu base b)).toArray ∧ va_K D vwCl (ztys cy) U ∧ va_P D vwCl (zw cy base n S Rf V) U.heap ∧ U.heap.size = base + n ∧ ∀ k, S k ≠ none → k < n
abbrev zwd (μ : zM) : List Cond := Cond.code μ.1 μ.2.1 μ.2.2.1 μ.2.2.2 :: lw_ok
def Ct (d mc ms : Nat) (μ : zM) (as : List zV) (n : Nat) (S : zH) (Rf : zG) (V : zE) (Q : zQ) : Prop :=
  ∀ (l : Launch) (D : va_G) (cy : zY) (base b : Nat), Met l μ.1 (zwd μ) (zrm d mc ms) (zpc as n S Rf V D cy base b) (zqc Q (n + mc) D cy base b) mc ms (zA base)
abbrev zXn : zXt := fun _ _ _ _ => True
abbrev zZm (Q : zQ) (n1 mc ms : Nat) : zZt := fun s args below D cy base b => MQ below (zqc Q n1 D cy base b) args s mc ms (zA base)
/-- the locals of a method's entry -/
def zlo (as : List zV) : List (Option zV) := as.flatMap (fun v => if zcat v = 2 then [some v, none] else [some v])
theorem zlo_ok (base b : Nat) (as : List zV) : ∀ (i : Nat) (v : zV), (zlo as)[i]? = some (some v) → (lg_sl (as.map (zu base b)))[i]? = some (.val (zu base b v)) := by
  induction as with
  | nil => intro i v h; simp [zlo] at h
  | cons a as ih =>
    intro i v h
    have e1 : zlo (a :: as) = (if zcat a = 2 then [some a, none] else [some a]) ++ zlo as := by simp [zlo]
    have e2 : lg_sl ((a :: as).map (zu base b)) = (if zcat a = 2 then [Slot.val (zu base b a), Slot.second] else [Slot.val (zu base b a)]) ++ lg_sl (as.map (zu base b)) := by
      simp [lg_sl, zu_cat]
    rw [e1] at h
    rw [e2]
    by_cases hc : zcat a = 2
    · rw [if_pos hc] at h ⊢
      rcases i with _ | _ | i
      · simp at h ⊢; rw [h]
      · simp at h
      · simp at h ⊢; exact ih i v h
    · rw [if_neg hc] at h ⊢
      rcases i with _ | i
      · simp at h ⊢; rw [h]
      · simp at h ⊢; exact ih i v h
theorem zlo_len (base b : Nat) (as : List zV) : (lg_sl (as.map (zu base b))).length = (zlo as).length := by
  induction as with
  | nil => rfl
  | cons a as ih =>
    have e1 : zlo (a :: as) = (if zcat a = 2 then [some a, none] else [some a]) ++ zlo as := by simp [zlo]
    have e2 : lg_sl ((a :: as).map (zu base b)) = (if zcat a = 2 then [Slot.val (zu base b a), Slot.second] else [Slot.val (zu base b a)]) ++ lg_sl (as.map (zu base b)) := by
      simp [lg_sl, zu_cat]
    rw [e1, e2, List.length_append, List.length_append, ih]
    by_cases hc : zcat a = 2 <;> simp [hc]
/-- the locals at a method's entry, filled up with nothing -/
theorem zls_entry {base b : Nat} {as : List zV} {nL : Nat} (h : (zlo as).length ≤ nL) : zLs base b nL (zlo as ++ List.replicate (nL - (zlo as).length) none) ((lg_sl (as.map (zu base b)) ++ List.replicate (nL - (lg_sl (as.map (zu base b))).length) Slot.unset).toArray) := by
  obtain ⟨h1, h2, -⟩ := lv_entry (as.map (zu base b)) (n := nL) (by rw [zlo_len]; exact h)
  refine ⟨h1, h2, fun i v hv => ?_⟩
  by_cases hi : i < (zlo as).length
  · rw [List.getElem?_append_left hi] at hv
    have := zlo_ok base b as i v hv
    rw [List.getElem?_toArray, List.getElem?_append_left (by rw [zlo_len]; exact hi)]
    exact this
  · rw [List.getElem?_append_right (by omega)] at hv
    rw [List.getElem?_replicate] at hv
    split at hv <;> simp at hv
theorem ct_of {d mc ms : Nat} {μ : zM} {as : List zV} {n : Nat} {S : zH} {Rf : zG} {V : zE} {Q : zQ} {L : List (Option zV)} (hy : plainName μ.1.cls = true) (hL : zlo as ++ List.replicate (μ.2.2.1 - (zlo as).length) none = L) (hlen : (zlo as).length ≤ μ.2.2.1)
    (k : Wa zXn μ (zrm d mc ms) (zZm Q (n + mc) mc ms) 0 0 n S 0 L [] Rf V) : Ct d mc ms μ as n S Rf V Q := by
  intro l D cy base b
  refine Met.ofW (cc := μ.2.1) (maxL := μ.2.2.1) (ret := μ.2.2.2) hy rfl ?_
  intro p e s m args below meth c s₁ B hml hv
  obtain ⟨rfl, hK, hP, hsz, hSn⟩ := hv
  have hts := atoms_spec (ws := zwd μ) B.pre
  subst hL
  have h := k p l e s m (as.map (zu base b)).toArray below meth c D cy base b s.heap [] _ ⟨B.exec, B.bytes, B.returns, hml, findClass_of_methodNamed B.named, fun w hw => hts w (List.mem_cons_of_mem _ hw), B.notSynchronized, hK, by omega, (name_of_methodNamed B.named B.method).1, trivial⟩ ⟨hP, hsz, va_S.rf, hSn⟩ (zls_entry hlen)
  rw [lg_entry_eq]
  exact h
end
section
/-! rows: an instruction each, over Wa -/
theorem zi_to {a : Int} (h : -2147483648 ≤ a ∧ a ≤ 2147483647) : (Int32.ofInt a).toInt = a := Int32.toInt_ofInt_of_le (by omega) (by omega)
theorem zl_to {a : Int} (h : -9223372036854775808 ≤ a ∧ a ≤ 9223372036854775807) : (Int64.ofInt a).toInt = a := Int64.toInt_ofInt_of_le (by omega) (by omega)
theorem zi_le {a b : Int} (ha : -2147483648 ≤ a ∧ a ≤ 2147483647) (hb : -2147483648 ≤ b ∧ b ≤ 2147483647) : Int32.ofInt a ≤ Int32.ofInt b ↔ a ≤ b := by rw [Int32.le_iff_toInt_le, zi_to ha, zi_to hb]
theorem zi_lt {a b : Int} (ha : -2147483648 ≤ a ∧ a ≤ 2147483647) (hb : -2147483648 ≤ b ∧ b ≤ 2147483647) : Int32.ofInt a < Int32.ofInt b ↔ a < b := by rw [Int32.lt_iff_toInt_lt, zi_to ha, zi_to hb]
theorem zi_eq {a b : Int} (ha : -2147483648 ≤ a ∧ a ≤ 2147483647) (hb : -2147483648 ≤ b ∧ b ≤ 2147483647) : Int32.ofInt a = Int32.ofInt b ↔ a = b := by rw [← Int32.toInt_inj, zi_to ha, zi_to hb]
theorem zi_0 : (0 : Int32) = Int32.ofInt 0 := rfl
theorem zi_r0 : (-2147483648 : Int) ≤ 0 ∧ (0 : Int) ≤ 2147483647 := by omega
theorem zl_le {a b : Int} (ha : -9223372036854775808 ≤ a ∧ a ≤ 9223372036854775807) (hb : -9223372036854775808 ≤ b ∧ b ≤ 9223372036854775807) : Int64.ofInt a ≤ Int64.ofInt b ↔ a ≤ b := by rw [Int64.le_iff_toInt_le, zl_to ha, zl_to hb]
theorem zl_lt {a b : Int} (ha : -9223372036854775808 ≤ a ∧ a ≤ 9223372036854775807) (hb : -9223372036854775808 ≤ b ∧ b ≤ 9223372036854775807) : Int64.ofInt a < Int64.ofInt b ↔ a < b := by rw [Int64.lt_iff_toInt_lt, zl_to ha, zl_to hb]
theorem zl_eq {a b : Int} (ha : -9223372036854775808 ≤ a ∧ a ≤ 9223372036854775807) (hb : -9223372036854775808 ≤ b ∧ b ≤ 9223372036854775807) : Int64.ofInt a = Int64.ofInt b ↔ a = b := by rw [← Int64.toInt_inj, zl_to ha, zl_to hb]
theorem zi_m1 {b : Int} (h1 : 0 < b) (h2 : b ≤ 2147483647) : Int32.ofInt b ≠ -1 := fun h => by
  have h8 := congrArg Int32.toInt h
  rw [zi_to (by omega), show (-1 : Int32).toInt = -1 by decide] at h8
  omega
theorem zi_div {a b : Int} (ha : 0 ≤ a ∧ a ≤ 2147483647) (hb : 0 < b ∧ b ≤ 2147483647) : Int32.ofInt a / Int32.ofInt b = Int32.ofInt (a / b) := by
  have h1 : a / b ≤ a := Int.ediv_le_self b ha.1
  have h2 : 0 ≤ a / b := Int.ediv_nonneg ha.1 (by omega)
  rw [← Int32.toInt_inj, Int32.toInt_div_of_ne_right _ _ (zi_m1 hb.1 hb.2), zi_to (by omega), zi_to (by omega), zi_to (by omega), Int.tdiv_eq_ediv_of_nonneg ha.1]
theorem zi_rem {a b : Int} (ha : 0 ≤ a ∧ a ≤ 2147483647) (hb : 0 < b ∧ b ≤ 2147483647) : Int32.ofInt a - Int32.ofInt a / Int32.ofInt b * Int32.ofInt b = Int32.ofInt (a % b) := by
  rw [zi_div ha hb, ← Int32.ofInt_mul, ← Int32.ofInt_sub]
  congr 1
  have := Int.emod_def a b
  rw [Int.mul_comm] at this; omega
theorem zl_m1 {b : Int} (h1 : 0 < b) (h2 : b ≤ 9223372036854775807) : Int64.ofInt b ≠ -1 := fun h => by
  have h8 := congrArg Int64.toInt h
  rw [zl_to (by omega), show (-1 : Int64).toInt = -1 by decide] at h8
  omega
theorem zl_div {a b : Int} (ha : 0 ≤ a ∧ a ≤ 9223372036854775807) (hb : 0 < b ∧ b ≤ 9223372036854775807) : Int64.ofInt a / Int64.ofInt b = Int64.ofInt (a / b) := by
  have h1 : a / b ≤ a := Int.ediv_le_self b ha.1
  have h2 : 0 ≤ a / b := Int.ediv_nonneg ha.1 (by omega)
  rw [← Int64.toInt_inj, Int64.toInt_div_of_ne_right _ _ (zl_m1 hb.1 hb.2), zl_to (by omega), zl_to (by omega), zl_to (by omega), Int.tdiv_eq_ediv_of_nonneg ha.1]
theorem zl_rem {a b : Int} (ha : 0 ≤ a ∧ a ≤ 9223372036854775807) (hb : 0 < b ∧ b ≤ 9223372036854775807) : Int64.ofInt a - Int64.ofInt a / Int64.ofInt b * Int64.ofInt b = Int64.ofInt (a % b) := by
  rw [zl_div ha hb, ← Int64.ofInt_mul, ← Int64.ofInt_sub]
  congr 1
  have := Int.emod_def a b
  rw [Int.mul_comm] at this; omega
theorem zi_shl : ∀ k : Fin 31, (1 : Int32) <<< (Int32.ofInt (k.val : Int) &&& 31) = Int32.ofInt ((2 : Int) ^ k.val) := by decide +kernel
def zand (a b : Int) : Int := (Int32.ofInt a &&& Int32.ofInt b).toInt
def zor (a b : Int) : Int := (Int32.ofInt a ||| Int32.ofInt b).toInt
def zxor (a b : Int) : Int := (Int32.ofInt a ^^^ Int32.ofInt b).toInt
def zshr (a k : Int) : Int := (Int32.ofInt a >>> (Int32.ofInt k &&& 31)).toInt
def zcmp (a b : Int) : Int := if b < a then 1 else if a = b then 0 else -1
theorem zi_rg (x : Int32) : -2147483648 ≤ x.toInt ∧ x.toInt ≤ 2147483647 := by have := x.toInt_lt; have := x.le_toInt; omega
theorem zi_cl {i : Int} (h : 0 ≤ i ∧ i ≤ 2147483647) : (Int32.ofInt i).toNatClampNeg = i.toNat := by
  show (Int32.ofInt i).toInt.toNat = i.toNat
  rw [zi_to (by omega)]
theorem zi_in {i : Int} {n : Nat} (h : 0 ≤ i ∧ i < n) (hn : n ≤ 2147483647) : vp_in (Int32.ofInt i) n := by
  rw [vp_in_iff, zi_to (by omega)]; omega
section
variable {X : zXt} {μ : zM} {R : Room} {Z : zZt} {ce sl n : Nat} {S : zH} {pc : Nat} {L : List (Option zV)} {st : List zV} {Rf : zG} {V : zE}

theorem wa_iconst {k : Int} (hd : decode μ.2.1 pc = .ok (.iconst k, 1))  (kk : Wa X μ R Z ce sl n S (pc + 1) L (zI k :: st) Rf V) : Wa X μ R Z ce sl n S (pc) L st Rf V := by
  intro p l e s m args below meth c D cy base b H locs ls C HH LL
  have h := kk p l e s m args below meth c D cy base b H locs ls C HH LL
  refine lv_iconst C.1 C.2.1 hd rfl ?_
  exact h

theorem wa_bipush {k : Int} (hd : decode μ.2.1 pc = .ok (.bipush k, 2)) (hv : (Int8.ofInt k).toInt32 = Int32.ofInt k) (kk : Wa X μ R Z ce sl n S (pc + 2) L (zI k :: st) Rf V) : Wa X μ R Z ce sl n S (pc) L st Rf V := by
  intro p l e s m args below meth c D cy base b H locs ls C HH LL
  have h := kk p l e s m args below meth c D cy base b H locs ls C HH LL
  refine lv_bipush C.1 C.2.1 hd hv ?_
  exact h

theorem wa_sipush {k : Int} (hd : decode μ.2.1 pc = .ok (.sipush k, 3)) (hv : (Int16.ofInt k).toInt32 = Int32.ofInt k) (kk : Wa X μ R Z ce sl n S (pc + 3) L (zI k :: st) Rf V) : Wa X μ R Z ce sl n S (pc) L st Rf V := by
  intro p l e s m args below meth c D cy base b H locs ls C HH LL
  have h := kk p l e s m args below meth c D cy base b H locs ls C HH LL
  refine lv_sipush C.1 C.2.1 hd hv ?_
  exact h

theorem wa_ldc {k : Nat} (hd : decode μ.2.1 pc = .ok (.ldc k, 2)) {x : Int32} (hc : Cond.constant μ.1.cls k x ∈ lw_ok) (a : Int) (ha : x = Int32.ofInt a) (kk : Wa X μ R Z ce sl n S (pc + 2) L (zI a :: st) Rf V) : Wa X μ R Z ce sl n S (pc) L st Rf V := by
  intro p l e s m args below meth c D cy base b H locs ls C HH LL
  have h := kk p l e s m args below meth c D cy base b H locs ls C HH LL
  subst ha
  refine lv_ldc C.1 C.2.1 C.2.2.2.2.1 (C.2.2.2.2.2.1 _ hc) hd ?_
  exact h

theorem wa_ldc2 {k : Nat} (hd : decode μ.2.1 pc = .ok (.ldc2_w k, 3)) {x : Int64} (hc : Cond.constantLong μ.1.cls k x ∈ lw_ok) (a : Int) (ha : x = Int64.ofInt a) (kk : Wa X μ R Z ce sl n S (pc + 3) L (zL a :: st) Rf V) : Wa X μ R Z ce sl n S (pc) L st Rf V := by
  intro p l e s m args below meth c D cy base b H locs ls C HH LL
  have h := kk p l e s m args below meth c D cy base b H locs ls C HH LL
  subst ha
  refine lv_ldc2 C.1 C.2.1 C.2.2.2.2.1 (C.2.2.2.2.2.1 _ hc) hd ?_
  exact h

theorem wa_lconst {k : Fin 2} (hd : decode μ.2.1 pc = .ok (.lconst k, 1)) (a : Int) (ha : Int64.ofNat (k : Nat) = Int64.ofInt a) (kk : Wa X μ R Z ce sl n S (pc + 1) L (zL a :: st) Rf V) : Wa X μ R Z ce sl n S (pc) L st Rf V := by
  intro p l e s m args below meth c D cy base b H locs ls C HH LL
  have h := kk p l e s m args below meth c D cy base b H locs ls C HH LL
  refine lv_lconst C.1 C.2.1 hd ha ?_
  exact h

theorem wa_null  (hd : decode μ.2.1 pc = .ok (.aconst_null, 1))  (kk : Wa X μ R Z ce sl n S (pc + 1) L (zN :: st) Rf V) : Wa X μ R Z ce sl n S (pc) L st Rf V := by
  intro p l e s m args below meth c D cy base b H locs ls C HH LL
  have h := kk p l e s m args below meth c D cy base b H locs ls C HH LL
  refine lv_null C.1 C.2.1 hd ?_
  exact h

theorem wa_iadd {x y : Int} (hd : decode μ.2.1 pc = .ok (.iadd, 1))  (kk : Wa X μ R Z ce sl n S (pc + 1) L (zI (x + y) :: st) Rf V) : Wa X μ R Z ce sl n S (pc) L (zI y :: zI x :: st) Rf V := by
  intro p l e s m args below meth c D cy base b H locs ls C HH LL
  have h := kk p l e s m args below meth c D cy base b H locs ls C HH LL
  refine lv_iadd C.1 C.2.1 hd ?_
  rw [← Int32.ofInt_add]
  exact h

theorem wa_isub {x y : Int} (hd : decode μ.2.1 pc = .ok (.isub, 1))  (kk : Wa X μ R Z ce sl n S (pc + 1) L (zI (x - y) :: st) Rf V) : Wa X μ R Z ce sl n S (pc) L (zI y :: zI x :: st) Rf V := by
  intro p l e s m args below meth c D cy base b H locs ls C HH LL
  have h := kk p l e s m args below meth c D cy base b H locs ls C HH LL
  refine lv_isub C.1 C.2.1 hd ?_
  rw [← Int32.ofInt_sub]
  exact h

theorem wa_imul {x y : Int} (hd : decode μ.2.1 pc = .ok (.imul, 1))  (kk : Wa X μ R Z ce sl n S (pc + 1) L (zI (x * y) :: st) Rf V) : Wa X μ R Z ce sl n S (pc) L (zI y :: zI x :: st) Rf V := by
  intro p l e s m args below meth c D cy base b H locs ls C HH LL
  have h := kk p l e s m args below meth c D cy base b H locs ls C HH LL
  refine lv_imul C.1 C.2.1 hd ?_
  rw [← Int32.ofInt_mul]
  exact h

theorem wa_ladd {x y : Int} (hd : decode μ.2.1 pc = .ok (.ladd, 1))  (kk : Wa X μ R Z ce sl n S (pc + 1) L (zL (x + y) :: st) Rf V) : Wa X μ R Z ce sl n S (pc) L (zL y :: zL x :: st) Rf V := by
  intro p l e s m args below meth c D cy base b H locs ls C HH LL
  have h := kk p l e s m args below meth c D cy base b H locs ls C HH LL
  refine lv_ladd C.1 C.2.1 hd ?_
  rw [← Int64.ofInt_add]
  exact h

theorem wa_lsub {x y : Int} (hd : decode μ.2.1 pc = .ok (.lsub, 1))  (kk : Wa X μ R Z ce sl n S (pc + 1) L (zL (x - y) :: st) Rf V) : Wa X μ R Z ce sl n S (pc) L (zL y :: zL x :: st) Rf V := by
  intro p l e s m args below meth c D cy base b H locs ls C HH LL
  have h := kk p l e s m args below meth c D cy base b H locs ls C HH LL
  refine lv_lsub C.1 C.2.1 hd ?_
  rw [← Int64.ofInt_sub]
  exact h

theorem wa_lmul {x y : Int} (hd : decode μ.2.1 pc = .ok (.lmul, 1))  (kk : Wa X μ R Z ce sl n S (pc + 1) L (zL (x * y) :: st) Rf V) : Wa X μ R Z ce sl n S (pc) L (zL y :: zL x :: st) Rf V := by
  intro p l e s m args below meth c D cy base b H locs ls C HH LL
  have h := kk p l e s m args below meth c D cy base b H locs ls C HH LL
  refine lv_lmul C.1 C.2.1 hd ?_
  rw [← Int64.ofInt_mul]
  exact h

theorem wa_ineg {x : Int} (hd : decode μ.2.1 pc = .ok (.ineg, 1))  (kk : Wa X μ R Z ce sl n S (pc + 1) L (zI (-x) :: st) Rf V) : Wa X μ R Z ce sl n S (pc) L (zI x :: st) Rf V := by
  intro p l e s m args below meth c D cy base b H locs ls C HH LL
  have h := kk p l e s m args below meth c D cy base b H locs ls C HH LL
  refine lv_ineg C.1 C.2.1 hd ?_
  rw [← Int32.ofInt_neg]
  exact h

theorem wa_iand {x y : Int} (hd : decode μ.2.1 pc = .ok (.iand, 1))  (kk : Wa X μ R Z ce sl n S (pc + 1) L (zI (zand x y) :: st) Rf V) : Wa X μ R Z ce sl n S (pc) L (zI y :: zI x :: st) Rf V := by
  intro p l e s m args below meth c D cy base b H locs ls C HH LL
  have h := kk p l e s m args below meth c D cy base b H locs ls C HH LL
  rw [show (zI (zand x y) :: st).map (zu base b) = .int (Int32.ofInt x &&& Int32.ofInt y) :: st.map (zu base b) from by simp only [List.map_cons, zu, zand, Int32.ofInt_toInt]] at h
  refine lv_iand C.1 C.2.1 hd ?_
  exact h

theorem wa_ior {x y : Int} (hd : decode μ.2.1 pc = .ok (.ior, 1))  (kk : Wa X μ R Z ce sl n S (pc + 1) L (zI (zor x y) :: st) Rf V) : Wa X μ R Z ce sl n S (pc) L (zI y :: zI x :: st) Rf V := by
  intro p l e s m args below meth c D cy base b H locs ls C HH LL
  have h := kk p l e s m args below meth c D cy base b H locs ls C HH LL
  rw [show (zI (zor x y) :: st).map (zu base b) = .int (Int32.ofInt x ||| Int32.ofInt y) :: st.map (zu base b) from by simp only [List.map_cons, zu, zor, Int32.ofInt_toInt]] at h
  refine lv_ior C.1 C.2.1 hd ?_
  exact h

theorem wa_ixor {x y : Int} (hd : decode μ.2.1 pc = .ok (.ixor, 1))  (kk : Wa X μ R Z ce sl n S (pc + 1) L (zI (zxor x y) :: st) Rf V) : Wa X μ R Z ce sl n S (pc) L (zI y :: zI x :: st) Rf V := by
  intro p l e s m args below meth c D cy base b H locs ls C HH LL
  have h := kk p l e s m args below meth c D cy base b H locs ls C HH LL
  rw [show (zI (zxor x y) :: st).map (zu base b) = .int (Int32.ofInt x ^^^ Int32.ofInt y) :: st.map (zu base b) from by simp only [List.map_cons, zu, zxor, Int32.ofInt_toInt]] at h
  refine lv_ixor C.1 C.2.1 hd ?_
  exact h

theorem wa_ishr {x y : Int} (hd : decode μ.2.1 pc = .ok (.ishr, 1))  (kk : Wa X μ R Z ce sl n S (pc + 1) L (zI (zshr x y) :: st) Rf V) : Wa X μ R Z ce sl n S (pc) L (zI y :: zI x :: st) Rf V := by
  intro p l e s m args below meth c D cy base b H locs ls C HH LL
  have h := kk p l e s m args below meth c D cy base b H locs ls C HH LL
  rw [show (zI (zshr x y) :: st).map (zu base b) = .int (Int32.ofInt x >>> (Int32.ofInt y &&& 31)) :: st.map (zu base b) from by simp only [List.map_cons, zu, zshr, Int32.ofInt_toInt]] at h
  refine lv_ishr C.1 C.2.1 hd ?_
  exact h

theorem wa_ishl1 {k : Int} (hd : decode μ.2.1 pc = .ok (.ishl, 1)) (hk : 0 ≤ k ∧ k ≤ 30) (kk : Wa X μ R Z ce sl n S (pc + 1) L (zI (2 ^ k.toNat) :: st) Rf V) : Wa X μ R Z ce sl n S (pc) L (zI k :: zI 1 :: st) Rf V := by
  intro p l e s m args below meth c D cy base b H locs ls C HH LL
  have h := kk p l e s m args below meth c D cy base b H locs ls C HH LL
  refine lv_ishl C.1 C.2.1 hd ?_
  have e1 := zi_shl ⟨k.toNat, by omega⟩
  dsimp only at e1
  rw [Int.toNat_of_nonneg hk.1] at e1
  rw [show Int32.ofInt 1 = (1 : Int32) from rfl, e1]
  exact h

theorem wa_idiv {x y : Int} (hd : decode μ.2.1 pc = .ok (.idiv, 1)) (ha : 0 ≤ x ∧ x ≤ 2147483647) (hb : 0 < y ∧ y ≤ 2147483647) (kk : Wa X μ R Z ce sl n S (pc + 1) L (zI (x / y) :: st) Rf V) : Wa X μ R Z ce sl n S (pc) L (zI y :: zI x :: st) Rf V := by
  intro p l e s m args below meth c D cy base b H locs ls C HH LL
  have h := kk p l e s m args below meth c D cy base b H locs ls C HH LL
  refine lv_idiv C.1 C.2.1 hd (by rw [zi_0, zi_eq (by omega) zi_r0]; omega) ?_
  rw [zi_div ha hb]
  exact h

theorem wa_irem {x y : Int} (hd : decode μ.2.1 pc = .ok (.irem, 1)) (ha : 0 ≤ x ∧ x ≤ 2147483647) (hb : 0 < y ∧ y ≤ 2147483647) (kk : Wa X μ R Z ce sl n S (pc + 1) L (zI (x % y) :: st) Rf V) : Wa X μ R Z ce sl n S (pc) L (zI y :: zI x :: st) Rf V := by
  intro p l e s m args below meth c D cy base b H locs ls C HH LL
  have h := kk p l e s m args below meth c D cy base b H locs ls C HH LL
  refine lv_irem C.1 C.2.1 hd (by rw [zi_0, zi_eq (by omega) zi_r0]; omega) ?_
  rw [zi_rem ha hb]
  exact h

theorem wa_ldiv {x y : Int} (hd : decode μ.2.1 pc = .ok (.ldiv, 1)) (ha : 0 ≤ x ∧ x ≤ 9223372036854775807) (hb : 0 < y ∧ y ≤ 9223372036854775807) (kk : Wa X μ R Z ce sl n S (pc + 1) L (zL (x / y) :: st) Rf V) : Wa X μ R Z ce sl n S (pc) L (zL y :: zL x :: st) Rf V := by
  intro p l e s m args below meth c D cy base b H locs ls C HH LL
  have h := kk p l e s m args below meth c D cy base b H locs ls C HH LL
  refine lv_ldiv C.1 C.2.1 hd (by rw [show (0 : Int64) = Int64.ofInt 0 from rfl, zl_eq (by omega) (by omega)]; omega) ?_
  rw [zl_div ha hb]
  exact h

theorem wa_lrem {x y : Int} (hd : decode μ.2.1 pc = .ok (.lrem, 1)) (ha : 0 ≤ x ∧ x ≤ 9223372036854775807) (hb : 0 < y ∧ y ≤ 9223372036854775807) (kk : Wa X μ R Z ce sl n S (pc + 1) L (zL (x % y) :: st) Rf V) : Wa X μ R Z ce sl n S (pc) L (zL y :: zL x :: st) Rf V := by
  intro p l e s m args below meth c D cy base b H locs ls C HH LL
  have h := kk p l e s m args below meth c D cy base b H locs ls C HH LL
  refine lv_lrem C.1 C.2.1 hd (by rw [show (0 : Int64) = Int64.ofInt 0 from rfl, zl_eq (by omega) (by omega)]; omega) ?_
  rw [zl_rem ha hb]
  exact h

theorem wa_i2l {x : Int} (hd : decode μ.2.1 pc = .ok (.i2l, 1)) (hx : -2147483648 ≤ x ∧ x ≤ 2147483647) (kk : Wa X μ R Z ce sl n S (pc + 1) L (zL x :: st) Rf V) : Wa X μ R Z ce sl n S (pc) L (zI x :: st) Rf V := by
  intro p l e s m args below meth c D cy base b H locs ls C HH LL
  have h := kk p l e s m args below meth c D cy base b H locs ls C HH LL
  refine lv_i2l C.1 C.2.1 hd (v := Int64.ofInt x) (by rw [← Int64.toInt_inj, Int32.toInt_toInt64, zi_to hx, zl_to (by omega)]) ?_
  exact h

theorem wa_lcmp {x y : Int} (hd : decode μ.2.1 pc = .ok (.lcmp, 1)) (hx : -9223372036854775808 ≤ x ∧ x ≤ 9223372036854775807) (hy : -9223372036854775808 ≤ y ∧ y ≤ 9223372036854775807) (kk : Wa X μ R Z ce sl n S (pc + 1) L (zI (zcmp x y) :: st) Rf V) : Wa X μ R Z ce sl n S (pc) L (zL y :: zL x :: st) Rf V := by
  intro p l e s m args below meth c D cy base b H locs ls C HH LL
  have h := kk p l e s m args below meth c D cy base b H locs ls C HH LL
  refine W.lcmp C.1 C.2.1 hd ?_
  rw [show lg_cmp (Int64.ofInt x) (Int64.ofInt y) = Int32.ofInt (zcmp x y) from by
    unfold lg_cmp zcmp
    by_cases h1 : y < x
    · rw [if_pos ((zl_lt hy hx).mpr h1), if_pos h1]; rfl
    · rw [if_neg (fun q => h1 ((zl_lt hy hx).mp q)), if_neg h1]
      by_cases h2 : x = y
      · rw [if_pos ((zl_eq hx hy).mpr h2), if_pos h2]; rfl
      · rw [if_neg (fun q => h2 ((zl_eq hx hy).mp q)), if_neg h2]; rfl]
  exact h

theorem wa_pop {v : zV} (hd : decode μ.2.1 pc = .ok (.pop, 1)) (hc : zcat v = 1) (kk : Wa X μ R Z ce sl n S (pc + 1) L st Rf V) : Wa X μ R Z ce sl n S (pc) L (v :: st) Rf V := by
  intro p l e s m args below meth c D cy base b H locs ls C HH LL
  have h := kk p l e s m args below meth c D cy base b H locs ls C HH LL
  refine lv_pop C.1 C.2.1 hd ((zu_cat base b v).trans hc) ?_
  exact h

theorem wa_dup {v : zV} (hd : decode μ.2.1 pc = .ok (.dup, 1)) (hc : zcat v = 1) (kk : Wa X μ R Z ce sl n S (pc + 1) L (v :: v :: st) Rf V) : Wa X μ R Z ce sl n S (pc) L (v :: st) Rf V := by
  intro p l e s m args below meth c D cy base b H locs ls C HH LL
  have h := kk p l e s m args below meth c D cy base b H locs ls C HH LL
  refine lv_dup C.1 C.2.1 hd ((zu_cat base b v).trans hc) ?_
  exact h

theorem wa_dup2 {v u : zV} (hd : decode μ.2.1 pc = .ok (.dup2, 1)) (hc : zcat v = 1) (hc2 : zcat u = 1) (kk : Wa X μ R Z ce sl n S (pc + 1) L (v :: u :: v :: u :: st) Rf V) : Wa X μ R Z ce sl n S (pc) L (v :: u :: st) Rf V := by
  intro p l e s m args below meth c D cy base b H locs ls C HH LL
  have h := kk p l e s m args below meth c D cy base b H locs ls C HH LL
  refine lv_dup2_11 C.1 C.2.1 hd ((zu_cat base b v).trans hc) ((zu_cat base b u).trans hc2) ?_
  exact h

theorem wa_goto {off : Int} (tgt : Nat) (hd : decode μ.2.1 pc = .ok (.goto off, 3)) (ht : (pc : Int) + off = (tgt : Int)) (kk : Wa X μ R Z ce sl n S (tgt) L st Rf V) : Wa X μ R Z ce sl n S (pc) L st Rf V := by
  intro p l e s m args below meth c D cy base b H locs ls C HH LL
  exact lv_goto C.1 C.2.1 hd ht (kk p l e s m args below meth c D cy base b H locs ls C HH LL)

theorem wa_icmp_eq {off : Int} {x y : Int} (tgt : Nat) (hd : decode μ.2.1 pc = .ok (.if_icmp .eq off, 3)) (ht : (pc : Int) + off = (tgt : Int)) (hx : -2147483648 ≤ x ∧ x ≤ 2147483647) (hy : -2147483648 ≤ y ∧ y ≤ 2147483647) (kt : x = y → Wa X μ R Z ce sl n S (tgt) L st Rf V) (kf : x ≠ y → Wa X μ R Z ce sl n S (pc + 3) L st Rf V) : Wa X μ R Z ce sl n S (pc) L (zI y :: zI x :: st) Rf V := by
  intro p l e s m args below meth c D cy base b H locs ls C HH LL
  exact lv_icmp_eq C.1 C.2.1 hd ht (fun q => kt ((zi_eq hx hy).mp q) p l e s m args below meth c D cy base b H locs ls C HH LL) (fun q => kf (fun h9 => q ((zi_eq hx hy).mpr h9)) p l e s m args below meth c D cy base b H locs ls C HH LL)

theorem wa_if_eq {off : Int} {x : Int} (tgt : Nat) (hd : decode μ.2.1 pc = .ok (.ifCond .eq off, 3)) (ht : (pc : Int) + off = (tgt : Int)) (hx : -2147483648 ≤ x ∧ x ≤ 2147483647) (kt : x = 0 → Wa X μ R Z ce sl n S (tgt) L st Rf V) (kf : x ≠ 0 → Wa X μ R Z ce sl n S (pc + 3) L st Rf V) : Wa X μ R Z ce sl n S (pc) L (zI x :: st) Rf V := by
  intro p l e s m args below meth c D cy base b H locs ls C HH LL
  exact lv_if_eq C.1 C.2.1 hd ht (fun q => kt ((zi_eq hx zi_r0).mp q) p l e s m args below meth c D cy base b H locs ls C HH LL) (fun q => kf (fun h9 => q ((zi_eq hx zi_r0).mpr h9)) p l e s m args below meth c D cy base b H locs ls C HH LL)

theorem wa_icmp_ne {off : Int} {x y : Int} (tgt : Nat) (hd : decode μ.2.1 pc = .ok (.if_icmp .ne off, 3)) (ht : (pc : Int) + off = (tgt : Int)) (hx : -2147483648 ≤ x ∧ x ≤ 2147483647) (hy : -2147483648 ≤ y ∧ y ≤ 2147483647) (kt : x ≠ y → Wa X μ R Z ce sl n S (tgt) L st Rf V) (kf : x = y → Wa X μ R Z ce sl n S (pc + 3) L st Rf V) : Wa X μ R Z ce sl n S (pc) L (zI y :: zI x :: st) Rf V := by
  intro p l e s m args below meth c D cy base b H locs ls C HH LL
  exact lv_icmp_ne C.1 C.2.1 hd ht (fun q => kt (fun h9 => q ((zi_eq hx hy).mpr h9)) p l e s m args below meth c D cy base b H locs ls C HH LL) (fun q => kf ((zi_eq hx hy).mp q) p l e s m args below meth c D cy base b H locs ls C HH LL)

theorem wa_if_ne {off : Int} {x : Int} (tgt : Nat) (hd : decode μ.2.1 pc = .ok (.ifCond .ne off, 3)) (ht : (pc : Int) + off = (tgt : Int)) (hx : -2147483648 ≤ x ∧ x ≤ 2147483647) (kt : x ≠ 0 → Wa X μ R Z ce sl n S (tgt) L st Rf V) (kf : x = 0 → Wa X μ R Z ce sl n S (pc + 3) L st Rf V) : Wa X μ R Z ce sl n S (pc) L (zI x :: st) Rf V := by
  intro p l e s m args below meth c D cy base b H locs ls C HH LL
  exact lv_if_ne C.1 C.2.1 hd ht (fun q => kt (fun h9 => q ((zi_eq hx zi_r0).mpr h9)) p l e s m args below meth c D cy base b H locs ls C HH LL) (fun q => kf ((zi_eq hx zi_r0).mp q) p l e s m args below meth c D cy base b H locs ls C HH LL)

theorem wa_icmp_lt {off : Int} {x y : Int} (tgt : Nat) (hd : decode μ.2.1 pc = .ok (.if_icmp .lt off, 3)) (ht : (pc : Int) + off = (tgt : Int)) (hx : -2147483648 ≤ x ∧ x ≤ 2147483647) (hy : -2147483648 ≤ y ∧ y ≤ 2147483647) (kt : x < y → Wa X μ R Z ce sl n S (tgt) L st Rf V) (kf : y ≤ x → Wa X μ R Z ce sl n S (pc + 3) L st Rf V) : Wa X μ R Z ce sl n S (pc) L (zI y :: zI x :: st) Rf V := by
  intro p l e s m args below meth c D cy base b H locs ls C HH LL
  exact lv_icmp_lt C.1 C.2.1 hd ht (fun q => kt ((zi_lt hx hy).mp q) p l e s m args below meth c D cy base b H locs ls C HH LL) (fun q => kf (Int.not_lt.mp (fun h9 => q ((zi_lt hx hy).mpr h9))) p l e s m args below meth c D cy base b H locs ls C HH LL)

theorem wa_if_lt {off : Int} {x : Int} (tgt : Nat) (hd : decode μ.2.1 pc = .ok (.ifCond .lt off, 3)) (ht : (pc : Int) + off = (tgt : Int)) (hx : -2147483648 ≤ x ∧ x ≤ 2147483647) (kt : x < 0 → Wa X μ R Z ce sl n S (tgt) L st Rf V) (kf : 0 ≤ x → Wa X μ R Z ce sl n S (pc + 3) L st Rf V) : Wa X μ R Z ce sl n S (pc) L (zI x :: st) Rf V := by
  intro p l e s m args below meth c D cy base b H locs ls C HH LL
  exact lv_if_lt C.1 C.2.1 hd ht (fun q => kt ((zi_lt hx zi_r0).mp q) p l e s m args below meth c D cy base b H locs ls C HH LL) (fun q => kf (Int.not_lt.mp (fun h9 => q ((zi_lt hx zi_r0).mpr h9))) p l e s m args below meth c D cy base b H locs ls C HH LL)

theorem wa_icmp_ge {off : Int} {x y : Int} (tgt : Nat) (hd : decode μ.2.1 pc = .ok (.if_icmp .ge off, 3)) (ht : (pc : Int) + off = (tgt : Int)) (hx : -2147483648 ≤ x ∧ x ≤ 2147483647) (hy : -2147483648 ≤ y ∧ y ≤ 2147483647) (kt : y ≤ x → Wa X μ R Z ce sl n S (tgt) L st Rf V) (kf : x < y → Wa X μ R Z ce sl n S (pc + 3) L st Rf V) : Wa X μ R Z ce sl n S (pc) L (zI y :: zI x :: st) Rf V := by
  intro p l e s m args below meth c D cy base b H locs ls C HH LL
  exact lv_icmp_ge C.1 C.2.1 hd ht (fun q => kt ((zi_le hy hx).mp q) p l e s m args below meth c D cy base b H locs ls C HH LL) (fun q => kf (Int.not_le.mp (fun h9 => q ((zi_le hy hx).mpr h9))) p l e s m args below meth c D cy base b H locs ls C HH LL)

theorem wa_if_ge {off : Int} {x : Int} (tgt : Nat) (hd : decode μ.2.1 pc = .ok (.ifCond .ge off, 3)) (ht : (pc : Int) + off = (tgt : Int)) (hx : -2147483648 ≤ x ∧ x ≤ 2147483647) (kt : 0 ≤ x → Wa X μ R Z ce sl n S (tgt) L st Rf V) (kf : x < 0 → Wa X μ R Z ce sl n S (pc + 3) L st Rf V) : Wa X μ R Z ce sl n S (pc) L (zI x :: st) Rf V := by
  intro p l e s m args below meth c D cy base b H locs ls C HH LL
  exact lv_if_ge C.1 C.2.1 hd ht (fun q => kt ((zi_le zi_r0 hx).mp q) p l e s m args below meth c D cy base b H locs ls C HH LL) (fun q => kf (Int.not_le.mp (fun h9 => q ((zi_le zi_r0 hx).mpr h9))) p l e s m args below meth c D cy base b H locs ls C HH LL)

theorem wa_icmp_gt {off : Int} {x y : Int} (tgt : Nat) (hd : decode μ.2.1 pc = .ok (.if_icmp .gt off, 3)) (ht : (pc : Int) + off = (tgt : Int)) (hx : -2147483648 ≤ x ∧ x ≤ 2147483647) (hy : -2147483648 ≤ y ∧ y ≤ 2147483647) (kt : y < x → Wa X μ R Z ce sl n S (tgt) L st Rf V) (kf : x ≤ y → Wa X μ R Z ce sl n S (pc + 3) L st Rf V) : Wa X μ R Z ce sl n S (pc) L (zI y :: zI x :: st) Rf V := by
  intro p l e s m args below meth c D cy base b H locs ls C HH LL
  exact lv_icmp_gt C.1 C.2.1 hd ht (fun q => kt ((zi_lt hy hx).mp q) p l e s m args below meth c D cy base b H locs ls C HH LL) (fun q => kf (Int.not_lt.mp (fun h9 => q ((zi_lt hy hx).mpr h9))) p l e s m args below meth c D cy base b H locs ls C HH LL)

theorem wa_if_gt {off : Int} {x : Int} (tgt : Nat) (hd : decode μ.2.1 pc = .ok (.ifCond .gt off, 3)) (ht : (pc : Int) + off = (tgt : Int)) (hx : -2147483648 ≤ x ∧ x ≤ 2147483647) (kt : 0 < x → Wa X μ R Z ce sl n S (tgt) L st Rf V) (kf : x ≤ 0 → Wa X μ R Z ce sl n S (pc + 3) L st Rf V) : Wa X μ R Z ce sl n S (pc) L (zI x :: st) Rf V := by
  intro p l e s m args below meth c D cy base b H locs ls C HH LL
  exact lv_if_gt C.1 C.2.1 hd ht (fun q => kt ((zi_lt zi_r0 hx).mp q) p l e s m args below meth c D cy base b H locs ls C HH LL) (fun q => kf (Int.not_lt.mp (fun h9 => q ((zi_lt zi_r0 hx).mpr h9))) p l e s m args below meth c D cy base b H locs ls C HH LL)

theorem wa_icmp_le {off : Int} {x y : Int} (tgt : Nat) (hd : decode μ.2.1 pc = .ok (.if_icmp .le off, 3)) (ht : (pc : Int) + off = (tgt : Int)) (hx : -2147483648 ≤ x ∧ x ≤ 2147483647) (hy : -2147483648 ≤ y ∧ y ≤ 2147483647) (kt : x ≤ y → Wa X μ R Z ce sl n S (tgt) L st Rf V) (kf : y < x → Wa X μ R Z ce sl n S (pc + 3) L st Rf V) : Wa X μ R Z ce sl n S (pc) L (zI y :: zI x :: st) Rf V := by
  intro p l e s m args below meth c D cy base b H locs ls C HH LL
  exact lv_icmp_le C.1 C.2.1 hd ht (fun q => kt ((zi_le hx hy).mp q) p l e s m args below meth c D cy base b H locs ls C HH LL) (fun q => kf (Int.not_le.mp (fun h9 => q ((zi_le hx hy).mpr h9))) p l e s m args below meth c D cy base b H locs ls C HH LL)

theorem wa_if_le {off : Int} {x : Int} (tgt : Nat) (hd : decode μ.2.1 pc = .ok (.ifCond .le off, 3)) (ht : (pc : Int) + off = (tgt : Int)) (hx : -2147483648 ≤ x ∧ x ≤ 2147483647) (kt : x ≤ 0 → Wa X μ R Z ce sl n S (tgt) L st Rf V) (kf : 0 < x → Wa X μ R Z ce sl n S (pc + 3) L st Rf V) : Wa X μ R Z ce sl n S (pc) L (zI x :: st) Rf V := by
  intro p l e s m args below meth c D cy base b H locs ls C HH LL
  exact lv_if_le C.1 C.2.1 hd ht (fun q => kt ((zi_le hx zi_r0).mp q) p l e s m args below meth c D cy base b H locs ls C HH LL) (fun q => kf (Int.not_le.mp (fun h9 => q ((zi_le hx zi_r0).mpr h9))) p l e s m args below meth c D cy base b H locs ls C HH LL)

theorem wa_ifeq_B {off : Int} {P : Prop} [Decidable P] (tgt : Nat) (hd : decode μ.2.1 pc = .ok (.ifCond .eq off, 3)) (ht : (pc : Int) + off = (tgt : Int)) (kt : ¬ P → Wa X μ R Z ce sl n S (tgt) L st Rf V) (kf : P → Wa X μ R Z ce sl n S (pc + 3) L st Rf V) : Wa X μ R Z ce sl n S (pc) L (zB P :: st) Rf V :=
  wa_if_eq tgt hd ht (by split <;> omega) (fun q => kt (fun h => by rw [if_pos h] at q; omega)) (fun q => kf (Decidable.byContradiction fun h => by rw [if_neg h] at q; omega))
theorem wa_ifne_B {off : Int} {P : Prop} [Decidable P] (tgt : Nat) (hd : decode μ.2.1 pc = .ok (.ifCond .ne off, 3)) (ht : (pc : Int) + off = (tgt : Int)) (kt : P → Wa X μ R Z ce sl n S (tgt) L st Rf V) (kf : ¬ P → Wa X μ R Z ce sl n S (pc + 3) L st Rf V) : Wa X μ R Z ce sl n S (pc) L (zB P :: st) Rf V :=
  wa_if_ne tgt hd ht (by split <;> omega) (fun q => kt (Decidable.byContradiction fun h => by rw [if_neg h] at q; omega)) (fun q => kf (fun h => by rw [if_pos h] at q; omega))
theorem wa_icmp_eq_t {off : Int} {x y : Int} (tgt : Nat) (hd : decode μ.2.1 pc = .ok (.if_icmp .eq off, 3)) (ht : (pc : Int) + off = (tgt : Int)) (h : x = y) (kt : Wa X μ R Z ce sl n S (tgt) L st Rf V) : Wa X μ R Z ce sl n S (pc) L (zI y :: zI x :: st) Rf V := by
  intro p l e s m args below meth c D cy base b H locs ls C HH LL
  exact lv_icmp_eq C.1 C.2.1 hd ht (fun q => kt p l e s m args below meth c D cy base b H locs ls C HH LL) (fun q => absurd (by rw [h]) q)
theorem wa_ifnull_r {off : Int} {k : Nat} (hd : decode μ.2.1 pc = .ok (.ifnull off, 3)) (kk : Wa X μ R Z ce sl n S (pc + 3) L st Rf V) : Wa X μ R Z ce sl n S (pc) L (zR k :: st) Rf V := by
  intro p l e s m args below meth c D cy base b H locs ls C HH LL
  exact lv_ifnull C.1 C.2.1 hd (kk p l e s m args below meth c D cy base b H locs ls C HH LL)
theorem wa_ifnonnull_r {off : Int} {k : Nat} (tgt : Nat) (hd : decode μ.2.1 pc = .ok (.ifnonnull off, 3)) (ht : (pc : Int) + off = (tgt : Int)) (kk : Wa X μ R Z ce sl n S (tgt) L st Rf V) : Wa X μ R Z ce sl n S (pc) L (zR k :: st) Rf V := by
  intro p l e s m args below meth c D cy base b H locs ls C HH LL
  exact lv_ifnonnull C.1 C.2.1 hd ht (kk p l e s m args below meth c D cy base b H locs ls C HH LL)
theorem wa_ifnull_n {off : Int} (tgt : Nat) (hd : decode μ.2.1 pc = .ok (.ifnull off, 3)) (ht : (pc : Int) + off = (tgt : Int)) (kk : Wa X μ R Z ce sl n S (tgt) L st Rf V) : Wa X μ R Z ce sl n S (pc) L (zN :: st) Rf V := by
  intro p l e s m args below meth c D cy base b H locs ls C HH LL
  exact lv_ifnullN C.1 C.2.1 hd ht (kk p l e s m args below meth c D cy base b H locs ls C HH LL)
theorem wa_ifnonnull_n {off : Int} (hd : decode μ.2.1 pc = .ok (.ifnonnull off, 3)) (kk : Wa X μ R Z ce sl n S (pc + 3) L st Rf V) : Wa X μ R Z ce sl n S (pc) L (zN :: st) Rf V := by
  intro p l e s m args below meth c D cy base b H locs ls C HH LL
  exact lv_ifnonnullN C.1 C.2.1 hd (kk p l e s m args below meth c D cy base b H locs ls C HH LL)
theorem wa_table {dflt lo hi : Int} {offs : Array Int} {len : Nat} {x : Int} {off : Int} (tgt : Nat) (hd : decode μ.2.1 pc = .ok (.tableswitch dflt lo hi offs, len)) (hx : -2147483648 ≤ x ∧ x ≤ 2147483647) (h1 : lo ≤ x ∧ x ≤ hi) (ho : offs[(x - lo).toNat]? = some off) (ht : (pc : Int) + off = (tgt : Int)) (kk : Wa X μ R Z ce sl n S (tgt) L st Rf V) : Wa X μ R Z ce sl n S (pc) L (zI x :: st) Rf V := by
  intro p l e s m args below meth c D cy base b H locs ls C HH LL
  exact lv_tableIn C.1 C.2.1 hd (by rw [zi_to hx]; omega) (by rw [zi_to hx]; omega) (by rw [zi_to hx]; exact ho) ht (kk p l e s m args below meth c D cy base b H locs ls C HH LL)
theorem wa_tabled {dflt lo hi : Int} {offs : Array Int} {len : Nat} {x : Int} (tgt : Nat) (hd : decode μ.2.1 pc = .ok (.tableswitch dflt lo hi offs, len)) (hx : -2147483648 ≤ x ∧ x ≤ 2147483647) (h1 : x < lo ∨ hi < x) (ht : (pc : Int) + dflt = (tgt : Int)) (kk : Wa X μ R Z ce sl n S (tgt) L st Rf V) : Wa X μ R Z ce sl n S (pc) L (zI x :: st) Rf V := by
  intro p l e s m args below meth c D cy base b H locs ls C HH LL
  exact lv_tableOut C.1 C.2.1 hd (by rw [zi_to hx]; exact h1) ht (kk p l e s m args below meth c D cy base b H locs ls C HH LL)
theorem wa_lookup {dflt : Int} {ps : Array (Int × Int)} {len : Nat} {x : Int} {off : Int} (tgt : Nat) (hd : decode μ.2.1 pc = .ok (.lookupswitch dflt ps, len)) (hp : (ps.toList.zip (ps.toList.drop 1)).all (fun (a, next) => a.1 < next.1) = true) (hx : -2147483648 ≤ x ∧ x ≤ 2147483647) (ho : Op.lookupswitch.offset ps.toList dflt x = off) (ht : (pc : Int) + off = (tgt : Int)) (kk : Wa X μ R Z ce sl n S (tgt) L st Rf V) : Wa X μ R Z ce sl n S (pc) L (zI x :: st) Rf V := by
  intro p l e s m args below meth c D cy base b H locs ls C HH LL
  exact lv_lookup C.1 C.2.1 hd hp (by rw [zi_to hx]; exact ho) ht (kk p l e s m args below meth c D cy base b H locs ls C HH LL)

theorem wa_ild0  {T : List (Option zV)} {x : Int} (hd : decode μ.2.1 pc = .ok (.iload_n 0, 1)) (kk : Wa X μ R Z ce sl n S (pc + 1) (some (zI x) :: T) (zI x :: st) Rf V) : Wa X μ R Z ce sl n S (pc) (some (zI x) :: T) st Rf V := by
  intro p l e s m args below meth c D cy base b H locs ls C HH LL
  exact lv_iload_n C.1 C.2.1 hd rfl (LL.2.2 0 (zI x) rfl) (kk p l e s m args below meth c D cy base b H locs ls C HH LL)

theorem wa_lld0  {T : List (Option zV)} {x : Int} (hd : decode μ.2.1 pc = .ok (.lload_n 0, 1)) (kk : Wa X μ R Z ce sl n S (pc + 1) (some (zL x) :: T) (zL x :: st) Rf V) : Wa X μ R Z ce sl n S (pc) (some (zL x) :: T) st Rf V := by
  intro p l e s m args below meth c D cy base b H locs ls C HH LL
  exact lv_lload_n C.1 C.2.1 hd rfl (LL.2.2 0 (zL x) rfl) (kk p l e s m args below meth c D cy base b H locs ls C HH LL)

theorem wa_ald0  {T : List (Option zV)} {x : Nat} (hd : decode μ.2.1 pc = .ok (.aload_n 0, 1)) (kk : Wa X μ R Z ce sl n S (pc + 1) (some (zR x) :: T) (zR x :: st) Rf V) : Wa X μ R Z ce sl n S (pc) (some (zR x) :: T) st Rf V := by
  intro p l e s m args below meth c D cy base b H locs ls C HH LL
  exact lv_aload_n C.1 C.2.1 hd rfl (LL.2.2 0 (zR x) rfl) (kk p l e s m args below meth c D cy base b H locs ls C HH LL)

theorem wa_ild1 {a0 : Option zV} {T : List (Option zV)} {x : Int} (hd : decode μ.2.1 pc = .ok (.iload_n 1, 1)) (kk : Wa X μ R Z ce sl n S (pc + 1) (a0 :: some (zI x) :: T) (zI x :: st) Rf V) : Wa X μ R Z ce sl n S (pc) (a0 :: some (zI x) :: T) st Rf V := by
  intro p l e s m args below meth c D cy base b H locs ls C HH LL
  exact lv_iload_n C.1 C.2.1 hd rfl (LL.2.2 1 (zI x) rfl) (kk p l e s m args below meth c D cy base b H locs ls C HH LL)

theorem wa_lld1 {a0 : Option zV} {T : List (Option zV)} {x : Int} (hd : decode μ.2.1 pc = .ok (.lload_n 1, 1)) (kk : Wa X μ R Z ce sl n S (pc + 1) (a0 :: some (zL x) :: T) (zL x :: st) Rf V) : Wa X μ R Z ce sl n S (pc) (a0 :: some (zL x) :: T) st Rf V := by
  intro p l e s m args below meth c D cy base b H locs ls C HH LL
  exact lv_lload_n C.1 C.2.1 hd rfl (LL.2.2 1 (zL x) rfl) (kk p l e s m args below meth c D cy base b H locs ls C HH LL)

theorem wa_ald1 {a0 : Option zV} {T : List (Option zV)} {x : Nat} (hd : decode μ.2.1 pc = .ok (.aload_n 1, 1)) (kk : Wa X μ R Z ce sl n S (pc + 1) (a0 :: some (zR x) :: T) (zR x :: st) Rf V) : Wa X μ R Z ce sl n S (pc) (a0 :: some (zR x) :: T) st Rf V := by
  intro p l e s m args below meth c D cy base b H locs ls C HH LL
  exact lv_aload_n C.1 C.2.1 hd rfl (LL.2.2 1 (zR x) rfl) (kk p l e s m args below meth c D cy base b H locs ls C HH LL)

theorem wa_ild2 {a0 a1 : Option zV} {T : List (Option zV)} {x : Int} (hd : decode μ.2.1 pc = .ok (.iload_n 2, 1)) (kk : Wa X μ R Z ce sl n S (pc + 1) (a0 :: a1 :: some (zI x) :: T) (zI x :: st) Rf V) : Wa X μ R Z ce sl n S (pc) (a0 :: a1 :: some (zI x) :: T) st Rf V := by
  intro p l e s m args below meth c D cy base b H locs ls C HH LL
  exact lv_iload_n C.1 C.2.1 hd rfl (LL.2.2 2 (zI x) rfl) (kk p l e s m args below meth c D cy base b H locs ls C HH LL)

theorem wa_lld2 {a0 a1 : Option zV} {T : List (Option zV)} {x : Int} (hd : decode μ.2.1 pc = .ok (.lload_n 2, 1)) (kk : Wa X μ R Z ce sl n S (pc + 1) (a0 :: a1 :: some (zL x) :: T) (zL x :: st) Rf V) : Wa X μ R Z ce sl n S (pc) (a0 :: a1 :: some (zL x) :: T) st Rf V := by
  intro p l e s m args below meth c D cy base b H locs ls C HH LL
  exact lv_lload_n C.1 C.2.1 hd rfl (LL.2.2 2 (zL x) rfl) (kk p l e s m args below meth c D cy base b H locs ls C HH LL)

theorem wa_ald2 {a0 a1 : Option zV} {T : List (Option zV)} {x : Nat} (hd : decode μ.2.1 pc = .ok (.aload_n 2, 1)) (kk : Wa X μ R Z ce sl n S (pc + 1) (a0 :: a1 :: some (zR x) :: T) (zR x :: st) Rf V) : Wa X μ R Z ce sl n S (pc) (a0 :: a1 :: some (zR x) :: T) st Rf V := by
  intro p l e s m args below meth c D cy base b H locs ls C HH LL
  exact lv_aload_n C.1 C.2.1 hd rfl (LL.2.2 2 (zR x) rfl) (kk p l e s m args below meth c D cy base b H locs ls C HH LL)

theorem wa_ild3 {a0 a1 a2 : Option zV} {T : List (Option zV)} {x : Int} (hd : decode μ.2.1 pc = .ok (.iload_n 3, 1)) (kk : Wa X μ R Z ce sl n S (pc + 1) (a0 :: a1 :: a2 :: some (zI x) :: T) (zI x :: st) Rf V) : Wa X μ R Z ce sl n S (pc) (a0 :: a1 :: a2 :: some (zI x) :: T) st Rf V := by
  intro p l e s m args below meth c D cy base b H locs ls C HH LL
  exact lv_iload_n C.1 C.2.1 hd rfl (LL.2.2 3 (zI x) rfl) (kk p l e s m args below meth c D cy base b H locs ls C HH LL)

theorem wa_lld3 {a0 a1 a2 : Option zV} {T : List (Option zV)} {x : Int} (hd : decode μ.2.1 pc = .ok (.lload_n 3, 1)) (kk : Wa X μ R Z ce sl n S (pc + 1) (a0 :: a1 :: a2 :: some (zL x) :: T) (zL x :: st) Rf V) : Wa X μ R Z ce sl n S (pc) (a0 :: a1 :: a2 :: some (zL x) :: T) st Rf V := by
  intro p l e s m args below meth c D cy base b H locs ls C HH LL
  exact lv_lload_n C.1 C.2.1 hd rfl (LL.2.2 3 (zL x) rfl) (kk p l e s m args below meth c D cy base b H locs ls C HH LL)

theorem wa_ald3 {a0 a1 a2 : Option zV} {T : List (Option zV)} {x : Nat} (hd : decode μ.2.1 pc = .ok (.aload_n 3, 1)) (kk : Wa X μ R Z ce sl n S (pc + 1) (a0 :: a1 :: a2 :: some (zR x) :: T) (zR x :: st) Rf V) : Wa X μ R Z ce sl n S (pc) (a0 :: a1 :: a2 :: some (zR x) :: T) st Rf V := by
  intro p l e s m args below meth c D cy base b H locs ls C HH LL
  exact lv_aload_n C.1 C.2.1 hd rfl (LL.2.2 3 (zR x) rfl) (kk p l e s m args below meth c D cy base b H locs ls C HH LL)

theorem wa_ild4 {a0 a1 a2 a3 : Option zV} {T : List (Option zV)} {x : Int} (hd : decode μ.2.1 pc = .ok (.iload 4, 2)) (kk : Wa X μ R Z ce sl n S (pc + 2) (a0 :: a1 :: a2 :: a3 :: some (zI x) :: T) (zI x :: st) Rf V) : Wa X μ R Z ce sl n S (pc) (a0 :: a1 :: a2 :: a3 :: some (zI x) :: T) st Rf V := by
  intro p l e s m args below meth c D cy base b H locs ls C HH LL
  exact lv_iload C.1 C.2.1 hd (LL.2.2 4 (zI x) rfl) (kk p l e s m args below meth c D cy base b H locs ls C HH LL)

theorem wa_lld4 {a0 a1 a2 a3 : Option zV} {T : List (Option zV)} {x : Int} (hd : decode μ.2.1 pc = .ok (.lload 4, 2)) (kk : Wa X μ R Z ce sl n S (pc + 2) (a0 :: a1 :: a2 :: a3 :: some (zL x) :: T) (zL x :: st) Rf V) : Wa X μ R Z ce sl n S (pc) (a0 :: a1 :: a2 :: a3 :: some (zL x) :: T) st Rf V := by
  intro p l e s m args below meth c D cy base b H locs ls C HH LL
  exact lv_lload C.1 C.2.1 hd (LL.2.2 4 (zL x) rfl) (kk p l e s m args below meth c D cy base b H locs ls C HH LL)

theorem wa_ald4 {a0 a1 a2 a3 : Option zV} {T : List (Option zV)} {x : Nat} (hd : decode μ.2.1 pc = .ok (.aload 4, 2)) (kk : Wa X μ R Z ce sl n S (pc + 2) (a0 :: a1 :: a2 :: a3 :: some (zR x) :: T) (zR x :: st) Rf V) : Wa X μ R Z ce sl n S (pc) (a0 :: a1 :: a2 :: a3 :: some (zR x) :: T) st Rf V := by
  intro p l e s m args below meth c D cy base b H locs ls C HH LL
  exact lv_aload C.1 C.2.1 hd (LL.2.2 4 (zR x) rfl) (kk p l e s m args below meth c D cy base b H locs ls C HH LL)

theorem wa_ild5 {a0 a1 a2 a3 a4 : Option zV} {T : List (Option zV)} {x : Int} (hd : decode μ.2.1 pc = .ok (.iload 5, 2)) (kk : Wa X μ R Z ce sl n S (pc + 2) (a0 :: a1 :: a2 :: a3 :: a4 :: some (zI x) :: T) (zI x :: st) Rf V) : Wa X μ R Z ce sl n S (pc) (a0 :: a1 :: a2 :: a3 :: a4 :: some (zI x) :: T) st Rf V := by
  intro p l e s m args below meth c D cy base b H locs ls C HH LL
  exact lv_iload C.1 C.2.1 hd (LL.2.2 5 (zI x) rfl) (kk p l e s m args below meth c D cy base b H locs ls C HH LL)

theorem wa_lld5 {a0 a1 a2 a3 a4 : Option zV} {T : List (Option zV)} {x : Int} (hd : decode μ.2.1 pc = .ok (.lload 5, 2)) (kk : Wa X μ R Z ce sl n S (pc + 2) (a0 :: a1 :: a2 :: a3 :: a4 :: some (zL x) :: T) (zL x :: st) Rf V) : Wa X μ R Z ce sl n S (pc) (a0 :: a1 :: a2 :: a3 :: a4 :: some (zL x) :: T) st Rf V := by
  intro p l e s m args below meth c D cy base b H locs ls C HH LL
  exact lv_lload C.1 C.2.1 hd (LL.2.2 5 (zL x) rfl) (kk p l e s m args below meth c D cy base b H locs ls C HH LL)

theorem wa_ald5 {a0 a1 a2 a3 a4 : Option zV} {T : List (Option zV)} {x : Nat} (hd : decode μ.2.1 pc = .ok (.aload 5, 2)) (kk : Wa X μ R Z ce sl n S (pc + 2) (a0 :: a1 :: a2 :: a3 :: a4 :: some (zR x) :: T) (zR x :: st) Rf V) : Wa X μ R Z ce sl n S (pc) (a0 :: a1 :: a2 :: a3 :: a4 :: some (zR x) :: T) st Rf V := by
  intro p l e s m args below meth c D cy base b H locs ls C HH LL
  exact lv_aload C.1 C.2.1 hd (LL.2.2 5 (zR x) rfl) (kk p l e s m args below meth c D cy base b H locs ls C HH LL)

theorem wa_ild6 {a0 a1 a2 a3 a4 a5 : Option zV} {T : List (Option zV)} {x : Int} (hd : decode μ.2.1 pc = .ok (.iload 6, 2)) (kk : Wa X μ R Z ce sl n S (pc + 2) (a0 :: a1 :: a2 :: a3 :: a4 :: a5 :: some (zI x) :: T) (zI x :: st) Rf V) : Wa X μ R Z ce sl n S (pc) (a0 :: a1 :: a2 :: a3 :: a4 :: a5 :: some (zI x) :: T) st Rf V := by
  intro p l e s m args below meth c D cy base b H locs ls C HH LL
  exact lv_iload C.1 C.2.1 hd (LL.2.2 6 (zI x) rfl) (kk p l e s m args below meth c D cy base b H locs ls C HH LL)

theorem wa_lld6 {a0 a1 a2 a3 a4 a5 : Option zV} {T : List (Option zV)} {x : Int} (hd : decode μ.2.1 pc = .ok (.lload 6, 2)) (kk : Wa X μ R Z ce sl n S (pc + 2) (a0 :: a1 :: a2 :: a3 :: a4 :: a5 :: some (zL x) :: T) (zL x :: st) Rf V) : Wa X μ R Z ce sl n S (pc) (a0 :: a1 :: a2 :: a3 :: a4 :: a5 :: some (zL x) :: T) st Rf V := by
  intro p l e s m args below meth c D cy base b H locs ls C HH LL
  exact lv_lload C.1 C.2.1 hd (LL.2.2 6 (zL x) rfl) (kk p l e s m args below meth c D cy base b H locs ls C HH LL)

theorem wa_ald6 {a0 a1 a2 a3 a4 a5 : Option zV} {T : List (Option zV)} {x : Nat} (hd : decode μ.2.1 pc = .ok (.aload 6, 2)) (kk : Wa X μ R Z ce sl n S (pc + 2) (a0 :: a1 :: a2 :: a3 :: a4 :: a5 :: some (zR x) :: T) (zR x :: st) Rf V) : Wa X μ R Z ce sl n S (pc) (a0 :: a1 :: a2 :: a3 :: a4 :: a5 :: some (zR x) :: T) st Rf V := by
  intro p l e s m args below meth c D cy base b H locs ls C HH LL
  exact lv_aload C.1 C.2.1 hd (LL.2.2 6 (zR x) rfl) (kk p l e s m args below meth c D cy base b H locs ls C HH LL)

theorem wa_ild7 {a0 a1 a2 a3 a4 a5 a6 : Option zV} {T : List (Option zV)} {x : Int} (hd : decode μ.2.1 pc = .ok (.iload 7, 2)) (kk : Wa X μ R Z ce sl n S (pc + 2) (a0 :: a1 :: a2 :: a3 :: a4 :: a5 :: a6 :: some (zI x) :: T) (zI x :: st) Rf V) : Wa X μ R Z ce sl n S (pc) (a0 :: a1 :: a2 :: a3 :: a4 :: a5 :: a6 :: some (zI x) :: T) st Rf V := by
  intro p l e s m args below meth c D cy base b H locs ls C HH LL
  exact lv_iload C.1 C.2.1 hd (LL.2.2 7 (zI x) rfl) (kk p l e s m args below meth c D cy base b H locs ls C HH LL)

theorem wa_lld7 {a0 a1 a2 a3 a4 a5 a6 : Option zV} {T : List (Option zV)} {x : Int} (hd : decode μ.2.1 pc = .ok (.lload 7, 2)) (kk : Wa X μ R Z ce sl n S (pc + 2) (a0 :: a1 :: a2 :: a3 :: a4 :: a5 :: a6 :: some (zL x) :: T) (zL x :: st) Rf V) : Wa X μ R Z ce sl n S (pc) (a0 :: a1 :: a2 :: a3 :: a4 :: a5 :: a6 :: some (zL x) :: T) st Rf V := by
  intro p l e s m args below meth c D cy base b H locs ls C HH LL
  exact lv_lload C.1 C.2.1 hd (LL.2.2 7 (zL x) rfl) (kk p l e s m args below meth c D cy base b H locs ls C HH LL)

theorem wa_ald7 {a0 a1 a2 a3 a4 a5 a6 : Option zV} {T : List (Option zV)} {x : Nat} (hd : decode μ.2.1 pc = .ok (.aload 7, 2)) (kk : Wa X μ R Z ce sl n S (pc + 2) (a0 :: a1 :: a2 :: a3 :: a4 :: a5 :: a6 :: some (zR x) :: T) (zR x :: st) Rf V) : Wa X μ R Z ce sl n S (pc) (a0 :: a1 :: a2 :: a3 :: a4 :: a5 :: a6 :: some (zR x) :: T) st Rf V := by
  intro p l e s m args below meth c D cy base b H locs ls C HH LL
  exact lv_aload C.1 C.2.1 hd (LL.2.2 7 (zR x) rfl) (kk p l e s m args below meth c D cy base b H locs ls C HH LL)

theorem wa_ild8 {a0 a1 a2 a3 a4 a5 a6 a7 : Option zV} {T : List (Option zV)} {x : Int} (hd : decode μ.2.1 pc = .ok (.iload 8, 2)) (kk : Wa X μ R Z ce sl n S (pc + 2) (a0 :: a1 :: a2 :: a3 :: a4 :: a5 :: a6 :: a7 :: some (zI x) :: T) (zI x :: st) Rf V) : Wa X μ R Z ce sl n S (pc) (a0 :: a1 :: a2 :: a3 :: a4 :: a5 :: a6 :: a7 :: some (zI x) :: T) st Rf V := by
  intro p l e s m args below meth c D cy base b H locs ls C HH LL
  exact lv_iload C.1 C.2.1 hd (LL.2.2 8 (zI x) rfl) (kk p l e s m args below meth c D cy base b H locs ls C HH LL)

theorem wa_lld8 {a0 a1 a2 a3 a4 a5 a6 a7 : Option zV} {T : List (Option zV)} {x : Int} (hd : decode μ.2.1 pc = .ok (.lload 8, 2)) (kk : Wa X μ R Z ce sl n S (pc + 2) (a0 :: a1 :: a2 :: a3 :: a4 :: a5 :: a6 :: a7 :: some (zL x) :: T) (zL x :: st) Rf V) : Wa X μ R Z ce sl n S (pc) (a0 :: a1 :: a2 :: a3 :: a4 :: a5 :: a6 :: a7 :: some (zL x) :: T) st Rf V := by
  intro p l e s m args below meth c D cy base b H locs ls C HH LL
  exact lv_lload C.1 C.2.1 hd (LL.2.2 8 (zL x) rfl) (kk p l e s m args below meth c D cy base b H locs ls C HH LL)

theorem wa_ald8 {a0 a1 a2 a3 a4 a5 a6 a7 : Option zV} {T : List (Option zV)} {x : Nat} (hd : decode μ.2.1 pc = .ok (.aload 8, 2)) (kk : Wa X μ R Z ce sl n S (pc + 2) (a0 :: a1 :: a2 :: a3 :: a4 :: a5 :: a6 :: a7 :: some (zR x) :: T) (zR x :: st) Rf V) : Wa X μ R Z ce sl n S (pc) (a0 :: a1 :: a2 :: a3 :: a4 :: a5 :: a6 :: a7 :: some (zR x) :: T) st Rf V := by
  intro p l e s m args below meth c D cy base b H locs ls C HH LL
  exact lv_aload C.1 C.2.1 hd (LL.2.2 8 (zR x) rfl) (kk p l e s m args below meth c D cy base b H locs ls C HH LL)

theorem wa_ild9 {a0 a1 a2 a3 a4 a5 a6 a7 a8 : Option zV} {T : List (Option zV)} {x : Int} (hd : decode μ.2.1 pc = .ok (.iload 9, 2)) (kk : Wa X μ R Z ce sl n S (pc + 2) (a0 :: a1 :: a2 :: a3 :: a4 :: a5 :: a6 :: a7 :: a8 :: some (zI x) :: T) (zI x :: st) Rf V) : Wa X μ R Z ce sl n S (pc) (a0 :: a1 :: a2 :: a3 :: a4 :: a5 :: a6 :: a7 :: a8 :: some (zI x) :: T) st Rf V := by
  intro p l e s m args below meth c D cy base b H locs ls C HH LL
  exact lv_iload C.1 C.2.1 hd (LL.2.2 9 (zI x) rfl) (kk p l e s m args below meth c D cy base b H locs ls C HH LL)

theorem wa_lld9 {a0 a1 a2 a3 a4 a5 a6 a7 a8 : Option zV} {T : List (Option zV)} {x : Int} (hd : decode μ.2.1 pc = .ok (.lload 9, 2)) (kk : Wa X μ R Z ce sl n S (pc + 2) (a0 :: a1 :: a2 :: a3 :: a4 :: a5 :: a6 :: a7 :: a8 :: some (zL x) :: T) (zL x :: st) Rf V) : Wa X μ R Z ce sl n S (pc) (a0 :: a1 :: a2 :: a3 :: a4 :: a5 :: a6 :: a7 :: a8 :: some (zL x) :: T) st Rf V := by
  intro p l e s m args below meth c D cy base b H locs ls C HH LL
  exact lv_lload C.1 C.2.1 hd (LL.2.2 9 (zL x) rfl) (kk p l e s m args below meth c D cy base b H locs ls C HH LL)

theorem wa_ald9 {a0 a1 a2 a3 a4 a5 a6 a7 a8 : Option zV} {T : List (Option zV)} {x : Nat} (hd : decode μ.2.1 pc = .ok (.aload 9, 2)) (kk : Wa X μ R Z ce sl n S (pc + 2) (a0 :: a1 :: a2 :: a3 :: a4 :: a5 :: a6 :: a7 :: a8 :: some (zR x) :: T) (zR x :: st) Rf V) : Wa X μ R Z ce sl n S (pc) (a0 :: a1 :: a2 :: a3 :: a4 :: a5 :: a6 :: a7 :: a8 :: some (zR x) :: T) st Rf V := by
  intro p l e s m args below meth c D cy base b H locs ls C HH LL
  exact lv_aload C.1 C.2.1 hd (LL.2.2 9 (zR x) rfl) (kk p l e s m args below meth c D cy base b H locs ls C HH LL)

theorem wa_ild10 {a0 a1 a2 a3 a4 a5 a6 a7 a8 a9 : Option zV} {T : List (Option zV)} {x : Int} (hd : decode μ.2.1 pc = .ok (.iload 10, 2)) (kk : Wa X μ R Z ce sl n S (pc + 2) (a0 :: a1 :: a2 :: a3 :: a4 :: a5 :: a6 :: a7 :: a8 :: a9 :: some (zI x) :: T) (zI x :: st) Rf V) : Wa X μ R Z ce sl n S (pc) (a0 :: a1 :: a2 :: a3 :: a4 :: a5 :: a6 :: a7 :: a8 :: a9 :: some (zI x) :: T) st Rf V := by
  intro p l e s m args below meth c D cy base b H locs ls C HH LL
  exact lv_iload C.1 C.2.1 hd (LL.2.2 10 (zI x) rfl) (kk p l e s m args below meth c D cy base b H locs ls C HH LL)

theorem wa_lld10 {a0 a1 a2 a3 a4 a5 a6 a7 a8 a9 : Option zV} {T : List (Option zV)} {x : Int} (hd : decode μ.2.1 pc = .ok (.lload 10, 2)) (kk : Wa X μ R Z ce sl n S (pc + 2) (a0 :: a1 :: a2 :: a3 :: a4 :: a5 :: a6 :: a7 :: a8 :: a9 :: some (zL x) :: T) (zL x :: st) Rf V) : Wa X μ R Z ce sl n S (pc) (a0 :: a1 :: a2 :: a3 :: a4 :: a5 :: a6 :: a7 :: a8 :: a9 :: some (zL x) :: T) st Rf V := by
  intro p l e s m args below meth c D cy base b H locs ls C HH LL
  exact lv_lload C.1 C.2.1 hd (LL.2.2 10 (zL x) rfl) (kk p l e s m args below meth c D cy base b H locs ls C HH LL)

theorem wa_ald10 {a0 a1 a2 a3 a4 a5 a6 a7 a8 a9 : Option zV} {T : List (Option zV)} {x : Nat} (hd : decode μ.2.1 pc = .ok (.aload 10, 2)) (kk : Wa X μ R Z ce sl n S (pc + 2) (a0 :: a1 :: a2 :: a3 :: a4 :: a5 :: a6 :: a7 :: a8 :: a9 :: some (zR x) :: T) (zR x :: st) Rf V) : Wa X μ R Z ce sl n S (pc) (a0 :: a1 :: a2 :: a3 :: a4 :: a5 :: a6 :: a7 :: a8 :: a9 :: some (zR x) :: T) st Rf V := by
  intro p l e s m args below meth c D cy base b H locs ls C HH LL
  exact lv_aload C.1 C.2.1 hd (LL.2.2 10 (zR x) rfl) (kk p l e s m args below meth c D cy base b H locs ls C HH LL)

theorem wa_ild11 {a0 a1 a2 a3 a4 a5 a6 a7 a8 a9 a10 : Option zV} {T : List (Option zV)} {x : Int} (hd : decode μ.2.1 pc = .ok (.iload 11, 2)) (kk : Wa X μ R Z ce sl n S (pc + 2) (a0 :: a1 :: a2 :: a3 :: a4 :: a5 :: a6 :: a7 :: a8 :: a9 :: a10 :: some (zI x) :: T) (zI x :: st) Rf V) : Wa X μ R Z ce sl n S (pc) (a0 :: a1 :: a2 :: a3 :: a4 :: a5 :: a6 :: a7 :: a8 :: a9 :: a10 :: some (zI x) :: T) st Rf V := by
  intro p l e s m args below meth c D cy base b H locs ls C HH LL
  exact lv_iload C.1 C.2.1 hd (LL.2.2 11 (zI x) rfl) (kk p l e s m args below meth c D cy base b H locs ls C HH LL)

theorem wa_lld11 {a0 a1 a2 a3 a4 a5 a6 a7 a8 a9 a10 : Option zV} {T : List (Option zV)} {x : Int} (hd : decode μ.2.1 pc = .ok (.lload 11, 2)) (kk : Wa X μ R Z ce sl n S (pc + 2) (a0 :: a1 :: a2 :: a3 :: a4 :: a5 :: a6 :: a7 :: a8 :: a9 :: a10 :: some (zL x) :: T) (zL x :: st) Rf V) : Wa X μ R Z ce sl n S (pc) (a0 :: a1 :: a2 :: a3 :: a4 :: a5 :: a6 :: a7 :: a8 :: a9 :: a10 :: some (zL x) :: T) st Rf V := by
  intro p l e s m args below meth c D cy base b H locs ls C HH LL
  exact lv_lload C.1 C.2.1 hd (LL.2.2 11 (zL x) rfl) (kk p l e s m args below meth c D cy base b H locs ls C HH LL)

theorem wa_ald11 {a0 a1 a2 a3 a4 a5 a6 a7 a8 a9 a10 : Option zV} {T : List (Option zV)} {x : Nat} (hd : decode μ.2.1 pc = .ok (.aload 11, 2)) (kk : Wa X μ R Z ce sl n S (pc + 2) (a0 :: a1 :: a2 :: a3 :: a4 :: a5 :: a6 :: a7 :: a8 :: a9 :: a10 :: some (zR x) :: T) (zR x :: st) Rf V) : Wa X μ R Z ce sl n S (pc) (a0 :: a1 :: a2 :: a3 :: a4 :: a5 :: a6 :: a7 :: a8 :: a9 :: a10 :: some (zR x) :: T) st Rf V := by
  intro p l e s m args below meth c D cy base b H locs ls C HH LL
  exact lv_aload C.1 C.2.1 hd (LL.2.2 11 (zR x) rfl) (kk p l e s m args below meth c D cy base b H locs ls C HH LL)

/-- the listed locals -/
def zlv (base b : Nat) (L : List (Option zV)) (nL : Nat) : List (Nat × Value) := (List.range nL).filterMap (fun i => match L[i]? with
  | some (some v) => some (i, zu base b v)
  | _ => none)
theorem zlv_mem {base b : Nat} {L : List (Option zV)} {nL : Nat} {q : Nat × Value} : q ∈ zlv base b L nL ↔ ∃ (i : Nat) (v : zV), i < nL ∧ L[i]? = some (some v) ∧ q = (i, zu base b v) := by
  unfold zlv
  rw [List.mem_filterMap]
  constructor
  · rintro ⟨i, hi, hq⟩
    rw [List.mem_range] at hi
    cases h : L[i]? with
    | none => rw [h] at hq; cases hq
    | some o =>
      cases o with
      | none => rw [h] at hq; cases hq
      | some v => rw [h] at hq; exact ⟨i, v, hi, h, (Option.some.inj hq).symm⟩
  · rintro ⟨i, v, hi, h, rfl⟩
    exact ⟨i, List.mem_range.mpr hi, by rw [h]⟩
theorem zls_has {base b nL : Nat} {L : List (Option zV)} {ls : Array Slot} (h : zLs base b nL L ls) : lv_has ls nL (zlv base b L nL) := by
  refine ⟨h.1, h.2.1, fun q hq => ?_⟩
  obtain ⟨i, v, -, hv, rfl⟩ := zlv_mem.mp hq
  exact h.2.2 i v hv
theorem zls_set {base b nL i : Nat} {x : zV} {L : List (Option zV)} {ls ls' : Array Slot} (h : zLs base b nL L ls) (hp : ∀ j, j + 1 = i → ∀ v, L[j]? = some (some v) → zcat v = 1)
    (h' : lv_has ls' nL ((i, zu base b x) :: (zlv base b L nL).filter (fun q => !(q.1 == i) && !(q.1 + 1 == i && q.2.category == 2)))) : zLs base b nL (L.set i (some x)) ls' := by
  refine ⟨h'.1, h'.2.1, fun j v hv => ?_⟩
  rw [List.getElem?_set] at hv
  by_cases hij : i = j
  · subst hij
    rw [if_pos rfl] at hv
    split at hv
    · cases hv; exact h'.2.2 _ List.mem_cons_self
    · cases hv
  · rw [if_neg hij] at hv
    have hj : j < nL := by have := lv_lt (h.2.2 j v hv); rw [h.1] at this; exact this
    refine h'.2.2 (j, zu base b v) (List.mem_cons_of_mem _ (List.mem_filter.mpr ⟨zlv_mem.mpr ⟨j, v, hj, hv, rfl⟩, ?_⟩))
    have h1 : (j == i) = false := by simp; omega
    by_cases h2 : j + 1 = i
    · have h3 := hp j h2 v hv
      simp [h1, zu_cat, h3]
    · have h3 : (j + 1 == i) = false := by simp; omega
      simp [h1, h3]
theorem zls_setL {base b nL i : Nat} {x : Int} {L : List (Option zV)} {ls ls' : Array Slot} (h : zLs base b nL L ls) (hp : ∀ j, j + 1 = i → ∀ v, L[j]? = some (some v) → zcat v = 1)
    (h' : lv_has ls' nL ((i, zu base b (zL x)) :: (zlv base b L nL).filter (fun q => !(q.1 == i) && (!(q.1 == i + 1) && !(q.1 + 1 == i && q.2.category == 2))))) : zLs base b nL ((L.set i (some (zL x))).set (i + 1) none) ls' := by
  refine ⟨h'.1, h'.2.1, fun j v hv => ?_⟩
  rw [List.getElem?_set] at hv
  by_cases hi1 : i + 1 = j
  · rw [if_pos hi1] at hv
    split at hv <;> cases hv
  · rw [if_neg hi1, List.getElem?_set] at hv
    by_cases hij : i = j
    · subst hij
      rw [if_pos rfl] at hv
      split at hv
      · cases hv; exact h'.2.2 _ List.mem_cons_self
      · cases hv
    · rw [if_neg hij] at hv
      have hj : j < nL := by have := lv_lt (h.2.2 j v hv); rw [h.1] at this; exact this
      refine h'.2.2 (j, zu base b v) (List.mem_cons_of_mem _ (List.mem_filter.mpr ⟨zlv_mem.mpr ⟨j, v, hj, hv, rfl⟩, ?_⟩))
      have h1 : (j == i) = false := by simp; omega
      have h0 : (j == i + 1) = false := by simp; omega
      by_cases h2 : j + 1 = i
      · have h3 := hp j h2 v hv
        simp [h1, h0, zu_cat, h3]
      · have h3 : (j + 1 == i) = false := by simp; omega
        simp [h1, h0, h3]
theorem zok_spec {o : Option zV} {v : zV} (h : zok o = true) (hv : some o = some (some v)) : zcat v = 1 := by
  cases hv; simpa [zok] using h

theorem wa_ist0 {o : Option zV} {T : List (Option zV)} {x : Int} (hd : decode μ.2.1 pc = .ok (.istore_n 0, 1)) (hn : 0 < μ.2.2.1)  (kk : Wa X μ R Z ce sl n S (pc + 1) (some (zI x) :: T) st Rf V) : Wa X μ R Z ce sl n S (pc) (o :: T) (zI x :: st) Rf V := by
  intro p l e s m args below meth c D cy base b H locs ls C HH LL
  refine lv_istore_n C.1 C.2.1 hd rfl (zls_has LL) hn rfl (fun ls' h' => ?_)
  exact kk p l e s m args below meth c D cy base b H locs ls' C HH (zls_set (x := zI x) LL (fun j hj => by omega) h')

theorem wa_ast0 {o : Option zV} {T : List (Option zV)} {x : Nat} (hd : decode μ.2.1 pc = .ok (.astore_n 0, 1)) (hn : 0 < μ.2.2.1)  (kk : Wa X μ R Z ce sl n S (pc + 1) (some (zR x) :: T) st Rf V) : Wa X μ R Z ce sl n S (pc) (o :: T) (zR x :: st) Rf V := by
  intro p l e s m args below meth c D cy base b H locs ls C HH LL
  refine lv_astore_n C.1 C.2.1 hd rfl (zls_has LL) hn rfl (fun ls' h' => ?_)
  exact kk p l e s m args below meth c D cy base b H locs ls' C HH (zls_set (x := zR x) LL (fun j hj => by omega) h')

theorem wa_iinc0  {T : List (Option zV)} {x k : Int} (hd : decode μ.2.1 pc = .ok (.iinc 0 k, 3)) (hn : 0 < μ.2.2.1)  (kk : Wa X μ R Z ce sl n S (pc + 3) (some (zI (x + k)) :: T) st Rf V) : Wa X μ R Z ce sl n S (pc) (some (zI x) :: T) st Rf V := by
  intro p l e s m args below meth c D cy base b H locs ls C HH LL
  have hm : (0, zu base b (zI x)) ∈ zlv base b (some (zI x) :: T) μ.2.2.1 := zlv_mem.mpr ⟨0, zI x, hn, rfl, rfl⟩
  obtain ⟨q, hq⟩ := List.getElem?_of_mem hm
  refine lv_iinc C.1 C.2.1 hd (zls_has LL) hq (Int32.ofInt_add x k).symm hn rfl (fun ls' h' => ?_)
  exact kk p l e s m args below meth c D cy base b H locs ls' C HH (zls_set (x := zI (x + k)) LL (fun j hj => by omega) h')

theorem wa_ist1 {a0 o : Option zV} {T : List (Option zV)} {x : Int} (hd : decode μ.2.1 pc = .ok (.istore_n 1, 1)) (hn : 1 < μ.2.2.1) (hz : zok a0 = true) (kk : Wa X μ R Z ce sl n S (pc + 1) (a0 :: some (zI x) :: T) st Rf V) : Wa X μ R Z ce sl n S (pc) (a0 :: o :: T) (zI x :: st) Rf V := by
  intro p l e s m args below meth c D cy base b H locs ls C HH LL
  refine lv_istore_n C.1 C.2.1 hd rfl (zls_has LL) hn rfl (fun ls' h' => ?_)
  exact kk p l e s m args below meth c D cy base b H locs ls' C HH (zls_set (x := zI x) LL (fun j hj v hv => by (obtain rfl : j = 0 := (by omega)); exact zok_spec hz hv) h')

theorem wa_ast1 {a0 o : Option zV} {T : List (Option zV)} {x : Nat} (hd : decode μ.2.1 pc = .ok (.astore_n 1, 1)) (hn : 1 < μ.2.2.1) (hz : zok a0 = true) (kk : Wa X μ R Z ce sl n S (pc + 1) (a0 :: some (zR x) :: T) st Rf V) : Wa X μ R Z ce sl n S (pc) (a0 :: o :: T) (zR x :: st) Rf V := by
  intro p l e s m args below meth c D cy base b H locs ls C HH LL
  refine lv_astore_n C.1 C.2.1 hd rfl (zls_has LL) hn rfl (fun ls' h' => ?_)
  exact kk p l e s m args below meth c D cy base b H locs ls' C HH (zls_set (x := zR x) LL (fun j hj v hv => by (obtain rfl : j = 0 := (by omega)); exact zok_spec hz hv) h')

theorem wa_iinc1 {a0 : Option zV} {T : List (Option zV)} {x k : Int} (hd : decode μ.2.1 pc = .ok (.iinc 1 k, 3)) (hn : 1 < μ.2.2.1) (hz : zok a0 = true) (kk : Wa X μ R Z ce sl n S (pc + 3) (a0 :: some (zI (x + k)) :: T) st Rf V) : Wa X μ R Z ce sl n S (pc) (a0 :: some (zI x) :: T) st Rf V := by
  intro p l e s m args below meth c D cy base b H locs ls C HH LL
  have hm : (1, zu base b (zI x)) ∈ zlv base b (a0 :: some (zI x) :: T) μ.2.2.1 := zlv_mem.mpr ⟨1, zI x, hn, rfl, rfl⟩
  obtain ⟨q, hq⟩ := List.getElem?_of_mem hm
  refine lv_iinc C.1 C.2.1 hd (zls_has LL) hq (Int32.ofInt_add x k).symm hn rfl (fun ls' h' => ?_)
  exact kk p l e s m args below meth c D cy base b H locs ls' C HH (zls_set (x := zI (x + k)) LL (fun j hj v hv => by (obtain rfl : j = 0 := (by omega)); exact zok_spec hz hv) h')

theorem wa_ist2 {a0 a1 o : Option zV} {T : List (Option zV)} {x : Int} (hd : decode μ.2.1 pc = .ok (.istore_n 2, 1)) (hn : 2 < μ.2.2.1) (hz : zok a1 = true) (kk : Wa X μ R Z ce sl n S (pc + 1) (a0 :: a1 :: some (zI x) :: T) st Rf V) : Wa X μ R Z ce sl n S (pc) (a0 :: a1 :: o :: T) (zI x :: st) Rf V := by
  intro p l e s m args below meth c D cy base b H locs ls C HH LL
  refine lv_istore_n C.1 C.2.1 hd rfl (zls_has LL) hn rfl (fun ls' h' => ?_)
  exact kk p l e s m args below meth c D cy base b H locs ls' C HH (zls_set (x := zI x) LL (fun j hj v hv => by (obtain rfl : j = 1 := (by omega)); exact zok_spec hz hv) h')

theorem wa_ast2 {a0 a1 o : Option zV} {T : List (Option zV)} {x : Nat} (hd : decode μ.2.1 pc = .ok (.astore_n 2, 1)) (hn : 2 < μ.2.2.1) (hz : zok a1 = true) (kk : Wa X μ R Z ce sl n S (pc + 1) (a0 :: a1 :: some (zR x) :: T) st Rf V) : Wa X μ R Z ce sl n S (pc) (a0 :: a1 :: o :: T) (zR x :: st) Rf V := by
  intro p l e s m args below meth c D cy base b H locs ls C HH LL
  refine lv_astore_n C.1 C.2.1 hd rfl (zls_has LL) hn rfl (fun ls' h' => ?_)
  exact kk p l e s m args below meth c D cy base b H locs ls' C HH (zls_set (x := zR x) LL (fun j hj v hv => by (obtain rfl : j = 1 := (by omega)); exact zok_spec hz hv) h')

theorem wa_iinc2 {a0 a1 : Option zV} {T : List (Option zV)} {x k : Int} (hd : decode μ.2.1 pc = .ok (.iinc 2 k, 3)) (hn : 2 < μ.2.2.1) (hz : zok a1 = true) (kk : Wa X μ R Z ce sl n S (pc + 3) (a0 :: a1 :: some (zI (x + k)) :: T) st Rf V) : Wa X μ R Z ce sl n S (pc) (a0 :: a1 :: some (zI x) :: T) st Rf V := by
  intro p l e s m args below meth c D cy base b H locs ls C HH LL
  have hm : (2, zu base b (zI x)) ∈ zlv base b (a0 :: a1 :: some (zI x) :: T) μ.2.2.1 := zlv_mem.mpr ⟨2, zI x, hn, rfl, rfl⟩
  obtain ⟨q, hq⟩ := List.getElem?_of_mem hm
  refine lv_iinc C.1 C.2.1 hd (zls_has LL) hq (Int32.ofInt_add x k).symm hn rfl (fun ls' h' => ?_)
  exact kk p l e s m args below meth c D cy base b H locs ls' C HH (zls_set (x := zI (x + k)) LL (fun j hj v hv => by (obtain rfl : j = 1 := (by omega)); exact zok_spec hz hv) h')

theorem wa_ist3 {a0 a1 a2 o : Option zV} {T : List (Option zV)} {x : Int} (hd : decode μ.2.1 pc = .ok (.istore_n 3, 1)) (hn : 3 < μ.2.2.1) (hz : zok a2 = true) (kk : Wa X μ R Z ce sl n S (pc + 1) (a0 :: a1 :: a2 :: some (zI x) :: T) st Rf V) : Wa X μ R Z ce sl n S (pc) (a0 :: a1 :: a2 :: o :: T) (zI x :: st) Rf V := by
  intro p l e s m args below meth c D cy base b H locs ls C HH LL
  refine lv_istore_n C.1 C.2.1 hd rfl (zls_has LL) hn rfl (fun ls' h' => ?_)
  exact kk p l e s m args below meth c D cy base b H locs ls' C HH (zls_set (x := zI x) LL (fun j hj v hv => by (obtain rfl : j = 2 := (by omega)); exact zok_spec hz hv) h')

theorem wa_ast3 {a0 a1 a2 o : Option zV} {T : List (Option zV)} {x : Nat} (hd : decode μ.2.1 pc = .ok (.astore_n 3, 1)) (hn : 3 < μ.2.2.1) (hz : zok a2 = true) (kk : Wa X μ R Z ce sl n S (pc + 1) (a0 :: a1 :: a2 :: some (zR x) :: T) st Rf V) : Wa X μ R Z ce sl n S (pc) (a0 :: a1 :: a2 :: o :: T) (zR x :: st) Rf V := by
  intro p l e s m args below meth c D cy base b H locs ls C HH LL
  refine lv_astore_n C.1 C.2.1 hd rfl (zls_has LL) hn rfl (fun ls' h' => ?_)
  exact kk p l e s m args below meth c D cy base b H locs ls' C HH (zls_set (x := zR x) LL (fun j hj v hv => by (obtain rfl : j = 2 := (by omega)); exact zok_spec hz hv) h')

theorem wa_iinc3 {a0 a1 a2 : Option zV} {T : List (Option zV)} {x k : Int} (hd : decode μ.2.1 pc = .ok (.iinc 3 k, 3)) (hn : 3 < μ.2.2.1) (hz : zok a2 = true) (kk : Wa X μ R Z ce sl n S (pc + 3) (a0 :: a1 :: a2 :: some (zI (x + k)) :: T) st Rf V) : Wa X μ R Z ce sl n S (pc) (a0 :: a1 :: a2 :: some (zI x) :: T) st Rf V := by
  intro p l e s m args below meth c D cy base b H locs ls C HH LL
  have hm : (3, zu base b (zI x)) ∈ zlv base b (a0 :: a1 :: a2 :: some (zI x) :: T) μ.2.2.1 := zlv_mem.mpr ⟨3, zI x, hn, rfl, rfl⟩
  obtain ⟨q, hq⟩ := List.getElem?_of_mem hm
  refine lv_iinc C.1 C.2.1 hd (zls_has LL) hq (Int32.ofInt_add x k).symm hn rfl (fun ls' h' => ?_)
  exact kk p l e s m args below meth c D cy base b H locs ls' C HH (zls_set (x := zI (x + k)) LL (fun j hj v hv => by (obtain rfl : j = 2 := (by omega)); exact zok_spec hz hv) h')

theorem wa_ist4 {a0 a1 a2 a3 o : Option zV} {T : List (Option zV)} {x : Int} (hd : decode μ.2.1 pc = .ok (.istore 4, 2)) (hn : 4 < μ.2.2.1) (hz : zok a3 = true) (kk : Wa X μ R Z ce sl n S (pc + 2) (a0 :: a1 :: a2 :: a3 :: some (zI x) :: T) st Rf V) : Wa X μ R Z ce sl n S (pc) (a0 :: a1 :: a2 :: a3 :: o :: T) (zI x :: st) Rf V := by
  intro p l e s m args below meth c D cy base b H locs ls C HH LL
  refine lv_istore C.1 C.2.1 hd (zls_has LL) hn rfl (fun ls' h' => ?_)
  exact kk p l e s m args below meth c D cy base b H locs ls' C HH (zls_set (x := zI x) LL (fun j hj v hv => by (obtain rfl : j = 3 := (by omega)); exact zok_spec hz hv) h')

theorem wa_ast4 {a0 a1 a2 a3 o : Option zV} {T : List (Option zV)} {x : Nat} (hd : decode μ.2.1 pc = .ok (.astore 4, 2)) (hn : 4 < μ.2.2.1) (hz : zok a3 = true) (kk : Wa X μ R Z ce sl n S (pc + 2) (a0 :: a1 :: a2 :: a3 :: some (zR x) :: T) st Rf V) : Wa X μ R Z ce sl n S (pc) (a0 :: a1 :: a2 :: a3 :: o :: T) (zR x :: st) Rf V := by
  intro p l e s m args below meth c D cy base b H locs ls C HH LL
  refine lv_astore C.1 C.2.1 hd (zls_has LL) hn rfl (fun ls' h' => ?_)
  exact kk p l e s m args below meth c D cy base b H locs ls' C HH (zls_set (x := zR x) LL (fun j hj v hv => by (obtain rfl : j = 3 := (by omega)); exact zok_spec hz hv) h')

theorem wa_iinc4 {a0 a1 a2 a3 : Option zV} {T : List (Option zV)} {x k : Int} (hd : decode μ.2.1 pc = .ok (.iinc 4 k, 3)) (hn : 4 < μ.2.2.1) (hz : zok a3 = true) (kk : Wa X μ R Z ce sl n S (pc + 3) (a0 :: a1 :: a2 :: a3 :: some (zI (x + k)) :: T) st Rf V) : Wa X μ R Z ce sl n S (pc) (a0 :: a1 :: a2 :: a3 :: some (zI x) :: T) st Rf V := by
  intro p l e s m args below meth c D cy base b H locs ls C HH LL
  have hm : (4, zu base b (zI x)) ∈ zlv base b (a0 :: a1 :: a2 :: a3 :: some (zI x) :: T) μ.2.2.1 := zlv_mem.mpr ⟨4, zI x, hn, rfl, rfl⟩
  obtain ⟨q, hq⟩ := List.getElem?_of_mem hm
  refine lv_iinc C.1 C.2.1 hd (zls_has LL) hq (Int32.ofInt_add x k).symm hn rfl (fun ls' h' => ?_)
  exact kk p l e s m args below meth c D cy base b H locs ls' C HH (zls_set (x := zI (x + k)) LL (fun j hj v hv => by (obtain rfl : j = 3 := (by omega)); exact zok_spec hz hv) h')

theorem wa_ist5 {a0 a1 a2 a3 a4 o : Option zV} {T : List (Option zV)} {x : Int} (hd : decode μ.2.1 pc = .ok (.istore 5, 2)) (hn : 5 < μ.2.2.1) (hz : zok a4 = true) (kk : Wa X μ R Z ce sl n S (pc + 2) (a0 :: a1 :: a2 :: a3 :: a4 :: some (zI x) :: T) st Rf V) : Wa X μ R Z ce sl n S (pc) (a0 :: a1 :: a2 :: a3 :: a4 :: o :: T) (zI x :: st) Rf V := by
  intro p l e s m args below meth c D cy base b H locs ls C HH LL
  refine lv_istore C.1 C.2.1 hd (zls_has LL) hn rfl (fun ls' h' => ?_)
  exact kk p l e s m args below meth c D cy base b H locs ls' C HH (zls_set (x := zI x) LL (fun j hj v hv => by (obtain rfl : j = 4 := (by omega)); exact zok_spec hz hv) h')

theorem wa_ast5 {a0 a1 a2 a3 a4 o : Option zV} {T : List (Option zV)} {x : Nat} (hd : decode μ.2.1 pc = .ok (.astore 5, 2)) (hn : 5 < μ.2.2.1) (hz : zok a4 = true) (kk : Wa X μ R Z ce sl n S (pc + 2) (a0 :: a1 :: a2 :: a3 :: a4 :: some (zR x) :: T) st Rf V) : Wa X μ R Z ce sl n S (pc) (a0 :: a1 :: a2 :: a3 :: a4 :: o :: T) (zR x :: st) Rf V := by
  intro p l e s m args below meth c D cy base b H locs ls C HH LL
  refine lv_astore C.1 C.2.1 hd (zls_has LL) hn rfl (fun ls' h' => ?_)
  exact kk p l e s m args below meth c D cy base b H locs ls' C HH (zls_set (x := zR x) LL (fun j hj v hv => by (obtain rfl : j = 4 := (by omega)); exact zok_spec hz hv) h')

theorem wa_iinc5 {a0 a1 a2 a3 a4 : Option zV} {T : List (Option zV)} {x k : Int} (hd : decode μ.2.1 pc = .ok (.iinc 5 k, 3)) (hn : 5 < μ.2.2.1) (hz : zok a4 = true) (kk : Wa X μ R Z ce sl n S (pc + 3) (a0 :: a1 :: a2 :: a3 :: a4 :: some (zI (x + k)) :: T) st Rf V) : Wa X μ R Z ce sl n S (pc) (a0 :: a1 :: a2 :: a3 :: a4 :: some (zI x) :: T) st Rf V := by
  intro p l e s m args below meth c D cy base b H locs ls C HH LL
  have hm : (5, zu base b (zI x)) ∈ zlv base b (a0 :: a1 :: a2 :: a3 :: a4 :: some (zI x) :: T) μ.2.2.1 := zlv_mem.mpr ⟨5, zI x, hn, rfl, rfl⟩
  obtain ⟨q, hq⟩ := List.getElem?_of_mem hm
  refine lv_iinc C.1 C.2.1 hd (zls_has LL) hq (Int32.ofInt_add x k).symm hn rfl (fun ls' h' => ?_)
  exact kk p l e s m args below meth c D cy base b H locs ls' C HH (zls_set (x := zI (x + k)) LL (fun j hj v hv => by (obtain rfl : j = 4 := (by omega)); exact zok_spec hz hv) h')

theorem wa_ist6 {a0 a1 a2 a3 a4 a5 o : Option zV} {T : List (Option zV)} {x : Int} (hd : decode μ.2.1 pc = .ok (.istore 6, 2)) (hn : 6 < μ.2.2.1) (hz : zok a5 = true) (kk : Wa X μ R Z ce sl n S (pc + 2) (a0 :: a1 :: a2 :: a3 :: a4 :: a5 :: some (zI x) :: T) st Rf V) : Wa X μ R Z ce sl n S (pc) (a0 :: a1 :: a2 :: a3 :: a4 :: a5 :: o :: T) (zI x :: st) Rf V := by
  intro p l e s m args below meth c D cy base b H locs ls C HH LL
  refine lv_istore C.1 C.2.1 hd (zls_has LL) hn rfl (fun ls' h' => ?_)
  exact kk p l e s m args below meth c D cy base b H locs ls' C HH (zls_set (x := zI x) LL (fun j hj v hv => by (obtain rfl : j = 5 := (by omega)); exact zok_spec hz hv) h')

theorem wa_ast6 {a0 a1 a2 a3 a4 a5 o : Option zV} {T : List (Option zV)} {x : Nat} (hd : decode μ.2.1 pc = .ok (.astore 6, 2)) (hn : 6 < μ.2.2.1) (hz : zok a5 = true) (kk : Wa X μ R Z ce sl n S (pc + 2) (a0 :: a1 :: a2 :: a3 :: a4 :: a5 :: some (zR x) :: T) st Rf V) : Wa X μ R Z ce sl n S (pc) (a0 :: a1 :: a2 :: a3 :: a4 :: a5 :: o :: T) (zR x :: st) Rf V := by
  intro p l e s m args below meth c D cy base b H locs ls C HH LL
  refine lv_astore C.1 C.2.1 hd (zls_has LL) hn rfl (fun ls' h' => ?_)
  exact kk p l e s m args below meth c D cy base b H locs ls' C HH (zls_set (x := zR x) LL (fun j hj v hv => by (obtain rfl : j = 5 := (by omega)); exact zok_spec hz hv) h')

theorem wa_iinc6 {a0 a1 a2 a3 a4 a5 : Option zV} {T : List (Option zV)} {x k : Int} (hd : decode μ.2.1 pc = .ok (.iinc 6 k, 3)) (hn : 6 < μ.2.2.1) (hz : zok a5 = true) (kk : Wa X μ R Z ce sl n S (pc + 3) (a0 :: a1 :: a2 :: a3 :: a4 :: a5 :: some (zI (x + k)) :: T) st Rf V) : Wa X μ R Z ce sl n S (pc) (a0 :: a1 :: a2 :: a3 :: a4 :: a5 :: some (zI x) :: T) st Rf V := by
  intro p l e s m args below meth c D cy base b H locs ls C HH LL
  have hm : (6, zu base b (zI x)) ∈ zlv base b (a0 :: a1 :: a2 :: a3 :: a4 :: a5 :: some (zI x) :: T) μ.2.2.1 := zlv_mem.mpr ⟨6, zI x, hn, rfl, rfl⟩
  obtain ⟨q, hq⟩ := List.getElem?_of_mem hm
  refine lv_iinc C.1 C.2.1 hd (zls_has LL) hq (Int32.ofInt_add x k).symm hn rfl (fun ls' h' => ?_)
  exact kk p l e s m args below meth c D cy base b H locs ls' C HH (zls_set (x := zI (x + k)) LL (fun j hj v hv => by (obtain rfl : j = 5 := (by omega)); exact zok_spec hz hv) h')

theorem wa_ist7 {a0 a1 a2 a3 a4 a5 a6 o : Option zV} {T : List (Option zV)} {x : Int} (hd : decode μ.2.1 pc = .ok (.istore 7, 2)) (hn : 7 < μ.2.2.1) (hz : zok a6 = true) (kk : Wa X μ R Z ce sl n S (pc + 2) (a0 :: a1 :: a2 :: a3 :: a4 :: a5 :: a6 :: some (zI x) :: T) st Rf V) : Wa X μ R Z ce sl n S (pc) (a0 :: a1 :: a2 :: a3 :: a4 :: a5 :: a6 :: o :: T) (zI x :: st) Rf V := by
  intro p l e s m args below meth c D cy base b H locs ls C HH LL
  refine lv_istore C.1 C.2.1 hd (zls_has LL) hn rfl (fun ls' h' => ?_)
  exact kk p l e s m args below meth c D cy base b H locs ls' C HH (zls_set (x := zI x) LL (fun j hj v hv => by (obtain rfl : j = 6 := (by omega)); exact zok_spec hz hv) h')

theorem wa_ast7 {a0 a1 a2 a3 a4 a5 a6 o : Option zV} {T : List (Option zV)} {x : Nat} (hd : decode μ.2.1 pc = .ok (.astore 7, 2)) (hn : 7 < μ.2.2.1) (hz : zok a6 = true) (kk : Wa X μ R Z ce sl n S (pc + 2) (a0 :: a1 :: a2 :: a3 :: a4 :: a5 :: a6 :: some (zR x) :: T) st Rf V) : Wa X μ R Z ce sl n S (pc) (a0 :: a1 :: a2 :: a3 :: a4 :: a5 :: a6 :: o :: T) (zR x :: st) Rf V := by
  intro p l e s m args below meth c D cy base b H locs ls C HH LL
  refine lv_astore C.1 C.2.1 hd (zls_has LL) hn rfl (fun ls' h' => ?_)
  exact kk p l e s m args below meth c D cy base b H locs ls' C HH (zls_set (x := zR x) LL (fun j hj v hv => by (obtain rfl : j = 6 := (by omega)); exact zok_spec hz hv) h')

theorem wa_iinc7 {a0 a1 a2 a3 a4 a5 a6 : Option zV} {T : List (Option zV)} {x k : Int} (hd : decode μ.2.1 pc = .ok (.iinc 7 k, 3)) (hn : 7 < μ.2.2.1) (hz : zok a6 = true) (kk : Wa X μ R Z ce sl n S (pc + 3) (a0 :: a1 :: a2 :: a3 :: a4 :: a5 :: a6 :: some (zI (x + k)) :: T) st Rf V) : Wa X μ R Z ce sl n S (pc) (a0 :: a1 :: a2 :: a3 :: a4 :: a5 :: a6 :: some (zI x) :: T) st Rf V := by
  intro p l e s m args below meth c D cy base b H locs ls C HH LL
  have hm : (7, zu base b (zI x)) ∈ zlv base b (a0 :: a1 :: a2 :: a3 :: a4 :: a5 :: a6 :: some (zI x) :: T) μ.2.2.1 := zlv_mem.mpr ⟨7, zI x, hn, rfl, rfl⟩
  obtain ⟨q, hq⟩ := List.getElem?_of_mem hm
  refine lv_iinc C.1 C.2.1 hd (zls_has LL) hq (Int32.ofInt_add x k).symm hn rfl (fun ls' h' => ?_)
  exact kk p l e s m args below meth c D cy base b H locs ls' C HH (zls_set (x := zI (x + k)) LL (fun j hj v hv => by (obtain rfl : j = 6 := (by omega)); exact zok_spec hz hv) h')

theorem wa_ist8 {a0 a1 a2 a3 a4 a5 a6 a7 o : Option zV} {T : List (Option zV)} {x : Int} (hd : decode μ.2.1 pc = .ok (.istore 8, 2)) (hn : 8 < μ.2.2.1) (hz : zok a7 = true) (kk : Wa X μ R Z ce sl n S (pc + 2) (a0 :: a1 :: a2 :: a3 :: a4 :: a5 :: a6 :: a7 :: some (zI x) :: T) st Rf V) : Wa X μ R Z ce sl n S (pc) (a0 :: a1 :: a2 :: a3 :: a4 :: a5 :: a6 :: a7 :: o :: T) (zI x :: st) Rf V := by
  intro p l e s m args below meth c D cy base b H locs ls C HH LL
  refine lv_istore C.1 C.2.1 hd (zls_has LL) hn rfl (fun ls' h' => ?_)
  exact kk p l e s m args below meth c D cy base b H locs ls' C HH (zls_set (x := zI x) LL (fun j hj v hv => by (obtain rfl : j = 7 := (by omega)); exact zok_spec hz hv) h')

theorem wa_ast8 {a0 a1 a2 a3 a4 a5 a6 a7 o : Option zV} {T : List (Option zV)} {x : Nat} (hd : decode μ.2.1 pc = .ok (.astore 8, 2)) (hn : 8 < μ.2.2.1) (hz : zok a7 = true) (kk : Wa X μ R Z ce sl n S (pc + 2) (a0 :: a1 :: a2 :: a3 :: a4 :: a5 :: a6 :: a7 :: some (zR x) :: T) st Rf V) : Wa X μ R Z ce sl n S (pc) (a0 :: a1 :: a2 :: a3 :: a4 :: a5 :: a6 :: a7 :: o :: T) (zR x :: st) Rf V := by
  intro p l e s m args below meth c D cy base b H locs ls C HH LL
  refine lv_astore C.1 C.2.1 hd (zls_has LL) hn rfl (fun ls' h' => ?_)
  exact kk p l e s m args below meth c D cy base b H locs ls' C HH (zls_set (x := zR x) LL (fun j hj v hv => by (obtain rfl : j = 7 := (by omega)); exact zok_spec hz hv) h')

theorem wa_iinc8 {a0 a1 a2 a3 a4 a5 a6 a7 : Option zV} {T : List (Option zV)} {x k : Int} (hd : decode μ.2.1 pc = .ok (.iinc 8 k, 3)) (hn : 8 < μ.2.2.1) (hz : zok a7 = true) (kk : Wa X μ R Z ce sl n S (pc + 3) (a0 :: a1 :: a2 :: a3 :: a4 :: a5 :: a6 :: a7 :: some (zI (x + k)) :: T) st Rf V) : Wa X μ R Z ce sl n S (pc) (a0 :: a1 :: a2 :: a3 :: a4 :: a5 :: a6 :: a7 :: some (zI x) :: T) st Rf V := by
  intro p l e s m args below meth c D cy base b H locs ls C HH LL
  have hm : (8, zu base b (zI x)) ∈ zlv base b (a0 :: a1 :: a2 :: a3 :: a4 :: a5 :: a6 :: a7 :: some (zI x) :: T) μ.2.2.1 := zlv_mem.mpr ⟨8, zI x, hn, rfl, rfl⟩
  obtain ⟨q, hq⟩ := List.getElem?_of_mem hm
  refine lv_iinc C.1 C.2.1 hd (zls_has LL) hq (Int32.ofInt_add x k).symm hn rfl (fun ls' h' => ?_)
  exact kk p l e s m args below meth c D cy base b H locs ls' C HH (zls_set (x := zI (x + k)) LL (fun j hj v hv => by (obtain rfl : j = 7 := (by omega)); exact zok_spec hz hv) h')

theorem wa_ist9 {a0 a1 a2 a3 a4 a5 a6 a7 a8 o : Option zV} {T : List (Option zV)} {x : Int} (hd : decode μ.2.1 pc = .ok (.istore 9, 2)) (hn : 9 < μ.2.2.1) (hz : zok a8 = true) (kk : Wa X μ R Z ce sl n S (pc + 2) (a0 :: a1 :: a2 :: a3 :: a4 :: a5 :: a6 :: a7 :: a8 :: some (zI x) :: T) st Rf V) : Wa X μ R Z ce sl n S (pc) (a0 :: a1 :: a2 :: a3 :: a4 :: a5 :: a6 :: a7 :: a8 :: o :: T) (zI x :: st) Rf V := by
  intro p l e s m args below meth c D cy base b H locs ls C HH LL
  refine lv_istore C.1 C.2.1 hd (zls_has LL) hn rfl (fun ls' h' => ?_)
  exact kk p l e s m args below meth c D cy base b H locs ls' C HH (zls_set (x := zI x) LL (fun j hj v hv => by (obtain rfl : j = 8 := (by omega)); exact zok_spec hz hv) h')

theorem wa_ast9 {a0 a1 a2 a3 a4 a5 a6 a7 a8 o : Option zV} {T : List (Option zV)} {x : Nat} (hd : decode μ.2.1 pc = .ok (.astore 9, 2)) (hn : 9 < μ.2.2.1) (hz : zok a8 = true) (kk : Wa X μ R Z ce sl n S (pc + 2) (a0 :: a1 :: a2 :: a3 :: a4 :: a5 :: a6 :: a7 :: a8 :: some (zR x) :: T) st Rf V) : Wa X μ R Z ce sl n S (pc) (a0 :: a1 :: a2 :: a3 :: a4 :: a5 :: a6 :: a7 :: a8 :: o :: T) (zR x :: st) Rf V := by
  intro p l e s m args below meth c D cy base b H locs ls C HH LL
  refine lv_astore C.1 C.2.1 hd (zls_has LL) hn rfl (fun ls' h' => ?_)
  exact kk p l e s m args below meth c D cy base b H locs ls' C HH (zls_set (x := zR x) LL (fun j hj v hv => by (obtain rfl : j = 8 := (by omega)); exact zok_spec hz hv) h')

theorem wa_iinc9 {a0 a1 a2 a3 a4 a5 a6 a7 a8 : Option zV} {T : List (Option zV)} {x k : Int} (hd : decode μ.2.1 pc = .ok (.iinc 9 k, 3)) (hn : 9 < μ.2.2.1) (hz : zok a8 = true) (kk : Wa X μ R Z ce sl n S (pc + 3) (a0 :: a1 :: a2 :: a3 :: a4 :: a5 :: a6 :: a7 :: a8 :: some (zI (x + k)) :: T) st Rf V) : Wa X μ R Z ce sl n S (pc) (a0 :: a1 :: a2 :: a3 :: a4 :: a5 :: a6 :: a7 :: a8 :: some (zI x) :: T) st Rf V := by
  intro p l e s m args below meth c D cy base b H locs ls C HH LL
  have hm : (9, zu base b (zI x)) ∈ zlv base b (a0 :: a1 :: a2 :: a3 :: a4 :: a5 :: a6 :: a7 :: a8 :: some (zI x) :: T) μ.2.2.1 := zlv_mem.mpr ⟨9, zI x, hn, rfl, rfl⟩
  obtain ⟨q, hq⟩ := List.getElem?_of_mem hm
  refine lv_iinc C.1 C.2.1 hd (zls_has LL) hq (Int32.ofInt_add x k).symm hn rfl (fun ls' h' => ?_)
  exact kk p l e s m args below meth c D cy base b H locs ls' C HH (zls_set (x := zI (x + k)) LL (fun j hj v hv => by (obtain rfl : j = 8 := (by omega)); exact zok_spec hz hv) h')

theorem wa_ist10 {a0 a1 a2 a3 a4 a5 a6 a7 a8 a9 o : Option zV} {T : List (Option zV)} {x : Int} (hd : decode μ.2.1 pc = .ok (.istore 10, 2)) (hn : 10 < μ.2.2.1) (hz : zok a9 = true) (kk : Wa X μ R Z ce sl n S (pc + 2) (a0 :: a1 :: a2 :: a3 :: a4 :: a5 :: a6 :: a7 :: a8 :: a9 :: some (zI x) :: T) st Rf V) : Wa X μ R Z ce sl n S (pc) (a0 :: a1 :: a2 :: a3 :: a4 :: a5 :: a6 :: a7 :: a8 :: a9 :: o :: T) (zI x :: st) Rf V := by
  intro p l e s m args below meth c D cy base b H locs ls C HH LL
  refine lv_istore C.1 C.2.1 hd (zls_has LL) hn rfl (fun ls' h' => ?_)
  exact kk p l e s m args below meth c D cy base b H locs ls' C HH (zls_set (x := zI x) LL (fun j hj v hv => by (obtain rfl : j = 9 := (by omega)); exact zok_spec hz hv) h')

theorem wa_ast10 {a0 a1 a2 a3 a4 a5 a6 a7 a8 a9 o : Option zV} {T : List (Option zV)} {x : Nat} (hd : decode μ.2.1 pc = .ok (.astore 10, 2)) (hn : 10 < μ.2.2.1) (hz : zok a9 = true) (kk : Wa X μ R Z ce sl n S (pc + 2) (a0 :: a1 :: a2 :: a3 :: a4 :: a5 :: a6 :: a7 :: a8 :: a9 :: some (zR x) :: T) st Rf V) : Wa X μ R Z ce sl n S (pc) (a0 :: a1 :: a2 :: a3 :: a4 :: a5 :: a6 :: a7 :: a8 :: a9 :: o :: T) (zR x :: st) Rf V := by
  intro p l e s m args below meth c D cy base b H locs ls C HH LL
  refine lv_astore C.1 C.2.1 hd (zls_has LL) hn rfl (fun ls' h' => ?_)
  exact kk p l e s m args below meth c D cy base b H locs ls' C HH (zls_set (x := zR x) LL (fun j hj v hv => by (obtain rfl : j = 9 := (by omega)); exact zok_spec hz hv) h')

theorem wa_iinc10 {a0 a1 a2 a3 a4 a5 a6 a7 a8 a9 : Option zV} {T : List (Option zV)} {x k : Int} (hd : decode μ.2.1 pc = .ok (.iinc 10 k, 3)) (hn : 10 < μ.2.2.1) (hz : zok a9 = true) (kk : Wa X μ R Z ce sl n S (pc + 3) (a0 :: a1 :: a2 :: a3 :: a4 :: a5 :: a6 :: a7 :: a8 :: a9 :: some (zI (x + k)) :: T) st Rf V) : Wa X μ R Z ce sl n S (pc) (a0 :: a1 :: a2 :: a3 :: a4 :: a5 :: a6 :: a7 :: a8 :: a9 :: some (zI x) :: T) st Rf V := by
  intro p l e s m args below meth c D cy base b H locs ls C HH LL
  have hm : (10, zu base b (zI x)) ∈ zlv base b (a0 :: a1 :: a2 :: a3 :: a4 :: a5 :: a6 :: a7 :: a8 :: a9 :: some (zI x) :: T) μ.2.2.1 := zlv_mem.mpr ⟨10, zI x, hn, rfl, rfl⟩
  obtain ⟨q, hq⟩ := List.getElem?_of_mem hm
  refine lv_iinc C.1 C.2.1 hd (zls_has LL) hq (Int32.ofInt_add x k).symm hn rfl (fun ls' h' => ?_)
  exact kk p l e s m args below meth c D cy base b H locs ls' C HH (zls_set (x := zI (x + k)) LL (fun j hj v hv => by (obtain rfl : j = 9 := (by omega)); exact zok_spec hz hv) h')

theorem wa_ist11 {a0 a1 a2 a3 a4 a5 a6 a7 a8 a9 a10 o : Option zV} {T : List (Option zV)} {x : Int} (hd : decode μ.2.1 pc = .ok (.istore 11, 2)) (hn : 11 < μ.2.2.1) (hz : zok a10 = true) (kk : Wa X μ R Z ce sl n S (pc + 2) (a0 :: a1 :: a2 :: a3 :: a4 :: a5 :: a6 :: a7 :: a8 :: a9 :: a10 :: some (zI x) :: T) st Rf V) : Wa X μ R Z ce sl n S (pc) (a0 :: a1 :: a2 :: a3 :: a4 :: a5 :: a6 :: a7 :: a8 :: a9 :: a10 :: o :: T) (zI x :: st) Rf V := by
  intro p l e s m args below meth c D cy base b H locs ls C HH LL
  refine lv_istore C.1 C.2.1 hd (zls_has LL) hn rfl (fun ls' h' => ?_)
  exact kk p l e s m args below meth c D cy base b H locs ls' C HH (zls_set (x := zI x) LL (fun j hj v hv => by (obtain rfl : j = 10 := (by omega)); exact zok_spec hz hv) h')

theorem wa_ast11 {a0 a1 a2 a3 a4 a5 a6 a7 a8 a9 a10 o : Option zV} {T : List (Option zV)} {x : Nat} (hd : decode μ.2.1 pc = .ok (.astore 11, 2)) (hn : 11 < μ.2.2.1) (hz : zok a10 = true) (kk : Wa X μ R Z ce sl n S (pc + 2) (a0 :: a1 :: a2 :: a3 :: a4 :: a5 :: a6 :: a7 :: a8 :: a9 :: a10 :: some (zR x) :: T) st Rf V) : Wa X μ R Z ce sl n S (pc) (a0 :: a1 :: a2 :: a3 :: a4 :: a5 :: a6 :: a7 :: a8 :: a9 :: a10 :: o :: T) (zR x :: st) Rf V := by
  intro p l e s m args below meth c D cy base b H locs ls C HH LL
  refine lv_astore C.1 C.2.1 hd (zls_has LL) hn rfl (fun ls' h' => ?_)
  exact kk p l e s m args below meth c D cy base b H locs ls' C HH (zls_set (x := zR x) LL (fun j hj v hv => by (obtain rfl : j = 10 := (by omega)); exact zok_spec hz hv) h')

theorem wa_iinc11 {a0 a1 a2 a3 a4 a5 a6 a7 a8 a9 a10 : Option zV} {T : List (Option zV)} {x k : Int} (hd : decode μ.2.1 pc = .ok (.iinc 11 k, 3)) (hn : 11 < μ.2.2.1) (hz : zok a10 = true) (kk : Wa X μ R Z ce sl n S (pc + 3) (a0 :: a1 :: a2 :: a3 :: a4 :: a5 :: a6 :: a7 :: a8 :: a9 :: a10 :: some (zI (x + k)) :: T) st Rf V) : Wa X μ R Z ce sl n S (pc) (a0 :: a1 :: a2 :: a3 :: a4 :: a5 :: a6 :: a7 :: a8 :: a9 :: a10 :: some (zI x) :: T) st Rf V := by
  intro p l e s m args below meth c D cy base b H locs ls C HH LL
  have hm : (11, zu base b (zI x)) ∈ zlv base b (a0 :: a1 :: a2 :: a3 :: a4 :: a5 :: a6 :: a7 :: a8 :: a9 :: a10 :: some (zI x) :: T) μ.2.2.1 := zlv_mem.mpr ⟨11, zI x, hn, rfl, rfl⟩
  obtain ⟨q, hq⟩ := List.getElem?_of_mem hm
  refine lv_iinc C.1 C.2.1 hd (zls_has LL) hq (Int32.ofInt_add x k).symm hn rfl (fun ls' h' => ?_)
  exact kk p l e s m args below meth c D cy base b H locs ls' C HH (zls_set (x := zI (x + k)) LL (fun j hj v hv => by (obtain rfl : j = 10 := (by omega)); exact zok_spec hz hv) h')

theorem wa_lst0 {o o2 : Option zV} {T : List (Option zV)} {x : Int} (hd : decode μ.2.1 pc = .ok (.lstore_n 0, 1)) (hn : 0 + 1 < μ.2.2.1)  (kk : Wa X μ R Z ce sl n S (pc + 1) (some (zL x) :: none :: T) st Rf V) : Wa X μ R Z ce sl n S (pc) (o :: o2 :: T) (zL x :: st) Rf V := by
  intro p l e s m args below meth c D cy base b H locs ls C HH LL
  refine lv_lstore_n C.1 C.2.1 hd rfl (zls_has LL) hn rfl (fun ls' h' => ?_)
  exact kk p l e s m args below meth c D cy base b H locs ls' C HH (zls_setL (x := x) LL (fun j hj => by omega) h')

theorem wa_lst1 {a0 o o2 : Option zV} {T : List (Option zV)} {x : Int} (hd : decode μ.2.1 pc = .ok (.lstore_n 1, 1)) (hn : 1 + 1 < μ.2.2.1) (hz : zok a0 = true) (kk : Wa X μ R Z ce sl n S (pc + 1) (a0 :: some (zL x) :: none :: T) st Rf V) : Wa X μ R Z ce sl n S (pc) (a0 :: o :: o2 :: T) (zL x :: st) Rf V := by
  intro p l e s m args below meth c D cy base b H locs ls C HH LL
  refine lv_lstore_n C.1 C.2.1 hd rfl (zls_has LL) hn rfl (fun ls' h' => ?_)
  exact kk p l e s m args below meth c D cy base b H locs ls' C HH (zls_setL (x := x) LL (fun j hj v hv => by (obtain rfl : j = 0 := (by omega)); exact zok_spec hz hv) h')

theorem wa_lst2 {a0 a1 o o2 : Option zV} {T : List (Option zV)} {x : Int} (hd : decode μ.2.1 pc = .ok (.lstore_n 2, 1)) (hn : 2 + 1 < μ.2.2.1) (hz : zok a1 = true) (kk : Wa X μ R Z ce sl n S (pc + 1) (a0 :: a1 :: some (zL x) :: none :: T) st Rf V) : Wa X μ R Z ce sl n S (pc) (a0 :: a1 :: o :: o2 :: T) (zL x :: st) Rf V := by
  intro p l e s m args below meth c D cy base b H locs ls C HH LL
  refine lv_lstore_n C.1 C.2.1 hd rfl (zls_has LL) hn rfl (fun ls' h' => ?_)
  exact kk p l e s m args below meth c D cy base b H locs ls' C HH (zls_setL (x := x) LL (fun j hj v hv => by (obtain rfl : j = 1 := (by omega)); exact zok_spec hz hv) h')

theorem wa_lst3 {a0 a1 a2 o o2 : Option zV} {T : List (Option zV)} {x : Int} (hd : decode μ.2.1 pc = .ok (.lstore_n 3, 1)) (hn : 3 + 1 < μ.2.2.1) (hz : zok a2 = true) (kk : Wa X μ R Z ce sl n S (pc + 1) (a0 :: a1 :: a2 :: some (zL x) :: none :: T) st Rf V) : Wa X μ R Z ce sl n S (pc) (a0 :: a1 :: a2 :: o :: o2 :: T) (zL x :: st) Rf V := by
  intro p l e s m args below meth c D cy base b H locs ls C HH LL
  refine lv_lstore_n C.1 C.2.1 hd rfl (zls_has LL) hn rfl (fun ls' h' => ?_)
  exact kk p l e s m args below meth c D cy base b H locs ls' C HH (zls_setL (x := x) LL (fun j hj v hv => by (obtain rfl : j = 2 := (by omega)); exact zok_spec hz hv) h')

theorem wa_lst4 {a0 a1 a2 a3 o o2 : Option zV} {T : List (Option zV)} {x : Int} (hd : decode μ.2.1 pc = .ok (.lstore 4, 2)) (hn : 4 + 1 < μ.2.2.1) (hz : zok a3 = true) (kk : Wa X μ R Z ce sl n S (pc + 2) (a0 :: a1 :: a2 :: a3 :: some (zL x) :: none :: T) st Rf V) : Wa X μ R Z ce sl n S (pc) (a0 :: a1 :: a2 :: a3 :: o :: o2 :: T) (zL x :: st) Rf V := by
  intro p l e s m args below meth c D cy base b H locs ls C HH LL
  refine lv_lstore C.1 C.2.1 hd (zls_has LL) hn rfl (fun ls' h' => ?_)
  exact kk p l e s m args below meth c D cy base b H locs ls' C HH (zls_setL (x := x) LL (fun j hj v hv => by (obtain rfl : j = 3 := (by omega)); exact zok_spec hz hv) h')

theorem wa_lst5 {a0 a1 a2 a3 a4 o o2 : Option zV} {T : List (Option zV)} {x : Int} (hd : decode μ.2.1 pc = .ok (.lstore 5, 2)) (hn : 5 + 1 < μ.2.2.1) (hz : zok a4 = true) (kk : Wa X μ R Z ce sl n S (pc + 2) (a0 :: a1 :: a2 :: a3 :: a4 :: some (zL x) :: none :: T) st Rf V) : Wa X μ R Z ce sl n S (pc) (a0 :: a1 :: a2 :: a3 :: a4 :: o :: o2 :: T) (zL x :: st) Rf V := by
  intro p l e s m args below meth c D cy base b H locs ls C HH LL
  refine lv_lstore C.1 C.2.1 hd (zls_has LL) hn rfl (fun ls' h' => ?_)
  exact kk p l e s m args below meth c D cy base b H locs ls' C HH (zls_setL (x := x) LL (fun j hj v hv => by (obtain rfl : j = 4 := (by omega)); exact zok_spec hz hv) h')

theorem wa_lst6 {a0 a1 a2 a3 a4 a5 o o2 : Option zV} {T : List (Option zV)} {x : Int} (hd : decode μ.2.1 pc = .ok (.lstore 6, 2)) (hn : 6 + 1 < μ.2.2.1) (hz : zok a5 = true) (kk : Wa X μ R Z ce sl n S (pc + 2) (a0 :: a1 :: a2 :: a3 :: a4 :: a5 :: some (zL x) :: none :: T) st Rf V) : Wa X μ R Z ce sl n S (pc) (a0 :: a1 :: a2 :: a3 :: a4 :: a5 :: o :: o2 :: T) (zL x :: st) Rf V := by
  intro p l e s m args below meth c D cy base b H locs ls C HH LL
  refine lv_lstore C.1 C.2.1 hd (zls_has LL) hn rfl (fun ls' h' => ?_)
  exact kk p l e s m args below meth c D cy base b H locs ls' C HH (zls_setL (x := x) LL (fun j hj v hv => by (obtain rfl : j = 5 := (by omega)); exact zok_spec hz hv) h')

theorem wa_lst7 {a0 a1 a2 a3 a4 a5 a6 o o2 : Option zV} {T : List (Option zV)} {x : Int} (hd : decode μ.2.1 pc = .ok (.lstore 7, 2)) (hn : 7 + 1 < μ.2.2.1) (hz : zok a6 = true) (kk : Wa X μ R Z ce sl n S (pc + 2) (a0 :: a1 :: a2 :: a3 :: a4 :: a5 :: a6 :: some (zL x) :: none :: T) st Rf V) : Wa X μ R Z ce sl n S (pc) (a0 :: a1 :: a2 :: a3 :: a4 :: a5 :: a6 :: o :: o2 :: T) (zL x :: st) Rf V := by
  intro p l e s m args below meth c D cy base b H locs ls C HH LL
  refine lv_lstore C.1 C.2.1 hd (zls_has LL) hn rfl (fun ls' h' => ?_)
  exact kk p l e s m args below meth c D cy base b H locs ls' C HH (zls_setL (x := x) LL (fun j hj v hv => by (obtain rfl : j = 6 := (by omega)); exact zok_spec hz hv) h')

theorem wa_lst8 {a0 a1 a2 a3 a4 a5 a6 a7 o o2 : Option zV} {T : List (Option zV)} {x : Int} (hd : decode μ.2.1 pc = .ok (.lstore 8, 2)) (hn : 8 + 1 < μ.2.2.1) (hz : zok a7 = true) (kk : Wa X μ R Z ce sl n S (pc + 2) (a0 :: a1 :: a2 :: a3 :: a4 :: a5 :: a6 :: a7 :: some (zL x) :: none :: T) st Rf V) : Wa X μ R Z ce sl n S (pc) (a0 :: a1 :: a2 :: a3 :: a4 :: a5 :: a6 :: a7 :: o :: o2 :: T) (zL x :: st) Rf V := by
  intro p l e s m args below meth c D cy base b H locs ls C HH LL
  refine lv_lstore C.1 C.2.1 hd (zls_has LL) hn rfl (fun ls' h' => ?_)
  exact kk p l e s m args below meth c D cy base b H locs ls' C HH (zls_setL (x := x) LL (fun j hj v hv => by (obtain rfl : j = 7 := (by omega)); exact zok_spec hz hv) h')

theorem wa_lst9 {a0 a1 a2 a3 a4 a5 a6 a7 a8 o o2 : Option zV} {T : List (Option zV)} {x : Int} (hd : decode μ.2.1 pc = .ok (.lstore 9, 2)) (hn : 9 + 1 < μ.2.2.1) (hz : zok a8 = true) (kk : Wa X μ R Z ce sl n S (pc + 2) (a0 :: a1 :: a2 :: a3 :: a4 :: a5 :: a6 :: a7 :: a8 :: some (zL x) :: none :: T) st Rf V) : Wa X μ R Z ce sl n S (pc) (a0 :: a1 :: a2 :: a3 :: a4 :: a5 :: a6 :: a7 :: a8 :: o :: o2 :: T) (zL x :: st) Rf V := by
  intro p l e s m args below meth c D cy base b H locs ls C HH LL
  refine lv_lstore C.1 C.2.1 hd (zls_has LL) hn rfl (fun ls' h' => ?_)
  exact kk p l e s m args below meth c D cy base b H locs ls' C HH (zls_setL (x := x) LL (fun j hj v hv => by (obtain rfl : j = 8 := (by omega)); exact zok_spec hz hv) h')

theorem wa_lst10 {a0 a1 a2 a3 a4 a5 a6 a7 a8 a9 o o2 : Option zV} {T : List (Option zV)} {x : Int} (hd : decode μ.2.1 pc = .ok (.lstore 10, 2)) (hn : 10 + 1 < μ.2.2.1) (hz : zok a9 = true) (kk : Wa X μ R Z ce sl n S (pc + 2) (a0 :: a1 :: a2 :: a3 :: a4 :: a5 :: a6 :: a7 :: a8 :: a9 :: some (zL x) :: none :: T) st Rf V) : Wa X μ R Z ce sl n S (pc) (a0 :: a1 :: a2 :: a3 :: a4 :: a5 :: a6 :: a7 :: a8 :: a9 :: o :: o2 :: T) (zL x :: st) Rf V := by
  intro p l e s m args below meth c D cy base b H locs ls C HH LL
  refine lv_lstore C.1 C.2.1 hd (zls_has LL) hn rfl (fun ls' h' => ?_)
  exact kk p l e s m args below meth c D cy base b H locs ls' C HH (zls_setL (x := x) LL (fun j hj v hv => by (obtain rfl : j = 9 := (by omega)); exact zok_spec hz hv) h')

theorem wa_weak {L' : List (Option zV)} (h : ∀ (i : Nat) (v : zV), L'[i]? = some (some v) → L[i]? = some (some v)) (kk : Wa X μ R Z ce sl n S (pc) L' st Rf V) : Wa X μ R Z ce sl n S (pc) L st Rf V := by
  intro p l e s m args below meth c D cy base b H locs ls C HH LL
  exact kk p l e s m args below meth c D cy base b H locs ls C HH ⟨LL.1, LL.2.1, fun i v hv => LL.2.2 i v (h i v hv)⟩
theorem wa_eqV {V' : zE} (h : V = V') (kk : Wa X μ R Z ce sl n S (pc) L st Rf V') : Wa X μ R Z ce sl n S (pc) L st Rf V := h ▸ kk
theorem wa_eqS {st' : List zV} (h : st = st') (kk : Wa X μ R Z ce sl n S (pc) L st' Rf V) : Wa X μ R Z ce sl n S (pc) L st Rf V := h ▸ kk
theorem wa_eqL {L' : List (Option zV)} (h : L = L') (kk : Wa X μ R Z ce sl n S (pc) L' st Rf V) : Wa X μ R Z ce sl n S (pc) L st Rf V := h ▸ kk
/-- another picture of the same cells -/
theorem wa_cells {Rf' : zG} {V' : zE} (h : ∀ (cy : zY) (base k : Nat), k < n → zc cy base (S k) (Rf k) (V k) = zc cy base (S k) (Rf' k) (V' k)) (kk : Wa X μ R Z ce sl n S (pc) L st Rf' V') : Wa X μ R Z ce sl n S (pc) L st Rf V := by
  intro p l e s m args below meth c D cy base b H locs ls C HH LL
  refine kk p l e s m args below meth c D cy base b H locs ls C ⟨?_, HH.2⟩ LL
  rw [show zw cy base n S Rf' V' = zw cy base n S Rf V from List.map_congr_left (fun k hk => by rw [h cy base k (List.mem_range.mp hk)])]
  exact HH.1

end
end
section
/-! rows on cells: fields, arrays, makings, ends, calls -/
theorem zsize {p : Program} {l : Launch} {e : Env} {R : Room} {s : State} {m : MethodId} {args : Array Value} {below : List Frame} {meth : Method} {c : Code} {T : State} {locs : List Loc} {ce sl : Nat} {D : va_G} {cy : zY} {base n : Nat} {S : zH} {Rf : zG} {V : zE} (X : Stand p l e R s m args below meth c T locs ce sl) (HH : zHp D cy base n S Rf V T.heap s locs ce) (hb : base ≤ s.heap.size) : T.heap.size = base + n := by
  have h1 := X.heapSize
  have h2 := HH.2.1
  rcases Nat.eq_zero_or_pos n with h0 | h0
  · have := HH.2.2.1.1; omega
  · have := (HH.1 (n - 1) _ (zw_at (by omega))).lt
    dsimp only at this; omega
section
variable {X : zXt} {μ : zM} {R : Room} {Z : zZt} {ce sl n : Nat} {S : zH} {pc : Nat} {L : List (Option zV)} {st : List zV} {Rf : zG} {V : zE}
theorem zin {D : va_G} {cy : zY} {base k : Nat} {H : Heap} {s : State} {locs : List Loc} {sh : zS} (HH : zHp D cy base n S Rf V H s locs ce) (hS : S k = some sh) : k < n := HH.2.2.2 k (by rw [hS]; exact fun h => by cases h)
theorem wa_getI {idx k j ci N : Nat} {ref Cn : String} {T : u_T} (hd : decode μ.2.1 pc = .ok (.getfield idx, 3)) (hl : Cond.fieldLink μ.1.cls idx ref (T j).2.1 (T j).2.2.1 ∈ lw_ok) (hr : (T j).1 = ref) (hin : ∀ w ∈ u_ws Cn T N, w ∈ lw_ok) (hc : vwCl[ci]? = some (Cn, T, N)) (hN : zNf ci = N) (hj : j < N)
    (hty : ∀ base r x, zf base ci j r x = .int (Int32.ofInt x)) (hS : S k = some (.inr ci)) (kk : Wa X μ R Z ce sl n S (pc + 3) L (zI (V k j) :: st) Rf V) : Wa X μ R Z ce sl n S pc L (zR k :: st) Rf V := by
  intro p l e s m args below meth c D cy base b H locs ls C HH LL
  have hk := zin HH hS
  have he : (zw cy base n S Rf V)[k]? = some (base + k, .inr (ci, (List.range (zNf ci)).map (fun j => zf base ci j (Rf k j) (V k j)))) := by rw [zw_at hk, hS]; rfl
  exact va_get (v := .int (Int32.ofInt (V k j))) C.1 C.2.1 C.2.2.2.2.2.1 hin C.2.2.2.2.1 C.2.2.2.2.2.2.2.1 HH.1 k he hc j hj (C.2.2.2.2.2.1 _ hl) (fun x h => by rw [← hr]; exact h) (by simp [hN, hj, hty]) hd (kk p l e s m args below meth c D cy base b H locs ls C HH LL)
theorem wa_getO {idx k j ci N : Nat} {ref Cn : String} {T : u_T} (hd : decode μ.2.1 pc = .ok (.getfield idx, 3)) (hl : Cond.fieldLink μ.1.cls idx ref (T j).2.1 (T j).2.2.1 ∈ lw_ok) (hr : (T j).1 = ref) (hin : ∀ w ∈ u_ws Cn T N, w ∈ lw_ok) (hc : vwCl[ci]? = some (Cn, T, N)) (hN : zNf ci = N) (hj : j < N)
    (hty : ∀ base r x, zf base ci j r x = va_rf (r.map (fun k => base + k))) (hS : S k = some (.inr ci)) {a : Option Nat} (ha : Rf k j = a) (kk : Wa X μ R Z ce sl n S (pc + 3) L (zO a :: st) Rf V) : Wa X μ R Z ce sl n S pc L (zR k :: st) Rf V := by
  subst ha
  intro p l e s m args below meth c D cy base b H locs ls C HH LL
  have hk := zin HH hS
  have he : (zw cy base n S Rf V)[k]? = some (base + k, .inr (ci, (List.range (zNf ci)).map (fun j => zf base ci j (Rf k j) (V k j)))) := by rw [zw_at hk, hS]; rfl
  exact va_get (v := va_rf ((Rf k j).map (fun k => base + k))) C.1 C.2.1 C.2.2.2.2.2.1 hin C.2.2.2.2.1 C.2.2.2.2.2.2.2.1 HH.1 k he hc j hj (C.2.2.2.2.2.1 _ hl) (fun x h => by rw [← hr]; exact h) (by simp [hN, hj, hty]) hd (kk p l e s m args below meth c D cy base b H locs ls C HH LL)
theorem zcI {cy : zY} {base ci k j : Nat} {x : Int} (hS : S k = some (.inr ci)) (hty : ∀ base r x, zf base ci j r x = .int (Int32.ofInt x)) : zc cy base (S k) (Rf k) (zp V k (za (V k) j x) k) = .inr (ci, ((List.range (zNf ci)).map (fun j => zf base ci j (Rf k j) (V k j))).set j (.int (Int32.ofInt x))) := by
  rw [hS, zp_s, zmap_set (g' := fun i => zf base ci i (Rf k i) (za (V k) j x i)) (by rw [hty, za_s]) (fun i hi => by rw [za_n _ _ hi])]
  rfl
theorem zcO {cy : zY} {base ci k j : Nat} {r : Option Nat} (hS : S k = some (.inr ci)) (hty : ∀ base r x, zf base ci j r x = va_rf (r.map (fun k => base + k))) : zc cy base (S k) (zp Rf k (za (Rf k) j r) k) (V k) = .inr (ci, ((List.range (zNf ci)).map (fun j => zf base ci j (Rf k j) (V k j))).set j (va_rf (r.map (fun k => base + k)))) := by
  rw [hS, zp_s, zmap_set (g' := fun i => zf base ci i (za (Rf k) j r i) (V k i)) (by rw [hty, za_s]) (fun i hi => by rw [za_n _ _ hi])]
  rfl
theorem wa_putI {idx k j ci N : Nat} {ref Cn : String} {T : u_T} {ty0 : Nat → FieldType} {x : Int} (hd : decode μ.2.1 pc = .ok (.putfield idx, 3)) (hl : Cond.fieldLink μ.1.cls idx ref (T j).2.1 (T j).2.2.1 ∈ lw_ok) (hr : (T j).1 = ref) (hin : ∀ w ∈ u_ws Cn T N, w ∈ lw_ok) (hc : vwCl[ci]? = some (Cn, T, N)) (hN : zNf ci = N) (hj : j < N)
    (hty0 : ∀ k, k < N → parseFieldDescriptor (T k).2.2.1 = some (ty0 k)) (hnm : ∀ a, a < N → ∀ b, b < N → a ≠ b → (T a).2.1 ≠ (T b).2.1) (hfin : (T j).2.2.2 = false) (hpd : parseFieldDescriptor (T j).2.2.1 = some .int)
    (hty : ∀ base r x, zf base ci j r x = .int (Int32.ofInt x)) (hS : S k = some (.inr ci)) (kk : Wa X μ R Z ce sl n S (pc + 3) L st Rf (zp V k (za (V k) j x))) : Wa X μ R Z ce sl n S pc L (zI x :: zR k :: st) Rf V := by
  intro p l e s m args below meth c D cy base b H locs ls C HH LL
  have hk := zin HH hS
  have he : (zw cy base n S Rf V)[k]? = some (base + k, .inr (ci, (List.range (zNf ci)).map (fun j => zf base ci j (Rf k j) (V k j)))) := by rw [zw_at hk, hS]; rfl
  refine va_put (v := .int (Int32.ofInt x)) (ty := .int) C.1 C.2.1 C.2.2.2.2.2.1 hin ty0 hty0 hnm C.2.2.2.2.1 C.2.2.2.2.2.2.2.1 HH.1 zw_D HH.2.2.1 k he hc j hj (C.2.2.2.2.2.1 _ hl) (fun x h => by rw [← hr]; exact h) hfin hpd rfl rfl (by simp [hN, hj]) hd (fun H1 locs1 hP _ hS1 => ?_)
  rw [zw_set (Rf' := Rf) (V' := zp V k (za (V k) j x)) hk (zcI hS hty) (fun i hi => ⟨rfl, zp_n _ _ hi⟩)] at hP
  exact kk p l e s m args below meth c D cy base b H1 locs1 ls C ⟨hP, HH.2.1, hS1, HH.2.2.2⟩ LL
theorem wa_putO {idx k j ci N : Nat} {ref Cn : String} {T : u_T} {ty0 : Nat → FieldType} {ty : FieldType} {r : Option Nat} (hd : decode μ.2.1 pc = .ok (.putfield idx, 3)) (hl : Cond.fieldLink μ.1.cls idx ref (T j).2.1 (T j).2.2.1 ∈ lw_ok) (hr : (T j).1 = ref) (hin : ∀ w ∈ u_ws Cn T N, w ∈ lw_ok) (hc : vwCl[ci]? = some (Cn, T, N)) (hN : zNf ci = N) (hj : j < N)
    (hty0 : ∀ k, k < N → parseFieldDescriptor (T k).2.2.1 = some (ty0 k)) (hnm : ∀ a, a < N → ∀ b, b < N → a ≠ b → (T a).2.1 ≠ (T b).2.1) (hfin : (T j).2.2.2 = false) (hpd : parseFieldDescriptor (T j).2.2.1 = some ty) (hnar : ∀ r : Option Nat, narrow ty (va_rf r) = va_rf r ∧ fits ty (va_rf r) = true)
    (hty : ∀ base r x, zf base ci j r x = va_rf (r.map (fun k => base + k))) (hS : S k = some (.inr ci)) (kk : Wa X μ R Z ce sl n S (pc + 3) L st (zp Rf k (za (Rf k) j r)) V) : Wa X μ R Z ce sl n S pc L (zO r :: zR k :: st) Rf V := by
  intro p l e s m args below meth c D cy base b H locs ls C HH LL
  have hk := zin HH hS
  have he : (zw cy base n S Rf V)[k]? = some (base + k, .inr (ci, (List.range (zNf ci)).map (fun j => zf base ci j (Rf k j) (V k j)))) := by rw [zw_at hk, hS]; rfl
  refine va_put (v := va_rf (r.map (fun k => base + k))) (ty := ty) C.1 C.2.1 C.2.2.2.2.2.1 hin ty0 hty0 hnm C.2.2.2.2.1 C.2.2.2.2.2.2.2.1 HH.1 zw_D HH.2.2.1 k he hc j hj (C.2.2.2.2.2.1 _ hl) (fun x h => by rw [← hr]; exact h) hfin hpd (hnar _).1 (hnar _).2 (by simp [hN, hj]) hd (fun H1 locs1 hP _ hS1 => ?_)
  rw [zw_set (Rf' := zp Rf k (za (Rf k) j r)) (V' := V) hk (zcO hS hty) (fun i hi => ⟨zp_n _ _ hi, rfl⟩)] at hP
  exact kk p l e s m args below meth c D cy base b H1 locs1 ls C ⟨hP, HH.2.1, hS1, HH.2.2.2⟩ LL
theorem wa_putOF {idx k j ci N : Nat} {ref Cn : String} {T : u_T} {ty0 : Nat → FieldType} {ty : FieldType} {r : Option Nat} (hd : decode μ.2.1 pc = .ok (.putfield idx, 3)) (hl : Cond.fieldLink μ.1.cls idx ref (T j).2.1 (T j).2.2.1 ∈ lw_ok) (hr : (T j).1 = ref) (hin : ∀ w ∈ u_ws Cn T N, w ∈ lw_ok) (hc : vwCl[ci]? = some (Cn, T, N)) (hN : zNf ci = N) (hj : j < N)
    (hty0 : ∀ k, k < N → parseFieldDescriptor (T k).2.2.1 = some (ty0 k)) (hnm : ∀ a, a < N → ∀ b, b < N → a ≠ b → (T a).2.1 ≠ (T b).2.1) (hfin : (T j).2.2.2 = true) (hin2 : μ.1.name = "<init>") (hdecl : (T j).1 = μ.1.cls) (hpd : parseFieldDescriptor (T j).2.2.1 = some ty) (hnar : ∀ r : Option Nat, narrow ty (va_rf r) = va_rf r ∧ fits ty (va_rf r) = true)
    (hty : ∀ base r x, zf base ci j r x = va_rf (r.map (fun k => base + k))) (hS : S k = some (.inr ci)) (kk : Wa X μ R Z ce sl n S (pc + 3) L st (zp Rf k (za (Rf k) j r)) V) : Wa X μ R Z ce sl n S pc L (zO r :: zR k :: st) Rf V := by
  intro p l e s m args below meth c D cy base b H locs ls C HH LL
  have hk := zin HH hS
  have he : (zw cy base n S Rf V)[k]? = some (base + k, .inr (ci, (List.range (zNf ci)).map (fun j => zf base ci j (Rf k j) (V k j)))) := by rw [zw_at hk, hS]; rfl
  refine va_putF (v := va_rf (r.map (fun k => base + k))) (ty := ty) C.1 C.2.1 C.2.2.2.2.2.1 hin ty0 hty0 hnm C.2.2.2.2.1 C.2.2.2.2.2.2.2.1 HH.1 zw_D HH.2.2.1 k he hc j hj (C.2.2.2.2.2.1 _ hl) (fun x h => by rw [← hr]; exact h) hfin (C.2.2.2.2.2.2.2.2.2.1.trans hin2) hdecl hpd (hnar _).1 (hnar _).2 (by simp [hN, hj]) hd (fun H1 locs1 hP _ hS1 => ?_)
  rw [zw_set (Rf' := zp Rf k (za (Rf k) j r)) (V' := V) hk (zcO hS hty) (fun i hi => ⟨zp_n _ _ hi, rfl⟩)] at hP
  exact kk p l e s m args below meth c D cy base b H1 locs1 ls C ⟨hP, HH.2.1, hS1, HH.2.2.2⟩ LL
theorem wa_iaload {k N : Nat} {i : Int} (hd : decode μ.2.1 pc = .ok (.iaload, 1)) (hS : S k = some (.inl (0, N))) (hi : 0 ≤ i ∧ i < N) (hN : N ≤ 2147483647) (kk : Wa X μ R Z ce sl n S (pc + 1) L (zI (V k i.toNat) :: st) Rf V) : Wa X μ R Z ce sl n S pc L (zI i :: zR k :: st) Rf V := by
  intro p l e s m args below meth c D cy base b H locs ls C HH LL
  have he : (zw cy base n S Rf V)[k]? = some (base + k, .inl (cy.1, N, .inl (fun j => Int32.ofInt (V k j)))) := by rw [zw_at (zin HH hS), hS]; rfl
  refine va_iald C.1 C.2.1 C.2.2.2.2.2.2.2.1 HH.1 k 0 he rfl (zi_in hi hN) hd ?_
  rw [zi_cl (by omega)]
  exact kk p l e s m args below meth c D cy base b H locs ls C HH LL
theorem wa_baload {k N : Nat} {i : Int} (hd : decode μ.2.1 pc = .ok (.baload, 1)) (hS : S k = some (.inl (1, N))) (hi : 0 ≤ i ∧ i < N) (hN : N ≤ 2147483647) (kk : Wa X μ R Z ce sl n S (pc + 1) L (zI (V k i.toNat) :: st) Rf V) : Wa X μ R Z ce sl n S pc L (zI i :: zR k :: st) Rf V := by
  intro p l e s m args below meth c D cy base b H locs ls C HH LL
  have he : (zw cy base n S Rf V)[k]? = some (base + k, .inl (cy.2.1, N, .inl (fun j => Int32.ofInt (V k j)))) := by rw [zw_at (zin HH hS), hS]; rfl
  refine va_zald C.1 C.2.1 C.2.2.2.2.2.2.2.1 HH.1 k 1 he rfl (zi_in hi hN) hd ?_
  rw [zi_cl (by omega)]
  exact kk p l e s m args below meth c D cy base b H locs ls C HH LL
theorem wa_aaload {k N : Nat} {i : Int} {a : Option Nat} (hd : decode μ.2.1 pc = .ok (.aaload, 1)) (hS : S k = some (.inl (2, N))) (hi : 0 ≤ i ∧ i < N) (hN : N ≤ 2147483647) (ha : Rf k i.toNat = a) (kk : Wa X μ R Z ce sl n S (pc + 1) L (zO a :: st) Rf V) : Wa X μ R Z ce sl n S pc L (zI i :: zR k :: st) Rf V := by
  subst ha
  intro p l e s m args below meth c D cy base b H locs ls C HH LL
  have he : (zw cy base n S Rf V)[k]? = some (base + k, .inl (cy.2.2, N, .inr (.inr (.inr (.inr (fun j => (Rf k j).map (fun k => base + k))))))) := by rw [zw_at (zin HH hS), hS]; rfl
  refine va_aldq C.1 C.2.1 C.2.2.2.2.2.2.2.1 HH.1 k 2 he rfl (zi_in hi hN) hd ?_
  rw [zi_cl (by omega)]
  exact kk p l e s m args below meth c D cy base b H locs ls C HH LL
theorem zupd {f : Nat → Int} {i : Nat} {x : Int} : upd (fun j => Int32.ofInt (f j)) i (Int32.ofInt x) = fun j => Int32.ofInt (za f i x j) := by
  funext j
  simp only [upd, za]
  split <;> rfl
theorem wa_iastore {k N : Nat} {i x : Int} (hd : decode μ.2.1 pc = .ok (.iastore, 1)) (hS : S k = some (.inl (0, N))) (hi : 0 ≤ i ∧ i < N) (hN : N ≤ 2147483647) (kk : Wa X μ R Z ce sl n S (pc + 1) L st Rf (zp V k (za (V k) i.toNat x))) : Wa X μ R Z ce sl n S pc L (zI x :: zI i :: zR k :: st) Rf V := by
  intro p l e s m args below meth c D cy base b H locs ls C HH LL
  have hk := zin HH hS
  have he : (zw cy base n S Rf V)[k]? = some (base + k, .inl (cy.1, N, .inl (fun j => Int32.ofInt (V k j)))) := by rw [zw_at hk, hS]; rfl
  refine va_iast C.1 C.2.1 C.2.2.2.2.2.2.2.1 HH.1 zw_D HH.2.2.1 k 0 he rfl (zi_in hi hN) hd (fun H1 locs1 hP _ hS1 => ?_)
  rw [zi_cl (by omega), zupd, zw_set (Rf' := Rf) (V' := zp V k (za (V k) i.toNat x)) hk (by rw [hS, zp_s]; rfl) (fun i hi => ⟨rfl, zp_n _ _ hi⟩)] at hP
  exact kk p l e s m args below meth c D cy base b H1 locs1 ls C ⟨hP, HH.2.1, hS1, HH.2.2.2⟩ LL
theorem wa_bastore {k N : Nat} {i x : Int} (hd : decode μ.2.1 pc = .ok (.bastore, 1)) (hS : S k = some (.inl (1, N))) (hi : 0 ≤ i ∧ i < N) (hN : N ≤ 2147483647) (hx : x = 0 ∨ x = 1) (kk : Wa X μ R Z ce sl n S (pc + 1) L st Rf (zp V k (za (V k) i.toNat x))) : Wa X μ R Z ce sl n S pc L (zI x :: zI i :: zR k :: st) Rf V := by
  intro p l e s m args below meth c D cy base b H locs ls C HH LL
  have hk := zin HH hS
  have he : (zw cy base n S Rf V)[k]? = some (base + k, .inl (cy.2.1, N, .inl (fun j => Int32.ofInt (V k j)))) := by rw [zw_at hk, hS]; rfl
  refine va_zast C.1 C.2.1 C.2.2.2.2.2.2.2.1 HH.1 zw_D HH.2.2.1 k 1 he rfl (zi_in hi hN) hd (fun H1 locs1 hP _ hS1 => ?_)
  have hv : vp_nar .boolean (Int32.ofInt x) = Int32.ofInt x := by rcases hx with rfl | rfl <;> decide
  rw [hv, zi_cl (by omega), zupd, zw_set (Rf' := Rf) (V' := zp V k (za (V k) i.toNat x)) hk (by rw [hS, zp_s]; rfl) (fun i hi => ⟨rfl, zp_n _ _ hi⟩)] at hP
  exact kk p l e s m args below meth c D cy base b H1 locs1 ls C ⟨hP, HH.2.1, hS1, HH.2.2.2⟩ LL
theorem wa_aastore {k N a : Nat} {i : Int} (hd : decode μ.2.1 pc = .ok (.aastore, 1)) (hS : S k = some (.inl (2, N))) (hi : 0 ≤ i ∧ i < N) (hN : N ≤ 2147483647) (ha : S a = some (.inr 4)) (kk : Wa X μ R Z ce sl n S (pc + 1) L st (zp Rf k (za (Rf k) i.toNat (some a))) V) : Wa X μ R Z ce sl n S pc L (zR a :: zI i :: zR k :: st) Rf V := by
  intro p l e s m args below meth c D cy base b H locs ls C HH LL
  have hk := zin HH hS
  have he : (zw cy base n S Rf V)[k]? = some (base + k, .inl (cy.2.2, N, .inr (.inr (.inr (.inr (fun j => (Rf k j).map (fun k => base + k))))))) := by rw [zw_at hk, hS]; rfl
  have hv : (zw cy base n S Rf V)[a]? = some (base + a, .inr (4, (List.range (zNf 4)).map (fun j => zf base 4 j (Rf a j) (V a j)))) := by rw [zw_at (zin HH ha), ha]; rfl
  refine va_astq (r := (RX4, TX4, 11)) C.1 C.2.1 C.2.2.2.2.2.2.2.1 HH.1 zw_D HH.2.2.1 k 2 a 4 he rfl hv rfl (zi_in hi hN) hd (fun H1 locs1 hP _ hS1 => ?_)
  have hv2 : va_up (fun j => (Rf k j).map (fun k => base + k)) i.toNat (some (base + a)) = fun j => (za (Rf k) i.toNat (some a) j).map (fun k => base + k) := by
    funext j
    simp only [va_up, za]
    split <;> rfl
  rw [zi_cl (by omega), hv2, zw_set (Rf' := zp Rf k (za (Rf k) i.toNat (some a))) (V' := V) hk (by rw [hS, zp_s]; rfl) (fun i hi => ⟨zp_n _ _ hi, rfl⟩)] at hP
  exact kk p l e s m args below meth c D cy base b H1 locs1 ls C ⟨hP, HH.2.1, hS1, HH.2.2.2⟩ LL
theorem wa_alen {k t N : Nat} (hd : decode μ.2.1 pc = .ok (.arraylength, 1)) (hS : S k = some (.inl (t, N))) (ht : t ≤ 1) (kk : Wa X μ R Z ce sl n S (pc + 1) L (zI N :: st) Rf V) : Wa X μ R Z ce sl n S pc L (zR k :: st) Rf V := by
  intro p l e s m args below meth c D cy base b H locs ls C HH LL
  have hk := zin HH hS
  obtain rfl | rfl : t = 0 ∨ t = 1 := by omega
  · have he : (zw cy base n S Rf V)[k]? = some (base + k, .inl (cy.1, N, .inl (fun j => Int32.ofInt (V k j)))) := by rw [zw_at hk, hS]; rfl
    exact va_alen C.1 C.2.1 C.2.2.2.2.2.2.2.1 HH.1 k 0 he rfl rfl hd (kk p l e s m args below meth c D cy base b H locs ls C HH LL)
  · have he : (zw cy base n S Rf V)[k]? = some (base + k, .inl (cy.2.1, N, .inl (fun j => Int32.ofInt (V k j)))) := by rw [zw_at hk, hS]; rfl
    exact va_alen C.1 C.2.1 C.2.2.2.2.2.2.2.1 HH.1 k 1 he rfl rfl hd (kk p l e s m args below meth c D cy base b H locs ls C HH LL)
end
end
section
/-! ends, calls, makings, copies -/
theorem lw_good {w : Cond} (h : w ∈ lw_ok) : goodWord w = true := (List.mem_filter.mp h).2
theorem zgood {μ : zM} (h : Cond.code μ.1 μ.2.1 μ.2.2.1 μ.2.2.2 ∈ lw_ok) : GoodIn lw_ok (zwd μ) := by
  intro w hw
  have hm : w ∈ lw_ok := by
    rcases List.mem_cons.mp hw with h1 | h1
    · rw [h1]; exact h
    · exact h1
  exact ⟨hm, good_of_word (lw_good hm)⟩
theorem zblind {as : List zV} {n : Nat} {S : zH} {Rf : zG} {V : zE} {D : va_G} {cy : zY} {base b : Nat} : FrameBlind (zpc as n S Rf V D cy base b) := fun a U g mk q => by
  obtain ⟨q1, q2, q3, q4, q5⟩ := q
  exact ⟨q1, va_K.moved (u := U) (U := U.calling g mk a) (Vm.Alike.refl U.vm) q2, q3, q4, q5⟩
section
variable {X : zXt} {μ : zM} {R : Room} {Z : zZt} {ce sl n n1 ms : Nat} {S : zH} {pc : Nat} {L : List (Option zV)} {st : List zV} {Rf : zG} {V : zE} {Q : zQ}
theorem wa_ireturn {a : Int} (hd : decode μ.2.1 pc = .ok (.ireturn, 1)) (hr : μ.2.2.2 = some .int) (hn : n = n1) (hs : sl ≤ ms) (hQ : Q (some (zI a)) S Rf V) : Wa X μ R (zZm Q n1 ce ms) ce sl n S pc L [zI a] Rf V := by
  subst hn
  intro p l e s m args below meth c D cy base b H locs ls C HH LL
  refine W.widen (Nat.le_refl _) hs ?_
  intro T hT XX
  subst hT
  have hsz := zsize XX HH C.2.2.2.2.2.2.2.2.1
  exact W.iret C.1 C.2.1 (C.2.2.1.trans hr) (fun t ht hW => ⟨some (zI a), S, Rf, V, hQ, rfl, by rw [ht]; exact HH.1, by rw [ht]; exact hsz, HH.2.2.2, HH.2.2.1.F ht⟩) HH.2.2.1.2.2 hd (hlocks := C.2.2.2.2.2.2.1) T rfl XX
theorem wa_breturn {a : Int} (hd : decode μ.2.1 pc = .ok (.ireturn, 1)) (hr : μ.2.2.2 = some .boolean) (hn : n = n1) (hs : sl ≤ ms) (ha : a = 0 ∨ a = 1) (hQ : Q (some (zI a)) S Rf V) : Wa X μ R (zZm Q n1 ce ms) ce sl n S pc L [zI a] Rf V := by
  subst hn
  intro p l e s m args below meth c D cy base b H locs ls C HH LL
  refine W.widen (Nat.le_refl _) hs ?_
  intro T hT XX
  subst hT
  have hsz := zsize XX HH C.2.2.2.2.2.2.2.2.1
  exact W.zret C.1 C.2.1 (C.2.2.1.trans hr) (by rcases ha with rfl | rfl <;> decide) (fun t ht hW => ⟨some (zI a), S, Rf, V, hQ, rfl, by rw [ht]; exact HH.1, by rw [ht]; exact hsz, HH.2.2.2, HH.2.2.1.F ht⟩) HH.2.2.1.2.2 hd (hlocks := C.2.2.2.2.2.2.1) T rfl XX
theorem wa_lreturn {a : Int} (hd : decode μ.2.1 pc = .ok (.lreturn, 1)) (hr : μ.2.2.2 = some .long) (hn : n = n1) (hs : sl ≤ ms) (hQ : Q (some (zL a)) S Rf V) : Wa X μ R (zZm Q n1 ce ms) ce sl n S pc L [zL a] Rf V := by
  subst hn
  intro p l e s m args below meth c D cy base b H locs ls C HH LL
  refine W.widen (Nat.le_refl _) hs ?_
  intro T hT XX
  subst hT
  have hsz := zsize XX HH C.2.2.2.2.2.2.2.2.1
  exact W.lret C.1 C.2.1 (C.2.2.1.trans hr) (fun t ht hW => ⟨some (zL a), S, Rf, V, hQ, rfl, by rw [ht]; exact HH.1, by rw [ht]; exact hsz, HH.2.2.2, HH.2.2.1.F ht⟩) HH.2.2.1.2.2 hd (hlocks := C.2.2.2.2.2.2.1) T rfl XX
theorem wa_return (hd : decode μ.2.1 pc = .ok (.return_, 1)) (hr : μ.2.2.2 = none) (hn : n = n1) (hs : sl ≤ ms) (hQ : Q none S Rf V) : Wa X μ R (zZm Q n1 ce ms) ce sl n S pc L [] Rf V := by
  subst hn
  intro p l e s m args below meth c D cy base b H locs ls C HH LL
  refine W.widen (Nat.le_refl _) hs ?_
  intro T hT XX
  subst hT
  have hsz := zsize XX HH C.2.2.2.2.2.2.2.2.1
  exact W.vret C.1 C.2.1 (C.2.2.1.trans hr) (fun t ht hW => ⟨none, S, Rf, V, hQ, rfl, by rw [ht]; exact HH.1, by rw [ht]; exact hsz, HH.2.2.2, HH.2.2.1.F ht⟩) HH.2.2.1.2.2 hd (hlocks := C.2.2.2.2.2.2.1) T rfl XX
theorem zafter {p : Program} {l : Launch} {e : Env} {s : State} {m : MethodId} {args a : Array Value} {below : List Frame} {meth : Method} {c : Code} {D : va_G} {cy : zY} {base b mc ms' : Nat} {H : Heap} {locs : List Loc} {ls : Array Slot} {Qf : State → Prop} {st0 : List Value} {rest : List zV} {Qc : zQ} {T : State} (hT : T.heap = H) (XX : Stand p l e R s m args below meth c T locs ce sl)
    (hr : va_Run p l e R s m args below meth c H locs ce sl mc ms' (F0 m pc ls st0) (rest.map (zu base b)) (zqc Qc (n + mc) D cy base b a) (zA base)) (HH : zHp D cy base n S Rf V H s locs ce)
    (kk : ∀ (v : Option zV) (S' : zH) (Rf' : zG) (V' : zE) (H1 : Heap) (locs1 : List Loc), Qc v S' Rf' V' → zHp D cy base (n + mc) S' Rf' V' H1 s locs1 (ce + mc) → W p l e R s m args below meth c H1 locs1 (ce + mc) (sl + ms') Qf (F0 m (pc + 3) ls ((v.toList ++ rest).map (zu base b)))) :
    ∃ t, Steps p.tables e below (T.setTop (F0 m pc ls st0)) t ∧ Qf t := by
  obtain ⟨v, st₀, t, T', L', h0, X', hL, e1, e2, ⟨r, S', Rf', V', hQ, ho, hP', hsz, hSn, hF⟩, stp⟩ := hr T hT XX
  cases ho
  have hF1 := hF.1
  have hF2 := hF.2
  rw [h0] at hF1 hF2
  have HH' : zHp D cy base (n + mc) S' Rf' V' T'.heap s (locs ++ L') (ce + mc) := by
    refine ⟨by rw [e1]; exact hP', by have := HH.2.1; omega, ⟨Nat.le_trans HH.2.2.1.1 (by rw [e1]; exact hF1), fun q h1 h2 => by rw [e1, hF2 q (Nat.lt_of_lt_of_le h1 HH.2.2.1.1) h2]; exact HH.2.2.1.2.1 q h1 h2, fun q hq => ?_⟩, hSn⟩
    rcases List.mem_append.mp hq with h | h
    · exact HH.2.2.1.2.2 q h
    · exact hL q h
  obtain ⟨t2, a1, b1⟩ := kk r S' Rf' V' T'.heap (locs ++ L') hQ HH' T' rfl X'
  refine ⟨t2, stp t2 ?_, b1⟩
  cases r <;> exact a1
theorem zsum (base b : Nat) (rest : List zV) : ((rest.map (zu base b)).map (fun v => v.category)).sum = (rest.map zcat).sum := by
  rw [List.map_map]
  congr 1
  exact List.map_congr_left (fun v _ => zu_cat base b v)
theorem wa_callV {d mc idx ci r N k1 : Nat} {μ' : zM} {as rest : List zV} {Qc : zQ} {Cn : String} {T : u_T} (hd : decode μ.2.1 pc = .ok (.invokevirtual idx, 3)) (hl : Cond.methodLink μ.1.cls idx μ'.1 ∈ lw_ok) (hi : Cond.instanceMethod μ'.1 ∈ lw_ok) (hsel : Cond.selects Cn μ'.1 μ'.1 ∈ lw_ok) (hini : Cond.initialized μ'.1.cls ∈ lw_ok) (hcode : Cond.code μ'.1 μ'.2.1 μ'.2.2.1 μ'.2.2.2 ∈ lw_ok)
    (hdy : μ'.1.cls ≠ "java/lang/invoke/MethodHandle" ∧ μ'.1.cls ≠ "java/lang/invoke/VarHandle" ∧ (parseMethodDescriptor μ'.1.desc).map (fun d => d.parameters.length) = some k1) (hc : vwCl[ci]? = some (Cn, T, N)) (hlen : as.length = k1) (hS : S r = some (.inr ci)) (hst : st = as.reverse ++ zR r :: rest) (hC : Ct d mc ms μ' (zR r :: as) n S Rf V Qc) (hR : d + 1 ≤ R.frames ∧ 8 + (μ'.2.2.1 + 11) + 40 * d ≤ R.locals) (hw : (rest.map zcat).sum ≤ 8) (hf : ce + mc ≤ R.cells ∧ sl + ms ≤ R.slots)
    (kk : ∀ (v : Option zV) (S' : zH) (Rf' : zG) (V' : zE), Qc v S' Rf' V' → Wa X μ R Z (ce + mc) (sl + ms) (n + mc) S' (pc + 3) L (v.toList ++ rest) Rf' V') : Wa X μ R Z ce sl n S pc L st Rf V := by
  intro p l e s m args below meth c D cy base b H locs ls C HH LL T hT XX
  have hsz : H.size = base + n := by subst hT; exact zsize XX HH C.2.2.2.2.2.2.2.2.1
  have hK := C.2.2.2.2.2.2.2.1
  have hts := C.2.2.2.2.2.1
  subst hst
  have he : (zw cy base n S Rf V)[r]? = some (base + r, .inr (ci, (List.range (zNf ci)).map (fun j => zf base ci j (Rf r j) (V r j)))) := by rw [zw_at (zin HH hS), hS]; rfl
  refine zafter hT XX (va_runV (b := base + r) (As := as.map (zu base b)) (rest := rest.map (zu base b)) ⟨C.1, C.2.1, C.2.2.2.1, C.2.2.2.2.1, hts⟩ (hC l D cy base b)
    ⟨callB_of k1 hts (zgood hcode) rfl rfl rfl (hts _ hini) (hts _ hl) hdy hR, hts _ hi, hts _ hsel⟩ ⟨zblind, va_recv hK HH.1 hc he, fun U hU hW => ⟨rfl, va_K.moved hW.alike hK, by rw [hU]; exact HH.1, by rw [hU]; exact hsz, HH.2.2.2⟩⟩ rfl (by rw [List.length_map]; exact hlen) LL.1 ?_ ?_ hd hf) HH
    (fun v S' Rf' V' H1 locs1 hQ HH' => kk v S' Rf' V' hQ p l e s m args below meth c D cy base b H1 locs1 ls C HH' LL)
  · rw [List.map_append, List.map_reverse]; rfl
  · show 2 * 0 + _ ≤ 8
    rw [zsum]; omega
theorem wa_callS {d mc idx k1 : Nat} {μ' : zM} {as rest : List zV} {Qc : zQ} (hd : decode μ.2.1 pc = .ok (.invokestatic idx, 3)) (hl : Cond.methodLink μ.1.cls idx μ'.1 ∈ lw_ok) (hi : Cond.static μ'.1 ∈ lw_ok) (hini : Cond.initialized μ'.1.cls ∈ lw_ok) (hcode : Cond.code μ'.1 μ'.2.1 μ'.2.2.1 μ'.2.2.2 ∈ lw_ok)
    (hdy : μ'.1.cls ≠ "java/lang/invoke/MethodHandle" ∧ μ'.1.cls ≠ "java/lang/invoke/VarHandle" ∧ (parseMethodDescriptor μ'.1.desc).map (fun d => d.parameters.length) = some k1) (hlen : as.length = k1) (hst : st = as.reverse ++ rest) (hC : Ct d mc ms μ' as n S Rf V Qc) (hR : d + 1 ≤ R.frames ∧ 8 + (μ'.2.2.1 + 11) + 40 * d ≤ R.locals) (hw : (rest.map zcat).sum ≤ 8) (hf : ce + mc ≤ R.cells ∧ sl + ms ≤ R.slots)
    (kk : ∀ (v : Option zV) (S' : zH) (Rf' : zG) (V' : zE), Qc v S' Rf' V' → Wa X μ R Z (ce + mc) (sl + ms) (n + mc) S' (pc + 3) L (v.toList ++ rest) Rf' V') : Wa X μ R Z ce sl n S pc L st Rf V := by
  intro p l e s m args below meth c D cy base b H locs ls C HH LL T hT XX
  have hsz : H.size = base + n := by subst hT; exact zsize XX HH C.2.2.2.2.2.2.2.2.1
  have hK := C.2.2.2.2.2.2.2.1
  have hts := C.2.2.2.2.2.1
  subst hst
  refine zafter hT XX (va_runS (As := as.map (zu base b)) (rest := rest.map (zu base b)) ⟨C.1, C.2.1, C.2.2.2.1, C.2.2.2.2.1, hts⟩ (hC l D cy base b)
    ⟨callB_of k1 hts (zgood hcode) rfl rfl rfl (hts _ hini) (hts _ hl) hdy hR, hts _ hi⟩ ⟨zblind, fun U hU hW => ⟨rfl, va_K.moved hW.alike hK, by rw [hU]; exact HH.1, by rw [hU]; exact hsz, HH.2.2.2⟩⟩ rfl (by rw [List.length_map]; exact hlen) LL.1 ?_ ?_ hd hf) HH
    (fun v S' Rf' V' H1 locs1 hQ HH' => kk v S' Rf' V' hQ p l e s m args below meth c D cy base b H1 locs1 ls C HH' LL)
  · rw [List.map_append, List.map_reverse]
  · show 2 * 0 + _ ≤ 8
    rw [zsum]; omega
theorem wa_callSN {d mc idx k1 : Nat} {host : String} {μ' : zM} {as rest : List zV} {Qc : zQ} (hd : decode μ.2.1 pc = .ok (.invokestatic idx, 3)) (hl : Cond.methodLinkNest μ.1.cls idx μ'.1 host ∈ lw_ok) (hi : Cond.static μ'.1 ∈ lw_ok) (hini : Cond.initialized μ'.1.cls ∈ lw_ok) (hcode : Cond.code μ'.1 μ'.2.1 μ'.2.2.1 μ'.2.2.2 ∈ lw_ok)
    (hdy : μ'.1.cls ≠ "java/lang/invoke/MethodHandle" ∧ μ'.1.cls ≠ "java/lang/invoke/VarHandle" ∧ (parseMethodDescriptor μ'.1.desc).map (fun d => d.parameters.length) = some k1) (hlen : as.length = k1) (hst : st = as.reverse ++ rest) (hC : Ct d mc ms μ' as n S Rf V Qc) (hR : d + 1 ≤ R.frames ∧ 8 + (μ'.2.2.1 + 11) + 40 * d ≤ R.locals) (hw : (rest.map zcat).sum ≤ 8) (hf : ce + mc ≤ R.cells ∧ sl + ms ≤ R.slots)
    (kk : ∀ (v : Option zV) (S' : zH) (Rf' : zG) (V' : zE), Qc v S' Rf' V' → Wa X μ R Z (ce + mc) (sl + ms) (n + mc) S' (pc + 3) L (v.toList ++ rest) Rf' V') : Wa X μ R Z ce sl n S pc L st Rf V := by
  intro p l e s m args below meth c D cy base b H locs ls C HH LL T hT XX
  have hsz : H.size = base + n := by subst hT; exact zsize XX HH C.2.2.2.2.2.2.2.2.1
  have hK := C.2.2.2.2.2.2.2.1
  have hts := C.2.2.2.2.2.1
  subst hst
  refine zafter hT XX (va_runSN (As := as.map (zu base b)) (rest := rest.map (zu base b)) ⟨C.1, C.2.1, C.2.2.2.1, C.2.2.2.2.1, hts⟩ (hC l D cy base b)
    ⟨va_cnB k1 hts (zgood hcode) rfl rfl rfl (word_at (s := s) (U := s) (a' := #[]) (State.WarmedH.refl s) (good_of_word (lw_good hl)) (hts _ hl)) (hts _ hini) hdy hR, hts _ hi, trivial⟩ ⟨zblind, fun U hU hW => ⟨rfl, va_K.moved hW.alike hK, by rw [hU]; exact HH.1, by rw [hU]; exact hsz, HH.2.2.2⟩⟩ rfl (by rw [List.length_map]; exact hlen) LL.1 ?_ ?_ hd hf) HH
    (fun v S' Rf' V' H1 locs1 hQ HH' => kk v S' Rf' V' hQ p l e s m args below meth c D cy base b H1 locs1 ls C HH' LL)
  · rw [List.map_append, List.map_reverse]
  · show 2 * 0 + _ ≤ 8
    rw [zsum]; omega
theorem wa_callI {d mc idx r k1 : Nat} {μ' : zM} {as rest : List zV} {Qc : zQ} (hd : decode μ.2.1 pc = .ok (.invokespecial idx, 3)) (hl : Cond.methodLink μ.1.cls idx μ'.1 ∈ lw_ok) (hi : Cond.instanceMethod μ'.1 ∈ lw_ok) (hini : Cond.initialized μ'.1.cls ∈ lw_ok) (hcode : Cond.code μ'.1 μ'.2.1 μ'.2.2.1 none ∈ lw_ok) (hret : μ'.2.2.2 = none) (hnm : μ'.1.name = "<init>")
    (hdy : μ'.1.cls ≠ "java/lang/invoke/MethodHandle" ∧ μ'.1.cls ≠ "java/lang/invoke/VarHandle" ∧ (parseMethodDescriptor μ'.1.desc).map (fun d => d.parameters.length) = some k1) (hlen : as.length = k1) (hst : st = as.reverse ++ zR r :: rest) (hC : Ct d mc ms μ' (zR r :: as) n S Rf V Qc) (hR : d + 1 ≤ R.frames ∧ 8 + (μ'.2.2.1 + 11) + 40 * d ≤ R.locals) (hw : (rest.map zcat).sum ≤ 8) (hf : ce + mc ≤ R.cells ∧ sl + ms ≤ R.slots)
    (kk : ∀ (v : Option zV) (S' : zH) (Rf' : zG) (V' : zE), Qc v S' Rf' V' → Wa X μ R Z (ce + mc) (sl + ms) (n + mc) S' (pc + 3) L (v.toList ++ rest) Rf' V') : Wa X μ R Z ce sl n S pc L st Rf V := by
  obtain ⟨y', c', nL', r'⟩ := μ'
  dsimp only at hret
  subst hret
  intro p l e s m args below meth c D cy base b H locs ls C HH LL T hT XX
  have hsz : H.size = base + n := by subst hT; exact zsize XX HH C.2.2.2.2.2.2.2.2.1
  have hK := C.2.2.2.2.2.2.2.1
  have hts := C.2.2.2.2.2.1
  subst hst
  refine zafter hT XX (va_runI (b := base + r) (As := as.map (zu base b)) (rest := rest.map (zu base b)) (bytes := c') (maxL := nL') ⟨C.1, C.2.1, C.2.2.2.1, C.2.2.2.2.1, hts⟩ (hC l D cy base b)
    ⟨callB_of k1 hts (zgood hcode) rfl rfl rfl (hts _ hini) (hts _ hl) hdy hR, hnm, hts _ hi⟩ ⟨zblind, fun U hU hW => ⟨rfl, va_K.moved hW.alike hK, by rw [hU]; exact HH.1, by rw [hU]; exact hsz, HH.2.2.2⟩⟩ rfl (by rw [List.length_map]; exact hlen) LL.1 ?_ ?_ hd hf) HH
    (fun v S' Rf' V' H1 locs1 hQ HH' => kk v S' Rf' V' hQ p l e s m args below meth c D cy base b H1 locs1 ls C HH' LL)
  · rw [List.map_append, List.map_reverse]; rfl
  · show 2 * 0 + _ ≤ 8
    rw [zsum]; omega
end
end
section
/-! makings, copies, the library's own -/
theorem zw_push {D : va_G} {cy : zY} {base n : Nat} {S : zH} {Rf : zG} {V : zE} {sh : zS} {H H1 : Heap} (hP : va_P D vwCl (zw cy base n S Rf V) H) (ho : ∀ q, q < H.size → H1[q]? = H[q]?)
    (hn : va_at D vwCl (base + n, zc cy base (some sh) (fun _ => none) (fun _ => 0)) H1) : va_P D vwCl (zw cy base (n + 1) (za S n (some sh)) (zp Rf n (fun _ => none)) (zp V n (fun _ => 0))) H1 := by
  intro k q hq
  obtain ⟨hk, rfl⟩ := zw_lt hq
  by_cases h : k = n
  · subst h
    rw [za_s, zp_s, zp_s]
    exact hn
  · have hk' : k < n := by omega
    rw [za_n _ _ h, zp_n _ _ h, zp_n _ _ h]
    have h1 := hP k _ (zw_at hk')
    exact h1.kept (ho _ h1.lt)
theorem zHp_push {D : va_G} {cy : zY} {base n ce : Nat} {S : zH} {Rf : zG} {V : zE} {sh : zS} {H H1 : Heap} {s : State} {locs : List Loc} (HH : zHp D cy base n S Rf V H s locs ce) (hb : base ≤ s.heap.size) (hz : H1.size = H.size + 1) (ho : ∀ q, q < H.size → H1[q]? = H[q]?)
    (hn : va_at D vwCl (base + n, zc cy base (some sh) (fun _ => none) (fun _ => 0)) H1) : zHp D cy base (n + 1) (za S n (some sh)) (zp Rf n (fun _ => none)) (zp V n (fun _ => 0)) H1 s locs (ce + 1) := by
  refine ⟨zw_push HH.1 ho hn, by have := HH.2.1; omega, ⟨by have := HH.2.2.1.1; omega, fun q h1 h2 => ?_, HH.2.2.1.2.2⟩, fun k hk => ?_⟩
  · rw [ho q (Nat.lt_of_lt_of_le h1 HH.2.2.1.1)]; exact HH.2.2.1.2.1 q h1 h2
  · by_cases h : k = n
    · omega
    · rw [za_n _ _ h] at hk
      have := HH.2.2.2 k hk; omega
/-- the heap's size, known ahead of an instruction -/
theorem zwith {p : Program} {l : Launch} {e : Env} {R : Room} {s : State} {m : MethodId} {args : Array Value} {below : List Frame} {meth : Method} {c : Code} {H : Heap} {locs : List Loc} {ce sl : Nat} {Qf : State → Prop} {g : JFrame} {D : va_G} {cy : zY} {base n : Nat} {S : zH} {Rf : zG} {V : zE} (HH : zHp D cy base n S Rf V H s locs ce) (hb : base ≤ s.heap.size)
    (k : H.size = base + n → W p l e R s m args below meth c H locs ce sl Qf g) : W p l e R s m args below meth c H locs ce sl Qf g := by
  intro T hT XX
  exact k (by subst hT; exact zsize XX HH hb) T hT XX
section
variable {X : zXt} {μ : zM} {R : Room} {Z : zZt} {ce sl n n1 ms : Nat} {S : zH} {pc : Nat} {L : List (Option zV)} {st : List zV} {Rf : zG} {V : zE} {Q : zQ}
theorem wa_new {idx ci N : Nat} {Cn : String} {T : u_T} {ty0 : Nat → FieldType} (hd : decode μ.2.1 pc = .ok (.new idx, 3)) (hl : Cond.classLink μ.1.cls idx Cn ∈ lw_ok) (hi : Cond.instantiable Cn N ∈ lw_ok) (hini : Cond.initialized Cn ∈ lw_ok) (hin : ∀ w ∈ u_ws Cn T N, w ∈ lw_ok) (hc : vwCl[ci]? = some (Cn, T, N)) (hN : zNf ci = N)
    (hty0 : ∀ k, k < N → parseFieldDescriptor (T k).2.2.1 = some (ty0 k)) (hdf : ∀ (base j : Nat), j < N → defaultValue (ty0 j) = zf base ci j none 0) (hf : ce + 1 ≤ R.cells ∧ sl + N ≤ R.slots)
    (kk : Wa X μ R Z (ce + 1) (sl + N) (n + 1) (za S n (some (.inr ci))) (pc + 3) L (zR n :: st) (zp Rf n (fun _ => none)) (zp V n (fun _ => 0))) : Wa X μ R Z ce sl n S pc L st Rf V := by
  intro p l e s m args below meth c D cy base b H locs ls C HH LL
  refine zwith HH C.2.2.2.2.2.2.2.2.1 (fun hsz => ?_)
  have hKn := C.2.2.2.2.2.2.2.1.1 ci _ hc
  have hts := C.2.2.2.2.2.1
  refine W.newcK C.1 C.2.1 C.2.2.2.2.1 (hts _ hl) (hts _ hi) (hts _ hini) rfl hd hf.1 hf.2 hKn.2.1 hsz (fun H1 kC hkC e1 z1 o1 => ?_)
  refine kk p l e s m args below meth c D cy base b H1 locs ls C (zHp_push HH C.2.2.2.2.2.2.2.2.1 (by omega) (fun q hq => o1 q (by omega)) ?_) LL
  refine ⟨_, hc, (u_born ty0 hts hin hKn hkC e1 hty0).to (fun j hj => ?_)⟩
  rw [hdf base j hj, vp_V]
  simp [hN, hj]
theorem wa_newI {i : Int} {N : Nat} (hd : decode μ.2.1 pc = .ok (.newarray .int, 2)) (hl : Cond.arrayClass (newarray.typeOf .int) ∈ lw_ok) (hi : i = N) (hN : N ≤ 100000000) (hf : ce + 1 ≤ R.cells ∧ sl + N ≤ R.slots)
    (kk : Wa X μ R Z (ce + 1) (sl + N) (n + 1) (za S n (some (.inl (0, N)))) (pc + 2) L (zR n :: st) (zp Rf n (fun _ => none)) (zp V n (fun _ => 0))) : Wa X μ R Z ce sl n S pc L (zI i :: st) Rf V := by
  subst hi
  intro p l e s m args below meth c D cy base b H locs ls C HH LL
  refine zwith HH C.2.2.2.2.2.2.2.2.1 (fun hsz => ?_)
  have hts := C.2.2.2.2.2.1
  refine va_newaK C.1 C.2.1 (hts _ hl) rfl hd rfl (by rw [zi_0, zi_lt (by omega) zi_r0]; omega) (N := N) (by rw [zi_cl (by omega)]; rfl) (by show N * 4 ≤ _; omega) hf.1 hf.2 hsz (fun H1 cA e1 z1 o1 hAr hNm => ?_)
  refine kk p l e s m args below meth c D cy base b H1 locs ls C (zHp_push HH C.2.2.2.2.2.2.2.2.1 (by omega) (fun q hq => o1 q (by omega)) ?_) LL
  have hcy : s.vm.findClass ("[" ++ (newarray.typeOf .int).toString) = some cy.1 := (C.2.2.2.2.2.2.2.1.2 0 _ rfl).2
  rw [hNm] at hcy
  obtain rfl := Option.some.inj hcy
  exact e1
theorem wa_newZ {i : Int} {N : Nat} (hd : decode μ.2.1 pc = .ok (.newarray .boolean, 2)) (hl : Cond.arrayClass (newarray.typeOf .boolean) ∈ lw_ok) (hi : i = N) (hN : N ≤ 100000000) (hf : ce + 1 ≤ R.cells ∧ sl + N ≤ R.slots)
    (kk : Wa X μ R Z (ce + 1) (sl + N) (n + 1) (za S n (some (.inl (1, N)))) (pc + 2) L (zR n :: st) (zp Rf n (fun _ => none)) (zp V n (fun _ => 0))) : Wa X μ R Z ce sl n S pc L (zI i :: st) Rf V := by
  subst hi
  intro p l e s m args below meth c D cy base b H locs ls C HH LL
  refine zwith HH C.2.2.2.2.2.2.2.2.1 (fun hsz => ?_)
  have hts := C.2.2.2.2.2.1
  refine va_newaK C.1 C.2.1 (hts _ hl) rfl hd rfl (by rw [zi_0, zi_lt (by omega) zi_r0]; omega) (N := N) (by rw [zi_cl (by omega)]; rfl) (by show N * 1 ≤ _; omega) hf.1 hf.2 hsz (fun H1 cA e1 z1 o1 hAr hNm => ?_)
  refine kk p l e s m args below meth c D cy base b H1 locs ls C (zHp_push HH C.2.2.2.2.2.2.2.2.1 (by omega) (fun q hq => o1 q (by omega)) ?_) LL
  have hcy : s.vm.findClass ("[" ++ (newarray.typeOf .boolean).toString) = some cy.2.1 := (C.2.2.2.2.2.2.2.1.2 1 _ rfl).2
  rw [hNm] at hcy
  obtain rfl := Option.some.inj hcy
  exact e1
theorem wa_newO {i : Int} {N idx : Nat} (hd : decode μ.2.1 pc = .ok (.anewarray idx, 3)) (hl : Cond.classLink μ.1.cls idx "SnowTalk$Street" ∈ lw_ok) (ho : Cond.arrayOver (.object "SnowTalk$Street") ∈ lw_ok) (hi : i = N) (hN : N ≤ 100000000) (hf : ce + 1 ≤ R.cells ∧ sl + N ≤ R.slots)
    (kk : Wa X μ R Z (ce + 1) (sl + N) (n + 1) (za S n (some (.inl (2, N)))) (pc + 3) L (zR n :: st) (zp Rf n (fun _ => none)) (zp V n (fun _ => 0))) : Wa X μ R Z ce sl n S pc L (zI i :: st) Rf V := by
  subst hi
  intro p l e s m args below meth c D cy base b H locs ls C HH LL
  refine zwith HH C.2.2.2.2.2.2.2.2.1 (fun hsz => ?_)
  have hts := C.2.2.2.2.2.1
  have hcl : (Int32.ofInt (N : Int)).toNatClampNeg = N := by rw [zi_cl (by omega)]; rfl
  refine W.anew C.1 C.2.1 C.2.2.2.2.1 (hts _ hl) (hts _ ho) rfl hd rfl (by rw [zi_0, zi_lt (by omega) zi_r0]; omega) (by rw [hcl]; omega) hf.1 (by rw [hcl]; exact hf.2) (fun cA kA comp f1 f2 f3 f4 => ?_)
  rw [hcl, hsz]
  generalize hH1 : H.push ({ cls := cA, slots := Array.replicate N .null, vm := .none } : Cell) = H1
  have z1 : H1.size = H.size + 1 := by rw [← hH1, Array.size_push]
  have e1 : H1[base + n]? = some (arrV cA N (fun _ => .null)) := by rw [← hH1, ← hsz, Array.getElem?_push_size, ← arrV_new]
  have o1 : ∀ q : Nat, q < H.size → H1[q]? = H[q]? := fun q hq => by rw [← hH1, Array.getElem?_push, if_neg (Nat.ne_of_lt hq)]
  refine kk p l e s m args below meth c D cy base b H1 locs ls C (zHp_push HH C.2.2.2.2.2.2.2.2.1 z1 o1 ?_) LL
  obtain ⟨_, _, _, _, _, hcy⟩ := (C.2.2.2.2.2.2.2.1.2 2 _ rfl).2
  rw [f1] at hcy
  obtain rfl := Option.some.inj hcy
  exact e1
theorem wa_objInit {idx r : Nat} (hd : decode μ.2.1 pc = .ok (.invokespecial idx, 3)) (hl : Cond.methodLink μ.1.cls idx Lib.objectInit ∈ lw_ok) (hi : Cond.instanceMethod Lib.objectInit ∈ lw_ok) (hcode : Cond.code Lib.objectInit ⟨#[0xb1]⟩ 1 none ∈ lw_ok) (hR : 1 ≤ R.frames ∧ (st.map zcat).sum + 12 ≤ R.locals)
    (kk : Wa X μ R Z ce sl n S (pc + 3) L st Rf V) : Wa X μ R Z ce sl n S pc L (zR r :: st) Rf V := by
  intro p l e s m args below meth c D cy base b H locs ls C HH LL
  have hts := C.2.2.2.2.2.1
  exact W.objInit C.1 C.2.1 C.2.2.2.2.1 (hts _ hl) (hts _ hi) (hts _ hcode) rfl (LL.1.trans C.2.2.2.1.symm) rfl hd hR.1 (by show 2 * 0 + _ + 12 ≤ _; rw [zsum]; omega) (kk p l e s m args below meth c D cy base b H locs ls C HH LL)
theorem wa_max {idx : Nat} {x y : Int} (hd : decode μ.2.1 pc = .ok (.invokestatic idx, 3)) (hl : Cond.methodLink μ.1.cls idx Lib.Math.max.name ∈ lw_ok) (hi : Cond.static Lib.Math.max.name ∈ lw_ok) (hini : Cond.initialized "java/lang/Math" ∈ lw_ok) (hcode : Cond.code Lib.Math.max.name Lib.Math.max.code 2 (some .int) ∈ lw_ok) (hR : 1 ≤ R.frames ∧ (st.map zcat).sum + 13 ≤ R.locals) (hc : ce ≤ R.cells ∧ sl ≤ R.slots)
    (hx : -2147483648 ≤ x ∧ x ≤ 2147483647) (hy : -2147483648 ≤ y ∧ y ≤ 2147483647) (kk : Wa X μ R Z ce sl n S (pc + 3) L (zI (max x y) :: st) Rf V) : Wa X μ R Z ce sl n S pc L (zI y :: zI x :: st) Rf V := by
  intro p l e s m args below meth c D cy base b H locs ls C HH LL
  have hts := C.2.2.2.2.2.1
  refine va_mmax C.1 C.2.1 (C.2.2.2.1.trans LL.1.symm) C.2.2.2.2.1 (hts _ hl) (hts _ hi) (hts _ hini) (hts _ hcode) hR.1 (by rw [zsum]; exact hR.2) hc.1 hc.2 hd ?_
  rw [show (if Int32.ofInt x < Int32.ofInt y then Int32.ofInt y else Int32.ofInt x) = Int32.ofInt (max x y) from by
    by_cases h : x < y
    · rw [if_pos ((zi_lt hx hy).mpr h), Int.max_eq_right (by omega)]
    · rw [if_neg (fun q => h ((zi_lt hx hy).mp q)), Int.max_eq_left (by omega)]]
  exact kk p l e s m args below meth c D cy base b H locs ls C HH LL
theorem wa_min {idx : Nat} {x y : Int} (hd : decode μ.2.1 pc = .ok (.invokestatic idx, 3)) (hl : Cond.methodLink μ.1.cls idx Lib.Math.min.name ∈ lw_ok) (hi : Cond.static Lib.Math.min.name ∈ lw_ok) (hini : Cond.initialized "java/lang/Math" ∈ lw_ok) (hcode : Cond.code Lib.Math.min.name Lib.Math.min.code 2 (some .int) ∈ lw_ok) (hR : 1 ≤ R.frames ∧ (st.map zcat).sum + 13 ≤ R.locals) (hc : ce ≤ R.cells ∧ sl ≤ R.slots)
    (hx : -2147483648 ≤ x ∧ x ≤ 2147483647) (hy : -2147483648 ≤ y ∧ y ≤ 2147483647) (kk : Wa X μ R Z ce sl n S (pc + 3) L (zI (min x y) :: st) Rf V) : Wa X μ R Z ce sl n S pc L (zI y :: zI x :: st) Rf V := by
  intro p l e s m args below meth c D cy base b H locs ls C HH LL
  have hts := C.2.2.2.2.2.1
  refine va_mmin C.1 C.2.1 (C.2.2.2.1.trans LL.1.symm) C.2.2.2.2.1 (hts _ hl) (hts _ hi) (hts _ hini) (hts _ hcode) hR.1 (by rw [zsum]; exact hR.2) hc.1 hc.2 hd ?_
  rw [show (if Int32.ofInt y < Int32.ofInt x then Int32.ofInt y else Int32.ofInt x) = Int32.ofInt (min x y) from by
    by_cases h : y < x
    · rw [if_pos ((zi_lt hy hx).mpr h), Int.min_eq_right (by omega)]
    · rw [if_neg (fun q => h ((zi_lt hy hx).mp q)), Int.min_eq_left (by omega)]]
  exact kk p l e s m args below meth c D cy base b H locs ls C HH LL
/-- a whole row copied onto another of the same length -/
theorem wa_copy {idx k0 k1 N : Nat} {len : Int} (hd : decode μ.2.1 pc = .ok (.invokestatic idx, 3)) (hl : Cond.methodLink μ.1.cls idx arraycopyName ∈ lw_ok) (hnat : Cond.native arraycopyName ∈ lw_ok) (hi : Cond.static arraycopyName ∈ lw_ok) (hini : Cond.initialized "java/lang/System" ∈ lw_ok) (hR : 1 ≤ R.frames ∧ (st.map zcat).sum + 30 ≤ R.locals)
    (hN : N ≤ 2147483647) (hlen : len = N) (h0 : S k0 = some (.inl (0, N))) (h1 : S k1 = some (.inl (0, N))) (kk : Wa X μ R Z ce sl n S (pc + 3) L st Rf (zp V k1 (V k0))) : Wa X μ R Z ce sl n S pc L (zI len :: zI 0 :: zR k1 :: zI 0 :: zR k0 :: st) Rf V := by
  subst hlen
  intro p l e s m args below meth c D cy base b H locs ls C HH LL
  have hts := C.2.2.2.2.2.1
  have hk := zin HH h1
  have e0 : (zw cy base n S Rf V)[k0]? = some (base + k0, .inl (cy.1, N, .inl (fun j => Int32.ofInt (V k0 j)))) := by rw [zw_at (zin HH h0), h0]; rfl
  have e1 : (zw cy base n S Rf V)[k1]? = some (base + k1, .inl (cy.1, N, .inl (fun j => Int32.ofInt (V k1 j)))) := by rw [zw_at hk, h1]; rfl
  have c0 : (Int32.ofInt 0).toNatClampNeg = 0 := by decide
  have cN : (Int32.ofInt (N : Int)).toNatClampNeg = N := by rw [zi_cl (by omega)]; rfl
  refine va_copyi C.1 C.2.1 (C.2.2.2.1.trans LL.1.symm) C.2.2.2.2.1 (hts _ hl) (hts _ hnat) (hts _ hi) (hts _ hini) C.2.2.2.2.2.2.2.1 HH.1 zw_D HH.2.2.1 k0 k1 0 0 e0 e1 rfl rfl rfl (by decide) (by decide) (by rw [zi_0, zi_lt (by omega) zi_r0]; omega) (by rw [c0, cN]; omega) (by rw [c0, cN]; omega) (fun i hi => rfl) hR.1 (by rw [zsum, show nativeFrameWords "java/lang/System" "arraycopy" 5 + 11 = nativeFrameWords "java/lang/System" "arraycopy" 5 + 11 from rfl]; exact Nat.le_trans (Nat.add_le_add_left (by decide) _) hR.2) hd (fun H1 locs1 hP _ hS1 => ?_)
  rw [c0, cN] at hP
  refine kk p l e s m args below meth c D cy base b H1 locs1 ls C ⟨?_, HH.2.1, hS1, HH.2.2.2⟩ LL
  intro k q hq
  obtain ⟨hk2, rfl⟩ := zw_lt hq
  by_cases h : k = k1
  · subst h
    have h5 := hP k (base + k, .inl (cy.1, N, .inl (va_cpy (fun j => Int32.ofInt (V k0 j)) (fun j => Int32.ofInt (V k j)) 0 0 N))) (by rw [List.getElem?_set, if_pos rfl, if_pos (by simp [zw, hk])])
    rw [zp_s, h1]
    show H1[base + k]? = some (vp_cell cy.1 (N, .inl (fun j => Int32.ofInt (V k0 j))))
    have h6 : H1[base + k]? = some (vp_cell cy.1 (N, .inl (va_cpy (fun j => Int32.ofInt (V k0 j)) (fun j => Int32.ofInt (V k j)) 0 0 N))) := h5
    rw [h6, vp_cell_i, vp_cell_i]
    unfold arrV
    congr 2
    apply Array.ext
    · simp
    · intro i hi1 hi2
      simp at hi1
      simp [va_cpy, hi1]
  · rw [zp_n _ _ h]
    exact hP k _ (by rw [List.getElem?_set, if_neg (fun q => h q.symm)]; exact zw_at hk2)
end
end
