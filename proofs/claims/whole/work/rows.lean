section
/-- a private method of a class that the tables say can be made, by its rows of tables_1 -/
def lw_okq (q : MethodName × Nat) : Prop := (q.1.cls ≠ "java/lang/invoke/MethodHandle" ∧ q.1.cls ≠ "java/lang/invoke/VarHandle") ∧ Cond.instantiable q.1.cls q.2 ∈ tables_1 ∧ Cond.privateMethod q.1 ∈ tables_1 ∧ Cond.instanceMethod q.1 ∈ tables_1
theorem lw_p0 : lw_okq (⟨"TrialFunerals", "isSetOfOthers", "(II)Z"⟩, 7) := ⟨⟨by decide +kernel, by decide +kernel⟩, List.mem_of_getElem? (i := 16) (by decide +kernel), List.mem_of_getElem? (i := 516) (by decide +kernel), List.mem_of_getElem? (i := 517) (by decide +kernel)⟩
theorem lw_p1 : lw_okq (⟨"TrialFunerals", "rests", "(III)Z"⟩, 7) := ⟨⟨by decide +kernel, by decide +kernel⟩, List.mem_of_getElem? (i := 16) (by decide +kernel), List.mem_of_getElem? (i := 572) (by decide +kernel), List.mem_of_getElem? (i := 573) (by decide +kernel)⟩
theorem lw_p2 : lw_okq (⟨"TrialFunerals", "gainOfFirst", "(III)I"⟩, 7) := ⟨⟨by decide +kernel, by decide +kernel⟩, List.mem_of_getElem? (i := 16) (by decide +kernel), List.mem_of_getElem? (i := 576) (by decide +kernel), List.mem_of_getElem? (i := 577) (by decide +kernel)⟩
theorem lw_p3 : lw_okq (⟨"TrialFunerals", "visitEachOther", "(III)V"⟩, 7) := ⟨⟨by decide +kernel, by decide +kernel⟩, List.mem_of_getElem? (i := 16) (by decide +kernel), List.mem_of_getElem? (i := 580) (by decide +kernel), List.mem_of_getElem? (i := 581) (by decide +kernel)⟩
theorem lw_p4 : lw_okq (⟨"TrialFunerals", "gainOfOther", "(III)I"⟩, 7) := ⟨⟨by decide +kernel, by decide +kernel⟩, List.mem_of_getElem? (i := 16) (by decide +kernel), List.mem_of_getElem? (i := 589) (by decide +kernel), List.mem_of_getElem? (i := 590) (by decide +kernel)⟩
theorem lw_p5 : lw_okq (⟨"TrialFuneralsModel", "lives", "(IIII)V"⟩, 25) := ⟨⟨by decide +kernel, by decide +kernel⟩, List.mem_of_getElem? (i := 692) (by decide +kernel), List.mem_of_getElem? (i := 698) (by decide +kernel), List.mem_of_getElem? (i := 699) (by decide +kernel)⟩
theorem lw_p6 : lw_okq (⟨"TrialFuneralsModel", "settles", "()V"⟩, 25) := ⟨⟨by decide +kernel, by decide +kernel⟩, List.mem_of_getElem? (i := 692) (by decide +kernel), List.mem_of_getElem? (i := 702) (by decide +kernel), List.mem_of_getElem? (i := 703) (by decide +kernel)⟩
theorem lw_p7 : lw_okq (⟨"TrialFuneralsModel", "reads", "()Z"⟩, 25) := ⟨⟨by decide +kernel, by decide +kernel⟩, List.mem_of_getElem? (i := 692) (by decide +kernel), List.mem_of_getElem? (i := 799) (by decide +kernel), List.mem_of_getElem? (i := 800) (by decide +kernel)⟩
theorem lw_p8 : lw_okq (⟨"TrialFuneralsModel", "next", "()I"⟩, 25) := ⟨⟨by decide +kernel, by decide +kernel⟩, List.mem_of_getElem? (i := 692) (by decide +kernel), List.mem_of_getElem? (i := 803) (by decide +kernel), List.mem_of_getElem? (i := 804) (by decide +kernel)⟩
theorem lw_p9 : lw_okq (⟨"TrialFuneralsModel", "item", "(I)V"⟩, 25) := ⟨⟨by decide +kernel, by decide +kernel⟩, List.mem_of_getElem? (i := 692) (by decide +kernel), List.mem_of_getElem? (i := 807) (by decide +kernel), List.mem_of_getElem? (i := 808) (by decide +kernel)⟩
theorem lw_p10 : lw_okq (⟨"TrialFuneralsModel", "number", "(II)I"⟩, 25) := ⟨⟨by decide +kernel, by decide +kernel⟩, List.mem_of_getElem? (i := 692) (by decide +kernel), List.mem_of_getElem? (i := 811) (by decide +kernel), List.mem_of_getElem? (i := 812) (by decide +kernel)⟩
theorem lw_p11 : lw_okq (⟨"TrialFuneralsModel", "more", "(II)I"⟩, 25) := ⟨⟨by decide +kernel, by decide +kernel⟩, List.mem_of_getElem? (i := 692) (by decide +kernel), List.mem_of_getElem? (i := 817) (by decide +kernel), List.mem_of_getElem? (i := 818) (by decide +kernel)⟩
theorem lw_p12 : lw_okq (⟨"TrialFuneralsModel", "copies", "(II)V"⟩, 25) := ⟨⟨by decide +kernel, by decide +kernel⟩, List.mem_of_getElem? (i := 692) (by decide +kernel), List.mem_of_getElem? (i := 825) (by decide +kernel), List.mem_of_getElem? (i := 826) (by decide +kernel)⟩
theorem lw_p13 : lw_okq (⟨"TrialFuneralsModel", "isPerson", "(I)Z"⟩, 25) := ⟨⟨by decide +kernel, by decide +kernel⟩, List.mem_of_getElem? (i := 692) (by decide +kernel), List.mem_of_getElem? (i := 833) (by decide +kernel), List.mem_of_getElem? (i := 834) (by decide +kernel)⟩
theorem lw_p14 : lw_okq (⟨"TrialFuneralsModel", "ageOf", "(II)I"⟩, 25) := ⟨⟨by decide +kernel, by decide +kernel⟩, List.mem_of_getElem? (i := 692) (by decide +kernel), List.mem_of_getElem? (i := 838) (by decide +kernel), List.mem_of_getElem? (i := 839) (by decide +kernel)⟩
theorem lw_p15 : lw_okq (⟨"TrialFuneralsModel", "isAlive", "(II)Z"⟩, 25) := ⟨⟨by decide +kernel, by decide +kernel⟩, List.mem_of_getElem? (i := 692) (by decide +kernel), List.mem_of_getElem? (i := 842) (by decide +kernel), List.mem_of_getElem? (i := 843) (by decide +kernel)⟩
def lw_privs_1 : List (MethodName × Nat) := [(⟨"TrialFunerals", "isSetOfOthers", "(II)Z"⟩, 7), (⟨"TrialFunerals", "rests", "(III)Z"⟩, 7), (⟨"TrialFunerals", "gainOfFirst", "(III)I"⟩, 7), (⟨"TrialFunerals", "visitEachOther", "(III)V"⟩, 7), (⟨"TrialFunerals", "gainOfOther", "(III)I"⟩, 7), (⟨"TrialFuneralsModel", "lives", "(IIII)V"⟩, 25), (⟨"TrialFuneralsModel", "settles", "()V"⟩, 25), (⟨"TrialFuneralsModel", "reads", "()Z"⟩, 25), (⟨"TrialFuneralsModel", "next", "()I"⟩, 25), (⟨"TrialFuneralsModel", "item", "(I)V"⟩, 25), (⟨"TrialFuneralsModel", "number", "(II)I"⟩, 25), (⟨"TrialFuneralsModel", "more", "(II)I"⟩, 25), (⟨"TrialFuneralsModel", "copies", "(II)V"⟩, 25), (⟨"TrialFuneralsModel", "isPerson", "(I)Z"⟩, 25), (⟨"TrialFuneralsModel", "ageOf", "(II)I"⟩, 25), (⟨"TrialFuneralsModel", "isAlive", "(II)Z"⟩, 25)]
theorem lw_r1 : ∀ q ∈ lw_privs_1, lw_okq q := List.forall_mem_cons.mpr ⟨lw_p0, List.forall_mem_cons.mpr ⟨lw_p1, List.forall_mem_cons.mpr ⟨lw_p2, List.forall_mem_cons.mpr ⟨lw_p3, List.forall_mem_cons.mpr ⟨lw_p4, List.forall_mem_cons.mpr ⟨lw_p5, List.forall_mem_cons.mpr ⟨lw_p6, List.forall_mem_cons.mpr ⟨lw_p7, List.forall_mem_cons.mpr ⟨lw_p8, List.forall_mem_cons.mpr ⟨lw_p9, List.forall_mem_cons.mpr ⟨lw_p10, List.forall_mem_cons.mpr ⟨lw_p11, List.forall_mem_cons.mpr ⟨lw_p12, List.forall_mem_cons.mpr ⟨lw_p13, List.forall_mem_cons.mpr ⟨lw_p14, List.forall_mem_cons.mpr ⟨lw_p15, fun _ h => absurd h List.not_mem_nil⟩⟩⟩⟩⟩⟩⟩⟩⟩⟩⟩⟩⟩⟩⟩⟩
theorem lw_p16 : lw_okq (⟨"TrialFuneralsModel", "heir", "(II)I"⟩, 25) := ⟨⟨by decide +kernel, by decide +kernel⟩, List.mem_of_getElem? (i := 692) (by decide +kernel), List.mem_of_getElem? (i := 849) (by decide +kernel), List.mem_of_getElem? (i := 850) (by decide +kernel)⟩
theorem lw_p17 : lw_okq (⟨"TrialFuneralsModel", "areTwo", "(II)Z"⟩, 25) := ⟨⟨by decide +kernel, by decide +kernel⟩, List.mem_of_getElem? (i := 692) (by decide +kernel), List.mem_of_getElem? (i := 857) (by decide +kernel), List.mem_of_getElem? (i := 858) (by decide +kernel)⟩
theorem lw_p18 : lw_okq (⟨"TrialFuneralsModel", "canHave", "(IIII)Z"⟩, 25) := ⟨⟨by decide +kernel, by decide +kernel⟩, List.mem_of_getElem? (i := 692) (by decide +kernel), List.mem_of_getElem? (i := 873) (by decide +kernel), List.mem_of_getElem? (i := 874) (by decide +kernel)⟩
theorem lw_p19 : lw_okq (⟨"TrialFuneralsModel", "couldHave", "(II)Z"⟩, 25) := ⟨⟨by decide +kernel, by decide +kernel⟩, List.mem_of_getElem? (i := 692) (by decide +kernel), List.mem_of_getElem? (i := 877) (by decide +kernel), List.mem_of_getElem? (i := 878) (by decide +kernel)⟩
theorem lw_p20 : lw_okq (⟨"TrialFuneralsModel", "known", "()V"⟩, 25) := ⟨⟨by decide +kernel, by decide +kernel⟩, List.mem_of_getElem? (i := 692) (by decide +kernel), List.mem_of_getElem? (i := 881) (by decide +kernel), List.mem_of_getElem? (i := 882) (by decide +kernel)⟩
theorem lw_p21 : lw_okq (⟨"TrialFuneralsModel", "holds", "(IIII)I"⟩, 25) := ⟨⟨by decide +kernel, by decide +kernel⟩, List.mem_of_getElem? (i := 692) (by decide +kernel), List.mem_of_getElem? (i := 885) (by decide +kernel), List.mem_of_getElem? (i := 886) (by decide +kernel)⟩
theorem lw_p22 : lw_okq (⟨"TrialFuneralsModel", "comers", "(IIII)I"⟩, 25) := ⟨⟨by decide +kernel, by decide +kernel⟩, List.mem_of_getElem? (i := 692) (by decide +kernel), List.mem_of_getElem? (i := 889) (by decide +kernel), List.mem_of_getElem? (i := 890) (by decide +kernel)⟩
theorem lw_p23 : lw_okq (⟨"TrialFuneralsModel", "comes", "(IIIII)Z"⟩, 25) := ⟨⟨by decide +kernel, by decide +kernel⟩, List.mem_of_getElem? (i := 692) (by decide +kernel), List.mem_of_getElem? (i := 893) (by decide +kernel), List.mem_of_getElem? (i := 894) (by decide +kernel)⟩
theorem lw_p24 : lw_okq (⟨"TrialFuneralsModel", "likes", "(IIIIIII)Z"⟩, 25) := ⟨⟨by decide +kernel, by decide +kernel⟩, List.mem_of_getElem? (i := 692) (by decide +kernel), List.mem_of_getElem? (i := 897) (by decide +kernel), List.mem_of_getElem? (i := 898) (by decide +kernel)⟩
theorem lw_p25 : lw_okq (⟨"TrialFuneralsModel", "changes", "(IIIZ)V"⟩, 25) := ⟨⟨by decide +kernel, by decide +kernel⟩, List.mem_of_getElem? (i := 692) (by decide +kernel), List.mem_of_getElem? (i := 901) (by decide +kernel), List.mem_of_getElem? (i := 902) (by decide +kernel)⟩
theorem lw_p26 : lw_okq (⟨"TrialFuneralsModel", "ties", "(IIII)V"⟩, 25) := ⟨⟨by decide +kernel, by decide +kernel⟩, List.mem_of_getElem? (i := 692) (by decide +kernel), List.mem_of_getElem? (i := 905) (by decide +kernel), List.mem_of_getElem? (i := 906) (by decide +kernel)⟩
theorem lw_p27 : lw_okq (⟨"TrialFuneralsModel", "pays", "(IIII)I"⟩, 25) := ⟨⟨by decide +kernel, by decide +kernel⟩, List.mem_of_getElem? (i := 692) (by decide +kernel), List.mem_of_getElem? (i := 915) (by decide +kernel), List.mem_of_getElem? (i := 916) (by decide +kernel)⟩
theorem lw_p28 : lw_okq (⟨"TrialFuneralsModel", "gets", "(III)V"⟩, 25) := ⟨⟨by decide +kernel, by decide +kernel⟩, List.mem_of_getElem? (i := 692) (by decide +kernel), List.mem_of_getElem? (i := 919) (by decide +kernel), List.mem_of_getElem? (i := 920) (by decide +kernel)⟩
theorem lw_p29 : lw_okq (⟨"TrialFuneralsModel", "canGive", "(III)Z"⟩, 25) := ⟨⟨by decide +kernel, by decide +kernel⟩, List.mem_of_getElem? (i := 692) (by decide +kernel), List.mem_of_getElem? (i := 927) (by decide +kernel), List.mem_of_getElem? (i := 928) (by decide +kernel)⟩
theorem lw_p30 : lw_okq (⟨"TrialFuneralsModel", "gives", "(III)V"⟩, 25) := ⟨⟨by decide +kernel, by decide +kernel⟩, List.mem_of_getElem? (i := 692) (by decide +kernel), List.mem_of_getElem? (i := 931) (by decide +kernel), List.mem_of_getElem? (i := 932) (by decide +kernel)⟩
theorem lw_p31 : lw_okq (⟨"TrialFuneralsModel", "isSet", "(II)Z"⟩, 25) := ⟨⟨by decide +kernel, by decide +kernel⟩, List.mem_of_getElem? (i := 692) (by decide +kernel), List.mem_of_getElem? (i := 963) (by decide +kernel), List.mem_of_getElem? (i := 964) (by decide +kernel)⟩
def lw_privs_2 : List (MethodName × Nat) := [(⟨"TrialFuneralsModel", "heir", "(II)I"⟩, 25), (⟨"TrialFuneralsModel", "areTwo", "(II)Z"⟩, 25), (⟨"TrialFuneralsModel", "canHave", "(IIII)Z"⟩, 25), (⟨"TrialFuneralsModel", "couldHave", "(II)Z"⟩, 25), (⟨"TrialFuneralsModel", "known", "()V"⟩, 25), (⟨"TrialFuneralsModel", "holds", "(IIII)I"⟩, 25), (⟨"TrialFuneralsModel", "comers", "(IIII)I"⟩, 25), (⟨"TrialFuneralsModel", "comes", "(IIIII)Z"⟩, 25), (⟨"TrialFuneralsModel", "likes", "(IIIIIII)Z"⟩, 25), (⟨"TrialFuneralsModel", "changes", "(IIIZ)V"⟩, 25), (⟨"TrialFuneralsModel", "ties", "(IIII)V"⟩, 25), (⟨"TrialFuneralsModel", "pays", "(IIII)I"⟩, 25), (⟨"TrialFuneralsModel", "gets", "(III)V"⟩, 25), (⟨"TrialFuneralsModel", "canGive", "(III)Z"⟩, 25), (⟨"TrialFuneralsModel", "gives", "(III)V"⟩, 25), (⟨"TrialFuneralsModel", "isSet", "(II)Z"⟩, 25)]
theorem lw_r2 : ∀ q ∈ lw_privs_2, lw_okq q := List.forall_mem_cons.mpr ⟨lw_p16, List.forall_mem_cons.mpr ⟨lw_p17, List.forall_mem_cons.mpr ⟨lw_p18, List.forall_mem_cons.mpr ⟨lw_p19, List.forall_mem_cons.mpr ⟨lw_p20, List.forall_mem_cons.mpr ⟨lw_p21, List.forall_mem_cons.mpr ⟨lw_p22, List.forall_mem_cons.mpr ⟨lw_p23, List.forall_mem_cons.mpr ⟨lw_p24, List.forall_mem_cons.mpr ⟨lw_p25, List.forall_mem_cons.mpr ⟨lw_p26, List.forall_mem_cons.mpr ⟨lw_p27, List.forall_mem_cons.mpr ⟨lw_p28, List.forall_mem_cons.mpr ⟨lw_p29, List.forall_mem_cons.mpr ⟨lw_p30, List.forall_mem_cons.mpr ⟨lw_p31, fun _ h => absurd h List.not_mem_nil⟩⟩⟩⟩⟩⟩⟩⟩⟩⟩⟩⟩⟩⟩⟩⟩
theorem lw_p32 : lw_okq (⟨"TrialFuneralsModel", "lists", "()V"⟩, 25) := ⟨⟨by decide +kernel, by decide +kernel⟩, List.mem_of_getElem? (i := 692) (by decide +kernel), List.mem_of_getElem? (i := 976) (by decide +kernel), List.mem_of_getElem? (i := 977) (by decide +kernel)⟩
theorem lw_p33 : lw_okq (⟨"TrialFuneralsModel", "goesOn", "()Z"⟩, 25) := ⟨⟨by decide +kernel, by decide +kernel⟩, List.mem_of_getElem? (i := 692) (by decide +kernel), List.mem_of_getElem? (i := 980) (by decide +kernel), List.mem_of_getElem? (i := 981) (by decide +kernel)⟩
theorem lw_p34 : lw_okq (⟨"TrialFuneralsModel", "swaps", "(II)V"⟩, 25) := ⟨⟨by decide +kernel, by decide +kernel⟩, List.mem_of_getElem? (i := 692) (by decide +kernel), List.mem_of_getElem? (i := 984) (by decide +kernel), List.mem_of_getElem? (i := 985) (by decide +kernel)⟩
theorem lw_p35 : lw_okq (⟨"TrialFuneralsModel", "worth", "(IIIZ)I"⟩, 25) := ⟨⟨by decide +kernel, by decide +kernel⟩, List.mem_of_getElem? (i := 692) (by decide +kernel), List.mem_of_getElem? (i := 992) (by decide +kernel), List.mem_of_getElem? (i := 993) (by decide +kernel)⟩
theorem lw_p36 : lw_okq (⟨"TrialFuneralsModel", "allCoins", "(I)I"⟩, 25) := ⟨⟨by decide +kernel, by decide +kernel⟩, List.mem_of_getElem? (i := 692) (by decide +kernel), List.mem_of_getElem? (i := 1026) (by decide +kernel), List.mem_of_getElem? (i := 1027) (by decide +kernel)⟩
theorem lw_p37 : lw_okq (⟨"TrialFuneralsModel", "allOwed", "()I"⟩, 25) := ⟨⟨by decide +kernel, by decide +kernel⟩, List.mem_of_getElem? (i := 692) (by decide +kernel), List.mem_of_getElem? (i := 1042) (by decide +kernel), List.mem_of_getElem? (i := 1043) (by decide +kernel)⟩
def lw_privs_3 : List (MethodName × Nat) := [(⟨"TrialFuneralsModel", "lists", "()V"⟩, 25), (⟨"TrialFuneralsModel", "goesOn", "()Z"⟩, 25), (⟨"TrialFuneralsModel", "swaps", "(II)V"⟩, 25), (⟨"TrialFuneralsModel", "worth", "(IIIZ)I"⟩, 25), (⟨"TrialFuneralsModel", "allCoins", "(I)I"⟩, 25), (⟨"TrialFuneralsModel", "allOwed", "()I"⟩, 25)]
theorem lw_r3 : ∀ q ∈ lw_privs_3, lw_okq q := List.forall_mem_cons.mpr ⟨lw_p32, List.forall_mem_cons.mpr ⟨lw_p33, List.forall_mem_cons.mpr ⟨lw_p34, List.forall_mem_cons.mpr ⟨lw_p35, List.forall_mem_cons.mpr ⟨lw_p36, List.forall_mem_cons.mpr ⟨lw_p37, fun _ h => absurd h List.not_mem_nil⟩⟩⟩⟩⟩⟩
def lw_privs : List (MethodName × Nat) := lw_privs_1 ++ (lw_privs_2 ++ (lw_privs_3))
def lw_tbl : List Cond := k2_sels lw_privs ++ tables_1
theorem lw_privs_ok : ∀ q ∈ lw_privs, lw_okq q := by
  show ∀ q ∈ lw_privs_1 ++ (lw_privs_2 ++ (lw_privs_3)), lw_okq q
  exact List.forall_mem_append.mpr ⟨lw_r1, List.forall_mem_append.mpr ⟨lw_r2, lw_r3⟩⟩
def RX0 : String := "TrialFunerals$OrderSearch"
def TX0 : u_T := fun k => match k with
  | 0 => ("TrialFunerals$OrderSearch", "levels", "[LTrialFunerals$Village;", true)
  | 1 => ("TrialFunerals$OrderSearch", "path", "[I", true)
  | 2 => ("TrialFunerals$OrderSearch", "best", "[I", true)
  | 3 => ("TrialFunerals$OrderSearch", "bells", "I", false)
  | 4 => ("TrialFunerals$OrderSearch", "cake", "I", false)
  | 5 => ("TrialFunerals$OrderSearch", "due", "I", false)
  | 6 => ("TrialFunerals$OrderSearch", "size", "I", false)
  | _ => ("TrialFunerals$OrderSearch", "most", "I", false)
def tyX0 : Nat → FieldType := fun k => match k with
  | 0 => .array (.object "TrialFunerals$Village")
  | 1 => .array .int
  | 2 => .array .int
  | 3 => .int
  | 4 => .int
  | 5 => .int
  | 6 => .int
  | _ => .int
abbrev wsX00 : List Cond := u_ws RX0 TX0 8
theorem nmX0 : ∀ a, a < 8 → ∀ b, b < 8 → a ≠ b → (TX0 a).2.1 ≠ (TX0 b).2.1 := by decide +kernel
theorem tyX0_ok : ∀ k, k < 8 → parseFieldDescriptor (TX0 k).2.2.1 = some (tyX0 k) := by decide +kernel
abbrev cX0_init : ByteArray := prog_2_method_1_code
def yX0_init : MethodName := ⟨RX0, "<init>", "()V"⟩
abbrev cX0_isFor : ByteArray := prog_2_method_2_code
def yX0_isFor : MethodName := ⟨RX0, "isFor", "(LTrialFunerals$Village;II)Z"⟩
abbrev cX0_start : ByteArray := prog_2_method_3_code
def yX0_start : MethodName := ⟨RX0, "start", "(LTrialFunerals$Village;II)V"⟩
abbrev cX0_tryAll : ByteArray := prog_2_method_4_code
def yX0_tryAll : MethodName := ⟨RX0, "tryAll", "(LTrialFunerals$OrderSearch;III)V"⟩
abbrev cX0_step : ByteArray := prog_2_method_5_code
def yX0_step : MethodName := ⟨RX0, "step", "(II)I"⟩
abbrev cX0_note : ByteArray := prog_2_method_6_code
def yX0_note : MethodName := ⟨RX0, "note", "(I)V"⟩
def RX1 : String := "TrialFunerals$Pile"
def TX1 : u_T := fun k => match k with
  | 0 => ("TrialFunerals$Pile", "villages", "[LTrialFunerals$Village;", true)
  | 1 => ("TrialFunerals$Pile", "size", "I", false)
  | _ => ("TrialFunerals$Pile", "top", "I", false)
def tyX1 : Nat → FieldType := fun k => match k with
  | 0 => .array (.object "TrialFunerals$Village")
  | 1 => .int
  | _ => .int
abbrev wsX10 : List Cond := u_ws RX1 TX1 3
theorem nmX1 : ∀ a, a < 3 → ∀ b, b < 3 → a ≠ b → (TX1 a).2.1 ≠ (TX1 b).2.1 := by decide +kernel
theorem tyX1_ok : ∀ k, k < 3 → parseFieldDescriptor (TX1 k).2.2.1 = some (tyX1 k) := by decide +kernel
abbrev cX1_init : ByteArray := prog_3_method_1_code
def yX1_init : MethodName := ⟨RX1, "<init>", "(I)V"⟩
abbrev cX1_put : ByteArray := prog_3_method_2_code
def yX1_put : MethodName := ⟨RX1, "put", "(LTrialFunerals$Village;)V"⟩
abbrev cX1_takeInto : ByteArray := prog_3_method_3_code
def yX1_takeInto : MethodName := ⟨RX1, "takeInto", "(LTrialFunerals$Village;)V"⟩
abbrev cX1_clear : ByteArray := prog_3_method_4_code
def yX1_clear : MethodName := ⟨RX1, "clear", "()V"⟩
def RX2 : String := "TrialFunerals$Sightings"
def TX2 : u_T := fun k => match k with
  | 0 => ("TrialFunerals$Sightings", "guests", "[I", true)
  | 1 => ("TrialFunerals$Sightings", "hosts", "[I", true)
  | 2 => ("TrialFunerals$Sightings", "bells", "[I", true)
  | 3 => ("TrialFunerals$Sightings", "cakes", "[I", true)
  | 4 => ("TrialFunerals$Sightings", "would", "[Z", true)
  | _ => ("TrialFunerals$Sightings", "size", "I", false)
def tyX2 : Nat → FieldType := fun k => match k with
  | 0 => .array .int
  | 1 => .array .int
  | 2 => .array .int
  | 3 => .array .int
  | 4 => .array .boolean
  | _ => .int
abbrev wsX20 : List Cond := u_ws RX2 TX2 6
theorem nmX2 : ∀ a, a < 6 → ∀ b, b < 6 → a ≠ b → (TX2 a).2.1 ≠ (TX2 b).2.1 := by decide +kernel
theorem tyX2_ok : ∀ k, k < 6 → parseFieldDescriptor (TX2 k).2.2.1 = some (tyX2 k) := by decide +kernel
abbrev cX2_init : ByteArray := prog_4_method_1_code
def yX2_init : MethodName := ⟨RX2, "<init>", "()V"⟩
abbrev cX2_add : ByteArray := prog_4_method_2_code
def yX2_add : MethodName := ⟨RX2, "add", "(IIIIZ)V"⟩
abbrev cX2_tiesThatFit : ByteArray := prog_4_method_3_code
def yX2_tiesThatFit : MethodName := ⟨RX2, "tiesThatFit", "(LTrialFunerals$Village;II)I"⟩
abbrev cX2_kindsThatFit : ByteArray := prog_4_method_4_code
def yX2_kindsThatFit : MethodName := ⟨RX2, "kindsThatFit", "(LTrialFunerals$Village;I)I"⟩
abbrev cX2_tieFits : ByteArray := prog_4_method_5_code
def yX2_tieFits : MethodName := ⟨RX2, "tieFits", "(LTrialFunerals$Village;III)Z"⟩
abbrev cX2_kindFits : ByteArray := prog_4_method_6_code
def yX2_kindFits : MethodName := ⟨RX2, "kindFits", "(LTrialFunerals$Village;II)Z"⟩
abbrev cX2_isSo : ByteArray := prog_4_method_7_code
def yX2_isSo : MethodName := ⟨RX2, "isSo", "(ILTrialFunerals$Village;II)Z"⟩
def RX3 : String := "TrialFunerals$Text"
def TX3 : u_T := fun k => match k with
  | 0 => ("TrialFunerals$Text", "letters", "[C", true)
  | 1 => ("TrialFunerals$Text", "numbers", "[I", true)
  | 2 => ("TrialFunerals$Text", "length", "I", false)
  | _ => ("TrialFunerals$Text", "place", "I", false)
def tyX3 : Nat → FieldType := fun k => match k with
  | 0 => .array .char
  | 1 => .array .int
  | 2 => .int
  | _ => .int
abbrev wsX30 : List Cond := u_ws RX3 TX3 4
theorem nmX3 : ∀ a, a < 4 → ∀ b, b < 4 → a ≠ b → (TX3 a).2.1 ≠ (TX3 b).2.1 := by decide +kernel
theorem tyX3_ok : ∀ k, k < 4 → parseFieldDescriptor (TX3 k).2.2.1 = some (tyX3 k) := by decide +kernel
abbrev cX3_init : ByteArray := prog_5_method_1_code
def yX3_init : MethodName := ⟨RX3, "<init>", "()V"⟩
abbrev cX3_isFull : ByteArray := prog_5_method_2_code
def yX3_isFull : MethodName := ⟨RX3, "isFull", "()Z"⟩
abbrev cX3_append : ByteArray := prog_5_method_3_code
def yX3_append : MethodName := ⟨RX3, "append", "(C)V"⟩
abbrev cX3_clear : ByteArray := prog_5_method_4_code
def yX3_clear : MethodName := ⟨RX3, "clear", "()V"⟩
abbrev cX3_readInto : ByteArray := prog_5_method_5_code
def yX3_readInto : MethodName := ⟨RX3, "readInto", "(LTrialFunerals$Village;)I"⟩
abbrev cX3_readItem : ByteArray := prog_5_method_6_code
def yX3_readItem : MethodName := ⟨RX3, "readItem", "(LTrialFunerals$Village;)Z"⟩
abbrev cX3_readNumber : ByteArray := prog_5_method_7_code
def yX3_readNumber : MethodName := ⟨RX3, "readNumber", "(I)Z"⟩
abbrev cX3_isAtFigure : ByteArray := prog_5_method_8_code
def yX3_isAtFigure : MethodName := ⟨RX3, "isAtFigure", "()Z"⟩
abbrev cX3_next : ByteArray := prog_5_method_9_code
def yX3_next : MethodName := ⟨RX3, "next", "()C"⟩
abbrev cX3_tell : ByteArray := prog_5_method_10_code
def yX3_tell : MethodName := ⟨RX3, "tell", "(LTrialFunerals$Village;C)Z"⟩
def RX4 : String := "TrialFunerals$Village"
def TX4 : u_T := fun k => match k with
  | 0 => ("TrialFunerals$Village", "kinds", "[I", true)
  | 1 => ("TrialFunerals$Village", "agesTold", "[I", true)
  | 2 => ("TrialFunerals$Village", "coins", "[I", true)
  | 3 => ("TrialFunerals$Village", "ties", "[I", true)
  | 4 => ("TrialFunerals$Village", "debts", "[I", true)
  | 5 => ("TrialFunerals$Village", "persons", "I", false)
  | 6 => ("TrialFunerals$Village", "trialAge", "I", false)
  | 7 => ("TrialFunerals$Village", "deadSet", "I", false)
  | 8 => ("TrialFunerals$Village", "hadSet", "I", false)
  | 9 => ("TrialFunerals$Village", "days", "I", false)
  | _ => ("TrialFunerals$Village", "trialsToday", "I", false)
def tyX4 : Nat → FieldType := fun k => match k with
  | 0 => .array .int
  | 1 => .array .int
  | 2 => .array .int
  | 3 => .array .int
  | 4 => .array .int
  | 5 => .int
  | 6 => .int
  | 7 => .int
  | 8 => .int
  | 9 => .int
  | _ => .int
abbrev wsX40 : List Cond := u_ws RX4 TX4 11
theorem nmX4 : ∀ a, a < 11 → ∀ b, b < 11 → a ≠ b → (TX4 a).2.1 ≠ (TX4 b).2.1 := by decide +kernel
theorem tyX4_ok : ∀ k, k < 11 → parseFieldDescriptor (TX4 k).2.2.1 = some (tyX4 k) := by decide +kernel
abbrev cX4_init : ByteArray := prog_6_method_1_code
def yX4_init : MethodName := ⟨RX4, "<init>", "()V"⟩
abbrev cX4_empty : ByteArray := prog_6_method_2_code
def yX4_empty : MethodName := ⟨RX4, "empty", "()V"⟩
abbrev cX4_copyFrom : ByteArray := prog_6_method_3_code
def yX4_copyFrom : MethodName := ⟨RX4, "copyFrom", "(LTrialFunerals$Village;)V"⟩
abbrev cX4_isLike : ByteArray := prog_6_method_4_code
def yX4_isLike : MethodName := ⟨RX4, "isLike", "(LTrialFunerals$Village;)Z"⟩
abbrev cX4_tellPerson : ByteArray := prog_6_method_5_code
def yX4_tellPerson : MethodName := ⟨RX4, "tellPerson", "(III)Z"⟩
abbrev cX4_tellTie : ByteArray := prog_6_method_6_code
def yX4_tellTie : MethodName := ⟨RX4, "tellTie", "(III)Z"⟩
abbrev cX4_tellDebt : ByteArray := prog_6_method_7_code
def yX4_tellDebt : MethodName := ⟨RX4, "tellDebt", "(III)Z"⟩
abbrev cX4_tellTrialAge : ByteArray := prog_6_method_8_code
def yX4_tellTrialAge : MethodName := ⟨RX4, "tellTrialAge", "(I)Z"⟩
abbrev cX4_has : ByteArray := prog_6_method_9_code
def yX4_has : MethodName := ⟨RX4, "has", "(I)Z"⟩
abbrev cX4_hasTwo : ByteArray := prog_6_method_10_code
def yX4_hasTwo : MethodName := ⟨RX4, "hasTwo", "(II)Z"⟩
abbrev cX4_lives : ByteArray := prog_6_method_11_code
def yX4_lives : MethodName := ⟨RX4, "lives", "(I)Z"⟩
abbrev cX4_hadTrial : ByteArray := prog_6_method_12_code
def yX4_hadTrial : MethodName := ⟨RX4, "hadTrial", "(I)Z"⟩
abbrev cX4_ageOf : ByteArray := prog_6_method_13_code
def yX4_ageOf : MethodName := ⟨RX4, "ageOf", "(I)I"⟩
abbrev cX4_tieOf : ByteArray := prog_6_method_14_code
def yX4_tieOf : MethodName := ⟨RX4, "tieOf", "(II)I"⟩
abbrev cX4_debtOf : ByteArray := prog_6_method_15_code
def yX4_debtOf : MethodName := ⟨RX4, "debtOf", "(II)I"⟩
abbrev cX4_cell : ByteArray := prog_6_method_16_code
def yX4_cell : MethodName := ⟨RX4, "cell", "(II)I"⟩
abbrev cX4_coinsOfAll : ByteArray := prog_6_method_17_code
def yX4_coinsOfAll : MethodName := ⟨RX4, "coinsOfAll", "()I"⟩
abbrev cX4_debtsOfAll : ByteArray := prog_6_method_18_code
def yX4_debtsOfAll : MethodName := ⟨RX4, "debtsOfAll", "()I"⟩
abbrev cX4_wouldCome : ByteArray := prog_6_method_19_code
def yX4_wouldCome : MethodName := ⟨RX4, "wouldCome", "(IIIIII)Z"⟩
abbrev cX4_guestsOf : ByteArray := prog_6_method_20_code
def yX4_guestsOf : MethodName := ⟨RX4, "guestsOf", "(III)I"⟩
abbrev cX4_giftsUntilComing : ByteArray := prog_6_method_21_code
def yX4_giftsUntilComing : MethodName := ⟨RX4, "giftsUntilComing", "(IIII)I"⟩
abbrev cX4_isDueForTrial : ByteArray := prog_6_method_22_code
def yX4_isDueForTrial : MethodName := ⟨RX4, "isDueForTrial", "(I)Z"⟩
abbrev cX4_canHoldTrial : ByteArray := prog_6_method_23_code
def yX4_canHoldTrial : MethodName := ⟨RX4, "canHoldTrial", "(III)Z"⟩
abbrev cX4_holdTrial : ByteArray := prog_6_method_24_code
def yX4_holdTrial : MethodName := ⟨RX4, "holdTrial", "(III)I"⟩
abbrev cX4_meet : ByteArray := prog_6_method_25_code
def yX4_meet : MethodName := ⟨RX4, "meet", "(IIZ)V"⟩
abbrev cX4_changeTie : ByteArray := prog_6_method_26_code
def yX4_changeTie : MethodName := ⟨RX4, "changeTie", "(III)V"⟩
abbrev cX4_payOff : ByteArray := prog_6_method_27_code
def yX4_payOff : MethodName := ⟨RX4, "payOff", "(III)I"⟩
abbrev cX4_receive : ByteArray := prog_6_method_28_code
def yX4_receive : MethodName := ⟨RX4, "receive", "(II)V"⟩
abbrev cX4_canGive : ByteArray := prog_6_method_29_code
def yX4_canGive : MethodName := ⟨RX4, "canGive", "(II)Z"⟩
abbrev cX4_give : ByteArray := prog_6_method_30_code
def yX4_give : MethodName := ⟨RX4, "give", "(II)V"⟩
abbrev cX4_heirOf : ByteArray := prog_6_method_31_code
def yX4_heirOf : MethodName := ⟨RX4, "heirOf", "(I)I"⟩
abbrev cX4_bury : ByteArray := prog_6_method_32_code
def yX4_bury : MethodName := ⟨RX4, "bury", "(I)I"⟩
abbrev cX4_bequeath : ByteArray := prog_6_method_33_code
def yX4_bequeath : MethodName := ⟨RX4, "bequeath", "(II)V"⟩
abbrev cX4_letDaysGoBy : ByteArray := prog_6_method_34_code
def yX4_letDaysGoBy : MethodName := ⟨RX4, "letDaysGoBy", "(I)V"⟩
abbrev cX4_liveOneDay : ByteArray := prog_6_method_35_code
def yX4_liveOneDay : MethodName := ⟨RX4, "liveOneDay", "(I)I"⟩
abbrev cX4_gainOf : ByteArray := prog_6_method_36_code
def yX4_gainOf : MethodName := ⟨RX4, "gainOf", "(II)I"⟩
def RX5 : String := "TrialFunerals"
def TX5 : u_T := fun k => match k with
  | 0 => ("TrialFunerals", "text", "LTrialFunerals$Text;", true)
  | 1 => ("TrialFunerals", "now", "LTrialFunerals$Village;", true)
  | 2 => ("TrialFunerals", "draft", "LTrialFunerals$Village;", true)
  | 3 => ("TrialFunerals", "undoable", "LTrialFunerals$Pile;", true)
  | 4 => ("TrialFunerals", "kept", "LTrialFunerals$Pile;", true)
  | 5 => ("TrialFunerals", "sightings", "LTrialFunerals$Sightings;", true)
  | _ => ("TrialFunerals", "orderSearch", "LTrialFunerals$OrderSearch;", true)
def tyX5 : Nat → FieldType := fun k => match k with
  | 0 => .object "TrialFunerals$Text"
  | 1 => .object "TrialFunerals$Village"
  | 2 => .object "TrialFunerals$Village"
  | 3 => .object "TrialFunerals$Pile"
  | 4 => .object "TrialFunerals$Pile"
  | 5 => .object "TrialFunerals$Sightings"
  | _ => .object "TrialFunerals$OrderSearch"
abbrev wsX50 : List Cond := u_ws RX5 TX5 7
theorem nmX5 : ∀ a, a < 7 → ∀ b, b < 7 → a ≠ b → (TX5 a).2.1 ≠ (TX5 b).2.1 := by decide +kernel
theorem tyX5_ok : ∀ k, k < 7 → parseFieldDescriptor (TX5 k).2.2.1 = some (tyX5 k) := by decide +kernel
abbrev cX5_init : ByteArray := prog_1_method_1_code
def yX5_init : MethodName := ⟨RX5, "<init>", "()V"⟩
abbrev cX5_write : ByteArray := prog_1_method_2_code
def yX5_write : MethodName := ⟨RX5, "write", "(I)I"⟩
abbrev cX5_wipe : ByteArray := prog_1_method_3_code
def yX5_wipe : MethodName := ⟨RX5, "wipe", "()I"⟩
abbrev cX5_fault : ByteArray := prog_1_method_4_code
def yX5_fault : MethodName := ⟨RX5, "fault", "()I"⟩
abbrev cX5_lay : ByteArray := prog_1_method_5_code
def yX5_lay : MethodName := ⟨RX5, "lay", "()I"⟩
abbrev cX5_person : ByteArray := prog_1_method_6_code
def yX5_person : MethodName := ⟨RX5, "person", "(II)I"⟩
abbrev cX5_tie : ByteArray := prog_1_method_7_code
def yX5_tie : MethodName := ⟨RX5, "tie", "(II)I"⟩
abbrev cX5_owes : ByteArray := prog_1_method_8_code
def yX5_owes : MethodName := ⟨RX5, "owes", "(II)I"⟩
abbrev cX5_trial : ByteArray := prog_1_method_9_code
def yX5_trial : MethodName := ⟨RX5, "trial", "(III)I"⟩
abbrev cX5_gift : ByteArray := prog_1_method_10_code
def yX5_gift : MethodName := ⟨RX5, "gift", "(II)I"⟩
abbrev cX5_pay : ByteArray := prog_1_method_11_code
def yX5_pay : MethodName := ⟨RX5, "pay", "(II)I"⟩
abbrev cX5_die : ByteArray := prog_1_method_12_code
def yX5_die : MethodName := ⟨RX5, "die", "(I)I"⟩
abbrev cX5_pass : ByteArray := prog_1_method_13_code
def yX5_pass : MethodName := ⟨RX5, "pass", "(I)I"⟩
abbrev cX5_undo : ByteArray := prog_1_method_14_code
def yX5_undo : MethodName := ⟨RX5, "undo", "()I"⟩
abbrev cX5_come : ByteArray := prog_1_method_15_code
def yX5_come : MethodName := ⟨RX5, "come", "(IIII)I"⟩
abbrev cX5_cheapest : ByteArray := prog_1_method_16_code
def yX5_cheapest : MethodName := ⟨RX5, "cheapest", "(III)I"⟩
abbrev cX5_gifts : ByteArray := prog_1_method_17_code
def yX5_gifts : MethodName := ⟨RX5, "gifts", "(IIII)I"⟩
abbrev cX5_order : ByteArray := prog_1_method_18_code
def yX5_order : MethodName := ⟨RX5, "order", "(III)I"⟩
abbrev cX5_mutual : ByteArray := prog_1_method_19_code
def yX5_mutual : MethodName := ⟨RX5, "mutual", "(III)I"⟩
abbrev cX5_see : ByteArray := prog_1_method_20_code
def yX5_see : MethodName := ⟨RX5, "see", "(IIIIZ)I"⟩
abbrev cX5_forget : ByteArray := prog_1_method_21_code
def yX5_forget : MethodName := ⟨RX5, "forget", "()I"⟩
abbrev cX5_felt : ByteArray := prog_1_method_22_code
def yX5_felt : MethodName := ⟨RX5, "felt", "(II)I"⟩
abbrev cX5_kinds : ByteArray := prog_1_method_23_code
def yX5_kinds : MethodName := ⟨RX5, "kinds", "(I)I"⟩
abbrev cX5_rain : ByteArray := prog_1_method_24_code
def yX5_rain : MethodName := ⟨RX5, "rain", "(IIIIII)I"⟩
abbrev cX5_year : ByteArray := prog_1_method_25_code
def yX5_year : MethodName := ⟨RX5, "year", "(III)I"⟩
abbrev cX5_keep : ByteArray := prog_1_method_26_code
def yX5_keep : MethodName := ⟨RX5, "keep", "()I"⟩
abbrev cX5_back : ByteArray := prog_1_method_27_code
def yX5_back : MethodName := ⟨RX5, "back", "()I"⟩
abbrev cX5_count : ByteArray := prog_1_method_28_code
def yX5_count : MethodName := ⟨RX5, "count", "(I)I"⟩
abbrev cX5_isSetOfOthers : ByteArray := prog_1_method_29_code
def yX5_isSetOfOthers : MethodName := ⟨RX5, "isSetOfOthers", "(II)Z"⟩
abbrev cX5_rests : ByteArray := prog_1_method_30_code
def yX5_rests : MethodName := ⟨RX5, "rests", "(III)Z"⟩
abbrev cX5_gainOfFirst : ByteArray := prog_1_method_31_code
def yX5_gainOfFirst : MethodName := ⟨RX5, "gainOfFirst", "(III)I"⟩
abbrev cX5_gainOfOther : ByteArray := prog_1_method_32_code
def yX5_gainOfOther : MethodName := ⟨RX5, "gainOfOther", "(III)I"⟩
abbrev cX5_visitEachOther : ByteArray := prog_1_method_33_code
def yX5_visitEachOther : MethodName := ⟨RX5, "visitEachOther", "(III)V"⟩
abbrev cX5_within : ByteArray := prog_1_method_34_code
def yX5_within : MethodName := ⟨RX5, "within", "(III)Z"⟩
abbrev cX5_isFare : ByteArray := prog_1_method_35_code
def yX5_isFare : MethodName := ⟨RX5, "isFare", "(II)Z"⟩
abbrev cX5_contains : ByteArray := prog_1_method_36_code
def yX5_contains : MethodName := ⟨RX5, "contains", "(II)Z"⟩
abbrev cX5_costOf : ByteArray := prog_1_method_37_code
def yX5_costOf : MethodName := ⟨RX5, "costOf", "(II)I"⟩
abbrev cX5_waysOfTenths : ByteArray := prog_1_method_38_code
def yX5_waysOfTenths : MethodName := ⟨RX5, "waysOfTenths", "(III)I"⟩
abbrev cX5_choices : ByteArray := prog_1_method_39_code
def yX5_choices : MethodName := ⟨RX5, "choices", "(II)I"⟩
abbrev cX5_power : ByteArray := prog_1_method_40_code
def yX5_power : MethodName := ⟨RX5, "power", "(II)I"⟩
abbrev cX5_commonDivisor : ByteArray := prog_1_method_41_code
def yX5_commonDivisor : MethodName := ⟨RX5, "commonDivisor", "(II)I"⟩
abbrev cX5_areAlike : ByteArray := prog_1_method_42_code
def yX5_areAlike : MethodName := ⟨RX5, "areAlike", "([I[I)Z"⟩
abbrev cX5_drawOf : ByteArray := prog_1_method_43_code
def yX5_drawOf : MethodName := ⟨RX5, "drawOf", "(II)I"⟩
def RX6 : String := "TrialFuneralsModel"
def TX6 : u_T := fun k => match k with
  | 0 => ("TrialFuneralsModel", "persons", "I", false)
  | 1 => ("TrialFuneralsModel", "sort", "[I", true)
  | 2 => ("TrialFuneralsModel", "age", "[I", true)
  | 3 => ("TrialFuneralsModel", "from", "I", false)
  | 4 => ("TrialFuneralsModel", "newPersons", "I", false)
  | 5 => ("TrialFuneralsModel", "newSort", "[I", true)
  | 6 => ("TrialFuneralsModel", "newAge", "[I", true)
  | 7 => ("TrialFuneralsModel", "newFrom", "I", false)
  | 8 => ("TrialFuneralsModel", "slot", "[I", true)
  | 9 => ("TrialFuneralsModel", "acts", "I", false)
  | 10 => ("TrialFuneralsModel", "keeps", "I", false)
  | 11 => ("TrialFuneralsModel", "length", "I", false)
  | 12 => ("TrialFuneralsModel", "text", "[B", true)
  | 13 => ("TrialFuneralsModel", "at", "I", false)
  | 14 => ("TrialFuneralsModel", "begin", "I", false)
  | 15 => ("TrialFuneralsModel", "isWrong", "Z", false)
  | 16 => ("TrialFuneralsModel", "seens", "I", false)
  | 17 => ("TrialFuneralsModel", "sawWho", "[I", true)
  | 18 => ("TrialFuneralsModel", "sawWhose", "[I", true)
  | 19 => ("TrialFuneralsModel", "sawBells", "[I", true)
  | 20 => ("TrialFuneralsModel", "sawCake", "[I", true)
  | 21 => ("TrialFuneralsModel", "sawSo", "[Z", true)
  | 22 => ("TrialFuneralsModel", "many", "I", false)
  | 23 => ("TrialFuneralsModel", "row", "[I", true)
  | _ => ("TrialFuneralsModel", "best", "[I", true)
def tyX6 : Nat → FieldType := fun k => match k with
  | 0 => .int
  | 1 => .array .int
  | 2 => .array .int
  | 3 => .int
  | 4 => .int
  | 5 => .array .int
  | 6 => .array .int
  | 7 => .int
  | 8 => .array .int
  | 9 => .int
  | 10 => .int
  | 11 => .int
  | 12 => .array .byte
  | 13 => .int
  | 14 => .int
  | 15 => .boolean
  | 16 => .int
  | 17 => .array .int
  | 18 => .array .int
  | 19 => .array .int
  | 20 => .array .int
  | 21 => .array .boolean
  | 22 => .int
  | 23 => .array .int
  | _ => .array .int
abbrev wsX60 : List Cond := u_ws RX6 TX6 25
theorem nmX6 : ∀ a, a < 25 → ∀ b, b < 25 → a ≠ b → (TX6 a).2.1 ≠ (TX6 b).2.1 := by decide +kernel
theorem tyX6_ok : ∀ k, k < 25 → parseFieldDescriptor (TX6 k).2.2.1 = some (tyX6 k) := by decide +kernel
abbrev cX6_init : ByteArray := prog_8_method_1_code
def yX6_init : MethodName := ⟨RX6, "<init>", "()V"⟩
abbrev cX6_in : ByteArray := prog_8_method_2_code
def yX6_in : MethodName := ⟨RX6, "in", "(JJJ)Z"⟩
abbrev cX6_has : ByteArray := prog_8_method_3_code
def yX6_has : MethodName := ⟨RX6, "has", "(II)Z"⟩
abbrev cX6_smaller : ByteArray := prog_8_method_4_code
def yX6_smaller : MethodName := ⟨RX6, "smaller", "(II)I"⟩
abbrev cX6_larger : ByteArray := prog_8_method_5_code
def yX6_larger : MethodName := ⟨RX6, "larger", "(II)I"⟩
abbrev cX6_lives : ByteArray := prog_8_method_6_code
def yX6_lives : MethodName := ⟨RX6, "lives", "(IIII)V"⟩
abbrev cX6_settles : ByteArray := prog_8_method_7_code
def yX6_settles : MethodName := ⟨RX6, "settles", "()V"⟩
abbrev cX6_copies : ByteArray := prog_8_method_8_code
def yX6_copies : MethodName := ⟨RX6, "copies", "(II)V"⟩
abbrev cX6_isPerson : ByteArray := prog_8_method_9_code
def yX6_isPerson : MethodName := ⟨RX6, "isPerson", "(I)Z"⟩
abbrev cX6_areTwo : ByteArray := prog_8_method_10_code
def yX6_areTwo : MethodName := ⟨RX6, "areTwo", "(II)Z"⟩
abbrev cX6_write : ByteArray := prog_8_method_11_code
def yX6_write : MethodName := ⟨RX6, "write", "(I)I"⟩
abbrev cX6_wipe : ByteArray := prog_8_method_12_code
def yX6_wipe : MethodName := ⟨RX6, "wipe", "()I"⟩
abbrev cX6_next : ByteArray := prog_8_method_13_code
def yX6_next : MethodName := ⟨RX6, "next", "()I"⟩
abbrev cX6_number : ByteArray := prog_8_method_14_code
def yX6_number : MethodName := ⟨RX6, "number", "(II)I"⟩
abbrev cX6_more : ByteArray := prog_8_method_15_code
def yX6_more : MethodName := ⟨RX6, "more", "(II)I"⟩
abbrev cX6_item : ByteArray := prog_8_method_16_code
def yX6_item : MethodName := ⟨RX6, "item", "(I)V"⟩
abbrev cX6_reads : ByteArray := prog_8_method_17_code
def yX6_reads : MethodName := ⟨RX6, "reads", "()Z"⟩
abbrev cX6_fault : ByteArray := prog_8_method_18_code
def yX6_fault : MethodName := ⟨RX6, "fault", "()I"⟩
abbrev cX6_lay : ByteArray := prog_8_method_19_code
def yX6_lay : MethodName := ⟨RX6, "lay", "()I"⟩
abbrev cX6_isAlive : ByteArray := prog_8_method_20_code
def yX6_isAlive : MethodName := ⟨RX6, "isAlive", "(II)Z"⟩
abbrev cX6_ageOf : ByteArray := prog_8_method_21_code
def yX6_ageOf : MethodName := ⟨RX6, "ageOf", "(II)I"⟩
abbrev cX6_heir : ByteArray := prog_8_method_22_code
def yX6_heir : MethodName := ⟨RX6, "heir", "(II)I"⟩
abbrev cX6_person : ByteArray := prog_8_method_23_code
def yX6_person : MethodName := ⟨RX6, "person", "(II)I"⟩
abbrev cX6_tie : ByteArray := prog_8_method_24_code
def yX6_tie : MethodName := ⟨RX6, "tie", "(II)I"⟩
abbrev cX6_owes : ByteArray := prog_8_method_25_code
def yX6_owes : MethodName := ⟨RX6, "owes", "(II)I"⟩
abbrev cX6_likes : ByteArray := prog_8_method_26_code
def yX6_likes : MethodName := ⟨RX6, "likes", "(IIIIIII)Z"⟩
abbrev cX6_comes : ByteArray := prog_8_method_27_code
def yX6_comes : MethodName := ⟨RX6, "comes", "(IIIII)Z"⟩
abbrev cX6_comers : ByteArray := prog_8_method_28_code
def yX6_comers : MethodName := ⟨RX6, "comers", "(IIII)I"⟩
abbrev cX6_bits : ByteArray := prog_8_method_29_code
def yX6_bits : MethodName := ⟨RX6, "bits", "(I)I"⟩
abbrev cX6_known : ByteArray := prog_8_method_30_code
def yX6_known : MethodName := ⟨RX6, "known", "()V"⟩
abbrev cX6_gets : ByteArray := prog_8_method_31_code
def yX6_gets : MethodName := ⟨RX6, "gets", "(III)V"⟩
abbrev cX6_ties : ByteArray := prog_8_method_32_code
def yX6_ties : MethodName := ⟨RX6, "ties", "(IIII)V"⟩
abbrev cX6_pays : ByteArray := prog_8_method_33_code
def yX6_pays : MethodName := ⟨RX6, "pays", "(IIII)I"⟩
abbrev cX6_changes : ByteArray := prog_8_method_34_code
def yX6_changes : MethodName := ⟨RX6, "changes", "(IIIZ)V"⟩
abbrev cX6_couldHave : ByteArray := prog_8_method_35_code
def yX6_couldHave : MethodName := ⟨RX6, "couldHave", "(II)Z"⟩
abbrev cX6_canHave : ByteArray := prog_8_method_36_code
def yX6_canHave : MethodName := ⟨RX6, "canHave", "(IIII)Z"⟩
abbrev cX6_holds : ByteArray := prog_8_method_37_code
def yX6_holds : MethodName := ⟨RX6, "holds", "(IIII)I"⟩
abbrev cX6_areBells : ByteArray := prog_8_method_38_code
def yX6_areBells : MethodName := ⟨RX6, "areBells", "(II)Z"⟩
abbrev cX6_trial : ByteArray := prog_8_method_39_code
def yX6_trial : MethodName := ⟨RX6, "trial", "(III)I"⟩
abbrev cX6_canGive : ByteArray := prog_8_method_40_code
def yX6_canGive : MethodName := ⟨RX6, "canGive", "(III)Z"⟩
abbrev cX6_gives : ByteArray := prog_8_method_41_code
def yX6_gives : MethodName := ⟨RX6, "gives", "(III)V"⟩
abbrev cX6_gift : ByteArray := prog_8_method_42_code
def yX6_gift : MethodName := ⟨RX6, "gift", "(II)I"⟩
abbrev cX6_pay : ByteArray := prog_8_method_43_code
def yX6_pay : MethodName := ⟨RX6, "pay", "(II)I"⟩
abbrev cX6_die : ByteArray := prog_8_method_44_code
def yX6_die : MethodName := ⟨RX6, "die", "(I)I"⟩
abbrev cX6_pass : ByteArray := prog_8_method_45_code
def yX6_pass : MethodName := ⟨RX6, "pass", "(I)I"⟩
abbrev cX6_undo : ByteArray := prog_8_method_46_code
def yX6_undo : MethodName := ⟨RX6, "undo", "()I"⟩
abbrev cX6_come : ByteArray := prog_8_method_47_code
def yX6_come : MethodName := ⟨RX6, "come", "(IIII)I"⟩
abbrev cX6_isSet : ByteArray := prog_8_method_48_code
def yX6_isSet : MethodName := ⟨RX6, "isSet", "(II)Z"⟩
abbrev cX6_cheapest : ByteArray := prog_8_method_49_code
def yX6_cheapest : MethodName := ⟨RX6, "cheapest", "(III)I"⟩
abbrev cX6_gifts : ByteArray := prog_8_method_50_code
def yX6_gifts : MethodName := ⟨RX6, "gifts", "(IIII)I"⟩
abbrev cX6_lists : ByteArray := prog_8_method_51_code
def yX6_lists : MethodName := ⟨RX6, "lists", "()V"⟩
abbrev cX6_swaps : ByteArray := prog_8_method_52_code
def yX6_swaps : MethodName := ⟨RX6, "swaps", "(II)V"⟩
abbrev cX6_goesOn : ByteArray := prog_8_method_53_code
def yX6_goesOn : MethodName := ⟨RX6, "goesOn", "()Z"⟩
abbrev cX6_order : ByteArray := prog_8_method_54_code
def yX6_order : MethodName := ⟨RX6, "order", "(III)I"⟩
abbrev cX6_worth : ByteArray := prog_8_method_55_code
def yX6_worth : MethodName := ⟨RX6, "worth", "(IIIZ)I"⟩
abbrev cX6_mutual : ByteArray := prog_8_method_56_code
def yX6_mutual : MethodName := ⟨RX6, "mutual", "(III)I"⟩
abbrev cX6_see : ByteArray := prog_8_method_57_code
def yX6_see : MethodName := ⟨RX6, "see", "(IIIIZ)I"⟩
abbrev cX6_forget : ByteArray := prog_8_method_58_code
def yX6_forget : MethodName := ⟨RX6, "forget", "()I"⟩
abbrev cX6_felt : ByteArray := prog_8_method_59_code
def yX6_felt : MethodName := ⟨RX6, "felt", "(II)I"⟩
abbrev cX6_kinds : ByteArray := prog_8_method_60_code
def yX6_kinds : MethodName := ⟨RX6, "kinds", "(I)I"⟩
abbrev cX6_rain : ByteArray := prog_8_method_61_code
def yX6_rain : MethodName := ⟨RX6, "rain", "(IIIIII)I"⟩
abbrev cX6_allCoins : ByteArray := prog_8_method_62_code
def yX6_allCoins : MethodName := ⟨RX6, "allCoins", "(I)I"⟩
abbrev cX6_year : ByteArray := prog_8_method_63_code
def yX6_year : MethodName := ⟨RX6, "year", "(III)I"⟩
abbrev cX6_keep : ByteArray := prog_8_method_64_code
def yX6_keep : MethodName := ⟨RX6, "keep", "()I"⟩
abbrev cX6_back : ByteArray := prog_8_method_65_code
def yX6_back : MethodName := ⟨RX6, "back", "()I"⟩
abbrev cX6_allOwed : ByteArray := prog_8_method_66_code
def yX6_allOwed : MethodName := ⟨RX6, "allOwed", "()I"⟩
abbrev cX6_count : ByteArray := prog_8_method_67_code
def yX6_count : MethodName := ⟨RX6, "count", "(I)I"⟩
def RL : String := "TrialFuneralsLaw"
def RJ6 : String := "java/lang/Integer"
abbrev cJ6_bitCount_0f7a4 : ByteArray := prog_9_method_49_code
def yJ6_bitCount_0f7a4 : MethodName := ⟨RJ6, "bitCount", "(I)I"⟩
def RJ9 : String := "java/lang/Math"
abbrev cJ9_max_7cf53 : ByteArray := prog_10_method_65_code
def yJ9_max_7cf53 : MethodName := ⟨RJ9, "max", "(II)I"⟩
abbrev cJ9_min_7cf53 : ByteArray := prog_10_method_69_code
def yJ9_min_7cf53 : MethodName := ⟨RJ9, "min", "(II)I"⟩
def RJ0 : String := "java/lang/String"
abbrev cJ0_length_8abf5 : ByteArray := prog_11_method_54_code
def yJ0_length_8abf5 : MethodName := ⟨RJ0, "length", "()I"⟩
abbrev cJ0_charAt_5068e : ByteArray := prog_11_method_56_code
def yJ0_charAt_5068e : MethodName := ⟨RJ0, "charAt", "(I)C"⟩
abbrev cJ0_coder_7d493 : ByteArray := prog_11_method_152_code
def yJ0_coder_7d493 : MethodName := ⟨RJ0, "coder", "()B"⟩
abbrev cJ0_isLatin1_aae02 : ByteArray := prog_11_method_154_code
def yJ0_isLatin1_aae02 : MethodName := ⟨RJ0, "isLatin1", "()Z"⟩
abbrev cJ0_checkIndex_df160 : ByteArray := prog_11_method_155_code
def yJ0_checkIndex_df160 : MethodName := ⟨RJ0, "checkIndex", "(II)V"⟩
def RJ1 : String := "java/lang/StringLatin1"
abbrev cJ1_charAt_3b067 : ByteArray := prog_12_method_2_code
def yJ1_charAt_3b067 : MethodName := ⟨RJ1, "charAt", "([BI)C"⟩
def RJ2 : String := "java/lang/StringUTF16"
abbrev cJ2_getChar_3b067 : ByteArray := prog_13_method_5_code
def yJ2_getChar_3b067 : MethodName := ⟨RJ2, "getChar", "([BI)C"⟩
abbrev cJ2_length_9d52b : ByteArray := prog_13_method_6_code
def yJ2_length_9d52b : MethodName := ⟨RJ2, "length", "([B)I"⟩
abbrev cJ2_charAt_3b067 : ByteArray := prog_13_method_83_code
def yJ2_charAt_3b067 : MethodName := ⟨RJ2, "charAt", "([BI)C"⟩
abbrev cJ2_checkIndex_2214a : ByteArray := prog_13_method_91_code
def yJ2_checkIndex_2214a : MethodName := ⟨RJ2, "checkIndex", "(I[B)V"⟩
def RJ10 : String := "java/lang/System"
def RJ3 : String := "jdk/internal/util/Preconditions"
abbrev cJ3_checkIndex_8e157 : ByteArray := prog_15_method_11_code
def yJ3_checkIndex_8e157 : MethodName := ⟨RJ3, "checkIndex", "(IILjava/util/function/BiFunction;)I"⟩
abbrev vwCl : List vw_C := [(RX0, TX0, 8), (RX1, TX1, 3), (RX2, TX2, 6), (RX3, TX3, 4), (RX4, TX4, 11), (RX5, TX5, 7), (RX6, TX6, 25)]
def kw_T : List Cond := lw_tbl.filter goodWord
theorem kw_mem {w : Cond} (i : Nat) (h : lw_tbl[i]? = some w) (g : goodWord w = true) : w ∈ kw_T := List.mem_filter.mpr ⟨List.mem_of_getElem? h, g⟩
theorem kw_in {ws : List Cond} (h : ∀ w ∈ ws, w ∈ lw_tbl) (g : ws.all goodWord = true) : ∀ w ∈ ws, w ∈ kw_T := fun w hw => List.mem_filter.mpr ⟨h w hw, List.all_eq_true.mp g w hw⟩
theorem kw_T_good : GoodIn kw_T kw_T := fun w hw => ⟨hw, good_of_word (List.mem_filter.mp hw).2⟩
theorem kw_iX0 : ∀ w ∈ u_ws RX0 TX0 8, w ∈ kw_T := kw_in (by decide +kernel) (by decide +kernel)
theorem kw_iX1 : ∀ w ∈ u_ws RX1 TX1 3, w ∈ kw_T := kw_in (by decide +kernel) (by decide +kernel)
theorem kw_iX2 : ∀ w ∈ u_ws RX2 TX2 6, w ∈ kw_T := kw_in (by decide +kernel) (by decide +kernel)
theorem kw_iX3 : ∀ w ∈ u_ws RX3 TX3 4, w ∈ kw_T := kw_in (by decide +kernel) (by decide +kernel)
theorem kw_iX4 : ∀ w ∈ u_ws RX4 TX4 11, w ∈ kw_T := kw_in (by decide +kernel) (by decide +kernel)
theorem kw_iX5 : ∀ w ∈ u_ws RX5 TX5 7, w ∈ kw_T := kw_in (by decide +kernel) (by decide +kernel)
theorem kw_iX6 : ∀ w ∈ u_ws RX6 TX6 25, w ∈ kw_T := kw_in (by decide +kernel) (by decide +kernel)
theorem kf_X3_9 : Cond.fieldLink RX3 9 "TrialFunerals$Text" "letters" "[C" ∈ kw_T := kw_mem 67 (by decide +kernel) (by decide +kernel)
theorem kf_X3_15 : Cond.fieldLink RX3 15 "TrialFunerals$Text" "numbers" "[I" ∈ kw_T := kw_mem 68 (by decide +kernel) (by decide +kernel)
theorem kf_X3_19 : Cond.fieldLink RX3 19 "TrialFunerals$Text" "length" "I" ∈ kw_T := kw_mem 69 (by decide +kernel) (by decide +kernel)
theorem kf_X5_83 : Cond.fieldLink RX5 83 "TrialFunerals$Text" "length" "I" ∈ kw_T := kw_mem 70 (by decide +kernel) (by decide +kernel)
theorem kf_X3_23 : Cond.fieldLink RX3 23 "TrialFunerals$Text" "place" "I" ∈ kw_T := kw_mem 71 (by decide +kernel) (by decide +kernel)
theorem kf_X4_9 : Cond.fieldLink RX4 9 "TrialFunerals$Village" "kinds" "[I" ∈ kw_T := kw_mem 89 (by decide +kernel) (by decide +kernel)
theorem kf_X2_40 : Cond.fieldLink RX2 40 "TrialFunerals$Village" "kinds" "[I" ∈ kw_T := kw_mem 90 (by decide +kernel) (by decide +kernel)
theorem kf_X5_101 : Cond.fieldLink RX5 101 "TrialFunerals$Village" "kinds" "[I" ∈ kw_T := kw_mem 91 (by decide +kernel) (by decide +kernel)
theorem kf_X4_15 : Cond.fieldLink RX4 15 "TrialFunerals$Village" "agesTold" "[I" ∈ kw_T := kw_mem 92 (by decide +kernel) (by decide +kernel)
theorem kf_X4_18 : Cond.fieldLink RX4 18 "TrialFunerals$Village" "coins" "[I" ∈ kw_T := kw_mem 93 (by decide +kernel) (by decide +kernel)
theorem kf_X5_109 : Cond.fieldLink RX5 109 "TrialFunerals$Village" "coins" "[I" ∈ kw_T := kw_mem 94 (by decide +kernel) (by decide +kernel)
theorem kf_X4_21 : Cond.fieldLink RX4 21 "TrialFunerals$Village" "ties" "[I" ∈ kw_T := kw_mem 95 (by decide +kernel) (by decide +kernel)
theorem kf_X4_24 : Cond.fieldLink RX4 24 "TrialFunerals$Village" "debts" "[I" ∈ kw_T := kw_mem 96 (by decide +kernel) (by decide +kernel)
theorem kf_X4_27 : Cond.fieldLink RX4 27 "TrialFunerals$Village" "persons" "I" ∈ kw_T := kw_mem 97 (by decide +kernel) (by decide +kernel)
theorem kf_X0_49 : Cond.fieldLink RX0 49 "TrialFunerals$Village" "persons" "I" ∈ kw_T := kw_mem 98 (by decide +kernel) (by decide +kernel)
theorem kf_X5_86 : Cond.fieldLink RX5 86 "TrialFunerals$Village" "persons" "I" ∈ kw_T := kw_mem 99 (by decide +kernel) (by decide +kernel)
theorem kf_X4_31 : Cond.fieldLink RX4 31 "TrialFunerals$Village" "trialAge" "I" ∈ kw_T := kw_mem 100 (by decide +kernel) (by decide +kernel)
theorem kf_X4_34 : Cond.fieldLink RX4 34 "TrialFunerals$Village" "deadSet" "I" ∈ kw_T := kw_mem 101 (by decide +kernel) (by decide +kernel)
theorem kf_X5_244 : Cond.fieldLink RX5 244 "TrialFunerals$Village" "deadSet" "I" ∈ kw_T := kw_mem 102 (by decide +kernel) (by decide +kernel)
theorem kf_X4_37 : Cond.fieldLink RX4 37 "TrialFunerals$Village" "hadSet" "I" ∈ kw_T := kw_mem 103 (by decide +kernel) (by decide +kernel)
theorem kf_X5_247 : Cond.fieldLink RX5 247 "TrialFunerals$Village" "hadSet" "I" ∈ kw_T := kw_mem 104 (by decide +kernel) (by decide +kernel)
theorem kf_X4_40 : Cond.fieldLink RX4 40 "TrialFunerals$Village" "days" "I" ∈ kw_T := kw_mem 105 (by decide +kernel) (by decide +kernel)
theorem kf_X5_161 : Cond.fieldLink RX5 161 "TrialFunerals$Village" "days" "I" ∈ kw_T := kw_mem 106 (by decide +kernel) (by decide +kernel)
theorem kf_X4_43 : Cond.fieldLink RX4 43 "TrialFunerals$Village" "trialsToday" "I" ∈ kw_T := kw_mem 107 (by decide +kernel) (by decide +kernel)
theorem kf_X5_250 : Cond.fieldLink RX5 250 "TrialFunerals$Village" "trialsToday" "I" ∈ kw_T := kw_mem 108 (by decide +kernel) (by decide +kernel)
theorem kf_X1_24 : Cond.fieldLink RX1 24 "TrialFunerals$Pile" "villages" "[LTrialFunerals$Village;" ∈ kw_T := kw_mem 144 (by decide +kernel) (by decide +kernel)
theorem kf_X1_7 : Cond.fieldLink RX1 7 "TrialFunerals$Pile" "size" "I" ∈ kw_T := kw_mem 145 (by decide +kernel) (by decide +kernel)
theorem kf_X5_164 : Cond.fieldLink RX5 164 "TrialFunerals$Pile" "size" "I" ∈ kw_T := kw_mem 146 (by decide +kernel) (by decide +kernel)
theorem kf_X1_13 : Cond.fieldLink RX1 13 "TrialFunerals$Pile" "top" "I" ∈ kw_T := kw_mem 147 (by decide +kernel) (by decide +kernel)
theorem kf_X2_9 : Cond.fieldLink RX2 9 "TrialFunerals$Sightings" "guests" "[I" ∈ kw_T := kw_mem 161 (by decide +kernel) (by decide +kernel)
theorem kf_X2_15 : Cond.fieldLink RX2 15 "TrialFunerals$Sightings" "hosts" "[I" ∈ kw_T := kw_mem 162 (by decide +kernel) (by decide +kernel)
theorem kf_X2_18 : Cond.fieldLink RX2 18 "TrialFunerals$Sightings" "bells" "[I" ∈ kw_T := kw_mem 163 (by decide +kernel) (by decide +kernel)
theorem kf_X2_21 : Cond.fieldLink RX2 21 "TrialFunerals$Sightings" "cakes" "[I" ∈ kw_T := kw_mem 164 (by decide +kernel) (by decide +kernel)
theorem kf_X2_24 : Cond.fieldLink RX2 24 "TrialFunerals$Sightings" "would" "[Z" ∈ kw_T := kw_mem 165 (by decide +kernel) (by decide +kernel)
theorem kf_X2_28 : Cond.fieldLink RX2 28 "TrialFunerals$Sightings" "size" "I" ∈ kw_T := kw_mem 166 (by decide +kernel) (by decide +kernel)
theorem kf_X5_94 : Cond.fieldLink RX5 94 "TrialFunerals$Sightings" "size" "I" ∈ kw_T := kw_mem 167 (by decide +kernel) (by decide +kernel)
theorem kf_X0_11 : Cond.fieldLink RX0 11 "TrialFunerals$OrderSearch" "levels" "[LTrialFunerals$Village;" ∈ kw_T := kw_mem 190 (by decide +kernel) (by decide +kernel)
theorem kf_X0_17 : Cond.fieldLink RX0 17 "TrialFunerals$OrderSearch" "path" "[I" ∈ kw_T := kw_mem 191 (by decide +kernel) (by decide +kernel)
theorem kf_X0_21 : Cond.fieldLink RX0 21 "TrialFunerals$OrderSearch" "best" "[I" ∈ kw_T := kw_mem 192 (by decide +kernel) (by decide +kernel)
theorem kf_X5_208 : Cond.fieldLink RX5 208 "TrialFunerals$OrderSearch" "best" "[I" ∈ kw_T := kw_mem 193 (by decide +kernel) (by decide +kernel)
theorem kf_X0_24 : Cond.fieldLink RX0 24 "TrialFunerals$OrderSearch" "bells" "I" ∈ kw_T := kw_mem 194 (by decide +kernel) (by decide +kernel)
theorem kf_X0_28 : Cond.fieldLink RX0 28 "TrialFunerals$OrderSearch" "cake" "I" ∈ kw_T := kw_mem 195 (by decide +kernel) (by decide +kernel)
theorem kf_X0_31 : Cond.fieldLink RX0 31 "TrialFunerals$OrderSearch" "due" "I" ∈ kw_T := kw_mem 196 (by decide +kernel) (by decide +kernel)
theorem kf_X5_197 : Cond.fieldLink RX5 197 "TrialFunerals$OrderSearch" "due" "I" ∈ kw_T := kw_mem 197 (by decide +kernel) (by decide +kernel)
theorem kf_X0_34 : Cond.fieldLink RX0 34 "TrialFunerals$OrderSearch" "size" "I" ∈ kw_T := kw_mem 198 (by decide +kernel) (by decide +kernel)
theorem kf_X5_207 : Cond.fieldLink RX5 207 "TrialFunerals$OrderSearch" "size" "I" ∈ kw_T := kw_mem 199 (by decide +kernel) (by decide +kernel)
theorem kf_X0_37 : Cond.fieldLink RX0 37 "TrialFunerals$OrderSearch" "most" "I" ∈ kw_T := kw_mem 200 (by decide +kernel) (by decide +kernel)
theorem kf_X5_204 : Cond.fieldLink RX5 204 "TrialFunerals$OrderSearch" "most" "I" ∈ kw_T := kw_mem 201 (by decide +kernel) (by decide +kernel)
theorem kf_J0_38 : Cond.fieldLink RJ0 38 "java/lang/String" "COMPACT_STRINGS" "Z" ∈ kw_T := kw_mem 228 (by decide +kernel) (by decide +kernel)
theorem kf_J0_1053 : Cond.fieldLink RJ0 1053 "jdk/internal/util/Preconditions" "SIOOBE_FORMATTER" "Ljava/util/function/BiFunction;" ∈ kw_T := kw_mem 244 (by decide +kernel) (by decide +kernel)
theorem kf_J2_44 : Cond.fieldLink RJ2 44 "java/lang/StringUTF16" "$assertionsDisabled" "Z" ∈ kw_T := kw_mem 262 (by decide +kernel) (by decide +kernel)
theorem kf_J2_59 : Cond.fieldLink RJ2 59 "java/lang/StringUTF16" "HI_BYTE_SHIFT" "I" ∈ kw_T := kw_mem 264 (by decide +kernel) (by decide +kernel)
theorem kf_J2_63 : Cond.fieldLink RJ2 63 "java/lang/StringUTF16" "LO_BYTE_SHIFT" "I" ∈ kw_T := kw_mem 266 (by decide +kernel) (by decide +kernel)
theorem kf_X5_10 : Cond.fieldLink RX5 10 "TrialFunerals" "text" "LTrialFunerals$Text;" ∈ kw_T := kw_mem 336 (by decide +kernel) (by decide +kernel)
theorem kf_X5_19 : Cond.fieldLink RX5 19 "TrialFunerals" "now" "LTrialFunerals$Village;" ∈ kw_T := kw_mem 337 (by decide +kernel) (by decide +kernel)
theorem kf_X5_23 : Cond.fieldLink RX5 23 "TrialFunerals" "draft" "LTrialFunerals$Village;" ∈ kw_T := kw_mem 338 (by decide +kernel) (by decide +kernel)
theorem kf_X5_31 : Cond.fieldLink RX5 31 "TrialFunerals" "undoable" "LTrialFunerals$Pile;" ∈ kw_T := kw_mem 339 (by decide +kernel) (by decide +kernel)
theorem kf_X5_35 : Cond.fieldLink RX5 35 "TrialFunerals" "kept" "LTrialFunerals$Pile;" ∈ kw_T := kw_mem 340 (by decide +kernel) (by decide +kernel)
theorem kf_X5_41 : Cond.fieldLink RX5 41 "TrialFunerals" "sightings" "LTrialFunerals$Sightings;" ∈ kw_T := kw_mem 341 (by decide +kernel) (by decide +kernel)
theorem kf_X5_48 : Cond.fieldLink RX5 48 "TrialFunerals" "orderSearch" "LTrialFunerals$OrderSearch;" ∈ kw_T := kw_mem 342 (by decide +kernel) (by decide +kernel)
theorem kf_X6_65 : Cond.fieldLink RX6 65 "TrialFuneralsModel" "persons" "I" ∈ kw_T := kw_mem 743 (by decide +kernel) (by decide +kernel)
theorem kf_X6_7 : Cond.fieldLink RX6 7 "TrialFuneralsModel" "sort" "[I" ∈ kw_T := kw_mem 744 (by decide +kernel) (by decide +kernel)
theorem kf_X6_13 : Cond.fieldLink RX6 13 "TrialFuneralsModel" "age" "[I" ∈ kw_T := kw_mem 745 (by decide +kernel) (by decide +kernel)
theorem kf_X6_68 : Cond.fieldLink RX6 68 "TrialFuneralsModel" "from" "I" ∈ kw_T := kw_mem 746 (by decide +kernel) (by decide +kernel)
theorem kf_X6_62 : Cond.fieldLink RX6 62 "TrialFuneralsModel" "newPersons" "I" ∈ kw_T := kw_mem 747 (by decide +kernel) (by decide +kernel)
theorem kf_X6_16 : Cond.fieldLink RX6 16 "TrialFuneralsModel" "newSort" "[I" ∈ kw_T := kw_mem 748 (by decide +kernel) (by decide +kernel)
theorem kf_X6_19 : Cond.fieldLink RX6 19 "TrialFuneralsModel" "newAge" "[I" ∈ kw_T := kw_mem 749 (by decide +kernel) (by decide +kernel)
theorem kf_X6_55 : Cond.fieldLink RX6 55 "TrialFuneralsModel" "newFrom" "I" ∈ kw_T := kw_mem 750 (by decide +kernel) (by decide +kernel)
theorem kf_X6_22 : Cond.fieldLink RX6 22 "TrialFuneralsModel" "slot" "[I" ∈ kw_T := kw_mem 751 (by decide +kernel) (by decide +kernel)
theorem kf_X6_123 : Cond.fieldLink RX6 123 "TrialFuneralsModel" "acts" "I" ∈ kw_T := kw_mem 752 (by decide +kernel) (by decide +kernel)
theorem kf_X6_126 : Cond.fieldLink RX6 126 "TrialFuneralsModel" "keeps" "I" ∈ kw_T := kw_mem 753 (by decide +kernel) (by decide +kernel)
theorem kf_X6_83 : Cond.fieldLink RX6 83 "TrialFuneralsModel" "length" "I" ∈ kw_T := kw_mem 754 (by decide +kernel) (by decide +kernel)
theorem kf_X6_25 : Cond.fieldLink RX6 25 "TrialFuneralsModel" "text" "[B" ∈ kw_T := kw_mem 755 (by decide +kernel) (by decide +kernel)
theorem kf_X6_86 : Cond.fieldLink RX6 86 "TrialFuneralsModel" "at" "I" ∈ kw_T := kw_mem 756 (by decide +kernel) (by decide +kernel)
theorem kf_X6_108 : Cond.fieldLink RX6 108 "TrialFuneralsModel" "begin" "I" ∈ kw_T := kw_mem 757 (by decide +kernel) (by decide +kernel)
theorem kf_X6_97 : Cond.fieldLink RX6 97 "TrialFuneralsModel" "isWrong" "Z" ∈ kw_T := kw_mem 758 (by decide +kernel) (by decide +kernel)
theorem kf_X6_129 : Cond.fieldLink RX6 129 "TrialFuneralsModel" "seens" "I" ∈ kw_T := kw_mem 759 (by decide +kernel) (by decide +kernel)
theorem kf_X6_29 : Cond.fieldLink RX6 29 "TrialFuneralsModel" "sawWho" "[I" ∈ kw_T := kw_mem 760 (by decide +kernel) (by decide +kernel)
theorem kf_X6_32 : Cond.fieldLink RX6 32 "TrialFuneralsModel" "sawWhose" "[I" ∈ kw_T := kw_mem 761 (by decide +kernel) (by decide +kernel)
theorem kf_X6_35 : Cond.fieldLink RX6 35 "TrialFuneralsModel" "sawBells" "[I" ∈ kw_T := kw_mem 762 (by decide +kernel) (by decide +kernel)
theorem kf_X6_38 : Cond.fieldLink RX6 38 "TrialFuneralsModel" "sawCake" "[I" ∈ kw_T := kw_mem 763 (by decide +kernel) (by decide +kernel)
theorem kf_X6_41 : Cond.fieldLink RX6 41 "TrialFuneralsModel" "sawSo" "[Z" ∈ kw_T := kw_mem 764 (by decide +kernel) (by decide +kernel)
theorem kf_X6_216 : Cond.fieldLink RX6 216 "TrialFuneralsModel" "many" "I" ∈ kw_T := kw_mem 765 (by decide +kernel) (by decide +kernel)
theorem kf_X6_45 : Cond.fieldLink RX6 45 "TrialFuneralsModel" "row" "[I" ∈ kw_T := kw_mem 766 (by decide +kernel) (by decide +kernel)
theorem kf_X6_48 : Cond.fieldLink RX6 48 "TrialFuneralsModel" "best" "[I" ∈ kw_T := kw_mem 767 (by decide +kernel) (by decide +kernel)
theorem kf_J0_9 : Cond.fieldLink RJ0 9 "java/lang/String" "value" "[B" ∈ kw_T := kw_mem 1083 (by decide +kernel) (by decide +kernel)
theorem kf_J0_15 : Cond.fieldLink RJ0 15 "java/lang/String" "coder" "B" ∈ kw_T := kw_mem 1084 (by decide +kernel) (by decide +kernel)
theorem kl_L_9 : Cond.methodLink RL 9 yX5_init ∈ kw_T := kw_mem 55 (by decide +kernel) (by decide +kernel)
theorem kl_X5_1 : Cond.methodLink RX5 1 ⟨"java/lang/Object", "<init>", "()V"⟩ ∈ kw_T := kw_mem 58 (by decide +kernel) (by decide +kernel)
theorem kl_X3_3 : Cond.methodLink RX3 3 ⟨"java/lang/Object", "<init>", "()V"⟩ ∈ kw_T := kw_mem 66 (by decide +kernel) (by decide +kernel)
theorem kl_X4_3 : Cond.methodLink RX4 3 ⟨"java/lang/Object", "<init>", "()V"⟩ ∈ kw_T := kw_mem 88 (by decide +kernel) (by decide +kernel)
theorem kl_X5_28 : Cond.methodLink RX5 28 yX1_init ∈ kw_T := kw_mem 134 (by decide +kernel) (by decide +kernel)
theorem kl_X1_1 : Cond.methodLink RX1 1 ⟨"java/lang/Object", "<init>", "()V"⟩ ∈ kw_T := kw_mem 137 (by decide +kernel) (by decide +kernel)
theorem kl_X1_16 : Cond.methodLink RX1 16 yJ9_max_7cf53 ∈ kw_T := kw_mem 138 (by decide +kernel) (by decide +kernel)
theorem kl_X2_3 : Cond.methodLink RX2 3 ⟨"java/lang/Object", "<init>", "()V"⟩ ∈ kw_T := kw_mem 160 (by decide +kernel) (by decide +kernel)
theorem kl_X5_47 : Cond.methodLink RX5 47 yX0_init ∈ kw_T := kw_mem 184 (by decide +kernel) (by decide +kernel)
theorem kl_X0_3 : Cond.methodLink RX0 3 ⟨"java/lang/Object", "<init>", "()V"⟩ ∈ kw_T := kw_mem 187 (by decide +kernel) (by decide +kernel)
theorem kl_X5_54 : Cond.methodLink RX5 54 yJ0_length_8abf5 ∈ kw_T := kw_mem 220 (by decide +kernel) (by decide +kernel)
theorem kl_J0_335 : Cond.methodLink RJ0 335 yJ0_coder_7d493 ∈ kw_T := kw_mem 224 (by decide +kernel) (by decide +kernel)
theorem kl_X5_60 : Cond.methodLink RX5 60 yJ0_charAt_5068e ∈ kw_T := kw_mem 230 (by decide +kernel) (by decide +kernel)
theorem kl_J0_492 : Cond.methodLink RJ0 492 yJ0_isLatin1_aae02 ∈ kw_T := kw_mem 234 (by decide +kernel) (by decide +kernel)
theorem kl_J0_495 : Cond.methodLink RJ0 495 yJ1_charAt_3b067 ∈ kw_T := kw_mem 238 (by decide +kernel) (by decide +kernel)
theorem kl_J1_9 : Cond.methodLink RJ1 9 yJ0_checkIndex_df160 ∈ kw_T := kw_mem 241 (by decide +kernel) (by decide +kernel)
theorem kl_J0_1059 : Cond.methodLink RJ0 1059 yJ3_checkIndex_8e157 ∈ kw_T := kw_mem 246 (by decide +kernel) (by decide +kernel)
theorem kl_J0_498 : Cond.methodLink RJ0 498 yJ2_charAt_3b067 ∈ kw_T := kw_mem 249 (by decide +kernel) (by decide +kernel)
theorem kl_J2_67 : Cond.methodLink RJ2 67 yJ2_checkIndex_2214a ∈ kw_T := kw_mem 252 (by decide +kernel) (by decide +kernel)
theorem kl_J2_48 : Cond.methodLink RJ2 48 yJ2_length_9d52b ∈ kw_T := kw_mem 255 (by decide +kernel) (by decide +kernel)
theorem kl_J2_414 : Cond.methodLink RJ2 414 yJ0_checkIndex_df160 ∈ kw_T := kw_mem 258 (by decide +kernel) (by decide +kernel)
theorem kl_J2_71 : Cond.methodLink RJ2 71 yJ2_getChar_3b067 ∈ kw_T := kw_mem 259 (by decide +kernel) (by decide +kernel)
theorem kl_X5_64 : Cond.methodLink RX5 64 yX3_append ∈ kw_T := kw_mem 268 (by decide +kernel) (by decide +kernel)
theorem kl_X3_26 : Cond.methodLink RX3 26 yX3_isFull ∈ kw_T := kw_mem 272 (by decide +kernel) (by decide +kernel)
theorem kl_X5_68 : Cond.methodLink RX5 68 yX3_readInto ∈ kw_T := kw_mem 276 (by decide +kernel) (by decide +kernel)
theorem kl_X3_30 : Cond.methodLink RX3 30 yX4_empty ∈ kw_T := kw_mem 280 (by decide +kernel) (by decide +kernel)
theorem kl_X3_35 : Cond.methodLink RX3 35 yX3_readItem ∈ kw_T := kw_mem 284 (by decide +kernel) (by decide +kernel)
theorem kl_X3_39 : Cond.methodLink RX3 39 yX3_next ∈ kw_T := kw_mem 288 (by decide +kernel) (by decide +kernel)
theorem kl_X3_43 : Cond.methodLink RX3 43 yX3_readNumber ∈ kw_T := kw_mem 292 (by decide +kernel) (by decide +kernel)
theorem kl_X3_51 : Cond.methodLink RX3 51 yX3_isAtFigure ∈ kw_T := kw_mem 296 (by decide +kernel) (by decide +kernel)
theorem kl_X3_47 : Cond.methodLink RX3 47 yX3_tell ∈ kw_T := kw_mem 300 (by decide +kernel) (by decide +kernel)
theorem kl_X3_54 : Cond.methodLink RX3 54 yX4_tellPerson ∈ kw_T := kw_mem 304 (by decide +kernel) (by decide +kernel)
theorem kl_X3_58 : Cond.methodLink RX3 58 yX4_tellTie ∈ kw_T := kw_mem 308 (by decide +kernel) (by decide +kernel)
theorem kl_X4_56 : Cond.methodLink RX4 56 yX4_hasTwo ∈ kw_T := kw_mem 312 (by decide +kernel) (by decide +kernel)
theorem kl_X4_64 : Cond.methodLink RX4 64 yX4_has ∈ kw_T := kw_mem 316 (by decide +kernel) (by decide +kernel)
theorem kl_X4_60 : Cond.methodLink RX4 60 yX4_cell ∈ kw_T := kw_mem 320 (by decide +kernel) (by decide +kernel)
theorem kl_X3_61 : Cond.methodLink RX3 61 yX4_tellDebt ∈ kw_T := kw_mem 324 (by decide +kernel) (by decide +kernel)
theorem kl_X3_64 : Cond.methodLink RX3 64 yX4_tellTrialAge ∈ kw_T := kw_mem 328 (by decide +kernel) (by decide +kernel)
theorem kl_X5_72 : Cond.methodLink RX5 72 yX3_clear ∈ kw_T := kw_mem 332 (by decide +kernel) (by decide +kernel)
theorem kl_L_13 : Cond.methodLink RL 13 yX5_write ∈ kw_T := kw_mem 359 (by decide +kernel) (by decide +kernel)
theorem kl_X5_75 : Cond.methodLink RX5 75 yX5_within ∈ kw_T := kw_mem 363 (by decide +kernel) (by decide +kernel)
theorem kl_X5_79 : Cond.methodLink RX5 79 yX3_isFull ∈ kw_T := kw_mem 366 (by decide +kernel) (by decide +kernel)
theorem kl_L_18 : Cond.methodLink RL 18 yX5_wipe ∈ kw_T := kw_mem 367 (by decide +kernel) (by decide +kernel)
theorem kl_L_23 : Cond.methodLink RL 23 yX5_fault ∈ kw_T := kw_mem 371 (by decide +kernel) (by decide +kernel)
theorem kl_L_27 : Cond.methodLink RL 27 yX5_lay ∈ kw_T := kw_mem 375 (by decide +kernel) (by decide +kernel)
theorem kl_X5_89 : Cond.methodLink RX5 89 yX4_copyFrom ∈ kw_T := kw_mem 379 (by decide +kernel) (by decide +kernel)
theorem kl_X4_46 : Cond.methodLink RX4 46 ⟨"java/lang/System", "arraycopy", "(Ljava/lang/Object;ILjava/lang/Object;II)V"⟩ ∈ kw_T := kw_mem 383 (by decide +kernel) (by decide +kernel)
theorem kl_X5_93 : Cond.methodLink RX5 93 yX1_clear ∈ kw_T := kw_mem 386 (by decide +kernel) (by decide +kernel)
theorem kl_L_31 : Cond.methodLink RL 31 yX5_person ∈ kw_T := kw_mem 390 (by decide +kernel) (by decide +kernel)
theorem kl_X5_97 : Cond.methodLink RX5 97 yX4_has ∈ kw_T := kw_mem 394 (by decide +kernel) (by decide +kernel)
theorem kl_X5_105 : Cond.methodLink RX5 105 yX4_ageOf ∈ kw_T := kw_mem 395 (by decide +kernel) (by decide +kernel)
theorem kl_X5_112 : Cond.methodLink RX5 112 yX4_lives ∈ kw_T := kw_mem 399 (by decide +kernel) (by decide +kernel)
theorem kl_X5_115 : Cond.methodLink RX5 115 yX4_hadTrial ∈ kw_T := kw_mem 406 (by decide +kernel) (by decide +kernel)
theorem kl_X5_118 : Cond.methodLink RX5 118 yX4_heirOf ∈ kw_T := kw_mem 410 (by decide +kernel) (by decide +kernel)
theorem kl_X4_71 : Cond.methodLink RX4 71 yX4_lives ∈ kw_T := kw_mem 414 (by decide +kernel) (by decide +kernel)
theorem kl_X4_77 : Cond.methodLink RX4 77 yX4_tieOf ∈ kw_T := kw_mem 415 (by decide +kernel) (by decide +kernel)
theorem kl_L_36 : Cond.methodLink RL 36 yX5_tie ∈ kw_T := kw_mem 419 (by decide +kernel) (by decide +kernel)
theorem kl_X5_121 : Cond.methodLink RX5 121 yX4_hasTwo ∈ kw_T := kw_mem 423 (by decide +kernel) (by decide +kernel)
theorem kl_X5_125 : Cond.methodLink RX5 125 yX4_tieOf ∈ kw_T := kw_mem 424 (by decide +kernel) (by decide +kernel)
theorem kl_L_40 : Cond.methodLink RL 40 yX5_owes ∈ kw_T := kw_mem 425 (by decide +kernel) (by decide +kernel)
theorem kl_X5_129 : Cond.methodLink RX5 129 yX4_debtOf ∈ kw_T := kw_mem 429 (by decide +kernel) (by decide +kernel)
theorem kl_L_44 : Cond.methodLink RL 44 yX5_trial ∈ kw_T := kw_mem 433 (by decide +kernel) (by decide +kernel)
theorem kl_X5_132 : Cond.methodLink RX5 132 yX5_isFare ∈ kw_T := kw_mem 437 (by decide +kernel) (by decide +kernel)
theorem kl_X5_135 : Cond.methodLink RX5 135 yX4_canHoldTrial ∈ kw_T := kw_mem 440 (by decide +kernel) (by decide +kernel)
theorem kl_X4_91 : Cond.methodLink RX4 91 yX4_isDueForTrial ∈ kw_T := kw_mem 444 (by decide +kernel) (by decide +kernel)
theorem kl_X4_84 : Cond.methodLink RX4 84 yX4_hadTrial ∈ kw_T := kw_mem 448 (by decide +kernel) (by decide +kernel)
theorem kl_X4_87 : Cond.methodLink RX4 87 yX4_ageOf ∈ kw_T := kw_mem 449 (by decide +kernel) (by decide +kernel)
theorem kl_X5_138 : Cond.methodLink RX5 138 yX1_put ∈ kw_T := kw_mem 453 (by decide +kernel) (by decide +kernel)
theorem kl_X1_29 : Cond.methodLink RX1 29 yX4_copyFrom ∈ kw_T := kw_mem 457 (by decide +kernel) (by decide +kernel)
theorem kl_X1_33 : Cond.methodLink RX1 33 yJ9_min_7cf53 ∈ kw_T := kw_mem 458 (by decide +kernel) (by decide +kernel)
theorem kl_X5_141 : Cond.methodLink RX5 141 yX4_holdTrial ∈ kw_T := kw_mem 461 (by decide +kernel) (by decide +kernel)
theorem kl_X4_97 : Cond.methodLink RX4 97 yX4_guestsOf ∈ kw_T := kw_mem 465 (by decide +kernel) (by decide +kernel)
theorem kl_X4_80 : Cond.methodLink RX4 80 yX4_wouldCome ∈ kw_T := kw_mem 469 (by decide +kernel) (by decide +kernel)
theorem kl_X4_74 : Cond.methodLink RX4 74 yX4_debtOf ∈ kw_T := kw_mem 473 (by decide +kernel) (by decide +kernel)
theorem kl_X4_101 : Cond.methodLink RX4 101 yX4_meet ∈ kw_T := kw_mem 474 (by decide +kernel) (by decide +kernel)
theorem kl_X4_105 : Cond.methodLink RX4 105 yX4_changeTie ∈ kw_T := kw_mem 478 (by decide +kernel) (by decide +kernel)
theorem kl_X4_112 : Cond.methodLink RX4 112 yJ9_min_7cf53 ∈ kw_T := kw_mem 482 (by decide +kernel) (by decide +kernel)
theorem kl_X4_117 : Cond.methodLink RX4 117 yJ9_max_7cf53 ∈ kw_T := kw_mem 483 (by decide +kernel) (by decide +kernel)
theorem kl_X4_109 : Cond.methodLink RX4 109 yX4_payOff ∈ kw_T := kw_mem 484 (by decide +kernel) (by decide +kernel)
theorem kl_X4_120 : Cond.methodLink RX4 120 yX4_receive ∈ kw_T := kw_mem 488 (by decide +kernel) (by decide +kernel)
theorem kl_L_49 : Cond.methodLink RL 49 yX5_gift ∈ kw_T := kw_mem 492 (by decide +kernel) (by decide +kernel)
theorem kl_X5_145 : Cond.methodLink RX5 145 yX4_canGive ∈ kw_T := kw_mem 496 (by decide +kernel) (by decide +kernel)
theorem kl_X5_148 : Cond.methodLink RX5 148 yX4_give ∈ kw_T := kw_mem 500 (by decide +kernel) (by decide +kernel)
theorem kl_L_53 : Cond.methodLink RL 53 yX5_pay ∈ kw_T := kw_mem 504 (by decide +kernel) (by decide +kernel)
theorem kl_X5_152 : Cond.methodLink RX5 152 yX4_payOff ∈ kw_T := kw_mem 508 (by decide +kernel) (by decide +kernel)
theorem kl_L_57 : Cond.methodLink RL 57 yX5_die ∈ kw_T := kw_mem 509 (by decide +kernel) (by decide +kernel)
theorem kl_X5_155 : Cond.methodLink RX5 155 yX4_bury ∈ kw_T := kw_mem 513 (by decide +kernel) (by decide +kernel)
theorem kl_X4_124 : Cond.methodLink RX4 124 yX4_heirOf ∈ kw_T := kw_mem 517 (by decide +kernel) (by decide +kernel)
theorem kl_X4_127 : Cond.methodLink RX4 127 yX4_bequeath ∈ kw_T := kw_mem 518 (by decide +kernel) (by decide +kernel)
theorem kl_L_61 : Cond.methodLink RL 61 yX5_pass ∈ kw_T := kw_mem 522 (by decide +kernel) (by decide +kernel)
theorem kl_X5_158 : Cond.methodLink RX5 158 yX4_letDaysGoBy ∈ kw_T := kw_mem 526 (by decide +kernel) (by decide +kernel)
theorem kl_L_65 : Cond.methodLink RL 65 yX5_undo ∈ kw_T := kw_mem 530 (by decide +kernel) (by decide +kernel)
theorem kl_X5_165 : Cond.methodLink RX5 165 yX1_takeInto ∈ kw_T := kw_mem 534 (by decide +kernel) (by decide +kernel)
theorem kl_L_69 : Cond.methodLink RL 69 yX5_come ∈ kw_T := kw_mem 538 (by decide +kernel) (by decide +kernel)
theorem kl_X5_168 : Cond.methodLink RX5 168 yX4_guestsOf ∈ kw_T := kw_mem 542 (by decide +kernel) (by decide +kernel)
theorem kl_X5_171 : Cond.methodLink RX5 171 yJ6_bitCount_0f7a4 ∈ kw_T := kw_mem 543 (by decide +kernel) (by decide +kernel)
theorem kl_L_74 : Cond.methodLink RL 74 yX5_cheapest ∈ kw_T := kw_mem 549 (by decide +kernel) (by decide +kernel)
theorem kl_X5_176 : Cond.methodLink RX5 176 yX5_isSetOfOthers ∈ kw_T := kw_mem 553 (by decide +kernel) (by decide +kernel)
theorem kl_X5_182 : Cond.methodLink RX5 182 yX5_contains ∈ kw_T := kw_mem 557 (by decide +kernel) (by decide +kernel)
theorem kl_X5_179 : Cond.methodLink RX5 179 yX5_costOf ∈ kw_T := kw_mem 558 (by decide +kernel) (by decide +kernel)
theorem kl_L_78 : Cond.methodLink RL 78 yX5_gifts ∈ kw_T := kw_mem 559 (by decide +kernel) (by decide +kernel)
theorem kl_X5_185 : Cond.methodLink RX5 185 yX4_giftsUntilComing ∈ kw_T := kw_mem 563 (by decide +kernel) (by decide +kernel)
theorem kl_L_82 : Cond.methodLink RL 82 yX5_order ∈ kw_T := kw_mem 567 (by decide +kernel) (by decide +kernel)
theorem kl_X5_189 : Cond.methodLink RX5 189 yX0_isFor ∈ kw_T := kw_mem 571 (by decide +kernel) (by decide +kernel)
theorem kl_X0_41 : Cond.methodLink RX0 41 yX4_isLike ∈ kw_T := kw_mem 575 (by decide +kernel) (by decide +kernel)
theorem kl_X5_193 : Cond.methodLink RX5 193 yX0_start ∈ kw_T := kw_mem 582 (by decide +kernel) (by decide +kernel)
theorem kl_X0_45 : Cond.methodLink RX0 45 yX4_copyFrom ∈ kw_T := kw_mem 586 (by decide +kernel) (by decide +kernel)
theorem kl_X0_52 : Cond.methodLink RX0 52 yX4_isDueForTrial ∈ kw_T := kw_mem 587 (by decide +kernel) (by decide +kernel)
theorem kl_X0_56 : Cond.methodLink RX0 56 yJ6_bitCount_0f7a4 ∈ kw_T := kw_mem 588 (by decide +kernel) (by decide +kernel)
theorem kl_X0_62 : Cond.methodLink RX0 62 yX0_note ∈ kw_T := kw_mem 592 (by decide +kernel) (by decide +kernel)
theorem kl_X0_86 : Cond.methodLink RX0 86 ⟨"java/lang/System", "arraycopy", "(Ljava/lang/Object;ILjava/lang/Object;II)V"⟩ ∈ kw_T := kw_mem 596 (by decide +kernel) (by decide +kernel)
theorem kl_X0_70 : Cond.methodLink RX0 70 yX0_step ∈ kw_T := kw_mem 598 (by decide +kernel) (by decide +kernel)
theorem kl_X0_78 : Cond.methodLink RX0 78 yX4_canHoldTrial ∈ kw_T := kw_mem 602 (by decide +kernel) (by decide +kernel)
theorem kl_X0_82 : Cond.methodLink RX0 82 yX4_holdTrial ∈ kw_T := kw_mem 603 (by decide +kernel) (by decide +kernel)
theorem kl_X0_74 : Cond.methodLink RX0 74 yX0_tryAll ∈ kw_T := kw_mem 604 (by decide +kernel) (by decide +kernel)
theorem kl_L_86 : Cond.methodLink RL 86 yX5_mutual ∈ kw_T := kw_mem 605 (by decide +kernel) (by decide +kernel)
theorem kl_X5_211 : Cond.methodLink RX5 211 yX5_rests ∈ kw_T := kw_mem 609 (by decide +kernel) (by decide +kernel)
theorem kl_X5_256 : Cond.methodLink RX5 256 yX5_gainOfFirst ∈ kw_T := kw_mem 613 (by decide +kernel) (by decide +kernel)
theorem kl_X5_262 : Cond.methodLink RX5 262 yX5_visitEachOther ∈ kw_T := kw_mem 617 (by decide +kernel) (by decide +kernel)
theorem kl_X5_269 : Cond.methodLink RX5 269 yX4_meet ∈ kw_T := kw_mem 621 (by decide +kernel) (by decide +kernel)
theorem kl_X5_266 : Cond.methodLink RX5 266 yX4_gainOf ∈ kw_T := kw_mem 622 (by decide +kernel) (by decide +kernel)
theorem kl_X5_259 : Cond.methodLink RX5 259 yX5_gainOfOther ∈ kw_T := kw_mem 626 (by decide +kernel) (by decide +kernel)
theorem kl_L_90 : Cond.methodLink RL 90 yX5_see ∈ kw_T := kw_mem 630 (by decide +kernel) (by decide +kernel)
theorem kl_X5_214 : Cond.methodLink RX5 214 yX2_add ∈ kw_T := kw_mem 634 (by decide +kernel) (by decide +kernel)
theorem kl_L_95 : Cond.methodLink RL 95 yX5_forget ∈ kw_T := kw_mem 638 (by decide +kernel) (by decide +kernel)
theorem kl_L_99 : Cond.methodLink RL 99 yX5_felt ∈ kw_T := kw_mem 642 (by decide +kernel) (by decide +kernel)
theorem kl_X5_218 : Cond.methodLink RX5 218 yX2_tiesThatFit ∈ kw_T := kw_mem 646 (by decide +kernel) (by decide +kernel)
theorem kl_X2_32 : Cond.methodLink RX2 32 yX2_tieFits ∈ kw_T := kw_mem 650 (by decide +kernel) (by decide +kernel)
theorem kl_X2_45 : Cond.methodLink RX2 45 yX2_isSo ∈ kw_T := kw_mem 654 (by decide +kernel) (by decide +kernel)
theorem kl_X2_53 : Cond.methodLink RX2 53 yX4_wouldCome ∈ kw_T := kw_mem 658 (by decide +kernel) (by decide +kernel)
theorem kl_L_103 : Cond.methodLink RL 103 yX5_kinds ∈ kw_T := kw_mem 659 (by decide +kernel) (by decide +kernel)
theorem kl_X5_222 : Cond.methodLink RX5 222 yX2_kindsThatFit ∈ kw_T := kw_mem 663 (by decide +kernel) (by decide +kernel)
theorem kl_X2_36 : Cond.methodLink RX2 36 yX2_kindFits ∈ kw_T := kw_mem 667 (by decide +kernel) (by decide +kernel)
theorem kl_X2_49 : Cond.methodLink RX2 49 yX4_tieOf ∈ kw_T := kw_mem 671 (by decide +kernel) (by decide +kernel)
theorem kl_L_107 : Cond.methodLink RL 107 yX5_rain ∈ kw_T := kw_mem 672 (by decide +kernel) (by decide +kernel)
theorem kl_X5_226 : Cond.methodLink RX5 226 yX5_waysOfTenths ∈ kw_T := kw_mem 676 (by decide +kernel) (by decide +kernel)
theorem kl_X5_273 : Cond.methodLink RX5 273 yX5_choices ∈ kw_T := kw_mem 679 (by decide +kernel) (by decide +kernel)
theorem kl_X5_229 : Cond.methodLink RX5 229 yX5_power ∈ kw_T := kw_mem 682 (by decide +kernel) (by decide +kernel)
theorem kl_X5_232 : Cond.methodLink RX5 232 yX5_commonDivisor ∈ kw_T := kw_mem 685 (by decide +kernel) (by decide +kernel)
theorem kl_X5_276 : Cond.methodLink RX5 276 yJ9_max_7cf53 ∈ kw_T := kw_mem 688 (by decide +kernel) (by decide +kernel)
theorem kl_L_112 : Cond.methodLink RL 112 yX5_year ∈ kw_T := kw_mem 689 (by decide +kernel) (by decide +kernel)
theorem kl_X5_235 : Cond.methodLink RX5 235 yX5_drawOf ∈ kw_T := kw_mem 693 (by decide +kernel) (by decide +kernel)
theorem kl_X5_238 : Cond.methodLink RX5 238 yX4_liveOneDay ∈ kw_T := kw_mem 699 (by decide +kernel) (by decide +kernel)
theorem kl_X4_130 : Cond.methodLink RX4 130 yX4_canHoldTrial ∈ kw_T := kw_mem 703 (by decide +kernel) (by decide +kernel)
theorem kl_X4_134 : Cond.methodLink RX4 134 yX4_holdTrial ∈ kw_T := kw_mem 704 (by decide +kernel) (by decide +kernel)
theorem kl_X4_137 : Cond.methodLink RX4 137 yJ6_bitCount_0f7a4 ∈ kw_T := kw_mem 705 (by decide +kernel) (by decide +kernel)
theorem kl_X4_142 : Cond.methodLink RX4 142 yX4_canGive ∈ kw_T := kw_mem 706 (by decide +kernel) (by decide +kernel)
theorem kl_X4_145 : Cond.methodLink RX4 145 yX4_give ∈ kw_T := kw_mem 707 (by decide +kernel) (by decide +kernel)
theorem kl_X4_148 : Cond.methodLink RX4 148 yX4_letDaysGoBy ∈ kw_T := kw_mem 708 (by decide +kernel) (by decide +kernel)
theorem kl_X5_241 : Cond.methodLink RX5 241 yX4_coinsOfAll ∈ kw_T := kw_mem 709 (by decide +kernel) (by decide +kernel)
theorem kl_L_116 : Cond.methodLink RL 116 yX5_keep ∈ kw_T := kw_mem 713 (by decide +kernel) (by decide +kernel)
theorem kl_L_120 : Cond.methodLink RL 120 yX5_back ∈ kw_T := kw_mem 717 (by decide +kernel) (by decide +kernel)
theorem kl_L_124 : Cond.methodLink RL 124 yX5_count ∈ kw_T := kw_mem 721 (by decide +kernel) (by decide +kernel)
theorem kl_X5_253 : Cond.methodLink RX5 253 yX4_debtsOfAll ∈ kw_T := kw_mem 725 (by decide +kernel) (by decide +kernel)
theorem kl_L_12 : Cond.methodLink RL 12 yX6_init ∈ kw_T := kw_mem 731 (by decide +kernel) (by decide +kernel)
theorem kl_X6_1 : Cond.methodLink RX6 1 ⟨"java/lang/Object", "<init>", "()V"⟩ ∈ kw_T := kw_mem 734 (by decide +kernel) (by decide +kernel)
theorem kl_X6_51 : Cond.methodLink RX6 51 yX6_lives ∈ kw_T := kw_mem 735 (by decide +kernel) (by decide +kernel)
theorem kl_X6_59 : Cond.methodLink RX6 59 yX6_settles ∈ kw_T := kw_mem 739 (by decide +kernel) (by decide +kernel)
theorem kl_L_17 : Cond.methodLink RL 17 yX6_write ∈ kw_T := kw_mem 819 (by decide +kernel) (by decide +kernel)
theorem kl_X6_71 : Cond.methodLink RX6 71 yX6_in ∈ kw_T := kw_mem 825 (by decide +kernel) (by decide +kernel)
theorem kl_L_22 : Cond.methodLink RL 22 yX6_wipe ∈ kw_T := kw_mem 828 (by decide +kernel) (by decide +kernel)
theorem kl_L_26 : Cond.methodLink RL 26 yX6_fault ∈ kw_T := kw_mem 832 (by decide +kernel) (by decide +kernel)
theorem kl_X6_115 : Cond.methodLink RX6 115 yX6_reads ∈ kw_T := kw_mem 836 (by decide +kernel) (by decide +kernel)
theorem kl_X6_89 : Cond.methodLink RX6 89 yX6_next ∈ kw_T := kw_mem 840 (by decide +kernel) (by decide +kernel)
theorem kl_X6_111 : Cond.methodLink RX6 111 yX6_item ∈ kw_T := kw_mem 844 (by decide +kernel) (by decide +kernel)
theorem kl_X6_101 : Cond.methodLink RX6 101 yX6_number ∈ kw_T := kw_mem 848 (by decide +kernel) (by decide +kernel)
theorem kl_X6_105 : Cond.methodLink RX6 105 yX6_more ∈ kw_T := kw_mem 854 (by decide +kernel) (by decide +kernel)
theorem kl_L_30 : Cond.methodLink RL 30 yX6_lay ∈ kw_T := kw_mem 858 (by decide +kernel) (by decide +kernel)
theorem kl_X6_119 : Cond.methodLink RX6 119 yX6_copies ∈ kw_T := kw_mem 862 (by decide +kernel) (by decide +kernel)
theorem kl_L_35 : Cond.methodLink RL 35 yX6_person ∈ kw_T := kw_mem 866 (by decide +kernel) (by decide +kernel)
theorem kl_X6_75 : Cond.methodLink RX6 75 yX6_isPerson ∈ kw_T := kw_mem 870 (by decide +kernel) (by decide +kernel)
theorem kl_X6_141 : Cond.methodLink RX6 141 yX6_ageOf ∈ kw_T := kw_mem 875 (by decide +kernel) (by decide +kernel)
theorem kl_X6_136 : Cond.methodLink RX6 136 yX6_isAlive ∈ kw_T := kw_mem 879 (by decide +kernel) (by decide +kernel)
theorem kl_X6_132 : Cond.methodLink RX6 132 yX6_has ∈ kw_T := kw_mem 883 (by decide +kernel) (by decide +kernel)
theorem kl_X6_144 : Cond.methodLink RX6 144 yX6_heir ∈ kw_T := kw_mem 886 (by decide +kernel) (by decide +kernel)
theorem kl_L_39 : Cond.methodLink RL 39 yX6_tie ∈ kw_T := kw_mem 890 (by decide +kernel) (by decide +kernel)
theorem kl_X6_147 : Cond.methodLink RX6 147 yX6_areTwo ∈ kw_T := kw_mem 894 (by decide +kernel) (by decide +kernel)
theorem kl_L_43 : Cond.methodLink RL 43 yX6_owes ∈ kw_T := kw_mem 898 (by decide +kernel) (by decide +kernel)
theorem kl_L_48 : Cond.methodLink RL 48 yX6_trial ∈ kw_T := kw_mem 902 (by decide +kernel) (by decide +kernel)
theorem kl_X6_187 : Cond.methodLink RX6 187 yX6_areBells ∈ kw_T := kw_mem 906 (by decide +kernel) (by decide +kernel)
theorem kl_X6_190 : Cond.methodLink RX6 190 yX6_canHave ∈ kw_T := kw_mem 910 (by decide +kernel) (by decide +kernel)
theorem kl_X6_175 : Cond.methodLink RX6 175 yX6_couldHave ∈ kw_T := kw_mem 914 (by decide +kernel) (by decide +kernel)
theorem kl_X6_194 : Cond.methodLink RX6 194 yX6_known ∈ kw_T := kw_mem 918 (by decide +kernel) (by decide +kernel)
theorem kl_X6_197 : Cond.methodLink RX6 197 yX6_holds ∈ kw_T := kw_mem 922 (by decide +kernel) (by decide +kernel)
theorem kl_X6_178 : Cond.methodLink RX6 178 yX6_comers ∈ kw_T := kw_mem 926 (by decide +kernel) (by decide +kernel)
theorem kl_X6_154 : Cond.methodLink RX6 154 yX6_comes ∈ kw_T := kw_mem 930 (by decide +kernel) (by decide +kernel)
theorem kl_X6_150 : Cond.methodLink RX6 150 yX6_likes ∈ kw_T := kw_mem 934 (by decide +kernel) (by decide +kernel)
theorem kl_X6_181 : Cond.methodLink RX6 181 yX6_changes ∈ kw_T := kw_mem 938 (by decide +kernel) (by decide +kernel)
theorem kl_X6_168 : Cond.methodLink RX6 168 yX6_ties ∈ kw_T := kw_mem 942 (by decide +kernel) (by decide +kernel)
theorem kl_X6_161 : Cond.methodLink RX6 161 yX6_larger ∈ kw_T := kw_mem 946 (by decide +kernel) (by decide +kernel)
theorem kl_X6_158 : Cond.methodLink RX6 158 yX6_smaller ∈ kw_T := kw_mem 949 (by decide +kernel) (by decide +kernel)
theorem kl_X6_171 : Cond.methodLink RX6 171 yX6_pays ∈ kw_T := kw_mem 952 (by decide +kernel) (by decide +kernel)
theorem kl_X6_164 : Cond.methodLink RX6 164 yX6_gets ∈ kw_T := kw_mem 956 (by decide +kernel) (by decide +kernel)
theorem kl_L_52 : Cond.methodLink RL 52 yX6_gift ∈ kw_T := kw_mem 960 (by decide +kernel) (by decide +kernel)
theorem kl_X6_200 : Cond.methodLink RX6 200 yX6_canGive ∈ kw_T := kw_mem 964 (by decide +kernel) (by decide +kernel)
theorem kl_X6_204 : Cond.methodLink RX6 204 yX6_gives ∈ kw_T := kw_mem 968 (by decide +kernel) (by decide +kernel)
theorem kl_L_56 : Cond.methodLink RL 56 yX6_pay ∈ kw_T := kw_mem 972 (by decide +kernel) (by decide +kernel)
theorem kl_L_60 : Cond.methodLink RL 60 yX6_die ∈ kw_T := kw_mem 976 (by decide +kernel) (by decide +kernel)
theorem kl_L_64 : Cond.methodLink RL 64 yX6_pass ∈ kw_T := kw_mem 980 (by decide +kernel) (by decide +kernel)
theorem kl_L_68 : Cond.methodLink RL 68 yX6_undo ∈ kw_T := kw_mem 985 (by decide +kernel) (by decide +kernel)
theorem kl_L_73 : Cond.methodLink RL 73 yX6_come ∈ kw_T := kw_mem 989 (by decide +kernel) (by decide +kernel)
theorem kl_X6_209 : Cond.methodLink RX6 209 yX6_bits ∈ kw_T := kw_mem 993 (by decide +kernel) (by decide +kernel)
theorem kl_L_77 : Cond.methodLink RL 77 yX6_cheapest ∈ kw_T := kw_mem 996 (by decide +kernel) (by decide +kernel)
theorem kl_X6_213 : Cond.methodLink RX6 213 yX6_isSet ∈ kw_T := kw_mem 1000 (by decide +kernel) (by decide +kernel)
theorem kl_L_81 : Cond.methodLink RL 81 yX6_gifts ∈ kw_T := kw_mem 1004 (by decide +kernel) (by decide +kernel)
theorem kl_L_85 : Cond.methodLink RL 85 yX6_order ∈ kw_T := kw_mem 1008 (by decide +kernel) (by decide +kernel)
theorem kl_X6_224 : Cond.methodLink RX6 224 yX6_lists ∈ kw_T := kw_mem 1013 (by decide +kernel) (by decide +kernel)
theorem kl_X6_227 : Cond.methodLink RX6 227 yX6_goesOn ∈ kw_T := kw_mem 1017 (by decide +kernel) (by decide +kernel)
theorem kl_X6_219 : Cond.methodLink RX6 219 yX6_swaps ∈ kw_T := kw_mem 1021 (by decide +kernel) (by decide +kernel)
theorem kl_L_89 : Cond.methodLink RL 89 yX6_mutual ∈ kw_T := kw_mem 1025 (by decide +kernel) (by decide +kernel)
theorem kl_X6_230 : Cond.methodLink RX6 230 yX6_worth ∈ kw_T := kw_mem 1029 (by decide +kernel) (by decide +kernel)
theorem kl_L_94 : Cond.methodLink RL 94 yX6_see ∈ kw_T := kw_mem 1033 (by decide +kernel) (by decide +kernel)
theorem kl_L_98 : Cond.methodLink RL 98 yX6_forget ∈ kw_T := kw_mem 1037 (by decide +kernel) (by decide +kernel)
theorem kl_L_102 : Cond.methodLink RL 102 yX6_felt ∈ kw_T := kw_mem 1041 (by decide +kernel) (by decide +kernel)
theorem kl_L_106 : Cond.methodLink RL 106 yX6_kinds ∈ kw_T := kw_mem 1045 (by decide +kernel) (by decide +kernel)
theorem kl_L_111 : Cond.methodLink RL 111 yX6_rain ∈ kw_T := kw_mem 1049 (by decide +kernel) (by decide +kernel)
theorem kl_L_115 : Cond.methodLink RL 115 yX6_year ∈ kw_T := kw_mem 1054 (by decide +kernel) (by decide +kernel)
theorem kl_X6_246 : Cond.methodLink RX6 246 yX6_allCoins ∈ kw_T := kw_mem 1063 (by decide +kernel) (by decide +kernel)
theorem kl_L_119 : Cond.methodLink RL 119 yX6_keep ∈ kw_T := kw_mem 1067 (by decide +kernel) (by decide +kernel)
theorem kl_L_123 : Cond.methodLink RL 123 yX6_back ∈ kw_T := kw_mem 1071 (by decide +kernel) (by decide +kernel)
theorem kl_L_127 : Cond.methodLink RL 127 yX6_count ∈ kw_T := kw_mem 1075 (by decide +kernel) (by decide +kernel)
theorem kl_X6_249 : Cond.methodLink RX6 249 yX6_allOwed ∈ kw_T := kw_mem 1079 (by decide +kernel) (by decide +kernel)
theorem kc_L_7 : Cond.classLink RL 7 RX5 ∈ kw_T := kw_mem 53 (by decide +kernel) (by decide +kernel)
theorem kc_X5_7 : Cond.classLink RX5 7 RX3 ∈ kw_T := kw_mem 61 (by decide +kernel) (by decide +kernel)
theorem kc_X5_16 : Cond.classLink RX5 16 RX4 ∈ kw_T := kw_mem 83 (by decide +kernel) (by decide +kernel)
theorem kc_X5_26 : Cond.classLink RX5 26 RX1 ∈ kw_T := kw_mem 132 (by decide +kernel) (by decide +kernel)
theorem kc_X1_22 : Cond.classLink RX1 22 RX4 ∈ kw_T := kw_mem 141 (by decide +kernel) (by decide +kernel)
theorem kc_X5_38 : Cond.classLink RX5 38 RX2 ∈ kw_T := kw_mem 155 (by decide +kernel) (by decide +kernel)
theorem kc_X5_45 : Cond.classLink RX5 45 RX0 ∈ kw_T := kw_mem 182 (by decide +kernel) (by decide +kernel)
theorem kc_X0_9 : Cond.classLink RX0 9 RX4 ∈ kw_T := kw_mem 188 (by decide +kernel) (by decide +kernel)
theorem kc_L_10 : Cond.classLink RL 10 RX6 ∈ kw_T := kw_mem 729 (by decide +kernel) (by decide +kernel)
theorem kk_X5_281 : Cond.constantLong RX5 281 (7919) ∈ kw_T := kw_mem 696 (by decide +kernel) (by decide +kernel)
theorem kk_X5_283 : Cond.constantLong RX5 283 (6151) ∈ kw_T := kw_mem 697 (by decide +kernel) (by decide +kernel)
theorem kk_X5_285 : Cond.constantLong RX5 285 (65521) ∈ kw_T := kw_mem 698 (by decide +kernel) (by decide +kernel)
theorem kk_X6_79 : Cond.constantLong RX6 79 (32) ∈ kw_T := kw_mem 823 (by decide +kernel) (by decide +kernel)
theorem kk_X6_81 : Cond.constantLong RX6 81 (126) ∈ kw_T := kw_mem 824 (by decide +kernel) (by decide +kernel)
theorem kk_X6_93 : Cond.constantLong RX6 93 (48) ∈ kw_T := kw_mem 852 (by decide +kernel) (by decide +kernel)
theorem kk_X6_95 : Cond.constantLong RX6 95 (57) ∈ kw_T := kw_mem 853 (by decide +kernel) (by decide +kernel)
theorem kk_X6_139 : Cond.constantLong RX6 139 (5) ∈ kw_T := kw_mem 874 (by decide +kernel) (by decide +kernel)
theorem kk_X6_185 : Cond.constantLong RX6 185 (3) ∈ kw_T := kw_mem 909 (by decide +kernel) (by decide +kernel)
theorem kk_X6_207 : Cond.constantLong RX6 207 (30) ∈ kw_T := kw_mem 984 (by decide +kernel) (by decide +kernel)
theorem kk_X6_222 : Cond.constantLong RX6 222 (6) ∈ kw_T := kw_mem 1012 (by decide +kernel) (by decide +kernel)
theorem kk_X6_234 : Cond.constantLong RX6 234 (10) ∈ kw_T := kw_mem 1053 (by decide +kernel) (by decide +kernel)
theorem kk_X6_236 : Cond.constantLong RX6 236 (9999) ∈ kw_T := kw_mem 1058 (by decide +kernel) (by decide +kernel)
theorem kk_X6_238 : Cond.constantLong RX6 238 (60) ∈ kw_T := kw_mem 1059 (by decide +kernel) (by decide +kernel)
theorem kk_X6_240 : Cond.constantLong RX6 240 (7919) ∈ kw_T := kw_mem 1060 (by decide +kernel) (by decide +kernel)
theorem kk_X6_242 : Cond.constantLong RX6 242 (6151) ∈ kw_T := kw_mem 1061 (by decide +kernel) (by decide +kernel)
theorem kk_X6_244 : Cond.constantLong RX6 244 (65521) ∈ kw_T := kw_mem 1062 (by decide +kernel) (by decide +kernel)
theorem kk_J6_265 : Cond.constant RJ6 265 (1431655765) ∈ kw_T := kw_mem 546 (by decide +kernel) (by decide +kernel)
theorem kk_J6_266 : Cond.constant RJ6 266 (858993459) ∈ kw_T := kw_mem 547 (by decide +kernel) (by decide +kernel)
theorem kk_J6_267 : Cond.constant RJ6 267 (252645135) ∈ kw_T := kw_mem 548 (by decide +kernel) (by decide +kernel)
theorem mc_X0_init : Cond.code yX0_init cX0_init 2 none ∈ kw_T := kw_mem 186 (by decide +kernel) (by decide +kernel)
theorem mi_X0_init : Cond.instanceMethod yX0_init ∈ kw_T := kw_mem 185 (by decide +kernel) (by decide +kernel)
theorem mc_X0_isFor : Cond.code yX0_isFor cX0_isFor 4 (some .boolean) ∈ kw_T := kw_mem 574 (by decide +kernel) (by decide +kernel)
theorem mi_X0_isFor : Cond.instanceMethod yX0_isFor ∈ kw_T := kw_mem 572 (by decide +kernel) (by decide +kernel)
theorem mv_X0_isFor : Cond.selects RX0 yX0_isFor yX0_isFor ∈ kw_T := kw_mem 573 (by decide +kernel) (by decide +kernel)
theorem mc_X0_start : Cond.code yX0_start cX0_start 5 none ∈ kw_T := kw_mem 585 (by decide +kernel) (by decide +kernel)
theorem mi_X0_start : Cond.instanceMethod yX0_start ∈ kw_T := kw_mem 583 (by decide +kernel) (by decide +kernel)
theorem mv_X0_start : Cond.selects RX0 yX0_start yX0_start ∈ kw_T := kw_mem 584 (by decide +kernel) (by decide +kernel)
theorem mc_X0_tryAll : Cond.code yX0_tryAll cX0_tryAll 7 none ∈ kw_T := kw_mem 591 (by decide +kernel) (by decide +kernel)
theorem ms_X0_tryAll : Cond.static yX0_tryAll ∈ kw_T := kw_mem 590 (by decide +kernel) (by decide +kernel)
theorem mc_X0_step : Cond.code yX0_step cX0_step 4 (some .int) ∈ kw_T := kw_mem 601 (by decide +kernel) (by decide +kernel)
theorem mi_X0_step : Cond.instanceMethod yX0_step ∈ kw_T := kw_mem 599 (by decide +kernel) (by decide +kernel)
theorem mv_X0_step : Cond.selects RX0 yX0_step yX0_step ∈ kw_T := kw_mem 600 (by decide +kernel) (by decide +kernel)
theorem mc_X0_note : Cond.code yX0_note cX0_note 2 none ∈ kw_T := kw_mem 595 (by decide +kernel) (by decide +kernel)
theorem mi_X0_note : Cond.instanceMethod yX0_note ∈ kw_T := kw_mem 593 (by decide +kernel) (by decide +kernel)
theorem mv_X0_note : Cond.selects RX0 yX0_note yX0_note ∈ kw_T := kw_mem 594 (by decide +kernel) (by decide +kernel)
theorem mc_X1_init : Cond.code yX1_init cX1_init 3 none ∈ kw_T := kw_mem 136 (by decide +kernel) (by decide +kernel)
theorem mi_X1_init : Cond.instanceMethod yX1_init ∈ kw_T := kw_mem 135 (by decide +kernel) (by decide +kernel)
theorem mc_X1_put : Cond.code yX1_put cX1_put 2 none ∈ kw_T := kw_mem 456 (by decide +kernel) (by decide +kernel)
theorem mi_X1_put : Cond.instanceMethod yX1_put ∈ kw_T := kw_mem 454 (by decide +kernel) (by decide +kernel)
theorem mv_X1_put : Cond.selects RX1 yX1_put yX1_put ∈ kw_T := kw_mem 455 (by decide +kernel) (by decide +kernel)
theorem mc_X1_takeInto : Cond.code yX1_takeInto cX1_takeInto 2 none ∈ kw_T := kw_mem 537 (by decide +kernel) (by decide +kernel)
theorem mi_X1_takeInto : Cond.instanceMethod yX1_takeInto ∈ kw_T := kw_mem 535 (by decide +kernel) (by decide +kernel)
theorem mv_X1_takeInto : Cond.selects RX1 yX1_takeInto yX1_takeInto ∈ kw_T := kw_mem 536 (by decide +kernel) (by decide +kernel)
theorem mc_X1_clear : Cond.code yX1_clear cX1_clear 1 none ∈ kw_T := kw_mem 389 (by decide +kernel) (by decide +kernel)
theorem mi_X1_clear : Cond.instanceMethod yX1_clear ∈ kw_T := kw_mem 387 (by decide +kernel) (by decide +kernel)
theorem mv_X1_clear : Cond.selects RX1 yX1_clear yX1_clear ∈ kw_T := kw_mem 388 (by decide +kernel) (by decide +kernel)
theorem mc_X2_init : Cond.code yX2_init cX2_init 1 none ∈ kw_T := kw_mem 159 (by decide +kernel) (by decide +kernel)
theorem mi_X2_init : Cond.instanceMethod yX2_init ∈ kw_T := kw_mem 158 (by decide +kernel) (by decide +kernel)
theorem mc_X2_add : Cond.code yX2_add cX2_add 6 none ∈ kw_T := kw_mem 637 (by decide +kernel) (by decide +kernel)
theorem mi_X2_add : Cond.instanceMethod yX2_add ∈ kw_T := kw_mem 635 (by decide +kernel) (by decide +kernel)
theorem mv_X2_add : Cond.selects RX2 yX2_add yX2_add ∈ kw_T := kw_mem 636 (by decide +kernel) (by decide +kernel)
theorem mc_X2_tiesThatFit : Cond.code yX2_tiesThatFit cX2_tiesThatFit 6 (some .int) ∈ kw_T := kw_mem 649 (by decide +kernel) (by decide +kernel)
theorem mi_X2_tiesThatFit : Cond.instanceMethod yX2_tiesThatFit ∈ kw_T := kw_mem 647 (by decide +kernel) (by decide +kernel)
theorem mv_X2_tiesThatFit : Cond.selects RX2 yX2_tiesThatFit yX2_tiesThatFit ∈ kw_T := kw_mem 648 (by decide +kernel) (by decide +kernel)
theorem mc_X2_kindsThatFit : Cond.code yX2_kindsThatFit cX2_kindsThatFit 5 (some .int) ∈ kw_T := kw_mem 666 (by decide +kernel) (by decide +kernel)
theorem mi_X2_kindsThatFit : Cond.instanceMethod yX2_kindsThatFit ∈ kw_T := kw_mem 664 (by decide +kernel) (by decide +kernel)
theorem mv_X2_kindsThatFit : Cond.selects RX2 yX2_kindsThatFit yX2_kindsThatFit ∈ kw_T := kw_mem 665 (by decide +kernel) (by decide +kernel)
theorem mc_X2_tieFits : Cond.code yX2_tieFits cX2_tieFits 7 (some .boolean) ∈ kw_T := kw_mem 653 (by decide +kernel) (by decide +kernel)
theorem mi_X2_tieFits : Cond.instanceMethod yX2_tieFits ∈ kw_T := kw_mem 651 (by decide +kernel) (by decide +kernel)
theorem mv_X2_tieFits : Cond.selects RX2 yX2_tieFits yX2_tieFits ∈ kw_T := kw_mem 652 (by decide +kernel) (by decide +kernel)
theorem mc_X2_kindFits : Cond.code yX2_kindFits cX2_kindFits 6 (some .boolean) ∈ kw_T := kw_mem 670 (by decide +kernel) (by decide +kernel)
theorem mi_X2_kindFits : Cond.instanceMethod yX2_kindFits ∈ kw_T := kw_mem 668 (by decide +kernel) (by decide +kernel)
theorem mv_X2_kindFits : Cond.selects RX2 yX2_kindFits yX2_kindFits ∈ kw_T := kw_mem 669 (by decide +kernel) (by decide +kernel)
theorem mc_X2_isSo : Cond.code yX2_isSo cX2_isSo 5 (some .boolean) ∈ kw_T := kw_mem 657 (by decide +kernel) (by decide +kernel)
theorem mi_X2_isSo : Cond.instanceMethod yX2_isSo ∈ kw_T := kw_mem 655 (by decide +kernel) (by decide +kernel)
theorem mv_X2_isSo : Cond.selects RX2 yX2_isSo yX2_isSo ∈ kw_T := kw_mem 656 (by decide +kernel) (by decide +kernel)
theorem mc_X3_init : Cond.code yX3_init cX3_init 1 none ∈ kw_T := kw_mem 65 (by decide +kernel) (by decide +kernel)
theorem mi_X3_init : Cond.instanceMethod yX3_init ∈ kw_T := kw_mem 64 (by decide +kernel) (by decide +kernel)
theorem mc_X3_isFull : Cond.code yX3_isFull cX3_isFull 1 (some .boolean) ∈ kw_T := kw_mem 275 (by decide +kernel) (by decide +kernel)
theorem mi_X3_isFull : Cond.instanceMethod yX3_isFull ∈ kw_T := kw_mem 273 (by decide +kernel) (by decide +kernel)
theorem mv_X3_isFull : Cond.selects RX3 yX3_isFull yX3_isFull ∈ kw_T := kw_mem 274 (by decide +kernel) (by decide +kernel)
theorem mc_X3_append : Cond.code yX3_append cX3_append 2 none ∈ kw_T := kw_mem 271 (by decide +kernel) (by decide +kernel)
theorem mi_X3_append : Cond.instanceMethod yX3_append ∈ kw_T := kw_mem 269 (by decide +kernel) (by decide +kernel)
theorem mv_X3_append : Cond.selects RX3 yX3_append yX3_append ∈ kw_T := kw_mem 270 (by decide +kernel) (by decide +kernel)
theorem mc_X3_clear : Cond.code yX3_clear cX3_clear 1 none ∈ kw_T := kw_mem 335 (by decide +kernel) (by decide +kernel)
theorem mi_X3_clear : Cond.instanceMethod yX3_clear ∈ kw_T := kw_mem 333 (by decide +kernel) (by decide +kernel)
theorem mv_X3_clear : Cond.selects RX3 yX3_clear yX3_clear ∈ kw_T := kw_mem 334 (by decide +kernel) (by decide +kernel)
theorem mc_X3_readInto : Cond.code yX3_readInto cX3_readInto 4 (some .int) ∈ kw_T := kw_mem 279 (by decide +kernel) (by decide +kernel)
theorem mi_X3_readInto : Cond.instanceMethod yX3_readInto ∈ kw_T := kw_mem 277 (by decide +kernel) (by decide +kernel)
theorem mv_X3_readInto : Cond.selects RX3 yX3_readInto yX3_readInto ∈ kw_T := kw_mem 278 (by decide +kernel) (by decide +kernel)
theorem mc_X3_readItem : Cond.code yX3_readItem cX3_readItem 5 (some .boolean) ∈ kw_T := kw_mem 287 (by decide +kernel) (by decide +kernel)
theorem mi_X3_readItem : Cond.instanceMethod yX3_readItem ∈ kw_T := kw_mem 285 (by decide +kernel) (by decide +kernel)
theorem mv_X3_readItem : Cond.selects RX3 yX3_readItem yX3_readItem ∈ kw_T := kw_mem 286 (by decide +kernel) (by decide +kernel)
theorem mc_X3_readNumber : Cond.code yX3_readNumber cX3_readNumber 3 (some .boolean) ∈ kw_T := kw_mem 295 (by decide +kernel) (by decide +kernel)
theorem mi_X3_readNumber : Cond.instanceMethod yX3_readNumber ∈ kw_T := kw_mem 293 (by decide +kernel) (by decide +kernel)
theorem mv_X3_readNumber : Cond.selects RX3 yX3_readNumber yX3_readNumber ∈ kw_T := kw_mem 294 (by decide +kernel) (by decide +kernel)
theorem mc_X3_isAtFigure : Cond.code yX3_isAtFigure cX3_isAtFigure 1 (some .boolean) ∈ kw_T := kw_mem 299 (by decide +kernel) (by decide +kernel)
theorem mi_X3_isAtFigure : Cond.instanceMethod yX3_isAtFigure ∈ kw_T := kw_mem 297 (by decide +kernel) (by decide +kernel)
theorem mv_X3_isAtFigure : Cond.selects RX3 yX3_isAtFigure yX3_isAtFigure ∈ kw_T := kw_mem 298 (by decide +kernel) (by decide +kernel)
theorem mc_X3_next : Cond.code yX3_next cX3_next 2 (some .char) ∈ kw_T := kw_mem 291 (by decide +kernel) (by decide +kernel)
theorem mi_X3_next : Cond.instanceMethod yX3_next ∈ kw_T := kw_mem 289 (by decide +kernel) (by decide +kernel)
theorem mv_X3_next : Cond.selects RX3 yX3_next yX3_next ∈ kw_T := kw_mem 290 (by decide +kernel) (by decide +kernel)
theorem mc_X3_tell : Cond.code yX3_tell cX3_tell 3 (some .boolean) ∈ kw_T := kw_mem 303 (by decide +kernel) (by decide +kernel)
theorem mi_X3_tell : Cond.instanceMethod yX3_tell ∈ kw_T := kw_mem 301 (by decide +kernel) (by decide +kernel)
theorem mv_X3_tell : Cond.selects RX3 yX3_tell yX3_tell ∈ kw_T := kw_mem 302 (by decide +kernel) (by decide +kernel)
theorem mc_X4_init : Cond.code yX4_init cX4_init 1 none ∈ kw_T := kw_mem 87 (by decide +kernel) (by decide +kernel)
theorem mi_X4_init : Cond.instanceMethod yX4_init ∈ kw_T := kw_mem 86 (by decide +kernel) (by decide +kernel)
theorem mc_X4_empty : Cond.code yX4_empty cX4_empty 2 none ∈ kw_T := kw_mem 283 (by decide +kernel) (by decide +kernel)
theorem mi_X4_empty : Cond.instanceMethod yX4_empty ∈ kw_T := kw_mem 281 (by decide +kernel) (by decide +kernel)
theorem mv_X4_empty : Cond.selects RX4 yX4_empty yX4_empty ∈ kw_T := kw_mem 282 (by decide +kernel) (by decide +kernel)
theorem mc_X4_copyFrom : Cond.code yX4_copyFrom cX4_copyFrom 2 none ∈ kw_T := kw_mem 382 (by decide +kernel) (by decide +kernel)
theorem mi_X4_copyFrom : Cond.instanceMethod yX4_copyFrom ∈ kw_T := kw_mem 380 (by decide +kernel) (by decide +kernel)
theorem mv_X4_copyFrom : Cond.selects RX4 yX4_copyFrom yX4_copyFrom ∈ kw_T := kw_mem 381 (by decide +kernel) (by decide +kernel)
theorem mc_X4_isLike : Cond.code yX4_isLike cX4_isLike 2 (some .boolean) ∈ kw_T := kw_mem 578 (by decide +kernel) (by decide +kernel)
theorem mi_X4_isLike : Cond.instanceMethod yX4_isLike ∈ kw_T := kw_mem 576 (by decide +kernel) (by decide +kernel)
theorem mv_X4_isLike : Cond.selects RX4 yX4_isLike yX4_isLike ∈ kw_T := kw_mem 577 (by decide +kernel) (by decide +kernel)
theorem mc_X4_tellPerson : Cond.code yX4_tellPerson cX4_tellPerson 4 (some .boolean) ∈ kw_T := kw_mem 307 (by decide +kernel) (by decide +kernel)
theorem mi_X4_tellPerson : Cond.instanceMethod yX4_tellPerson ∈ kw_T := kw_mem 305 (by decide +kernel) (by decide +kernel)
theorem mv_X4_tellPerson : Cond.selects RX4 yX4_tellPerson yX4_tellPerson ∈ kw_T := kw_mem 306 (by decide +kernel) (by decide +kernel)
theorem mc_X4_tellTie : Cond.code yX4_tellTie cX4_tellTie 4 (some .boolean) ∈ kw_T := kw_mem 311 (by decide +kernel) (by decide +kernel)
theorem mi_X4_tellTie : Cond.instanceMethod yX4_tellTie ∈ kw_T := kw_mem 309 (by decide +kernel) (by decide +kernel)
theorem mv_X4_tellTie : Cond.selects RX4 yX4_tellTie yX4_tellTie ∈ kw_T := kw_mem 310 (by decide +kernel) (by decide +kernel)
theorem mc_X4_tellDebt : Cond.code yX4_tellDebt cX4_tellDebt 4 (some .boolean) ∈ kw_T := kw_mem 327 (by decide +kernel) (by decide +kernel)
theorem mi_X4_tellDebt : Cond.instanceMethod yX4_tellDebt ∈ kw_T := kw_mem 325 (by decide +kernel) (by decide +kernel)
theorem mv_X4_tellDebt : Cond.selects RX4 yX4_tellDebt yX4_tellDebt ∈ kw_T := kw_mem 326 (by decide +kernel) (by decide +kernel)
theorem mc_X4_tellTrialAge : Cond.code yX4_tellTrialAge cX4_tellTrialAge 2 (some .boolean) ∈ kw_T := kw_mem 331 (by decide +kernel) (by decide +kernel)
theorem mi_X4_tellTrialAge : Cond.instanceMethod yX4_tellTrialAge ∈ kw_T := kw_mem 329 (by decide +kernel) (by decide +kernel)
theorem mv_X4_tellTrialAge : Cond.selects RX4 yX4_tellTrialAge yX4_tellTrialAge ∈ kw_T := kw_mem 330 (by decide +kernel) (by decide +kernel)
theorem mc_X4_has : Cond.code yX4_has cX4_has 2 (some .boolean) ∈ kw_T := kw_mem 319 (by decide +kernel) (by decide +kernel)
theorem mi_X4_has : Cond.instanceMethod yX4_has ∈ kw_T := kw_mem 317 (by decide +kernel) (by decide +kernel)
theorem mv_X4_has : Cond.selects RX4 yX4_has yX4_has ∈ kw_T := kw_mem 318 (by decide +kernel) (by decide +kernel)
theorem mc_X4_hasTwo : Cond.code yX4_hasTwo cX4_hasTwo 3 (some .boolean) ∈ kw_T := kw_mem 315 (by decide +kernel) (by decide +kernel)
theorem mi_X4_hasTwo : Cond.instanceMethod yX4_hasTwo ∈ kw_T := kw_mem 313 (by decide +kernel) (by decide +kernel)
theorem mv_X4_hasTwo : Cond.selects RX4 yX4_hasTwo yX4_hasTwo ∈ kw_T := kw_mem 314 (by decide +kernel) (by decide +kernel)
theorem mc_X4_lives : Cond.code yX4_lives cX4_lives 2 (some .boolean) ∈ kw_T := kw_mem 402 (by decide +kernel) (by decide +kernel)
theorem mi_X4_lives : Cond.instanceMethod yX4_lives ∈ kw_T := kw_mem 400 (by decide +kernel) (by decide +kernel)
theorem mv_X4_lives : Cond.selects RX4 yX4_lives yX4_lives ∈ kw_T := kw_mem 401 (by decide +kernel) (by decide +kernel)
theorem mc_X4_hadTrial : Cond.code yX4_hadTrial cX4_hadTrial 2 (some .boolean) ∈ kw_T := kw_mem 409 (by decide +kernel) (by decide +kernel)
theorem mi_X4_hadTrial : Cond.instanceMethod yX4_hadTrial ∈ kw_T := kw_mem 407 (by decide +kernel) (by decide +kernel)
theorem mv_X4_hadTrial : Cond.selects RX4 yX4_hadTrial yX4_hadTrial ∈ kw_T := kw_mem 408 (by decide +kernel) (by decide +kernel)
theorem mc_X4_ageOf : Cond.code yX4_ageOf cX4_ageOf 2 (some .int) ∈ kw_T := kw_mem 398 (by decide +kernel) (by decide +kernel)
theorem mi_X4_ageOf : Cond.instanceMethod yX4_ageOf ∈ kw_T := kw_mem 396 (by decide +kernel) (by decide +kernel)
theorem mv_X4_ageOf : Cond.selects RX4 yX4_ageOf yX4_ageOf ∈ kw_T := kw_mem 397 (by decide +kernel) (by decide +kernel)
theorem mc_X4_tieOf : Cond.code yX4_tieOf cX4_tieOf 3 (some .int) ∈ kw_T := kw_mem 418 (by decide +kernel) (by decide +kernel)
theorem mi_X4_tieOf : Cond.instanceMethod yX4_tieOf ∈ kw_T := kw_mem 416 (by decide +kernel) (by decide +kernel)
theorem mv_X4_tieOf : Cond.selects RX4 yX4_tieOf yX4_tieOf ∈ kw_T := kw_mem 417 (by decide +kernel) (by decide +kernel)
theorem mc_X4_debtOf : Cond.code yX4_debtOf cX4_debtOf 3 (some .int) ∈ kw_T := kw_mem 432 (by decide +kernel) (by decide +kernel)
theorem mi_X4_debtOf : Cond.instanceMethod yX4_debtOf ∈ kw_T := kw_mem 430 (by decide +kernel) (by decide +kernel)
theorem mv_X4_debtOf : Cond.selects RX4 yX4_debtOf yX4_debtOf ∈ kw_T := kw_mem 431 (by decide +kernel) (by decide +kernel)
theorem mc_X4_cell : Cond.code yX4_cell cX4_cell 3 (some .int) ∈ kw_T := kw_mem 323 (by decide +kernel) (by decide +kernel)
theorem mi_X4_cell : Cond.instanceMethod yX4_cell ∈ kw_T := kw_mem 321 (by decide +kernel) (by decide +kernel)
theorem mv_X4_cell : Cond.selects RX4 yX4_cell yX4_cell ∈ kw_T := kw_mem 322 (by decide +kernel) (by decide +kernel)
theorem mc_X4_coinsOfAll : Cond.code yX4_coinsOfAll cX4_coinsOfAll 3 (some .int) ∈ kw_T := kw_mem 712 (by decide +kernel) (by decide +kernel)
theorem mi_X4_coinsOfAll : Cond.instanceMethod yX4_coinsOfAll ∈ kw_T := kw_mem 710 (by decide +kernel) (by decide +kernel)
theorem mv_X4_coinsOfAll : Cond.selects RX4 yX4_coinsOfAll yX4_coinsOfAll ∈ kw_T := kw_mem 711 (by decide +kernel) (by decide +kernel)
theorem mc_X4_debtsOfAll : Cond.code yX4_debtsOfAll cX4_debtsOfAll 3 (some .int) ∈ kw_T := kw_mem 728 (by decide +kernel) (by decide +kernel)
theorem mi_X4_debtsOfAll : Cond.instanceMethod yX4_debtsOfAll ∈ kw_T := kw_mem 726 (by decide +kernel) (by decide +kernel)
theorem mv_X4_debtsOfAll : Cond.selects RX4 yX4_debtsOfAll yX4_debtsOfAll ∈ kw_T := kw_mem 727 (by decide +kernel) (by decide +kernel)
theorem mc_X4_wouldCome : Cond.code yX4_wouldCome cX4_wouldCome 8 (some .boolean) ∈ kw_T := kw_mem 472 (by decide +kernel) (by decide +kernel)
theorem mi_X4_wouldCome : Cond.instanceMethod yX4_wouldCome ∈ kw_T := kw_mem 470 (by decide +kernel) (by decide +kernel)
theorem mv_X4_wouldCome : Cond.selects RX4 yX4_wouldCome yX4_wouldCome ∈ kw_T := kw_mem 471 (by decide +kernel) (by decide +kernel)
theorem mc_X4_guestsOf : Cond.code yX4_guestsOf cX4_guestsOf 6 (some .int) ∈ kw_T := kw_mem 468 (by decide +kernel) (by decide +kernel)
theorem mi_X4_guestsOf : Cond.instanceMethod yX4_guestsOf ∈ kw_T := kw_mem 466 (by decide +kernel) (by decide +kernel)
theorem mv_X4_guestsOf : Cond.selects RX4 yX4_guestsOf yX4_guestsOf ∈ kw_T := kw_mem 467 (by decide +kernel) (by decide +kernel)
theorem mc_X4_giftsUntilComing : Cond.code yX4_giftsUntilComing cX4_giftsUntilComing 7 (some .int) ∈ kw_T := kw_mem 566 (by decide +kernel) (by decide +kernel)
theorem mi_X4_giftsUntilComing : Cond.instanceMethod yX4_giftsUntilComing ∈ kw_T := kw_mem 564 (by decide +kernel) (by decide +kernel)
theorem mv_X4_giftsUntilComing : Cond.selects RX4 yX4_giftsUntilComing yX4_giftsUntilComing ∈ kw_T := kw_mem 565 (by decide +kernel) (by decide +kernel)
theorem mc_X4_isDueForTrial : Cond.code yX4_isDueForTrial cX4_isDueForTrial 2 (some .boolean) ∈ kw_T := kw_mem 447 (by decide +kernel) (by decide +kernel)
theorem mi_X4_isDueForTrial : Cond.instanceMethod yX4_isDueForTrial ∈ kw_T := kw_mem 445 (by decide +kernel) (by decide +kernel)
theorem mv_X4_isDueForTrial : Cond.selects RX4 yX4_isDueForTrial yX4_isDueForTrial ∈ kw_T := kw_mem 446 (by decide +kernel) (by decide +kernel)
theorem mc_X4_canHoldTrial : Cond.code yX4_canHoldTrial cX4_canHoldTrial 4 (some .boolean) ∈ kw_T := kw_mem 443 (by decide +kernel) (by decide +kernel)
theorem mi_X4_canHoldTrial : Cond.instanceMethod yX4_canHoldTrial ∈ kw_T := kw_mem 441 (by decide +kernel) (by decide +kernel)
theorem mv_X4_canHoldTrial : Cond.selects RX4 yX4_canHoldTrial yX4_canHoldTrial ∈ kw_T := kw_mem 442 (by decide +kernel) (by decide +kernel)
theorem mc_X4_holdTrial : Cond.code yX4_holdTrial cX4_holdTrial 6 (some .int) ∈ kw_T := kw_mem 464 (by decide +kernel) (by decide +kernel)
theorem mi_X4_holdTrial : Cond.instanceMethod yX4_holdTrial ∈ kw_T := kw_mem 462 (by decide +kernel) (by decide +kernel)
theorem mv_X4_holdTrial : Cond.selects RX4 yX4_holdTrial yX4_holdTrial ∈ kw_T := kw_mem 463 (by decide +kernel) (by decide +kernel)
theorem mc_X4_meet : Cond.code yX4_meet cX4_meet 5 none ∈ kw_T := kw_mem 477 (by decide +kernel) (by decide +kernel)
theorem mi_X4_meet : Cond.instanceMethod yX4_meet ∈ kw_T := kw_mem 475 (by decide +kernel) (by decide +kernel)
theorem mv_X4_meet : Cond.selects RX4 yX4_meet yX4_meet ∈ kw_T := kw_mem 476 (by decide +kernel) (by decide +kernel)
theorem mc_X4_changeTie : Cond.code yX4_changeTie cX4_changeTie 5 none ∈ kw_T := kw_mem 481 (by decide +kernel) (by decide +kernel)
theorem mi_X4_changeTie : Cond.instanceMethod yX4_changeTie ∈ kw_T := kw_mem 479 (by decide +kernel) (by decide +kernel)
theorem mv_X4_changeTie : Cond.selects RX4 yX4_changeTie yX4_changeTie ∈ kw_T := kw_mem 480 (by decide +kernel) (by decide +kernel)
theorem mc_X4_payOff : Cond.code yX4_payOff cX4_payOff 5 (some .int) ∈ kw_T := kw_mem 487 (by decide +kernel) (by decide +kernel)
theorem mi_X4_payOff : Cond.instanceMethod yX4_payOff ∈ kw_T := kw_mem 485 (by decide +kernel) (by decide +kernel)
theorem mv_X4_payOff : Cond.selects RX4 yX4_payOff yX4_payOff ∈ kw_T := kw_mem 486 (by decide +kernel) (by decide +kernel)
theorem mc_X4_receive : Cond.code yX4_receive cX4_receive 3 none ∈ kw_T := kw_mem 491 (by decide +kernel) (by decide +kernel)
theorem mi_X4_receive : Cond.instanceMethod yX4_receive ∈ kw_T := kw_mem 489 (by decide +kernel) (by decide +kernel)
theorem mv_X4_receive : Cond.selects RX4 yX4_receive yX4_receive ∈ kw_T := kw_mem 490 (by decide +kernel) (by decide +kernel)
theorem mc_X4_canGive : Cond.code yX4_canGive cX4_canGive 3 (some .boolean) ∈ kw_T := kw_mem 499 (by decide +kernel) (by decide +kernel)
theorem mi_X4_canGive : Cond.instanceMethod yX4_canGive ∈ kw_T := kw_mem 497 (by decide +kernel) (by decide +kernel)
theorem mv_X4_canGive : Cond.selects RX4 yX4_canGive yX4_canGive ∈ kw_T := kw_mem 498 (by decide +kernel) (by decide +kernel)
theorem mc_X4_give : Cond.code yX4_give cX4_give 3 none ∈ kw_T := kw_mem 503 (by decide +kernel) (by decide +kernel)
theorem mi_X4_give : Cond.instanceMethod yX4_give ∈ kw_T := kw_mem 501 (by decide +kernel) (by decide +kernel)
theorem mv_X4_give : Cond.selects RX4 yX4_give yX4_give ∈ kw_T := kw_mem 502 (by decide +kernel) (by decide +kernel)
theorem mc_X4_heirOf : Cond.code yX4_heirOf cX4_heirOf 5 (some .int) ∈ kw_T := kw_mem 413 (by decide +kernel) (by decide +kernel)
theorem mi_X4_heirOf : Cond.instanceMethod yX4_heirOf ∈ kw_T := kw_mem 411 (by decide +kernel) (by decide +kernel)
theorem mv_X4_heirOf : Cond.selects RX4 yX4_heirOf yX4_heirOf ∈ kw_T := kw_mem 412 (by decide +kernel) (by decide +kernel)
theorem mc_X4_bury : Cond.code yX4_bury cX4_bury 4 (some .int) ∈ kw_T := kw_mem 516 (by decide +kernel) (by decide +kernel)
theorem mi_X4_bury : Cond.instanceMethod yX4_bury ∈ kw_T := kw_mem 514 (by decide +kernel) (by decide +kernel)
theorem mv_X4_bury : Cond.selects RX4 yX4_bury yX4_bury ∈ kw_T := kw_mem 515 (by decide +kernel) (by decide +kernel)
theorem mc_X4_bequeath : Cond.code yX4_bequeath cX4_bequeath 4 none ∈ kw_T := kw_mem 521 (by decide +kernel) (by decide +kernel)
theorem mi_X4_bequeath : Cond.instanceMethod yX4_bequeath ∈ kw_T := kw_mem 519 (by decide +kernel) (by decide +kernel)
theorem mv_X4_bequeath : Cond.selects RX4 yX4_bequeath yX4_bequeath ∈ kw_T := kw_mem 520 (by decide +kernel) (by decide +kernel)
theorem mc_X4_letDaysGoBy : Cond.code yX4_letDaysGoBy cX4_letDaysGoBy 2 none ∈ kw_T := kw_mem 529 (by decide +kernel) (by decide +kernel)
theorem mi_X4_letDaysGoBy : Cond.instanceMethod yX4_letDaysGoBy ∈ kw_T := kw_mem 527 (by decide +kernel) (by decide +kernel)
theorem mv_X4_letDaysGoBy : Cond.selects RX4 yX4_letDaysGoBy yX4_letDaysGoBy ∈ kw_T := kw_mem 528 (by decide +kernel) (by decide +kernel)
theorem mc_X4_liveOneDay : Cond.code yX4_liveOneDay cX4_liveOneDay 7 (some .int) ∈ kw_T := kw_mem 702 (by decide +kernel) (by decide +kernel)
theorem mi_X4_liveOneDay : Cond.instanceMethod yX4_liveOneDay ∈ kw_T := kw_mem 700 (by decide +kernel) (by decide +kernel)
theorem mv_X4_liveOneDay : Cond.selects RX4 yX4_liveOneDay yX4_liveOneDay ∈ kw_T := kw_mem 701 (by decide +kernel) (by decide +kernel)
theorem mc_X4_gainOf : Cond.code yX4_gainOf cX4_gainOf 3 (some .int) ∈ kw_T := kw_mem 625 (by decide +kernel) (by decide +kernel)
theorem mi_X4_gainOf : Cond.instanceMethod yX4_gainOf ∈ kw_T := kw_mem 623 (by decide +kernel) (by decide +kernel)
theorem mv_X4_gainOf : Cond.selects RX4 yX4_gainOf yX4_gainOf ∈ kw_T := kw_mem 624 (by decide +kernel) (by decide +kernel)
theorem mc_X5_init : Cond.code yX5_init cX5_init 2 none ∈ kw_T := kw_mem 57 (by decide +kernel) (by decide +kernel)
theorem mi_X5_init : Cond.instanceMethod yX5_init ∈ kw_T := kw_mem 56 (by decide +kernel) (by decide +kernel)
theorem mc_X5_write : Cond.code yX5_write cX5_write 2 (some .int) ∈ kw_T := kw_mem 362 (by decide +kernel) (by decide +kernel)
theorem mi_X5_write : Cond.instanceMethod yX5_write ∈ kw_T := kw_mem 360 (by decide +kernel) (by decide +kernel)
theorem mv_X5_write : Cond.selects RX5 yX5_write yX5_write ∈ kw_T := kw_mem 361 (by decide +kernel) (by decide +kernel)
theorem mc_X5_wipe : Cond.code yX5_wipe cX5_wipe 2 (some .int) ∈ kw_T := kw_mem 370 (by decide +kernel) (by decide +kernel)
theorem mi_X5_wipe : Cond.instanceMethod yX5_wipe ∈ kw_T := kw_mem 368 (by decide +kernel) (by decide +kernel)
theorem mv_X5_wipe : Cond.selects RX5 yX5_wipe yX5_wipe ∈ kw_T := kw_mem 369 (by decide +kernel) (by decide +kernel)
theorem mc_X5_fault : Cond.code yX5_fault cX5_fault 1 (some .int) ∈ kw_T := kw_mem 374 (by decide +kernel) (by decide +kernel)
theorem mi_X5_fault : Cond.instanceMethod yX5_fault ∈ kw_T := kw_mem 372 (by decide +kernel) (by decide +kernel)
theorem mv_X5_fault : Cond.selects RX5 yX5_fault yX5_fault ∈ kw_T := kw_mem 373 (by decide +kernel) (by decide +kernel)
theorem mc_X5_lay : Cond.code yX5_lay cX5_lay 1 (some .int) ∈ kw_T := kw_mem 378 (by decide +kernel) (by decide +kernel)
theorem mi_X5_lay : Cond.instanceMethod yX5_lay ∈ kw_T := kw_mem 376 (by decide +kernel) (by decide +kernel)
theorem mv_X5_lay : Cond.selects RX5 yX5_lay yX5_lay ∈ kw_T := kw_mem 377 (by decide +kernel) (by decide +kernel)
theorem mc_X5_person : Cond.code yX5_person cX5_person 3 (some .int) ∈ kw_T := kw_mem 393 (by decide +kernel) (by decide +kernel)
theorem mi_X5_person : Cond.instanceMethod yX5_person ∈ kw_T := kw_mem 391 (by decide +kernel) (by decide +kernel)
theorem mv_X5_person : Cond.selects RX5 yX5_person yX5_person ∈ kw_T := kw_mem 392 (by decide +kernel) (by decide +kernel)
theorem mc_X5_tie : Cond.code yX5_tie cX5_tie 3 (some .int) ∈ kw_T := kw_mem 422 (by decide +kernel) (by decide +kernel)
theorem mi_X5_tie : Cond.instanceMethod yX5_tie ∈ kw_T := kw_mem 420 (by decide +kernel) (by decide +kernel)
theorem mv_X5_tie : Cond.selects RX5 yX5_tie yX5_tie ∈ kw_T := kw_mem 421 (by decide +kernel) (by decide +kernel)
theorem mc_X5_owes : Cond.code yX5_owes cX5_owes 3 (some .int) ∈ kw_T := kw_mem 428 (by decide +kernel) (by decide +kernel)
theorem mi_X5_owes : Cond.instanceMethod yX5_owes ∈ kw_T := kw_mem 426 (by decide +kernel) (by decide +kernel)
theorem mv_X5_owes : Cond.selects RX5 yX5_owes yX5_owes ∈ kw_T := kw_mem 427 (by decide +kernel) (by decide +kernel)
theorem mc_X5_trial : Cond.code yX5_trial cX5_trial 4 (some .int) ∈ kw_T := kw_mem 436 (by decide +kernel) (by decide +kernel)
theorem mi_X5_trial : Cond.instanceMethod yX5_trial ∈ kw_T := kw_mem 434 (by decide +kernel) (by decide +kernel)
theorem mv_X5_trial : Cond.selects RX5 yX5_trial yX5_trial ∈ kw_T := kw_mem 435 (by decide +kernel) (by decide +kernel)
theorem mc_X5_gift : Cond.code yX5_gift cX5_gift 3 (some .int) ∈ kw_T := kw_mem 495 (by decide +kernel) (by decide +kernel)
theorem mi_X5_gift : Cond.instanceMethod yX5_gift ∈ kw_T := kw_mem 493 (by decide +kernel) (by decide +kernel)
theorem mv_X5_gift : Cond.selects RX5 yX5_gift yX5_gift ∈ kw_T := kw_mem 494 (by decide +kernel) (by decide +kernel)
theorem mc_X5_pay : Cond.code yX5_pay cX5_pay 4 (some .int) ∈ kw_T := kw_mem 507 (by decide +kernel) (by decide +kernel)
theorem mi_X5_pay : Cond.instanceMethod yX5_pay ∈ kw_T := kw_mem 505 (by decide +kernel) (by decide +kernel)
theorem mv_X5_pay : Cond.selects RX5 yX5_pay yX5_pay ∈ kw_T := kw_mem 506 (by decide +kernel) (by decide +kernel)
theorem mc_X5_die : Cond.code yX5_die cX5_die 2 (some .int) ∈ kw_T := kw_mem 512 (by decide +kernel) (by decide +kernel)
theorem mi_X5_die : Cond.instanceMethod yX5_die ∈ kw_T := kw_mem 510 (by decide +kernel) (by decide +kernel)
theorem mv_X5_die : Cond.selects RX5 yX5_die yX5_die ∈ kw_T := kw_mem 511 (by decide +kernel) (by decide +kernel)
theorem mc_X5_pass : Cond.code yX5_pass cX5_pass 2 (some .int) ∈ kw_T := kw_mem 525 (by decide +kernel) (by decide +kernel)
theorem mi_X5_pass : Cond.instanceMethod yX5_pass ∈ kw_T := kw_mem 523 (by decide +kernel) (by decide +kernel)
theorem mv_X5_pass : Cond.selects RX5 yX5_pass yX5_pass ∈ kw_T := kw_mem 524 (by decide +kernel) (by decide +kernel)
theorem mc_X5_undo : Cond.code yX5_undo cX5_undo 1 (some .int) ∈ kw_T := kw_mem 533 (by decide +kernel) (by decide +kernel)
theorem mi_X5_undo : Cond.instanceMethod yX5_undo ∈ kw_T := kw_mem 531 (by decide +kernel) (by decide +kernel)
theorem mv_X5_undo : Cond.selects RX5 yX5_undo yX5_undo ∈ kw_T := kw_mem 532 (by decide +kernel) (by decide +kernel)
theorem mc_X5_come : Cond.code yX5_come cX5_come 6 (some .int) ∈ kw_T := kw_mem 541 (by decide +kernel) (by decide +kernel)
theorem mi_X5_come : Cond.instanceMethod yX5_come ∈ kw_T := kw_mem 539 (by decide +kernel) (by decide +kernel)
theorem mv_X5_come : Cond.selects RX5 yX5_come yX5_come ∈ kw_T := kw_mem 540 (by decide +kernel) (by decide +kernel)
theorem mc_X5_cheapest : Cond.code yX5_cheapest cX5_cheapest 10 (some .int) ∈ kw_T := kw_mem 552 (by decide +kernel) (by decide +kernel)
theorem mi_X5_cheapest : Cond.instanceMethod yX5_cheapest ∈ kw_T := kw_mem 550 (by decide +kernel) (by decide +kernel)
theorem mv_X5_cheapest : Cond.selects RX5 yX5_cheapest yX5_cheapest ∈ kw_T := kw_mem 551 (by decide +kernel) (by decide +kernel)
theorem mc_X5_gifts : Cond.code yX5_gifts cX5_gifts 8 (some .int) ∈ kw_T := kw_mem 562 (by decide +kernel) (by decide +kernel)
theorem mi_X5_gifts : Cond.instanceMethod yX5_gifts ∈ kw_T := kw_mem 560 (by decide +kernel) (by decide +kernel)
theorem mv_X5_gifts : Cond.selects RX5 yX5_gifts yX5_gifts ∈ kw_T := kw_mem 561 (by decide +kernel) (by decide +kernel)
theorem mc_X5_order : Cond.code yX5_order cX5_order 4 (some .int) ∈ kw_T := kw_mem 570 (by decide +kernel) (by decide +kernel)
theorem mi_X5_order : Cond.instanceMethod yX5_order ∈ kw_T := kw_mem 568 (by decide +kernel) (by decide +kernel)
theorem mv_X5_order : Cond.selects RX5 yX5_order yX5_order ∈ kw_T := kw_mem 569 (by decide +kernel) (by decide +kernel)
theorem mc_X5_mutual : Cond.code yX5_mutual cX5_mutual 7 (some .int) ∈ kw_T := kw_mem 608 (by decide +kernel) (by decide +kernel)
theorem mi_X5_mutual : Cond.instanceMethod yX5_mutual ∈ kw_T := kw_mem 606 (by decide +kernel) (by decide +kernel)
theorem mv_X5_mutual : Cond.selects RX5 yX5_mutual yX5_mutual ∈ kw_T := kw_mem 607 (by decide +kernel) (by decide +kernel)
theorem mc_X5_see : Cond.code yX5_see cX5_see 6 (some .int) ∈ kw_T := kw_mem 633 (by decide +kernel) (by decide +kernel)
theorem mi_X5_see : Cond.instanceMethod yX5_see ∈ kw_T := kw_mem 631 (by decide +kernel) (by decide +kernel)
theorem mv_X5_see : Cond.selects RX5 yX5_see yX5_see ∈ kw_T := kw_mem 632 (by decide +kernel) (by decide +kernel)
theorem mc_X5_forget : Cond.code yX5_forget cX5_forget 2 (some .int) ∈ kw_T := kw_mem 641 (by decide +kernel) (by decide +kernel)
theorem mi_X5_forget : Cond.instanceMethod yX5_forget ∈ kw_T := kw_mem 639 (by decide +kernel) (by decide +kernel)
theorem mv_X5_forget : Cond.selects RX5 yX5_forget yX5_forget ∈ kw_T := kw_mem 640 (by decide +kernel) (by decide +kernel)
theorem mc_X5_felt : Cond.code yX5_felt cX5_felt 3 (some .int) ∈ kw_T := kw_mem 645 (by decide +kernel) (by decide +kernel)
theorem mi_X5_felt : Cond.instanceMethod yX5_felt ∈ kw_T := kw_mem 643 (by decide +kernel) (by decide +kernel)
theorem mv_X5_felt : Cond.selects RX5 yX5_felt yX5_felt ∈ kw_T := kw_mem 644 (by decide +kernel) (by decide +kernel)
theorem mc_X5_kinds : Cond.code yX5_kinds cX5_kinds 2 (some .int) ∈ kw_T := kw_mem 662 (by decide +kernel) (by decide +kernel)
theorem mi_X5_kinds : Cond.instanceMethod yX5_kinds ∈ kw_T := kw_mem 660 (by decide +kernel) (by decide +kernel)
theorem mv_X5_kinds : Cond.selects RX5 yX5_kinds yX5_kinds ∈ kw_T := kw_mem 661 (by decide +kernel) (by decide +kernel)
theorem mc_X5_rain : Cond.code yX5_rain cX5_rain 11 (some .int) ∈ kw_T := kw_mem 675 (by decide +kernel) (by decide +kernel)
theorem mi_X5_rain : Cond.instanceMethod yX5_rain ∈ kw_T := kw_mem 673 (by decide +kernel) (by decide +kernel)
theorem mv_X5_rain : Cond.selects RX5 yX5_rain yX5_rain ∈ kw_T := kw_mem 674 (by decide +kernel) (by decide +kernel)
theorem mc_X5_year : Cond.code yX5_year cX5_year 6 (some .int) ∈ kw_T := kw_mem 692 (by decide +kernel) (by decide +kernel)
theorem mi_X5_year : Cond.instanceMethod yX5_year ∈ kw_T := kw_mem 690 (by decide +kernel) (by decide +kernel)
theorem mv_X5_year : Cond.selects RX5 yX5_year yX5_year ∈ kw_T := kw_mem 691 (by decide +kernel) (by decide +kernel)
theorem mc_X5_keep : Cond.code yX5_keep cX5_keep 1 (some .int) ∈ kw_T := kw_mem 716 (by decide +kernel) (by decide +kernel)
theorem mi_X5_keep : Cond.instanceMethod yX5_keep ∈ kw_T := kw_mem 714 (by decide +kernel) (by decide +kernel)
theorem mv_X5_keep : Cond.selects RX5 yX5_keep yX5_keep ∈ kw_T := kw_mem 715 (by decide +kernel) (by decide +kernel)
theorem mc_X5_back : Cond.code yX5_back cX5_back 1 (some .int) ∈ kw_T := kw_mem 720 (by decide +kernel) (by decide +kernel)
theorem mi_X5_back : Cond.instanceMethod yX5_back ∈ kw_T := kw_mem 718 (by decide +kernel) (by decide +kernel)
theorem mv_X5_back : Cond.selects RX5 yX5_back yX5_back ∈ kw_T := kw_mem 719 (by decide +kernel) (by decide +kernel)
theorem mc_X5_count : Cond.code yX5_count cX5_count 2 (some .int) ∈ kw_T := kw_mem 724 (by decide +kernel) (by decide +kernel)
theorem mi_X5_count : Cond.instanceMethod yX5_count ∈ kw_T := kw_mem 722 (by decide +kernel) (by decide +kernel)
theorem mv_X5_count : Cond.selects RX5 yX5_count yX5_count ∈ kw_T := kw_mem 723 (by decide +kernel) (by decide +kernel)
theorem mc_X5_isSetOfOthers : Cond.code yX5_isSetOfOthers cX5_isSetOfOthers 3 (some .boolean) ∈ kw_T := kw_mem 556 (by decide +kernel) (by decide +kernel)
theorem mi_X5_isSetOfOthers : Cond.instanceMethod yX5_isSetOfOthers ∈ kw_T := kw_mem 555 (by decide +kernel) (by decide +kernel)
theorem mv_X5_isSetOfOthers : Cond.selects RX5 yX5_isSetOfOthers yX5_isSetOfOthers ∈ kw_T := kw_mem 0 (by decide +kernel) (by decide +kernel)
theorem mc_X5_rests : Cond.code yX5_rests cX5_rests 4 (some .boolean) ∈ kw_T := kw_mem 612 (by decide +kernel) (by decide +kernel)
theorem mi_X5_rests : Cond.instanceMethod yX5_rests ∈ kw_T := kw_mem 611 (by decide +kernel) (by decide +kernel)
theorem mv_X5_rests : Cond.selects RX5 yX5_rests yX5_rests ∈ kw_T := kw_mem 1 (by decide +kernel) (by decide +kernel)
theorem mc_X5_gainOfFirst : Cond.code yX5_gainOfFirst cX5_gainOfFirst 4 (some .int) ∈ kw_T := kw_mem 616 (by decide +kernel) (by decide +kernel)
theorem mi_X5_gainOfFirst : Cond.instanceMethod yX5_gainOfFirst ∈ kw_T := kw_mem 615 (by decide +kernel) (by decide +kernel)
theorem mv_X5_gainOfFirst : Cond.selects RX5 yX5_gainOfFirst yX5_gainOfFirst ∈ kw_T := kw_mem 2 (by decide +kernel) (by decide +kernel)
theorem mc_X5_gainOfOther : Cond.code yX5_gainOfOther cX5_gainOfOther 4 (some .int) ∈ kw_T := kw_mem 629 (by decide +kernel) (by decide +kernel)
theorem mi_X5_gainOfOther : Cond.instanceMethod yX5_gainOfOther ∈ kw_T := kw_mem 628 (by decide +kernel) (by decide +kernel)
theorem mv_X5_gainOfOther : Cond.selects RX5 yX5_gainOfOther yX5_gainOfOther ∈ kw_T := kw_mem 4 (by decide +kernel) (by decide +kernel)
theorem mc_X5_visitEachOther : Cond.code yX5_visitEachOther cX5_visitEachOther 4 none ∈ kw_T := kw_mem 620 (by decide +kernel) (by decide +kernel)
theorem mi_X5_visitEachOther : Cond.instanceMethod yX5_visitEachOther ∈ kw_T := kw_mem 619 (by decide +kernel) (by decide +kernel)
theorem mv_X5_visitEachOther : Cond.selects RX5 yX5_visitEachOther yX5_visitEachOther ∈ kw_T := kw_mem 3 (by decide +kernel) (by decide +kernel)
theorem mc_X5_within : Cond.code yX5_within cX5_within 3 (some .boolean) ∈ kw_T := kw_mem 365 (by decide +kernel) (by decide +kernel)
theorem ms_X5_within : Cond.static yX5_within ∈ kw_T := kw_mem 364 (by decide +kernel) (by decide +kernel)
theorem mc_X5_isFare : Cond.code yX5_isFare cX5_isFare 2 (some .boolean) ∈ kw_T := kw_mem 439 (by decide +kernel) (by decide +kernel)
theorem ms_X5_isFare : Cond.static yX5_isFare ∈ kw_T := kw_mem 438 (by decide +kernel) (by decide +kernel)
theorem mc_X5_contains : Cond.code yX5_contains cX5_contains 2 (some .boolean) ∈ kw_T := kw_mem 405 (by decide +kernel) (by decide +kernel)
theorem ms_X5_contains : Cond.static yX5_contains ∈ kw_T := kw_mem 404 (by decide +kernel) (by decide +kernel)
theorem mc_X5_costOf : Cond.code yX5_costOf cX5_costOf 2 (some .int) ∈ kw_T := kw_mem 452 (by decide +kernel) (by decide +kernel)
theorem ms_X5_costOf : Cond.static yX5_costOf ∈ kw_T := kw_mem 451 (by decide +kernel) (by decide +kernel)
theorem mc_X5_waysOfTenths : Cond.code yX5_waysOfTenths cX5_waysOfTenths 5 (some .int) ∈ kw_T := kw_mem 678 (by decide +kernel) (by decide +kernel)
theorem ms_X5_waysOfTenths : Cond.static yX5_waysOfTenths ∈ kw_T := kw_mem 677 (by decide +kernel) (by decide +kernel)
theorem mc_X5_choices : Cond.code yX5_choices cX5_choices 4 (some .int) ∈ kw_T := kw_mem 681 (by decide +kernel) (by decide +kernel)
theorem ms_X5_choices : Cond.static yX5_choices ∈ kw_T := kw_mem 680 (by decide +kernel) (by decide +kernel)
theorem mc_X5_power : Cond.code yX5_power cX5_power 4 (some .int) ∈ kw_T := kw_mem 684 (by decide +kernel) (by decide +kernel)
theorem ms_X5_power : Cond.static yX5_power ∈ kw_T := kw_mem 683 (by decide +kernel) (by decide +kernel)
theorem mc_X5_commonDivisor : Cond.code yX5_commonDivisor cX5_commonDivisor 6 (some .int) ∈ kw_T := kw_mem 687 (by decide +kernel) (by decide +kernel)
theorem ms_X5_commonDivisor : Cond.static yX5_commonDivisor ∈ kw_T := kw_mem 686 (by decide +kernel) (by decide +kernel)
theorem mc_X5_areAlike : Cond.code yX5_areAlike cX5_areAlike 3 (some .boolean) ∈ kw_T := kw_mem 581 (by decide +kernel) (by decide +kernel)
theorem ms_X5_areAlike : Cond.static yX5_areAlike ∈ kw_T := kw_mem 580 (by decide +kernel) (by decide +kernel)
theorem mc_X5_drawOf : Cond.code yX5_drawOf cX5_drawOf 4 (some .int) ∈ kw_T := kw_mem 695 (by decide +kernel) (by decide +kernel)
theorem ms_X5_drawOf : Cond.static yX5_drawOf ∈ kw_T := kw_mem 694 (by decide +kernel) (by decide +kernel)
theorem mc_X6_init : Cond.code yX6_init cX6_init 1 none ∈ kw_T := kw_mem 733 (by decide +kernel) (by decide +kernel)
theorem mi_X6_init : Cond.instanceMethod yX6_init ∈ kw_T := kw_mem 732 (by decide +kernel) (by decide +kernel)
theorem mc_X6_in : Cond.code yX6_in cX6_in 6 (some .boolean) ∈ kw_T := kw_mem 827 (by decide +kernel) (by decide +kernel)
theorem ms_X6_in : Cond.static yX6_in ∈ kw_T := kw_mem 826 (by decide +kernel) (by decide +kernel)
theorem mc_X6_has : Cond.code yX6_has cX6_has 2 (some .boolean) ∈ kw_T := kw_mem 885 (by decide +kernel) (by decide +kernel)
theorem ms_X6_has : Cond.static yX6_has ∈ kw_T := kw_mem 884 (by decide +kernel) (by decide +kernel)
theorem mc_X6_smaller : Cond.code yX6_smaller cX6_smaller 2 (some .int) ∈ kw_T := kw_mem 951 (by decide +kernel) (by decide +kernel)
theorem ms_X6_smaller : Cond.static yX6_smaller ∈ kw_T := kw_mem 950 (by decide +kernel) (by decide +kernel)
theorem mc_X6_larger : Cond.code yX6_larger cX6_larger 2 (some .int) ∈ kw_T := kw_mem 948 (by decide +kernel) (by decide +kernel)
theorem ms_X6_larger : Cond.static yX6_larger ∈ kw_T := kw_mem 947 (by decide +kernel) (by decide +kernel)
theorem mc_X6_lives : Cond.code yX6_lives cX6_lives 5 none ∈ kw_T := kw_mem 738 (by decide +kernel) (by decide +kernel)
theorem mi_X6_lives : Cond.instanceMethod yX6_lives ∈ kw_T := kw_mem 737 (by decide +kernel) (by decide +kernel)
theorem mv_X6_lives : Cond.selects RX6 yX6_lives yX6_lives ∈ kw_T := kw_mem 5 (by decide +kernel) (by decide +kernel)
theorem mc_X6_settles : Cond.code yX6_settles cX6_settles 2 none ∈ kw_T := kw_mem 742 (by decide +kernel) (by decide +kernel)
theorem mi_X6_settles : Cond.instanceMethod yX6_settles ∈ kw_T := kw_mem 741 (by decide +kernel) (by decide +kernel)
theorem mv_X6_settles : Cond.selects RX6 yX6_settles yX6_settles ∈ kw_T := kw_mem 6 (by decide +kernel) (by decide +kernel)
theorem mc_X6_copies : Cond.code yX6_copies cX6_copies 4 none ∈ kw_T := kw_mem 865 (by decide +kernel) (by decide +kernel)
theorem mi_X6_copies : Cond.instanceMethod yX6_copies ∈ kw_T := kw_mem 864 (by decide +kernel) (by decide +kernel)
theorem mv_X6_copies : Cond.selects RX6 yX6_copies yX6_copies ∈ kw_T := kw_mem 12 (by decide +kernel) (by decide +kernel)
theorem mc_X6_isPerson : Cond.code yX6_isPerson cX6_isPerson 2 (some .boolean) ∈ kw_T := kw_mem 873 (by decide +kernel) (by decide +kernel)
theorem mi_X6_isPerson : Cond.instanceMethod yX6_isPerson ∈ kw_T := kw_mem 872 (by decide +kernel) (by decide +kernel)
theorem mv_X6_isPerson : Cond.selects RX6 yX6_isPerson yX6_isPerson ∈ kw_T := kw_mem 13 (by decide +kernel) (by decide +kernel)
theorem mc_X6_areTwo : Cond.code yX6_areTwo cX6_areTwo 3 (some .boolean) ∈ kw_T := kw_mem 897 (by decide +kernel) (by decide +kernel)
theorem mi_X6_areTwo : Cond.instanceMethod yX6_areTwo ∈ kw_T := kw_mem 896 (by decide +kernel) (by decide +kernel)
theorem mv_X6_areTwo : Cond.selects RX6 yX6_areTwo yX6_areTwo ∈ kw_T := kw_mem 17 (by decide +kernel) (by decide +kernel)
theorem mc_X6_write : Cond.code yX6_write cX6_write 2 (some .int) ∈ kw_T := kw_mem 822 (by decide +kernel) (by decide +kernel)
theorem mi_X6_write : Cond.instanceMethod yX6_write ∈ kw_T := kw_mem 820 (by decide +kernel) (by decide +kernel)
theorem mv_X6_write : Cond.selects RX6 yX6_write yX6_write ∈ kw_T := kw_mem 821 (by decide +kernel) (by decide +kernel)
theorem mc_X6_wipe : Cond.code yX6_wipe cX6_wipe 2 (some .int) ∈ kw_T := kw_mem 831 (by decide +kernel) (by decide +kernel)
theorem mi_X6_wipe : Cond.instanceMethod yX6_wipe ∈ kw_T := kw_mem 829 (by decide +kernel) (by decide +kernel)
theorem mv_X6_wipe : Cond.selects RX6 yX6_wipe yX6_wipe ∈ kw_T := kw_mem 830 (by decide +kernel) (by decide +kernel)
theorem mc_X6_next : Cond.code yX6_next cX6_next 1 (some .int) ∈ kw_T := kw_mem 843 (by decide +kernel) (by decide +kernel)
theorem mi_X6_next : Cond.instanceMethod yX6_next ∈ kw_T := kw_mem 842 (by decide +kernel) (by decide +kernel)
theorem mv_X6_next : Cond.selects RX6 yX6_next yX6_next ∈ kw_T := kw_mem 8 (by decide +kernel) (by decide +kernel)
theorem mc_X6_number : Cond.code yX6_number cX6_number 5 (some .int) ∈ kw_T := kw_mem 851 (by decide +kernel) (by decide +kernel)
theorem mi_X6_number : Cond.instanceMethod yX6_number ∈ kw_T := kw_mem 850 (by decide +kernel) (by decide +kernel)
theorem mv_X6_number : Cond.selects RX6 yX6_number yX6_number ∈ kw_T := kw_mem 10 (by decide +kernel) (by decide +kernel)
theorem mc_X6_more : Cond.code yX6_more cX6_more 3 (some .int) ∈ kw_T := kw_mem 857 (by decide +kernel) (by decide +kernel)
theorem mi_X6_more : Cond.instanceMethod yX6_more ∈ kw_T := kw_mem 856 (by decide +kernel) (by decide +kernel)
theorem mv_X6_more : Cond.selects RX6 yX6_more yX6_more ∈ kw_T := kw_mem 11 (by decide +kernel) (by decide +kernel)
theorem mc_X6_item : Cond.code yX6_item cX6_item 5 none ∈ kw_T := kw_mem 847 (by decide +kernel) (by decide +kernel)
theorem mi_X6_item : Cond.instanceMethod yX6_item ∈ kw_T := kw_mem 846 (by decide +kernel) (by decide +kernel)
theorem mv_X6_item : Cond.selects RX6 yX6_item yX6_item ∈ kw_T := kw_mem 9 (by decide +kernel) (by decide +kernel)
theorem mc_X6_reads : Cond.code yX6_reads cX6_reads 2 (some .boolean) ∈ kw_T := kw_mem 839 (by decide +kernel) (by decide +kernel)
theorem mi_X6_reads : Cond.instanceMethod yX6_reads ∈ kw_T := kw_mem 838 (by decide +kernel) (by decide +kernel)
theorem mv_X6_reads : Cond.selects RX6 yX6_reads yX6_reads ∈ kw_T := kw_mem 7 (by decide +kernel) (by decide +kernel)
theorem mc_X6_fault : Cond.code yX6_fault cX6_fault 1 (some .int) ∈ kw_T := kw_mem 835 (by decide +kernel) (by decide +kernel)
theorem mi_X6_fault : Cond.instanceMethod yX6_fault ∈ kw_T := kw_mem 833 (by decide +kernel) (by decide +kernel)
theorem mv_X6_fault : Cond.selects RX6 yX6_fault yX6_fault ∈ kw_T := kw_mem 834 (by decide +kernel) (by decide +kernel)
theorem mc_X6_lay : Cond.code yX6_lay cX6_lay 1 (some .int) ∈ kw_T := kw_mem 861 (by decide +kernel) (by decide +kernel)
theorem mi_X6_lay : Cond.instanceMethod yX6_lay ∈ kw_T := kw_mem 859 (by decide +kernel) (by decide +kernel)
theorem mv_X6_lay : Cond.selects RX6 yX6_lay yX6_lay ∈ kw_T := kw_mem 860 (by decide +kernel) (by decide +kernel)
theorem mc_X6_isAlive : Cond.code yX6_isAlive cX6_isAlive 3 (some .boolean) ∈ kw_T := kw_mem 882 (by decide +kernel) (by decide +kernel)
theorem mi_X6_isAlive : Cond.instanceMethod yX6_isAlive ∈ kw_T := kw_mem 881 (by decide +kernel) (by decide +kernel)
theorem mv_X6_isAlive : Cond.selects RX6 yX6_isAlive yX6_isAlive ∈ kw_T := kw_mem 15 (by decide +kernel) (by decide +kernel)
theorem mc_X6_ageOf : Cond.code yX6_ageOf cX6_ageOf 3 (some .int) ∈ kw_T := kw_mem 878 (by decide +kernel) (by decide +kernel)
theorem mi_X6_ageOf : Cond.instanceMethod yX6_ageOf ∈ kw_T := kw_mem 877 (by decide +kernel) (by decide +kernel)
theorem mv_X6_ageOf : Cond.selects RX6 yX6_ageOf yX6_ageOf ∈ kw_T := kw_mem 14 (by decide +kernel) (by decide +kernel)
theorem mc_X6_heir : Cond.code yX6_heir cX6_heir 6 (some .int) ∈ kw_T := kw_mem 889 (by decide +kernel) (by decide +kernel)
theorem mi_X6_heir : Cond.instanceMethod yX6_heir ∈ kw_T := kw_mem 888 (by decide +kernel) (by decide +kernel)
theorem mv_X6_heir : Cond.selects RX6 yX6_heir yX6_heir ∈ kw_T := kw_mem 16 (by decide +kernel) (by decide +kernel)
theorem mc_X6_person : Cond.code yX6_person cX6_person 3 (some .int) ∈ kw_T := kw_mem 869 (by decide +kernel) (by decide +kernel)
theorem mi_X6_person : Cond.instanceMethod yX6_person ∈ kw_T := kw_mem 867 (by decide +kernel) (by decide +kernel)
theorem mv_X6_person : Cond.selects RX6 yX6_person yX6_person ∈ kw_T := kw_mem 868 (by decide +kernel) (by decide +kernel)
theorem mc_X6_tie : Cond.code yX6_tie cX6_tie 3 (some .int) ∈ kw_T := kw_mem 893 (by decide +kernel) (by decide +kernel)
theorem mi_X6_tie : Cond.instanceMethod yX6_tie ∈ kw_T := kw_mem 891 (by decide +kernel) (by decide +kernel)
theorem mv_X6_tie : Cond.selects RX6 yX6_tie yX6_tie ∈ kw_T := kw_mem 892 (by decide +kernel) (by decide +kernel)
theorem mc_X6_owes : Cond.code yX6_owes cX6_owes 3 (some .int) ∈ kw_T := kw_mem 901 (by decide +kernel) (by decide +kernel)
theorem mi_X6_owes : Cond.instanceMethod yX6_owes ∈ kw_T := kw_mem 899 (by decide +kernel) (by decide +kernel)
theorem mv_X6_owes : Cond.selects RX6 yX6_owes yX6_owes ∈ kw_T := kw_mem 900 (by decide +kernel) (by decide +kernel)
theorem mc_X6_likes : Cond.code yX6_likes cX6_likes 9 (some .boolean) ∈ kw_T := kw_mem 937 (by decide +kernel) (by decide +kernel)
theorem mi_X6_likes : Cond.instanceMethod yX6_likes ∈ kw_T := kw_mem 936 (by decide +kernel) (by decide +kernel)
theorem mv_X6_likes : Cond.selects RX6 yX6_likes yX6_likes ∈ kw_T := kw_mem 24 (by decide +kernel) (by decide +kernel)
theorem mc_X6_comes : Cond.code yX6_comes cX6_comes 6 (some .boolean) ∈ kw_T := kw_mem 933 (by decide +kernel) (by decide +kernel)
theorem mi_X6_comes : Cond.instanceMethod yX6_comes ∈ kw_T := kw_mem 932 (by decide +kernel) (by decide +kernel)
theorem mv_X6_comes : Cond.selects RX6 yX6_comes yX6_comes ∈ kw_T := kw_mem 23 (by decide +kernel) (by decide +kernel)
theorem mc_X6_comers : Cond.code yX6_comers cX6_comers 7 (some .int) ∈ kw_T := kw_mem 929 (by decide +kernel) (by decide +kernel)
theorem mi_X6_comers : Cond.instanceMethod yX6_comers ∈ kw_T := kw_mem 928 (by decide +kernel) (by decide +kernel)
theorem mv_X6_comers : Cond.selects RX6 yX6_comers yX6_comers ∈ kw_T := kw_mem 22 (by decide +kernel) (by decide +kernel)
theorem mc_X6_bits : Cond.code yX6_bits cX6_bits 3 (some .int) ∈ kw_T := kw_mem 995 (by decide +kernel) (by decide +kernel)
theorem ms_X6_bits : Cond.static yX6_bits ∈ kw_T := kw_mem 994 (by decide +kernel) (by decide +kernel)
theorem mc_X6_known : Cond.code yX6_known cX6_known 2 none ∈ kw_T := kw_mem 921 (by decide +kernel) (by decide +kernel)
theorem mi_X6_known : Cond.instanceMethod yX6_known ∈ kw_T := kw_mem 920 (by decide +kernel) (by decide +kernel)
theorem mv_X6_known : Cond.selects RX6 yX6_known yX6_known ∈ kw_T := kw_mem 20 (by decide +kernel) (by decide +kernel)
theorem mc_X6_gets : Cond.code yX6_gets cX6_gets 4 none ∈ kw_T := kw_mem 959 (by decide +kernel) (by decide +kernel)
theorem mi_X6_gets : Cond.instanceMethod yX6_gets ∈ kw_T := kw_mem 958 (by decide +kernel) (by decide +kernel)
theorem mv_X6_gets : Cond.selects RX6 yX6_gets yX6_gets ∈ kw_T := kw_mem 28 (by decide +kernel) (by decide +kernel)
theorem mc_X6_ties : Cond.code yX6_ties cX6_ties 5 none ∈ kw_T := kw_mem 945 (by decide +kernel) (by decide +kernel)
theorem mi_X6_ties : Cond.instanceMethod yX6_ties ∈ kw_T := kw_mem 944 (by decide +kernel) (by decide +kernel)
theorem mv_X6_ties : Cond.selects RX6 yX6_ties yX6_ties ∈ kw_T := kw_mem 26 (by decide +kernel) (by decide +kernel)
theorem mc_X6_pays : Cond.code yX6_pays cX6_pays 6 (some .int) ∈ kw_T := kw_mem 955 (by decide +kernel) (by decide +kernel)
theorem mi_X6_pays : Cond.instanceMethod yX6_pays ∈ kw_T := kw_mem 954 (by decide +kernel) (by decide +kernel)
theorem mv_X6_pays : Cond.selects RX6 yX6_pays yX6_pays ∈ kw_T := kw_mem 27 (by decide +kernel) (by decide +kernel)
theorem mc_X6_changes : Cond.code yX6_changes cX6_changes 5 none ∈ kw_T := kw_mem 941 (by decide +kernel) (by decide +kernel)
theorem mi_X6_changes : Cond.instanceMethod yX6_changes ∈ kw_T := kw_mem 940 (by decide +kernel) (by decide +kernel)
theorem mv_X6_changes : Cond.selects RX6 yX6_changes yX6_changes ∈ kw_T := kw_mem 25 (by decide +kernel) (by decide +kernel)
theorem mc_X6_couldHave : Cond.code yX6_couldHave cX6_couldHave 3 (some .boolean) ∈ kw_T := kw_mem 917 (by decide +kernel) (by decide +kernel)
theorem mi_X6_couldHave : Cond.instanceMethod yX6_couldHave ∈ kw_T := kw_mem 916 (by decide +kernel) (by decide +kernel)
theorem mv_X6_couldHave : Cond.selects RX6 yX6_couldHave yX6_couldHave ∈ kw_T := kw_mem 19 (by decide +kernel) (by decide +kernel)
theorem mc_X6_canHave : Cond.code yX6_canHave cX6_canHave 5 (some .boolean) ∈ kw_T := kw_mem 913 (by decide +kernel) (by decide +kernel)
theorem mi_X6_canHave : Cond.instanceMethod yX6_canHave ∈ kw_T := kw_mem 912 (by decide +kernel) (by decide +kernel)
theorem mv_X6_canHave : Cond.selects RX6 yX6_canHave yX6_canHave ∈ kw_T := kw_mem 18 (by decide +kernel) (by decide +kernel)
theorem mc_X6_holds : Cond.code yX6_holds cX6_holds 7 (some .int) ∈ kw_T := kw_mem 925 (by decide +kernel) (by decide +kernel)
theorem mi_X6_holds : Cond.instanceMethod yX6_holds ∈ kw_T := kw_mem 924 (by decide +kernel) (by decide +kernel)
theorem mv_X6_holds : Cond.selects RX6 yX6_holds yX6_holds ∈ kw_T := kw_mem 21 (by decide +kernel) (by decide +kernel)
theorem mc_X6_areBells : Cond.code yX6_areBells cX6_areBells 2 (some .boolean) ∈ kw_T := kw_mem 908 (by decide +kernel) (by decide +kernel)
theorem ms_X6_areBells : Cond.static yX6_areBells ∈ kw_T := kw_mem 907 (by decide +kernel) (by decide +kernel)
theorem mc_X6_trial : Cond.code yX6_trial cX6_trial 4 (some .int) ∈ kw_T := kw_mem 905 (by decide +kernel) (by decide +kernel)
theorem mi_X6_trial : Cond.instanceMethod yX6_trial ∈ kw_T := kw_mem 903 (by decide +kernel) (by decide +kernel)
theorem mv_X6_trial : Cond.selects RX6 yX6_trial yX6_trial ∈ kw_T := kw_mem 904 (by decide +kernel) (by decide +kernel)
theorem mc_X6_canGive : Cond.code yX6_canGive cX6_canGive 4 (some .boolean) ∈ kw_T := kw_mem 967 (by decide +kernel) (by decide +kernel)
theorem mi_X6_canGive : Cond.instanceMethod yX6_canGive ∈ kw_T := kw_mem 966 (by decide +kernel) (by decide +kernel)
theorem mv_X6_canGive : Cond.selects RX6 yX6_canGive yX6_canGive ∈ kw_T := kw_mem 29 (by decide +kernel) (by decide +kernel)
theorem mc_X6_gives : Cond.code yX6_gives cX6_gives 4 none ∈ kw_T := kw_mem 971 (by decide +kernel) (by decide +kernel)
theorem mi_X6_gives : Cond.instanceMethod yX6_gives ∈ kw_T := kw_mem 970 (by decide +kernel) (by decide +kernel)
theorem mv_X6_gives : Cond.selects RX6 yX6_gives yX6_gives ∈ kw_T := kw_mem 30 (by decide +kernel) (by decide +kernel)
theorem mc_X6_gift : Cond.code yX6_gift cX6_gift 3 (some .int) ∈ kw_T := kw_mem 963 (by decide +kernel) (by decide +kernel)
theorem mi_X6_gift : Cond.instanceMethod yX6_gift ∈ kw_T := kw_mem 961 (by decide +kernel) (by decide +kernel)
theorem mv_X6_gift : Cond.selects RX6 yX6_gift yX6_gift ∈ kw_T := kw_mem 962 (by decide +kernel) (by decide +kernel)
theorem mc_X6_pay : Cond.code yX6_pay cX6_pay 3 (some .int) ∈ kw_T := kw_mem 975 (by decide +kernel) (by decide +kernel)
theorem mi_X6_pay : Cond.instanceMethod yX6_pay ∈ kw_T := kw_mem 973 (by decide +kernel) (by decide +kernel)
theorem mv_X6_pay : Cond.selects RX6 yX6_pay yX6_pay ∈ kw_T := kw_mem 974 (by decide +kernel) (by decide +kernel)
theorem mc_X6_die : Cond.code yX6_die cX6_die 4 (some .int) ∈ kw_T := kw_mem 979 (by decide +kernel) (by decide +kernel)
theorem mi_X6_die : Cond.instanceMethod yX6_die ∈ kw_T := kw_mem 977 (by decide +kernel) (by decide +kernel)
theorem mv_X6_die : Cond.selects RX6 yX6_die yX6_die ∈ kw_T := kw_mem 978 (by decide +kernel) (by decide +kernel)
theorem mc_X6_pass : Cond.code yX6_pass cX6_pass 2 (some .int) ∈ kw_T := kw_mem 983 (by decide +kernel) (by decide +kernel)
theorem mi_X6_pass : Cond.instanceMethod yX6_pass ∈ kw_T := kw_mem 981 (by decide +kernel) (by decide +kernel)
theorem mv_X6_pass : Cond.selects RX6 yX6_pass yX6_pass ∈ kw_T := kw_mem 982 (by decide +kernel) (by decide +kernel)
theorem mc_X6_undo : Cond.code yX6_undo cX6_undo 1 (some .int) ∈ kw_T := kw_mem 988 (by decide +kernel) (by decide +kernel)
theorem mi_X6_undo : Cond.instanceMethod yX6_undo ∈ kw_T := kw_mem 986 (by decide +kernel) (by decide +kernel)
theorem mv_X6_undo : Cond.selects RX6 yX6_undo yX6_undo ∈ kw_T := kw_mem 987 (by decide +kernel) (by decide +kernel)
theorem mc_X6_come : Cond.code yX6_come cX6_come 6 (some .int) ∈ kw_T := kw_mem 992 (by decide +kernel) (by decide +kernel)
theorem mi_X6_come : Cond.instanceMethod yX6_come ∈ kw_T := kw_mem 990 (by decide +kernel) (by decide +kernel)
theorem mv_X6_come : Cond.selects RX6 yX6_come yX6_come ∈ kw_T := kw_mem 991 (by decide +kernel) (by decide +kernel)
theorem mc_X6_isSet : Cond.code yX6_isSet cX6_isSet 3 (some .boolean) ∈ kw_T := kw_mem 1003 (by decide +kernel) (by decide +kernel)
theorem mi_X6_isSet : Cond.instanceMethod yX6_isSet ∈ kw_T := kw_mem 1002 (by decide +kernel) (by decide +kernel)
theorem mv_X6_isSet : Cond.selects RX6 yX6_isSet yX6_isSet ∈ kw_T := kw_mem 31 (by decide +kernel) (by decide +kernel)
theorem mc_X6_cheapest : Cond.code yX6_cheapest cX6_cheapest 10 (some .int) ∈ kw_T := kw_mem 999 (by decide +kernel) (by decide +kernel)
theorem mi_X6_cheapest : Cond.instanceMethod yX6_cheapest ∈ kw_T := kw_mem 997 (by decide +kernel) (by decide +kernel)
theorem mv_X6_cheapest : Cond.selects RX6 yX6_cheapest yX6_cheapest ∈ kw_T := kw_mem 998 (by decide +kernel) (by decide +kernel)
theorem mc_X6_gifts : Cond.code yX6_gifts cX6_gifts 9 (some .int) ∈ kw_T := kw_mem 1007 (by decide +kernel) (by decide +kernel)
theorem mi_X6_gifts : Cond.instanceMethod yX6_gifts ∈ kw_T := kw_mem 1005 (by decide +kernel) (by decide +kernel)
theorem mv_X6_gifts : Cond.selects RX6 yX6_gifts yX6_gifts ∈ kw_T := kw_mem 1006 (by decide +kernel) (by decide +kernel)
theorem mc_X6_lists : Cond.code yX6_lists cX6_lists 2 none ∈ kw_T := kw_mem 1016 (by decide +kernel) (by decide +kernel)
theorem mi_X6_lists : Cond.instanceMethod yX6_lists ∈ kw_T := kw_mem 1015 (by decide +kernel) (by decide +kernel)
theorem mv_X6_lists : Cond.selects RX6 yX6_lists yX6_lists ∈ kw_T := kw_mem 32 (by decide +kernel) (by decide +kernel)
theorem mc_X6_swaps : Cond.code yX6_swaps cX6_swaps 4 none ∈ kw_T := kw_mem 1024 (by decide +kernel) (by decide +kernel)
theorem mi_X6_swaps : Cond.instanceMethod yX6_swaps ∈ kw_T := kw_mem 1023 (by decide +kernel) (by decide +kernel)
theorem mv_X6_swaps : Cond.selects RX6 yX6_swaps yX6_swaps ∈ kw_T := kw_mem 34 (by decide +kernel) (by decide +kernel)
theorem mc_X6_goesOn : Cond.code yX6_goesOn cX6_goesOn 5 (some .boolean) ∈ kw_T := kw_mem 1020 (by decide +kernel) (by decide +kernel)
theorem mi_X6_goesOn : Cond.instanceMethod yX6_goesOn ∈ kw_T := kw_mem 1019 (by decide +kernel) (by decide +kernel)
theorem mv_X6_goesOn : Cond.selects RX6 yX6_goesOn yX6_goesOn ∈ kw_T := kw_mem 33 (by decide +kernel) (by decide +kernel)
theorem mc_X6_order : Cond.code yX6_order cX6_order 8 (some .int) ∈ kw_T := kw_mem 1011 (by decide +kernel) (by decide +kernel)
theorem mi_X6_order : Cond.instanceMethod yX6_order ∈ kw_T := kw_mem 1009 (by decide +kernel) (by decide +kernel)
theorem mv_X6_order : Cond.selects RX6 yX6_order yX6_order ∈ kw_T := kw_mem 1010 (by decide +kernel) (by decide +kernel)
theorem mc_X6_worth : Cond.code yX6_worth cX6_worth 5 (some .int) ∈ kw_T := kw_mem 1032 (by decide +kernel) (by decide +kernel)
theorem mi_X6_worth : Cond.instanceMethod yX6_worth ∈ kw_T := kw_mem 1031 (by decide +kernel) (by decide +kernel)
theorem mv_X6_worth : Cond.selects RX6 yX6_worth yX6_worth ∈ kw_T := kw_mem 35 (by decide +kernel) (by decide +kernel)
theorem mc_X6_mutual : Cond.code yX6_mutual cX6_mutual 8 (some .int) ∈ kw_T := kw_mem 1028 (by decide +kernel) (by decide +kernel)
theorem mi_X6_mutual : Cond.instanceMethod yX6_mutual ∈ kw_T := kw_mem 1026 (by decide +kernel) (by decide +kernel)
theorem mv_X6_mutual : Cond.selects RX6 yX6_mutual yX6_mutual ∈ kw_T := kw_mem 1027 (by decide +kernel) (by decide +kernel)
theorem mc_X6_see : Cond.code yX6_see cX6_see 6 (some .int) ∈ kw_T := kw_mem 1036 (by decide +kernel) (by decide +kernel)
theorem mi_X6_see : Cond.instanceMethod yX6_see ∈ kw_T := kw_mem 1034 (by decide +kernel) (by decide +kernel)
theorem mv_X6_see : Cond.selects RX6 yX6_see yX6_see ∈ kw_T := kw_mem 1035 (by decide +kernel) (by decide +kernel)
theorem mc_X6_forget : Cond.code yX6_forget cX6_forget 2 (some .int) ∈ kw_T := kw_mem 1040 (by decide +kernel) (by decide +kernel)
theorem mi_X6_forget : Cond.instanceMethod yX6_forget ∈ kw_T := kw_mem 1038 (by decide +kernel) (by decide +kernel)
theorem mv_X6_forget : Cond.selects RX6 yX6_forget yX6_forget ∈ kw_T := kw_mem 1039 (by decide +kernel) (by decide +kernel)
theorem mc_X6_felt : Cond.code yX6_felt cX6_felt 8 (some .int) ∈ kw_T := kw_mem 1044 (by decide +kernel) (by decide +kernel)
theorem mi_X6_felt : Cond.instanceMethod yX6_felt ∈ kw_T := kw_mem 1042 (by decide +kernel) (by decide +kernel)
theorem mv_X6_felt : Cond.selects RX6 yX6_felt yX6_felt ∈ kw_T := kw_mem 1043 (by decide +kernel) (by decide +kernel)
theorem mc_X6_kinds : Cond.code yX6_kinds cX6_kinds 7 (some .int) ∈ kw_T := kw_mem 1048 (by decide +kernel) (by decide +kernel)
theorem mi_X6_kinds : Cond.instanceMethod yX6_kinds ∈ kw_T := kw_mem 1046 (by decide +kernel) (by decide +kernel)
theorem mv_X6_kinds : Cond.selects RX6 yX6_kinds yX6_kinds ∈ kw_T := kw_mem 1047 (by decide +kernel) (by decide +kernel)
theorem mc_X6_rain : Cond.code yX6_rain cX6_rain 13 (some .int) ∈ kw_T := kw_mem 1052 (by decide +kernel) (by decide +kernel)
theorem mi_X6_rain : Cond.instanceMethod yX6_rain ∈ kw_T := kw_mem 1050 (by decide +kernel) (by decide +kernel)
theorem mv_X6_rain : Cond.selects RX6 yX6_rain yX6_rain ∈ kw_T := kw_mem 1051 (by decide +kernel) (by decide +kernel)
theorem mc_X6_allCoins : Cond.code yX6_allCoins cX6_allCoins 4 (some .int) ∈ kw_T := kw_mem 1066 (by decide +kernel) (by decide +kernel)
theorem mi_X6_allCoins : Cond.instanceMethod yX6_allCoins ∈ kw_T := kw_mem 1065 (by decide +kernel) (by decide +kernel)
theorem mv_X6_allCoins : Cond.selects RX6 yX6_allCoins yX6_allCoins ∈ kw_T := kw_mem 36 (by decide +kernel) (by decide +kernel)
theorem mc_X6_year : Cond.code yX6_year cX6_year 11 (some .int) ∈ kw_T := kw_mem 1057 (by decide +kernel) (by decide +kernel)
theorem mi_X6_year : Cond.instanceMethod yX6_year ∈ kw_T := kw_mem 1055 (by decide +kernel) (by decide +kernel)
theorem mv_X6_year : Cond.selects RX6 yX6_year yX6_year ∈ kw_T := kw_mem 1056 (by decide +kernel) (by decide +kernel)
theorem mc_X6_keep : Cond.code yX6_keep cX6_keep 1 (some .int) ∈ kw_T := kw_mem 1070 (by decide +kernel) (by decide +kernel)
theorem mi_X6_keep : Cond.instanceMethod yX6_keep ∈ kw_T := kw_mem 1068 (by decide +kernel) (by decide +kernel)
theorem mv_X6_keep : Cond.selects RX6 yX6_keep yX6_keep ∈ kw_T := kw_mem 1069 (by decide +kernel) (by decide +kernel)
theorem mc_X6_back : Cond.code yX6_back cX6_back 1 (some .int) ∈ kw_T := kw_mem 1074 (by decide +kernel) (by decide +kernel)
theorem mi_X6_back : Cond.instanceMethod yX6_back ∈ kw_T := kw_mem 1072 (by decide +kernel) (by decide +kernel)
theorem mv_X6_back : Cond.selects RX6 yX6_back yX6_back ∈ kw_T := kw_mem 1073 (by decide +kernel) (by decide +kernel)
theorem mc_X6_allOwed : Cond.code yX6_allOwed cX6_allOwed 3 (some .int) ∈ kw_T := kw_mem 1082 (by decide +kernel) (by decide +kernel)
theorem mi_X6_allOwed : Cond.instanceMethod yX6_allOwed ∈ kw_T := kw_mem 1081 (by decide +kernel) (by decide +kernel)
theorem mv_X6_allOwed : Cond.selects RX6 yX6_allOwed yX6_allOwed ∈ kw_T := kw_mem 37 (by decide +kernel) (by decide +kernel)
theorem mc_X6_count : Cond.code yX6_count cX6_count 2 (some .int) ∈ kw_T := kw_mem 1078 (by decide +kernel) (by decide +kernel)
theorem mi_X6_count : Cond.instanceMethod yX6_count ∈ kw_T := kw_mem 1076 (by decide +kernel) (by decide +kernel)
theorem mv_X6_count : Cond.selects RX6 yX6_count yX6_count ∈ kw_T := kw_mem 1077 (by decide +kernel) (by decide +kernel)
theorem mc_J6_bitCount_0f7a4 : Cond.code yJ6_bitCount_0f7a4 cJ6_bitCount_0f7a4 1 (some .int) ∈ kw_T := kw_mem 545 (by decide +kernel) (by decide +kernel)
theorem ms_J6_bitCount_0f7a4 : Cond.static yJ6_bitCount_0f7a4 ∈ kw_T := kw_mem 544 (by decide +kernel) (by decide +kernel)
theorem mc_J9_max_7cf53 : Cond.code yJ9_max_7cf53 cJ9_max_7cf53 2 (some .int) ∈ kw_T := kw_mem 140 (by decide +kernel) (by decide +kernel)
theorem ms_J9_max_7cf53 : Cond.static yJ9_max_7cf53 ∈ kw_T := kw_mem 139 (by decide +kernel) (by decide +kernel)
theorem mc_J9_min_7cf53 : Cond.code yJ9_min_7cf53 cJ9_min_7cf53 2 (some .int) ∈ kw_T := kw_mem 460 (by decide +kernel) (by decide +kernel)
theorem ms_J9_min_7cf53 : Cond.static yJ9_min_7cf53 ∈ kw_T := kw_mem 459 (by decide +kernel) (by decide +kernel)
theorem mc_J0_length_8abf5 : Cond.code yJ0_length_8abf5 cJ0_length_8abf5 1 (some .int) ∈ kw_T := kw_mem 223 (by decide +kernel) (by decide +kernel)
theorem mi_J0_length_8abf5 : Cond.instanceMethod yJ0_length_8abf5 ∈ kw_T := kw_mem 221 (by decide +kernel) (by decide +kernel)
theorem mv_J0_length_8abf5 : Cond.selects RJ0 yJ0_length_8abf5 yJ0_length_8abf5 ∈ kw_T := kw_mem 222 (by decide +kernel) (by decide +kernel)
theorem mc_J0_charAt_5068e : Cond.code yJ0_charAt_5068e cJ0_charAt_5068e 2 (some .char) ∈ kw_T := kw_mem 233 (by decide +kernel) (by decide +kernel)
theorem mi_J0_charAt_5068e : Cond.instanceMethod yJ0_charAt_5068e ∈ kw_T := kw_mem 231 (by decide +kernel) (by decide +kernel)
theorem mv_J0_charAt_5068e : Cond.selects RJ0 yJ0_charAt_5068e yJ0_charAt_5068e ∈ kw_T := kw_mem 232 (by decide +kernel) (by decide +kernel)
theorem mc_J0_coder_7d493 : Cond.code yJ0_coder_7d493 cJ0_coder_7d493 1 (some .byte) ∈ kw_T := kw_mem 227 (by decide +kernel) (by decide +kernel)
theorem mi_J0_coder_7d493 : Cond.instanceMethod yJ0_coder_7d493 ∈ kw_T := kw_mem 225 (by decide +kernel) (by decide +kernel)
theorem mv_J0_coder_7d493 : Cond.selects RJ0 yJ0_coder_7d493 yJ0_coder_7d493 ∈ kw_T := kw_mem 226 (by decide +kernel) (by decide +kernel)
theorem mc_J0_isLatin1_aae02 : Cond.code yJ0_isLatin1_aae02 cJ0_isLatin1_aae02 1 (some .boolean) ∈ kw_T := kw_mem 237 (by decide +kernel) (by decide +kernel)
theorem mi_J0_isLatin1_aae02 : Cond.instanceMethod yJ0_isLatin1_aae02 ∈ kw_T := kw_mem 235 (by decide +kernel) (by decide +kernel)
theorem mv_J0_isLatin1_aae02 : Cond.selects RJ0 yJ0_isLatin1_aae02 yJ0_isLatin1_aae02 ∈ kw_T := kw_mem 236 (by decide +kernel) (by decide +kernel)
theorem mc_J0_checkIndex_df160 : Cond.code yJ0_checkIndex_df160 cJ0_checkIndex_df160 2 none ∈ kw_T := kw_mem 243 (by decide +kernel) (by decide +kernel)
theorem ms_J0_checkIndex_df160 : Cond.static yJ0_checkIndex_df160 ∈ kw_T := kw_mem 242 (by decide +kernel) (by decide +kernel)
theorem mc_J1_charAt_3b067 : Cond.code yJ1_charAt_3b067 cJ1_charAt_3b067 2 (some .char) ∈ kw_T := kw_mem 240 (by decide +kernel) (by decide +kernel)
theorem ms_J1_charAt_3b067 : Cond.static yJ1_charAt_3b067 ∈ kw_T := kw_mem 239 (by decide +kernel) (by decide +kernel)
theorem mc_J2_getChar_3b067 : Cond.code yJ2_getChar_3b067 cJ2_getChar_3b067 2 (some .char) ∈ kw_T := kw_mem 261 (by decide +kernel) (by decide +kernel)
theorem ms_J2_getChar_3b067 : Cond.static yJ2_getChar_3b067 ∈ kw_T := kw_mem 260 (by decide +kernel) (by decide +kernel)
theorem mc_J2_length_9d52b : Cond.code yJ2_length_9d52b cJ2_length_9d52b 1 (some .int) ∈ kw_T := kw_mem 257 (by decide +kernel) (by decide +kernel)
theorem ms_J2_length_9d52b : Cond.static yJ2_length_9d52b ∈ kw_T := kw_mem 256 (by decide +kernel) (by decide +kernel)
theorem mc_J2_charAt_3b067 : Cond.code yJ2_charAt_3b067 cJ2_charAt_3b067 2 (some .char) ∈ kw_T := kw_mem 251 (by decide +kernel) (by decide +kernel)
theorem ms_J2_charAt_3b067 : Cond.static yJ2_charAt_3b067 ∈ kw_T := kw_mem 250 (by decide +kernel) (by decide +kernel)
theorem mc_J2_checkIndex_2214a : Cond.code yJ2_checkIndex_2214a cJ2_checkIndex_2214a 2 none ∈ kw_T := kw_mem 254 (by decide +kernel) (by decide +kernel)
theorem ms_J2_checkIndex_2214a : Cond.static yJ2_checkIndex_2214a ∈ kw_T := kw_mem 253 (by decide +kernel) (by decide +kernel)
theorem mc_J3_checkIndex_8e157 : Cond.code yJ3_checkIndex_8e157 cJ3_checkIndex_8e157 3 (some .int) ∈ kw_T := kw_mem 248 (by decide +kernel) (by decide +kernel)
theorem ms_J3_checkIndex_8e157 : Cond.static yJ3_checkIndex_8e157 ∈ kw_T := kw_mem 247 (by decide +kernel) (by decide +kernel)
theorem kn_X0 : Cond.initialized RX0 ∈ kw_T := kw_mem 45 (by decide +kernel) (by decide +kernel)
theorem kn_X1 : Cond.initialized RX1 ∈ kw_T := kw_mem 42 (by decide +kernel) (by decide +kernel)
theorem kn_X2 : Cond.initialized RX2 ∈ kw_T := kw_mem 44 (by decide +kernel) (by decide +kernel)
theorem kn_X3 : Cond.initialized RX3 ∈ kw_T := kw_mem 40 (by decide +kernel) (by decide +kernel)
theorem kn_X4 : Cond.initialized RX4 ∈ kw_T := kw_mem 41 (by decide +kernel) (by decide +kernel)
theorem kn_X5 : Cond.initialized RX5 ∈ kw_T := kw_mem 39 (by decide +kernel) (by decide +kernel)
theorem kn_X6 : Cond.initialized RX6 ∈ kw_T := kw_mem 50 (by decide +kernel) (by decide +kernel)
theorem kn_J6 : Cond.initialized RJ6 ∈ kw_T := kw_mem 52 (by decide +kernel) (by decide +kernel)
theorem kn_J9 : Cond.initialized RJ9 ∈ kw_T := kw_mem 43 (by decide +kernel) (by decide +kernel)
theorem kn_J0 : Cond.initialized RJ0 ∈ kw_T := kw_mem 46 (by decide +kernel) (by decide +kernel)
theorem kn_J1 : Cond.initialized RJ1 ∈ kw_T := kw_mem 47 (by decide +kernel) (by decide +kernel)
theorem kn_J2 : Cond.initialized RJ2 ∈ kw_T := kw_mem 49 (by decide +kernel) (by decide +kernel)
theorem kn_J10 : Cond.initialized RJ10 ∈ kw_T := kw_mem 51 (by decide +kernel) (by decide +kernel)
theorem kn_J3 : Cond.initialized RJ3 ∈ kw_T := kw_mem 48 (by decide +kernel) (by decide +kernel)
theorem kn_L : Cond.initialized RL ∈ kw_T := kw_mem 38 (by decide +kernel) (by decide +kernel)
theorem ki_X0 : Cond.instantiable RX0 8 ∈ kw_T := kw_mem 183 (by decide +kernel) (by decide +kernel)
theorem ki_X1 : Cond.instantiable RX1 3 ∈ kw_T := kw_mem 133 (by decide +kernel) (by decide +kernel)
theorem ki_X2 : Cond.instantiable RX2 6 ∈ kw_T := kw_mem 156 (by decide +kernel) (by decide +kernel)
theorem ki_X3 : Cond.instantiable RX3 4 ∈ kw_T := kw_mem 62 (by decide +kernel) (by decide +kernel)
theorem ki_X4 : Cond.instantiable RX4 11 ∈ kw_T := kw_mem 84 (by decide +kernel) (by decide +kernel)
theorem ki_X5 : Cond.instantiable RX5 7 ∈ kw_T := kw_mem 54 (by decide +kernel) (by decide +kernel)
theorem ki_X6 : Cond.instantiable RX6 25 ∈ kw_T := kw_mem 730 (by decide +kernel) (by decide +kernel)
theorem mi_obj : Cond.instanceMethod Lib.objectInit ∈ kw_T := kw_mem 59 (by decide +kernel) (by decide +kernel)
theorem mc_obj : Cond.code Lib.objectInit ⟨#[0xb1]⟩ 1 none ∈ kw_T := kw_mem 60 (by decide +kernel) (by decide +kernel)
theorem mn_acp : Cond.native arraycopyName ∈ kw_T := kw_mem 385 (by decide +kernel) (by decide +kernel)
theorem ms_acp : Cond.static arraycopyName ∈ kw_T := kw_mem 384 (by decide +kernel) (by decide +kernel)
theorem ka_char : Cond.arrayClass .char ∈ kw_T := kw_mem 81 (by decide +kernel) (by decide +kernel)
theorem ka_int : Cond.arrayClass .int ∈ kw_T := kw_mem 82 (by decide +kernel) (by decide +kernel)
theorem ka_boolean : Cond.arrayClass .boolean ∈ kw_T := kw_mem 181 (by decide +kernel) (by decide +kernel)
theorem ka_byte : Cond.arrayClass .byte ∈ kw_T := kw_mem 358 (by decide +kernel) (by decide +kernel)
end
section
theorem dX0_init_0 : decode cX0_init 0 = .ok (.aload_n 0, 1) := by decide +kernel
theorem dX0_init_1 : decode cX0_init 1 = .ok (.invokespecial 3, 3) := by decide +kernel
theorem dX0_init_4 : decode cX0_init 4 = .ok (.aload_n 0, 1) := by decide +kernel
theorem dX0_init_5 : decode cX0_init 5 = .ok (.bipush 7, 2) := by decide +kernel
theorem dX0_init_7 : decode cX0_init 7 = .ok (.anewarray 9, 3) := by decide +kernel
theorem dX0_init_10 : decode cX0_init 10 = .ok (.putfield 11, 3) := by decide +kernel
theorem dX0_init_13 : decode cX0_init 13 = .ok (.aload_n 0, 1) := by decide +kernel
theorem dX0_init_14 : decode cX0_init 14 = .ok (.bipush 6, 2) := by decide +kernel
theorem dX0_init_16 : decode cX0_init 16 = .ok (.newarray .int, 2) := by decide +kernel
theorem dX0_init_18 : decode cX0_init 18 = .ok (.putfield 17, 3) := by decide +kernel
theorem dX0_init_21 : decode cX0_init 21 = .ok (.aload_n 0, 1) := by decide +kernel
theorem dX0_init_22 : decode cX0_init 22 = .ok (.bipush 6, 2) := by decide +kernel
theorem dX0_init_24 : decode cX0_init 24 = .ok (.newarray .int, 2) := by decide +kernel
theorem dX0_init_26 : decode cX0_init 26 = .ok (.putfield 21, 3) := by decide +kernel
theorem dX0_init_29 : decode cX0_init 29 = .ok (.aload_n 0, 1) := by decide +kernel
theorem dX0_init_30 : decode cX0_init 30 = .ok (.iconst 0, 1) := by decide +kernel
theorem dX0_init_31 : decode cX0_init 31 = .ok (.putfield 24, 3) := by decide +kernel
theorem dX0_init_34 : decode cX0_init 34 = .ok (.aload_n 0, 1) := by decide +kernel
theorem dX0_init_35 : decode cX0_init 35 = .ok (.iconst 0, 1) := by decide +kernel
theorem dX0_init_36 : decode cX0_init 36 = .ok (.putfield 28, 3) := by decide +kernel
theorem dX0_init_39 : decode cX0_init 39 = .ok (.aload_n 0, 1) := by decide +kernel
theorem dX0_init_40 : decode cX0_init 40 = .ok (.iconst 0, 1) := by decide +kernel
theorem dX0_init_41 : decode cX0_init 41 = .ok (.putfield 31, 3) := by decide +kernel
theorem dX0_init_44 : decode cX0_init 44 = .ok (.aload_n 0, 1) := by decide +kernel
theorem dX0_init_45 : decode cX0_init 45 = .ok (.iconst 0, 1) := by decide +kernel
theorem dX0_init_46 : decode cX0_init 46 = .ok (.putfield 34, 3) := by decide +kernel
theorem dX0_init_49 : decode cX0_init 49 = .ok (.aload_n 0, 1) := by decide +kernel
theorem dX0_init_50 : decode cX0_init 50 = .ok (.iconst 0, 1) := by decide +kernel
theorem dX0_init_51 : decode cX0_init 51 = .ok (.putfield 37, 3) := by decide +kernel
theorem dX0_init_54 : decode cX0_init 54 = .ok (.iconst 0, 1) := by decide +kernel
theorem dX0_init_55 : decode cX0_init 55 = .ok (.istore_n 1, 1) := by decide +kernel
theorem dX0_init_56 : decode cX0_init 56 = .ok (.iload_n 1, 1) := by decide +kernel
theorem dX0_init_57 : decode cX0_init 57 = .ok (.aload_n 0, 1) := by decide +kernel
theorem dX0_init_58 : decode cX0_init 58 = .ok (.getfield 11, 3) := by decide +kernel
theorem dX0_init_61 : decode cX0_init 61 = .ok (.arraylength, 1) := by decide +kernel
theorem dX0_init_62 : decode cX0_init 62 = .ok (.if_icmp .ge 22, 3) := by decide +kernel
theorem dX0_init_65 : decode cX0_init 65 = .ok (.aload_n 0, 1) := by decide +kernel
theorem dX0_init_66 : decode cX0_init 66 = .ok (.getfield 11, 3) := by decide +kernel
theorem dX0_init_69 : decode cX0_init 69 = .ok (.iload_n 1, 1) := by decide +kernel
theorem dX0_init_70 : decode cX0_init 70 = .ok (.new 9, 3) := by decide +kernel
theorem dX0_init_73 : decode cX0_init 73 = .ok (.dup, 1) := by decide +kernel
theorem dX0_init_74 : decode cX0_init 74 = .ok (.invokespecial 40, 3) := by decide +kernel
theorem dX0_init_77 : decode cX0_init 77 = .ok (.aastore, 1) := by decide +kernel
theorem dX0_init_78 : decode cX0_init 78 = .ok (.iinc 1 1, 3) := by decide +kernel
theorem dX0_init_81 : decode cX0_init 81 = .ok (.goto (-25), 3) := by decide +kernel
theorem dX0_init_84 : decode cX0_init 84 = .ok (.return_, 1) := by decide +kernel
theorem dX0_isFor_0 : decode cX0_isFor 0 = .ok (.aload_n 0, 1) := by decide +kernel
theorem dX0_isFor_1 : decode cX0_isFor 1 = .ok (.getfield 24, 3) := by decide +kernel
theorem dX0_isFor_4 : decode cX0_isFor 4 = .ok (.iload_n 2, 1) := by decide +kernel
theorem dX0_isFor_5 : decode cX0_isFor 5 = .ok (.if_icmp .ne 28, 3) := by decide +kernel
theorem dX0_isFor_8 : decode cX0_isFor 8 = .ok (.aload_n 0, 1) := by decide +kernel
theorem dX0_isFor_9 : decode cX0_isFor 9 = .ok (.getfield 28, 3) := by decide +kernel
theorem dX0_isFor_12 : decode cX0_isFor 12 = .ok (.iload_n 3, 1) := by decide +kernel
theorem dX0_isFor_13 : decode cX0_isFor 13 = .ok (.if_icmp .ne 20, 3) := by decide +kernel
theorem dX0_isFor_16 : decode cX0_isFor 16 = .ok (.aload_n 0, 1) := by decide +kernel
theorem dX0_isFor_17 : decode cX0_isFor 17 = .ok (.getfield 11, 3) := by decide +kernel
theorem dX0_isFor_20 : decode cX0_isFor 20 = .ok (.iconst 0, 1) := by decide +kernel
theorem dX0_isFor_21 : decode cX0_isFor 21 = .ok (.aaload, 1) := by decide +kernel
theorem dX0_isFor_22 : decode cX0_isFor 22 = .ok (.aload_n 1, 1) := by decide +kernel
theorem dX0_isFor_23 : decode cX0_isFor 23 = .ok (.invokevirtual 41, 3) := by decide +kernel
theorem dX0_isFor_26 : decode cX0_isFor 26 = .ok (.ifCond .eq 7, 3) := by decide +kernel
theorem dX0_isFor_29 : decode cX0_isFor 29 = .ok (.iconst 1, 1) := by decide +kernel
theorem dX0_isFor_30 : decode cX0_isFor 30 = .ok (.goto 4, 3) := by decide +kernel
theorem dX0_isFor_33 : decode cX0_isFor 33 = .ok (.iconst 0, 1) := by decide +kernel
theorem dX0_isFor_34 : decode cX0_isFor 34 = .ok (.ireturn, 1) := by decide +kernel
theorem dX0_start_0 : decode cX0_start 0 = .ok (.aload_n 0, 1) := by decide +kernel
theorem dX0_start_1 : decode cX0_start 1 = .ok (.getfield 11, 3) := by decide +kernel
theorem dX0_start_4 : decode cX0_start 4 = .ok (.iconst 0, 1) := by decide +kernel
theorem dX0_start_5 : decode cX0_start 5 = .ok (.aaload, 1) := by decide +kernel
theorem dX0_start_6 : decode cX0_start 6 = .ok (.aload_n 1, 1) := by decide +kernel
theorem dX0_start_7 : decode cX0_start 7 = .ok (.invokevirtual 45, 3) := by decide +kernel
theorem dX0_start_10 : decode cX0_start 10 = .ok (.aload_n 0, 1) := by decide +kernel
theorem dX0_start_11 : decode cX0_start 11 = .ok (.iload_n 2, 1) := by decide +kernel
theorem dX0_start_12 : decode cX0_start 12 = .ok (.putfield 24, 3) := by decide +kernel
theorem dX0_start_15 : decode cX0_start 15 = .ok (.aload_n 0, 1) := by decide +kernel
theorem dX0_start_16 : decode cX0_start 16 = .ok (.iload_n 3, 1) := by decide +kernel
theorem dX0_start_17 : decode cX0_start 17 = .ok (.putfield 28, 3) := by decide +kernel
theorem dX0_start_20 : decode cX0_start 20 = .ok (.aload_n 0, 1) := by decide +kernel
theorem dX0_start_21 : decode cX0_start 21 = .ok (.iconst 0, 1) := by decide +kernel
theorem dX0_start_22 : decode cX0_start 22 = .ok (.putfield 31, 3) := by decide +kernel
theorem dX0_start_25 : decode cX0_start 25 = .ok (.iconst 0, 1) := by decide +kernel
theorem dX0_start_26 : decode cX0_start 26 = .ok (.istore 4, 2) := by decide +kernel
theorem dX0_start_28 : decode cX0_start 28 = .ok (.iload 4, 2) := by decide +kernel
theorem dX0_start_30 : decode cX0_start 30 = .ok (.aload_n 1, 1) := by decide +kernel
theorem dX0_start_31 : decode cX0_start 31 = .ok (.getfield 49, 3) := by decide +kernel
theorem dX0_start_34 : decode cX0_start 34 = .ok (.if_icmp .ge 31, 3) := by decide +kernel
theorem dX0_start_37 : decode cX0_start 37 = .ok (.aload_n 1, 1) := by decide +kernel
theorem dX0_start_38 : decode cX0_start 38 = .ok (.iload 4, 2) := by decide +kernel
theorem dX0_start_40 : decode cX0_start 40 = .ok (.invokevirtual 52, 3) := by decide +kernel
theorem dX0_start_43 : decode cX0_start 43 = .ok (.ifCond .eq 16, 3) := by decide +kernel
theorem dX0_start_46 : decode cX0_start 46 = .ok (.aload_n 0, 1) := by decide +kernel
theorem dX0_start_47 : decode cX0_start 47 = .ok (.dup, 1) := by decide +kernel
theorem dX0_start_48 : decode cX0_start 48 = .ok (.getfield 31, 3) := by decide +kernel
theorem dX0_start_51 : decode cX0_start 51 = .ok (.iconst 1, 1) := by decide +kernel
theorem dX0_start_52 : decode cX0_start 52 = .ok (.iload 4, 2) := by decide +kernel
theorem dX0_start_54 : decode cX0_start 54 = .ok (.ishl, 1) := by decide +kernel
theorem dX0_start_55 : decode cX0_start 55 = .ok (.ior, 1) := by decide +kernel
theorem dX0_start_56 : decode cX0_start 56 = .ok (.putfield 31, 3) := by decide +kernel
theorem dX0_start_59 : decode cX0_start 59 = .ok (.iinc 4 1, 3) := by decide +kernel
theorem dX0_start_62 : decode cX0_start 62 = .ok (.goto (-34), 3) := by decide +kernel
theorem dX0_start_65 : decode cX0_start 65 = .ok (.aload_n 0, 1) := by decide +kernel
theorem dX0_start_66 : decode cX0_start 66 = .ok (.aload_n 0, 1) := by decide +kernel
theorem dX0_start_67 : decode cX0_start 67 = .ok (.getfield 31, 3) := by decide +kernel
theorem dX0_start_70 : decode cX0_start 70 = .ok (.invokestatic 56, 3) := by decide +kernel
theorem dX0_start_73 : decode cX0_start 73 = .ok (.putfield 34, 3) := by decide +kernel
theorem dX0_start_76 : decode cX0_start 76 = .ok (.aload_n 0, 1) := by decide +kernel
theorem dX0_start_77 : decode cX0_start 77 = .ok (.iconst (-1), 1) := by decide +kernel
theorem dX0_start_78 : decode cX0_start 78 = .ok (.putfield 37, 3) := by decide +kernel
theorem dX0_start_81 : decode cX0_start 81 = .ok (.return_, 1) := by decide +kernel
theorem dX0_tryAll_0 : decode cX0_tryAll 0 = .ok (.iload_n 2, 1) := by decide +kernel
theorem dX0_tryAll_1 : decode cX0_tryAll 1 = .ok (.ifCond .eq 9, 3) := by decide +kernel
theorem dX0_tryAll_4 : decode cX0_tryAll 4 = .ok (.iload_n 1, 1) := by decide +kernel
theorem dX0_tryAll_5 : decode cX0_tryAll 5 = .ok (.bipush 6, 2) := by decide +kernel
theorem dX0_tryAll_7 : decode cX0_tryAll 7 = .ok (.if_icmp .lt 9, 3) := by decide +kernel
theorem dX0_tryAll_10 : decode cX0_tryAll 10 = .ok (.aload_n 0, 1) := by decide +kernel
theorem dX0_tryAll_11 : decode cX0_tryAll 11 = .ok (.iload_n 3, 1) := by decide +kernel
theorem dX0_tryAll_12 : decode cX0_tryAll 12 = .ok (.invokevirtual 62, 3) := by decide +kernel
theorem dX0_tryAll_15 : decode cX0_tryAll 15 = .ok (.return_, 1) := by decide +kernel
theorem dX0_tryAll_16 : decode cX0_tryAll 16 = .ok (.aload_n 0, 1) := by decide +kernel
theorem dX0_tryAll_17 : decode cX0_tryAll 17 = .ok (.getfield 11, 3) := by decide +kernel
theorem dX0_tryAll_20 : decode cX0_tryAll 20 = .ok (.iconst 0, 1) := by decide +kernel
theorem dX0_tryAll_21 : decode cX0_tryAll 21 = .ok (.aaload, 1) := by decide +kernel
theorem dX0_tryAll_22 : decode cX0_tryAll 22 = .ok (.getfield 49, 3) := by decide +kernel
theorem dX0_tryAll_25 : decode cX0_tryAll 25 = .ok (.iconst 1, 1) := by decide +kernel
theorem dX0_tryAll_26 : decode cX0_tryAll 26 = .ok (.isub, 1) := by decide +kernel
theorem dX0_tryAll_27 : decode cX0_tryAll 27 = .ok (.istore 4, 2) := by decide +kernel
theorem dX0_tryAll_29 : decode cX0_tryAll 29 = .ok (.iload_n 3, 1) := by decide +kernel
theorem dX0_tryAll_30 : decode cX0_tryAll 30 = .ok (.iload_n 2, 1) := by decide +kernel
theorem dX0_tryAll_31 : decode cX0_tryAll 31 = .ok (.invokestatic 56, 3) := by decide +kernel
theorem dX0_tryAll_34 : decode cX0_tryAll 34 = .ok (.iload 4, 2) := by decide +kernel
theorem dX0_tryAll_36 : decode cX0_tryAll 36 = .ok (.imul, 1) := by decide +kernel
theorem dX0_tryAll_37 : decode cX0_tryAll 37 = .ok (.iadd, 1) := by decide +kernel
theorem dX0_tryAll_38 : decode cX0_tryAll 38 = .ok (.aload_n 0, 1) := by decide +kernel
theorem dX0_tryAll_39 : decode cX0_tryAll 39 = .ok (.getfield 37, 3) := by decide +kernel
theorem dX0_tryAll_42 : decode cX0_tryAll 42 = .ok (.if_icmp .gt 4, 3) := by decide +kernel
theorem dX0_tryAll_45 : decode cX0_tryAll 45 = .ok (.return_, 1) := by decide +kernel
theorem dX0_tryAll_46 : decode cX0_tryAll 46 = .ok (.iconst 0, 1) := by decide +kernel
theorem dX0_tryAll_47 : decode cX0_tryAll 47 = .ok (.istore 5, 2) := by decide +kernel
theorem dX0_tryAll_49 : decode cX0_tryAll 49 = .ok (.iload 5, 2) := by decide +kernel
theorem dX0_tryAll_51 : decode cX0_tryAll 51 = .ok (.bipush 6, 2) := by decide +kernel
theorem dX0_tryAll_53 : decode cX0_tryAll 53 = .ok (.if_icmp .ge 46, 3) := by decide +kernel
theorem dX0_tryAll_56 : decode cX0_tryAll 56 = .ok (.iload_n 2, 1) := by decide +kernel
theorem dX0_tryAll_57 : decode cX0_tryAll 57 = .ok (.iload 5, 2) := by decide +kernel
theorem dX0_tryAll_59 : decode cX0_tryAll 59 = .ok (.invokestatic 66, 3) := by decide +kernel
theorem dX0_tryAll_62 : decode cX0_tryAll 62 = .ok (.ifCond .eq 31, 3) := by decide +kernel
theorem dX0_tryAll_65 : decode cX0_tryAll 65 = .ok (.aload_n 0, 1) := by decide +kernel
theorem dX0_tryAll_66 : decode cX0_tryAll 66 = .ok (.iload_n 1, 1) := by decide +kernel
theorem dX0_tryAll_67 : decode cX0_tryAll 67 = .ok (.iload 5, 2) := by decide +kernel
theorem dX0_tryAll_69 : decode cX0_tryAll 69 = .ok (.invokevirtual 70, 3) := by decide +kernel
theorem dX0_tryAll_72 : decode cX0_tryAll 72 = .ok (.istore 6, 2) := by decide +kernel
theorem dX0_tryAll_74 : decode cX0_tryAll 74 = .ok (.aload_n 0, 1) := by decide +kernel
theorem dX0_tryAll_75 : decode cX0_tryAll 75 = .ok (.iload_n 1, 1) := by decide +kernel
theorem dX0_tryAll_76 : decode cX0_tryAll 76 = .ok (.iconst 1, 1) := by decide +kernel
theorem dX0_tryAll_77 : decode cX0_tryAll 77 = .ok (.iadd, 1) := by decide +kernel
theorem dX0_tryAll_78 : decode cX0_tryAll 78 = .ok (.iload_n 2, 1) := by decide +kernel
theorem dX0_tryAll_79 : decode cX0_tryAll 79 = .ok (.iconst 1, 1) := by decide +kernel
theorem dX0_tryAll_80 : decode cX0_tryAll 80 = .ok (.iload 5, 2) := by decide +kernel
theorem dX0_tryAll_82 : decode cX0_tryAll 82 = .ok (.ishl, 1) := by decide +kernel
theorem dX0_tryAll_83 : decode cX0_tryAll 83 = .ok (.iconst (-1), 1) := by decide +kernel
theorem dX0_tryAll_84 : decode cX0_tryAll 84 = .ok (.ixor, 1) := by decide +kernel
theorem dX0_tryAll_85 : decode cX0_tryAll 85 = .ok (.iand, 1) := by decide +kernel
theorem dX0_tryAll_86 : decode cX0_tryAll 86 = .ok (.iload_n 3, 1) := by decide +kernel
theorem dX0_tryAll_87 : decode cX0_tryAll 87 = .ok (.iload 6, 2) := by decide +kernel
theorem dX0_tryAll_89 : decode cX0_tryAll 89 = .ok (.iadd, 1) := by decide +kernel
theorem dX0_tryAll_90 : decode cX0_tryAll 90 = .ok (.invokestatic 74, 3) := by decide +kernel
theorem dX0_tryAll_93 : decode cX0_tryAll 93 = .ok (.iinc 5 1, 3) := by decide +kernel
theorem dX0_tryAll_96 : decode cX0_tryAll 96 = .ok (.goto (-47), 3) := by decide +kernel
theorem dX0_tryAll_99 : decode cX0_tryAll 99 = .ok (.return_, 1) := by decide +kernel
theorem dX0_step_0 : decode cX0_step 0 = .ok (.aload_n 0, 1) := by decide +kernel
theorem dX0_step_1 : decode cX0_step 1 = .ok (.getfield 17, 3) := by decide +kernel
theorem dX0_step_4 : decode cX0_step 4 = .ok (.iload_n 1, 1) := by decide +kernel
theorem dX0_step_5 : decode cX0_step 5 = .ok (.iload_n 2, 1) := by decide +kernel
theorem dX0_step_6 : decode cX0_step 6 = .ok (.iastore, 1) := by decide +kernel
theorem dX0_step_7 : decode cX0_step 7 = .ok (.aload_n 0, 1) := by decide +kernel
theorem dX0_step_8 : decode cX0_step 8 = .ok (.getfield 11, 3) := by decide +kernel
theorem dX0_step_11 : decode cX0_step 11 = .ok (.iload_n 1, 1) := by decide +kernel
theorem dX0_step_12 : decode cX0_step 12 = .ok (.iconst 1, 1) := by decide +kernel
theorem dX0_step_13 : decode cX0_step 13 = .ok (.iadd, 1) := by decide +kernel
theorem dX0_step_14 : decode cX0_step 14 = .ok (.aaload, 1) := by decide +kernel
theorem dX0_step_15 : decode cX0_step 15 = .ok (.astore_n 3, 1) := by decide +kernel
theorem dX0_step_16 : decode cX0_step 16 = .ok (.aload_n 3, 1) := by decide +kernel
theorem dX0_step_17 : decode cX0_step 17 = .ok (.aload_n 0, 1) := by decide +kernel
theorem dX0_step_18 : decode cX0_step 18 = .ok (.getfield 11, 3) := by decide +kernel
theorem dX0_step_21 : decode cX0_step 21 = .ok (.iload_n 1, 1) := by decide +kernel
theorem dX0_step_22 : decode cX0_step 22 = .ok (.aaload, 1) := by decide +kernel
theorem dX0_step_23 : decode cX0_step 23 = .ok (.invokevirtual 45, 3) := by decide +kernel
theorem dX0_step_26 : decode cX0_step 26 = .ok (.aload_n 3, 1) := by decide +kernel
theorem dX0_step_27 : decode cX0_step 27 = .ok (.iload_n 2, 1) := by decide +kernel
theorem dX0_step_28 : decode cX0_step 28 = .ok (.aload_n 0, 1) := by decide +kernel
theorem dX0_step_29 : decode cX0_step 29 = .ok (.getfield 24, 3) := by decide +kernel
theorem dX0_step_32 : decode cX0_step 32 = .ok (.aload_n 0, 1) := by decide +kernel
theorem dX0_step_33 : decode cX0_step 33 = .ok (.getfield 28, 3) := by decide +kernel
theorem dX0_step_36 : decode cX0_step 36 = .ok (.invokevirtual 78, 3) := by decide +kernel
theorem dX0_step_39 : decode cX0_step 39 = .ok (.ifCond .ne 5, 3) := by decide +kernel
theorem dX0_step_42 : decode cX0_step 42 = .ok (.iconst 0, 1) := by decide +kernel
theorem dX0_step_43 : decode cX0_step 43 = .ok (.ireturn, 1) := by decide +kernel
theorem dX0_step_44 : decode cX0_step 44 = .ok (.aload_n 3, 1) := by decide +kernel
theorem dX0_step_45 : decode cX0_step 45 = .ok (.iload_n 2, 1) := by decide +kernel
theorem dX0_step_46 : decode cX0_step 46 = .ok (.aload_n 0, 1) := by decide +kernel
theorem dX0_step_47 : decode cX0_step 47 = .ok (.getfield 24, 3) := by decide +kernel
theorem dX0_step_50 : decode cX0_step 50 = .ok (.aload_n 0, 1) := by decide +kernel
theorem dX0_step_51 : decode cX0_step 51 = .ok (.getfield 28, 3) := by decide +kernel
theorem dX0_step_54 : decode cX0_step 54 = .ok (.invokevirtual 82, 3) := by decide +kernel
theorem dX0_step_57 : decode cX0_step 57 = .ok (.invokestatic 56, 3) := by decide +kernel
theorem dX0_step_60 : decode cX0_step 60 = .ok (.ireturn, 1) := by decide +kernel
theorem dX0_note_0 : decode cX0_note 0 = .ok (.iload_n 1, 1) := by decide +kernel
theorem dX0_note_1 : decode cX0_note 1 = .ok (.aload_n 0, 1) := by decide +kernel
theorem dX0_note_2 : decode cX0_note 2 = .ok (.getfield 37, 3) := by decide +kernel
theorem dX0_note_5 : decode cX0_note 5 = .ok (.if_icmp .gt 4, 3) := by decide +kernel
theorem dX0_note_8 : decode cX0_note 8 = .ok (.return_, 1) := by decide +kernel
theorem dX0_note_9 : decode cX0_note 9 = .ok (.aload_n 0, 1) := by decide +kernel
theorem dX0_note_10 : decode cX0_note 10 = .ok (.iload_n 1, 1) := by decide +kernel
theorem dX0_note_11 : decode cX0_note 11 = .ok (.putfield 37, 3) := by decide +kernel
theorem dX0_note_14 : decode cX0_note 14 = .ok (.aload_n 0, 1) := by decide +kernel
theorem dX0_note_15 : decode cX0_note 15 = .ok (.getfield 17, 3) := by decide +kernel
theorem dX0_note_18 : decode cX0_note 18 = .ok (.iconst 0, 1) := by decide +kernel
theorem dX0_note_19 : decode cX0_note 19 = .ok (.aload_n 0, 1) := by decide +kernel
theorem dX0_note_20 : decode cX0_note 20 = .ok (.getfield 21, 3) := by decide +kernel
theorem dX0_note_23 : decode cX0_note 23 = .ok (.iconst 0, 1) := by decide +kernel
theorem dX0_note_24 : decode cX0_note 24 = .ok (.bipush 6, 2) := by decide +kernel
theorem dX0_note_26 : decode cX0_note 26 = .ok (.invokestatic 86, 3) := by decide +kernel
theorem dX0_note_29 : decode cX0_note 29 = .ok (.return_, 1) := by decide +kernel
theorem dX1_init_0 : decode cX1_init 0 = .ok (.aload_n 0, 1) := by decide +kernel
theorem dX1_init_1 : decode cX1_init 1 = .ok (.invokespecial 1, 3) := by decide +kernel
theorem dX1_init_4 : decode cX1_init 4 = .ok (.aload_n 0, 1) := by decide +kernel
theorem dX1_init_5 : decode cX1_init 5 = .ok (.iconst 0, 1) := by decide +kernel
theorem dX1_init_6 : decode cX1_init 6 = .ok (.putfield 7, 3) := by decide +kernel
theorem dX1_init_9 : decode cX1_init 9 = .ok (.aload_n 0, 1) := by decide +kernel
theorem dX1_init_10 : decode cX1_init 10 = .ok (.iconst 0, 1) := by decide +kernel
theorem dX1_init_11 : decode cX1_init 11 = .ok (.putfield 13, 3) := by decide +kernel
theorem dX1_init_14 : decode cX1_init 14 = .ok (.aload_n 0, 1) := by decide +kernel
theorem dX1_init_15 : decode cX1_init 15 = .ok (.iconst 1, 1) := by decide +kernel
theorem dX1_init_16 : decode cX1_init 16 = .ok (.iload_n 1, 1) := by decide +kernel
theorem dX1_init_17 : decode cX1_init 17 = .ok (.invokestatic 16, 3) := by decide +kernel
theorem dX1_init_20 : decode cX1_init 20 = .ok (.anewarray 22, 3) := by decide +kernel
theorem dX1_init_23 : decode cX1_init 23 = .ok (.putfield 24, 3) := by decide +kernel
theorem dX1_init_26 : decode cX1_init 26 = .ok (.iconst 0, 1) := by decide +kernel
theorem dX1_init_27 : decode cX1_init 27 = .ok (.istore_n 2, 1) := by decide +kernel
theorem dX1_init_28 : decode cX1_init 28 = .ok (.iload_n 2, 1) := by decide +kernel
theorem dX1_init_29 : decode cX1_init 29 = .ok (.aload_n 0, 1) := by decide +kernel
theorem dX1_init_30 : decode cX1_init 30 = .ok (.getfield 24, 3) := by decide +kernel
theorem dX1_init_33 : decode cX1_init 33 = .ok (.arraylength, 1) := by decide +kernel
theorem dX1_init_34 : decode cX1_init 34 = .ok (.if_icmp .ge 22, 3) := by decide +kernel
theorem dX1_init_37 : decode cX1_init 37 = .ok (.aload_n 0, 1) := by decide +kernel
theorem dX1_init_38 : decode cX1_init 38 = .ok (.getfield 24, 3) := by decide +kernel
theorem dX1_init_41 : decode cX1_init 41 = .ok (.iload_n 2, 1) := by decide +kernel
theorem dX1_init_42 : decode cX1_init 42 = .ok (.new 22, 3) := by decide +kernel
theorem dX1_init_45 : decode cX1_init 45 = .ok (.dup, 1) := by decide +kernel
theorem dX1_init_46 : decode cX1_init 46 = .ok (.invokespecial 28, 3) := by decide +kernel
theorem dX1_init_49 : decode cX1_init 49 = .ok (.aastore, 1) := by decide +kernel
theorem dX1_init_50 : decode cX1_init 50 = .ok (.iinc 2 1, 3) := by decide +kernel
theorem dX1_init_53 : decode cX1_init 53 = .ok (.goto (-25), 3) := by decide +kernel
theorem dX1_init_56 : decode cX1_init 56 = .ok (.return_, 1) := by decide +kernel
theorem dX1_put_0 : decode cX1_put 0 = .ok (.aload_n 0, 1) := by decide +kernel
theorem dX1_put_1 : decode cX1_put 1 = .ok (.getfield 24, 3) := by decide +kernel
theorem dX1_put_4 : decode cX1_put 4 = .ok (.aload_n 0, 1) := by decide +kernel
theorem dX1_put_5 : decode cX1_put 5 = .ok (.getfield 13, 3) := by decide +kernel
theorem dX1_put_8 : decode cX1_put 8 = .ok (.aaload, 1) := by decide +kernel
theorem dX1_put_9 : decode cX1_put 9 = .ok (.aload_n 1, 1) := by decide +kernel
theorem dX1_put_10 : decode cX1_put 10 = .ok (.invokevirtual 29, 3) := by decide +kernel
theorem dX1_put_13 : decode cX1_put 13 = .ok (.aload_n 0, 1) := by decide +kernel
theorem dX1_put_14 : decode cX1_put 14 = .ok (.aload_n 0, 1) := by decide +kernel
theorem dX1_put_15 : decode cX1_put 15 = .ok (.getfield 13, 3) := by decide +kernel
theorem dX1_put_18 : decode cX1_put 18 = .ok (.iconst 1, 1) := by decide +kernel
theorem dX1_put_19 : decode cX1_put 19 = .ok (.iadd, 1) := by decide +kernel
theorem dX1_put_20 : decode cX1_put 20 = .ok (.aload_n 0, 1) := by decide +kernel
theorem dX1_put_21 : decode cX1_put 21 = .ok (.getfield 24, 3) := by decide +kernel
theorem dX1_put_24 : decode cX1_put 24 = .ok (.arraylength, 1) := by decide +kernel
theorem dX1_put_25 : decode cX1_put 25 = .ok (.irem, 1) := by decide +kernel
theorem dX1_put_26 : decode cX1_put 26 = .ok (.putfield 13, 3) := by decide +kernel
theorem dX1_put_29 : decode cX1_put 29 = .ok (.aload_n 0, 1) := by decide +kernel
theorem dX1_put_30 : decode cX1_put 30 = .ok (.aload_n 0, 1) := by decide +kernel
theorem dX1_put_31 : decode cX1_put 31 = .ok (.getfield 24, 3) := by decide +kernel
theorem dX1_put_34 : decode cX1_put 34 = .ok (.arraylength, 1) := by decide +kernel
theorem dX1_put_35 : decode cX1_put 35 = .ok (.aload_n 0, 1) := by decide +kernel
theorem dX1_put_36 : decode cX1_put 36 = .ok (.getfield 7, 3) := by decide +kernel
theorem dX1_put_39 : decode cX1_put 39 = .ok (.iconst 1, 1) := by decide +kernel
theorem dX1_put_40 : decode cX1_put 40 = .ok (.iadd, 1) := by decide +kernel
theorem dX1_put_41 : decode cX1_put 41 = .ok (.invokestatic 33, 3) := by decide +kernel
theorem dX1_put_44 : decode cX1_put 44 = .ok (.putfield 7, 3) := by decide +kernel
theorem dX1_put_47 : decode cX1_put 47 = .ok (.return_, 1) := by decide +kernel
theorem dX1_takeInto_0 : decode cX1_takeInto 0 = .ok (.aload_n 0, 1) := by decide +kernel
theorem dX1_takeInto_1 : decode cX1_takeInto 1 = .ok (.getfield 7, 3) := by decide +kernel
theorem dX1_takeInto_4 : decode cX1_takeInto 4 = .ok (.ifCond .ne 4, 3) := by decide +kernel
theorem dX1_takeInto_7 : decode cX1_takeInto 7 = .ok (.return_, 1) := by decide +kernel
theorem dX1_takeInto_8 : decode cX1_takeInto 8 = .ok (.aload_n 0, 1) := by decide +kernel
theorem dX1_takeInto_9 : decode cX1_takeInto 9 = .ok (.aload_n 0, 1) := by decide +kernel
theorem dX1_takeInto_10 : decode cX1_takeInto 10 = .ok (.getfield 13, 3) := by decide +kernel
theorem dX1_takeInto_13 : decode cX1_takeInto 13 = .ok (.aload_n 0, 1) := by decide +kernel
theorem dX1_takeInto_14 : decode cX1_takeInto 14 = .ok (.getfield 24, 3) := by decide +kernel
theorem dX1_takeInto_17 : decode cX1_takeInto 17 = .ok (.arraylength, 1) := by decide +kernel
theorem dX1_takeInto_18 : decode cX1_takeInto 18 = .ok (.iadd, 1) := by decide +kernel
theorem dX1_takeInto_19 : decode cX1_takeInto 19 = .ok (.iconst 1, 1) := by decide +kernel
theorem dX1_takeInto_20 : decode cX1_takeInto 20 = .ok (.isub, 1) := by decide +kernel
theorem dX1_takeInto_21 : decode cX1_takeInto 21 = .ok (.aload_n 0, 1) := by decide +kernel
theorem dX1_takeInto_22 : decode cX1_takeInto 22 = .ok (.getfield 24, 3) := by decide +kernel
theorem dX1_takeInto_25 : decode cX1_takeInto 25 = .ok (.arraylength, 1) := by decide +kernel
theorem dX1_takeInto_26 : decode cX1_takeInto 26 = .ok (.irem, 1) := by decide +kernel
theorem dX1_takeInto_27 : decode cX1_takeInto 27 = .ok (.putfield 13, 3) := by decide +kernel
theorem dX1_takeInto_30 : decode cX1_takeInto 30 = .ok (.aload_n 1, 1) := by decide +kernel
theorem dX1_takeInto_31 : decode cX1_takeInto 31 = .ok (.aload_n 0, 1) := by decide +kernel
theorem dX1_takeInto_32 : decode cX1_takeInto 32 = .ok (.getfield 24, 3) := by decide +kernel
theorem dX1_takeInto_35 : decode cX1_takeInto 35 = .ok (.aload_n 0, 1) := by decide +kernel
theorem dX1_takeInto_36 : decode cX1_takeInto 36 = .ok (.getfield 13, 3) := by decide +kernel
theorem dX1_takeInto_39 : decode cX1_takeInto 39 = .ok (.aaload, 1) := by decide +kernel
theorem dX1_takeInto_40 : decode cX1_takeInto 40 = .ok (.invokevirtual 29, 3) := by decide +kernel
theorem dX1_takeInto_43 : decode cX1_takeInto 43 = .ok (.aload_n 0, 1) := by decide +kernel
theorem dX1_takeInto_44 : decode cX1_takeInto 44 = .ok (.dup, 1) := by decide +kernel
theorem dX1_takeInto_45 : decode cX1_takeInto 45 = .ok (.getfield 7, 3) := by decide +kernel
theorem dX1_takeInto_48 : decode cX1_takeInto 48 = .ok (.iconst 1, 1) := by decide +kernel
theorem dX1_takeInto_49 : decode cX1_takeInto 49 = .ok (.isub, 1) := by decide +kernel
theorem dX1_takeInto_50 : decode cX1_takeInto 50 = .ok (.putfield 7, 3) := by decide +kernel
theorem dX1_takeInto_53 : decode cX1_takeInto 53 = .ok (.return_, 1) := by decide +kernel
theorem dX1_clear_0 : decode cX1_clear 0 = .ok (.aload_n 0, 1) := by decide +kernel
theorem dX1_clear_1 : decode cX1_clear 1 = .ok (.iconst 0, 1) := by decide +kernel
theorem dX1_clear_2 : decode cX1_clear 2 = .ok (.putfield 7, 3) := by decide +kernel
theorem dX1_clear_5 : decode cX1_clear 5 = .ok (.return_, 1) := by decide +kernel
theorem dX2_init_0 : decode cX2_init 0 = .ok (.aload_n 0, 1) := by decide +kernel
theorem dX2_init_1 : decode cX2_init 1 = .ok (.invokespecial 3, 3) := by decide +kernel
theorem dX2_init_4 : decode cX2_init 4 = .ok (.aload_n 0, 1) := by decide +kernel
theorem dX2_init_5 : decode cX2_init 5 = .ok (.bipush 6, 2) := by decide +kernel
theorem dX2_init_7 : decode cX2_init 7 = .ok (.newarray .int, 2) := by decide +kernel
theorem dX2_init_9 : decode cX2_init 9 = .ok (.putfield 9, 3) := by decide +kernel
theorem dX2_init_12 : decode cX2_init 12 = .ok (.aload_n 0, 1) := by decide +kernel
theorem dX2_init_13 : decode cX2_init 13 = .ok (.bipush 6, 2) := by decide +kernel
theorem dX2_init_15 : decode cX2_init 15 = .ok (.newarray .int, 2) := by decide +kernel
theorem dX2_init_17 : decode cX2_init 17 = .ok (.putfield 15, 3) := by decide +kernel
theorem dX2_init_20 : decode cX2_init 20 = .ok (.aload_n 0, 1) := by decide +kernel
theorem dX2_init_21 : decode cX2_init 21 = .ok (.bipush 6, 2) := by decide +kernel
theorem dX2_init_23 : decode cX2_init 23 = .ok (.newarray .int, 2) := by decide +kernel
theorem dX2_init_25 : decode cX2_init 25 = .ok (.putfield 18, 3) := by decide +kernel
theorem dX2_init_28 : decode cX2_init 28 = .ok (.aload_n 0, 1) := by decide +kernel
theorem dX2_init_29 : decode cX2_init 29 = .ok (.bipush 6, 2) := by decide +kernel
theorem dX2_init_31 : decode cX2_init 31 = .ok (.newarray .int, 2) := by decide +kernel
theorem dX2_init_33 : decode cX2_init 33 = .ok (.putfield 21, 3) := by decide +kernel
theorem dX2_init_36 : decode cX2_init 36 = .ok (.aload_n 0, 1) := by decide +kernel
theorem dX2_init_37 : decode cX2_init 37 = .ok (.bipush 6, 2) := by decide +kernel
theorem dX2_init_39 : decode cX2_init 39 = .ok (.newarray .boolean, 2) := by decide +kernel
theorem dX2_init_41 : decode cX2_init 41 = .ok (.putfield 24, 3) := by decide +kernel
theorem dX2_init_44 : decode cX2_init 44 = .ok (.aload_n 0, 1) := by decide +kernel
theorem dX2_init_45 : decode cX2_init 45 = .ok (.iconst 0, 1) := by decide +kernel
theorem dX2_init_46 : decode cX2_init 46 = .ok (.putfield 28, 3) := by decide +kernel
theorem dX2_init_49 : decode cX2_init 49 = .ok (.return_, 1) := by decide +kernel
theorem dX2_add_0 : decode cX2_add 0 = .ok (.aload_n 0, 1) := by decide +kernel
theorem dX2_add_1 : decode cX2_add 1 = .ok (.getfield 28, 3) := by decide +kernel
theorem dX2_add_4 : decode cX2_add 4 = .ok (.bipush 6, 2) := by decide +kernel
theorem dX2_add_6 : decode cX2_add 6 = .ok (.if_icmp .lt 4, 3) := by decide +kernel
theorem dX2_add_9 : decode cX2_add 9 = .ok (.return_, 1) := by decide +kernel
theorem dX2_add_10 : decode cX2_add 10 = .ok (.aload_n 0, 1) := by decide +kernel
theorem dX2_add_11 : decode cX2_add 11 = .ok (.getfield 9, 3) := by decide +kernel
theorem dX2_add_14 : decode cX2_add 14 = .ok (.aload_n 0, 1) := by decide +kernel
theorem dX2_add_15 : decode cX2_add 15 = .ok (.getfield 28, 3) := by decide +kernel
theorem dX2_add_18 : decode cX2_add 18 = .ok (.iload_n 1, 1) := by decide +kernel
theorem dX2_add_19 : decode cX2_add 19 = .ok (.iastore, 1) := by decide +kernel
theorem dX2_add_20 : decode cX2_add 20 = .ok (.aload_n 0, 1) := by decide +kernel
theorem dX2_add_21 : decode cX2_add 21 = .ok (.getfield 15, 3) := by decide +kernel
theorem dX2_add_24 : decode cX2_add 24 = .ok (.aload_n 0, 1) := by decide +kernel
theorem dX2_add_25 : decode cX2_add 25 = .ok (.getfield 28, 3) := by decide +kernel
theorem dX2_add_28 : decode cX2_add 28 = .ok (.iload_n 2, 1) := by decide +kernel
theorem dX2_add_29 : decode cX2_add 29 = .ok (.iastore, 1) := by decide +kernel
theorem dX2_add_30 : decode cX2_add 30 = .ok (.aload_n 0, 1) := by decide +kernel
theorem dX2_add_31 : decode cX2_add 31 = .ok (.getfield 18, 3) := by decide +kernel
theorem dX2_add_34 : decode cX2_add 34 = .ok (.aload_n 0, 1) := by decide +kernel
theorem dX2_add_35 : decode cX2_add 35 = .ok (.getfield 28, 3) := by decide +kernel
theorem dX2_add_38 : decode cX2_add 38 = .ok (.iload_n 3, 1) := by decide +kernel
theorem dX2_add_39 : decode cX2_add 39 = .ok (.iastore, 1) := by decide +kernel
theorem dX2_add_40 : decode cX2_add 40 = .ok (.aload_n 0, 1) := by decide +kernel
theorem dX2_add_41 : decode cX2_add 41 = .ok (.getfield 21, 3) := by decide +kernel
theorem dX2_add_44 : decode cX2_add 44 = .ok (.aload_n 0, 1) := by decide +kernel
theorem dX2_add_45 : decode cX2_add 45 = .ok (.getfield 28, 3) := by decide +kernel
theorem dX2_add_48 : decode cX2_add 48 = .ok (.iload 4, 2) := by decide +kernel
theorem dX2_add_50 : decode cX2_add 50 = .ok (.iastore, 1) := by decide +kernel
theorem dX2_add_51 : decode cX2_add 51 = .ok (.aload_n 0, 1) := by decide +kernel
theorem dX2_add_52 : decode cX2_add 52 = .ok (.getfield 24, 3) := by decide +kernel
theorem dX2_add_55 : decode cX2_add 55 = .ok (.aload_n 0, 1) := by decide +kernel
theorem dX2_add_56 : decode cX2_add 56 = .ok (.getfield 28, 3) := by decide +kernel
theorem dX2_add_59 : decode cX2_add 59 = .ok (.iload 5, 2) := by decide +kernel
theorem dX2_add_61 : decode cX2_add 61 = .ok (.bastore, 1) := by decide +kernel
theorem dX2_add_62 : decode cX2_add 62 = .ok (.aload_n 0, 1) := by decide +kernel
theorem dX2_add_63 : decode cX2_add 63 = .ok (.dup, 1) := by decide +kernel
theorem dX2_add_64 : decode cX2_add 64 = .ok (.getfield 28, 3) := by decide +kernel
theorem dX2_add_67 : decode cX2_add 67 = .ok (.iconst 1, 1) := by decide +kernel
theorem dX2_add_68 : decode cX2_add 68 = .ok (.iadd, 1) := by decide +kernel
theorem dX2_add_69 : decode cX2_add 69 = .ok (.putfield 28, 3) := by decide +kernel
theorem dX2_add_72 : decode cX2_add 72 = .ok (.return_, 1) := by decide +kernel
theorem dX2_tiesThatFit_0 : decode cX2_tiesThatFit 0 = .ok (.iconst 0, 1) := by decide +kernel
theorem dX2_tiesThatFit_1 : decode cX2_tiesThatFit 1 = .ok (.istore 4, 2) := by decide +kernel
theorem dX2_tiesThatFit_3 : decode cX2_tiesThatFit 3 = .ok (.bipush (-4), 2) := by decide +kernel
theorem dX2_tiesThatFit_5 : decode cX2_tiesThatFit 5 = .ok (.istore 5, 2) := by decide +kernel
theorem dX2_tiesThatFit_7 : decode cX2_tiesThatFit 7 = .ok (.iload 5, 2) := by decide +kernel
theorem dX2_tiesThatFit_9 : decode cX2_tiesThatFit 9 = .ok (.iconst 5, 1) := by decide +kernel
theorem dX2_tiesThatFit_10 : decode cX2_tiesThatFit 10 = .ok (.if_icmp .gt 32, 3) := by decide +kernel
theorem dX2_tiesThatFit_13 : decode cX2_tiesThatFit 13 = .ok (.aload_n 0, 1) := by decide +kernel
theorem dX2_tiesThatFit_14 : decode cX2_tiesThatFit 14 = .ok (.aload_n 1, 1) := by decide +kernel
theorem dX2_tiesThatFit_15 : decode cX2_tiesThatFit 15 = .ok (.iload_n 2, 1) := by decide +kernel
theorem dX2_tiesThatFit_16 : decode cX2_tiesThatFit 16 = .ok (.iload_n 3, 1) := by decide +kernel
theorem dX2_tiesThatFit_17 : decode cX2_tiesThatFit 17 = .ok (.iload 5, 2) := by decide +kernel
theorem dX2_tiesThatFit_19 : decode cX2_tiesThatFit 19 = .ok (.invokevirtual 32, 3) := by decide +kernel
theorem dX2_tiesThatFit_22 : decode cX2_tiesThatFit 22 = .ok (.ifCond .eq 14, 3) := by decide +kernel
theorem dX2_tiesThatFit_25 : decode cX2_tiesThatFit 25 = .ok (.iload 4, 2) := by decide +kernel
theorem dX2_tiesThatFit_27 : decode cX2_tiesThatFit 27 = .ok (.iconst 1, 1) := by decide +kernel
theorem dX2_tiesThatFit_28 : decode cX2_tiesThatFit 28 = .ok (.iload 5, 2) := by decide +kernel
theorem dX2_tiesThatFit_30 : decode cX2_tiesThatFit 30 = .ok (.iconst 4, 1) := by decide +kernel
theorem dX2_tiesThatFit_31 : decode cX2_tiesThatFit 31 = .ok (.iadd, 1) := by decide +kernel
theorem dX2_tiesThatFit_32 : decode cX2_tiesThatFit 32 = .ok (.ishl, 1) := by decide +kernel
theorem dX2_tiesThatFit_33 : decode cX2_tiesThatFit 33 = .ok (.ior, 1) := by decide +kernel
theorem dX2_tiesThatFit_34 : decode cX2_tiesThatFit 34 = .ok (.istore 4, 2) := by decide +kernel
theorem dX2_tiesThatFit_36 : decode cX2_tiesThatFit 36 = .ok (.iinc 5 1, 3) := by decide +kernel
theorem dX2_tiesThatFit_39 : decode cX2_tiesThatFit 39 = .ok (.goto (-32), 3) := by decide +kernel
theorem dX2_tiesThatFit_42 : decode cX2_tiesThatFit 42 = .ok (.iload 4, 2) := by decide +kernel
theorem dX2_tiesThatFit_44 : decode cX2_tiesThatFit 44 = .ok (.ireturn, 1) := by decide +kernel
theorem dX2_kindsThatFit_0 : decode cX2_kindsThatFit 0 = .ok (.iconst 0, 1) := by decide +kernel
theorem dX2_kindsThatFit_1 : decode cX2_kindsThatFit 1 = .ok (.istore_n 3, 1) := by decide +kernel
theorem dX2_kindsThatFit_2 : decode cX2_kindsThatFit 2 = .ok (.iconst 0, 1) := by decide +kernel
theorem dX2_kindsThatFit_3 : decode cX2_kindsThatFit 3 = .ok (.istore 4, 2) := by decide +kernel
theorem dX2_kindsThatFit_5 : decode cX2_kindsThatFit 5 = .ok (.iload 4, 2) := by decide +kernel
theorem dX2_kindsThatFit_7 : decode cX2_kindsThatFit 7 = .ok (.iconst 4, 1) := by decide +kernel
theorem dX2_kindsThatFit_8 : decode cX2_kindsThatFit 8 = .ok (.if_icmp .gt 27, 3) := by decide +kernel
theorem dX2_kindsThatFit_11 : decode cX2_kindsThatFit 11 = .ok (.aload_n 0, 1) := by decide +kernel
theorem dX2_kindsThatFit_12 : decode cX2_kindsThatFit 12 = .ok (.aload_n 1, 1) := by decide +kernel
theorem dX2_kindsThatFit_13 : decode cX2_kindsThatFit 13 = .ok (.iload_n 2, 1) := by decide +kernel
theorem dX2_kindsThatFit_14 : decode cX2_kindsThatFit 14 = .ok (.iload 4, 2) := by decide +kernel
theorem dX2_kindsThatFit_16 : decode cX2_kindsThatFit 16 = .ok (.invokevirtual 36, 3) := by decide +kernel
theorem dX2_kindsThatFit_19 : decode cX2_kindsThatFit 19 = .ok (.ifCond .eq 10, 3) := by decide +kernel
theorem dX2_kindsThatFit_22 : decode cX2_kindsThatFit 22 = .ok (.iload_n 3, 1) := by decide +kernel
theorem dX2_kindsThatFit_23 : decode cX2_kindsThatFit 23 = .ok (.iconst 1, 1) := by decide +kernel
theorem dX2_kindsThatFit_24 : decode cX2_kindsThatFit 24 = .ok (.iload 4, 2) := by decide +kernel
theorem dX2_kindsThatFit_26 : decode cX2_kindsThatFit 26 = .ok (.ishl, 1) := by decide +kernel
theorem dX2_kindsThatFit_27 : decode cX2_kindsThatFit 27 = .ok (.ior, 1) := by decide +kernel
theorem dX2_kindsThatFit_28 : decode cX2_kindsThatFit 28 = .ok (.istore_n 3, 1) := by decide +kernel
theorem dX2_kindsThatFit_29 : decode cX2_kindsThatFit 29 = .ok (.iinc 4 1, 3) := by decide +kernel
theorem dX2_kindsThatFit_32 : decode cX2_kindsThatFit 32 = .ok (.goto (-27), 3) := by decide +kernel
theorem dX2_kindsThatFit_35 : decode cX2_kindsThatFit 35 = .ok (.iload_n 3, 1) := by decide +kernel
theorem dX2_kindsThatFit_36 : decode cX2_kindsThatFit 36 = .ok (.ireturn, 1) := by decide +kernel
theorem dX2_tieFits_0 : decode cX2_tieFits 0 = .ok (.iconst 0, 1) := by decide +kernel
theorem dX2_tieFits_1 : decode cX2_tieFits 1 = .ok (.istore 5, 2) := by decide +kernel
theorem dX2_tieFits_3 : decode cX2_tieFits 3 = .ok (.iload 5, 2) := by decide +kernel
theorem dX2_tieFits_5 : decode cX2_tieFits 5 = .ok (.aload_n 0, 1) := by decide +kernel
theorem dX2_tieFits_6 : decode cX2_tieFits 6 = .ok (.getfield 28, 3) := by decide +kernel
theorem dX2_tieFits_9 : decode cX2_tieFits 9 = .ok (.if_icmp .ge 63, 3) := by decide +kernel
theorem dX2_tieFits_12 : decode cX2_tieFits 12 = .ok (.aload_n 0, 1) := by decide +kernel
theorem dX2_tieFits_13 : decode cX2_tieFits 13 = .ok (.getfield 9, 3) := by decide +kernel
theorem dX2_tieFits_16 : decode cX2_tieFits 16 = .ok (.iload 5, 2) := by decide +kernel
theorem dX2_tieFits_18 : decode cX2_tieFits 18 = .ok (.iaload, 1) := by decide +kernel
theorem dX2_tieFits_19 : decode cX2_tieFits 19 = .ok (.iload_n 2, 1) := by decide +kernel
theorem dX2_tieFits_20 : decode cX2_tieFits 20 = .ok (.if_icmp .ne 18, 3) := by decide +kernel
theorem dX2_tieFits_23 : decode cX2_tieFits 23 = .ok (.aload_n 0, 1) := by decide +kernel
theorem dX2_tieFits_24 : decode cX2_tieFits 24 = .ok (.getfield 15, 3) := by decide +kernel
theorem dX2_tieFits_27 : decode cX2_tieFits 27 = .ok (.iload 5, 2) := by decide +kernel
theorem dX2_tieFits_29 : decode cX2_tieFits 29 = .ok (.iaload, 1) := by decide +kernel
theorem dX2_tieFits_30 : decode cX2_tieFits 30 = .ok (.iload_n 3, 1) := by decide +kernel
theorem dX2_tieFits_31 : decode cX2_tieFits 31 = .ok (.if_icmp .ne 7, 3) := by decide +kernel
theorem dX2_tieFits_34 : decode cX2_tieFits 34 = .ok (.iconst 1, 1) := by decide +kernel
theorem dX2_tieFits_35 : decode cX2_tieFits 35 = .ok (.goto 4, 3) := by decide +kernel
theorem dX2_tieFits_38 : decode cX2_tieFits 38 = .ok (.iconst 0, 1) := by decide +kernel
theorem dX2_tieFits_39 : decode cX2_tieFits 39 = .ok (.istore 6, 2) := by decide +kernel
theorem dX2_tieFits_41 : decode cX2_tieFits 41 = .ok (.iload 6, 2) := by decide +kernel
theorem dX2_tieFits_43 : decode cX2_tieFits 43 = .ok (.ifCond .eq 23, 3) := by decide +kernel
theorem dX2_tieFits_46 : decode cX2_tieFits 46 = .ok (.aload_n 0, 1) := by decide +kernel
theorem dX2_tieFits_47 : decode cX2_tieFits 47 = .ok (.iload 5, 2) := by decide +kernel
theorem dX2_tieFits_49 : decode cX2_tieFits 49 = .ok (.aload_n 1, 1) := by decide +kernel
theorem dX2_tieFits_50 : decode cX2_tieFits 50 = .ok (.aload_n 1, 1) := by decide +kernel
theorem dX2_tieFits_51 : decode cX2_tieFits 51 = .ok (.getfield 40, 3) := by decide +kernel
theorem dX2_tieFits_54 : decode cX2_tieFits 54 = .ok (.iload_n 2, 1) := by decide +kernel
theorem dX2_tieFits_55 : decode cX2_tieFits 55 = .ok (.iaload, 1) := by decide +kernel
theorem dX2_tieFits_56 : decode cX2_tieFits 56 = .ok (.iload 4, 2) := by decide +kernel
theorem dX2_tieFits_58 : decode cX2_tieFits 58 = .ok (.invokevirtual 45, 3) := by decide +kernel
theorem dX2_tieFits_61 : decode cX2_tieFits 61 = .ok (.ifCond .ne 5, 3) := by decide +kernel
theorem dX2_tieFits_64 : decode cX2_tieFits 64 = .ok (.iconst 0, 1) := by decide +kernel
theorem dX2_tieFits_65 : decode cX2_tieFits 65 = .ok (.ireturn, 1) := by decide +kernel
theorem dX2_tieFits_66 : decode cX2_tieFits 66 = .ok (.iinc 5 1, 3) := by decide +kernel
theorem dX2_tieFits_69 : decode cX2_tieFits 69 = .ok (.goto (-66), 3) := by decide +kernel
theorem dX2_tieFits_72 : decode cX2_tieFits 72 = .ok (.iconst 1, 1) := by decide +kernel
theorem dX2_tieFits_73 : decode cX2_tieFits 73 = .ok (.ireturn, 1) := by decide +kernel
theorem dX2_kindFits_0 : decode cX2_kindFits 0 = .ok (.iconst 0, 1) := by decide +kernel
theorem dX2_kindFits_1 : decode cX2_kindFits 1 = .ok (.istore 4, 2) := by decide +kernel
theorem dX2_kindFits_3 : decode cX2_kindFits 3 = .ok (.iload 4, 2) := by decide +kernel
theorem dX2_kindFits_5 : decode cX2_kindFits 5 = .ok (.aload_n 0, 1) := by decide +kernel
theorem dX2_kindFits_6 : decode cX2_kindFits 6 = .ok (.getfield 28, 3) := by decide +kernel
theorem dX2_kindFits_9 : decode cX2_kindFits 9 = .ok (.if_icmp .ge 57, 3) := by decide +kernel
theorem dX2_kindFits_12 : decode cX2_kindFits 12 = .ok (.aload_n 0, 1) := by decide +kernel
theorem dX2_kindFits_13 : decode cX2_kindFits 13 = .ok (.getfield 9, 3) := by decide +kernel
theorem dX2_kindFits_16 : decode cX2_kindFits 16 = .ok (.iload 4, 2) := by decide +kernel
theorem dX2_kindFits_18 : decode cX2_kindFits 18 = .ok (.iaload, 1) := by decide +kernel
theorem dX2_kindFits_19 : decode cX2_kindFits 19 = .ok (.iload_n 2, 1) := by decide +kernel
theorem dX2_kindFits_20 : decode cX2_kindFits 20 = .ok (.if_icmp .ne 7, 3) := by decide +kernel
theorem dX2_kindFits_23 : decode cX2_kindFits 23 = .ok (.iconst 1, 1) := by decide +kernel
theorem dX2_kindFits_24 : decode cX2_kindFits 24 = .ok (.goto 4, 3) := by decide +kernel
theorem dX2_kindFits_27 : decode cX2_kindFits 27 = .ok (.iconst 0, 1) := by decide +kernel
theorem dX2_kindFits_28 : decode cX2_kindFits 28 = .ok (.istore 5, 2) := by decide +kernel
theorem dX2_kindFits_30 : decode cX2_kindFits 30 = .ok (.iload 5, 2) := by decide +kernel
theorem dX2_kindFits_32 : decode cX2_kindFits 32 = .ok (.ifCond .eq 28, 3) := by decide +kernel
theorem dX2_kindFits_35 : decode cX2_kindFits 35 = .ok (.aload_n 0, 1) := by decide +kernel
theorem dX2_kindFits_36 : decode cX2_kindFits 36 = .ok (.iload 4, 2) := by decide +kernel
theorem dX2_kindFits_38 : decode cX2_kindFits 38 = .ok (.aload_n 1, 1) := by decide +kernel
theorem dX2_kindFits_39 : decode cX2_kindFits 39 = .ok (.iload_n 3, 1) := by decide +kernel
theorem dX2_kindFits_40 : decode cX2_kindFits 40 = .ok (.aload_n 1, 1) := by decide +kernel
theorem dX2_kindFits_41 : decode cX2_kindFits 41 = .ok (.iload_n 2, 1) := by decide +kernel
theorem dX2_kindFits_42 : decode cX2_kindFits 42 = .ok (.aload_n 0, 1) := by decide +kernel
theorem dX2_kindFits_43 : decode cX2_kindFits 43 = .ok (.getfield 15, 3) := by decide +kernel
theorem dX2_kindFits_46 : decode cX2_kindFits 46 = .ok (.iload 4, 2) := by decide +kernel
theorem dX2_kindFits_48 : decode cX2_kindFits 48 = .ok (.iaload, 1) := by decide +kernel
theorem dX2_kindFits_49 : decode cX2_kindFits 49 = .ok (.invokevirtual 49, 3) := by decide +kernel
theorem dX2_kindFits_52 : decode cX2_kindFits 52 = .ok (.invokevirtual 45, 3) := by decide +kernel
theorem dX2_kindFits_55 : decode cX2_kindFits 55 = .ok (.ifCond .ne 5, 3) := by decide +kernel
theorem dX2_kindFits_58 : decode cX2_kindFits 58 = .ok (.iconst 0, 1) := by decide +kernel
theorem dX2_kindFits_59 : decode cX2_kindFits 59 = .ok (.ireturn, 1) := by decide +kernel
theorem dX2_kindFits_60 : decode cX2_kindFits 60 = .ok (.iinc 4 1, 3) := by decide +kernel
theorem dX2_kindFits_63 : decode cX2_kindFits 63 = .ok (.goto (-60), 3) := by decide +kernel
theorem dX2_kindFits_66 : decode cX2_kindFits 66 = .ok (.iconst 1, 1) := by decide +kernel
theorem dX2_kindFits_67 : decode cX2_kindFits 67 = .ok (.ireturn, 1) := by decide +kernel
theorem dX2_isSo_0 : decode cX2_isSo 0 = .ok (.aload_n 0, 1) := by decide +kernel
theorem dX2_isSo_1 : decode cX2_isSo 1 = .ok (.getfield 24, 3) := by decide +kernel
theorem dX2_isSo_4 : decode cX2_isSo 4 = .ok (.iload_n 1, 1) := by decide +kernel
theorem dX2_isSo_5 : decode cX2_isSo 5 = .ok (.baload, 1) := by decide +kernel
theorem dX2_isSo_6 : decode cX2_isSo 6 = .ok (.aload_n 2, 1) := by decide +kernel
theorem dX2_isSo_7 : decode cX2_isSo 7 = .ok (.aload_n 0, 1) := by decide +kernel
theorem dX2_isSo_8 : decode cX2_isSo 8 = .ok (.getfield 9, 3) := by decide +kernel
theorem dX2_isSo_11 : decode cX2_isSo 11 = .ok (.iload_n 1, 1) := by decide +kernel
theorem dX2_isSo_12 : decode cX2_isSo 12 = .ok (.iaload, 1) := by decide +kernel
theorem dX2_isSo_13 : decode cX2_isSo 13 = .ok (.iload_n 3, 1) := by decide +kernel
theorem dX2_isSo_14 : decode cX2_isSo 14 = .ok (.iload 4, 2) := by decide +kernel
theorem dX2_isSo_16 : decode cX2_isSo 16 = .ok (.aload_n 0, 1) := by decide +kernel
theorem dX2_isSo_17 : decode cX2_isSo 17 = .ok (.getfield 15, 3) := by decide +kernel
theorem dX2_isSo_20 : decode cX2_isSo 20 = .ok (.iload_n 1, 1) := by decide +kernel
theorem dX2_isSo_21 : decode cX2_isSo 21 = .ok (.iaload, 1) := by decide +kernel
theorem dX2_isSo_22 : decode cX2_isSo 22 = .ok (.aload_n 0, 1) := by decide +kernel
theorem dX2_isSo_23 : decode cX2_isSo 23 = .ok (.getfield 18, 3) := by decide +kernel
theorem dX2_isSo_26 : decode cX2_isSo 26 = .ok (.iload_n 1, 1) := by decide +kernel
theorem dX2_isSo_27 : decode cX2_isSo 27 = .ok (.iaload, 1) := by decide +kernel
theorem dX2_isSo_28 : decode cX2_isSo 28 = .ok (.aload_n 0, 1) := by decide +kernel
theorem dX2_isSo_29 : decode cX2_isSo 29 = .ok (.getfield 21, 3) := by decide +kernel
theorem dX2_isSo_32 : decode cX2_isSo 32 = .ok (.iload_n 1, 1) := by decide +kernel
theorem dX2_isSo_33 : decode cX2_isSo 33 = .ok (.iaload, 1) := by decide +kernel
theorem dX2_isSo_34 : decode cX2_isSo 34 = .ok (.invokevirtual 53, 3) := by decide +kernel
theorem dX2_isSo_37 : decode cX2_isSo 37 = .ok (.if_icmp .ne 7, 3) := by decide +kernel
theorem dX2_isSo_40 : decode cX2_isSo 40 = .ok (.iconst 1, 1) := by decide +kernel
theorem dX2_isSo_41 : decode cX2_isSo 41 = .ok (.goto 4, 3) := by decide +kernel
theorem dX2_isSo_44 : decode cX2_isSo 44 = .ok (.iconst 0, 1) := by decide +kernel
theorem dX2_isSo_45 : decode cX2_isSo 45 = .ok (.ireturn, 1) := by decide +kernel
theorem dX3_init_0 : decode cX3_init 0 = .ok (.aload_n 0, 1) := by decide +kernel
theorem dX3_init_1 : decode cX3_init 1 = .ok (.invokespecial 3, 3) := by decide +kernel
theorem dX3_init_4 : decode cX3_init 4 = .ok (.aload_n 0, 1) := by decide +kernel
theorem dX3_init_5 : decode cX3_init 5 = .ok (.sipush 200, 3) := by decide +kernel
theorem dX3_init_8 : decode cX3_init 8 = .ok (.newarray .char, 2) := by decide +kernel
theorem dX3_init_10 : decode cX3_init 10 = .ok (.putfield 9, 3) := by decide +kernel
theorem dX3_init_13 : decode cX3_init 13 = .ok (.aload_n 0, 1) := by decide +kernel
theorem dX3_init_14 : decode cX3_init 14 = .ok (.iconst 3, 1) := by decide +kernel
theorem dX3_init_15 : decode cX3_init 15 = .ok (.newarray .int, 2) := by decide +kernel
theorem dX3_init_17 : decode cX3_init 17 = .ok (.putfield 15, 3) := by decide +kernel
theorem dX3_init_20 : decode cX3_init 20 = .ok (.aload_n 0, 1) := by decide +kernel
theorem dX3_init_21 : decode cX3_init 21 = .ok (.iconst 0, 1) := by decide +kernel
theorem dX3_init_22 : decode cX3_init 22 = .ok (.putfield 19, 3) := by decide +kernel
theorem dX3_init_25 : decode cX3_init 25 = .ok (.aload_n 0, 1) := by decide +kernel
theorem dX3_init_26 : decode cX3_init 26 = .ok (.iconst 0, 1) := by decide +kernel
theorem dX3_init_27 : decode cX3_init 27 = .ok (.putfield 23, 3) := by decide +kernel
theorem dX3_init_30 : decode cX3_init 30 = .ok (.return_, 1) := by decide +kernel
theorem dX3_isFull_0 : decode cX3_isFull 0 = .ok (.aload_n 0, 1) := by decide +kernel
theorem dX3_isFull_1 : decode cX3_isFull 1 = .ok (.getfield 19, 3) := by decide +kernel
theorem dX3_isFull_4 : decode cX3_isFull 4 = .ok (.sipush 200, 3) := by decide +kernel
theorem dX3_isFull_7 : decode cX3_isFull 7 = .ok (.if_icmp .lt 7, 3) := by decide +kernel
theorem dX3_isFull_10 : decode cX3_isFull 10 = .ok (.iconst 1, 1) := by decide +kernel
theorem dX3_isFull_11 : decode cX3_isFull 11 = .ok (.goto 4, 3) := by decide +kernel
theorem dX3_isFull_14 : decode cX3_isFull 14 = .ok (.iconst 0, 1) := by decide +kernel
theorem dX3_isFull_15 : decode cX3_isFull 15 = .ok (.ireturn, 1) := by decide +kernel
theorem dX3_append_0 : decode cX3_append 0 = .ok (.aload_n 0, 1) := by decide +kernel
theorem dX3_append_1 : decode cX3_append 1 = .ok (.invokevirtual 26, 3) := by decide +kernel
theorem dX3_append_4 : decode cX3_append 4 = .ok (.ifCond .eq 4, 3) := by decide +kernel
theorem dX3_append_7 : decode cX3_append 7 = .ok (.return_, 1) := by decide +kernel
theorem dX3_append_8 : decode cX3_append 8 = .ok (.aload_n 0, 1) := by decide +kernel
theorem dX3_append_9 : decode cX3_append 9 = .ok (.getfield 9, 3) := by decide +kernel
theorem dX3_append_12 : decode cX3_append 12 = .ok (.aload_n 0, 1) := by decide +kernel
theorem dX3_append_13 : decode cX3_append 13 = .ok (.getfield 19, 3) := by decide +kernel
theorem dX3_append_16 : decode cX3_append 16 = .ok (.iload_n 1, 1) := by decide +kernel
theorem dX3_append_17 : decode cX3_append 17 = .ok (.castore, 1) := by decide +kernel
theorem dX3_append_18 : decode cX3_append 18 = .ok (.aload_n 0, 1) := by decide +kernel
theorem dX3_append_19 : decode cX3_append 19 = .ok (.dup, 1) := by decide +kernel
theorem dX3_append_20 : decode cX3_append 20 = .ok (.getfield 19, 3) := by decide +kernel
theorem dX3_append_23 : decode cX3_append 23 = .ok (.iconst 1, 1) := by decide +kernel
theorem dX3_append_24 : decode cX3_append 24 = .ok (.iadd, 1) := by decide +kernel
theorem dX3_append_25 : decode cX3_append 25 = .ok (.putfield 19, 3) := by decide +kernel
theorem dX3_append_28 : decode cX3_append 28 = .ok (.return_, 1) := by decide +kernel
theorem dX3_clear_0 : decode cX3_clear 0 = .ok (.aload_n 0, 1) := by decide +kernel
theorem dX3_clear_1 : decode cX3_clear 1 = .ok (.iconst 0, 1) := by decide +kernel
theorem dX3_clear_2 : decode cX3_clear 2 = .ok (.putfield 19, 3) := by decide +kernel
theorem dX3_clear_5 : decode cX3_clear 5 = .ok (.return_, 1) := by decide +kernel
theorem dX3_readInto_0 : decode cX3_readInto 0 = .ok (.aload_n 1, 1) := by decide +kernel
theorem dX3_readInto_1 : decode cX3_readInto 1 = .ok (.invokevirtual 30, 3) := by decide +kernel
theorem dX3_readInto_4 : decode cX3_readInto 4 = .ok (.aload_n 0, 1) := by decide +kernel
theorem dX3_readInto_5 : decode cX3_readInto 5 = .ok (.iconst 0, 1) := by decide +kernel
theorem dX3_readInto_6 : decode cX3_readInto 6 = .ok (.putfield 23, 3) := by decide +kernel
theorem dX3_readInto_9 : decode cX3_readInto 9 = .ok (.iconst 0, 1) := by decide +kernel
theorem dX3_readInto_10 : decode cX3_readInto 10 = .ok (.istore_n 2, 1) := by decide +kernel
theorem dX3_readInto_11 : decode cX3_readInto 11 = .ok (.iload_n 2, 1) := by decide +kernel
theorem dX3_readInto_12 : decode cX3_readInto 12 = .ok (.sipush 200, 3) := by decide +kernel
theorem dX3_readInto_15 : decode cX3_readInto 15 = .ok (.if_icmp .ge 35, 3) := by decide +kernel
theorem dX3_readInto_18 : decode cX3_readInto 18 = .ok (.aload_n 0, 1) := by decide +kernel
theorem dX3_readInto_19 : decode cX3_readInto 19 = .ok (.getfield 23, 3) := by decide +kernel
theorem dX3_readInto_22 : decode cX3_readInto 22 = .ok (.aload_n 0, 1) := by decide +kernel
theorem dX3_readInto_23 : decode cX3_readInto 23 = .ok (.getfield 19, 3) := by decide +kernel
theorem dX3_readInto_26 : decode cX3_readInto 26 = .ok (.if_icmp .ge 24, 3) := by decide +kernel
theorem dX3_readInto_29 : decode cX3_readInto 29 = .ok (.aload_n 0, 1) := by decide +kernel
theorem dX3_readInto_30 : decode cX3_readInto 30 = .ok (.getfield 23, 3) := by decide +kernel
theorem dX3_readInto_33 : decode cX3_readInto 33 = .ok (.istore_n 3, 1) := by decide +kernel
theorem dX3_readInto_34 : decode cX3_readInto 34 = .ok (.aload_n 0, 1) := by decide +kernel
theorem dX3_readInto_35 : decode cX3_readInto 35 = .ok (.aload_n 1, 1) := by decide +kernel
theorem dX3_readInto_36 : decode cX3_readInto 36 = .ok (.invokevirtual 35, 3) := by decide +kernel
theorem dX3_readInto_39 : decode cX3_readInto 39 = .ok (.ifCond .ne 5, 3) := by decide +kernel
theorem dX3_readInto_42 : decode cX3_readInto 42 = .ok (.iload_n 3, 1) := by decide +kernel
theorem dX3_readInto_43 : decode cX3_readInto 43 = .ok (.ireturn, 1) := by decide +kernel
theorem dX3_readInto_44 : decode cX3_readInto 44 = .ok (.iinc 2 1, 3) := by decide +kernel
theorem dX3_readInto_47 : decode cX3_readInto 47 = .ok (.goto (-36), 3) := by decide +kernel
theorem dX3_readInto_50 : decode cX3_readInto 50 = .ok (.bipush (-4), 2) := by decide +kernel
theorem dX3_readInto_52 : decode cX3_readInto 52 = .ok (.ireturn, 1) := by decide +kernel
theorem dX3_readItem_0 : decode cX3_readItem 0 = .ok (.aload_n 0, 1) := by decide +kernel
theorem dX3_readItem_1 : decode cX3_readItem 1 = .ok (.invokevirtual 39, 3) := by decide +kernel
theorem dX3_readItem_4 : decode cX3_readItem 4 = .ok (.istore_n 2, 1) := by decide +kernel
theorem dX3_readItem_5 : decode cX3_readItem 5 = .ok (.iload_n 2, 1) := by decide +kernel
theorem dX3_readItem_6 : decode cX3_readItem 6 = .ok (.bipush 103, 2) := by decide +kernel
theorem dX3_readItem_8 : decode cX3_readItem 8 = .ok (.if_icmp .ne 7, 3) := by decide +kernel
theorem dX3_readItem_11 : decode cX3_readItem 11 = .ok (.iconst 0, 1) := by decide +kernel
theorem dX3_readItem_12 : decode cX3_readItem 12 = .ok (.goto 4, 3) := by decide +kernel
theorem dX3_readItem_15 : decode cX3_readItem 15 = .ok (.iconst 2, 1) := by decide +kernel
theorem dX3_readItem_16 : decode cX3_readItem 16 = .ok (.istore_n 3, 1) := by decide +kernel
theorem dX3_readItem_17 : decode cX3_readItem 17 = .ok (.iconst 0, 1) := by decide +kernel
theorem dX3_readItem_18 : decode cX3_readItem 18 = .ok (.istore 4, 2) := by decide +kernel
theorem dX3_readItem_20 : decode cX3_readItem 20 = .ok (.iload 4, 2) := by decide +kernel
theorem dX3_readItem_22 : decode cX3_readItem 22 = .ok (.iload_n 3, 1) := by decide +kernel
theorem dX3_readItem_23 : decode cX3_readItem 23 = .ok (.if_icmp .gt 40, 3) := by decide +kernel
theorem dX3_readItem_26 : decode cX3_readItem 26 = .ok (.aload_n 0, 1) := by decide +kernel
theorem dX3_readItem_27 : decode cX3_readItem 27 = .ok (.iload 4, 2) := by decide +kernel
theorem dX3_readItem_29 : decode cX3_readItem 29 = .ok (.invokevirtual 43, 3) := by decide +kernel
theorem dX3_readItem_32 : decode cX3_readItem 32 = .ok (.ifCond .eq 23, 3) := by decide +kernel
theorem dX3_readItem_35 : decode cX3_readItem 35 = .ok (.aload_n 0, 1) := by decide +kernel
theorem dX3_readItem_36 : decode cX3_readItem 36 = .ok (.invokevirtual 39, 3) := by decide +kernel
theorem dX3_readItem_39 : decode cX3_readItem 39 = .ok (.iload 4, 2) := by decide +kernel
theorem dX3_readItem_41 : decode cX3_readItem 41 = .ok (.iload_n 3, 1) := by decide +kernel
theorem dX3_readItem_42 : decode cX3_readItem 42 = .ok (.if_icmp .ge 8, 3) := by decide +kernel
theorem dX3_readItem_45 : decode cX3_readItem 45 = .ok (.bipush 44, 2) := by decide +kernel
theorem dX3_readItem_47 : decode cX3_readItem 47 = .ok (.goto 5, 3) := by decide +kernel
theorem dX3_readItem_50 : decode cX3_readItem 50 = .ok (.bipush 59, 2) := by decide +kernel
theorem dX3_readItem_52 : decode cX3_readItem 52 = .ok (.if_icmp .eq 5, 3) := by decide +kernel
theorem dX3_readItem_55 : decode cX3_readItem 55 = .ok (.iconst 0, 1) := by decide +kernel
theorem dX3_readItem_56 : decode cX3_readItem 56 = .ok (.ireturn, 1) := by decide +kernel
theorem dX3_readItem_57 : decode cX3_readItem 57 = .ok (.iinc 4 1, 3) := by decide +kernel
theorem dX3_readItem_60 : decode cX3_readItem 60 = .ok (.goto (-40), 3) := by decide +kernel
theorem dX3_readItem_63 : decode cX3_readItem 63 = .ok (.aload_n 0, 1) := by decide +kernel
theorem dX3_readItem_64 : decode cX3_readItem 64 = .ok (.aload_n 1, 1) := by decide +kernel
theorem dX3_readItem_65 : decode cX3_readItem 65 = .ok (.iload_n 2, 1) := by decide +kernel
theorem dX3_readItem_66 : decode cX3_readItem 66 = .ok (.invokevirtual 47, 3) := by decide +kernel
theorem dX3_readItem_69 : decode cX3_readItem 69 = .ok (.ireturn, 1) := by decide +kernel
theorem dX3_readNumber_0 : decode cX3_readNumber 0 = .ok (.aload_n 0, 1) := by decide +kernel
theorem dX3_readNumber_1 : decode cX3_readNumber 1 = .ok (.invokevirtual 51, 3) := by decide +kernel
theorem dX3_readNumber_4 : decode cX3_readNumber 4 = .ok (.ifCond .ne 5, 3) := by decide +kernel
theorem dX3_readNumber_7 : decode cX3_readNumber 7 = .ok (.iconst 0, 1) := by decide +kernel
theorem dX3_readNumber_8 : decode cX3_readNumber 8 = .ok (.ireturn, 1) := by decide +kernel
theorem dX3_readNumber_9 : decode cX3_readNumber 9 = .ok (.aload_n 0, 1) := by decide +kernel
theorem dX3_readNumber_10 : decode cX3_readNumber 10 = .ok (.invokevirtual 39, 3) := by decide +kernel
theorem dX3_readNumber_13 : decode cX3_readNumber 13 = .ok (.bipush 48, 2) := by decide +kernel
theorem dX3_readNumber_15 : decode cX3_readNumber 15 = .ok (.isub, 1) := by decide +kernel
theorem dX3_readNumber_16 : decode cX3_readNumber 16 = .ok (.istore_n 2, 1) := by decide +kernel
theorem dX3_readNumber_17 : decode cX3_readNumber 17 = .ok (.aload_n 0, 1) := by decide +kernel
theorem dX3_readNumber_18 : decode cX3_readNumber 18 = .ok (.invokevirtual 51, 3) := by decide +kernel
theorem dX3_readNumber_21 : decode cX3_readNumber 21 = .ok (.ifCond .eq 16, 3) := by decide +kernel
theorem dX3_readNumber_24 : decode cX3_readNumber 24 = .ok (.bipush 10, 2) := by decide +kernel
theorem dX3_readNumber_26 : decode cX3_readNumber 26 = .ok (.iload_n 2, 1) := by decide +kernel
theorem dX3_readNumber_27 : decode cX3_readNumber 27 = .ok (.imul, 1) := by decide +kernel
theorem dX3_readNumber_28 : decode cX3_readNumber 28 = .ok (.aload_n 0, 1) := by decide +kernel
theorem dX3_readNumber_29 : decode cX3_readNumber 29 = .ok (.invokevirtual 39, 3) := by decide +kernel
theorem dX3_readNumber_32 : decode cX3_readNumber 32 = .ok (.bipush 48, 2) := by decide +kernel
theorem dX3_readNumber_34 : decode cX3_readNumber 34 = .ok (.isub, 1) := by decide +kernel
theorem dX3_readNumber_35 : decode cX3_readNumber 35 = .ok (.iadd, 1) := by decide +kernel
theorem dX3_readNumber_36 : decode cX3_readNumber 36 = .ok (.istore_n 2, 1) := by decide +kernel
theorem dX3_readNumber_37 : decode cX3_readNumber 37 = .ok (.aload_n 0, 1) := by decide +kernel
theorem dX3_readNumber_38 : decode cX3_readNumber 38 = .ok (.getfield 15, 3) := by decide +kernel
theorem dX3_readNumber_41 : decode cX3_readNumber 41 = .ok (.iload_n 1, 1) := by decide +kernel
theorem dX3_readNumber_42 : decode cX3_readNumber 42 = .ok (.iload_n 2, 1) := by decide +kernel
theorem dX3_readNumber_43 : decode cX3_readNumber 43 = .ok (.iastore, 1) := by decide +kernel
theorem dX3_readNumber_44 : decode cX3_readNumber 44 = .ok (.iconst 1, 1) := by decide +kernel
theorem dX3_readNumber_45 : decode cX3_readNumber 45 = .ok (.ireturn, 1) := by decide +kernel
theorem dX3_isAtFigure_0 : decode cX3_isAtFigure 0 = .ok (.aload_n 0, 1) := by decide +kernel
theorem dX3_isAtFigure_1 : decode cX3_isAtFigure 1 = .ok (.getfield 23, 3) := by decide +kernel
theorem dX3_isAtFigure_4 : decode cX3_isAtFigure 4 = .ok (.aload_n 0, 1) := by decide +kernel
theorem dX3_isAtFigure_5 : decode cX3_isAtFigure 5 = .ok (.getfield 19, 3) := by decide +kernel
theorem dX3_isAtFigure_8 : decode cX3_isAtFigure 8 = .ok (.if_icmp .ge 35, 3) := by decide +kernel
theorem dX3_isAtFigure_11 : decode cX3_isAtFigure 11 = .ok (.aload_n 0, 1) := by decide +kernel
theorem dX3_isAtFigure_12 : decode cX3_isAtFigure 12 = .ok (.getfield 9, 3) := by decide +kernel
theorem dX3_isAtFigure_15 : decode cX3_isAtFigure 15 = .ok (.aload_n 0, 1) := by decide +kernel
theorem dX3_isAtFigure_16 : decode cX3_isAtFigure 16 = .ok (.getfield 23, 3) := by decide +kernel
theorem dX3_isAtFigure_19 : decode cX3_isAtFigure 19 = .ok (.caload, 1) := by decide +kernel
theorem dX3_isAtFigure_20 : decode cX3_isAtFigure 20 = .ok (.bipush 48, 2) := by decide +kernel
theorem dX3_isAtFigure_22 : decode cX3_isAtFigure 22 = .ok (.if_icmp .lt 21, 3) := by decide +kernel
theorem dX3_isAtFigure_25 : decode cX3_isAtFigure 25 = .ok (.aload_n 0, 1) := by decide +kernel
theorem dX3_isAtFigure_26 : decode cX3_isAtFigure 26 = .ok (.getfield 9, 3) := by decide +kernel
theorem dX3_isAtFigure_29 : decode cX3_isAtFigure 29 = .ok (.aload_n 0, 1) := by decide +kernel
theorem dX3_isAtFigure_30 : decode cX3_isAtFigure 30 = .ok (.getfield 23, 3) := by decide +kernel
theorem dX3_isAtFigure_33 : decode cX3_isAtFigure 33 = .ok (.caload, 1) := by decide +kernel
theorem dX3_isAtFigure_34 : decode cX3_isAtFigure 34 = .ok (.bipush 57, 2) := by decide +kernel
theorem dX3_isAtFigure_36 : decode cX3_isAtFigure 36 = .ok (.if_icmp .gt 7, 3) := by decide +kernel
theorem dX3_isAtFigure_39 : decode cX3_isAtFigure 39 = .ok (.iconst 1, 1) := by decide +kernel
theorem dX3_isAtFigure_40 : decode cX3_isAtFigure 40 = .ok (.goto 4, 3) := by decide +kernel
theorem dX3_isAtFigure_43 : decode cX3_isAtFigure 43 = .ok (.iconst 0, 1) := by decide +kernel
theorem dX3_isAtFigure_44 : decode cX3_isAtFigure 44 = .ok (.ireturn, 1) := by decide +kernel
theorem dX3_next_0 : decode cX3_next 0 = .ok (.aload_n 0, 1) := by decide +kernel
theorem dX3_next_1 : decode cX3_next 1 = .ok (.getfield 23, 3) := by decide +kernel
theorem dX3_next_4 : decode cX3_next 4 = .ok (.aload_n 0, 1) := by decide +kernel
theorem dX3_next_5 : decode cX3_next 5 = .ok (.getfield 19, 3) := by decide +kernel
theorem dX3_next_8 : decode cX3_next 8 = .ok (.if_icmp .lt 6, 3) := by decide +kernel
theorem dX3_next_11 : decode cX3_next 11 = .ok (.bipush 32, 2) := by decide +kernel
theorem dX3_next_13 : decode cX3_next 13 = .ok (.ireturn, 1) := by decide +kernel
theorem dX3_next_14 : decode cX3_next 14 = .ok (.aload_n 0, 1) := by decide +kernel
theorem dX3_next_15 : decode cX3_next 15 = .ok (.getfield 9, 3) := by decide +kernel
theorem dX3_next_18 : decode cX3_next 18 = .ok (.aload_n 0, 1) := by decide +kernel
theorem dX3_next_19 : decode cX3_next 19 = .ok (.getfield 23, 3) := by decide +kernel
theorem dX3_next_22 : decode cX3_next 22 = .ok (.caload, 1) := by decide +kernel
theorem dX3_next_23 : decode cX3_next 23 = .ok (.istore_n 1, 1) := by decide +kernel
theorem dX3_next_24 : decode cX3_next 24 = .ok (.aload_n 0, 1) := by decide +kernel
theorem dX3_next_25 : decode cX3_next 25 = .ok (.dup, 1) := by decide +kernel
theorem dX3_next_26 : decode cX3_next 26 = .ok (.getfield 23, 3) := by decide +kernel
theorem dX3_next_29 : decode cX3_next 29 = .ok (.iconst 1, 1) := by decide +kernel
theorem dX3_next_30 : decode cX3_next 30 = .ok (.iadd, 1) := by decide +kernel
theorem dX3_next_31 : decode cX3_next 31 = .ok (.putfield 23, 3) := by decide +kernel
theorem dX3_next_34 : decode cX3_next 34 = .ok (.iload_n 1, 1) := by decide +kernel
theorem dX3_next_35 : decode cX3_next 35 = .ok (.ireturn, 1) := by decide +kernel
theorem dX3_tell_0 : decode cX3_tell 0 = .ok (.iload_n 2, 1) := by decide +kernel
theorem dX3_tell_1 : decode cX3_tell 1 = .ok (.lookupswitch 123 #[(103, 112), (111, 89), (112, 43), (116, 66)], 43) := by decide +kernel
theorem dX3_tell_44 : decode cX3_tell 44 = .ok (.aload_n 1, 1) := by decide +kernel
theorem dX3_tell_45 : decode cX3_tell 45 = .ok (.aload_n 0, 1) := by decide +kernel
theorem dX3_tell_46 : decode cX3_tell 46 = .ok (.getfield 15, 3) := by decide +kernel
theorem dX3_tell_49 : decode cX3_tell 49 = .ok (.iconst 0, 1) := by decide +kernel
theorem dX3_tell_50 : decode cX3_tell 50 = .ok (.iaload, 1) := by decide +kernel
theorem dX3_tell_51 : decode cX3_tell 51 = .ok (.aload_n 0, 1) := by decide +kernel
theorem dX3_tell_52 : decode cX3_tell 52 = .ok (.getfield 15, 3) := by decide +kernel
theorem dX3_tell_55 : decode cX3_tell 55 = .ok (.iconst 1, 1) := by decide +kernel
theorem dX3_tell_56 : decode cX3_tell 56 = .ok (.iaload, 1) := by decide +kernel
theorem dX3_tell_57 : decode cX3_tell 57 = .ok (.aload_n 0, 1) := by decide +kernel
theorem dX3_tell_58 : decode cX3_tell 58 = .ok (.getfield 15, 3) := by decide +kernel
theorem dX3_tell_61 : decode cX3_tell 61 = .ok (.iconst 2, 1) := by decide +kernel
theorem dX3_tell_62 : decode cX3_tell 62 = .ok (.iaload, 1) := by decide +kernel
theorem dX3_tell_63 : decode cX3_tell 63 = .ok (.invokevirtual 54, 3) := by decide +kernel
theorem dX3_tell_66 : decode cX3_tell 66 = .ok (.ireturn, 1) := by decide +kernel
theorem dX3_tell_67 : decode cX3_tell 67 = .ok (.aload_n 1, 1) := by decide +kernel
theorem dX3_tell_68 : decode cX3_tell 68 = .ok (.aload_n 0, 1) := by decide +kernel
theorem dX3_tell_69 : decode cX3_tell 69 = .ok (.getfield 15, 3) := by decide +kernel
theorem dX3_tell_72 : decode cX3_tell 72 = .ok (.iconst 0, 1) := by decide +kernel
theorem dX3_tell_73 : decode cX3_tell 73 = .ok (.iaload, 1) := by decide +kernel
theorem dX3_tell_74 : decode cX3_tell 74 = .ok (.aload_n 0, 1) := by decide +kernel
theorem dX3_tell_75 : decode cX3_tell 75 = .ok (.getfield 15, 3) := by decide +kernel
theorem dX3_tell_78 : decode cX3_tell 78 = .ok (.iconst 1, 1) := by decide +kernel
theorem dX3_tell_79 : decode cX3_tell 79 = .ok (.iaload, 1) := by decide +kernel
theorem dX3_tell_80 : decode cX3_tell 80 = .ok (.aload_n 0, 1) := by decide +kernel
theorem dX3_tell_81 : decode cX3_tell 81 = .ok (.getfield 15, 3) := by decide +kernel
theorem dX3_tell_84 : decode cX3_tell 84 = .ok (.iconst 2, 1) := by decide +kernel
theorem dX3_tell_85 : decode cX3_tell 85 = .ok (.iaload, 1) := by decide +kernel
theorem dX3_tell_86 : decode cX3_tell 86 = .ok (.invokevirtual 58, 3) := by decide +kernel
theorem dX3_tell_89 : decode cX3_tell 89 = .ok (.ireturn, 1) := by decide +kernel
theorem dX3_tell_90 : decode cX3_tell 90 = .ok (.aload_n 1, 1) := by decide +kernel
theorem dX3_tell_91 : decode cX3_tell 91 = .ok (.aload_n 0, 1) := by decide +kernel
theorem dX3_tell_92 : decode cX3_tell 92 = .ok (.getfield 15, 3) := by decide +kernel
theorem dX3_tell_95 : decode cX3_tell 95 = .ok (.iconst 0, 1) := by decide +kernel
theorem dX3_tell_96 : decode cX3_tell 96 = .ok (.iaload, 1) := by decide +kernel
theorem dX3_tell_97 : decode cX3_tell 97 = .ok (.aload_n 0, 1) := by decide +kernel
theorem dX3_tell_98 : decode cX3_tell 98 = .ok (.getfield 15, 3) := by decide +kernel
theorem dX3_tell_101 : decode cX3_tell 101 = .ok (.iconst 1, 1) := by decide +kernel
theorem dX3_tell_102 : decode cX3_tell 102 = .ok (.iaload, 1) := by decide +kernel
theorem dX3_tell_103 : decode cX3_tell 103 = .ok (.aload_n 0, 1) := by decide +kernel
theorem dX3_tell_104 : decode cX3_tell 104 = .ok (.getfield 15, 3) := by decide +kernel
theorem dX3_tell_107 : decode cX3_tell 107 = .ok (.iconst 2, 1) := by decide +kernel
theorem dX3_tell_108 : decode cX3_tell 108 = .ok (.iaload, 1) := by decide +kernel
theorem dX3_tell_109 : decode cX3_tell 109 = .ok (.invokevirtual 61, 3) := by decide +kernel
theorem dX3_tell_112 : decode cX3_tell 112 = .ok (.ireturn, 1) := by decide +kernel
theorem dX3_tell_113 : decode cX3_tell 113 = .ok (.aload_n 1, 1) := by decide +kernel
theorem dX3_tell_114 : decode cX3_tell 114 = .ok (.aload_n 0, 1) := by decide +kernel
theorem dX3_tell_115 : decode cX3_tell 115 = .ok (.getfield 15, 3) := by decide +kernel
theorem dX3_tell_118 : decode cX3_tell 118 = .ok (.iconst 0, 1) := by decide +kernel
theorem dX3_tell_119 : decode cX3_tell 119 = .ok (.iaload, 1) := by decide +kernel
theorem dX3_tell_120 : decode cX3_tell 120 = .ok (.invokevirtual 64, 3) := by decide +kernel
theorem dX3_tell_123 : decode cX3_tell 123 = .ok (.ireturn, 1) := by decide +kernel
theorem dX3_tell_124 : decode cX3_tell 124 = .ok (.iconst 0, 1) := by decide +kernel
theorem dX3_tell_125 : decode cX3_tell 125 = .ok (.ireturn, 1) := by decide +kernel
theorem dX4_init_0 : decode cX4_init 0 = .ok (.aload_n 0, 1) := by decide +kernel
theorem dX4_init_1 : decode cX4_init 1 = .ok (.invokespecial 3, 3) := by decide +kernel
theorem dX4_init_4 : decode cX4_init 4 = .ok (.aload_n 0, 1) := by decide +kernel
theorem dX4_init_5 : decode cX4_init 5 = .ok (.bipush 6, 2) := by decide +kernel
theorem dX4_init_7 : decode cX4_init 7 = .ok (.newarray .int, 2) := by decide +kernel
theorem dX4_init_9 : decode cX4_init 9 = .ok (.putfield 9, 3) := by decide +kernel
theorem dX4_init_12 : decode cX4_init 12 = .ok (.aload_n 0, 1) := by decide +kernel
theorem dX4_init_13 : decode cX4_init 13 = .ok (.bipush 6, 2) := by decide +kernel
theorem dX4_init_15 : decode cX4_init 15 = .ok (.newarray .int, 2) := by decide +kernel
theorem dX4_init_17 : decode cX4_init 17 = .ok (.putfield 15, 3) := by decide +kernel
theorem dX4_init_20 : decode cX4_init 20 = .ok (.aload_n 0, 1) := by decide +kernel
theorem dX4_init_21 : decode cX4_init 21 = .ok (.bipush 6, 2) := by decide +kernel
theorem dX4_init_23 : decode cX4_init 23 = .ok (.newarray .int, 2) := by decide +kernel
theorem dX4_init_25 : decode cX4_init 25 = .ok (.putfield 18, 3) := by decide +kernel
theorem dX4_init_28 : decode cX4_init 28 = .ok (.aload_n 0, 1) := by decide +kernel
theorem dX4_init_29 : decode cX4_init 29 = .ok (.bipush 36, 2) := by decide +kernel
theorem dX4_init_31 : decode cX4_init 31 = .ok (.newarray .int, 2) := by decide +kernel
theorem dX4_init_33 : decode cX4_init 33 = .ok (.putfield 21, 3) := by decide +kernel
theorem dX4_init_36 : decode cX4_init 36 = .ok (.aload_n 0, 1) := by decide +kernel
theorem dX4_init_37 : decode cX4_init 37 = .ok (.bipush 36, 2) := by decide +kernel
theorem dX4_init_39 : decode cX4_init 39 = .ok (.newarray .int, 2) := by decide +kernel
theorem dX4_init_41 : decode cX4_init 41 = .ok (.putfield 24, 3) := by decide +kernel
theorem dX4_init_44 : decode cX4_init 44 = .ok (.aload_n 0, 1) := by decide +kernel
theorem dX4_init_45 : decode cX4_init 45 = .ok (.iconst 0, 1) := by decide +kernel
theorem dX4_init_46 : decode cX4_init 46 = .ok (.putfield 27, 3) := by decide +kernel
theorem dX4_init_49 : decode cX4_init 49 = .ok (.aload_n 0, 1) := by decide +kernel
theorem dX4_init_50 : decode cX4_init 50 = .ok (.bipush 50, 2) := by decide +kernel
theorem dX4_init_52 : decode cX4_init 52 = .ok (.putfield 31, 3) := by decide +kernel
theorem dX4_init_55 : decode cX4_init 55 = .ok (.aload_n 0, 1) := by decide +kernel
theorem dX4_init_56 : decode cX4_init 56 = .ok (.iconst 0, 1) := by decide +kernel
theorem dX4_init_57 : decode cX4_init 57 = .ok (.putfield 34, 3) := by decide +kernel
theorem dX4_init_60 : decode cX4_init 60 = .ok (.aload_n 0, 1) := by decide +kernel
theorem dX4_init_61 : decode cX4_init 61 = .ok (.iconst 0, 1) := by decide +kernel
theorem dX4_init_62 : decode cX4_init 62 = .ok (.putfield 37, 3) := by decide +kernel
theorem dX4_init_65 : decode cX4_init 65 = .ok (.aload_n 0, 1) := by decide +kernel
theorem dX4_init_66 : decode cX4_init 66 = .ok (.iconst 0, 1) := by decide +kernel
theorem dX4_init_67 : decode cX4_init 67 = .ok (.putfield 40, 3) := by decide +kernel
theorem dX4_init_70 : decode cX4_init 70 = .ok (.aload_n 0, 1) := by decide +kernel
theorem dX4_init_71 : decode cX4_init 71 = .ok (.iconst 0, 1) := by decide +kernel
theorem dX4_init_72 : decode cX4_init 72 = .ok (.putfield 43, 3) := by decide +kernel
theorem dX4_init_75 : decode cX4_init 75 = .ok (.return_, 1) := by decide +kernel
theorem dX4_empty_0 : decode cX4_empty 0 = .ok (.iconst 0, 1) := by decide +kernel
theorem dX4_empty_1 : decode cX4_empty 1 = .ok (.istore_n 1, 1) := by decide +kernel
theorem dX4_empty_2 : decode cX4_empty 2 = .ok (.iload_n 1, 1) := by decide +kernel
theorem dX4_empty_3 : decode cX4_empty 3 = .ok (.bipush 6, 2) := by decide +kernel
theorem dX4_empty_5 : decode cX4_empty 5 = .ok (.if_icmp .ge 30, 3) := by decide +kernel
theorem dX4_empty_8 : decode cX4_empty 8 = .ok (.aload_n 0, 1) := by decide +kernel
theorem dX4_empty_9 : decode cX4_empty 9 = .ok (.getfield 9, 3) := by decide +kernel
theorem dX4_empty_12 : decode cX4_empty 12 = .ok (.iload_n 1, 1) := by decide +kernel
theorem dX4_empty_13 : decode cX4_empty 13 = .ok (.iconst 0, 1) := by decide +kernel
theorem dX4_empty_14 : decode cX4_empty 14 = .ok (.iastore, 1) := by decide +kernel
theorem dX4_empty_15 : decode cX4_empty 15 = .ok (.aload_n 0, 1) := by decide +kernel
theorem dX4_empty_16 : decode cX4_empty 16 = .ok (.getfield 15, 3) := by decide +kernel
theorem dX4_empty_19 : decode cX4_empty 19 = .ok (.iload_n 1, 1) := by decide +kernel
theorem dX4_empty_20 : decode cX4_empty 20 = .ok (.iconst 0, 1) := by decide +kernel
theorem dX4_empty_21 : decode cX4_empty 21 = .ok (.iastore, 1) := by decide +kernel
theorem dX4_empty_22 : decode cX4_empty 22 = .ok (.aload_n 0, 1) := by decide +kernel
theorem dX4_empty_23 : decode cX4_empty 23 = .ok (.getfield 18, 3) := by decide +kernel
theorem dX4_empty_26 : decode cX4_empty 26 = .ok (.iload_n 1, 1) := by decide +kernel
theorem dX4_empty_27 : decode cX4_empty 27 = .ok (.iconst 0, 1) := by decide +kernel
theorem dX4_empty_28 : decode cX4_empty 28 = .ok (.iastore, 1) := by decide +kernel
theorem dX4_empty_29 : decode cX4_empty 29 = .ok (.iinc 1 1, 3) := by decide +kernel
theorem dX4_empty_32 : decode cX4_empty 32 = .ok (.goto (-30), 3) := by decide +kernel
theorem dX4_empty_35 : decode cX4_empty 35 = .ok (.iconst 0, 1) := by decide +kernel
theorem dX4_empty_36 : decode cX4_empty 36 = .ok (.istore_n 1, 1) := by decide +kernel
theorem dX4_empty_37 : decode cX4_empty 37 = .ok (.iload_n 1, 1) := by decide +kernel
theorem dX4_empty_38 : decode cX4_empty 38 = .ok (.bipush 36, 2) := by decide +kernel
theorem dX4_empty_40 : decode cX4_empty 40 = .ok (.if_icmp .ge 23, 3) := by decide +kernel
theorem dX4_empty_43 : decode cX4_empty 43 = .ok (.aload_n 0, 1) := by decide +kernel
theorem dX4_empty_44 : decode cX4_empty 44 = .ok (.getfield 21, 3) := by decide +kernel
theorem dX4_empty_47 : decode cX4_empty 47 = .ok (.iload_n 1, 1) := by decide +kernel
theorem dX4_empty_48 : decode cX4_empty 48 = .ok (.iconst 0, 1) := by decide +kernel
theorem dX4_empty_49 : decode cX4_empty 49 = .ok (.iastore, 1) := by decide +kernel
theorem dX4_empty_50 : decode cX4_empty 50 = .ok (.aload_n 0, 1) := by decide +kernel
theorem dX4_empty_51 : decode cX4_empty 51 = .ok (.getfield 24, 3) := by decide +kernel
theorem dX4_empty_54 : decode cX4_empty 54 = .ok (.iload_n 1, 1) := by decide +kernel
theorem dX4_empty_55 : decode cX4_empty 55 = .ok (.iconst 0, 1) := by decide +kernel
theorem dX4_empty_56 : decode cX4_empty 56 = .ok (.iastore, 1) := by decide +kernel
theorem dX4_empty_57 : decode cX4_empty 57 = .ok (.iinc 1 1, 3) := by decide +kernel
theorem dX4_empty_60 : decode cX4_empty 60 = .ok (.goto (-23), 3) := by decide +kernel
theorem dX4_empty_63 : decode cX4_empty 63 = .ok (.aload_n 0, 1) := by decide +kernel
theorem dX4_empty_64 : decode cX4_empty 64 = .ok (.iconst 0, 1) := by decide +kernel
theorem dX4_empty_65 : decode cX4_empty 65 = .ok (.putfield 27, 3) := by decide +kernel
theorem dX4_empty_68 : decode cX4_empty 68 = .ok (.aload_n 0, 1) := by decide +kernel
theorem dX4_empty_69 : decode cX4_empty 69 = .ok (.bipush 50, 2) := by decide +kernel
theorem dX4_empty_71 : decode cX4_empty 71 = .ok (.putfield 31, 3) := by decide +kernel
theorem dX4_empty_74 : decode cX4_empty 74 = .ok (.aload_n 0, 1) := by decide +kernel
theorem dX4_empty_75 : decode cX4_empty 75 = .ok (.iconst 0, 1) := by decide +kernel
theorem dX4_empty_76 : decode cX4_empty 76 = .ok (.putfield 34, 3) := by decide +kernel
theorem dX4_empty_79 : decode cX4_empty 79 = .ok (.aload_n 0, 1) := by decide +kernel
theorem dX4_empty_80 : decode cX4_empty 80 = .ok (.iconst 0, 1) := by decide +kernel
theorem dX4_empty_81 : decode cX4_empty 81 = .ok (.putfield 37, 3) := by decide +kernel
theorem dX4_empty_84 : decode cX4_empty 84 = .ok (.aload_n 0, 1) := by decide +kernel
theorem dX4_empty_85 : decode cX4_empty 85 = .ok (.iconst 0, 1) := by decide +kernel
theorem dX4_empty_86 : decode cX4_empty 86 = .ok (.putfield 40, 3) := by decide +kernel
theorem dX4_empty_89 : decode cX4_empty 89 = .ok (.aload_n 0, 1) := by decide +kernel
theorem dX4_empty_90 : decode cX4_empty 90 = .ok (.iconst 0, 1) := by decide +kernel
theorem dX4_empty_91 : decode cX4_empty 91 = .ok (.putfield 43, 3) := by decide +kernel
theorem dX4_empty_94 : decode cX4_empty 94 = .ok (.return_, 1) := by decide +kernel
theorem dX4_copyFrom_0 : decode cX4_copyFrom 0 = .ok (.aload_n 1, 1) := by decide +kernel
theorem dX4_copyFrom_1 : decode cX4_copyFrom 1 = .ok (.getfield 9, 3) := by decide +kernel
theorem dX4_copyFrom_4 : decode cX4_copyFrom 4 = .ok (.iconst 0, 1) := by decide +kernel
theorem dX4_copyFrom_5 : decode cX4_copyFrom 5 = .ok (.aload_n 0, 1) := by decide +kernel
theorem dX4_copyFrom_6 : decode cX4_copyFrom 6 = .ok (.getfield 9, 3) := by decide +kernel
theorem dX4_copyFrom_9 : decode cX4_copyFrom 9 = .ok (.iconst 0, 1) := by decide +kernel
theorem dX4_copyFrom_10 : decode cX4_copyFrom 10 = .ok (.bipush 6, 2) := by decide +kernel
theorem dX4_copyFrom_12 : decode cX4_copyFrom 12 = .ok (.invokestatic 46, 3) := by decide +kernel
theorem dX4_copyFrom_15 : decode cX4_copyFrom 15 = .ok (.aload_n 1, 1) := by decide +kernel
theorem dX4_copyFrom_16 : decode cX4_copyFrom 16 = .ok (.getfield 15, 3) := by decide +kernel
theorem dX4_copyFrom_19 : decode cX4_copyFrom 19 = .ok (.iconst 0, 1) := by decide +kernel
theorem dX4_copyFrom_20 : decode cX4_copyFrom 20 = .ok (.aload_n 0, 1) := by decide +kernel
theorem dX4_copyFrom_21 : decode cX4_copyFrom 21 = .ok (.getfield 15, 3) := by decide +kernel
theorem dX4_copyFrom_24 : decode cX4_copyFrom 24 = .ok (.iconst 0, 1) := by decide +kernel
theorem dX4_copyFrom_25 : decode cX4_copyFrom 25 = .ok (.bipush 6, 2) := by decide +kernel
theorem dX4_copyFrom_27 : decode cX4_copyFrom 27 = .ok (.invokestatic 46, 3) := by decide +kernel
theorem dX4_copyFrom_30 : decode cX4_copyFrom 30 = .ok (.aload_n 1, 1) := by decide +kernel
theorem dX4_copyFrom_31 : decode cX4_copyFrom 31 = .ok (.getfield 18, 3) := by decide +kernel
theorem dX4_copyFrom_34 : decode cX4_copyFrom 34 = .ok (.iconst 0, 1) := by decide +kernel
theorem dX4_copyFrom_35 : decode cX4_copyFrom 35 = .ok (.aload_n 0, 1) := by decide +kernel
theorem dX4_copyFrom_36 : decode cX4_copyFrom 36 = .ok (.getfield 18, 3) := by decide +kernel
theorem dX4_copyFrom_39 : decode cX4_copyFrom 39 = .ok (.iconst 0, 1) := by decide +kernel
theorem dX4_copyFrom_40 : decode cX4_copyFrom 40 = .ok (.bipush 6, 2) := by decide +kernel
theorem dX4_copyFrom_42 : decode cX4_copyFrom 42 = .ok (.invokestatic 46, 3) := by decide +kernel
theorem dX4_copyFrom_45 : decode cX4_copyFrom 45 = .ok (.aload_n 1, 1) := by decide +kernel
theorem dX4_copyFrom_46 : decode cX4_copyFrom 46 = .ok (.getfield 21, 3) := by decide +kernel
theorem dX4_copyFrom_49 : decode cX4_copyFrom 49 = .ok (.iconst 0, 1) := by decide +kernel
theorem dX4_copyFrom_50 : decode cX4_copyFrom 50 = .ok (.aload_n 0, 1) := by decide +kernel
theorem dX4_copyFrom_51 : decode cX4_copyFrom 51 = .ok (.getfield 21, 3) := by decide +kernel
theorem dX4_copyFrom_54 : decode cX4_copyFrom 54 = .ok (.iconst 0, 1) := by decide +kernel
theorem dX4_copyFrom_55 : decode cX4_copyFrom 55 = .ok (.bipush 36, 2) := by decide +kernel
theorem dX4_copyFrom_57 : decode cX4_copyFrom 57 = .ok (.invokestatic 46, 3) := by decide +kernel
theorem dX4_copyFrom_60 : decode cX4_copyFrom 60 = .ok (.aload_n 1, 1) := by decide +kernel
theorem dX4_copyFrom_61 : decode cX4_copyFrom 61 = .ok (.getfield 24, 3) := by decide +kernel
theorem dX4_copyFrom_64 : decode cX4_copyFrom 64 = .ok (.iconst 0, 1) := by decide +kernel
theorem dX4_copyFrom_65 : decode cX4_copyFrom 65 = .ok (.aload_n 0, 1) := by decide +kernel
theorem dX4_copyFrom_66 : decode cX4_copyFrom 66 = .ok (.getfield 24, 3) := by decide +kernel
theorem dX4_copyFrom_69 : decode cX4_copyFrom 69 = .ok (.iconst 0, 1) := by decide +kernel
theorem dX4_copyFrom_70 : decode cX4_copyFrom 70 = .ok (.bipush 36, 2) := by decide +kernel
theorem dX4_copyFrom_72 : decode cX4_copyFrom 72 = .ok (.invokestatic 46, 3) := by decide +kernel
theorem dX4_copyFrom_75 : decode cX4_copyFrom 75 = .ok (.aload_n 0, 1) := by decide +kernel
theorem dX4_copyFrom_76 : decode cX4_copyFrom 76 = .ok (.aload_n 1, 1) := by decide +kernel
theorem dX4_copyFrom_77 : decode cX4_copyFrom 77 = .ok (.getfield 27, 3) := by decide +kernel
theorem dX4_copyFrom_80 : decode cX4_copyFrom 80 = .ok (.putfield 27, 3) := by decide +kernel
theorem dX4_copyFrom_83 : decode cX4_copyFrom 83 = .ok (.aload_n 0, 1) := by decide +kernel
theorem dX4_copyFrom_84 : decode cX4_copyFrom 84 = .ok (.aload_n 1, 1) := by decide +kernel
theorem dX4_copyFrom_85 : decode cX4_copyFrom 85 = .ok (.getfield 31, 3) := by decide +kernel
theorem dX4_copyFrom_88 : decode cX4_copyFrom 88 = .ok (.putfield 31, 3) := by decide +kernel
theorem dX4_copyFrom_91 : decode cX4_copyFrom 91 = .ok (.aload_n 0, 1) := by decide +kernel
theorem dX4_copyFrom_92 : decode cX4_copyFrom 92 = .ok (.aload_n 1, 1) := by decide +kernel
theorem dX4_copyFrom_93 : decode cX4_copyFrom 93 = .ok (.getfield 34, 3) := by decide +kernel
theorem dX4_copyFrom_96 : decode cX4_copyFrom 96 = .ok (.putfield 34, 3) := by decide +kernel
theorem dX4_copyFrom_99 : decode cX4_copyFrom 99 = .ok (.aload_n 0, 1) := by decide +kernel
theorem dX4_copyFrom_100 : decode cX4_copyFrom 100 = .ok (.aload_n 1, 1) := by decide +kernel
theorem dX4_copyFrom_101 : decode cX4_copyFrom 101 = .ok (.getfield 37, 3) := by decide +kernel
theorem dX4_copyFrom_104 : decode cX4_copyFrom 104 = .ok (.putfield 37, 3) := by decide +kernel
theorem dX4_copyFrom_107 : decode cX4_copyFrom 107 = .ok (.aload_n 0, 1) := by decide +kernel
theorem dX4_copyFrom_108 : decode cX4_copyFrom 108 = .ok (.aload_n 1, 1) := by decide +kernel
theorem dX4_copyFrom_109 : decode cX4_copyFrom 109 = .ok (.getfield 40, 3) := by decide +kernel
theorem dX4_copyFrom_112 : decode cX4_copyFrom 112 = .ok (.putfield 40, 3) := by decide +kernel
theorem dX4_copyFrom_115 : decode cX4_copyFrom 115 = .ok (.aload_n 0, 1) := by decide +kernel
theorem dX4_copyFrom_116 : decode cX4_copyFrom 116 = .ok (.aload_n 1, 1) := by decide +kernel
theorem dX4_copyFrom_117 : decode cX4_copyFrom 117 = .ok (.getfield 43, 3) := by decide +kernel
theorem dX4_copyFrom_120 : decode cX4_copyFrom 120 = .ok (.putfield 43, 3) := by decide +kernel
theorem dX4_copyFrom_123 : decode cX4_copyFrom 123 = .ok (.return_, 1) := by decide +kernel
theorem dX4_isLike_0 : decode cX4_isLike 0 = .ok (.aload_n 0, 1) := by decide +kernel
theorem dX4_isLike_1 : decode cX4_isLike 1 = .ok (.getfield 27, 3) := by decide +kernel
theorem dX4_isLike_4 : decode cX4_isLike 4 = .ok (.aload_n 1, 1) := by decide +kernel
theorem dX4_isLike_5 : decode cX4_isLike 5 = .ok (.getfield 27, 3) := by decide +kernel
theorem dX4_isLike_8 : decode cX4_isLike 8 = .ok (.if_icmp .ne 132, 3) := by decide +kernel
theorem dX4_isLike_11 : decode cX4_isLike 11 = .ok (.aload_n 0, 1) := by decide +kernel
theorem dX4_isLike_12 : decode cX4_isLike 12 = .ok (.getfield 31, 3) := by decide +kernel
theorem dX4_isLike_15 : decode cX4_isLike 15 = .ok (.aload_n 1, 1) := by decide +kernel
theorem dX4_isLike_16 : decode cX4_isLike 16 = .ok (.getfield 31, 3) := by decide +kernel
theorem dX4_isLike_19 : decode cX4_isLike 19 = .ok (.if_icmp .ne 121, 3) := by decide +kernel
theorem dX4_isLike_22 : decode cX4_isLike 22 = .ok (.aload_n 0, 1) := by decide +kernel
theorem dX4_isLike_23 : decode cX4_isLike 23 = .ok (.getfield 34, 3) := by decide +kernel
theorem dX4_isLike_26 : decode cX4_isLike 26 = .ok (.aload_n 1, 1) := by decide +kernel
theorem dX4_isLike_27 : decode cX4_isLike 27 = .ok (.getfield 34, 3) := by decide +kernel
theorem dX4_isLike_30 : decode cX4_isLike 30 = .ok (.if_icmp .ne 110, 3) := by decide +kernel
theorem dX4_isLike_33 : decode cX4_isLike 33 = .ok (.aload_n 0, 1) := by decide +kernel
theorem dX4_isLike_34 : decode cX4_isLike 34 = .ok (.getfield 37, 3) := by decide +kernel
theorem dX4_isLike_37 : decode cX4_isLike 37 = .ok (.aload_n 1, 1) := by decide +kernel
theorem dX4_isLike_38 : decode cX4_isLike 38 = .ok (.getfield 37, 3) := by decide +kernel
theorem dX4_isLike_41 : decode cX4_isLike 41 = .ok (.if_icmp .ne 99, 3) := by decide +kernel
theorem dX4_isLike_44 : decode cX4_isLike 44 = .ok (.aload_n 0, 1) := by decide +kernel
theorem dX4_isLike_45 : decode cX4_isLike 45 = .ok (.getfield 40, 3) := by decide +kernel
theorem dX4_isLike_48 : decode cX4_isLike 48 = .ok (.aload_n 1, 1) := by decide +kernel
theorem dX4_isLike_49 : decode cX4_isLike 49 = .ok (.getfield 40, 3) := by decide +kernel
theorem dX4_isLike_52 : decode cX4_isLike 52 = .ok (.if_icmp .ne 88, 3) := by decide +kernel
theorem dX4_isLike_55 : decode cX4_isLike 55 = .ok (.aload_n 0, 1) := by decide +kernel
theorem dX4_isLike_56 : decode cX4_isLike 56 = .ok (.getfield 43, 3) := by decide +kernel
theorem dX4_isLike_59 : decode cX4_isLike 59 = .ok (.aload_n 1, 1) := by decide +kernel
theorem dX4_isLike_60 : decode cX4_isLike 60 = .ok (.getfield 43, 3) := by decide +kernel
theorem dX4_isLike_63 : decode cX4_isLike 63 = .ok (.if_icmp .ne 77, 3) := by decide +kernel
theorem dX4_isLike_66 : decode cX4_isLike 66 = .ok (.aload_n 0, 1) := by decide +kernel
theorem dX4_isLike_67 : decode cX4_isLike 67 = .ok (.getfield 9, 3) := by decide +kernel
theorem dX4_isLike_70 : decode cX4_isLike 70 = .ok (.aload_n 1, 1) := by decide +kernel
theorem dX4_isLike_71 : decode cX4_isLike 71 = .ok (.getfield 9, 3) := by decide +kernel
theorem dX4_isLike_74 : decode cX4_isLike 74 = .ok (.invokestatic 52, 3) := by decide +kernel
theorem dX4_isLike_77 : decode cX4_isLike 77 = .ok (.ifCond .eq 63, 3) := by decide +kernel
theorem dX4_isLike_80 : decode cX4_isLike 80 = .ok (.aload_n 0, 1) := by decide +kernel
theorem dX4_isLike_81 : decode cX4_isLike 81 = .ok (.getfield 15, 3) := by decide +kernel
theorem dX4_isLike_84 : decode cX4_isLike 84 = .ok (.aload_n 1, 1) := by decide +kernel
theorem dX4_isLike_85 : decode cX4_isLike 85 = .ok (.getfield 15, 3) := by decide +kernel
theorem dX4_isLike_88 : decode cX4_isLike 88 = .ok (.invokestatic 52, 3) := by decide +kernel
theorem dX4_isLike_91 : decode cX4_isLike 91 = .ok (.ifCond .eq 49, 3) := by decide +kernel
theorem dX4_isLike_94 : decode cX4_isLike 94 = .ok (.aload_n 0, 1) := by decide +kernel
theorem dX4_isLike_95 : decode cX4_isLike 95 = .ok (.getfield 18, 3) := by decide +kernel
theorem dX4_isLike_98 : decode cX4_isLike 98 = .ok (.aload_n 1, 1) := by decide +kernel
theorem dX4_isLike_99 : decode cX4_isLike 99 = .ok (.getfield 18, 3) := by decide +kernel
theorem dX4_isLike_102 : decode cX4_isLike 102 = .ok (.invokestatic 52, 3) := by decide +kernel
theorem dX4_isLike_105 : decode cX4_isLike 105 = .ok (.ifCond .eq 35, 3) := by decide +kernel
theorem dX4_isLike_108 : decode cX4_isLike 108 = .ok (.aload_n 0, 1) := by decide +kernel
theorem dX4_isLike_109 : decode cX4_isLike 109 = .ok (.getfield 21, 3) := by decide +kernel
theorem dX4_isLike_112 : decode cX4_isLike 112 = .ok (.aload_n 1, 1) := by decide +kernel
theorem dX4_isLike_113 : decode cX4_isLike 113 = .ok (.getfield 21, 3) := by decide +kernel
theorem dX4_isLike_116 : decode cX4_isLike 116 = .ok (.invokestatic 52, 3) := by decide +kernel
theorem dX4_isLike_119 : decode cX4_isLike 119 = .ok (.ifCond .eq 21, 3) := by decide +kernel
theorem dX4_isLike_122 : decode cX4_isLike 122 = .ok (.aload_n 0, 1) := by decide +kernel
theorem dX4_isLike_123 : decode cX4_isLike 123 = .ok (.getfield 24, 3) := by decide +kernel
theorem dX4_isLike_126 : decode cX4_isLike 126 = .ok (.aload_n 1, 1) := by decide +kernel
theorem dX4_isLike_127 : decode cX4_isLike 127 = .ok (.getfield 24, 3) := by decide +kernel
theorem dX4_isLike_130 : decode cX4_isLike 130 = .ok (.invokestatic 52, 3) := by decide +kernel
theorem dX4_isLike_133 : decode cX4_isLike 133 = .ok (.ifCond .eq 7, 3) := by decide +kernel
theorem dX4_isLike_136 : decode cX4_isLike 136 = .ok (.iconst 1, 1) := by decide +kernel
theorem dX4_isLike_137 : decode cX4_isLike 137 = .ok (.goto 4, 3) := by decide +kernel
theorem dX4_isLike_140 : decode cX4_isLike 140 = .ok (.iconst 0, 1) := by decide +kernel
theorem dX4_isLike_141 : decode cX4_isLike 141 = .ok (.ireturn, 1) := by decide +kernel
theorem dX4_tellPerson_0 : decode cX4_tellPerson 0 = .ok (.aload_n 0, 1) := by decide +kernel
theorem dX4_tellPerson_1 : decode cX4_tellPerson 1 = .ok (.getfield 27, 3) := by decide +kernel
theorem dX4_tellPerson_4 : decode cX4_tellPerson 4 = .ok (.bipush 6, 2) := by decide +kernel
theorem dX4_tellPerson_6 : decode cX4_tellPerson 6 = .ok (.if_icmp .ge 14, 3) := by decide +kernel
theorem dX4_tellPerson_9 : decode cX4_tellPerson 9 = .ok (.iload_n 1, 1) := by decide +kernel
theorem dX4_tellPerson_10 : decode cX4_tellPerson 10 = .ok (.iconst 4, 1) := by decide +kernel
theorem dX4_tellPerson_11 : decode cX4_tellPerson 11 = .ok (.if_icmp .gt 9, 3) := by decide +kernel
theorem dX4_tellPerson_14 : decode cX4_tellPerson 14 = .ok (.iload_n 3, 1) := by decide +kernel
theorem dX4_tellPerson_15 : decode cX4_tellPerson 15 = .ok (.bipush 60, 2) := by decide +kernel
theorem dX4_tellPerson_17 : decode cX4_tellPerson 17 = .ok (.if_icmp .le 5, 3) := by decide +kernel
theorem dX4_tellPerson_20 : decode cX4_tellPerson 20 = .ok (.iconst 0, 1) := by decide +kernel
theorem dX4_tellPerson_21 : decode cX4_tellPerson 21 = .ok (.ireturn, 1) := by decide +kernel
theorem dX4_tellPerson_22 : decode cX4_tellPerson 22 = .ok (.aload_n 0, 1) := by decide +kernel
theorem dX4_tellPerson_23 : decode cX4_tellPerson 23 = .ok (.getfield 9, 3) := by decide +kernel
theorem dX4_tellPerson_26 : decode cX4_tellPerson 26 = .ok (.aload_n 0, 1) := by decide +kernel
theorem dX4_tellPerson_27 : decode cX4_tellPerson 27 = .ok (.getfield 27, 3) := by decide +kernel
theorem dX4_tellPerson_30 : decode cX4_tellPerson 30 = .ok (.iload_n 1, 1) := by decide +kernel
theorem dX4_tellPerson_31 : decode cX4_tellPerson 31 = .ok (.iastore, 1) := by decide +kernel
theorem dX4_tellPerson_32 : decode cX4_tellPerson 32 = .ok (.aload_n 0, 1) := by decide +kernel
theorem dX4_tellPerson_33 : decode cX4_tellPerson 33 = .ok (.getfield 15, 3) := by decide +kernel
theorem dX4_tellPerson_36 : decode cX4_tellPerson 36 = .ok (.aload_n 0, 1) := by decide +kernel
theorem dX4_tellPerson_37 : decode cX4_tellPerson 37 = .ok (.getfield 27, 3) := by decide +kernel
theorem dX4_tellPerson_40 : decode cX4_tellPerson 40 = .ok (.iload_n 2, 1) := by decide +kernel
theorem dX4_tellPerson_41 : decode cX4_tellPerson 41 = .ok (.iastore, 1) := by decide +kernel
theorem dX4_tellPerson_42 : decode cX4_tellPerson 42 = .ok (.aload_n 0, 1) := by decide +kernel
theorem dX4_tellPerson_43 : decode cX4_tellPerson 43 = .ok (.getfield 18, 3) := by decide +kernel
theorem dX4_tellPerson_46 : decode cX4_tellPerson 46 = .ok (.aload_n 0, 1) := by decide +kernel
theorem dX4_tellPerson_47 : decode cX4_tellPerson 47 = .ok (.getfield 27, 3) := by decide +kernel
theorem dX4_tellPerson_50 : decode cX4_tellPerson 50 = .ok (.iload_n 3, 1) := by decide +kernel
theorem dX4_tellPerson_51 : decode cX4_tellPerson 51 = .ok (.iastore, 1) := by decide +kernel
theorem dX4_tellPerson_52 : decode cX4_tellPerson 52 = .ok (.aload_n 0, 1) := by decide +kernel
theorem dX4_tellPerson_53 : decode cX4_tellPerson 53 = .ok (.dup, 1) := by decide +kernel
theorem dX4_tellPerson_54 : decode cX4_tellPerson 54 = .ok (.getfield 27, 3) := by decide +kernel
theorem dX4_tellPerson_57 : decode cX4_tellPerson 57 = .ok (.iconst 1, 1) := by decide +kernel
theorem dX4_tellPerson_58 : decode cX4_tellPerson 58 = .ok (.iadd, 1) := by decide +kernel
theorem dX4_tellPerson_59 : decode cX4_tellPerson 59 = .ok (.putfield 27, 3) := by decide +kernel
theorem dX4_tellPerson_62 : decode cX4_tellPerson 62 = .ok (.iconst 1, 1) := by decide +kernel
theorem dX4_tellPerson_63 : decode cX4_tellPerson 63 = .ok (.ireturn, 1) := by decide +kernel
theorem dX4_tellTie_0 : decode cX4_tellTie 0 = .ok (.aload_n 0, 1) := by decide +kernel
theorem dX4_tellTie_1 : decode cX4_tellTie 1 = .ok (.iload_n 1, 1) := by decide +kernel
theorem dX4_tellTie_2 : decode cX4_tellTie 2 = .ok (.iload_n 2, 1) := by decide +kernel
theorem dX4_tellTie_3 : decode cX4_tellTie 3 = .ok (.invokevirtual 56, 3) := by decide +kernel
theorem dX4_tellTie_6 : decode cX4_tellTie 6 = .ok (.ifCond .eq 9, 3) := by decide +kernel
theorem dX4_tellTie_9 : decode cX4_tellTie 9 = .ok (.iload_n 3, 1) := by decide +kernel
theorem dX4_tellTie_10 : decode cX4_tellTie 10 = .ok (.bipush 9, 2) := by decide +kernel
theorem dX4_tellTie_12 : decode cX4_tellTie 12 = .ok (.if_icmp .le 5, 3) := by decide +kernel
theorem dX4_tellTie_15 : decode cX4_tellTie 15 = .ok (.iconst 0, 1) := by decide +kernel
theorem dX4_tellTie_16 : decode cX4_tellTie 16 = .ok (.ireturn, 1) := by decide +kernel
theorem dX4_tellTie_17 : decode cX4_tellTie 17 = .ok (.aload_n 0, 1) := by decide +kernel
theorem dX4_tellTie_18 : decode cX4_tellTie 18 = .ok (.getfield 21, 3) := by decide +kernel
theorem dX4_tellTie_21 : decode cX4_tellTie 21 = .ok (.aload_n 0, 1) := by decide +kernel
theorem dX4_tellTie_22 : decode cX4_tellTie 22 = .ok (.iload_n 1, 1) := by decide +kernel
theorem dX4_tellTie_23 : decode cX4_tellTie 23 = .ok (.iload_n 2, 1) := by decide +kernel
theorem dX4_tellTie_24 : decode cX4_tellTie 24 = .ok (.invokevirtual 60, 3) := by decide +kernel
theorem dX4_tellTie_27 : decode cX4_tellTie 27 = .ok (.iload_n 3, 1) := by decide +kernel
theorem dX4_tellTie_28 : decode cX4_tellTie 28 = .ok (.iconst 4, 1) := by decide +kernel
theorem dX4_tellTie_29 : decode cX4_tellTie 29 = .ok (.isub, 1) := by decide +kernel
theorem dX4_tellTie_30 : decode cX4_tellTie 30 = .ok (.iastore, 1) := by decide +kernel
theorem dX4_tellTie_31 : decode cX4_tellTie 31 = .ok (.iconst 1, 1) := by decide +kernel
theorem dX4_tellTie_32 : decode cX4_tellTie 32 = .ok (.ireturn, 1) := by decide +kernel
theorem dX4_tellDebt_0 : decode cX4_tellDebt 0 = .ok (.aload_n 0, 1) := by decide +kernel
theorem dX4_tellDebt_1 : decode cX4_tellDebt 1 = .ok (.iload_n 1, 1) := by decide +kernel
theorem dX4_tellDebt_2 : decode cX4_tellDebt 2 = .ok (.iload_n 2, 1) := by decide +kernel
theorem dX4_tellDebt_3 : decode cX4_tellDebt 3 = .ok (.invokevirtual 56, 3) := by decide +kernel
theorem dX4_tellDebt_6 : decode cX4_tellDebt 6 = .ok (.ifCond .eq 9, 3) := by decide +kernel
theorem dX4_tellDebt_9 : decode cX4_tellDebt 9 = .ok (.iload_n 3, 1) := by decide +kernel
theorem dX4_tellDebt_10 : decode cX4_tellDebt 10 = .ok (.bipush 60, 2) := by decide +kernel
theorem dX4_tellDebt_12 : decode cX4_tellDebt 12 = .ok (.if_icmp .le 5, 3) := by decide +kernel
theorem dX4_tellDebt_15 : decode cX4_tellDebt 15 = .ok (.iconst 0, 1) := by decide +kernel
theorem dX4_tellDebt_16 : decode cX4_tellDebt 16 = .ok (.ireturn, 1) := by decide +kernel
theorem dX4_tellDebt_17 : decode cX4_tellDebt 17 = .ok (.aload_n 0, 1) := by decide +kernel
theorem dX4_tellDebt_18 : decode cX4_tellDebt 18 = .ok (.getfield 24, 3) := by decide +kernel
theorem dX4_tellDebt_21 : decode cX4_tellDebt 21 = .ok (.aload_n 0, 1) := by decide +kernel
theorem dX4_tellDebt_22 : decode cX4_tellDebt 22 = .ok (.iload_n 1, 1) := by decide +kernel
theorem dX4_tellDebt_23 : decode cX4_tellDebt 23 = .ok (.iload_n 2, 1) := by decide +kernel
theorem dX4_tellDebt_24 : decode cX4_tellDebt 24 = .ok (.invokevirtual 60, 3) := by decide +kernel
theorem dX4_tellDebt_27 : decode cX4_tellDebt 27 = .ok (.iload_n 3, 1) := by decide +kernel
theorem dX4_tellDebt_28 : decode cX4_tellDebt 28 = .ok (.iastore, 1) := by decide +kernel
theorem dX4_tellDebt_29 : decode cX4_tellDebt 29 = .ok (.iconst 1, 1) := by decide +kernel
theorem dX4_tellDebt_30 : decode cX4_tellDebt 30 = .ok (.ireturn, 1) := by decide +kernel
theorem dX4_tellTrialAge_0 : decode cX4_tellTrialAge 0 = .ok (.iload_n 1, 1) := by decide +kernel
theorem dX4_tellTrialAge_1 : decode cX4_tellTrialAge 1 = .ok (.iconst 1, 1) := by decide +kernel
theorem dX4_tellTrialAge_2 : decode cX4_tellTrialAge 2 = .ok (.if_icmp .ge 5, 3) := by decide +kernel
theorem dX4_tellTrialAge_5 : decode cX4_tellTrialAge 5 = .ok (.iconst 0, 1) := by decide +kernel
theorem dX4_tellTrialAge_6 : decode cX4_tellTrialAge 6 = .ok (.ireturn, 1) := by decide +kernel
theorem dX4_tellTrialAge_7 : decode cX4_tellTrialAge 7 = .ok (.aload_n 0, 1) := by decide +kernel
theorem dX4_tellTrialAge_8 : decode cX4_tellTrialAge 8 = .ok (.iload_n 1, 1) := by decide +kernel
theorem dX4_tellTrialAge_9 : decode cX4_tellTrialAge 9 = .ok (.putfield 31, 3) := by decide +kernel
theorem dX4_tellTrialAge_12 : decode cX4_tellTrialAge 12 = .ok (.iconst 1, 1) := by decide +kernel
theorem dX4_tellTrialAge_13 : decode cX4_tellTrialAge 13 = .ok (.ireturn, 1) := by decide +kernel
theorem dX4_has_0 : decode cX4_has 0 = .ok (.iload_n 1, 1) := by decide +kernel
theorem dX4_has_1 : decode cX4_has 1 = .ok (.ifCond .lt 15, 3) := by decide +kernel
theorem dX4_has_4 : decode cX4_has 4 = .ok (.iload_n 1, 1) := by decide +kernel
theorem dX4_has_5 : decode cX4_has 5 = .ok (.aload_n 0, 1) := by decide +kernel
theorem dX4_has_6 : decode cX4_has 6 = .ok (.getfield 27, 3) := by decide +kernel
theorem dX4_has_9 : decode cX4_has 9 = .ok (.if_icmp .ge 7, 3) := by decide +kernel
theorem dX4_has_12 : decode cX4_has 12 = .ok (.iconst 1, 1) := by decide +kernel
theorem dX4_has_13 : decode cX4_has 13 = .ok (.goto 4, 3) := by decide +kernel
theorem dX4_has_16 : decode cX4_has 16 = .ok (.iconst 0, 1) := by decide +kernel
theorem dX4_has_17 : decode cX4_has 17 = .ok (.ireturn, 1) := by decide +kernel
theorem dX4_hasTwo_0 : decode cX4_hasTwo 0 = .ok (.aload_n 0, 1) := by decide +kernel
theorem dX4_hasTwo_1 : decode cX4_hasTwo 1 = .ok (.iload_n 1, 1) := by decide +kernel
theorem dX4_hasTwo_2 : decode cX4_hasTwo 2 = .ok (.invokevirtual 64, 3) := by decide +kernel
theorem dX4_hasTwo_5 : decode cX4_hasTwo 5 = .ok (.ifCond .eq 20, 3) := by decide +kernel
theorem dX4_hasTwo_8 : decode cX4_hasTwo 8 = .ok (.aload_n 0, 1) := by decide +kernel
theorem dX4_hasTwo_9 : decode cX4_hasTwo 9 = .ok (.iload_n 2, 1) := by decide +kernel
theorem dX4_hasTwo_10 : decode cX4_hasTwo 10 = .ok (.invokevirtual 64, 3) := by decide +kernel
theorem dX4_hasTwo_13 : decode cX4_hasTwo 13 = .ok (.ifCond .eq 12, 3) := by decide +kernel
theorem dX4_hasTwo_16 : decode cX4_hasTwo 16 = .ok (.iload_n 1, 1) := by decide +kernel
theorem dX4_hasTwo_17 : decode cX4_hasTwo 17 = .ok (.iload_n 2, 1) := by decide +kernel
theorem dX4_hasTwo_18 : decode cX4_hasTwo 18 = .ok (.if_icmp .eq 7, 3) := by decide +kernel
theorem dX4_hasTwo_21 : decode cX4_hasTwo 21 = .ok (.iconst 1, 1) := by decide +kernel
theorem dX4_hasTwo_22 : decode cX4_hasTwo 22 = .ok (.goto 4, 3) := by decide +kernel
theorem dX4_hasTwo_25 : decode cX4_hasTwo 25 = .ok (.iconst 0, 1) := by decide +kernel
theorem dX4_hasTwo_26 : decode cX4_hasTwo 26 = .ok (.ireturn, 1) := by decide +kernel
theorem dX4_lives_0 : decode cX4_lives 0 = .ok (.aload_n 0, 1) := by decide +kernel
theorem dX4_lives_1 : decode cX4_lives 1 = .ok (.getfield 34, 3) := by decide +kernel
theorem dX4_lives_4 : decode cX4_lives 4 = .ok (.iload_n 1, 1) := by decide +kernel
theorem dX4_lives_5 : decode cX4_lives 5 = .ok (.invokestatic 68, 3) := by decide +kernel
theorem dX4_lives_8 : decode cX4_lives 8 = .ok (.ifCond .ne 7, 3) := by decide +kernel
theorem dX4_lives_11 : decode cX4_lives 11 = .ok (.iconst 1, 1) := by decide +kernel
theorem dX4_lives_12 : decode cX4_lives 12 = .ok (.goto 4, 3) := by decide +kernel
theorem dX4_lives_15 : decode cX4_lives 15 = .ok (.iconst 0, 1) := by decide +kernel
theorem dX4_lives_16 : decode cX4_lives 16 = .ok (.ireturn, 1) := by decide +kernel
theorem dX4_hadTrial_0 : decode cX4_hadTrial 0 = .ok (.aload_n 0, 1) := by decide +kernel
theorem dX4_hadTrial_1 : decode cX4_hadTrial 1 = .ok (.getfield 37, 3) := by decide +kernel
theorem dX4_hadTrial_4 : decode cX4_hadTrial 4 = .ok (.iload_n 1, 1) := by decide +kernel
theorem dX4_hadTrial_5 : decode cX4_hadTrial 5 = .ok (.invokestatic 68, 3) := by decide +kernel
theorem dX4_hadTrial_8 : decode cX4_hadTrial 8 = .ok (.ireturn, 1) := by decide +kernel
theorem dX4_ageOf_0 : decode cX4_ageOf 0 = .ok (.aload_n 0, 1) := by decide +kernel
theorem dX4_ageOf_1 : decode cX4_ageOf 1 = .ok (.getfield 15, 3) := by decide +kernel
theorem dX4_ageOf_4 : decode cX4_ageOf 4 = .ok (.iload_n 1, 1) := by decide +kernel
theorem dX4_ageOf_5 : decode cX4_ageOf 5 = .ok (.iaload, 1) := by decide +kernel
theorem dX4_ageOf_6 : decode cX4_ageOf 6 = .ok (.aload_n 0, 1) := by decide +kernel
theorem dX4_ageOf_7 : decode cX4_ageOf 7 = .ok (.getfield 40, 3) := by decide +kernel
theorem dX4_ageOf_10 : decode cX4_ageOf 10 = .ok (.bipush 30, 2) := by decide +kernel
theorem dX4_ageOf_12 : decode cX4_ageOf 12 = .ok (.idiv, 1) := by decide +kernel
theorem dX4_ageOf_13 : decode cX4_ageOf 13 = .ok (.iadd, 1) := by decide +kernel
theorem dX4_ageOf_14 : decode cX4_ageOf 14 = .ok (.ireturn, 1) := by decide +kernel
theorem dX4_tieOf_0 : decode cX4_tieOf 0 = .ok (.aload_n 0, 1) := by decide +kernel
theorem dX4_tieOf_1 : decode cX4_tieOf 1 = .ok (.getfield 21, 3) := by decide +kernel
theorem dX4_tieOf_4 : decode cX4_tieOf 4 = .ok (.aload_n 0, 1) := by decide +kernel
theorem dX4_tieOf_5 : decode cX4_tieOf 5 = .ok (.iload_n 1, 1) := by decide +kernel
theorem dX4_tieOf_6 : decode cX4_tieOf 6 = .ok (.iload_n 2, 1) := by decide +kernel
theorem dX4_tieOf_7 : decode cX4_tieOf 7 = .ok (.invokevirtual 60, 3) := by decide +kernel
theorem dX4_tieOf_10 : decode cX4_tieOf 10 = .ok (.iaload, 1) := by decide +kernel
theorem dX4_tieOf_11 : decode cX4_tieOf 11 = .ok (.ireturn, 1) := by decide +kernel
theorem dX4_debtOf_0 : decode cX4_debtOf 0 = .ok (.aload_n 0, 1) := by decide +kernel
theorem dX4_debtOf_1 : decode cX4_debtOf 1 = .ok (.getfield 24, 3) := by decide +kernel
theorem dX4_debtOf_4 : decode cX4_debtOf 4 = .ok (.aload_n 0, 1) := by decide +kernel
theorem dX4_debtOf_5 : decode cX4_debtOf 5 = .ok (.iload_n 1, 1) := by decide +kernel
theorem dX4_debtOf_6 : decode cX4_debtOf 6 = .ok (.iload_n 2, 1) := by decide +kernel
theorem dX4_debtOf_7 : decode cX4_debtOf 7 = .ok (.invokevirtual 60, 3) := by decide +kernel
theorem dX4_debtOf_10 : decode cX4_debtOf 10 = .ok (.iaload, 1) := by decide +kernel
theorem dX4_debtOf_11 : decode cX4_debtOf 11 = .ok (.ireturn, 1) := by decide +kernel
theorem dX4_cell_0 : decode cX4_cell 0 = .ok (.iload_n 1, 1) := by decide +kernel
theorem dX4_cell_1 : decode cX4_cell 1 = .ok (.bipush 6, 2) := by decide +kernel
theorem dX4_cell_3 : decode cX4_cell 3 = .ok (.imul, 1) := by decide +kernel
theorem dX4_cell_4 : decode cX4_cell 4 = .ok (.iload_n 2, 1) := by decide +kernel
theorem dX4_cell_5 : decode cX4_cell 5 = .ok (.iadd, 1) := by decide +kernel
theorem dX4_cell_6 : decode cX4_cell 6 = .ok (.ireturn, 1) := by decide +kernel
theorem dX4_coinsOfAll_0 : decode cX4_coinsOfAll 0 = .ok (.iconst 0, 1) := by decide +kernel
theorem dX4_coinsOfAll_1 : decode cX4_coinsOfAll 1 = .ok (.istore_n 1, 1) := by decide +kernel
theorem dX4_coinsOfAll_2 : decode cX4_coinsOfAll 2 = .ok (.iconst 0, 1) := by decide +kernel
theorem dX4_coinsOfAll_3 : decode cX4_coinsOfAll 3 = .ok (.istore_n 2, 1) := by decide +kernel
theorem dX4_coinsOfAll_4 : decode cX4_coinsOfAll 4 = .ok (.iload_n 2, 1) := by decide +kernel
theorem dX4_coinsOfAll_5 : decode cX4_coinsOfAll 5 = .ok (.aload_n 0, 1) := by decide +kernel
theorem dX4_coinsOfAll_6 : decode cX4_coinsOfAll 6 = .ok (.getfield 27, 3) := by decide +kernel
theorem dX4_coinsOfAll_9 : decode cX4_coinsOfAll 9 = .ok (.if_icmp .ge 18, 3) := by decide +kernel
theorem dX4_coinsOfAll_12 : decode cX4_coinsOfAll 12 = .ok (.iload_n 1, 1) := by decide +kernel
theorem dX4_coinsOfAll_13 : decode cX4_coinsOfAll 13 = .ok (.aload_n 0, 1) := by decide +kernel
theorem dX4_coinsOfAll_14 : decode cX4_coinsOfAll 14 = .ok (.getfield 18, 3) := by decide +kernel
theorem dX4_coinsOfAll_17 : decode cX4_coinsOfAll 17 = .ok (.iload_n 2, 1) := by decide +kernel
theorem dX4_coinsOfAll_18 : decode cX4_coinsOfAll 18 = .ok (.iaload, 1) := by decide +kernel
theorem dX4_coinsOfAll_19 : decode cX4_coinsOfAll 19 = .ok (.iadd, 1) := by decide +kernel
theorem dX4_coinsOfAll_20 : decode cX4_coinsOfAll 20 = .ok (.istore_n 1, 1) := by decide +kernel
theorem dX4_coinsOfAll_21 : decode cX4_coinsOfAll 21 = .ok (.iinc 2 1, 3) := by decide +kernel
theorem dX4_coinsOfAll_24 : decode cX4_coinsOfAll 24 = .ok (.goto (-20), 3) := by decide +kernel
theorem dX4_coinsOfAll_27 : decode cX4_coinsOfAll 27 = .ok (.iload_n 1, 1) := by decide +kernel
theorem dX4_coinsOfAll_28 : decode cX4_coinsOfAll 28 = .ok (.ireturn, 1) := by decide +kernel
theorem dX4_debtsOfAll_0 : decode cX4_debtsOfAll 0 = .ok (.iconst 0, 1) := by decide +kernel
theorem dX4_debtsOfAll_1 : decode cX4_debtsOfAll 1 = .ok (.istore_n 1, 1) := by decide +kernel
theorem dX4_debtsOfAll_2 : decode cX4_debtsOfAll 2 = .ok (.iconst 0, 1) := by decide +kernel
theorem dX4_debtsOfAll_3 : decode cX4_debtsOfAll 3 = .ok (.istore_n 2, 1) := by decide +kernel
theorem dX4_debtsOfAll_4 : decode cX4_debtsOfAll 4 = .ok (.iload_n 2, 1) := by decide +kernel
theorem dX4_debtsOfAll_5 : decode cX4_debtsOfAll 5 = .ok (.bipush 36, 2) := by decide +kernel
theorem dX4_debtsOfAll_7 : decode cX4_debtsOfAll 7 = .ok (.if_icmp .ge 18, 3) := by decide +kernel
theorem dX4_debtsOfAll_10 : decode cX4_debtsOfAll 10 = .ok (.iload_n 1, 1) := by decide +kernel
theorem dX4_debtsOfAll_11 : decode cX4_debtsOfAll 11 = .ok (.aload_n 0, 1) := by decide +kernel
theorem dX4_debtsOfAll_12 : decode cX4_debtsOfAll 12 = .ok (.getfield 24, 3) := by decide +kernel
theorem dX4_debtsOfAll_15 : decode cX4_debtsOfAll 15 = .ok (.iload_n 2, 1) := by decide +kernel
theorem dX4_debtsOfAll_16 : decode cX4_debtsOfAll 16 = .ok (.iaload, 1) := by decide +kernel
end
section
theorem dX4_debtsOfAll_17 : decode cX4_debtsOfAll 17 = .ok (.iadd, 1) := by decide +kernel
theorem dX4_debtsOfAll_18 : decode cX4_debtsOfAll 18 = .ok (.istore_n 1, 1) := by decide +kernel
theorem dX4_debtsOfAll_19 : decode cX4_debtsOfAll 19 = .ok (.iinc 2 1, 3) := by decide +kernel
theorem dX4_debtsOfAll_22 : decode cX4_debtsOfAll 22 = .ok (.goto (-18), 3) := by decide +kernel
theorem dX4_debtsOfAll_25 : decode cX4_debtsOfAll 25 = .ok (.iload_n 1, 1) := by decide +kernel
theorem dX4_debtsOfAll_26 : decode cX4_debtsOfAll 26 = .ok (.ireturn, 1) := by decide +kernel
theorem dX4_wouldCome_0 : decode cX4_wouldCome 0 = .ok (.aload_n 0, 1) := by decide +kernel
theorem dX4_wouldCome_1 : decode cX4_wouldCome 1 = .ok (.iload_n 1, 1) := by decide +kernel
theorem dX4_wouldCome_2 : decode cX4_wouldCome 2 = .ok (.invokevirtual 71, 3) := by decide +kernel
theorem dX4_wouldCome_5 : decode cX4_wouldCome 5 = .ok (.ifCond .ne 5, 3) := by decide +kernel
theorem dX4_wouldCome_8 : decode cX4_wouldCome 8 = .ok (.iconst 0, 1) := by decide +kernel
theorem dX4_wouldCome_9 : decode cX4_wouldCome 9 = .ok (.ireturn, 1) := by decide +kernel
theorem dX4_wouldCome_10 : decode cX4_wouldCome 10 = .ok (.iload_n 3, 1) := by decide +kernel
theorem dX4_wouldCome_11 : decode cX4_wouldCome 11 = .ok (.iload 5, 2) := by decide +kernel
theorem dX4_wouldCome_13 : decode cX4_wouldCome 13 = .ok (.iadd, 1) := by decide +kernel
theorem dX4_wouldCome_14 : decode cX4_wouldCome 14 = .ok (.istore 7, 2) := by decide +kernel
theorem dX4_wouldCome_16 : decode cX4_wouldCome 16 = .ok (.iload_n 2, 1) := by decide +kernel
theorem dX4_wouldCome_17 : decode cX4_wouldCome 17 = .ok (.tableswitch 105 1 4 #[31, 47, 64, 83], 31) := by decide +kernel
theorem dX4_wouldCome_48 : decode cX4_wouldCome 48 = .ok (.iload_n 3, 1) := by decide +kernel
theorem dX4_wouldCome_49 : decode cX4_wouldCome 49 = .ok (.ifCond .lt 9, 3) := by decide +kernel
theorem dX4_wouldCome_52 : decode cX4_wouldCome 52 = .ok (.iload 7, 2) := by decide +kernel
theorem dX4_wouldCome_54 : decode cX4_wouldCome 54 = .ok (.iconst 4, 1) := by decide +kernel
theorem dX4_wouldCome_55 : decode cX4_wouldCome 55 = .ok (.if_icmp .lt 7, 3) := by decide +kernel
theorem dX4_wouldCome_58 : decode cX4_wouldCome 58 = .ok (.iconst 1, 1) := by decide +kernel
theorem dX4_wouldCome_59 : decode cX4_wouldCome 59 = .ok (.goto 4, 3) := by decide +kernel
theorem dX4_wouldCome_62 : decode cX4_wouldCome 62 = .ok (.iconst 0, 1) := by decide +kernel
theorem dX4_wouldCome_63 : decode cX4_wouldCome 63 = .ok (.ireturn, 1) := by decide +kernel
theorem dX4_wouldCome_64 : decode cX4_wouldCome 64 = .ok (.iload 6, 2) := by decide +kernel
theorem dX4_wouldCome_66 : decode cX4_wouldCome 66 = .ok (.ifCond .gt 9, 3) := by decide +kernel
theorem dX4_wouldCome_69 : decode cX4_wouldCome 69 = .ok (.iload 7, 2) := by decide +kernel
theorem dX4_wouldCome_71 : decode cX4_wouldCome 71 = .ok (.iconst 2, 1) := by decide +kernel
theorem dX4_wouldCome_72 : decode cX4_wouldCome 72 = .ok (.if_icmp .lt 7, 3) := by decide +kernel
theorem dX4_wouldCome_75 : decode cX4_wouldCome 75 = .ok (.iconst 1, 1) := by decide +kernel
theorem dX4_wouldCome_76 : decode cX4_wouldCome 76 = .ok (.goto 4, 3) := by decide +kernel
theorem dX4_wouldCome_79 : decode cX4_wouldCome 79 = .ok (.iconst 0, 1) := by decide +kernel
theorem dX4_wouldCome_80 : decode cX4_wouldCome 80 = .ok (.ireturn, 1) := by decide +kernel
theorem dX4_wouldCome_81 : decode cX4_wouldCome 81 = .ok (.aload_n 0, 1) := by decide +kernel
theorem dX4_wouldCome_82 : decode cX4_wouldCome 82 = .ok (.getfield 43, 3) := by decide +kernel
theorem dX4_wouldCome_85 : decode cX4_wouldCome 85 = .ok (.ifCond .ne 13, 3) := by decide +kernel
theorem dX4_wouldCome_88 : decode cX4_wouldCome 88 = .ok (.iload 7, 2) := by decide +kernel
theorem dX4_wouldCome_90 : decode cX4_wouldCome 90 = .ok (.iconst 2, 1) := by decide +kernel
theorem dX4_wouldCome_91 : decode cX4_wouldCome 91 = .ok (.if_icmp .lt 7, 3) := by decide +kernel
theorem dX4_wouldCome_94 : decode cX4_wouldCome 94 = .ok (.iconst 1, 1) := by decide +kernel
theorem dX4_wouldCome_95 : decode cX4_wouldCome 95 = .ok (.goto 4, 3) := by decide +kernel
theorem dX4_wouldCome_98 : decode cX4_wouldCome 98 = .ok (.iconst 0, 1) := by decide +kernel
theorem dX4_wouldCome_99 : decode cX4_wouldCome 99 = .ok (.ireturn, 1) := by decide +kernel
theorem dX4_wouldCome_100 : decode cX4_wouldCome 100 = .ok (.aload_n 0, 1) := by decide +kernel
theorem dX4_wouldCome_101 : decode cX4_wouldCome 101 = .ok (.iload_n 1, 1) := by decide +kernel
theorem dX4_wouldCome_102 : decode cX4_wouldCome 102 = .ok (.iload 4, 2) := by decide +kernel
theorem dX4_wouldCome_104 : decode cX4_wouldCome 104 = .ok (.invokevirtual 74, 3) := by decide +kernel
theorem dX4_wouldCome_107 : decode cX4_wouldCome 107 = .ok (.ifCond .ne 13, 3) := by decide +kernel
theorem dX4_wouldCome_110 : decode cX4_wouldCome 110 = .ok (.iload 7, 2) := by decide +kernel
theorem dX4_wouldCome_112 : decode cX4_wouldCome 112 = .ok (.iconst 1, 1) := by decide +kernel
theorem dX4_wouldCome_113 : decode cX4_wouldCome 113 = .ok (.if_icmp .lt 7, 3) := by decide +kernel
theorem dX4_wouldCome_116 : decode cX4_wouldCome 116 = .ok (.iconst 1, 1) := by decide +kernel
theorem dX4_wouldCome_117 : decode cX4_wouldCome 117 = .ok (.goto 4, 3) := by decide +kernel
theorem dX4_wouldCome_120 : decode cX4_wouldCome 120 = .ok (.iconst 0, 1) := by decide +kernel
theorem dX4_wouldCome_121 : decode cX4_wouldCome 121 = .ok (.ireturn, 1) := by decide +kernel
theorem dX4_wouldCome_122 : decode cX4_wouldCome 122 = .ok (.iload 7, 2) := by decide +kernel
theorem dX4_wouldCome_124 : decode cX4_wouldCome 124 = .ok (.iconst 2, 1) := by decide +kernel
theorem dX4_wouldCome_125 : decode cX4_wouldCome 125 = .ok (.if_icmp .lt 7, 3) := by decide +kernel
theorem dX4_wouldCome_128 : decode cX4_wouldCome 128 = .ok (.iconst 1, 1) := by decide +kernel
theorem dX4_wouldCome_129 : decode cX4_wouldCome 129 = .ok (.goto 4, 3) := by decide +kernel
theorem dX4_wouldCome_132 : decode cX4_wouldCome 132 = .ok (.iconst 0, 1) := by decide +kernel
theorem dX4_wouldCome_133 : decode cX4_wouldCome 133 = .ok (.ireturn, 1) := by decide +kernel
theorem dX4_guestsOf_0 : decode cX4_guestsOf 0 = .ok (.iconst 0, 1) := by decide +kernel
theorem dX4_guestsOf_1 : decode cX4_guestsOf 1 = .ok (.istore 4, 2) := by decide +kernel
theorem dX4_guestsOf_3 : decode cX4_guestsOf 3 = .ok (.iconst 0, 1) := by decide +kernel
theorem dX4_guestsOf_4 : decode cX4_guestsOf 4 = .ok (.istore 5, 2) := by decide +kernel
theorem dX4_guestsOf_6 : decode cX4_guestsOf 6 = .ok (.iload 5, 2) := by decide +kernel
theorem dX4_guestsOf_8 : decode cX4_guestsOf 8 = .ok (.aload_n 0, 1) := by decide +kernel
theorem dX4_guestsOf_9 : decode cX4_guestsOf 9 = .ok (.getfield 27, 3) := by decide +kernel
theorem dX4_guestsOf_12 : decode cX4_guestsOf 12 = .ok (.if_icmp .ge 50, 3) := by decide +kernel
theorem dX4_guestsOf_15 : decode cX4_guestsOf 15 = .ok (.iload 5, 2) := by decide +kernel
theorem dX4_guestsOf_17 : decode cX4_guestsOf 17 = .ok (.iload_n 1, 1) := by decide +kernel
theorem dX4_guestsOf_18 : decode cX4_guestsOf 18 = .ok (.if_icmp .eq 38, 3) := by decide +kernel
theorem dX4_guestsOf_21 : decode cX4_guestsOf 21 = .ok (.aload_n 0, 1) := by decide +kernel
theorem dX4_guestsOf_22 : decode cX4_guestsOf 22 = .ok (.iload 5, 2) := by decide +kernel
theorem dX4_guestsOf_24 : decode cX4_guestsOf 24 = .ok (.aload_n 0, 1) := by decide +kernel
theorem dX4_guestsOf_25 : decode cX4_guestsOf 25 = .ok (.getfield 9, 3) := by decide +kernel
theorem dX4_guestsOf_28 : decode cX4_guestsOf 28 = .ok (.iload 5, 2) := by decide +kernel
theorem dX4_guestsOf_30 : decode cX4_guestsOf 30 = .ok (.iaload, 1) := by decide +kernel
theorem dX4_guestsOf_31 : decode cX4_guestsOf 31 = .ok (.aload_n 0, 1) := by decide +kernel
theorem dX4_guestsOf_32 : decode cX4_guestsOf 32 = .ok (.iload 5, 2) := by decide +kernel
theorem dX4_guestsOf_34 : decode cX4_guestsOf 34 = .ok (.iload_n 1, 1) := by decide +kernel
theorem dX4_guestsOf_35 : decode cX4_guestsOf 35 = .ok (.invokevirtual 77, 3) := by decide +kernel
theorem dX4_guestsOf_38 : decode cX4_guestsOf 38 = .ok (.iload_n 1, 1) := by decide +kernel
theorem dX4_guestsOf_39 : decode cX4_guestsOf 39 = .ok (.iload_n 2, 1) := by decide +kernel
theorem dX4_guestsOf_40 : decode cX4_guestsOf 40 = .ok (.iload_n 3, 1) := by decide +kernel
theorem dX4_guestsOf_41 : decode cX4_guestsOf 41 = .ok (.invokevirtual 80, 3) := by decide +kernel
theorem dX4_guestsOf_44 : decode cX4_guestsOf 44 = .ok (.ifCond .eq 12, 3) := by decide +kernel
theorem dX4_guestsOf_47 : decode cX4_guestsOf 47 = .ok (.iload 4, 2) := by decide +kernel
theorem dX4_guestsOf_49 : decode cX4_guestsOf 49 = .ok (.iconst 1, 1) := by decide +kernel
theorem dX4_guestsOf_50 : decode cX4_guestsOf 50 = .ok (.iload 5, 2) := by decide +kernel
theorem dX4_guestsOf_52 : decode cX4_guestsOf 52 = .ok (.ishl, 1) := by decide +kernel
theorem dX4_guestsOf_53 : decode cX4_guestsOf 53 = .ok (.ior, 1) := by decide +kernel
theorem dX4_guestsOf_54 : decode cX4_guestsOf 54 = .ok (.istore 4, 2) := by decide +kernel
theorem dX4_guestsOf_56 : decode cX4_guestsOf 56 = .ok (.iinc 5 1, 3) := by decide +kernel
theorem dX4_guestsOf_59 : decode cX4_guestsOf 59 = .ok (.goto (-53), 3) := by decide +kernel
theorem dX4_guestsOf_62 : decode cX4_guestsOf 62 = .ok (.iload 4, 2) := by decide +kernel
theorem dX4_guestsOf_64 : decode cX4_guestsOf 64 = .ok (.ireturn, 1) := by decide +kernel
theorem dX4_giftsUntilComing_0 : decode cX4_giftsUntilComing 0 = .ok (.aload_n 0, 1) := by decide +kernel
theorem dX4_giftsUntilComing_1 : decode cX4_giftsUntilComing 1 = .ok (.iload_n 1, 1) := by decide +kernel
theorem dX4_giftsUntilComing_2 : decode cX4_giftsUntilComing 2 = .ok (.iload_n 2, 1) := by decide +kernel
theorem dX4_giftsUntilComing_3 : decode cX4_giftsUntilComing 3 = .ok (.invokevirtual 77, 3) := by decide +kernel
theorem dX4_giftsUntilComing_6 : decode cX4_giftsUntilComing 6 = .ok (.istore 5, 2) := by decide +kernel
theorem dX4_giftsUntilComing_8 : decode cX4_giftsUntilComing 8 = .ok (.iload 5, 2) := by decide +kernel
theorem dX4_giftsUntilComing_10 : decode cX4_giftsUntilComing 10 = .ok (.istore 6, 2) := by decide +kernel
theorem dX4_giftsUntilComing_12 : decode cX4_giftsUntilComing 12 = .ok (.iload 6, 2) := by decide +kernel
theorem dX4_giftsUntilComing_14 : decode cX4_giftsUntilComing 14 = .ok (.iconst 5, 1) := by decide +kernel
theorem dX4_giftsUntilComing_15 : decode cX4_giftsUntilComing 15 = .ok (.if_icmp .gt 35, 3) := by decide +kernel
theorem dX4_giftsUntilComing_18 : decode cX4_giftsUntilComing 18 = .ok (.aload_n 0, 1) := by decide +kernel
theorem dX4_giftsUntilComing_19 : decode cX4_giftsUntilComing 19 = .ok (.iload_n 1, 1) := by decide +kernel
theorem dX4_giftsUntilComing_20 : decode cX4_giftsUntilComing 20 = .ok (.aload_n 0, 1) := by decide +kernel
theorem dX4_giftsUntilComing_21 : decode cX4_giftsUntilComing 21 = .ok (.getfield 9, 3) := by decide +kernel
theorem dX4_giftsUntilComing_24 : decode cX4_giftsUntilComing 24 = .ok (.iload_n 1, 1) := by decide +kernel
theorem dX4_giftsUntilComing_25 : decode cX4_giftsUntilComing 25 = .ok (.iaload, 1) := by decide +kernel
theorem dX4_giftsUntilComing_26 : decode cX4_giftsUntilComing 26 = .ok (.iload 6, 2) := by decide +kernel
theorem dX4_giftsUntilComing_28 : decode cX4_giftsUntilComing 28 = .ok (.iload_n 2, 1) := by decide +kernel
theorem dX4_giftsUntilComing_29 : decode cX4_giftsUntilComing 29 = .ok (.iload_n 3, 1) := by decide +kernel
theorem dX4_giftsUntilComing_30 : decode cX4_giftsUntilComing 30 = .ok (.iload 4, 2) := by decide +kernel
theorem dX4_giftsUntilComing_32 : decode cX4_giftsUntilComing 32 = .ok (.invokevirtual 80, 3) := by decide +kernel
theorem dX4_giftsUntilComing_35 : decode cX4_giftsUntilComing 35 = .ok (.ifCond .eq 9, 3) := by decide +kernel
theorem dX4_giftsUntilComing_38 : decode cX4_giftsUntilComing 38 = .ok (.iload 6, 2) := by decide +kernel
theorem dX4_giftsUntilComing_40 : decode cX4_giftsUntilComing 40 = .ok (.iload 5, 2) := by decide +kernel
theorem dX4_giftsUntilComing_42 : decode cX4_giftsUntilComing 42 = .ok (.isub, 1) := by decide +kernel
theorem dX4_giftsUntilComing_43 : decode cX4_giftsUntilComing 43 = .ok (.ireturn, 1) := by decide +kernel
theorem dX4_giftsUntilComing_44 : decode cX4_giftsUntilComing 44 = .ok (.iinc 6 1, 3) := by decide +kernel
theorem dX4_giftsUntilComing_47 : decode cX4_giftsUntilComing 47 = .ok (.goto (-35), 3) := by decide +kernel
theorem dX4_giftsUntilComing_50 : decode cX4_giftsUntilComing 50 = .ok (.bipush (-4), 2) := by decide +kernel
theorem dX4_giftsUntilComing_52 : decode cX4_giftsUntilComing 52 = .ok (.ireturn, 1) := by decide +kernel
theorem dX4_isDueForTrial_0 : decode cX4_isDueForTrial 0 = .ok (.aload_n 0, 1) := by decide +kernel
theorem dX4_isDueForTrial_1 : decode cX4_isDueForTrial 1 = .ok (.iload_n 1, 1) := by decide +kernel
theorem dX4_isDueForTrial_2 : decode cX4_isDueForTrial 2 = .ok (.invokevirtual 71, 3) := by decide +kernel
theorem dX4_isDueForTrial_5 : decode cX4_isDueForTrial 5 = .ok (.ifCond .eq 27, 3) := by decide +kernel
theorem dX4_isDueForTrial_8 : decode cX4_isDueForTrial 8 = .ok (.aload_n 0, 1) := by decide +kernel
theorem dX4_isDueForTrial_9 : decode cX4_isDueForTrial 9 = .ok (.iload_n 1, 1) := by decide +kernel
theorem dX4_isDueForTrial_10 : decode cX4_isDueForTrial 10 = .ok (.invokevirtual 84, 3) := by decide +kernel
theorem dX4_isDueForTrial_13 : decode cX4_isDueForTrial 13 = .ok (.ifCond .ne 19, 3) := by decide +kernel
theorem dX4_isDueForTrial_16 : decode cX4_isDueForTrial 16 = .ok (.aload_n 0, 1) := by decide +kernel
theorem dX4_isDueForTrial_17 : decode cX4_isDueForTrial 17 = .ok (.iload_n 1, 1) := by decide +kernel
theorem dX4_isDueForTrial_18 : decode cX4_isDueForTrial 18 = .ok (.invokevirtual 87, 3) := by decide +kernel
theorem dX4_isDueForTrial_21 : decode cX4_isDueForTrial 21 = .ok (.aload_n 0, 1) := by decide +kernel
theorem dX4_isDueForTrial_22 : decode cX4_isDueForTrial 22 = .ok (.getfield 31, 3) := by decide +kernel
theorem dX4_isDueForTrial_25 : decode cX4_isDueForTrial 25 = .ok (.if_icmp .lt 7, 3) := by decide +kernel
theorem dX4_isDueForTrial_28 : decode cX4_isDueForTrial 28 = .ok (.iconst 1, 1) := by decide +kernel
theorem dX4_isDueForTrial_29 : decode cX4_isDueForTrial 29 = .ok (.goto 4, 3) := by decide +kernel
theorem dX4_isDueForTrial_32 : decode cX4_isDueForTrial 32 = .ok (.iconst 0, 1) := by decide +kernel
theorem dX4_isDueForTrial_33 : decode cX4_isDueForTrial 33 = .ok (.ireturn, 1) := by decide +kernel
theorem dX4_canHoldTrial_0 : decode cX4_canHoldTrial 0 = .ok (.aload_n 0, 1) := by decide +kernel
theorem dX4_canHoldTrial_1 : decode cX4_canHoldTrial 1 = .ok (.iload_n 1, 1) := by decide +kernel
theorem dX4_canHoldTrial_2 : decode cX4_canHoldTrial 2 = .ok (.invokevirtual 91, 3) := by decide +kernel
theorem dX4_canHoldTrial_5 : decode cX4_canHoldTrial 5 = .ok (.ifCond .eq 21, 3) := by decide +kernel
theorem dX4_canHoldTrial_8 : decode cX4_canHoldTrial 8 = .ok (.aload_n 0, 1) := by decide +kernel
theorem dX4_canHoldTrial_9 : decode cX4_canHoldTrial 9 = .ok (.getfield 18, 3) := by decide +kernel
theorem dX4_canHoldTrial_12 : decode cX4_canHoldTrial 12 = .ok (.iload_n 1, 1) := by decide +kernel
theorem dX4_canHoldTrial_13 : decode cX4_canHoldTrial 13 = .ok (.iaload, 1) := by decide +kernel
theorem dX4_canHoldTrial_14 : decode cX4_canHoldTrial 14 = .ok (.iload_n 2, 1) := by decide +kernel
theorem dX4_canHoldTrial_15 : decode cX4_canHoldTrial 15 = .ok (.iload_n 3, 1) := by decide +kernel
theorem dX4_canHoldTrial_16 : decode cX4_canHoldTrial 16 = .ok (.invokestatic 94, 3) := by decide +kernel
theorem dX4_canHoldTrial_19 : decode cX4_canHoldTrial 19 = .ok (.if_icmp .lt 7, 3) := by decide +kernel
theorem dX4_canHoldTrial_22 : decode cX4_canHoldTrial 22 = .ok (.iconst 1, 1) := by decide +kernel
theorem dX4_canHoldTrial_23 : decode cX4_canHoldTrial 23 = .ok (.goto 4, 3) := by decide +kernel
theorem dX4_canHoldTrial_26 : decode cX4_canHoldTrial 26 = .ok (.iconst 0, 1) := by decide +kernel
theorem dX4_canHoldTrial_27 : decode cX4_canHoldTrial 27 = .ok (.ireturn, 1) := by decide +kernel
theorem dX4_holdTrial_0 : decode cX4_holdTrial 0 = .ok (.aload_n 0, 1) := by decide +kernel
theorem dX4_holdTrial_1 : decode cX4_holdTrial 1 = .ok (.iload_n 1, 1) := by decide +kernel
theorem dX4_holdTrial_2 : decode cX4_holdTrial 2 = .ok (.iload_n 2, 1) := by decide +kernel
theorem dX4_holdTrial_3 : decode cX4_holdTrial 3 = .ok (.iload_n 3, 1) := by decide +kernel
theorem dX4_holdTrial_4 : decode cX4_holdTrial 4 = .ok (.invokevirtual 97, 3) := by decide +kernel
theorem dX4_holdTrial_7 : decode cX4_holdTrial 7 = .ok (.istore 4, 2) := by decide +kernel
theorem dX4_holdTrial_9 : decode cX4_holdTrial 9 = .ok (.aload_n 0, 1) := by decide +kernel
theorem dX4_holdTrial_10 : decode cX4_holdTrial 10 = .ok (.getfield 18, 3) := by decide +kernel
theorem dX4_holdTrial_13 : decode cX4_holdTrial 13 = .ok (.iload_n 1, 1) := by decide +kernel
theorem dX4_holdTrial_14 : decode cX4_holdTrial 14 = .ok (.dup2, 1) := by decide +kernel
theorem dX4_holdTrial_15 : decode cX4_holdTrial 15 = .ok (.iaload, 1) := by decide +kernel
theorem dX4_holdTrial_16 : decode cX4_holdTrial 16 = .ok (.iload_n 2, 1) := by decide +kernel
theorem dX4_holdTrial_17 : decode cX4_holdTrial 17 = .ok (.iload_n 3, 1) := by decide +kernel
theorem dX4_holdTrial_18 : decode cX4_holdTrial 18 = .ok (.invokestatic 94, 3) := by decide +kernel
theorem dX4_holdTrial_21 : decode cX4_holdTrial 21 = .ok (.isub, 1) := by decide +kernel
theorem dX4_holdTrial_22 : decode cX4_holdTrial 22 = .ok (.iastore, 1) := by decide +kernel
theorem dX4_holdTrial_23 : decode cX4_holdTrial 23 = .ok (.iconst 0, 1) := by decide +kernel
theorem dX4_holdTrial_24 : decode cX4_holdTrial 24 = .ok (.istore 5, 2) := by decide +kernel
theorem dX4_holdTrial_26 : decode cX4_holdTrial 26 = .ok (.iload 5, 2) := by decide +kernel
theorem dX4_holdTrial_28 : decode cX4_holdTrial 28 = .ok (.aload_n 0, 1) := by decide +kernel
theorem dX4_holdTrial_29 : decode cX4_holdTrial 29 = .ok (.getfield 27, 3) := by decide +kernel
theorem dX4_holdTrial_32 : decode cX4_holdTrial 32 = .ok (.if_icmp .ge 38, 3) := by decide +kernel
theorem dX4_holdTrial_35 : decode cX4_holdTrial 35 = .ok (.iload 5, 2) := by decide +kernel
theorem dX4_holdTrial_37 : decode cX4_holdTrial 37 = .ok (.iload_n 1, 1) := by decide +kernel
theorem dX4_holdTrial_38 : decode cX4_holdTrial 38 = .ok (.if_icmp .eq 26, 3) := by decide +kernel
theorem dX4_holdTrial_41 : decode cX4_holdTrial 41 = .ok (.aload_n 0, 1) := by decide +kernel
theorem dX4_holdTrial_42 : decode cX4_holdTrial 42 = .ok (.iload 5, 2) := by decide +kernel
theorem dX4_holdTrial_44 : decode cX4_holdTrial 44 = .ok (.invokevirtual 71, 3) := by decide +kernel
theorem dX4_holdTrial_47 : decode cX4_holdTrial 47 = .ok (.ifCond .eq 17, 3) := by decide +kernel
theorem dX4_holdTrial_50 : decode cX4_holdTrial 50 = .ok (.aload_n 0, 1) := by decide +kernel
theorem dX4_holdTrial_51 : decode cX4_holdTrial 51 = .ok (.iload_n 1, 1) := by decide +kernel
theorem dX4_holdTrial_52 : decode cX4_holdTrial 52 = .ok (.iload 5, 2) := by decide +kernel
theorem dX4_holdTrial_54 : decode cX4_holdTrial 54 = .ok (.iload 4, 2) := by decide +kernel
theorem dX4_holdTrial_56 : decode cX4_holdTrial 56 = .ok (.iload 5, 2) := by decide +kernel
theorem dX4_holdTrial_58 : decode cX4_holdTrial 58 = .ok (.invokestatic 68, 3) := by decide +kernel
theorem dX4_holdTrial_61 : decode cX4_holdTrial 61 = .ok (.invokevirtual 101, 3) := by decide +kernel
theorem dX4_holdTrial_64 : decode cX4_holdTrial 64 = .ok (.iinc 5 1, 3) := by decide +kernel
theorem dX4_holdTrial_67 : decode cX4_holdTrial 67 = .ok (.goto (-41), 3) := by decide +kernel
theorem dX4_holdTrial_70 : decode cX4_holdTrial 70 = .ok (.aload_n 0, 1) := by decide +kernel
theorem dX4_holdTrial_71 : decode cX4_holdTrial 71 = .ok (.dup, 1) := by decide +kernel
theorem dX4_holdTrial_72 : decode cX4_holdTrial 72 = .ok (.getfield 37, 3) := by decide +kernel
theorem dX4_holdTrial_75 : decode cX4_holdTrial 75 = .ok (.iconst 1, 1) := by decide +kernel
theorem dX4_holdTrial_76 : decode cX4_holdTrial 76 = .ok (.iload_n 1, 1) := by decide +kernel
theorem dX4_holdTrial_77 : decode cX4_holdTrial 77 = .ok (.ishl, 1) := by decide +kernel
theorem dX4_holdTrial_78 : decode cX4_holdTrial 78 = .ok (.ior, 1) := by decide +kernel
theorem dX4_holdTrial_79 : decode cX4_holdTrial 79 = .ok (.putfield 37, 3) := by decide +kernel
theorem dX4_holdTrial_82 : decode cX4_holdTrial 82 = .ok (.aload_n 0, 1) := by decide +kernel
theorem dX4_holdTrial_83 : decode cX4_holdTrial 83 = .ok (.dup, 1) := by decide +kernel
theorem dX4_holdTrial_84 : decode cX4_holdTrial 84 = .ok (.getfield 43, 3) := by decide +kernel
theorem dX4_holdTrial_87 : decode cX4_holdTrial 87 = .ok (.iconst 1, 1) := by decide +kernel
theorem dX4_holdTrial_88 : decode cX4_holdTrial 88 = .ok (.iadd, 1) := by decide +kernel
theorem dX4_holdTrial_89 : decode cX4_holdTrial 89 = .ok (.putfield 43, 3) := by decide +kernel
theorem dX4_holdTrial_92 : decode cX4_holdTrial 92 = .ok (.iload 4, 2) := by decide +kernel
theorem dX4_holdTrial_94 : decode cX4_holdTrial 94 = .ok (.ireturn, 1) := by decide +kernel
theorem dX4_meet_0 : decode cX4_meet 0 = .ok (.iload_n 3, 1) := by decide +kernel
theorem dX4_meet_1 : decode cX4_meet 1 = .ok (.ifCond .eq 17, 3) := by decide +kernel
theorem dX4_meet_4 : decode cX4_meet 4 = .ok (.aload_n 0, 1) := by decide +kernel
theorem dX4_meet_5 : decode cX4_meet 5 = .ok (.getfield 9, 3) := by decide +kernel
theorem dX4_meet_8 : decode cX4_meet 8 = .ok (.iload_n 2, 1) := by decide +kernel
theorem dX4_meet_9 : decode cX4_meet 9 = .ok (.iaload, 1) := by decide +kernel
theorem dX4_meet_10 : decode cX4_meet 10 = .ok (.iconst 1, 1) := by decide +kernel
theorem dX4_meet_11 : decode cX4_meet 11 = .ok (.if_icmp .eq 7, 3) := by decide +kernel
theorem dX4_meet_14 : decode cX4_meet 14 = .ok (.iconst 1, 1) := by decide +kernel
theorem dX4_meet_15 : decode cX4_meet 15 = .ok (.goto 4, 3) := by decide +kernel
theorem dX4_meet_18 : decode cX4_meet 18 = .ok (.iconst 0, 1) := by decide +kernel
theorem dX4_meet_19 : decode cX4_meet 19 = .ok (.istore 4, 2) := by decide +kernel
theorem dX4_meet_21 : decode cX4_meet 21 = .ok (.aload_n 0, 1) := by decide +kernel
theorem dX4_meet_22 : decode cX4_meet 22 = .ok (.iload_n 1, 1) := by decide +kernel
theorem dX4_meet_23 : decode cX4_meet 23 = .ok (.iload_n 2, 1) := by decide +kernel
theorem dX4_meet_24 : decode cX4_meet 24 = .ok (.iload 4, 2) := by decide +kernel
theorem dX4_meet_26 : decode cX4_meet 26 = .ok (.ifCond .eq 7, 3) := by decide +kernel
theorem dX4_meet_29 : decode cX4_meet 29 = .ok (.iconst 1, 1) := by decide +kernel
theorem dX4_meet_30 : decode cX4_meet 30 = .ok (.goto 4, 3) := by decide +kernel
theorem dX4_meet_33 : decode cX4_meet 33 = .ok (.iconst (-1), 1) := by decide +kernel
theorem dX4_meet_34 : decode cX4_meet 34 = .ok (.invokevirtual 105, 3) := by decide +kernel
theorem dX4_meet_37 : decode cX4_meet 37 = .ok (.iload_n 3, 1) := by decide +kernel
theorem dX4_meet_38 : decode cX4_meet 38 = .ok (.ifCond .eq 18, 3) := by decide +kernel
theorem dX4_meet_41 : decode cX4_meet 41 = .ok (.aload_n 0, 1) := by decide +kernel
theorem dX4_meet_42 : decode cX4_meet 42 = .ok (.iload_n 2, 1) := by decide +kernel
theorem dX4_meet_43 : decode cX4_meet 43 = .ok (.iload_n 1, 1) := by decide +kernel
theorem dX4_meet_44 : decode cX4_meet 44 = .ok (.aload_n 0, 1) := by decide +kernel
theorem dX4_meet_45 : decode cX4_meet 45 = .ok (.iload_n 2, 1) := by decide +kernel
theorem dX4_meet_46 : decode cX4_meet 46 = .ok (.iload_n 1, 1) := by decide +kernel
theorem dX4_meet_47 : decode cX4_meet 47 = .ok (.invokevirtual 74, 3) := by decide +kernel
theorem dX4_meet_50 : decode cX4_meet 50 = .ok (.iconst 2, 1) := by decide +kernel
theorem dX4_meet_51 : decode cX4_meet 51 = .ok (.idiv, 1) := by decide +kernel
theorem dX4_meet_52 : decode cX4_meet 52 = .ok (.invokevirtual 109, 3) := by decide +kernel
theorem dX4_meet_55 : decode cX4_meet 55 = .ok (.pop, 1) := by decide +kernel
theorem dX4_meet_56 : decode cX4_meet 56 = .ok (.return_, 1) := by decide +kernel
theorem dX4_changeTie_0 : decode cX4_changeTie 0 = .ok (.aload_n 0, 1) := by decide +kernel
theorem dX4_changeTie_1 : decode cX4_changeTie 1 = .ok (.iload_n 1, 1) := by decide +kernel
theorem dX4_changeTie_2 : decode cX4_changeTie 2 = .ok (.iload_n 2, 1) := by decide +kernel
theorem dX4_changeTie_3 : decode cX4_changeTie 3 = .ok (.invokevirtual 77, 3) := by decide +kernel
theorem dX4_changeTie_6 : decode cX4_changeTie 6 = .ok (.iload_n 3, 1) := by decide +kernel
theorem dX4_changeTie_7 : decode cX4_changeTie 7 = .ok (.iadd, 1) := by decide +kernel
theorem dX4_changeTie_8 : decode cX4_changeTie 8 = .ok (.istore 4, 2) := by decide +kernel
theorem dX4_changeTie_10 : decode cX4_changeTie 10 = .ok (.aload_n 0, 1) := by decide +kernel
theorem dX4_changeTie_11 : decode cX4_changeTie 11 = .ok (.getfield 21, 3) := by decide +kernel
theorem dX4_changeTie_14 : decode cX4_changeTie 14 = .ok (.aload_n 0, 1) := by decide +kernel
theorem dX4_changeTie_15 : decode cX4_changeTie 15 = .ok (.iload_n 1, 1) := by decide +kernel
theorem dX4_changeTie_16 : decode cX4_changeTie 16 = .ok (.iload_n 2, 1) := by decide +kernel
theorem dX4_changeTie_17 : decode cX4_changeTie 17 = .ok (.invokevirtual 60, 3) := by decide +kernel
theorem dX4_changeTie_20 : decode cX4_changeTie 20 = .ok (.bipush (-4), 2) := by decide +kernel
theorem dX4_changeTie_22 : decode cX4_changeTie 22 = .ok (.iconst 5, 1) := by decide +kernel
theorem dX4_changeTie_23 : decode cX4_changeTie 23 = .ok (.iload 4, 2) := by decide +kernel
theorem dX4_changeTie_25 : decode cX4_changeTie 25 = .ok (.invokestatic 112, 3) := by decide +kernel
theorem dX4_changeTie_28 : decode cX4_changeTie 28 = .ok (.invokestatic 117, 3) := by decide +kernel
theorem dX4_changeTie_31 : decode cX4_changeTie 31 = .ok (.iastore, 1) := by decide +kernel
theorem dX4_changeTie_32 : decode cX4_changeTie 32 = .ok (.return_, 1) := by decide +kernel
theorem dX4_payOff_0 : decode cX4_payOff 0 = .ok (.iload_n 3, 1) := by decide +kernel
theorem dX4_payOff_1 : decode cX4_payOff 1 = .ok (.aload_n 0, 1) := by decide +kernel
theorem dX4_payOff_2 : decode cX4_payOff 2 = .ok (.getfield 18, 3) := by decide +kernel
theorem dX4_payOff_5 : decode cX4_payOff 5 = .ok (.iload_n 1, 1) := by decide +kernel
theorem dX4_payOff_6 : decode cX4_payOff 6 = .ok (.iaload, 1) := by decide +kernel
theorem dX4_payOff_7 : decode cX4_payOff 7 = .ok (.invokestatic 112, 3) := by decide +kernel
theorem dX4_payOff_10 : decode cX4_payOff 10 = .ok (.istore 4, 2) := by decide +kernel
theorem dX4_payOff_12 : decode cX4_payOff 12 = .ok (.aload_n 0, 1) := by decide +kernel
theorem dX4_payOff_13 : decode cX4_payOff 13 = .ok (.getfield 18, 3) := by decide +kernel
theorem dX4_payOff_16 : decode cX4_payOff 16 = .ok (.iload_n 1, 1) := by decide +kernel
theorem dX4_payOff_17 : decode cX4_payOff 17 = .ok (.dup2, 1) := by decide +kernel
theorem dX4_payOff_18 : decode cX4_payOff 18 = .ok (.iaload, 1) := by decide +kernel
theorem dX4_payOff_19 : decode cX4_payOff 19 = .ok (.iload 4, 2) := by decide +kernel
theorem dX4_payOff_21 : decode cX4_payOff 21 = .ok (.isub, 1) := by decide +kernel
theorem dX4_payOff_22 : decode cX4_payOff 22 = .ok (.iastore, 1) := by decide +kernel
theorem dX4_payOff_23 : decode cX4_payOff 23 = .ok (.aload_n 0, 1) := by decide +kernel
theorem dX4_payOff_24 : decode cX4_payOff 24 = .ok (.getfield 24, 3) := by decide +kernel
theorem dX4_payOff_27 : decode cX4_payOff 27 = .ok (.aload_n 0, 1) := by decide +kernel
theorem dX4_payOff_28 : decode cX4_payOff 28 = .ok (.iload_n 1, 1) := by decide +kernel
theorem dX4_payOff_29 : decode cX4_payOff 29 = .ok (.iload_n 2, 1) := by decide +kernel
theorem dX4_payOff_30 : decode cX4_payOff 30 = .ok (.invokevirtual 60, 3) := by decide +kernel
theorem dX4_payOff_33 : decode cX4_payOff 33 = .ok (.dup2, 1) := by decide +kernel
theorem dX4_payOff_34 : decode cX4_payOff 34 = .ok (.iaload, 1) := by decide +kernel
theorem dX4_payOff_35 : decode cX4_payOff 35 = .ok (.iload 4, 2) := by decide +kernel
theorem dX4_payOff_37 : decode cX4_payOff 37 = .ok (.isub, 1) := by decide +kernel
theorem dX4_payOff_38 : decode cX4_payOff 38 = .ok (.iastore, 1) := by decide +kernel
theorem dX4_payOff_39 : decode cX4_payOff 39 = .ok (.aload_n 0, 1) := by decide +kernel
theorem dX4_payOff_40 : decode cX4_payOff 40 = .ok (.iload_n 2, 1) := by decide +kernel
theorem dX4_payOff_41 : decode cX4_payOff 41 = .ok (.iload 4, 2) := by decide +kernel
theorem dX4_payOff_43 : decode cX4_payOff 43 = .ok (.invokevirtual 120, 3) := by decide +kernel
theorem dX4_payOff_46 : decode cX4_payOff 46 = .ok (.iload 4, 2) := by decide +kernel
theorem dX4_payOff_48 : decode cX4_payOff 48 = .ok (.ireturn, 1) := by decide +kernel
theorem dX4_receive_0 : decode cX4_receive 0 = .ok (.aload_n 0, 1) := by decide +kernel
theorem dX4_receive_1 : decode cX4_receive 1 = .ok (.getfield 18, 3) := by decide +kernel
theorem dX4_receive_4 : decode cX4_receive 4 = .ok (.iload_n 1, 1) := by decide +kernel
theorem dX4_receive_5 : decode cX4_receive 5 = .ok (.sipush 999, 3) := by decide +kernel
theorem dX4_receive_8 : decode cX4_receive 8 = .ok (.aload_n 0, 1) := by decide +kernel
theorem dX4_receive_9 : decode cX4_receive 9 = .ok (.getfield 18, 3) := by decide +kernel
theorem dX4_receive_12 : decode cX4_receive 12 = .ok (.iload_n 1, 1) := by decide +kernel
theorem dX4_receive_13 : decode cX4_receive 13 = .ok (.iaload, 1) := by decide +kernel
theorem dX4_receive_14 : decode cX4_receive 14 = .ok (.iload_n 2, 1) := by decide +kernel
theorem dX4_receive_15 : decode cX4_receive 15 = .ok (.iadd, 1) := by decide +kernel
theorem dX4_receive_16 : decode cX4_receive 16 = .ok (.invokestatic 112, 3) := by decide +kernel
theorem dX4_receive_19 : decode cX4_receive 19 = .ok (.iastore, 1) := by decide +kernel
theorem dX4_receive_20 : decode cX4_receive 20 = .ok (.return_, 1) := by decide +kernel
theorem dX4_canGive_0 : decode cX4_canGive 0 = .ok (.aload_n 0, 1) := by decide +kernel
theorem dX4_canGive_1 : decode cX4_canGive 1 = .ok (.iload_n 1, 1) := by decide +kernel
theorem dX4_canGive_2 : decode cX4_canGive 2 = .ok (.invokevirtual 71, 3) := by decide +kernel
theorem dX4_canGive_5 : decode cX4_canGive 5 = .ok (.ifCond .eq 35, 3) := by decide +kernel
theorem dX4_canGive_8 : decode cX4_canGive 8 = .ok (.aload_n 0, 1) := by decide +kernel
theorem dX4_canGive_9 : decode cX4_canGive 9 = .ok (.iload_n 2, 1) := by decide +kernel
theorem dX4_canGive_10 : decode cX4_canGive 10 = .ok (.invokevirtual 71, 3) := by decide +kernel
theorem dX4_canGive_13 : decode cX4_canGive 13 = .ok (.ifCond .eq 27, 3) := by decide +kernel
theorem dX4_canGive_16 : decode cX4_canGive 16 = .ok (.aload_n 0, 1) := by decide +kernel
theorem dX4_canGive_17 : decode cX4_canGive 17 = .ok (.getfield 18, 3) := by decide +kernel
theorem dX4_canGive_20 : decode cX4_canGive 20 = .ok (.iload_n 1, 1) := by decide +kernel
theorem dX4_canGive_21 : decode cX4_canGive 21 = .ok (.iaload, 1) := by decide +kernel
theorem dX4_canGive_22 : decode cX4_canGive 22 = .ok (.iconst 2, 1) := by decide +kernel
theorem dX4_canGive_23 : decode cX4_canGive 23 = .ok (.if_icmp .lt 17, 3) := by decide +kernel
theorem dX4_canGive_26 : decode cX4_canGive 26 = .ok (.aload_n 0, 1) := by decide +kernel
theorem dX4_canGive_27 : decode cX4_canGive 27 = .ok (.iload_n 2, 1) := by decide +kernel
theorem dX4_canGive_28 : decode cX4_canGive 28 = .ok (.iload_n 1, 1) := by decide +kernel
theorem dX4_canGive_29 : decode cX4_canGive 29 = .ok (.invokevirtual 77, 3) := by decide +kernel
theorem dX4_canGive_32 : decode cX4_canGive 32 = .ok (.iconst 5, 1) := by decide +kernel
theorem dX4_canGive_33 : decode cX4_canGive 33 = .ok (.if_icmp .ge 7, 3) := by decide +kernel
theorem dX4_canGive_36 : decode cX4_canGive 36 = .ok (.iconst 1, 1) := by decide +kernel
theorem dX4_canGive_37 : decode cX4_canGive 37 = .ok (.goto 4, 3) := by decide +kernel
theorem dX4_canGive_40 : decode cX4_canGive 40 = .ok (.iconst 0, 1) := by decide +kernel
theorem dX4_canGive_41 : decode cX4_canGive 41 = .ok (.ireturn, 1) := by decide +kernel
theorem dX4_give_0 : decode cX4_give 0 = .ok (.aload_n 0, 1) := by decide +kernel
theorem dX4_give_1 : decode cX4_give 1 = .ok (.getfield 18, 3) := by decide +kernel
theorem dX4_give_4 : decode cX4_give 4 = .ok (.iload_n 1, 1) := by decide +kernel
theorem dX4_give_5 : decode cX4_give 5 = .ok (.dup2, 1) := by decide +kernel
theorem dX4_give_6 : decode cX4_give 6 = .ok (.iaload, 1) := by decide +kernel
theorem dX4_give_7 : decode cX4_give 7 = .ok (.iconst 2, 1) := by decide +kernel
theorem dX4_give_8 : decode cX4_give 8 = .ok (.isub, 1) := by decide +kernel
theorem dX4_give_9 : decode cX4_give 9 = .ok (.iastore, 1) := by decide +kernel
theorem dX4_give_10 : decode cX4_give 10 = .ok (.aload_n 0, 1) := by decide +kernel
theorem dX4_give_11 : decode cX4_give 11 = .ok (.iload_n 2, 1) := by decide +kernel
theorem dX4_give_12 : decode cX4_give 12 = .ok (.iload_n 1, 1) := by decide +kernel
theorem dX4_give_13 : decode cX4_give 13 = .ok (.iconst 1, 1) := by decide +kernel
theorem dX4_give_14 : decode cX4_give 14 = .ok (.invokevirtual 105, 3) := by decide +kernel
theorem dX4_give_17 : decode cX4_give 17 = .ok (.return_, 1) := by decide +kernel
theorem dX4_heirOf_0 : decode cX4_heirOf 0 = .ok (.bipush (-4), 2) := by decide +kernel
theorem dX4_heirOf_2 : decode cX4_heirOf 2 = .ok (.istore_n 2, 1) := by decide +kernel
theorem dX4_heirOf_3 : decode cX4_heirOf 3 = .ok (.bipush (-5), 2) := by decide +kernel
theorem dX4_heirOf_5 : decode cX4_heirOf 5 = .ok (.istore_n 3, 1) := by decide +kernel
theorem dX4_heirOf_6 : decode cX4_heirOf 6 = .ok (.iconst 0, 1) := by decide +kernel
theorem dX4_heirOf_7 : decode cX4_heirOf 7 = .ok (.istore 4, 2) := by decide +kernel
theorem dX4_heirOf_9 : decode cX4_heirOf 9 = .ok (.iload 4, 2) := by decide +kernel
theorem dX4_heirOf_11 : decode cX4_heirOf 11 = .ok (.aload_n 0, 1) := by decide +kernel
theorem dX4_heirOf_12 : decode cX4_heirOf 12 = .ok (.getfield 27, 3) := by decide +kernel
theorem dX4_heirOf_15 : decode cX4_heirOf 15 = .ok (.if_icmp .ge 46, 3) := by decide +kernel
theorem dX4_heirOf_18 : decode cX4_heirOf 18 = .ok (.iload 4, 2) := by decide +kernel
theorem dX4_heirOf_20 : decode cX4_heirOf 20 = .ok (.iload_n 1, 1) := by decide +kernel
theorem dX4_heirOf_21 : decode cX4_heirOf 21 = .ok (.if_icmp .eq 34, 3) := by decide +kernel
theorem dX4_heirOf_24 : decode cX4_heirOf 24 = .ok (.aload_n 0, 1) := by decide +kernel
theorem dX4_heirOf_25 : decode cX4_heirOf 25 = .ok (.iload 4, 2) := by decide +kernel
theorem dX4_heirOf_27 : decode cX4_heirOf 27 = .ok (.invokevirtual 71, 3) := by decide +kernel
theorem dX4_heirOf_30 : decode cX4_heirOf 30 = .ok (.ifCond .eq 25, 3) := by decide +kernel
theorem dX4_heirOf_33 : decode cX4_heirOf 33 = .ok (.aload_n 0, 1) := by decide +kernel
theorem dX4_heirOf_34 : decode cX4_heirOf 34 = .ok (.iload_n 1, 1) := by decide +kernel
theorem dX4_heirOf_35 : decode cX4_heirOf 35 = .ok (.iload 4, 2) := by decide +kernel
theorem dX4_heirOf_37 : decode cX4_heirOf 37 = .ok (.invokevirtual 77, 3) := by decide +kernel
theorem dX4_heirOf_40 : decode cX4_heirOf 40 = .ok (.iload_n 3, 1) := by decide +kernel
theorem dX4_heirOf_41 : decode cX4_heirOf 41 = .ok (.if_icmp .le 14, 3) := by decide +kernel
theorem dX4_heirOf_44 : decode cX4_heirOf 44 = .ok (.aload_n 0, 1) := by decide +kernel
theorem dX4_heirOf_45 : decode cX4_heirOf 45 = .ok (.iload_n 1, 1) := by decide +kernel
theorem dX4_heirOf_46 : decode cX4_heirOf 46 = .ok (.iload 4, 2) := by decide +kernel
theorem dX4_heirOf_48 : decode cX4_heirOf 48 = .ok (.invokevirtual 77, 3) := by decide +kernel
theorem dX4_heirOf_51 : decode cX4_heirOf 51 = .ok (.istore_n 3, 1) := by decide +kernel
theorem dX4_heirOf_52 : decode cX4_heirOf 52 = .ok (.iload 4, 2) := by decide +kernel
theorem dX4_heirOf_54 : decode cX4_heirOf 54 = .ok (.istore_n 2, 1) := by decide +kernel
theorem dX4_heirOf_55 : decode cX4_heirOf 55 = .ok (.iinc 4 1, 3) := by decide +kernel
theorem dX4_heirOf_58 : decode cX4_heirOf 58 = .ok (.goto (-49), 3) := by decide +kernel
theorem dX4_heirOf_61 : decode cX4_heirOf 61 = .ok (.iload_n 2, 1) := by decide +kernel
theorem dX4_heirOf_62 : decode cX4_heirOf 62 = .ok (.ireturn, 1) := by decide +kernel
theorem dX4_bury_0 : decode cX4_bury 0 = .ok (.aload_n 0, 1) := by decide +kernel
theorem dX4_bury_1 : decode cX4_bury 1 = .ok (.iload_n 1, 1) := by decide +kernel
theorem dX4_bury_2 : decode cX4_bury 2 = .ok (.invokevirtual 124, 3) := by decide +kernel
theorem dX4_bury_5 : decode cX4_bury 5 = .ok (.istore_n 2, 1) := by decide +kernel
theorem dX4_bury_6 : decode cX4_bury 6 = .ok (.iload_n 2, 1) := by decide +kernel
theorem dX4_bury_7 : decode cX4_bury 7 = .ok (.ifCond .lt 9, 3) := by decide +kernel
theorem dX4_bury_10 : decode cX4_bury 10 = .ok (.aload_n 0, 1) := by decide +kernel
theorem dX4_bury_11 : decode cX4_bury 11 = .ok (.iload_n 1, 1) := by decide +kernel
theorem dX4_bury_12 : decode cX4_bury 12 = .ok (.iload_n 2, 1) := by decide +kernel
theorem dX4_bury_13 : decode cX4_bury 13 = .ok (.invokevirtual 127, 3) := by decide +kernel
theorem dX4_bury_16 : decode cX4_bury 16 = .ok (.aload_n 0, 1) := by decide +kernel
theorem dX4_bury_17 : decode cX4_bury 17 = .ok (.dup, 1) := by decide +kernel
theorem dX4_bury_18 : decode cX4_bury 18 = .ok (.getfield 34, 3) := by decide +kernel
theorem dX4_bury_21 : decode cX4_bury 21 = .ok (.iconst 1, 1) := by decide +kernel
theorem dX4_bury_22 : decode cX4_bury 22 = .ok (.iload_n 1, 1) := by decide +kernel
theorem dX4_bury_23 : decode cX4_bury 23 = .ok (.ishl, 1) := by decide +kernel
theorem dX4_bury_24 : decode cX4_bury 24 = .ok (.ior, 1) := by decide +kernel
theorem dX4_bury_25 : decode cX4_bury 25 = .ok (.putfield 34, 3) := by decide +kernel
theorem dX4_bury_28 : decode cX4_bury 28 = .ok (.aload_n 0, 1) := by decide +kernel
theorem dX4_bury_29 : decode cX4_bury 29 = .ok (.getfield 18, 3) := by decide +kernel
theorem dX4_bury_32 : decode cX4_bury 32 = .ok (.iload_n 1, 1) := by decide +kernel
theorem dX4_bury_33 : decode cX4_bury 33 = .ok (.iconst 0, 1) := by decide +kernel
theorem dX4_bury_34 : decode cX4_bury 34 = .ok (.iastore, 1) := by decide +kernel
theorem dX4_bury_35 : decode cX4_bury 35 = .ok (.iconst 0, 1) := by decide +kernel
theorem dX4_bury_36 : decode cX4_bury 36 = .ok (.istore_n 3, 1) := by decide +kernel
theorem dX4_bury_37 : decode cX4_bury 37 = .ok (.iload_n 3, 1) := by decide +kernel
theorem dX4_bury_38 : decode cX4_bury 38 = .ok (.aload_n 0, 1) := by decide +kernel
theorem dX4_bury_39 : decode cX4_bury 39 = .ok (.getfield 27, 3) := by decide +kernel
theorem dX4_bury_42 : decode cX4_bury 42 = .ok (.if_icmp .ge 33, 3) := by decide +kernel
theorem dX4_bury_45 : decode cX4_bury 45 = .ok (.aload_n 0, 1) := by decide +kernel
theorem dX4_bury_46 : decode cX4_bury 46 = .ok (.getfield 24, 3) := by decide +kernel
theorem dX4_bury_49 : decode cX4_bury 49 = .ok (.aload_n 0, 1) := by decide +kernel
theorem dX4_bury_50 : decode cX4_bury 50 = .ok (.iload_n 3, 1) := by decide +kernel
theorem dX4_bury_51 : decode cX4_bury 51 = .ok (.iload_n 1, 1) := by decide +kernel
theorem dX4_bury_52 : decode cX4_bury 52 = .ok (.invokevirtual 60, 3) := by decide +kernel
theorem dX4_bury_55 : decode cX4_bury 55 = .ok (.iconst 0, 1) := by decide +kernel
theorem dX4_bury_56 : decode cX4_bury 56 = .ok (.iastore, 1) := by decide +kernel
theorem dX4_bury_57 : decode cX4_bury 57 = .ok (.aload_n 0, 1) := by decide +kernel
theorem dX4_bury_58 : decode cX4_bury 58 = .ok (.getfield 24, 3) := by decide +kernel
theorem dX4_bury_61 : decode cX4_bury 61 = .ok (.aload_n 0, 1) := by decide +kernel
theorem dX4_bury_62 : decode cX4_bury 62 = .ok (.iload_n 1, 1) := by decide +kernel
theorem dX4_bury_63 : decode cX4_bury 63 = .ok (.iload_n 3, 1) := by decide +kernel
theorem dX4_bury_64 : decode cX4_bury 64 = .ok (.invokevirtual 60, 3) := by decide +kernel
theorem dX4_bury_67 : decode cX4_bury 67 = .ok (.iconst 0, 1) := by decide +kernel
theorem dX4_bury_68 : decode cX4_bury 68 = .ok (.iastore, 1) := by decide +kernel
theorem dX4_bury_69 : decode cX4_bury 69 = .ok (.iinc 3 1, 3) := by decide +kernel
theorem dX4_bury_72 : decode cX4_bury 72 = .ok (.goto (-35), 3) := by decide +kernel
theorem dX4_bury_75 : decode cX4_bury 75 = .ok (.iload_n 2, 1) := by decide +kernel
theorem dX4_bury_76 : decode cX4_bury 76 = .ok (.ireturn, 1) := by decide +kernel
theorem dX4_bequeath_0 : decode cX4_bequeath 0 = .ok (.aload_n 0, 1) := by decide +kernel
theorem dX4_bequeath_1 : decode cX4_bequeath 1 = .ok (.iload_n 2, 1) := by decide +kernel
theorem dX4_bequeath_2 : decode cX4_bequeath 2 = .ok (.aload_n 0, 1) := by decide +kernel
theorem dX4_bequeath_3 : decode cX4_bequeath 3 = .ok (.getfield 18, 3) := by decide +kernel
theorem dX4_bequeath_6 : decode cX4_bequeath 6 = .ok (.iload_n 1, 1) := by decide +kernel
theorem dX4_bequeath_7 : decode cX4_bequeath 7 = .ok (.iaload, 1) := by decide +kernel
theorem dX4_bequeath_8 : decode cX4_bequeath 8 = .ok (.invokevirtual 120, 3) := by decide +kernel
theorem dX4_bequeath_11 : decode cX4_bequeath 11 = .ok (.iconst 0, 1) := by decide +kernel
theorem dX4_bequeath_12 : decode cX4_bequeath 12 = .ok (.istore_n 3, 1) := by decide +kernel
theorem dX4_bequeath_13 : decode cX4_bequeath 13 = .ok (.iload_n 3, 1) := by decide +kernel
theorem dX4_bequeath_14 : decode cX4_bequeath 14 = .ok (.aload_n 0, 1) := by decide +kernel
theorem dX4_bequeath_15 : decode cX4_bequeath 15 = .ok (.getfield 27, 3) := by decide +kernel
theorem dX4_bequeath_18 : decode cX4_bequeath 18 = .ok (.if_icmp .ge 34, 3) := by decide +kernel
theorem dX4_bequeath_21 : decode cX4_bequeath 21 = .ok (.iload_n 3, 1) := by decide +kernel
theorem dX4_bequeath_22 : decode cX4_bequeath 22 = .ok (.iload_n 2, 1) := by decide +kernel
theorem dX4_bequeath_23 : decode cX4_bequeath 23 = .ok (.if_icmp .eq 23, 3) := by decide +kernel
theorem dX4_bequeath_26 : decode cX4_bequeath 26 = .ok (.aload_n 0, 1) := by decide +kernel
theorem dX4_bequeath_27 : decode cX4_bequeath 27 = .ok (.getfield 24, 3) := by decide +kernel
theorem dX4_bequeath_30 : decode cX4_bequeath 30 = .ok (.aload_n 0, 1) := by decide +kernel
theorem dX4_bequeath_31 : decode cX4_bequeath 31 = .ok (.iload_n 3, 1) := by decide +kernel
theorem dX4_bequeath_32 : decode cX4_bequeath 32 = .ok (.iload_n 2, 1) := by decide +kernel
theorem dX4_bequeath_33 : decode cX4_bequeath 33 = .ok (.invokevirtual 60, 3) := by decide +kernel
theorem dX4_bequeath_36 : decode cX4_bequeath 36 = .ok (.dup2, 1) := by decide +kernel
theorem dX4_bequeath_37 : decode cX4_bequeath 37 = .ok (.iaload, 1) := by decide +kernel
theorem dX4_bequeath_38 : decode cX4_bequeath 38 = .ok (.aload_n 0, 1) := by decide +kernel
theorem dX4_bequeath_39 : decode cX4_bequeath 39 = .ok (.iload_n 3, 1) := by decide +kernel
theorem dX4_bequeath_40 : decode cX4_bequeath 40 = .ok (.iload_n 1, 1) := by decide +kernel
theorem dX4_bequeath_41 : decode cX4_bequeath 41 = .ok (.invokevirtual 74, 3) := by decide +kernel
theorem dX4_bequeath_44 : decode cX4_bequeath 44 = .ok (.iadd, 1) := by decide +kernel
theorem dX4_bequeath_45 : decode cX4_bequeath 45 = .ok (.iastore, 1) := by decide +kernel
theorem dX4_bequeath_46 : decode cX4_bequeath 46 = .ok (.iinc 3 1, 3) := by decide +kernel
theorem dX4_bequeath_49 : decode cX4_bequeath 49 = .ok (.goto (-36), 3) := by decide +kernel
theorem dX4_bequeath_52 : decode cX4_bequeath 52 = .ok (.return_, 1) := by decide +kernel
theorem dX4_letDaysGoBy_0 : decode cX4_letDaysGoBy 0 = .ok (.aload_n 0, 1) := by decide +kernel
theorem dX4_letDaysGoBy_1 : decode cX4_letDaysGoBy 1 = .ok (.dup, 1) := by decide +kernel
theorem dX4_letDaysGoBy_2 : decode cX4_letDaysGoBy 2 = .ok (.getfield 40, 3) := by decide +kernel
theorem dX4_letDaysGoBy_5 : decode cX4_letDaysGoBy 5 = .ok (.iload_n 1, 1) := by decide +kernel
theorem dX4_letDaysGoBy_6 : decode cX4_letDaysGoBy 6 = .ok (.iadd, 1) := by decide +kernel
theorem dX4_letDaysGoBy_7 : decode cX4_letDaysGoBy 7 = .ok (.putfield 40, 3) := by decide +kernel
theorem dX4_letDaysGoBy_10 : decode cX4_letDaysGoBy 10 = .ok (.aload_n 0, 1) := by decide +kernel
theorem dX4_letDaysGoBy_11 : decode cX4_letDaysGoBy 11 = .ok (.iconst 0, 1) := by decide +kernel
theorem dX4_letDaysGoBy_12 : decode cX4_letDaysGoBy 12 = .ok (.putfield 43, 3) := by decide +kernel
theorem dX4_letDaysGoBy_15 : decode cX4_letDaysGoBy 15 = .ok (.return_, 1) := by decide +kernel
theorem dX4_liveOneDay_0 : decode cX4_liveOneDay 0 = .ok (.aload_n 0, 1) := by decide +kernel
theorem dX4_liveOneDay_1 : decode cX4_liveOneDay 1 = .ok (.getfield 27, 3) := by decide +kernel
theorem dX4_liveOneDay_4 : decode cX4_liveOneDay 4 = .ok (.iconst 1, 1) := by decide +kernel
theorem dX4_liveOneDay_5 : decode cX4_liveOneDay 5 = .ok (.if_icmp .ge 5, 3) := by decide +kernel
theorem dX4_liveOneDay_8 : decode cX4_liveOneDay 8 = .ok (.iconst 0, 1) := by decide +kernel
theorem dX4_liveOneDay_9 : decode cX4_liveOneDay 9 = .ok (.ireturn, 1) := by decide +kernel
theorem dX4_liveOneDay_10 : decode cX4_liveOneDay 10 = .ok (.iload_n 1, 1) := by decide +kernel
theorem dX4_liveOneDay_11 : decode cX4_liveOneDay 11 = .ok (.aload_n 0, 1) := by decide +kernel
theorem dX4_liveOneDay_12 : decode cX4_liveOneDay 12 = .ok (.getfield 27, 3) := by decide +kernel
theorem dX4_liveOneDay_15 : decode cX4_liveOneDay 15 = .ok (.irem, 1) := by decide +kernel
theorem dX4_liveOneDay_16 : decode cX4_liveOneDay 16 = .ok (.istore_n 2, 1) := by decide +kernel
theorem dX4_liveOneDay_17 : decode cX4_liveOneDay 17 = .ok (.iload_n 1, 1) := by decide +kernel
theorem dX4_liveOneDay_18 : decode cX4_liveOneDay 18 = .ok (.bipush 8, 2) := by decide +kernel
theorem dX4_liveOneDay_20 : decode cX4_liveOneDay 20 = .ok (.idiv, 1) := by decide +kernel
theorem dX4_liveOneDay_21 : decode cX4_liveOneDay 21 = .ok (.iconst 4, 1) := by decide +kernel
theorem dX4_liveOneDay_22 : decode cX4_liveOneDay 22 = .ok (.irem, 1) := by decide +kernel
theorem dX4_liveOneDay_23 : decode cX4_liveOneDay 23 = .ok (.istore_n 3, 1) := by decide +kernel
theorem dX4_liveOneDay_24 : decode cX4_liveOneDay 24 = .ok (.iload_n 1, 1) := by decide +kernel
theorem dX4_liveOneDay_25 : decode cX4_liveOneDay 25 = .ok (.bipush 32, 2) := by decide +kernel
theorem dX4_liveOneDay_27 : decode cX4_liveOneDay 27 = .ok (.idiv, 1) := by decide +kernel
theorem dX4_liveOneDay_28 : decode cX4_liveOneDay 28 = .ok (.iconst 4, 1) := by decide +kernel
theorem dX4_liveOneDay_29 : decode cX4_liveOneDay 29 = .ok (.irem, 1) := by decide +kernel
theorem dX4_liveOneDay_30 : decode cX4_liveOneDay 30 = .ok (.istore 4, 2) := by decide +kernel
theorem dX4_liveOneDay_32 : decode cX4_liveOneDay 32 = .ok (.iload_n 1, 1) := by decide +kernel
theorem dX4_liveOneDay_33 : decode cX4_liveOneDay 33 = .ok (.sipush 128, 3) := by decide +kernel
theorem dX4_liveOneDay_36 : decode cX4_liveOneDay 36 = .ok (.idiv, 1) := by decide +kernel
theorem dX4_liveOneDay_37 : decode cX4_liveOneDay 37 = .ok (.aload_n 0, 1) := by decide +kernel
theorem dX4_liveOneDay_38 : decode cX4_liveOneDay 38 = .ok (.getfield 27, 3) := by decide +kernel
theorem dX4_liveOneDay_41 : decode cX4_liveOneDay 41 = .ok (.irem, 1) := by decide +kernel
theorem dX4_liveOneDay_42 : decode cX4_liveOneDay 42 = .ok (.istore 5, 2) := by decide +kernel
theorem dX4_liveOneDay_44 : decode cX4_liveOneDay 44 = .ok (.iconst 0, 1) := by decide +kernel
theorem dX4_liveOneDay_45 : decode cX4_liveOneDay 45 = .ok (.istore 6, 2) := by decide +kernel
theorem dX4_liveOneDay_47 : decode cX4_liveOneDay 47 = .ok (.aload_n 0, 1) := by decide +kernel
theorem dX4_liveOneDay_48 : decode cX4_liveOneDay 48 = .ok (.iload_n 2, 1) := by decide +kernel
theorem dX4_liveOneDay_49 : decode cX4_liveOneDay 49 = .ok (.iload_n 3, 1) := by decide +kernel
theorem dX4_liveOneDay_50 : decode cX4_liveOneDay 50 = .ok (.iload 4, 2) := by decide +kernel
theorem dX4_liveOneDay_52 : decode cX4_liveOneDay 52 = .ok (.invokevirtual 130, 3) := by decide +kernel
theorem dX4_liveOneDay_55 : decode cX4_liveOneDay 55 = .ok (.ifCond .eq 19, 3) := by decide +kernel
theorem dX4_liveOneDay_58 : decode cX4_liveOneDay 58 = .ok (.aload_n 0, 1) := by decide +kernel
theorem dX4_liveOneDay_59 : decode cX4_liveOneDay 59 = .ok (.iload_n 2, 1) := by decide +kernel
theorem dX4_liveOneDay_60 : decode cX4_liveOneDay 60 = .ok (.iload_n 3, 1) := by decide +kernel
theorem dX4_liveOneDay_61 : decode cX4_liveOneDay 61 = .ok (.iload 4, 2) := by decide +kernel
theorem dX4_liveOneDay_63 : decode cX4_liveOneDay 63 = .ok (.invokevirtual 134, 3) := by decide +kernel
theorem dX4_liveOneDay_66 : decode cX4_liveOneDay 66 = .ok (.invokestatic 137, 3) := by decide +kernel
theorem dX4_liveOneDay_69 : decode cX4_liveOneDay 69 = .ok (.istore 6, 2) := by decide +kernel
theorem dX4_liveOneDay_71 : decode cX4_liveOneDay 71 = .ok (.goto 26, 3) := by decide +kernel
theorem dX4_liveOneDay_74 : decode cX4_liveOneDay 74 = .ok (.iload_n 2, 1) := by decide +kernel
theorem dX4_liveOneDay_75 : decode cX4_liveOneDay 75 = .ok (.iload 5, 2) := by decide +kernel
theorem dX4_liveOneDay_77 : decode cX4_liveOneDay 77 = .ok (.if_icmp .eq 20, 3) := by decide +kernel
theorem dX4_liveOneDay_80 : decode cX4_liveOneDay 80 = .ok (.aload_n 0, 1) := by decide +kernel
theorem dX4_liveOneDay_81 : decode cX4_liveOneDay 81 = .ok (.iload_n 2, 1) := by decide +kernel
theorem dX4_liveOneDay_82 : decode cX4_liveOneDay 82 = .ok (.iload 5, 2) := by decide +kernel
theorem dX4_liveOneDay_84 : decode cX4_liveOneDay 84 = .ok (.invokevirtual 142, 3) := by decide +kernel
theorem dX4_liveOneDay_87 : decode cX4_liveOneDay 87 = .ok (.ifCond .eq 10, 3) := by decide +kernel
theorem dX4_liveOneDay_90 : decode cX4_liveOneDay 90 = .ok (.aload_n 0, 1) := by decide +kernel
theorem dX4_liveOneDay_91 : decode cX4_liveOneDay 91 = .ok (.iload_n 2, 1) := by decide +kernel
theorem dX4_liveOneDay_92 : decode cX4_liveOneDay 92 = .ok (.iload 5, 2) := by decide +kernel
theorem dX4_liveOneDay_94 : decode cX4_liveOneDay 94 = .ok (.invokevirtual 145, 3) := by decide +kernel
theorem dX4_liveOneDay_97 : decode cX4_liveOneDay 97 = .ok (.aload_n 0, 1) := by decide +kernel
theorem dX4_liveOneDay_98 : decode cX4_liveOneDay 98 = .ok (.iconst 1, 1) := by decide +kernel
theorem dX4_liveOneDay_99 : decode cX4_liveOneDay 99 = .ok (.invokevirtual 148, 3) := by decide +kernel
theorem dX4_liveOneDay_102 : decode cX4_liveOneDay 102 = .ok (.iload 6, 2) := by decide +kernel
theorem dX4_liveOneDay_104 : decode cX4_liveOneDay 104 = .ok (.ireturn, 1) := by decide +kernel
theorem dX4_gainOf_0 : decode cX4_gainOf 0 = .ok (.iconst 3, 1) := by decide +kernel
theorem dX4_gainOf_1 : decode cX4_gainOf 1 = .ok (.aload_n 0, 1) := by decide +kernel
theorem dX4_gainOf_2 : decode cX4_gainOf 2 = .ok (.iload_n 2, 1) := by decide +kernel
theorem dX4_gainOf_3 : decode cX4_gainOf 3 = .ok (.iload_n 1, 1) := by decide +kernel
theorem dX4_gainOf_4 : decode cX4_gainOf 4 = .ok (.invokevirtual 77, 3) := by decide +kernel
theorem dX4_gainOf_7 : decode cX4_gainOf 7 = .ok (.imul, 1) := by decide +kernel
theorem dX4_gainOf_8 : decode cX4_gainOf 8 = .ok (.aload_n 0, 1) := by decide +kernel
theorem dX4_gainOf_9 : decode cX4_gainOf 9 = .ok (.getfield 18, 3) := by decide +kernel
theorem dX4_gainOf_12 : decode cX4_gainOf 12 = .ok (.iload_n 1, 1) := by decide +kernel
theorem dX4_gainOf_13 : decode cX4_gainOf 13 = .ok (.iaload, 1) := by decide +kernel
theorem dX4_gainOf_14 : decode cX4_gainOf 14 = .ok (.iadd, 1) := by decide +kernel
theorem dX4_gainOf_15 : decode cX4_gainOf 15 = .ok (.ireturn, 1) := by decide +kernel
theorem dX5_init_0 : decode cX5_init 0 = .ok (.aload_n 0, 1) := by decide +kernel
theorem dX5_init_1 : decode cX5_init 1 = .ok (.invokespecial 1, 3) := by decide +kernel
theorem dX5_init_4 : decode cX5_init 4 = .ok (.aload_n 0, 1) := by decide +kernel
theorem dX5_init_5 : decode cX5_init 5 = .ok (.new 7, 3) := by decide +kernel
theorem dX5_init_8 : decode cX5_init 8 = .ok (.dup, 1) := by decide +kernel
theorem dX5_init_9 : decode cX5_init 9 = .ok (.invokespecial 9, 3) := by decide +kernel
theorem dX5_init_12 : decode cX5_init 12 = .ok (.putfield 10, 3) := by decide +kernel
theorem dX5_init_15 : decode cX5_init 15 = .ok (.aload_n 0, 1) := by decide +kernel
theorem dX5_init_16 : decode cX5_init 16 = .ok (.new 16, 3) := by decide +kernel
theorem dX5_init_19 : decode cX5_init 19 = .ok (.dup, 1) := by decide +kernel
theorem dX5_init_20 : decode cX5_init 20 = .ok (.invokespecial 18, 3) := by decide +kernel
theorem dX5_init_23 : decode cX5_init 23 = .ok (.putfield 19, 3) := by decide +kernel
theorem dX5_init_26 : decode cX5_init 26 = .ok (.aload_n 0, 1) := by decide +kernel
theorem dX5_init_27 : decode cX5_init 27 = .ok (.new 16, 3) := by decide +kernel
theorem dX5_init_30 : decode cX5_init 30 = .ok (.dup, 1) := by decide +kernel
theorem dX5_init_31 : decode cX5_init 31 = .ok (.invokespecial 18, 3) := by decide +kernel
theorem dX5_init_34 : decode cX5_init 34 = .ok (.putfield 23, 3) := by decide +kernel
theorem dX5_init_37 : decode cX5_init 37 = .ok (.aload_n 0, 1) := by decide +kernel
theorem dX5_init_38 : decode cX5_init 38 = .ok (.new 26, 3) := by decide +kernel
theorem dX5_init_41 : decode cX5_init 41 = .ok (.dup, 1) := by decide +kernel
theorem dX5_init_42 : decode cX5_init 42 = .ok (.bipush 8, 2) := by decide +kernel
theorem dX5_init_44 : decode cX5_init 44 = .ok (.invokespecial 28, 3) := by decide +kernel
theorem dX5_init_47 : decode cX5_init 47 = .ok (.putfield 31, 3) := by decide +kernel
theorem dX5_init_50 : decode cX5_init 50 = .ok (.aload_n 0, 1) := by decide +kernel
theorem dX5_init_51 : decode cX5_init 51 = .ok (.new 26, 3) := by decide +kernel
theorem dX5_init_54 : decode cX5_init 54 = .ok (.dup, 1) := by decide +kernel
theorem dX5_init_55 : decode cX5_init 55 = .ok (.iconst 2, 1) := by decide +kernel
theorem dX5_init_56 : decode cX5_init 56 = .ok (.invokespecial 28, 3) := by decide +kernel
theorem dX5_init_59 : decode cX5_init 59 = .ok (.putfield 35, 3) := by decide +kernel
theorem dX5_init_62 : decode cX5_init 62 = .ok (.aload_n 0, 1) := by decide +kernel
theorem dX5_init_63 : decode cX5_init 63 = .ok (.new 38, 3) := by decide +kernel
theorem dX5_init_66 : decode cX5_init 66 = .ok (.dup, 1) := by decide +kernel
theorem dX5_init_67 : decode cX5_init 67 = .ok (.invokespecial 40, 3) := by decide +kernel
theorem dX5_init_70 : decode cX5_init 70 = .ok (.putfield 41, 3) := by decide +kernel
theorem dX5_init_73 : decode cX5_init 73 = .ok (.aload_n 0, 1) := by decide +kernel
theorem dX5_init_74 : decode cX5_init 74 = .ok (.new 45, 3) := by decide +kernel
theorem dX5_init_77 : decode cX5_init 77 = .ok (.dup, 1) := by decide +kernel
theorem dX5_init_78 : decode cX5_init 78 = .ok (.invokespecial 47, 3) := by decide +kernel
theorem dX5_init_81 : decode cX5_init 81 = .ok (.putfield 48, 3) := by decide +kernel
theorem dX5_init_84 : decode cX5_init 84 = .ok (.iconst 0, 1) := by decide +kernel
theorem dX5_init_85 : decode cX5_init 85 = .ok (.istore_n 1, 1) := by decide +kernel
theorem dX5_init_86 : decode cX5_init 86 = .ok (.iload_n 1, 1) := by decide +kernel
theorem dX5_init_87 : decode cX5_init 87 = .ok (.ldc 52, 2) := by decide +kernel
theorem dX5_init_89 : decode cX5_init 89 = .ok (.invokevirtual 54, 3) := by decide +kernel
theorem dX5_init_92 : decode cX5_init 92 = .ok (.if_icmp .ge 22, 3) := by decide +kernel
theorem dX5_init_95 : decode cX5_init 95 = .ok (.aload_n 0, 1) := by decide +kernel
theorem dX5_init_96 : decode cX5_init 96 = .ok (.getfield 10, 3) := by decide +kernel
theorem dX5_init_99 : decode cX5_init 99 = .ok (.ldc 52, 2) := by decide +kernel
theorem dX5_init_101 : decode cX5_init 101 = .ok (.iload_n 1, 1) := by decide +kernel
theorem dX5_init_102 : decode cX5_init 102 = .ok (.invokevirtual 60, 3) := by decide +kernel
theorem dX5_init_105 : decode cX5_init 105 = .ok (.invokevirtual 64, 3) := by decide +kernel
theorem dX5_init_108 : decode cX5_init 108 = .ok (.iinc 1 1, 3) := by decide +kernel
theorem dX5_init_111 : decode cX5_init 111 = .ok (.goto (-25), 3) := by decide +kernel
theorem dX5_init_114 : decode cX5_init 114 = .ok (.aload_n 0, 1) := by decide +kernel
theorem dX5_init_115 : decode cX5_init 115 = .ok (.getfield 10, 3) := by decide +kernel
theorem dX5_init_118 : decode cX5_init 118 = .ok (.aload_n 0, 1) := by decide +kernel
theorem dX5_init_119 : decode cX5_init 119 = .ok (.getfield 19, 3) := by decide +kernel
theorem dX5_init_122 : decode cX5_init 122 = .ok (.invokevirtual 68, 3) := by decide +kernel
theorem dX5_init_125 : decode cX5_init 125 = .ok (.pop, 1) := by decide +kernel
theorem dX5_init_126 : decode cX5_init 126 = .ok (.aload_n 0, 1) := by decide +kernel
theorem dX5_init_127 : decode cX5_init 127 = .ok (.getfield 10, 3) := by decide +kernel
theorem dX5_init_130 : decode cX5_init 130 = .ok (.invokevirtual 72, 3) := by decide +kernel
theorem dX5_init_133 : decode cX5_init 133 = .ok (.return_, 1) := by decide +kernel
theorem dX5_write_0 : decode cX5_write 0 = .ok (.iload_n 1, 1) := by decide +kernel
theorem dX5_write_1 : decode cX5_write 1 = .ok (.bipush 32, 2) := by decide +kernel
theorem dX5_write_3 : decode cX5_write 3 = .ok (.bipush 126, 2) := by decide +kernel
theorem dX5_write_5 : decode cX5_write 5 = .ok (.invokestatic 75, 3) := by decide +kernel
theorem dX5_write_8 : decode cX5_write 8 = .ok (.ifCond .ne 5, 3) := by decide +kernel
theorem dX5_write_11 : decode cX5_write 11 = .ok (.iconst (-1), 1) := by decide +kernel
theorem dX5_write_12 : decode cX5_write 12 = .ok (.ireturn, 1) := by decide +kernel
theorem dX5_write_13 : decode cX5_write 13 = .ok (.aload_n 0, 1) := by decide +kernel
theorem dX5_write_14 : decode cX5_write 14 = .ok (.getfield 10, 3) := by decide +kernel
theorem dX5_write_17 : decode cX5_write 17 = .ok (.invokevirtual 79, 3) := by decide +kernel
theorem dX5_write_20 : decode cX5_write 20 = .ok (.ifCond .eq 6, 3) := by decide +kernel
theorem dX5_write_23 : decode cX5_write 23 = .ok (.bipush (-3), 2) := by decide +kernel
theorem dX5_write_25 : decode cX5_write 25 = .ok (.ireturn, 1) := by decide +kernel
theorem dX5_write_26 : decode cX5_write 26 = .ok (.aload_n 0, 1) := by decide +kernel
theorem dX5_write_27 : decode cX5_write 27 = .ok (.getfield 10, 3) := by decide +kernel
theorem dX5_write_30 : decode cX5_write 30 = .ok (.iload_n 1, 1) := by decide +kernel
theorem dX5_write_31 : decode cX5_write 31 = .ok (.i2c, 1) := by decide +kernel
theorem dX5_write_32 : decode cX5_write 32 = .ok (.invokevirtual 64, 3) := by decide +kernel
theorem dX5_write_35 : decode cX5_write 35 = .ok (.aload_n 0, 1) := by decide +kernel
theorem dX5_write_36 : decode cX5_write 36 = .ok (.getfield 10, 3) := by decide +kernel
theorem dX5_write_39 : decode cX5_write 39 = .ok (.getfield 83, 3) := by decide +kernel
theorem dX5_write_42 : decode cX5_write 42 = .ok (.ireturn, 1) := by decide +kernel
theorem dX5_wipe_0 : decode cX5_wipe 0 = .ok (.aload_n 0, 1) := by decide +kernel
theorem dX5_wipe_1 : decode cX5_wipe 1 = .ok (.getfield 10, 3) := by decide +kernel
theorem dX5_wipe_4 : decode cX5_wipe 4 = .ok (.getfield 83, 3) := by decide +kernel
theorem dX5_wipe_7 : decode cX5_wipe 7 = .ok (.istore_n 1, 1) := by decide +kernel
theorem dX5_wipe_8 : decode cX5_wipe 8 = .ok (.aload_n 0, 1) := by decide +kernel
theorem dX5_wipe_9 : decode cX5_wipe 9 = .ok (.getfield 10, 3) := by decide +kernel
theorem dX5_wipe_12 : decode cX5_wipe 12 = .ok (.invokevirtual 72, 3) := by decide +kernel
theorem dX5_wipe_15 : decode cX5_wipe 15 = .ok (.iload_n 1, 1) := by decide +kernel
theorem dX5_wipe_16 : decode cX5_wipe 16 = .ok (.ireturn, 1) := by decide +kernel
theorem dX5_fault_0 : decode cX5_fault 0 = .ok (.aload_n 0, 1) := by decide +kernel
theorem dX5_fault_1 : decode cX5_fault 1 = .ok (.getfield 10, 3) := by decide +kernel
theorem dX5_fault_4 : decode cX5_fault 4 = .ok (.aload_n 0, 1) := by decide +kernel
theorem dX5_fault_5 : decode cX5_fault 5 = .ok (.getfield 23, 3) := by decide +kernel
theorem dX5_fault_8 : decode cX5_fault 8 = .ok (.invokevirtual 68, 3) := by decide +kernel
theorem dX5_fault_11 : decode cX5_fault 11 = .ok (.ireturn, 1) := by decide +kernel
theorem dX5_lay_0 : decode cX5_lay 0 = .ok (.aload_n 0, 1) := by decide +kernel
theorem dX5_lay_1 : decode cX5_lay 1 = .ok (.getfield 10, 3) := by decide +kernel
theorem dX5_lay_4 : decode cX5_lay 4 = .ok (.aload_n 0, 1) := by decide +kernel
theorem dX5_lay_5 : decode cX5_lay 5 = .ok (.getfield 23, 3) := by decide +kernel
theorem dX5_lay_8 : decode cX5_lay 8 = .ok (.invokevirtual 68, 3) := by decide +kernel
theorem dX5_lay_11 : decode cX5_lay 11 = .ok (.bipush (-4), 2) := by decide +kernel
theorem dX5_lay_13 : decode cX5_lay 13 = .ok (.if_icmp .ne 14, 3) := by decide +kernel
theorem dX5_lay_16 : decode cX5_lay 16 = .ok (.aload_n 0, 1) := by decide +kernel
theorem dX5_lay_17 : decode cX5_lay 17 = .ok (.getfield 23, 3) := by decide +kernel
theorem dX5_lay_20 : decode cX5_lay 20 = .ok (.getfield 86, 3) := by decide +kernel
theorem dX5_lay_23 : decode cX5_lay 23 = .ok (.iconst 1, 1) := by decide +kernel
theorem dX5_lay_24 : decode cX5_lay 24 = .ok (.if_icmp .ge 6, 3) := by decide +kernel
theorem dX5_lay_27 : decode cX5_lay 27 = .ok (.bipush (-2), 2) := by decide +kernel
theorem dX5_lay_29 : decode cX5_lay 29 = .ok (.ireturn, 1) := by decide +kernel
theorem dX5_lay_30 : decode cX5_lay 30 = .ok (.aload_n 0, 1) := by decide +kernel
theorem dX5_lay_31 : decode cX5_lay 31 = .ok (.getfield 19, 3) := by decide +kernel
theorem dX5_lay_34 : decode cX5_lay 34 = .ok (.aload_n 0, 1) := by decide +kernel
theorem dX5_lay_35 : decode cX5_lay 35 = .ok (.getfield 23, 3) := by decide +kernel
theorem dX5_lay_38 : decode cX5_lay 38 = .ok (.invokevirtual 89, 3) := by decide +kernel
theorem dX5_lay_41 : decode cX5_lay 41 = .ok (.aload_n 0, 1) := by decide +kernel
theorem dX5_lay_42 : decode cX5_lay 42 = .ok (.getfield 31, 3) := by decide +kernel
theorem dX5_lay_45 : decode cX5_lay 45 = .ok (.invokevirtual 93, 3) := by decide +kernel
theorem dX5_lay_48 : decode cX5_lay 48 = .ok (.aload_n 0, 1) := by decide +kernel
theorem dX5_lay_49 : decode cX5_lay 49 = .ok (.getfield 35, 3) := by decide +kernel
theorem dX5_lay_52 : decode cX5_lay 52 = .ok (.invokevirtual 93, 3) := by decide +kernel
theorem dX5_lay_55 : decode cX5_lay 55 = .ok (.aload_n 0, 1) := by decide +kernel
theorem dX5_lay_56 : decode cX5_lay 56 = .ok (.getfield 41, 3) := by decide +kernel
theorem dX5_lay_59 : decode cX5_lay 59 = .ok (.iconst 0, 1) := by decide +kernel
theorem dX5_lay_60 : decode cX5_lay 60 = .ok (.putfield 94, 3) := by decide +kernel
theorem dX5_lay_63 : decode cX5_lay 63 = .ok (.aload_n 0, 1) := by decide +kernel
theorem dX5_lay_64 : decode cX5_lay 64 = .ok (.getfield 19, 3) := by decide +kernel
theorem dX5_lay_67 : decode cX5_lay 67 = .ok (.getfield 86, 3) := by decide +kernel
theorem dX5_lay_70 : decode cX5_lay 70 = .ok (.ireturn, 1) := by decide +kernel
theorem dX5_person_0 : decode cX5_person 0 = .ok (.aload_n 0, 1) := by decide +kernel
theorem dX5_person_1 : decode cX5_person 1 = .ok (.getfield 19, 3) := by decide +kernel
theorem dX5_person_4 : decode cX5_person 4 = .ok (.iload_n 1, 1) := by decide +kernel
theorem dX5_person_5 : decode cX5_person 5 = .ok (.invokevirtual 97, 3) := by decide +kernel
theorem dX5_person_8 : decode cX5_person 8 = .ok (.ifCond .eq 12, 3) := by decide +kernel
theorem dX5_person_11 : decode cX5_person 11 = .ok (.iload_n 2, 1) := by decide +kernel
theorem dX5_person_12 : decode cX5_person 12 = .ok (.iconst 0, 1) := by decide +kernel
theorem dX5_person_13 : decode cX5_person 13 = .ok (.iconst 5, 1) := by decide +kernel
theorem dX5_person_14 : decode cX5_person 14 = .ok (.invokestatic 75, 3) := by decide +kernel
theorem dX5_person_17 : decode cX5_person 17 = .ok (.ifCond .ne 5, 3) := by decide +kernel
theorem dX5_person_20 : decode cX5_person 20 = .ok (.iconst (-1), 1) := by decide +kernel
theorem dX5_person_21 : decode cX5_person 21 = .ok (.ireturn, 1) := by decide +kernel
theorem dX5_person_22 : decode cX5_person 22 = .ok (.iload_n 2, 1) := by decide +kernel
theorem dX5_person_23 : decode cX5_person 23 = .ok (.tableswitch 96 0 4 #[33, 43, 52, 62, 79], 33) := by decide +kernel
theorem dX5_person_56 : decode cX5_person 56 = .ok (.aload_n 0, 1) := by decide +kernel
theorem dX5_person_57 : decode cX5_person 57 = .ok (.getfield 19, 3) := by decide +kernel
theorem dX5_person_60 : decode cX5_person 60 = .ok (.getfield 101, 3) := by decide +kernel
theorem dX5_person_63 : decode cX5_person 63 = .ok (.iload_n 1, 1) := by decide +kernel
theorem dX5_person_64 : decode cX5_person 64 = .ok (.iaload, 1) := by decide +kernel
theorem dX5_person_65 : decode cX5_person 65 = .ok (.ireturn, 1) := by decide +kernel
theorem dX5_person_66 : decode cX5_person 66 = .ok (.aload_n 0, 1) := by decide +kernel
theorem dX5_person_67 : decode cX5_person 67 = .ok (.getfield 19, 3) := by decide +kernel
theorem dX5_person_70 : decode cX5_person 70 = .ok (.iload_n 1, 1) := by decide +kernel
theorem dX5_person_71 : decode cX5_person 71 = .ok (.invokevirtual 105, 3) := by decide +kernel
theorem dX5_person_74 : decode cX5_person 74 = .ok (.ireturn, 1) := by decide +kernel
theorem dX5_person_75 : decode cX5_person 75 = .ok (.aload_n 0, 1) := by decide +kernel
theorem dX5_person_76 : decode cX5_person 76 = .ok (.getfield 19, 3) := by decide +kernel
theorem dX5_person_79 : decode cX5_person 79 = .ok (.getfield 109, 3) := by decide +kernel
theorem dX5_person_82 : decode cX5_person 82 = .ok (.iload_n 1, 1) := by decide +kernel
theorem dX5_person_83 : decode cX5_person 83 = .ok (.iaload, 1) := by decide +kernel
theorem dX5_person_84 : decode cX5_person 84 = .ok (.ireturn, 1) := by decide +kernel
theorem dX5_person_85 : decode cX5_person 85 = .ok (.aload_n 0, 1) := by decide +kernel
theorem dX5_person_86 : decode cX5_person 86 = .ok (.getfield 19, 3) := by decide +kernel
theorem dX5_person_89 : decode cX5_person 89 = .ok (.iload_n 1, 1) := by decide +kernel
theorem dX5_person_90 : decode cX5_person 90 = .ok (.invokevirtual 112, 3) := by decide +kernel
theorem dX5_person_93 : decode cX5_person 93 = .ok (.ifCond .eq 7, 3) := by decide +kernel
theorem dX5_person_96 : decode cX5_person 96 = .ok (.iconst 0, 1) := by decide +kernel
theorem dX5_person_97 : decode cX5_person 97 = .ok (.goto 4, 3) := by decide +kernel
theorem dX5_person_100 : decode cX5_person 100 = .ok (.iconst 1, 1) := by decide +kernel
theorem dX5_person_101 : decode cX5_person 101 = .ok (.ireturn, 1) := by decide +kernel
theorem dX5_person_102 : decode cX5_person 102 = .ok (.aload_n 0, 1) := by decide +kernel
theorem dX5_person_103 : decode cX5_person 103 = .ok (.getfield 19, 3) := by decide +kernel
theorem dX5_person_106 : decode cX5_person 106 = .ok (.iload_n 1, 1) := by decide +kernel
theorem dX5_person_107 : decode cX5_person 107 = .ok (.invokevirtual 115, 3) := by decide +kernel
theorem dX5_person_110 : decode cX5_person 110 = .ok (.ifCond .eq 7, 3) := by decide +kernel
theorem dX5_person_113 : decode cX5_person 113 = .ok (.iconst 1, 1) := by decide +kernel
theorem dX5_person_114 : decode cX5_person 114 = .ok (.goto 4, 3) := by decide +kernel
theorem dX5_person_117 : decode cX5_person 117 = .ok (.iconst 0, 1) := by decide +kernel
theorem dX5_person_118 : decode cX5_person 118 = .ok (.ireturn, 1) := by decide +kernel
theorem dX5_person_119 : decode cX5_person 119 = .ok (.aload_n 0, 1) := by decide +kernel
theorem dX5_person_120 : decode cX5_person 120 = .ok (.getfield 19, 3) := by decide +kernel
theorem dX5_person_123 : decode cX5_person 123 = .ok (.iload_n 1, 1) := by decide +kernel
theorem dX5_person_124 : decode cX5_person 124 = .ok (.invokevirtual 112, 3) := by decide +kernel
theorem dX5_person_127 : decode cX5_person 127 = .ok (.ifCond .eq 14, 3) := by decide +kernel
theorem dX5_person_130 : decode cX5_person 130 = .ok (.aload_n 0, 1) := by decide +kernel
theorem dX5_person_131 : decode cX5_person 131 = .ok (.getfield 19, 3) := by decide +kernel
theorem dX5_person_134 : decode cX5_person 134 = .ok (.iload_n 1, 1) := by decide +kernel
theorem dX5_person_135 : decode cX5_person 135 = .ok (.invokevirtual 118, 3) := by decide +kernel
theorem dX5_person_138 : decode cX5_person 138 = .ok (.goto 5, 3) := by decide +kernel
theorem dX5_person_141 : decode cX5_person 141 = .ok (.bipush (-4), 2) := by decide +kernel
theorem dX5_person_143 : decode cX5_person 143 = .ok (.ireturn, 1) := by decide +kernel
theorem dX5_tie_0 : decode cX5_tie 0 = .ok (.aload_n 0, 1) := by decide +kernel
theorem dX5_tie_1 : decode cX5_tie 1 = .ok (.getfield 19, 3) := by decide +kernel
theorem dX5_tie_4 : decode cX5_tie 4 = .ok (.iload_n 1, 1) := by decide +kernel
theorem dX5_tie_5 : decode cX5_tie 5 = .ok (.iload_n 2, 1) := by decide +kernel
theorem dX5_tie_6 : decode cX5_tie 6 = .ok (.invokevirtual 121, 3) := by decide +kernel
theorem dX5_tie_9 : decode cX5_tie 9 = .ok (.ifCond .ne 5, 3) := by decide +kernel
theorem dX5_tie_12 : decode cX5_tie 12 = .ok (.iconst (-1), 1) := by decide +kernel
theorem dX5_tie_13 : decode cX5_tie 13 = .ok (.ireturn, 1) := by decide +kernel
theorem dX5_tie_14 : decode cX5_tie 14 = .ok (.aload_n 0, 1) := by decide +kernel
theorem dX5_tie_15 : decode cX5_tie 15 = .ok (.getfield 19, 3) := by decide +kernel
theorem dX5_tie_18 : decode cX5_tie 18 = .ok (.iload_n 1, 1) := by decide +kernel
theorem dX5_tie_19 : decode cX5_tie 19 = .ok (.iload_n 2, 1) := by decide +kernel
theorem dX5_tie_20 : decode cX5_tie 20 = .ok (.invokevirtual 125, 3) := by decide +kernel
theorem dX5_tie_23 : decode cX5_tie 23 = .ok (.iconst 4, 1) := by decide +kernel
theorem dX5_tie_24 : decode cX5_tie 24 = .ok (.iadd, 1) := by decide +kernel
theorem dX5_tie_25 : decode cX5_tie 25 = .ok (.ireturn, 1) := by decide +kernel
theorem dX5_owes_0 : decode cX5_owes 0 = .ok (.aload_n 0, 1) := by decide +kernel
theorem dX5_owes_1 : decode cX5_owes 1 = .ok (.getfield 19, 3) := by decide +kernel
theorem dX5_owes_4 : decode cX5_owes 4 = .ok (.iload_n 1, 1) := by decide +kernel
theorem dX5_owes_5 : decode cX5_owes 5 = .ok (.iload_n 2, 1) := by decide +kernel
theorem dX5_owes_6 : decode cX5_owes 6 = .ok (.invokevirtual 121, 3) := by decide +kernel
theorem dX5_owes_9 : decode cX5_owes 9 = .ok (.ifCond .ne 5, 3) := by decide +kernel
theorem dX5_owes_12 : decode cX5_owes 12 = .ok (.iconst (-1), 1) := by decide +kernel
theorem dX5_owes_13 : decode cX5_owes 13 = .ok (.ireturn, 1) := by decide +kernel
theorem dX5_owes_14 : decode cX5_owes 14 = .ok (.aload_n 0, 1) := by decide +kernel
theorem dX5_owes_15 : decode cX5_owes 15 = .ok (.getfield 19, 3) := by decide +kernel
theorem dX5_owes_18 : decode cX5_owes 18 = .ok (.iload_n 1, 1) := by decide +kernel
theorem dX5_owes_19 : decode cX5_owes 19 = .ok (.iload_n 2, 1) := by decide +kernel
theorem dX5_owes_20 : decode cX5_owes 20 = .ok (.invokevirtual 129, 3) := by decide +kernel
theorem dX5_owes_23 : decode cX5_owes 23 = .ok (.ireturn, 1) := by decide +kernel
theorem dX5_trial_0 : decode cX5_trial 0 = .ok (.aload_n 0, 1) := by decide +kernel
theorem dX5_trial_1 : decode cX5_trial 1 = .ok (.getfield 19, 3) := by decide +kernel
theorem dX5_trial_4 : decode cX5_trial 4 = .ok (.iload_n 1, 1) := by decide +kernel
theorem dX5_trial_5 : decode cX5_trial 5 = .ok (.invokevirtual 97, 3) := by decide +kernel
theorem dX5_trial_8 : decode cX5_trial 8 = .ok (.ifCond .eq 11, 3) := by decide +kernel
theorem dX5_trial_11 : decode cX5_trial 11 = .ok (.iload_n 2, 1) := by decide +kernel
theorem dX5_trial_12 : decode cX5_trial 12 = .ok (.iload_n 3, 1) := by decide +kernel
theorem dX5_trial_13 : decode cX5_trial 13 = .ok (.invokestatic 132, 3) := by decide +kernel
theorem dX5_trial_16 : decode cX5_trial 16 = .ok (.ifCond .ne 5, 3) := by decide +kernel
theorem dX5_trial_19 : decode cX5_trial 19 = .ok (.iconst (-1), 1) := by decide +kernel
theorem dX5_trial_20 : decode cX5_trial 20 = .ok (.ireturn, 1) := by decide +kernel
theorem dX5_trial_21 : decode cX5_trial 21 = .ok (.aload_n 0, 1) := by decide +kernel
theorem dX5_trial_22 : decode cX5_trial 22 = .ok (.getfield 19, 3) := by decide +kernel
theorem dX5_trial_25 : decode cX5_trial 25 = .ok (.iload_n 1, 1) := by decide +kernel
theorem dX5_trial_26 : decode cX5_trial 26 = .ok (.iload_n 2, 1) := by decide +kernel
theorem dX5_trial_27 : decode cX5_trial 27 = .ok (.iload_n 3, 1) := by decide +kernel
theorem dX5_trial_28 : decode cX5_trial 28 = .ok (.invokevirtual 135, 3) := by decide +kernel
theorem dX5_trial_31 : decode cX5_trial 31 = .ok (.ifCond .ne 6, 3) := by decide +kernel
theorem dX5_trial_34 : decode cX5_trial 34 = .ok (.bipush (-2), 2) := by decide +kernel
theorem dX5_trial_36 : decode cX5_trial 36 = .ok (.ireturn, 1) := by decide +kernel
theorem dX5_trial_37 : decode cX5_trial 37 = .ok (.aload_n 0, 1) := by decide +kernel
theorem dX5_trial_38 : decode cX5_trial 38 = .ok (.getfield 31, 3) := by decide +kernel
theorem dX5_trial_41 : decode cX5_trial 41 = .ok (.aload_n 0, 1) := by decide +kernel
theorem dX5_trial_42 : decode cX5_trial 42 = .ok (.getfield 19, 3) := by decide +kernel
theorem dX5_trial_45 : decode cX5_trial 45 = .ok (.invokevirtual 138, 3) := by decide +kernel
theorem dX5_trial_48 : decode cX5_trial 48 = .ok (.aload_n 0, 1) := by decide +kernel
theorem dX5_trial_49 : decode cX5_trial 49 = .ok (.getfield 19, 3) := by decide +kernel
theorem dX5_trial_52 : decode cX5_trial 52 = .ok (.iload_n 1, 1) := by decide +kernel
theorem dX5_trial_53 : decode cX5_trial 53 = .ok (.iload_n 2, 1) := by decide +kernel
theorem dX5_trial_54 : decode cX5_trial 54 = .ok (.iload_n 3, 1) := by decide +kernel
theorem dX5_trial_55 : decode cX5_trial 55 = .ok (.invokevirtual 141, 3) := by decide +kernel
theorem dX5_trial_58 : decode cX5_trial 58 = .ok (.ireturn, 1) := by decide +kernel
theorem dX5_gift_0 : decode cX5_gift 0 = .ok (.aload_n 0, 1) := by decide +kernel
theorem dX5_gift_1 : decode cX5_gift 1 = .ok (.getfield 19, 3) := by decide +kernel
theorem dX5_gift_4 : decode cX5_gift 4 = .ok (.iload_n 1, 1) := by decide +kernel
theorem dX5_gift_5 : decode cX5_gift 5 = .ok (.iload_n 2, 1) := by decide +kernel
theorem dX5_gift_6 : decode cX5_gift 6 = .ok (.invokevirtual 121, 3) := by decide +kernel
theorem dX5_gift_9 : decode cX5_gift 9 = .ok (.ifCond .ne 5, 3) := by decide +kernel
theorem dX5_gift_12 : decode cX5_gift 12 = .ok (.iconst (-1), 1) := by decide +kernel
theorem dX5_gift_13 : decode cX5_gift 13 = .ok (.ireturn, 1) := by decide +kernel
theorem dX5_gift_14 : decode cX5_gift 14 = .ok (.aload_n 0, 1) := by decide +kernel
theorem dX5_gift_15 : decode cX5_gift 15 = .ok (.getfield 19, 3) := by decide +kernel
theorem dX5_gift_18 : decode cX5_gift 18 = .ok (.iload_n 1, 1) := by decide +kernel
theorem dX5_gift_19 : decode cX5_gift 19 = .ok (.iload_n 2, 1) := by decide +kernel
theorem dX5_gift_20 : decode cX5_gift 20 = .ok (.invokevirtual 145, 3) := by decide +kernel
theorem dX5_gift_23 : decode cX5_gift 23 = .ok (.ifCond .ne 6, 3) := by decide +kernel
theorem dX5_gift_26 : decode cX5_gift 26 = .ok (.bipush (-2), 2) := by decide +kernel
theorem dX5_gift_28 : decode cX5_gift 28 = .ok (.ireturn, 1) := by decide +kernel
theorem dX5_gift_29 : decode cX5_gift 29 = .ok (.aload_n 0, 1) := by decide +kernel
theorem dX5_gift_30 : decode cX5_gift 30 = .ok (.getfield 31, 3) := by decide +kernel
theorem dX5_gift_33 : decode cX5_gift 33 = .ok (.aload_n 0, 1) := by decide +kernel
theorem dX5_gift_34 : decode cX5_gift 34 = .ok (.getfield 19, 3) := by decide +kernel
theorem dX5_gift_37 : decode cX5_gift 37 = .ok (.invokevirtual 138, 3) := by decide +kernel
theorem dX5_gift_40 : decode cX5_gift 40 = .ok (.aload_n 0, 1) := by decide +kernel
theorem dX5_gift_41 : decode cX5_gift 41 = .ok (.getfield 19, 3) := by decide +kernel
theorem dX5_gift_44 : decode cX5_gift 44 = .ok (.iload_n 1, 1) := by decide +kernel
theorem dX5_gift_45 : decode cX5_gift 45 = .ok (.iload_n 2, 1) := by decide +kernel
theorem dX5_gift_46 : decode cX5_gift 46 = .ok (.invokevirtual 148, 3) := by decide +kernel
theorem dX5_gift_49 : decode cX5_gift 49 = .ok (.aload_n 0, 1) := by decide +kernel
theorem dX5_gift_50 : decode cX5_gift 50 = .ok (.getfield 19, 3) := by decide +kernel
theorem dX5_gift_53 : decode cX5_gift 53 = .ok (.iload_n 2, 1) := by decide +kernel
theorem dX5_gift_54 : decode cX5_gift 54 = .ok (.iload_n 1, 1) := by decide +kernel
theorem dX5_gift_55 : decode cX5_gift 55 = .ok (.invokevirtual 125, 3) := by decide +kernel
theorem dX5_gift_58 : decode cX5_gift 58 = .ok (.iconst 4, 1) := by decide +kernel
theorem dX5_gift_59 : decode cX5_gift 59 = .ok (.iadd, 1) := by decide +kernel
theorem dX5_gift_60 : decode cX5_gift 60 = .ok (.ireturn, 1) := by decide +kernel
theorem dX5_pay_0 : decode cX5_pay 0 = .ok (.aload_n 0, 1) := by decide +kernel
theorem dX5_pay_1 : decode cX5_pay 1 = .ok (.getfield 19, 3) := by decide +kernel
theorem dX5_pay_4 : decode cX5_pay 4 = .ok (.iload_n 1, 1) := by decide +kernel
theorem dX5_pay_5 : decode cX5_pay 5 = .ok (.iload_n 2, 1) := by decide +kernel
theorem dX5_pay_6 : decode cX5_pay 6 = .ok (.invokevirtual 121, 3) := by decide +kernel
theorem dX5_pay_9 : decode cX5_pay 9 = .ok (.ifCond .ne 5, 3) := by decide +kernel
theorem dX5_pay_12 : decode cX5_pay 12 = .ok (.iconst (-1), 1) := by decide +kernel
theorem dX5_pay_13 : decode cX5_pay 13 = .ok (.ireturn, 1) := by decide +kernel
theorem dX5_pay_14 : decode cX5_pay 14 = .ok (.aload_n 0, 1) := by decide +kernel
theorem dX5_pay_15 : decode cX5_pay 15 = .ok (.getfield 19, 3) := by decide +kernel
theorem dX5_pay_18 : decode cX5_pay 18 = .ok (.iload_n 1, 1) := by decide +kernel
theorem dX5_pay_19 : decode cX5_pay 19 = .ok (.iload_n 2, 1) := by decide +kernel
theorem dX5_pay_20 : decode cX5_pay 20 = .ok (.invokevirtual 129, 3) := by decide +kernel
theorem dX5_pay_23 : decode cX5_pay 23 = .ok (.istore_n 3, 1) := by decide +kernel
theorem dX5_pay_24 : decode cX5_pay 24 = .ok (.iload_n 3, 1) := by decide +kernel
theorem dX5_pay_25 : decode cX5_pay 25 = .ok (.ifCond .eq 15, 3) := by decide +kernel
theorem dX5_pay_28 : decode cX5_pay 28 = .ok (.aload_n 0, 1) := by decide +kernel
theorem dX5_pay_29 : decode cX5_pay 29 = .ok (.getfield 19, 3) := by decide +kernel
theorem dX5_pay_32 : decode cX5_pay 32 = .ok (.getfield 109, 3) := by decide +kernel
theorem dX5_pay_35 : decode cX5_pay 35 = .ok (.iload_n 1, 1) := by decide +kernel
theorem dX5_pay_36 : decode cX5_pay 36 = .ok (.iaload, 1) := by decide +kernel
theorem dX5_pay_37 : decode cX5_pay 37 = .ok (.ifCond .ne 6, 3) := by decide +kernel
theorem dX5_pay_40 : decode cX5_pay 40 = .ok (.bipush (-2), 2) := by decide +kernel
theorem dX5_pay_42 : decode cX5_pay 42 = .ok (.ireturn, 1) := by decide +kernel
theorem dX5_pay_43 : decode cX5_pay 43 = .ok (.aload_n 0, 1) := by decide +kernel
theorem dX5_pay_44 : decode cX5_pay 44 = .ok (.getfield 31, 3) := by decide +kernel
theorem dX5_pay_47 : decode cX5_pay 47 = .ok (.aload_n 0, 1) := by decide +kernel
theorem dX5_pay_48 : decode cX5_pay 48 = .ok (.getfield 19, 3) := by decide +kernel
theorem dX5_pay_51 : decode cX5_pay 51 = .ok (.invokevirtual 138, 3) := by decide +kernel
theorem dX5_pay_54 : decode cX5_pay 54 = .ok (.aload_n 0, 1) := by decide +kernel
theorem dX5_pay_55 : decode cX5_pay 55 = .ok (.getfield 19, 3) := by decide +kernel
theorem dX5_pay_58 : decode cX5_pay 58 = .ok (.iload_n 1, 1) := by decide +kernel
theorem dX5_pay_59 : decode cX5_pay 59 = .ok (.iload_n 2, 1) := by decide +kernel
theorem dX5_pay_60 : decode cX5_pay 60 = .ok (.iload_n 3, 1) := by decide +kernel
theorem dX5_pay_61 : decode cX5_pay 61 = .ok (.invokevirtual 152, 3) := by decide +kernel
theorem dX5_pay_64 : decode cX5_pay 64 = .ok (.ireturn, 1) := by decide +kernel
theorem dX5_die_0 : decode cX5_die 0 = .ok (.aload_n 0, 1) := by decide +kernel
theorem dX5_die_1 : decode cX5_die 1 = .ok (.getfield 19, 3) := by decide +kernel
theorem dX5_die_4 : decode cX5_die 4 = .ok (.iload_n 1, 1) := by decide +kernel
theorem dX5_die_5 : decode cX5_die 5 = .ok (.invokevirtual 97, 3) := by decide +kernel
theorem dX5_die_8 : decode cX5_die 8 = .ok (.ifCond .ne 5, 3) := by decide +kernel
theorem dX5_die_11 : decode cX5_die 11 = .ok (.iconst (-1), 1) := by decide +kernel
theorem dX5_die_12 : decode cX5_die 12 = .ok (.ireturn, 1) := by decide +kernel
theorem dX5_die_13 : decode cX5_die 13 = .ok (.aload_n 0, 1) := by decide +kernel
theorem dX5_die_14 : decode cX5_die 14 = .ok (.getfield 19, 3) := by decide +kernel
theorem dX5_die_17 : decode cX5_die 17 = .ok (.iload_n 1, 1) := by decide +kernel
theorem dX5_die_18 : decode cX5_die 18 = .ok (.invokevirtual 112, 3) := by decide +kernel
theorem dX5_die_21 : decode cX5_die 21 = .ok (.ifCond .ne 6, 3) := by decide +kernel
theorem dX5_die_24 : decode cX5_die 24 = .ok (.bipush (-2), 2) := by decide +kernel
theorem dX5_die_26 : decode cX5_die 26 = .ok (.ireturn, 1) := by decide +kernel
theorem dX5_die_27 : decode cX5_die 27 = .ok (.aload_n 0, 1) := by decide +kernel
theorem dX5_die_28 : decode cX5_die 28 = .ok (.getfield 31, 3) := by decide +kernel
theorem dX5_die_31 : decode cX5_die 31 = .ok (.aload_n 0, 1) := by decide +kernel
theorem dX5_die_32 : decode cX5_die 32 = .ok (.getfield 19, 3) := by decide +kernel
theorem dX5_die_35 : decode cX5_die 35 = .ok (.invokevirtual 138, 3) := by decide +kernel
theorem dX5_die_38 : decode cX5_die 38 = .ok (.aload_n 0, 1) := by decide +kernel
theorem dX5_die_39 : decode cX5_die 39 = .ok (.getfield 19, 3) := by decide +kernel
theorem dX5_die_42 : decode cX5_die 42 = .ok (.iload_n 1, 1) := by decide +kernel
theorem dX5_die_43 : decode cX5_die 43 = .ok (.invokevirtual 155, 3) := by decide +kernel
theorem dX5_die_46 : decode cX5_die 46 = .ok (.ireturn, 1) := by decide +kernel
theorem dX5_pass_0 : decode cX5_pass 0 = .ok (.iload_n 1, 1) := by decide +kernel
theorem dX5_pass_1 : decode cX5_pass 1 = .ok (.iconst 1, 1) := by decide +kernel
theorem dX5_pass_2 : decode cX5_pass 2 = .ok (.bipush 30, 2) := by decide +kernel
theorem dX5_pass_4 : decode cX5_pass 4 = .ok (.invokestatic 75, 3) := by decide +kernel
theorem dX5_pass_7 : decode cX5_pass 7 = .ok (.ifCond .ne 5, 3) := by decide +kernel
theorem dX5_pass_10 : decode cX5_pass 10 = .ok (.iconst (-1), 1) := by decide +kernel
theorem dX5_pass_11 : decode cX5_pass 11 = .ok (.ireturn, 1) := by decide +kernel
theorem dX5_pass_12 : decode cX5_pass 12 = .ok (.aload_n 0, 1) := by decide +kernel
theorem dX5_pass_13 : decode cX5_pass 13 = .ok (.getfield 31, 3) := by decide +kernel
theorem dX5_pass_16 : decode cX5_pass 16 = .ok (.aload_n 0, 1) := by decide +kernel
theorem dX5_pass_17 : decode cX5_pass 17 = .ok (.getfield 19, 3) := by decide +kernel
theorem dX5_pass_20 : decode cX5_pass 20 = .ok (.invokevirtual 138, 3) := by decide +kernel
theorem dX5_pass_23 : decode cX5_pass 23 = .ok (.aload_n 0, 1) := by decide +kernel
theorem dX5_pass_24 : decode cX5_pass 24 = .ok (.getfield 19, 3) := by decide +kernel
theorem dX5_pass_27 : decode cX5_pass 27 = .ok (.iload_n 1, 1) := by decide +kernel
theorem dX5_pass_28 : decode cX5_pass 28 = .ok (.invokevirtual 158, 3) := by decide +kernel
theorem dX5_pass_31 : decode cX5_pass 31 = .ok (.aload_n 0, 1) := by decide +kernel
theorem dX5_pass_32 : decode cX5_pass 32 = .ok (.getfield 19, 3) := by decide +kernel
theorem dX5_pass_35 : decode cX5_pass 35 = .ok (.getfield 161, 3) := by decide +kernel
theorem dX5_pass_38 : decode cX5_pass 38 = .ok (.ireturn, 1) := by decide +kernel
theorem dX5_undo_0 : decode cX5_undo 0 = .ok (.aload_n 0, 1) := by decide +kernel
theorem dX5_undo_1 : decode cX5_undo 1 = .ok (.getfield 31, 3) := by decide +kernel
theorem dX5_undo_4 : decode cX5_undo 4 = .ok (.getfield 164, 3) := by decide +kernel
theorem dX5_undo_7 : decode cX5_undo 7 = .ok (.ifCond .ne 6, 3) := by decide +kernel
theorem dX5_undo_10 : decode cX5_undo 10 = .ok (.bipush (-2), 2) := by decide +kernel
theorem dX5_undo_12 : decode cX5_undo 12 = .ok (.ireturn, 1) := by decide +kernel
theorem dX5_undo_13 : decode cX5_undo 13 = .ok (.aload_n 0, 1) := by decide +kernel
theorem dX5_undo_14 : decode cX5_undo 14 = .ok (.getfield 31, 3) := by decide +kernel
theorem dX5_undo_17 : decode cX5_undo 17 = .ok (.aload_n 0, 1) := by decide +kernel
theorem dX5_undo_18 : decode cX5_undo 18 = .ok (.getfield 19, 3) := by decide +kernel
theorem dX5_undo_21 : decode cX5_undo 21 = .ok (.invokevirtual 165, 3) := by decide +kernel
theorem dX5_undo_24 : decode cX5_undo 24 = .ok (.aload_n 0, 1) := by decide +kernel
theorem dX5_undo_25 : decode cX5_undo 25 = .ok (.getfield 31, 3) := by decide +kernel
theorem dX5_undo_28 : decode cX5_undo 28 = .ok (.getfield 164, 3) := by decide +kernel
theorem dX5_undo_31 : decode cX5_undo 31 = .ok (.ireturn, 1) := by decide +kernel
theorem dX5_come_0 : decode cX5_come 0 = .ok (.aload_n 0, 1) := by decide +kernel
theorem dX5_come_1 : decode cX5_come 1 = .ok (.getfield 19, 3) := by decide +kernel
theorem dX5_come_4 : decode cX5_come 4 = .ok (.iload_n 1, 1) := by decide +kernel
theorem dX5_come_5 : decode cX5_come 5 = .ok (.invokevirtual 97, 3) := by decide +kernel
theorem dX5_come_8 : decode cX5_come 8 = .ok (.ifCond .eq 21, 3) := by decide +kernel
theorem dX5_come_11 : decode cX5_come 11 = .ok (.iload_n 2, 1) := by decide +kernel
theorem dX5_come_12 : decode cX5_come 12 = .ok (.iload_n 3, 1) := by decide +kernel
theorem dX5_come_13 : decode cX5_come 13 = .ok (.invokestatic 132, 3) := by decide +kernel
theorem dX5_come_16 : decode cX5_come 16 = .ok (.ifCond .eq 13, 3) := by decide +kernel
theorem dX5_come_19 : decode cX5_come 19 = .ok (.iload 4, 2) := by decide +kernel
theorem dX5_come_21 : decode cX5_come 21 = .ok (.iconst 0, 1) := by decide +kernel
theorem dX5_come_22 : decode cX5_come 22 = .ok (.iconst 1, 1) := by decide +kernel
theorem dX5_come_23 : decode cX5_come 23 = .ok (.invokestatic 75, 3) := by decide +kernel
theorem dX5_come_26 : decode cX5_come 26 = .ok (.ifCond .ne 5, 3) := by decide +kernel
theorem dX5_come_29 : decode cX5_come 29 = .ok (.iconst (-1), 1) := by decide +kernel
theorem dX5_come_30 : decode cX5_come 30 = .ok (.ireturn, 1) := by decide +kernel
theorem dX5_come_31 : decode cX5_come 31 = .ok (.aload_n 0, 1) := by decide +kernel
theorem dX5_come_32 : decode cX5_come 32 = .ok (.getfield 19, 3) := by decide +kernel
theorem dX5_come_35 : decode cX5_come 35 = .ok (.iload_n 1, 1) := by decide +kernel
theorem dX5_come_36 : decode cX5_come 36 = .ok (.invokevirtual 112, 3) := by decide +kernel
theorem dX5_come_39 : decode cX5_come 39 = .ok (.ifCond .ne 6, 3) := by decide +kernel
theorem dX5_come_42 : decode cX5_come 42 = .ok (.bipush (-2), 2) := by decide +kernel
theorem dX5_come_44 : decode cX5_come 44 = .ok (.ireturn, 1) := by decide +kernel
theorem dX5_come_45 : decode cX5_come 45 = .ok (.aload_n 0, 1) := by decide +kernel
theorem dX5_come_46 : decode cX5_come 46 = .ok (.getfield 19, 3) := by decide +kernel
theorem dX5_come_49 : decode cX5_come 49 = .ok (.iload_n 1, 1) := by decide +kernel
theorem dX5_come_50 : decode cX5_come 50 = .ok (.iload_n 2, 1) := by decide +kernel
theorem dX5_come_51 : decode cX5_come 51 = .ok (.iload_n 3, 1) := by decide +kernel
theorem dX5_come_52 : decode cX5_come 52 = .ok (.invokevirtual 168, 3) := by decide +kernel
theorem dX5_come_55 : decode cX5_come 55 = .ok (.istore 5, 2) := by decide +kernel
theorem dX5_come_57 : decode cX5_come 57 = .ok (.iload 4, 2) := by decide +kernel
theorem dX5_come_59 : decode cX5_come 59 = .ok (.ifCond .ne 11, 3) := by decide +kernel
theorem dX5_come_62 : decode cX5_come 62 = .ok (.iload 5, 2) := by decide +kernel
theorem dX5_come_64 : decode cX5_come 64 = .ok (.invokestatic 171, 3) := by decide +kernel
theorem dX5_come_67 : decode cX5_come 67 = .ok (.goto 5, 3) := by decide +kernel
theorem dX5_come_70 : decode cX5_come 70 = .ok (.iload 5, 2) := by decide +kernel
theorem dX5_come_72 : decode cX5_come 72 = .ok (.ireturn, 1) := by decide +kernel
theorem dX5_cheapest_0 : decode cX5_cheapest 0 = .ok (.aload_n 0, 1) := by decide +kernel
theorem dX5_cheapest_1 : decode cX5_cheapest 1 = .ok (.iload_n 1, 1) := by decide +kernel
theorem dX5_cheapest_2 : decode cX5_cheapest 2 = .ok (.iload_n 2, 1) := by decide +kernel
theorem dX5_cheapest_3 : decode cX5_cheapest 3 = .ok (.invokevirtual 176, 3) := by decide +kernel
theorem dX5_cheapest_6 : decode cX5_cheapest 6 = .ok (.ifCond .eq 12, 3) := by decide +kernel
theorem dX5_cheapest_9 : decode cX5_cheapest 9 = .ok (.iload_n 3, 1) := by decide +kernel
theorem dX5_cheapest_10 : decode cX5_cheapest 10 = .ok (.iconst 0, 1) := by decide +kernel
theorem dX5_cheapest_11 : decode cX5_cheapest 11 = .ok (.iconst 1, 1) := by decide +kernel
theorem dX5_cheapest_12 : decode cX5_cheapest 12 = .ok (.invokestatic 75, 3) := by decide +kernel
theorem dX5_cheapest_15 : decode cX5_cheapest 15 = .ok (.ifCond .ne 5, 3) := by decide +kernel
theorem dX5_cheapest_18 : decode cX5_cheapest 18 = .ok (.iconst (-1), 1) := by decide +kernel
theorem dX5_cheapest_19 : decode cX5_cheapest 19 = .ok (.ireturn, 1) := by decide +kernel
theorem dX5_cheapest_20 : decode cX5_cheapest 20 = .ok (.aload_n 0, 1) := by decide +kernel
theorem dX5_cheapest_21 : decode cX5_cheapest 21 = .ok (.getfield 19, 3) := by decide +kernel
theorem dX5_cheapest_24 : decode cX5_cheapest 24 = .ok (.iload_n 1, 1) := by decide +kernel
theorem dX5_cheapest_25 : decode cX5_cheapest 25 = .ok (.invokevirtual 112, 3) := by decide +kernel
theorem dX5_cheapest_28 : decode cX5_cheapest 28 = .ok (.ifCond .ne 6, 3) := by decide +kernel
theorem dX5_cheapest_31 : decode cX5_cheapest 31 = .ok (.bipush (-2), 2) := by decide +kernel
theorem dX5_cheapest_33 : decode cX5_cheapest 33 = .ok (.ireturn, 1) := by decide +kernel
theorem dX5_cheapest_34 : decode cX5_cheapest 34 = .ok (.bipush (-4), 2) := by decide +kernel
theorem dX5_cheapest_36 : decode cX5_cheapest 36 = .ok (.istore 4, 2) := by decide +kernel
theorem dX5_cheapest_38 : decode cX5_cheapest 38 = .ok (.bipush (-4), 2) := by decide +kernel
theorem dX5_cheapest_40 : decode cX5_cheapest 40 = .ok (.istore 5, 2) := by decide +kernel
theorem dX5_cheapest_42 : decode cX5_cheapest 42 = .ok (.iconst 0, 1) := by decide +kernel
theorem dX5_cheapest_43 : decode cX5_cheapest 43 = .ok (.istore 6, 2) := by decide +kernel
theorem dX5_cheapest_45 : decode cX5_cheapest 45 = .ok (.iload 6, 2) := by decide +kernel
theorem dX5_cheapest_47 : decode cX5_cheapest 47 = .ok (.iconst 3, 1) := by decide +kernel
theorem dX5_cheapest_48 : decode cX5_cheapest 48 = .ok (.if_icmp .gt 91, 3) := by decide +kernel
theorem dX5_cheapest_51 : decode cX5_cheapest 51 = .ok (.iconst 0, 1) := by decide +kernel
theorem dX5_cheapest_52 : decode cX5_cheapest 52 = .ok (.istore 7, 2) := by decide +kernel
theorem dX5_cheapest_54 : decode cX5_cheapest 54 = .ok (.iload 7, 2) := by decide +kernel
theorem dX5_cheapest_56 : decode cX5_cheapest 56 = .ok (.iconst 3, 1) := by decide +kernel
theorem dX5_cheapest_57 : decode cX5_cheapest 57 = .ok (.if_icmp .gt 76, 3) := by decide +kernel
theorem dX5_cheapest_60 : decode cX5_cheapest 60 = .ok (.iload 6, 2) := by decide +kernel
theorem dX5_cheapest_62 : decode cX5_cheapest 62 = .ok (.iload 7, 2) := by decide +kernel
theorem dX5_cheapest_64 : decode cX5_cheapest 64 = .ok (.invokestatic 179, 3) := by decide +kernel
theorem dX5_cheapest_67 : decode cX5_cheapest 67 = .ok (.istore 8, 2) := by decide +kernel
theorem dX5_cheapest_69 : decode cX5_cheapest 69 = .ok (.iload 4, 2) := by decide +kernel
theorem dX5_cheapest_71 : decode cX5_cheapest 71 = .ok (.bipush (-4), 2) := by decide +kernel
theorem dX5_cheapest_73 : decode cX5_cheapest 73 = .ok (.if_icmp .eq 10, 3) := by decide +kernel
theorem dX5_cheapest_76 : decode cX5_cheapest 76 = .ok (.iload 8, 2) := by decide +kernel
theorem dX5_cheapest_78 : decode cX5_cheapest 78 = .ok (.iload 4, 2) := by decide +kernel
theorem dX5_cheapest_80 : decode cX5_cheapest 80 = .ok (.if_icmp .ge 7, 3) := by decide +kernel
theorem dX5_cheapest_83 : decode cX5_cheapest 83 = .ok (.iconst 1, 1) := by decide +kernel
theorem dX5_cheapest_84 : decode cX5_cheapest 84 = .ok (.goto 4, 3) := by decide +kernel
theorem dX5_cheapest_87 : decode cX5_cheapest 87 = .ok (.iconst 0, 1) := by decide +kernel
theorem dX5_cheapest_88 : decode cX5_cheapest 88 = .ok (.istore 9, 2) := by decide +kernel
theorem dX5_cheapest_90 : decode cX5_cheapest 90 = .ok (.iload 9, 2) := by decide +kernel
theorem dX5_cheapest_92 : decode cX5_cheapest 92 = .ok (.ifCond .eq 35, 3) := by decide +kernel
theorem dX5_cheapest_95 : decode cX5_cheapest 95 = .ok (.aload_n 0, 1) := by decide +kernel
theorem dX5_cheapest_96 : decode cX5_cheapest 96 = .ok (.getfield 19, 3) := by decide +kernel
theorem dX5_cheapest_99 : decode cX5_cheapest 99 = .ok (.iload_n 1, 1) := by decide +kernel
theorem dX5_cheapest_100 : decode cX5_cheapest 100 = .ok (.iload 6, 2) := by decide +kernel
theorem dX5_cheapest_102 : decode cX5_cheapest 102 = .ok (.iload 7, 2) := by decide +kernel
theorem dX5_cheapest_104 : decode cX5_cheapest 104 = .ok (.invokevirtual 168, 3) := by decide +kernel
theorem dX5_cheapest_107 : decode cX5_cheapest 107 = .ok (.iload_n 2, 1) := by decide +kernel
theorem dX5_cheapest_108 : decode cX5_cheapest 108 = .ok (.iand, 1) := by decide +kernel
theorem dX5_cheapest_109 : decode cX5_cheapest 109 = .ok (.iload_n 2, 1) := by decide +kernel
theorem dX5_cheapest_110 : decode cX5_cheapest 110 = .ok (.if_icmp .ne 17, 3) := by decide +kernel
theorem dX5_cheapest_113 : decode cX5_cheapest 113 = .ok (.iload 8, 2) := by decide +kernel
theorem dX5_cheapest_115 : decode cX5_cheapest 115 = .ok (.istore 4, 2) := by decide +kernel
theorem dX5_cheapest_117 : decode cX5_cheapest 117 = .ok (.bipush 10, 2) := by decide +kernel
theorem dX5_cheapest_119 : decode cX5_cheapest 119 = .ok (.iload 6, 2) := by decide +kernel
theorem dX5_cheapest_121 : decode cX5_cheapest 121 = .ok (.imul, 1) := by decide +kernel
theorem dX5_cheapest_122 : decode cX5_cheapest 122 = .ok (.iload 7, 2) := by decide +kernel
theorem dX5_cheapest_124 : decode cX5_cheapest 124 = .ok (.iadd, 1) := by decide +kernel
theorem dX5_cheapest_125 : decode cX5_cheapest 125 = .ok (.istore 5, 2) := by decide +kernel
theorem dX5_cheapest_127 : decode cX5_cheapest 127 = .ok (.iinc 7 1, 3) := by decide +kernel
theorem dX5_cheapest_130 : decode cX5_cheapest 130 = .ok (.goto (-76), 3) := by decide +kernel
theorem dX5_cheapest_133 : decode cX5_cheapest 133 = .ok (.iinc 6 1, 3) := by decide +kernel
theorem dX5_cheapest_136 : decode cX5_cheapest 136 = .ok (.goto (-91), 3) := by decide +kernel
theorem dX5_cheapest_139 : decode cX5_cheapest 139 = .ok (.iload_n 3, 1) := by decide +kernel
theorem dX5_cheapest_140 : decode cX5_cheapest 140 = .ok (.ifCond .ne 8, 3) := by decide +kernel
theorem dX5_cheapest_143 : decode cX5_cheapest 143 = .ok (.iload 4, 2) := by decide +kernel
theorem dX5_cheapest_145 : decode cX5_cheapest 145 = .ok (.goto 5, 3) := by decide +kernel
theorem dX5_cheapest_148 : decode cX5_cheapest 148 = .ok (.iload 5, 2) := by decide +kernel
theorem dX5_cheapest_150 : decode cX5_cheapest 150 = .ok (.ireturn, 1) := by decide +kernel
theorem dX5_gifts_0 : decode cX5_gifts 0 = .ok (.aload_n 0, 1) := by decide +kernel
theorem dX5_gifts_1 : decode cX5_gifts 1 = .ok (.iload_n 1, 1) := by decide +kernel
theorem dX5_gifts_2 : decode cX5_gifts 2 = .ok (.iload_n 2, 1) := by decide +kernel
theorem dX5_gifts_3 : decode cX5_gifts 3 = .ok (.invokevirtual 176, 3) := by decide +kernel
theorem dX5_gifts_6 : decode cX5_gifts 6 = .ok (.ifCond .eq 12, 3) := by decide +kernel
theorem dX5_gifts_9 : decode cX5_gifts 9 = .ok (.iload_n 3, 1) := by decide +kernel
theorem dX5_gifts_10 : decode cX5_gifts 10 = .ok (.iload 4, 2) := by decide +kernel
theorem dX5_gifts_12 : decode cX5_gifts 12 = .ok (.invokestatic 132, 3) := by decide +kernel
theorem dX5_gifts_15 : decode cX5_gifts 15 = .ok (.ifCond .ne 5, 3) := by decide +kernel
theorem dX5_gifts_18 : decode cX5_gifts 18 = .ok (.iconst (-1), 1) := by decide +kernel
theorem dX5_gifts_19 : decode cX5_gifts 19 = .ok (.ireturn, 1) := by decide +kernel
theorem dX5_gifts_20 : decode cX5_gifts 20 = .ok (.aload_n 0, 1) := by decide +kernel
theorem dX5_gifts_21 : decode cX5_gifts 21 = .ok (.getfield 19, 3) := by decide +kernel
theorem dX5_gifts_24 : decode cX5_gifts 24 = .ok (.iload_n 1, 1) := by decide +kernel
theorem dX5_gifts_25 : decode cX5_gifts 25 = .ok (.invokevirtual 112, 3) := by decide +kernel
theorem dX5_gifts_28 : decode cX5_gifts 28 = .ok (.ifCond .ne 6, 3) := by decide +kernel
theorem dX5_gifts_31 : decode cX5_gifts 31 = .ok (.bipush (-2), 2) := by decide +kernel
theorem dX5_gifts_33 : decode cX5_gifts 33 = .ok (.ireturn, 1) := by decide +kernel
theorem dX5_gifts_34 : decode cX5_gifts 34 = .ok (.iconst 0, 1) := by decide +kernel
theorem dX5_gifts_35 : decode cX5_gifts 35 = .ok (.istore 5, 2) := by decide +kernel
theorem dX5_gifts_37 : decode cX5_gifts 37 = .ok (.iconst 0, 1) := by decide +kernel
theorem dX5_gifts_38 : decode cX5_gifts 38 = .ok (.istore 6, 2) := by decide +kernel
theorem dX5_gifts_40 : decode cX5_gifts 40 = .ok (.iload 6, 2) := by decide +kernel
theorem dX5_gifts_42 : decode cX5_gifts 42 = .ok (.aload_n 0, 1) := by decide +kernel
theorem dX5_gifts_43 : decode cX5_gifts 43 = .ok (.getfield 19, 3) := by decide +kernel
theorem dX5_gifts_46 : decode cX5_gifts 46 = .ok (.getfield 86, 3) := by decide +kernel
theorem dX5_gifts_49 : decode cX5_gifts 49 = .ok (.if_icmp .ge 50, 3) := by decide +kernel
theorem dX5_gifts_52 : decode cX5_gifts 52 = .ok (.iload_n 2, 1) := by decide +kernel
theorem dX5_gifts_53 : decode cX5_gifts 53 = .ok (.iload 6, 2) := by decide +kernel
theorem dX5_gifts_55 : decode cX5_gifts 55 = .ok (.invokestatic 182, 3) := by decide +kernel
theorem dX5_gifts_58 : decode cX5_gifts 58 = .ok (.ifCond .eq 35, 3) := by decide +kernel
theorem dX5_gifts_61 : decode cX5_gifts 61 = .ok (.aload_n 0, 1) := by decide +kernel
theorem dX5_gifts_62 : decode cX5_gifts 62 = .ok (.getfield 19, 3) := by decide +kernel
theorem dX5_gifts_65 : decode cX5_gifts 65 = .ok (.iload 6, 2) := by decide +kernel
theorem dX5_gifts_67 : decode cX5_gifts 67 = .ok (.iload_n 1, 1) := by decide +kernel
theorem dX5_gifts_68 : decode cX5_gifts 68 = .ok (.iload_n 3, 1) := by decide +kernel
theorem dX5_gifts_69 : decode cX5_gifts 69 = .ok (.iload 4, 2) := by decide +kernel
theorem dX5_gifts_71 : decode cX5_gifts 71 = .ok (.invokevirtual 185, 3) := by decide +kernel
theorem dX5_gifts_74 : decode cX5_gifts 74 = .ok (.istore 7, 2) := by decide +kernel
theorem dX5_gifts_76 : decode cX5_gifts 76 = .ok (.iload 7, 2) := by decide +kernel
theorem dX5_gifts_78 : decode cX5_gifts 78 = .ok (.bipush (-4), 2) := by decide +kernel
theorem dX5_gifts_80 : decode cX5_gifts 80 = .ok (.if_icmp .ne 6, 3) := by decide +kernel
theorem dX5_gifts_83 : decode cX5_gifts 83 = .ok (.bipush (-4), 2) := by decide +kernel
theorem dX5_gifts_85 : decode cX5_gifts 85 = .ok (.ireturn, 1) := by decide +kernel
theorem dX5_gifts_86 : decode cX5_gifts 86 = .ok (.iload 5, 2) := by decide +kernel
theorem dX5_gifts_88 : decode cX5_gifts 88 = .ok (.iload 7, 2) := by decide +kernel
theorem dX5_gifts_90 : decode cX5_gifts 90 = .ok (.iadd, 1) := by decide +kernel
theorem dX5_gifts_91 : decode cX5_gifts 91 = .ok (.istore 5, 2) := by decide +kernel
theorem dX5_gifts_93 : decode cX5_gifts 93 = .ok (.iinc 6 1, 3) := by decide +kernel
theorem dX5_gifts_96 : decode cX5_gifts 96 = .ok (.goto (-56), 3) := by decide +kernel
theorem dX5_gifts_99 : decode cX5_gifts 99 = .ok (.iload 5, 2) := by decide +kernel
theorem dX5_gifts_101 : decode cX5_gifts 101 = .ok (.ireturn, 1) := by decide +kernel
theorem dX5_order_0 : decode cX5_order 0 = .ok (.iload_n 1, 1) := by decide +kernel
theorem dX5_order_1 : decode cX5_order 1 = .ok (.iload_n 2, 1) := by decide +kernel
theorem dX5_order_2 : decode cX5_order 2 = .ok (.invokestatic 132, 3) := by decide +kernel
theorem dX5_order_5 : decode cX5_order 5 = .ok (.ifCond .eq 13, 3) := by decide +kernel
theorem dX5_order_8 : decode cX5_order 8 = .ok (.iload_n 3, 1) := by decide +kernel
theorem dX5_order_9 : decode cX5_order 9 = .ok (.iconst 0, 1) := by decide +kernel
theorem dX5_order_10 : decode cX5_order 10 = .ok (.bipush 6, 2) := by decide +kernel
theorem dX5_order_12 : decode cX5_order 12 = .ok (.invokestatic 75, 3) := by decide +kernel
theorem dX5_order_15 : decode cX5_order 15 = .ok (.ifCond .ne 5, 3) := by decide +kernel
theorem dX5_order_18 : decode cX5_order 18 = .ok (.iconst (-1), 1) := by decide +kernel
theorem dX5_order_19 : decode cX5_order 19 = .ok (.ireturn, 1) := by decide +kernel
theorem dX5_order_20 : decode cX5_order 20 = .ok (.aload_n 0, 1) := by decide +kernel
theorem dX5_order_21 : decode cX5_order 21 = .ok (.getfield 48, 3) := by decide +kernel
theorem dX5_order_24 : decode cX5_order 24 = .ok (.aload_n 0, 1) := by decide +kernel
theorem dX5_order_25 : decode cX5_order 25 = .ok (.getfield 19, 3) := by decide +kernel
theorem dX5_order_28 : decode cX5_order 28 = .ok (.iload_n 1, 1) := by decide +kernel
theorem dX5_order_29 : decode cX5_order 29 = .ok (.iload_n 2, 1) := by decide +kernel
theorem dX5_order_30 : decode cX5_order 30 = .ok (.invokevirtual 189, 3) := by decide +kernel
theorem dX5_order_33 : decode cX5_order 33 = .ok (.ifCond .ne 32, 3) := by decide +kernel
theorem dX5_order_36 : decode cX5_order 36 = .ok (.aload_n 0, 1) := by decide +kernel
theorem dX5_order_37 : decode cX5_order 37 = .ok (.getfield 48, 3) := by decide +kernel
theorem dX5_order_40 : decode cX5_order 40 = .ok (.aload_n 0, 1) := by decide +kernel
theorem dX5_order_41 : decode cX5_order 41 = .ok (.getfield 19, 3) := by decide +kernel
theorem dX5_order_44 : decode cX5_order 44 = .ok (.iload_n 1, 1) := by decide +kernel
theorem dX5_order_45 : decode cX5_order 45 = .ok (.iload_n 2, 1) := by decide +kernel
theorem dX5_order_46 : decode cX5_order 46 = .ok (.invokevirtual 193, 3) := by decide +kernel
theorem dX5_order_49 : decode cX5_order 49 = .ok (.aload_n 0, 1) := by decide +kernel
theorem dX5_order_50 : decode cX5_order 50 = .ok (.getfield 48, 3) := by decide +kernel
theorem dX5_order_53 : decode cX5_order 53 = .ok (.iconst 0, 1) := by decide +kernel
theorem dX5_order_54 : decode cX5_order 54 = .ok (.aload_n 0, 1) := by decide +kernel
theorem dX5_order_55 : decode cX5_order 55 = .ok (.getfield 48, 3) := by decide +kernel
theorem dX5_order_58 : decode cX5_order 58 = .ok (.getfield 197, 3) := by decide +kernel
theorem dX5_order_61 : decode cX5_order 61 = .ok (.iconst 0, 1) := by decide +kernel
theorem dX5_order_62 : decode cX5_order 62 = .ok (.invokestatic 200, 3) := by decide +kernel
theorem dX5_order_65 : decode cX5_order 65 = .ok (.iload_n 3, 1) := by decide +kernel
theorem dX5_order_66 : decode cX5_order 66 = .ok (.ifCond .ne 11, 3) := by decide +kernel
theorem dX5_order_69 : decode cX5_order 69 = .ok (.aload_n 0, 1) := by decide +kernel
theorem dX5_order_70 : decode cX5_order 70 = .ok (.getfield 48, 3) := by decide +kernel
theorem dX5_order_73 : decode cX5_order 73 = .ok (.getfield 204, 3) := by decide +kernel
theorem dX5_order_76 : decode cX5_order 76 = .ok (.ireturn, 1) := by decide +kernel
theorem dX5_order_77 : decode cX5_order 77 = .ok (.iload_n 3, 1) := by decide +kernel
theorem dX5_order_78 : decode cX5_order 78 = .ok (.aload_n 0, 1) := by decide +kernel
theorem dX5_order_79 : decode cX5_order 79 = .ok (.getfield 48, 3) := by decide +kernel
theorem dX5_order_82 : decode cX5_order 82 = .ok (.getfield 207, 3) := by decide +kernel
theorem dX5_order_85 : decode cX5_order 85 = .ok (.if_icmp .gt 17, 3) := by decide +kernel
theorem dX5_order_88 : decode cX5_order 88 = .ok (.aload_n 0, 1) := by decide +kernel
theorem dX5_order_89 : decode cX5_order 89 = .ok (.getfield 48, 3) := by decide +kernel
theorem dX5_order_92 : decode cX5_order 92 = .ok (.getfield 208, 3) := by decide +kernel
theorem dX5_order_95 : decode cX5_order 95 = .ok (.iload_n 3, 1) := by decide +kernel
theorem dX5_order_96 : decode cX5_order 96 = .ok (.iconst 1, 1) := by decide +kernel
theorem dX5_order_97 : decode cX5_order 97 = .ok (.isub, 1) := by decide +kernel
theorem dX5_order_98 : decode cX5_order 98 = .ok (.iaload, 1) := by decide +kernel
theorem dX5_order_99 : decode cX5_order 99 = .ok (.goto 5, 3) := by decide +kernel
theorem dX5_order_102 : decode cX5_order 102 = .ok (.bipush (-4), 2) := by decide +kernel
theorem dX5_order_104 : decode cX5_order 104 = .ok (.ireturn, 1) := by decide +kernel
theorem dX5_mutual_0 : decode cX5_mutual 0 = .ok (.aload_n 0, 1) := by decide +kernel
theorem dX5_mutual_1 : decode cX5_mutual 1 = .ok (.getfield 19, 3) := by decide +kernel
theorem dX5_mutual_4 : decode cX5_mutual 4 = .ok (.iload_n 1, 1) := by decide +kernel
theorem dX5_mutual_5 : decode cX5_mutual 5 = .ok (.iload_n 2, 1) := by decide +kernel
theorem dX5_mutual_6 : decode cX5_mutual 6 = .ok (.invokevirtual 121, 3) := by decide +kernel
theorem dX5_mutual_9 : decode cX5_mutual 9 = .ok (.ifCond .eq 12, 3) := by decide +kernel
theorem dX5_mutual_12 : decode cX5_mutual 12 = .ok (.iload_n 3, 1) := by decide +kernel
theorem dX5_mutual_13 : decode cX5_mutual 13 = .ok (.iconst 0, 1) := by decide +kernel
theorem dX5_mutual_14 : decode cX5_mutual 14 = .ok (.iconst 1, 1) := by decide +kernel
theorem dX5_mutual_15 : decode cX5_mutual 15 = .ok (.invokestatic 75, 3) := by decide +kernel
theorem dX5_mutual_18 : decode cX5_mutual 18 = .ok (.ifCond .ne 5, 3) := by decide +kernel
theorem dX5_mutual_21 : decode cX5_mutual 21 = .ok (.iconst (-1), 1) := by decide +kernel
theorem dX5_mutual_22 : decode cX5_mutual 22 = .ok (.ireturn, 1) := by decide +kernel
theorem dX5_mutual_23 : decode cX5_mutual 23 = .ok (.aload_n 0, 1) := by decide +kernel
theorem dX5_mutual_24 : decode cX5_mutual 24 = .ok (.getfield 19, 3) := by decide +kernel
theorem dX5_mutual_27 : decode cX5_mutual 27 = .ok (.iload_n 1, 1) := by decide +kernel
theorem dX5_mutual_28 : decode cX5_mutual 28 = .ok (.invokevirtual 112, 3) := by decide +kernel
theorem dX5_mutual_31 : decode cX5_mutual 31 = .ok (.ifCond .eq 14, 3) := by decide +kernel
theorem dX5_mutual_34 : decode cX5_mutual 34 = .ok (.aload_n 0, 1) := by decide +kernel
theorem dX5_mutual_35 : decode cX5_mutual 35 = .ok (.getfield 19, 3) := by decide +kernel
theorem dX5_mutual_38 : decode cX5_mutual 38 = .ok (.iload_n 2, 1) := by decide +kernel
theorem dX5_mutual_39 : decode cX5_mutual 39 = .ok (.invokevirtual 112, 3) := by decide +kernel
theorem dX5_mutual_42 : decode cX5_mutual 42 = .ok (.ifCond .ne 6, 3) := by decide +kernel
theorem dX5_mutual_45 : decode cX5_mutual 45 = .ok (.bipush (-2), 2) := by decide +kernel
theorem dX5_mutual_47 : decode cX5_mutual 47 = .ok (.ireturn, 1) := by decide +kernel
theorem dX5_mutual_48 : decode cX5_mutual 48 = .ok (.iconst 0, 1) := by decide +kernel
theorem dX5_mutual_49 : decode cX5_mutual 49 = .ok (.istore 4, 2) := by decide +kernel
theorem dX5_mutual_51 : decode cX5_mutual 51 = .ok (.bipush (-4), 2) := by decide +kernel
theorem dX5_mutual_53 : decode cX5_mutual 53 = .ok (.istore 5, 2) := by decide +kernel
theorem dX5_mutual_55 : decode cX5_mutual 55 = .ok (.iconst 0, 1) := by decide +kernel
theorem dX5_mutual_56 : decode cX5_mutual 56 = .ok (.istore 6, 2) := by decide +kernel
theorem dX5_mutual_58 : decode cX5_mutual 58 = .ok (.iload 6, 2) := by decide +kernel
theorem dX5_mutual_60 : decode cX5_mutual 60 = .ok (.iconst 4, 1) := by decide +kernel
theorem dX5_mutual_61 : decode cX5_mutual 61 = .ok (.if_icmp .ge 34, 3) := by decide +kernel
theorem dX5_mutual_64 : decode cX5_mutual 64 = .ok (.aload_n 0, 1) := by decide +kernel
theorem dX5_mutual_65 : decode cX5_mutual 65 = .ok (.iload_n 1, 1) := by decide +kernel
end
section
theorem dX5_mutual_66 : decode cX5_mutual 66 = .ok (.iload_n 2, 1) := by decide +kernel
theorem dX5_mutual_67 : decode cX5_mutual 67 = .ok (.iload 6, 2) := by decide +kernel
theorem dX5_mutual_69 : decode cX5_mutual 69 = .ok (.invokevirtual 211, 3) := by decide +kernel
theorem dX5_mutual_72 : decode cX5_mutual 72 = .ok (.ifCond .eq 17, 3) := by decide +kernel
theorem dX5_mutual_75 : decode cX5_mutual 75 = .ok (.iinc 4 1, 3) := by decide +kernel
theorem dX5_mutual_78 : decode cX5_mutual 78 = .ok (.iload 5, 2) := by decide +kernel
theorem dX5_mutual_80 : decode cX5_mutual 80 = .ok (.bipush (-4), 2) := by decide +kernel
theorem dX5_mutual_82 : decode cX5_mutual 82 = .ok (.if_icmp .ne 7, 3) := by decide +kernel
theorem dX5_mutual_85 : decode cX5_mutual 85 = .ok (.iload 6, 2) := by decide +kernel
theorem dX5_mutual_87 : decode cX5_mutual 87 = .ok (.istore 5, 2) := by decide +kernel
theorem dX5_mutual_89 : decode cX5_mutual 89 = .ok (.iinc 6 1, 3) := by decide +kernel
theorem dX5_mutual_92 : decode cX5_mutual 92 = .ok (.goto (-34), 3) := by decide +kernel
theorem dX5_mutual_95 : decode cX5_mutual 95 = .ok (.iload_n 3, 1) := by decide +kernel
theorem dX5_mutual_96 : decode cX5_mutual 96 = .ok (.ifCond .ne 8, 3) := by decide +kernel
theorem dX5_mutual_99 : decode cX5_mutual 99 = .ok (.iload 4, 2) := by decide +kernel
theorem dX5_mutual_101 : decode cX5_mutual 101 = .ok (.goto 5, 3) := by decide +kernel
theorem dX5_mutual_104 : decode cX5_mutual 104 = .ok (.iload 5, 2) := by decide +kernel
theorem dX5_mutual_106 : decode cX5_mutual 106 = .ok (.ireturn, 1) := by decide +kernel
theorem dX5_see_0 : decode cX5_see 0 = .ok (.aload_n 0, 1) := by decide +kernel
theorem dX5_see_1 : decode cX5_see 1 = .ok (.getfield 19, 3) := by decide +kernel
theorem dX5_see_4 : decode cX5_see 4 = .ok (.iload_n 1, 1) := by decide +kernel
theorem dX5_see_5 : decode cX5_see 5 = .ok (.iload_n 2, 1) := by decide +kernel
theorem dX5_see_6 : decode cX5_see 6 = .ok (.invokevirtual 121, 3) := by decide +kernel
theorem dX5_see_9 : decode cX5_see 9 = .ok (.ifCond .eq 12, 3) := by decide +kernel
theorem dX5_see_12 : decode cX5_see 12 = .ok (.iload_n 3, 1) := by decide +kernel
theorem dX5_see_13 : decode cX5_see 13 = .ok (.iload 4, 2) := by decide +kernel
theorem dX5_see_15 : decode cX5_see 15 = .ok (.invokestatic 132, 3) := by decide +kernel
theorem dX5_see_18 : decode cX5_see 18 = .ok (.ifCond .ne 5, 3) := by decide +kernel
theorem dX5_see_21 : decode cX5_see 21 = .ok (.iconst (-1), 1) := by decide +kernel
theorem dX5_see_22 : decode cX5_see 22 = .ok (.ireturn, 1) := by decide +kernel
theorem dX5_see_23 : decode cX5_see 23 = .ok (.aload_n 0, 1) := by decide +kernel
theorem dX5_see_24 : decode cX5_see 24 = .ok (.getfield 41, 3) := by decide +kernel
theorem dX5_see_27 : decode cX5_see 27 = .ok (.getfield 94, 3) := by decide +kernel
theorem dX5_see_30 : decode cX5_see 30 = .ok (.bipush 6, 2) := by decide +kernel
theorem dX5_see_32 : decode cX5_see 32 = .ok (.if_icmp .lt 6, 3) := by decide +kernel
theorem dX5_see_35 : decode cX5_see 35 = .ok (.bipush (-3), 2) := by decide +kernel
theorem dX5_see_37 : decode cX5_see 37 = .ok (.ireturn, 1) := by decide +kernel
theorem dX5_see_38 : decode cX5_see 38 = .ok (.aload_n 0, 1) := by decide +kernel
theorem dX5_see_39 : decode cX5_see 39 = .ok (.getfield 41, 3) := by decide +kernel
theorem dX5_see_42 : decode cX5_see 42 = .ok (.iload_n 1, 1) := by decide +kernel
theorem dX5_see_43 : decode cX5_see 43 = .ok (.iload_n 2, 1) := by decide +kernel
theorem dX5_see_44 : decode cX5_see 44 = .ok (.iload_n 3, 1) := by decide +kernel
theorem dX5_see_45 : decode cX5_see 45 = .ok (.iload 4, 2) := by decide +kernel
theorem dX5_see_47 : decode cX5_see 47 = .ok (.iload 5, 2) := by decide +kernel
theorem dX5_see_49 : decode cX5_see 49 = .ok (.invokevirtual 214, 3) := by decide +kernel
theorem dX5_see_52 : decode cX5_see 52 = .ok (.aload_n 0, 1) := by decide +kernel
theorem dX5_see_53 : decode cX5_see 53 = .ok (.getfield 41, 3) := by decide +kernel
theorem dX5_see_56 : decode cX5_see 56 = .ok (.getfield 94, 3) := by decide +kernel
theorem dX5_see_59 : decode cX5_see 59 = .ok (.ireturn, 1) := by decide +kernel
theorem dX5_forget_0 : decode cX5_forget 0 = .ok (.aload_n 0, 1) := by decide +kernel
theorem dX5_forget_1 : decode cX5_forget 1 = .ok (.getfield 41, 3) := by decide +kernel
theorem dX5_forget_4 : decode cX5_forget 4 = .ok (.getfield 94, 3) := by decide +kernel
theorem dX5_forget_7 : decode cX5_forget 7 = .ok (.istore_n 1, 1) := by decide +kernel
theorem dX5_forget_8 : decode cX5_forget 8 = .ok (.aload_n 0, 1) := by decide +kernel
theorem dX5_forget_9 : decode cX5_forget 9 = .ok (.getfield 41, 3) := by decide +kernel
theorem dX5_forget_12 : decode cX5_forget 12 = .ok (.iconst 0, 1) := by decide +kernel
theorem dX5_forget_13 : decode cX5_forget 13 = .ok (.putfield 94, 3) := by decide +kernel
theorem dX5_forget_16 : decode cX5_forget 16 = .ok (.iload_n 1, 1) := by decide +kernel
theorem dX5_forget_17 : decode cX5_forget 17 = .ok (.ireturn, 1) := by decide +kernel
theorem dX5_felt_0 : decode cX5_felt 0 = .ok (.aload_n 0, 1) := by decide +kernel
theorem dX5_felt_1 : decode cX5_felt 1 = .ok (.getfield 19, 3) := by decide +kernel
theorem dX5_felt_4 : decode cX5_felt 4 = .ok (.iload_n 1, 1) := by decide +kernel
theorem dX5_felt_5 : decode cX5_felt 5 = .ok (.iload_n 2, 1) := by decide +kernel
theorem dX5_felt_6 : decode cX5_felt 6 = .ok (.invokevirtual 121, 3) := by decide +kernel
theorem dX5_felt_9 : decode cX5_felt 9 = .ok (.ifCond .ne 5, 3) := by decide +kernel
theorem dX5_felt_12 : decode cX5_felt 12 = .ok (.iconst (-1), 1) := by decide +kernel
theorem dX5_felt_13 : decode cX5_felt 13 = .ok (.ireturn, 1) := by decide +kernel
theorem dX5_felt_14 : decode cX5_felt 14 = .ok (.aload_n 0, 1) := by decide +kernel
theorem dX5_felt_15 : decode cX5_felt 15 = .ok (.getfield 41, 3) := by decide +kernel
theorem dX5_felt_18 : decode cX5_felt 18 = .ok (.aload_n 0, 1) := by decide +kernel
theorem dX5_felt_19 : decode cX5_felt 19 = .ok (.getfield 19, 3) := by decide +kernel
theorem dX5_felt_22 : decode cX5_felt 22 = .ok (.iload_n 1, 1) := by decide +kernel
theorem dX5_felt_23 : decode cX5_felt 23 = .ok (.iload_n 2, 1) := by decide +kernel
theorem dX5_felt_24 : decode cX5_felt 24 = .ok (.invokevirtual 218, 3) := by decide +kernel
theorem dX5_felt_27 : decode cX5_felt 27 = .ok (.ireturn, 1) := by decide +kernel
theorem dX5_kinds_0 : decode cX5_kinds 0 = .ok (.aload_n 0, 1) := by decide +kernel
theorem dX5_kinds_1 : decode cX5_kinds 1 = .ok (.getfield 19, 3) := by decide +kernel
theorem dX5_kinds_4 : decode cX5_kinds 4 = .ok (.iload_n 1, 1) := by decide +kernel
theorem dX5_kinds_5 : decode cX5_kinds 5 = .ok (.invokevirtual 97, 3) := by decide +kernel
theorem dX5_kinds_8 : decode cX5_kinds 8 = .ok (.ifCond .ne 5, 3) := by decide +kernel
theorem dX5_kinds_11 : decode cX5_kinds 11 = .ok (.iconst (-1), 1) := by decide +kernel
theorem dX5_kinds_12 : decode cX5_kinds 12 = .ok (.ireturn, 1) := by decide +kernel
theorem dX5_kinds_13 : decode cX5_kinds 13 = .ok (.aload_n 0, 1) := by decide +kernel
theorem dX5_kinds_14 : decode cX5_kinds 14 = .ok (.getfield 41, 3) := by decide +kernel
theorem dX5_kinds_17 : decode cX5_kinds 17 = .ok (.aload_n 0, 1) := by decide +kernel
theorem dX5_kinds_18 : decode cX5_kinds 18 = .ok (.getfield 19, 3) := by decide +kernel
theorem dX5_kinds_21 : decode cX5_kinds 21 = .ok (.iload_n 1, 1) := by decide +kernel
theorem dX5_kinds_22 : decode cX5_kinds 22 = .ok (.invokevirtual 222, 3) := by decide +kernel
theorem dX5_kinds_25 : decode cX5_kinds 25 = .ok (.ireturn, 1) := by decide +kernel
theorem dX5_rain_0 : decode cX5_rain 0 = .ok (.aload_n 0, 1) := by decide +kernel
theorem dX5_rain_1 : decode cX5_rain 1 = .ok (.getfield 19, 3) := by decide +kernel
theorem dX5_rain_4 : decode cX5_rain 4 = .ok (.iload_n 1, 1) := by decide +kernel
theorem dX5_rain_5 : decode cX5_rain 5 = .ok (.invokevirtual 97, 3) := by decide +kernel
theorem dX5_rain_8 : decode cX5_rain 8 = .ok (.ifCond .eq 22, 3) := by decide +kernel
theorem dX5_rain_11 : decode cX5_rain 11 = .ok (.iload_n 2, 1) := by decide +kernel
theorem dX5_rain_12 : decode cX5_rain 12 = .ok (.iload_n 3, 1) := by decide +kernel
theorem dX5_rain_13 : decode cX5_rain 13 = .ok (.invokestatic 132, 3) := by decide +kernel
theorem dX5_rain_16 : decode cX5_rain 16 = .ok (.ifCond .eq 14, 3) := by decide +kernel
theorem dX5_rain_19 : decode cX5_rain 19 = .ok (.iload 4, 2) := by decide +kernel
theorem dX5_rain_21 : decode cX5_rain 21 = .ok (.iconst 0, 1) := by decide +kernel
theorem dX5_rain_22 : decode cX5_rain 22 = .ok (.bipush 6, 2) := by decide +kernel
theorem dX5_rain_24 : decode cX5_rain 24 = .ok (.invokestatic 75, 3) := by decide +kernel
theorem dX5_rain_27 : decode cX5_rain 27 = .ok (.ifCond .ne 5, 3) := by decide +kernel
theorem dX5_rain_30 : decode cX5_rain 30 = .ok (.iconst (-1), 1) := by decide +kernel
theorem dX5_rain_31 : decode cX5_rain 31 = .ok (.ireturn, 1) := by decide +kernel
theorem dX5_rain_32 : decode cX5_rain 32 = .ok (.iload 5, 2) := by decide +kernel
theorem dX5_rain_34 : decode cX5_rain 34 = .ok (.iconst 0, 1) := by decide +kernel
theorem dX5_rain_35 : decode cX5_rain 35 = .ok (.bipush 10, 2) := by decide +kernel
theorem dX5_rain_37 : decode cX5_rain 37 = .ok (.invokestatic 75, 3) := by decide +kernel
theorem dX5_rain_40 : decode cX5_rain 40 = .ok (.ifCond .eq 13, 3) := by decide +kernel
theorem dX5_rain_43 : decode cX5_rain 43 = .ok (.iload 6, 2) := by decide +kernel
theorem dX5_rain_45 : decode cX5_rain 45 = .ok (.iconst 0, 1) := by decide +kernel
theorem dX5_rain_46 : decode cX5_rain 46 = .ok (.iconst 1, 1) := by decide +kernel
theorem dX5_rain_47 : decode cX5_rain 47 = .ok (.invokestatic 75, 3) := by decide +kernel
theorem dX5_rain_50 : decode cX5_rain 50 = .ok (.ifCond .ne 5, 3) := by decide +kernel
theorem dX5_rain_53 : decode cX5_rain 53 = .ok (.iconst (-1), 1) := by decide +kernel
theorem dX5_rain_54 : decode cX5_rain 54 = .ok (.ireturn, 1) := by decide +kernel
theorem dX5_rain_55 : decode cX5_rain 55 = .ok (.aload_n 0, 1) := by decide +kernel
theorem dX5_rain_56 : decode cX5_rain 56 = .ok (.getfield 19, 3) := by decide +kernel
theorem dX5_rain_59 : decode cX5_rain 59 = .ok (.iload_n 1, 1) := by decide +kernel
theorem dX5_rain_60 : decode cX5_rain 60 = .ok (.invokevirtual 112, 3) := by decide +kernel
theorem dX5_rain_63 : decode cX5_rain 63 = .ok (.ifCond .ne 6, 3) := by decide +kernel
theorem dX5_rain_66 : decode cX5_rain 66 = .ok (.bipush (-2), 2) := by decide +kernel
theorem dX5_rain_68 : decode cX5_rain 68 = .ok (.ireturn, 1) := by decide +kernel
theorem dX5_rain_69 : decode cX5_rain 69 = .ok (.aload_n 0, 1) := by decide +kernel
theorem dX5_rain_70 : decode cX5_rain 70 = .ok (.getfield 19, 3) := by decide +kernel
theorem dX5_rain_73 : decode cX5_rain 73 = .ok (.iload_n 1, 1) := by decide +kernel
theorem dX5_rain_74 : decode cX5_rain 74 = .ok (.iload_n 2, 1) := by decide +kernel
theorem dX5_rain_75 : decode cX5_rain 75 = .ok (.iload_n 3, 1) := by decide +kernel
theorem dX5_rain_76 : decode cX5_rain 76 = .ok (.invokevirtual 168, 3) := by decide +kernel
theorem dX5_rain_79 : decode cX5_rain 79 = .ok (.invokestatic 171, 3) := by decide +kernel
theorem dX5_rain_82 : decode cX5_rain 82 = .ok (.istore 7, 2) := by decide +kernel
theorem dX5_rain_84 : decode cX5_rain 84 = .ok (.iload 7, 2) := by decide +kernel
theorem dX5_rain_86 : decode cX5_rain 86 = .ok (.iload 4, 2) := by decide +kernel
theorem dX5_rain_88 : decode cX5_rain 88 = .ok (.iload 5, 2) := by decide +kernel
theorem dX5_rain_90 : decode cX5_rain 90 = .ok (.invokestatic 226, 3) := by decide +kernel
theorem dX5_rain_93 : decode cX5_rain 93 = .ok (.istore 8, 2) := by decide +kernel
theorem dX5_rain_95 : decode cX5_rain 95 = .ok (.bipush 10, 2) := by decide +kernel
theorem dX5_rain_97 : decode cX5_rain 97 = .ok (.iload 7, 2) := by decide +kernel
theorem dX5_rain_99 : decode cX5_rain 99 = .ok (.invokestatic 229, 3) := by decide +kernel
theorem dX5_rain_102 : decode cX5_rain 102 = .ok (.istore 9, 2) := by decide +kernel
theorem dX5_rain_104 : decode cX5_rain 104 = .ok (.iload 8, 2) := by decide +kernel
theorem dX5_rain_106 : decode cX5_rain 106 = .ok (.iload 9, 2) := by decide +kernel
theorem dX5_rain_108 : decode cX5_rain 108 = .ok (.invokestatic 232, 3) := by decide +kernel
theorem dX5_rain_111 : decode cX5_rain 111 = .ok (.istore 10, 2) := by decide +kernel
theorem dX5_rain_113 : decode cX5_rain 113 = .ok (.iload 6, 2) := by decide +kernel
theorem dX5_rain_115 : decode cX5_rain 115 = .ok (.ifCond .ne 8, 3) := by decide +kernel
theorem dX5_rain_118 : decode cX5_rain 118 = .ok (.iload 8, 2) := by decide +kernel
theorem dX5_rain_120 : decode cX5_rain 120 = .ok (.goto 5, 3) := by decide +kernel
theorem dX5_rain_123 : decode cX5_rain 123 = .ok (.iload 9, 2) := by decide +kernel
theorem dX5_rain_125 : decode cX5_rain 125 = .ok (.iload 10, 2) := by decide +kernel
theorem dX5_rain_127 : decode cX5_rain 127 = .ok (.idiv, 1) := by decide +kernel
theorem dX5_rain_128 : decode cX5_rain 128 = .ok (.ireturn, 1) := by decide +kernel
theorem dX5_year_0 : decode cX5_year 0 = .ok (.iload_n 1, 1) := by decide +kernel
theorem dX5_year_1 : decode cX5_year 1 = .ok (.iconst 0, 1) := by decide +kernel
theorem dX5_year_2 : decode cX5_year 2 = .ok (.sipush 9999, 3) := by decide +kernel
theorem dX5_year_5 : decode cX5_year 5 = .ok (.invokestatic 75, 3) := by decide +kernel
theorem dX5_year_8 : decode cX5_year 8 = .ok (.ifCond .eq 22, 3) := by decide +kernel
theorem dX5_year_11 : decode cX5_year 11 = .ok (.iload_n 2, 1) := by decide +kernel
theorem dX5_year_12 : decode cX5_year 12 = .ok (.iconst 1, 1) := by decide +kernel
theorem dX5_year_13 : decode cX5_year 13 = .ok (.bipush 60, 2) := by decide +kernel
theorem dX5_year_15 : decode cX5_year 15 = .ok (.invokestatic 75, 3) := by decide +kernel
theorem dX5_year_18 : decode cX5_year 18 = .ok (.ifCond .eq 12, 3) := by decide +kernel
theorem dX5_year_21 : decode cX5_year 21 = .ok (.iload_n 3, 1) := by decide +kernel
theorem dX5_year_22 : decode cX5_year 22 = .ok (.iconst 0, 1) := by decide +kernel
theorem dX5_year_23 : decode cX5_year 23 = .ok (.iconst 1, 1) := by decide +kernel
theorem dX5_year_24 : decode cX5_year 24 = .ok (.invokestatic 75, 3) := by decide +kernel
theorem dX5_year_27 : decode cX5_year 27 = .ok (.ifCond .ne 5, 3) := by decide +kernel
theorem dX5_year_30 : decode cX5_year 30 = .ok (.iconst (-1), 1) := by decide +kernel
theorem dX5_year_31 : decode cX5_year 31 = .ok (.ireturn, 1) := by decide +kernel
theorem dX5_year_32 : decode cX5_year 32 = .ok (.aload_n 0, 1) := by decide +kernel
theorem dX5_year_33 : decode cX5_year 33 = .ok (.getfield 23, 3) := by decide +kernel
theorem dX5_year_36 : decode cX5_year 36 = .ok (.aload_n 0, 1) := by decide +kernel
theorem dX5_year_37 : decode cX5_year 37 = .ok (.getfield 19, 3) := by decide +kernel
theorem dX5_year_40 : decode cX5_year 40 = .ok (.invokevirtual 89, 3) := by decide +kernel
theorem dX5_year_43 : decode cX5_year 43 = .ok (.iconst 0, 1) := by decide +kernel
theorem dX5_year_44 : decode cX5_year 44 = .ok (.istore 4, 2) := by decide +kernel
theorem dX5_year_46 : decode cX5_year 46 = .ok (.iconst 0, 1) := by decide +kernel
theorem dX5_year_47 : decode cX5_year 47 = .ok (.istore 5, 2) := by decide +kernel
theorem dX5_year_49 : decode cX5_year 49 = .ok (.iload 5, 2) := by decide +kernel
theorem dX5_year_51 : decode cX5_year 51 = .ok (.iload_n 2, 1) := by decide +kernel
theorem dX5_year_52 : decode cX5_year 52 = .ok (.if_icmp .ge 27, 3) := by decide +kernel
theorem dX5_year_55 : decode cX5_year 55 = .ok (.iload 4, 2) := by decide +kernel
theorem dX5_year_57 : decode cX5_year 57 = .ok (.aload_n 0, 1) := by decide +kernel
theorem dX5_year_58 : decode cX5_year 58 = .ok (.getfield 23, 3) := by decide +kernel
theorem dX5_year_61 : decode cX5_year 61 = .ok (.iload_n 1, 1) := by decide +kernel
theorem dX5_year_62 : decode cX5_year 62 = .ok (.iload 5, 2) := by decide +kernel
theorem dX5_year_64 : decode cX5_year 64 = .ok (.invokestatic 235, 3) := by decide +kernel
theorem dX5_year_67 : decode cX5_year 67 = .ok (.invokevirtual 238, 3) := by decide +kernel
theorem dX5_year_70 : decode cX5_year 70 = .ok (.iadd, 1) := by decide +kernel
theorem dX5_year_71 : decode cX5_year 71 = .ok (.istore 4, 2) := by decide +kernel
theorem dX5_year_73 : decode cX5_year 73 = .ok (.iinc 5 1, 3) := by decide +kernel
theorem dX5_year_76 : decode cX5_year 76 = .ok (.goto (-27), 3) := by decide +kernel
theorem dX5_year_79 : decode cX5_year 79 = .ok (.iload_n 3, 1) := by decide +kernel
theorem dX5_year_80 : decode cX5_year 80 = .ok (.ifCond .ne 8, 3) := by decide +kernel
theorem dX5_year_83 : decode cX5_year 83 = .ok (.iload 4, 2) := by decide +kernel
theorem dX5_year_85 : decode cX5_year 85 = .ok (.goto 10, 3) := by decide +kernel
theorem dX5_year_88 : decode cX5_year 88 = .ok (.aload_n 0, 1) := by decide +kernel
theorem dX5_year_89 : decode cX5_year 89 = .ok (.getfield 23, 3) := by decide +kernel
theorem dX5_year_92 : decode cX5_year 92 = .ok (.invokevirtual 241, 3) := by decide +kernel
theorem dX5_year_95 : decode cX5_year 95 = .ok (.ireturn, 1) := by decide +kernel
theorem dX5_keep_0 : decode cX5_keep 0 = .ok (.aload_n 0, 1) := by decide +kernel
theorem dX5_keep_1 : decode cX5_keep 1 = .ok (.getfield 35, 3) := by decide +kernel
theorem dX5_keep_4 : decode cX5_keep 4 = .ok (.getfield 164, 3) := by decide +kernel
theorem dX5_keep_7 : decode cX5_keep 7 = .ok (.iconst 2, 1) := by decide +kernel
theorem dX5_keep_8 : decode cX5_keep 8 = .ok (.if_icmp .lt 6, 3) := by decide +kernel
theorem dX5_keep_11 : decode cX5_keep 11 = .ok (.bipush (-3), 2) := by decide +kernel
theorem dX5_keep_13 : decode cX5_keep 13 = .ok (.ireturn, 1) := by decide +kernel
theorem dX5_keep_14 : decode cX5_keep 14 = .ok (.aload_n 0, 1) := by decide +kernel
theorem dX5_keep_15 : decode cX5_keep 15 = .ok (.getfield 35, 3) := by decide +kernel
theorem dX5_keep_18 : decode cX5_keep 18 = .ok (.aload_n 0, 1) := by decide +kernel
theorem dX5_keep_19 : decode cX5_keep 19 = .ok (.getfield 19, 3) := by decide +kernel
theorem dX5_keep_22 : decode cX5_keep 22 = .ok (.invokevirtual 138, 3) := by decide +kernel
theorem dX5_keep_25 : decode cX5_keep 25 = .ok (.aload_n 0, 1) := by decide +kernel
theorem dX5_keep_26 : decode cX5_keep 26 = .ok (.getfield 35, 3) := by decide +kernel
theorem dX5_keep_29 : decode cX5_keep 29 = .ok (.getfield 164, 3) := by decide +kernel
theorem dX5_keep_32 : decode cX5_keep 32 = .ok (.ireturn, 1) := by decide +kernel
theorem dX5_back_0 : decode cX5_back 0 = .ok (.aload_n 0, 1) := by decide +kernel
theorem dX5_back_1 : decode cX5_back 1 = .ok (.getfield 35, 3) := by decide +kernel
theorem dX5_back_4 : decode cX5_back 4 = .ok (.getfield 164, 3) := by decide +kernel
theorem dX5_back_7 : decode cX5_back 7 = .ok (.ifCond .ne 6, 3) := by decide +kernel
theorem dX5_back_10 : decode cX5_back 10 = .ok (.bipush (-2), 2) := by decide +kernel
theorem dX5_back_12 : decode cX5_back 12 = .ok (.ireturn, 1) := by decide +kernel
theorem dX5_back_13 : decode cX5_back 13 = .ok (.aload_n 0, 1) := by decide +kernel
theorem dX5_back_14 : decode cX5_back 14 = .ok (.getfield 35, 3) := by decide +kernel
theorem dX5_back_17 : decode cX5_back 17 = .ok (.aload_n 0, 1) := by decide +kernel
theorem dX5_back_18 : decode cX5_back 18 = .ok (.getfield 19, 3) := by decide +kernel
theorem dX5_back_21 : decode cX5_back 21 = .ok (.invokevirtual 165, 3) := by decide +kernel
theorem dX5_back_24 : decode cX5_back 24 = .ok (.aload_n 0, 1) := by decide +kernel
theorem dX5_back_25 : decode cX5_back 25 = .ok (.getfield 31, 3) := by decide +kernel
theorem dX5_back_28 : decode cX5_back 28 = .ok (.invokevirtual 93, 3) := by decide +kernel
theorem dX5_back_31 : decode cX5_back 31 = .ok (.aload_n 0, 1) := by decide +kernel
theorem dX5_back_32 : decode cX5_back 32 = .ok (.getfield 35, 3) := by decide +kernel
theorem dX5_back_35 : decode cX5_back 35 = .ok (.getfield 164, 3) := by decide +kernel
theorem dX5_back_38 : decode cX5_back 38 = .ok (.ireturn, 1) := by decide +kernel
theorem dX5_count_0 : decode cX5_count 0 = .ok (.iload_n 1, 1) := by decide +kernel
theorem dX5_count_1 : decode cX5_count 1 = .ok (.tableswitch 161 0 10 #[59, 67, 86, 97, 105, 113, 121, 129, 137, 145, 153], 59) := by decide +kernel
theorem dX5_count_60 : decode cX5_count 60 = .ok (.aload_n 0, 1) := by decide +kernel
theorem dX5_count_61 : decode cX5_count 61 = .ok (.getfield 19, 3) := by decide +kernel
theorem dX5_count_64 : decode cX5_count 64 = .ok (.getfield 86, 3) := by decide +kernel
theorem dX5_count_67 : decode cX5_count 67 = .ok (.ireturn, 1) := by decide +kernel
theorem dX5_count_68 : decode cX5_count 68 = .ok (.aload_n 0, 1) := by decide +kernel
theorem dX5_count_69 : decode cX5_count 69 = .ok (.getfield 19, 3) := by decide +kernel
theorem dX5_count_72 : decode cX5_count 72 = .ok (.getfield 86, 3) := by decide +kernel
theorem dX5_count_75 : decode cX5_count 75 = .ok (.aload_n 0, 1) := by decide +kernel
theorem dX5_count_76 : decode cX5_count 76 = .ok (.getfield 19, 3) := by decide +kernel
theorem dX5_count_79 : decode cX5_count 79 = .ok (.getfield 244, 3) := by decide +kernel
theorem dX5_count_82 : decode cX5_count 82 = .ok (.invokestatic 171, 3) := by decide +kernel
theorem dX5_count_85 : decode cX5_count 85 = .ok (.isub, 1) := by decide +kernel
theorem dX5_count_86 : decode cX5_count 86 = .ok (.ireturn, 1) := by decide +kernel
theorem dX5_count_87 : decode cX5_count 87 = .ok (.aload_n 0, 1) := by decide +kernel
theorem dX5_count_88 : decode cX5_count 88 = .ok (.getfield 19, 3) := by decide +kernel
theorem dX5_count_91 : decode cX5_count 91 = .ok (.getfield 247, 3) := by decide +kernel
theorem dX5_count_94 : decode cX5_count 94 = .ok (.invokestatic 171, 3) := by decide +kernel
theorem dX5_count_97 : decode cX5_count 97 = .ok (.ireturn, 1) := by decide +kernel
theorem dX5_count_98 : decode cX5_count 98 = .ok (.aload_n 0, 1) := by decide +kernel
theorem dX5_count_99 : decode cX5_count 99 = .ok (.getfield 19, 3) := by decide +kernel
theorem dX5_count_102 : decode cX5_count 102 = .ok (.getfield 161, 3) := by decide +kernel
theorem dX5_count_105 : decode cX5_count 105 = .ok (.ireturn, 1) := by decide +kernel
theorem dX5_count_106 : decode cX5_count 106 = .ok (.aload_n 0, 1) := by decide +kernel
theorem dX5_count_107 : decode cX5_count 107 = .ok (.getfield 19, 3) := by decide +kernel
theorem dX5_count_110 : decode cX5_count 110 = .ok (.getfield 250, 3) := by decide +kernel
theorem dX5_count_113 : decode cX5_count 113 = .ok (.ireturn, 1) := by decide +kernel
theorem dX5_count_114 : decode cX5_count 114 = .ok (.aload_n 0, 1) := by decide +kernel
theorem dX5_count_115 : decode cX5_count 115 = .ok (.getfield 19, 3) := by decide +kernel
theorem dX5_count_118 : decode cX5_count 118 = .ok (.invokevirtual 241, 3) := by decide +kernel
theorem dX5_count_121 : decode cX5_count 121 = .ok (.ireturn, 1) := by decide +kernel
theorem dX5_count_122 : decode cX5_count 122 = .ok (.aload_n 0, 1) := by decide +kernel
theorem dX5_count_123 : decode cX5_count 123 = .ok (.getfield 19, 3) := by decide +kernel
theorem dX5_count_126 : decode cX5_count 126 = .ok (.invokevirtual 253, 3) := by decide +kernel
theorem dX5_count_129 : decode cX5_count 129 = .ok (.ireturn, 1) := by decide +kernel
theorem dX5_count_130 : decode cX5_count 130 = .ok (.aload_n 0, 1) := by decide +kernel
theorem dX5_count_131 : decode cX5_count 131 = .ok (.getfield 41, 3) := by decide +kernel
theorem dX5_count_134 : decode cX5_count 134 = .ok (.getfield 94, 3) := by decide +kernel
theorem dX5_count_137 : decode cX5_count 137 = .ok (.ireturn, 1) := by decide +kernel
theorem dX5_count_138 : decode cX5_count 138 = .ok (.aload_n 0, 1) := by decide +kernel
theorem dX5_count_139 : decode cX5_count 139 = .ok (.getfield 31, 3) := by decide +kernel
theorem dX5_count_142 : decode cX5_count 142 = .ok (.getfield 164, 3) := by decide +kernel
theorem dX5_count_145 : decode cX5_count 145 = .ok (.ireturn, 1) := by decide +kernel
theorem dX5_count_146 : decode cX5_count 146 = .ok (.aload_n 0, 1) := by decide +kernel
theorem dX5_count_147 : decode cX5_count 147 = .ok (.getfield 35, 3) := by decide +kernel
theorem dX5_count_150 : decode cX5_count 150 = .ok (.getfield 164, 3) := by decide +kernel
theorem dX5_count_153 : decode cX5_count 153 = .ok (.ireturn, 1) := by decide +kernel
theorem dX5_count_154 : decode cX5_count 154 = .ok (.aload_n 0, 1) := by decide +kernel
theorem dX5_count_155 : decode cX5_count 155 = .ok (.getfield 10, 3) := by decide +kernel
theorem dX5_count_158 : decode cX5_count 158 = .ok (.getfield 83, 3) := by decide +kernel
theorem dX5_count_161 : decode cX5_count 161 = .ok (.ireturn, 1) := by decide +kernel
theorem dX5_count_162 : decode cX5_count 162 = .ok (.iconst (-1), 1) := by decide +kernel
theorem dX5_count_163 : decode cX5_count 163 = .ok (.ireturn, 1) := by decide +kernel
theorem dX5_isSetOfOthers_0 : decode cX5_isSetOfOthers 0 = .ok (.aload_n 0, 1) := by decide +kernel
theorem dX5_isSetOfOthers_1 : decode cX5_isSetOfOthers 1 = .ok (.getfield 19, 3) := by decide +kernel
theorem dX5_isSetOfOthers_4 : decode cX5_isSetOfOthers 4 = .ok (.iload_n 1, 1) := by decide +kernel
theorem dX5_isSetOfOthers_5 : decode cX5_isSetOfOthers 5 = .ok (.invokevirtual 97, 3) := by decide +kernel
theorem dX5_isSetOfOthers_8 : decode cX5_isSetOfOthers 8 = .ok (.ifCond .eq 34, 3) := by decide +kernel
theorem dX5_isSetOfOthers_11 : decode cX5_isSetOfOthers 11 = .ok (.iload_n 2, 1) := by decide +kernel
theorem dX5_isSetOfOthers_12 : decode cX5_isSetOfOthers 12 = .ok (.iconst 1, 1) := by decide +kernel
theorem dX5_isSetOfOthers_13 : decode cX5_isSetOfOthers 13 = .ok (.iconst 1, 1) := by decide +kernel
theorem dX5_isSetOfOthers_14 : decode cX5_isSetOfOthers 14 = .ok (.aload_n 0, 1) := by decide +kernel
theorem dX5_isSetOfOthers_15 : decode cX5_isSetOfOthers 15 = .ok (.getfield 19, 3) := by decide +kernel
theorem dX5_isSetOfOthers_18 : decode cX5_isSetOfOthers 18 = .ok (.getfield 86, 3) := by decide +kernel
theorem dX5_isSetOfOthers_21 : decode cX5_isSetOfOthers 21 = .ok (.ishl, 1) := by decide +kernel
theorem dX5_isSetOfOthers_22 : decode cX5_isSetOfOthers 22 = .ok (.iconst 1, 1) := by decide +kernel
theorem dX5_isSetOfOthers_23 : decode cX5_isSetOfOthers 23 = .ok (.isub, 1) := by decide +kernel
theorem dX5_isSetOfOthers_24 : decode cX5_isSetOfOthers 24 = .ok (.invokestatic 75, 3) := by decide +kernel
theorem dX5_isSetOfOthers_27 : decode cX5_isSetOfOthers 27 = .ok (.ifCond .eq 15, 3) := by decide +kernel
theorem dX5_isSetOfOthers_30 : decode cX5_isSetOfOthers 30 = .ok (.iload_n 2, 1) := by decide +kernel
theorem dX5_isSetOfOthers_31 : decode cX5_isSetOfOthers 31 = .ok (.iload_n 1, 1) := by decide +kernel
theorem dX5_isSetOfOthers_32 : decode cX5_isSetOfOthers 32 = .ok (.invokestatic 182, 3) := by decide +kernel
theorem dX5_isSetOfOthers_35 : decode cX5_isSetOfOthers 35 = .ok (.ifCond .ne 7, 3) := by decide +kernel
theorem dX5_isSetOfOthers_38 : decode cX5_isSetOfOthers 38 = .ok (.iconst 1, 1) := by decide +kernel
theorem dX5_isSetOfOthers_39 : decode cX5_isSetOfOthers 39 = .ok (.goto 4, 3) := by decide +kernel
theorem dX5_isSetOfOthers_42 : decode cX5_isSetOfOthers 42 = .ok (.iconst 0, 1) := by decide +kernel
theorem dX5_isSetOfOthers_43 : decode cX5_isSetOfOthers 43 = .ok (.ireturn, 1) := by decide +kernel
theorem dX5_rests_0 : decode cX5_rests 0 = .ok (.aload_n 0, 1) := by decide +kernel
theorem dX5_rests_1 : decode cX5_rests 1 = .ok (.iload_n 1, 1) := by decide +kernel
theorem dX5_rests_2 : decode cX5_rests 2 = .ok (.iload_n 2, 1) := by decide +kernel
theorem dX5_rests_3 : decode cX5_rests 3 = .ok (.iload_n 3, 1) := by decide +kernel
theorem dX5_rests_4 : decode cX5_rests 4 = .ok (.invokevirtual 256, 3) := by decide +kernel
theorem dX5_rests_7 : decode cX5_rests 7 = .ok (.aload_n 0, 1) := by decide +kernel
theorem dX5_rests_8 : decode cX5_rests 8 = .ok (.iload_n 1, 1) := by decide +kernel
theorem dX5_rests_9 : decode cX5_rests 9 = .ok (.iload_n 2, 1) := by decide +kernel
theorem dX5_rests_10 : decode cX5_rests 10 = .ok (.iload_n 3, 1) := by decide +kernel
theorem dX5_rests_11 : decode cX5_rests 11 = .ok (.iconst 2, 1) := by decide +kernel
theorem dX5_rests_12 : decode cX5_rests 12 = .ok (.ixor, 1) := by decide +kernel
theorem dX5_rests_13 : decode cX5_rests 13 = .ok (.invokevirtual 256, 3) := by decide +kernel
theorem dX5_rests_16 : decode cX5_rests 16 = .ok (.if_icmp .lt 26, 3) := by decide +kernel
theorem dX5_rests_19 : decode cX5_rests 19 = .ok (.aload_n 0, 1) := by decide +kernel
theorem dX5_rests_20 : decode cX5_rests 20 = .ok (.iload_n 1, 1) := by decide +kernel
theorem dX5_rests_21 : decode cX5_rests 21 = .ok (.iload_n 2, 1) := by decide +kernel
theorem dX5_rests_22 : decode cX5_rests 22 = .ok (.iload_n 3, 1) := by decide +kernel
theorem dX5_rests_23 : decode cX5_rests 23 = .ok (.invokevirtual 259, 3) := by decide +kernel
theorem dX5_rests_26 : decode cX5_rests 26 = .ok (.aload_n 0, 1) := by decide +kernel
theorem dX5_rests_27 : decode cX5_rests 27 = .ok (.iload_n 1, 1) := by decide +kernel
theorem dX5_rests_28 : decode cX5_rests 28 = .ok (.iload_n 2, 1) := by decide +kernel
theorem dX5_rests_29 : decode cX5_rests 29 = .ok (.iload_n 3, 1) := by decide +kernel
theorem dX5_rests_30 : decode cX5_rests 30 = .ok (.iconst 1, 1) := by decide +kernel
theorem dX5_rests_31 : decode cX5_rests 31 = .ok (.ixor, 1) := by decide +kernel
theorem dX5_rests_32 : decode cX5_rests 32 = .ok (.invokevirtual 259, 3) := by decide +kernel
theorem dX5_rests_35 : decode cX5_rests 35 = .ok (.if_icmp .lt 7, 3) := by decide +kernel
theorem dX5_rests_38 : decode cX5_rests 38 = .ok (.iconst 1, 1) := by decide +kernel
theorem dX5_rests_39 : decode cX5_rests 39 = .ok (.goto 4, 3) := by decide +kernel
theorem dX5_rests_42 : decode cX5_rests 42 = .ok (.iconst 0, 1) := by decide +kernel
theorem dX5_rests_43 : decode cX5_rests 43 = .ok (.ireturn, 1) := by decide +kernel
theorem dX5_gainOfFirst_0 : decode cX5_gainOfFirst 0 = .ok (.aload_n 0, 1) := by decide +kernel
theorem dX5_gainOfFirst_1 : decode cX5_gainOfFirst 1 = .ok (.iload_n 1, 1) := by decide +kernel
theorem dX5_gainOfFirst_2 : decode cX5_gainOfFirst 2 = .ok (.iload_n 2, 1) := by decide +kernel
theorem dX5_gainOfFirst_3 : decode cX5_gainOfFirst 3 = .ok (.iload_n 3, 1) := by decide +kernel
theorem dX5_gainOfFirst_4 : decode cX5_gainOfFirst 4 = .ok (.invokevirtual 262, 3) := by decide +kernel
theorem dX5_gainOfFirst_7 : decode cX5_gainOfFirst 7 = .ok (.aload_n 0, 1) := by decide +kernel
theorem dX5_gainOfFirst_8 : decode cX5_gainOfFirst 8 = .ok (.getfield 23, 3) := by decide +kernel
theorem dX5_gainOfFirst_11 : decode cX5_gainOfFirst 11 = .ok (.iload_n 1, 1) := by decide +kernel
theorem dX5_gainOfFirst_12 : decode cX5_gainOfFirst 12 = .ok (.iload_n 2, 1) := by decide +kernel
theorem dX5_gainOfFirst_13 : decode cX5_gainOfFirst 13 = .ok (.invokevirtual 266, 3) := by decide +kernel
theorem dX5_gainOfFirst_16 : decode cX5_gainOfFirst 16 = .ok (.ireturn, 1) := by decide +kernel
theorem dX5_gainOfOther_0 : decode cX5_gainOfOther 0 = .ok (.aload_n 0, 1) := by decide +kernel
theorem dX5_gainOfOther_1 : decode cX5_gainOfOther 1 = .ok (.iload_n 1, 1) := by decide +kernel
theorem dX5_gainOfOther_2 : decode cX5_gainOfOther 2 = .ok (.iload_n 2, 1) := by decide +kernel
theorem dX5_gainOfOther_3 : decode cX5_gainOfOther 3 = .ok (.iload_n 3, 1) := by decide +kernel
theorem dX5_gainOfOther_4 : decode cX5_gainOfOther 4 = .ok (.invokevirtual 262, 3) := by decide +kernel
theorem dX5_gainOfOther_7 : decode cX5_gainOfOther 7 = .ok (.aload_n 0, 1) := by decide +kernel
theorem dX5_gainOfOther_8 : decode cX5_gainOfOther 8 = .ok (.getfield 23, 3) := by decide +kernel
theorem dX5_gainOfOther_11 : decode cX5_gainOfOther 11 = .ok (.iload_n 2, 1) := by decide +kernel
theorem dX5_gainOfOther_12 : decode cX5_gainOfOther 12 = .ok (.iload_n 1, 1) := by decide +kernel
theorem dX5_gainOfOther_13 : decode cX5_gainOfOther 13 = .ok (.invokevirtual 266, 3) := by decide +kernel
theorem dX5_gainOfOther_16 : decode cX5_gainOfOther 16 = .ok (.ireturn, 1) := by decide +kernel
theorem dX5_visitEachOther_0 : decode cX5_visitEachOther 0 = .ok (.aload_n 0, 1) := by decide +kernel
theorem dX5_visitEachOther_1 : decode cX5_visitEachOther 1 = .ok (.getfield 23, 3) := by decide +kernel
theorem dX5_visitEachOther_4 : decode cX5_visitEachOther 4 = .ok (.aload_n 0, 1) := by decide +kernel
theorem dX5_visitEachOther_5 : decode cX5_visitEachOther 5 = .ok (.getfield 19, 3) := by decide +kernel
theorem dX5_visitEachOther_8 : decode cX5_visitEachOther 8 = .ok (.invokevirtual 89, 3) := by decide +kernel
theorem dX5_visitEachOther_11 : decode cX5_visitEachOther 11 = .ok (.aload_n 0, 1) := by decide +kernel
theorem dX5_visitEachOther_12 : decode cX5_visitEachOther 12 = .ok (.getfield 23, 3) := by decide +kernel
theorem dX5_visitEachOther_15 : decode cX5_visitEachOther 15 = .ok (.iload_n 1, 1) := by decide +kernel
theorem dX5_visitEachOther_16 : decode cX5_visitEachOther 16 = .ok (.iload_n 2, 1) := by decide +kernel
theorem dX5_visitEachOther_17 : decode cX5_visitEachOther 17 = .ok (.iload_n 3, 1) := by decide +kernel
theorem dX5_visitEachOther_18 : decode cX5_visitEachOther 18 = .ok (.iconst 1, 1) := by decide +kernel
theorem dX5_visitEachOther_19 : decode cX5_visitEachOther 19 = .ok (.iand, 1) := by decide +kernel
theorem dX5_visitEachOther_20 : decode cX5_visitEachOther 20 = .ok (.ifCond .eq 7, 3) := by decide +kernel
theorem dX5_visitEachOther_23 : decode cX5_visitEachOther 23 = .ok (.iconst 1, 1) := by decide +kernel
theorem dX5_visitEachOther_24 : decode cX5_visitEachOther 24 = .ok (.goto 4, 3) := by decide +kernel
theorem dX5_visitEachOther_27 : decode cX5_visitEachOther 27 = .ok (.iconst 0, 1) := by decide +kernel
theorem dX5_visitEachOther_28 : decode cX5_visitEachOther 28 = .ok (.invokevirtual 269, 3) := by decide +kernel
theorem dX5_visitEachOther_31 : decode cX5_visitEachOther 31 = .ok (.aload_n 0, 1) := by decide +kernel
theorem dX5_visitEachOther_32 : decode cX5_visitEachOther 32 = .ok (.getfield 23, 3) := by decide +kernel
theorem dX5_visitEachOther_35 : decode cX5_visitEachOther 35 = .ok (.iload_n 2, 1) := by decide +kernel
theorem dX5_visitEachOther_36 : decode cX5_visitEachOther 36 = .ok (.iload_n 1, 1) := by decide +kernel
theorem dX5_visitEachOther_37 : decode cX5_visitEachOther 37 = .ok (.iload_n 3, 1) := by decide +kernel
theorem dX5_visitEachOther_38 : decode cX5_visitEachOther 38 = .ok (.iconst 2, 1) := by decide +kernel
theorem dX5_visitEachOther_39 : decode cX5_visitEachOther 39 = .ok (.iand, 1) := by decide +kernel
theorem dX5_visitEachOther_40 : decode cX5_visitEachOther 40 = .ok (.ifCond .eq 7, 3) := by decide +kernel
theorem dX5_visitEachOther_43 : decode cX5_visitEachOther 43 = .ok (.iconst 1, 1) := by decide +kernel
theorem dX5_visitEachOther_44 : decode cX5_visitEachOther 44 = .ok (.goto 4, 3) := by decide +kernel
theorem dX5_visitEachOther_47 : decode cX5_visitEachOther 47 = .ok (.iconst 0, 1) := by decide +kernel
theorem dX5_visitEachOther_48 : decode cX5_visitEachOther 48 = .ok (.invokevirtual 269, 3) := by decide +kernel
theorem dX5_visitEachOther_51 : decode cX5_visitEachOther 51 = .ok (.return_, 1) := by decide +kernel
theorem dX5_within_0 : decode cX5_within 0 = .ok (.iload_n 0, 1) := by decide +kernel
theorem dX5_within_1 : decode cX5_within 1 = .ok (.iload_n 1, 1) := by decide +kernel
theorem dX5_within_2 : decode cX5_within 2 = .ok (.if_icmp .lt 12, 3) := by decide +kernel
theorem dX5_within_5 : decode cX5_within 5 = .ok (.iload_n 0, 1) := by decide +kernel
theorem dX5_within_6 : decode cX5_within 6 = .ok (.iload_n 2, 1) := by decide +kernel
theorem dX5_within_7 : decode cX5_within 7 = .ok (.if_icmp .gt 7, 3) := by decide +kernel
theorem dX5_within_10 : decode cX5_within 10 = .ok (.iconst 1, 1) := by decide +kernel
theorem dX5_within_11 : decode cX5_within 11 = .ok (.goto 4, 3) := by decide +kernel
theorem dX5_within_14 : decode cX5_within 14 = .ok (.iconst 0, 1) := by decide +kernel
theorem dX5_within_15 : decode cX5_within 15 = .ok (.ireturn, 1) := by decide +kernel
theorem dX5_isFare_0 : decode cX5_isFare 0 = .ok (.iload_n 0, 1) := by decide +kernel
theorem dX5_isFare_1 : decode cX5_isFare 1 = .ok (.iconst 0, 1) := by decide +kernel
theorem dX5_isFare_2 : decode cX5_isFare 2 = .ok (.iconst 3, 1) := by decide +kernel
theorem dX5_isFare_3 : decode cX5_isFare 3 = .ok (.invokestatic 75, 3) := by decide +kernel
theorem dX5_isFare_6 : decode cX5_isFare 6 = .ok (.ifCond .eq 16, 3) := by decide +kernel
theorem dX5_isFare_9 : decode cX5_isFare 9 = .ok (.iload_n 1, 1) := by decide +kernel
theorem dX5_isFare_10 : decode cX5_isFare 10 = .ok (.iconst 0, 1) := by decide +kernel
theorem dX5_isFare_11 : decode cX5_isFare 11 = .ok (.iconst 3, 1) := by decide +kernel
theorem dX5_isFare_12 : decode cX5_isFare 12 = .ok (.invokestatic 75, 3) := by decide +kernel
theorem dX5_isFare_15 : decode cX5_isFare 15 = .ok (.ifCond .eq 7, 3) := by decide +kernel
theorem dX5_isFare_18 : decode cX5_isFare 18 = .ok (.iconst 1, 1) := by decide +kernel
theorem dX5_isFare_19 : decode cX5_isFare 19 = .ok (.goto 4, 3) := by decide +kernel
theorem dX5_isFare_22 : decode cX5_isFare 22 = .ok (.iconst 0, 1) := by decide +kernel
theorem dX5_isFare_23 : decode cX5_isFare 23 = .ok (.ireturn, 1) := by decide +kernel
theorem dX5_contains_0 : decode cX5_contains 0 = .ok (.iload_n 0, 1) := by decide +kernel
theorem dX5_contains_1 : decode cX5_contains 1 = .ok (.iload_n 1, 1) := by decide +kernel
theorem dX5_contains_2 : decode cX5_contains 2 = .ok (.ishr, 1) := by decide +kernel
theorem dX5_contains_3 : decode cX5_contains 3 = .ok (.iconst 1, 1) := by decide +kernel
theorem dX5_contains_4 : decode cX5_contains 4 = .ok (.iand, 1) := by decide +kernel
theorem dX5_contains_5 : decode cX5_contains 5 = .ok (.iconst 1, 1) := by decide +kernel
theorem dX5_contains_6 : decode cX5_contains 6 = .ok (.if_icmp .ne 7, 3) := by decide +kernel
theorem dX5_contains_9 : decode cX5_contains 9 = .ok (.iconst 1, 1) := by decide +kernel
theorem dX5_contains_10 : decode cX5_contains 10 = .ok (.goto 4, 3) := by decide +kernel
theorem dX5_contains_13 : decode cX5_contains 13 = .ok (.iconst 0, 1) := by decide +kernel
theorem dX5_contains_14 : decode cX5_contains 14 = .ok (.ireturn, 1) := by decide +kernel
theorem dX5_costOf_0 : decode cX5_costOf 0 = .ok (.iconst 2, 1) := by decide +kernel
theorem dX5_costOf_1 : decode cX5_costOf 1 = .ok (.iload_n 0, 1) := by decide +kernel
theorem dX5_costOf_2 : decode cX5_costOf 2 = .ok (.imul, 1) := by decide +kernel
theorem dX5_costOf_3 : decode cX5_costOf 3 = .ok (.iconst 3, 1) := by decide +kernel
theorem dX5_costOf_4 : decode cX5_costOf 4 = .ok (.iload_n 1, 1) := by decide +kernel
theorem dX5_costOf_5 : decode cX5_costOf 5 = .ok (.imul, 1) := by decide +kernel
theorem dX5_costOf_6 : decode cX5_costOf 6 = .ok (.iadd, 1) := by decide +kernel
theorem dX5_costOf_7 : decode cX5_costOf 7 = .ok (.ireturn, 1) := by decide +kernel
theorem dX5_waysOfTenths_0 : decode cX5_waysOfTenths 0 = .ok (.iconst 0, 1) := by decide +kernel
theorem dX5_waysOfTenths_1 : decode cX5_waysOfTenths 1 = .ok (.istore_n 3, 1) := by decide +kernel
theorem dX5_waysOfTenths_2 : decode cX5_waysOfTenths 2 = .ok (.iload_n 1, 1) := by decide +kernel
theorem dX5_waysOfTenths_3 : decode cX5_waysOfTenths 3 = .ok (.istore 4, 2) := by decide +kernel
theorem dX5_waysOfTenths_5 : decode cX5_waysOfTenths 5 = .ok (.iload 4, 2) := by decide +kernel
theorem dX5_waysOfTenths_7 : decode cX5_waysOfTenths 7 = .ok (.iload_n 0, 1) := by decide +kernel
theorem dX5_waysOfTenths_8 : decode cX5_waysOfTenths 8 = .ok (.if_icmp .gt 37, 3) := by decide +kernel
theorem dX5_waysOfTenths_11 : decode cX5_waysOfTenths 11 = .ok (.iload_n 3, 1) := by decide +kernel
theorem dX5_waysOfTenths_12 : decode cX5_waysOfTenths 12 = .ok (.iload_n 0, 1) := by decide +kernel
theorem dX5_waysOfTenths_13 : decode cX5_waysOfTenths 13 = .ok (.iload 4, 2) := by decide +kernel
theorem dX5_waysOfTenths_15 : decode cX5_waysOfTenths 15 = .ok (.invokestatic 273, 3) := by decide +kernel
theorem dX5_waysOfTenths_18 : decode cX5_waysOfTenths 18 = .ok (.iload_n 2, 1) := by decide +kernel
theorem dX5_waysOfTenths_19 : decode cX5_waysOfTenths 19 = .ok (.iload 4, 2) := by decide +kernel
theorem dX5_waysOfTenths_21 : decode cX5_waysOfTenths 21 = .ok (.invokestatic 229, 3) := by decide +kernel
theorem dX5_waysOfTenths_24 : decode cX5_waysOfTenths 24 = .ok (.imul, 1) := by decide +kernel
theorem dX5_waysOfTenths_25 : decode cX5_waysOfTenths 25 = .ok (.bipush 10, 2) := by decide +kernel
theorem dX5_waysOfTenths_27 : decode cX5_waysOfTenths 27 = .ok (.iload_n 2, 1) := by decide +kernel
theorem dX5_waysOfTenths_28 : decode cX5_waysOfTenths 28 = .ok (.isub, 1) := by decide +kernel
theorem dX5_waysOfTenths_29 : decode cX5_waysOfTenths 29 = .ok (.iload_n 0, 1) := by decide +kernel
theorem dX5_waysOfTenths_30 : decode cX5_waysOfTenths 30 = .ok (.iload 4, 2) := by decide +kernel
theorem dX5_waysOfTenths_32 : decode cX5_waysOfTenths 32 = .ok (.isub, 1) := by decide +kernel
theorem dX5_waysOfTenths_33 : decode cX5_waysOfTenths 33 = .ok (.invokestatic 229, 3) := by decide +kernel
theorem dX5_waysOfTenths_36 : decode cX5_waysOfTenths 36 = .ok (.imul, 1) := by decide +kernel
theorem dX5_waysOfTenths_37 : decode cX5_waysOfTenths 37 = .ok (.iadd, 1) := by decide +kernel
theorem dX5_waysOfTenths_38 : decode cX5_waysOfTenths 38 = .ok (.istore_n 3, 1) := by decide +kernel
theorem dX5_waysOfTenths_39 : decode cX5_waysOfTenths 39 = .ok (.iinc 4 1, 3) := by decide +kernel
theorem dX5_waysOfTenths_42 : decode cX5_waysOfTenths 42 = .ok (.goto (-37), 3) := by decide +kernel
theorem dX5_waysOfTenths_45 : decode cX5_waysOfTenths 45 = .ok (.iload_n 3, 1) := by decide +kernel
theorem dX5_waysOfTenths_46 : decode cX5_waysOfTenths 46 = .ok (.ireturn, 1) := by decide +kernel
theorem dX5_choices_0 : decode cX5_choices 0 = .ok (.iconst 1, 1) := by decide +kernel
theorem dX5_choices_1 : decode cX5_choices 1 = .ok (.istore_n 2, 1) := by decide +kernel
theorem dX5_choices_2 : decode cX5_choices 2 = .ok (.iconst 1, 1) := by decide +kernel
theorem dX5_choices_3 : decode cX5_choices 3 = .ok (.istore_n 3, 1) := by decide +kernel
theorem dX5_choices_4 : decode cX5_choices 4 = .ok (.iload_n 3, 1) := by decide +kernel
theorem dX5_choices_5 : decode cX5_choices 5 = .ok (.iload_n 1, 1) := by decide +kernel
theorem dX5_choices_6 : decode cX5_choices 6 = .ok (.if_icmp .gt 19, 3) := by decide +kernel
theorem dX5_choices_9 : decode cX5_choices 9 = .ok (.iload_n 2, 1) := by decide +kernel
theorem dX5_choices_10 : decode cX5_choices 10 = .ok (.iload_n 0, 1) := by decide +kernel
theorem dX5_choices_11 : decode cX5_choices 11 = .ok (.iload_n 1, 1) := by decide +kernel
theorem dX5_choices_12 : decode cX5_choices 12 = .ok (.isub, 1) := by decide +kernel
theorem dX5_choices_13 : decode cX5_choices 13 = .ok (.iload_n 3, 1) := by decide +kernel
theorem dX5_choices_14 : decode cX5_choices 14 = .ok (.iadd, 1) := by decide +kernel
theorem dX5_choices_15 : decode cX5_choices 15 = .ok (.imul, 1) := by decide +kernel
theorem dX5_choices_16 : decode cX5_choices 16 = .ok (.iload_n 3, 1) := by decide +kernel
theorem dX5_choices_17 : decode cX5_choices 17 = .ok (.idiv, 1) := by decide +kernel
theorem dX5_choices_18 : decode cX5_choices 18 = .ok (.istore_n 2, 1) := by decide +kernel
theorem dX5_choices_19 : decode cX5_choices 19 = .ok (.iinc 3 1, 3) := by decide +kernel
theorem dX5_choices_22 : decode cX5_choices 22 = .ok (.goto (-18), 3) := by decide +kernel
theorem dX5_choices_25 : decode cX5_choices 25 = .ok (.iload_n 2, 1) := by decide +kernel
theorem dX5_choices_26 : decode cX5_choices 26 = .ok (.ireturn, 1) := by decide +kernel
theorem dX5_power_0 : decode cX5_power 0 = .ok (.iconst 1, 1) := by decide +kernel
theorem dX5_power_1 : decode cX5_power 1 = .ok (.istore_n 2, 1) := by decide +kernel
theorem dX5_power_2 : decode cX5_power 2 = .ok (.iconst 0, 1) := by decide +kernel
theorem dX5_power_3 : decode cX5_power 3 = .ok (.istore_n 3, 1) := by decide +kernel
theorem dX5_power_4 : decode cX5_power 4 = .ok (.iload_n 3, 1) := by decide +kernel
theorem dX5_power_5 : decode cX5_power 5 = .ok (.iload_n 1, 1) := by decide +kernel
theorem dX5_power_6 : decode cX5_power 6 = .ok (.if_icmp .ge 13, 3) := by decide +kernel
theorem dX5_power_9 : decode cX5_power 9 = .ok (.iload_n 2, 1) := by decide +kernel
theorem dX5_power_10 : decode cX5_power 10 = .ok (.iload_n 0, 1) := by decide +kernel
theorem dX5_power_11 : decode cX5_power 11 = .ok (.imul, 1) := by decide +kernel
theorem dX5_power_12 : decode cX5_power 12 = .ok (.istore_n 2, 1) := by decide +kernel
theorem dX5_power_13 : decode cX5_power 13 = .ok (.iinc 3 1, 3) := by decide +kernel
theorem dX5_power_16 : decode cX5_power 16 = .ok (.goto (-12), 3) := by decide +kernel
theorem dX5_power_19 : decode cX5_power 19 = .ok (.iload_n 2, 1) := by decide +kernel
theorem dX5_power_20 : decode cX5_power 20 = .ok (.ireturn, 1) := by decide +kernel
theorem dX5_commonDivisor_0 : decode cX5_commonDivisor 0 = .ok (.iload_n 0, 1) := by decide +kernel
theorem dX5_commonDivisor_1 : decode cX5_commonDivisor 1 = .ok (.istore_n 2, 1) := by decide +kernel
theorem dX5_commonDivisor_2 : decode cX5_commonDivisor 2 = .ok (.iload_n 1, 1) := by decide +kernel
theorem dX5_commonDivisor_3 : decode cX5_commonDivisor 3 = .ok (.istore_n 3, 1) := by decide +kernel
theorem dX5_commonDivisor_4 : decode cX5_commonDivisor 4 = .ok (.iconst 0, 1) := by decide +kernel
theorem dX5_commonDivisor_5 : decode cX5_commonDivisor 5 = .ok (.istore 4, 2) := by decide +kernel
theorem dX5_commonDivisor_7 : decode cX5_commonDivisor 7 = .ok (.iload 4, 2) := by decide +kernel
theorem dX5_commonDivisor_9 : decode cX5_commonDivisor 9 = .ok (.bipush 64, 2) := by decide +kernel
theorem dX5_commonDivisor_11 : decode cX5_commonDivisor 11 = .ok (.if_icmp .ge 23, 3) := by decide +kernel
theorem dX5_commonDivisor_14 : decode cX5_commonDivisor 14 = .ok (.iload_n 3, 1) := by decide +kernel
theorem dX5_commonDivisor_15 : decode cX5_commonDivisor 15 = .ok (.ifCond .eq 19, 3) := by decide +kernel
theorem dX5_commonDivisor_18 : decode cX5_commonDivisor 18 = .ok (.iload_n 2, 1) := by decide +kernel
theorem dX5_commonDivisor_19 : decode cX5_commonDivisor 19 = .ok (.iload_n 3, 1) := by decide +kernel
theorem dX5_commonDivisor_20 : decode cX5_commonDivisor 20 = .ok (.irem, 1) := by decide +kernel
theorem dX5_commonDivisor_21 : decode cX5_commonDivisor 21 = .ok (.istore 5, 2) := by decide +kernel
theorem dX5_commonDivisor_23 : decode cX5_commonDivisor 23 = .ok (.iload_n 3, 1) := by decide +kernel
theorem dX5_commonDivisor_24 : decode cX5_commonDivisor 24 = .ok (.istore_n 2, 1) := by decide +kernel
theorem dX5_commonDivisor_25 : decode cX5_commonDivisor 25 = .ok (.iload 5, 2) := by decide +kernel
theorem dX5_commonDivisor_27 : decode cX5_commonDivisor 27 = .ok (.istore_n 3, 1) := by decide +kernel
theorem dX5_commonDivisor_28 : decode cX5_commonDivisor 28 = .ok (.iinc 4 1, 3) := by decide +kernel
theorem dX5_commonDivisor_31 : decode cX5_commonDivisor 31 = .ok (.goto (-24), 3) := by decide +kernel
theorem dX5_commonDivisor_34 : decode cX5_commonDivisor 34 = .ok (.iconst 1, 1) := by decide +kernel
theorem dX5_commonDivisor_35 : decode cX5_commonDivisor 35 = .ok (.iload_n 2, 1) := by decide +kernel
theorem dX5_commonDivisor_36 : decode cX5_commonDivisor 36 = .ok (.invokestatic 276, 3) := by decide +kernel
theorem dX5_commonDivisor_39 : decode cX5_commonDivisor 39 = .ok (.ireturn, 1) := by decide +kernel
theorem dX5_areAlike_0 : decode cX5_areAlike 0 = .ok (.aload_n 0, 1) := by decide +kernel
theorem dX5_areAlike_1 : decode cX5_areAlike 1 = .ok (.arraylength, 1) := by decide +kernel
theorem dX5_areAlike_2 : decode cX5_areAlike 2 = .ok (.aload_n 1, 1) := by decide +kernel
theorem dX5_areAlike_3 : decode cX5_areAlike 3 = .ok (.arraylength, 1) := by decide +kernel
theorem dX5_areAlike_4 : decode cX5_areAlike 4 = .ok (.if_icmp .eq 5, 3) := by decide +kernel
theorem dX5_areAlike_7 : decode cX5_areAlike 7 = .ok (.iconst 0, 1) := by decide +kernel
theorem dX5_areAlike_8 : decode cX5_areAlike 8 = .ok (.ireturn, 1) := by decide +kernel
theorem dX5_areAlike_9 : decode cX5_areAlike 9 = .ok (.iconst 0, 1) := by decide +kernel
theorem dX5_areAlike_10 : decode cX5_areAlike 10 = .ok (.istore_n 2, 1) := by decide +kernel
theorem dX5_areAlike_11 : decode cX5_areAlike 11 = .ok (.iload_n 2, 1) := by decide +kernel
theorem dX5_areAlike_12 : decode cX5_areAlike 12 = .ok (.aload_n 0, 1) := by decide +kernel
theorem dX5_areAlike_13 : decode cX5_areAlike 13 = .ok (.arraylength, 1) := by decide +kernel
theorem dX5_areAlike_14 : decode cX5_areAlike 14 = .ok (.if_icmp .ge 20, 3) := by decide +kernel
theorem dX5_areAlike_17 : decode cX5_areAlike 17 = .ok (.aload_n 0, 1) := by decide +kernel
theorem dX5_areAlike_18 : decode cX5_areAlike 18 = .ok (.iload_n 2, 1) := by decide +kernel
theorem dX5_areAlike_19 : decode cX5_areAlike 19 = .ok (.iaload, 1) := by decide +kernel
theorem dX5_areAlike_20 : decode cX5_areAlike 20 = .ok (.aload_n 1, 1) := by decide +kernel
theorem dX5_areAlike_21 : decode cX5_areAlike 21 = .ok (.iload_n 2, 1) := by decide +kernel
theorem dX5_areAlike_22 : decode cX5_areAlike 22 = .ok (.iaload, 1) := by decide +kernel
theorem dX5_areAlike_23 : decode cX5_areAlike 23 = .ok (.if_icmp .eq 5, 3) := by decide +kernel
theorem dX5_areAlike_26 : decode cX5_areAlike 26 = .ok (.iconst 0, 1) := by decide +kernel
theorem dX5_areAlike_27 : decode cX5_areAlike 27 = .ok (.ireturn, 1) := by decide +kernel
theorem dX5_areAlike_28 : decode cX5_areAlike 28 = .ok (.iinc 2 1, 3) := by decide +kernel
theorem dX5_areAlike_31 : decode cX5_areAlike 31 = .ok (.goto (-20), 3) := by decide +kernel
theorem dX5_areAlike_34 : decode cX5_areAlike 34 = .ok (.iconst 1, 1) := by decide +kernel
theorem dX5_areAlike_35 : decode cX5_areAlike 35 = .ok (.ireturn, 1) := by decide +kernel
theorem dX5_drawOf_0 : decode cX5_drawOf 0 = .ok (.ldc2_w 281, 3) := by decide +kernel
theorem dX5_drawOf_3 : decode cX5_drawOf 3 = .ok (.iload_n 0, 1) := by decide +kernel
theorem dX5_drawOf_4 : decode cX5_drawOf 4 = .ok (.i2l, 1) := by decide +kernel
theorem dX5_drawOf_5 : decode cX5_drawOf 5 = .ok (.lmul, 1) := by decide +kernel
theorem dX5_drawOf_6 : decode cX5_drawOf 6 = .ok (.ldc2_w 283, 3) := by decide +kernel
theorem dX5_drawOf_9 : decode cX5_drawOf 9 = .ok (.iload_n 1, 1) := by decide +kernel
theorem dX5_drawOf_10 : decode cX5_drawOf 10 = .ok (.i2l, 1) := by decide +kernel
theorem dX5_drawOf_11 : decode cX5_drawOf 11 = .ok (.lmul, 1) := by decide +kernel
theorem dX5_drawOf_12 : decode cX5_drawOf 12 = .ok (.ladd, 1) := by decide +kernel
theorem dX5_drawOf_13 : decode cX5_drawOf 13 = .ok (.lconst 1, 1) := by decide +kernel
theorem dX5_drawOf_14 : decode cX5_drawOf 14 = .ok (.ladd, 1) := by decide +kernel
theorem dX5_drawOf_15 : decode cX5_drawOf 15 = .ok (.lstore_n 2, 1) := by decide +kernel
theorem dX5_drawOf_16 : decode cX5_drawOf 16 = .ok (.lload_n 2, 1) := by decide +kernel
theorem dX5_drawOf_17 : decode cX5_drawOf 17 = .ok (.lload_n 2, 1) := by decide +kernel
theorem dX5_drawOf_18 : decode cX5_drawOf 18 = .ok (.lmul, 1) := by decide +kernel
theorem dX5_drawOf_19 : decode cX5_drawOf 19 = .ok (.ldc2_w 285, 3) := by decide +kernel
theorem dX5_drawOf_22 : decode cX5_drawOf 22 = .ok (.lrem, 1) := by decide +kernel
theorem dX5_drawOf_23 : decode cX5_drawOf 23 = .ok (.l2i, 1) := by decide +kernel
theorem dX5_drawOf_24 : decode cX5_drawOf 24 = .ok (.ireturn, 1) := by decide +kernel
theorem dX6_init_0 : decode cX6_init 0 = .ok (.aload_n 0, 1) := by decide +kernel
theorem dX6_init_1 : decode cX6_init 1 = .ok (.invokespecial 1, 3) := by decide +kernel
theorem dX6_init_4 : decode cX6_init 4 = .ok (.aload_n 0, 1) := by decide +kernel
theorem dX6_init_5 : decode cX6_init 5 = .ok (.bipush 6, 2) := by decide +kernel
theorem dX6_init_7 : decode cX6_init 7 = .ok (.newarray .int, 2) := by decide +kernel
theorem dX6_init_9 : decode cX6_init 9 = .ok (.putfield 7, 3) := by decide +kernel
theorem dX6_init_12 : decode cX6_init 12 = .ok (.aload_n 0, 1) := by decide +kernel
theorem dX6_init_13 : decode cX6_init 13 = .ok (.bipush 6, 2) := by decide +kernel
theorem dX6_init_15 : decode cX6_init 15 = .ok (.newarray .int, 2) := by decide +kernel
theorem dX6_init_17 : decode cX6_init 17 = .ok (.putfield 13, 3) := by decide +kernel
theorem dX6_init_20 : decode cX6_init 20 = .ok (.aload_n 0, 1) := by decide +kernel
theorem dX6_init_21 : decode cX6_init 21 = .ok (.bipush 6, 2) := by decide +kernel
theorem dX6_init_23 : decode cX6_init 23 = .ok (.newarray .int, 2) := by decide +kernel
theorem dX6_init_25 : decode cX6_init 25 = .ok (.putfield 16, 3) := by decide +kernel
theorem dX6_init_28 : decode cX6_init 28 = .ok (.aload_n 0, 1) := by decide +kernel
theorem dX6_init_29 : decode cX6_init 29 = .ok (.bipush 6, 2) := by decide +kernel
theorem dX6_init_31 : decode cX6_init 31 = .ok (.newarray .int, 2) := by decide +kernel
theorem dX6_init_33 : decode cX6_init 33 = .ok (.putfield 19, 3) := by decide +kernel
theorem dX6_init_36 : decode cX6_init 36 = .ok (.aload_n 0, 1) := by decide +kernel
theorem dX6_init_37 : decode cX6_init 37 = .ok (.sipush 984, 3) := by decide +kernel
theorem dX6_init_40 : decode cX6_init 40 = .ok (.newarray .int, 2) := by decide +kernel
theorem dX6_init_42 : decode cX6_init 42 = .ok (.putfield 22, 3) := by decide +kernel
theorem dX6_init_45 : decode cX6_init 45 = .ok (.aload_n 0, 1) := by decide +kernel
theorem dX6_init_46 : decode cX6_init 46 = .ok (.sipush 200, 3) := by decide +kernel
theorem dX6_init_49 : decode cX6_init 49 = .ok (.newarray .byte, 2) := by decide +kernel
theorem dX6_init_51 : decode cX6_init 51 = .ok (.putfield 25, 3) := by decide +kernel
theorem dX6_init_54 : decode cX6_init 54 = .ok (.aload_n 0, 1) := by decide +kernel
theorem dX6_init_55 : decode cX6_init 55 = .ok (.bipush 6, 2) := by decide +kernel
theorem dX6_init_57 : decode cX6_init 57 = .ok (.newarray .int, 2) := by decide +kernel
theorem dX6_init_59 : decode cX6_init 59 = .ok (.putfield 29, 3) := by decide +kernel
theorem dX6_init_62 : decode cX6_init 62 = .ok (.aload_n 0, 1) := by decide +kernel
theorem dX6_init_63 : decode cX6_init 63 = .ok (.bipush 6, 2) := by decide +kernel
theorem dX6_init_65 : decode cX6_init 65 = .ok (.newarray .int, 2) := by decide +kernel
theorem dX6_init_67 : decode cX6_init 67 = .ok (.putfield 32, 3) := by decide +kernel
theorem dX6_init_70 : decode cX6_init 70 = .ok (.aload_n 0, 1) := by decide +kernel
theorem dX6_init_71 : decode cX6_init 71 = .ok (.bipush 6, 2) := by decide +kernel
theorem dX6_init_73 : decode cX6_init 73 = .ok (.newarray .int, 2) := by decide +kernel
theorem dX6_init_75 : decode cX6_init 75 = .ok (.putfield 35, 3) := by decide +kernel
theorem dX6_init_78 : decode cX6_init 78 = .ok (.aload_n 0, 1) := by decide +kernel
theorem dX6_init_79 : decode cX6_init 79 = .ok (.bipush 6, 2) := by decide +kernel
theorem dX6_init_81 : decode cX6_init 81 = .ok (.newarray .int, 2) := by decide +kernel
theorem dX6_init_83 : decode cX6_init 83 = .ok (.putfield 38, 3) := by decide +kernel
theorem dX6_init_86 : decode cX6_init 86 = .ok (.aload_n 0, 1) := by decide +kernel
theorem dX6_init_87 : decode cX6_init 87 = .ok (.bipush 6, 2) := by decide +kernel
theorem dX6_init_89 : decode cX6_init 89 = .ok (.newarray .boolean, 2) := by decide +kernel
theorem dX6_init_91 : decode cX6_init 91 = .ok (.putfield 41, 3) := by decide +kernel
theorem dX6_init_94 : decode cX6_init 94 = .ok (.aload_n 0, 1) := by decide +kernel
theorem dX6_init_95 : decode cX6_init 95 = .ok (.bipush 6, 2) := by decide +kernel
theorem dX6_init_97 : decode cX6_init 97 = .ok (.newarray .int, 2) := by decide +kernel
theorem dX6_init_99 : decode cX6_init 99 = .ok (.putfield 45, 3) := by decide +kernel
theorem dX6_init_102 : decode cX6_init 102 = .ok (.aload_n 0, 1) := by decide +kernel
theorem dX6_init_103 : decode cX6_init 103 = .ok (.bipush 6, 2) := by decide +kernel
theorem dX6_init_105 : decode cX6_init 105 = .ok (.newarray .int, 2) := by decide +kernel
theorem dX6_init_107 : decode cX6_init 107 = .ok (.putfield 48, 3) := by decide +kernel
theorem dX6_init_110 : decode cX6_init 110 = .ok (.aload_n 0, 1) := by decide +kernel
theorem dX6_init_111 : decode cX6_init 111 = .ok (.iconst 0, 1) := by decide +kernel
theorem dX6_init_112 : decode cX6_init 112 = .ok (.iconst 0, 1) := by decide +kernel
theorem dX6_init_113 : decode cX6_init 113 = .ok (.bipush 52, 2) := by decide +kernel
theorem dX6_init_115 : decode cX6_init 115 = .ok (.bipush 20, 2) := by decide +kernel
theorem dX6_init_117 : decode cX6_init 117 = .ok (.invokevirtual 51, 3) := by decide +kernel
theorem dX6_init_120 : decode cX6_init 120 = .ok (.aload_n 0, 1) := by decide +kernel
theorem dX6_init_121 : decode cX6_init 121 = .ok (.iconst 0, 1) := by decide +kernel
theorem dX6_init_122 : decode cX6_init 122 = .ok (.iconst 1, 1) := by decide +kernel
theorem dX6_init_123 : decode cX6_init 123 = .ok (.bipush 50, 2) := by decide +kernel
theorem dX6_init_125 : decode cX6_init 125 = .ok (.bipush 9, 2) := by decide +kernel
theorem dX6_init_127 : decode cX6_init 127 = .ok (.invokevirtual 51, 3) := by decide +kernel
theorem dX6_init_130 : decode cX6_init 130 = .ok (.aload_n 0, 1) := by decide +kernel
theorem dX6_init_131 : decode cX6_init 131 = .ok (.iconst 0, 1) := by decide +kernel
theorem dX6_init_132 : decode cX6_init 132 = .ok (.iconst 2, 1) := by decide +kernel
theorem dX6_init_133 : decode cX6_init 133 = .ok (.bipush 60, 2) := by decide +kernel
theorem dX6_init_135 : decode cX6_init 135 = .ok (.iconst 3, 1) := by decide +kernel
theorem dX6_init_136 : decode cX6_init 136 = .ok (.invokevirtual 51, 3) := by decide +kernel
theorem dX6_init_139 : decode cX6_init 139 = .ok (.aload_n 0, 1) := by decide +kernel
theorem dX6_init_140 : decode cX6_init 140 = .ok (.iconst 0, 1) := by decide +kernel
theorem dX6_init_141 : decode cX6_init 141 = .ok (.iconst 3, 1) := by decide +kernel
theorem dX6_init_142 : decode cX6_init 142 = .ok (.bipush 49, 2) := by decide +kernel
theorem dX6_init_144 : decode cX6_init 144 = .ok (.bipush 30, 2) := by decide +kernel
theorem dX6_init_146 : decode cX6_init 146 = .ok (.invokevirtual 51, 3) := by decide +kernel
theorem dX6_init_149 : decode cX6_init 149 = .ok (.aload_n 0, 1) := by decide +kernel
theorem dX6_init_150 : decode cX6_init 150 = .ok (.iconst 0, 1) := by decide +kernel
theorem dX6_init_151 : decode cX6_init 151 = .ok (.iconst 4, 1) := by decide +kernel
theorem dX6_init_152 : decode cX6_init 152 = .ok (.bipush 55, 2) := by decide +kernel
theorem dX6_init_154 : decode cX6_init 154 = .ok (.bipush 14, 2) := by decide +kernel
theorem dX6_init_156 : decode cX6_init 156 = .ok (.invokevirtual 51, 3) := by decide +kernel
theorem dX6_init_159 : decode cX6_init 159 = .ok (.aload_n 0, 1) := by decide +kernel
theorem dX6_init_160 : decode cX6_init 160 = .ok (.getfield 22, 3) := by decide +kernel
theorem dX6_init_163 : decode cX6_init 163 = .ok (.bipush 16, 2) := by decide +kernel
theorem dX6_init_165 : decode cX6_init 165 = .ok (.bipush (-2), 2) := by decide +kernel
theorem dX6_init_167 : decode cX6_init 167 = .ok (.iastore, 1) := by decide +kernel
theorem dX6_init_168 : decode cX6_init 168 = .ok (.aload_n 0, 1) := by decide +kernel
theorem dX6_init_169 : decode cX6_init 169 = .ok (.getfield 22, 3) := by decide +kernel
theorem dX6_init_172 : decode cX6_init 172 = .ok (.bipush 22, 2) := by decide +kernel
theorem dX6_init_174 : decode cX6_init 174 = .ok (.iconst 1, 1) := by decide +kernel
theorem dX6_init_175 : decode cX6_init 175 = .ok (.iastore, 1) := by decide +kernel
theorem dX6_init_176 : decode cX6_init 176 = .ok (.aload_n 0, 1) := by decide +kernel
theorem dX6_init_177 : decode cX6_init 177 = .ok (.getfield 22, 3) := by decide +kernel
theorem dX6_init_180 : decode cX6_init 180 = .ok (.bipush 28, 2) := by decide +kernel
theorem dX6_init_182 : decode cX6_init 182 = .ok (.iconst 4, 1) := by decide +kernel
theorem dX6_init_183 : decode cX6_init 183 = .ok (.iastore, 1) := by decide +kernel
theorem dX6_init_184 : decode cX6_init 184 = .ok (.aload_n 0, 1) := by decide +kernel
theorem dX6_init_185 : decode cX6_init 185 = .ok (.getfield 22, 3) := by decide +kernel
theorem dX6_init_188 : decode cX6_init 188 = .ok (.bipush 34, 2) := by decide +kernel
theorem dX6_init_190 : decode cX6_init 190 = .ok (.iconst 2, 1) := by decide +kernel
theorem dX6_init_191 : decode cX6_init 191 = .ok (.iastore, 1) := by decide +kernel
theorem dX6_init_192 : decode cX6_init 192 = .ok (.aload_n 0, 1) := by decide +kernel
theorem dX6_init_193 : decode cX6_init 193 = .ok (.getfield 22, 3) := by decide +kernel
theorem dX6_init_196 : decode cX6_init 196 = .ok (.bipush 11, 2) := by decide +kernel
theorem dX6_init_198 : decode cX6_init 198 = .ok (.iconst 3, 1) := by decide +kernel
theorem dX6_init_199 : decode cX6_init 199 = .ok (.iastore, 1) := by decide +kernel
theorem dX6_init_200 : decode cX6_init 200 = .ok (.aload_n 0, 1) := by decide +kernel
theorem dX6_init_201 : decode cX6_init 201 = .ok (.getfield 22, 3) := by decide +kernel
theorem dX6_init_204 : decode cX6_init 204 = .ok (.bipush 29, 2) := by decide +kernel
theorem dX6_init_206 : decode cX6_init 206 = .ok (.iconst (-1), 1) := by decide +kernel
theorem dX6_init_207 : decode cX6_init 207 = .ok (.iastore, 1) := by decide +kernel
theorem dX6_init_208 : decode cX6_init 208 = .ok (.aload_n 0, 1) := by decide +kernel
theorem dX6_init_209 : decode cX6_init 209 = .ok (.getfield 22, 3) := by decide +kernel
theorem dX6_init_212 : decode cX6_init 212 = .ok (.bipush 12, 2) := by decide +kernel
theorem dX6_init_214 : decode cX6_init 214 = .ok (.iconst 2, 1) := by decide +kernel
theorem dX6_init_215 : decode cX6_init 215 = .ok (.iastore, 1) := by decide +kernel
theorem dX6_init_216 : decode cX6_init 216 = .ok (.aload_n 0, 1) := by decide +kernel
theorem dX6_init_217 : decode cX6_init 217 = .ok (.getfield 22, 3) := by decide +kernel
theorem dX6_init_220 : decode cX6_init 220 = .ok (.bipush 18, 2) := by decide +kernel
theorem dX6_init_222 : decode cX6_init 222 = .ok (.iconst 5, 1) := by decide +kernel
theorem dX6_init_223 : decode cX6_init 223 = .ok (.iastore, 1) := by decide +kernel
theorem dX6_init_224 : decode cX6_init 224 = .ok (.aload_n 0, 1) := by decide +kernel
theorem dX6_init_225 : decode cX6_init 225 = .ok (.getfield 22, 3) := by decide +kernel
theorem dX6_init_228 : decode cX6_init 228 = .ok (.bipush 37, 2) := by decide +kernel
theorem dX6_init_230 : decode cX6_init 230 = .ok (.iconst 4, 1) := by decide +kernel
theorem dX6_init_231 : decode cX6_init 231 = .ok (.iastore, 1) := by decide +kernel
theorem dX6_init_232 : decode cX6_init 232 = .ok (.aload_n 0, 1) := by decide +kernel
theorem dX6_init_233 : decode cX6_init 233 = .ok (.getfield 22, 3) := by decide +kernel
theorem dX6_init_236 : decode cX6_init 236 = .ok (.bipush 70, 2) := by decide +kernel
theorem dX6_init_238 : decode cX6_init 238 = .ok (.bipush 10, 2) := by decide +kernel
theorem dX6_init_240 : decode cX6_init 240 = .ok (.iastore, 1) := by decide +kernel
theorem dX6_init_241 : decode cX6_init 241 = .ok (.aload_n 0, 1) := by decide +kernel
theorem dX6_init_242 : decode cX6_init 242 = .ok (.getfield 22, 3) := by decide +kernel
theorem dX6_init_245 : decode cX6_init 245 = .ok (.bipush 58, 2) := by decide +kernel
theorem dX6_init_247 : decode cX6_init 247 = .ok (.iconst 3, 1) := by decide +kernel
theorem dX6_init_248 : decode cX6_init 248 = .ok (.iastore, 1) := by decide +kernel
theorem dX6_init_249 : decode cX6_init 249 = .ok (.aload_n 0, 1) := by decide +kernel
theorem dX6_init_250 : decode cX6_init 250 = .ok (.getfield 22, 3) := by decide +kernel
theorem dX6_init_253 : decode cX6_init 253 = .ok (.bipush 68, 2) := by decide +kernel
theorem dX6_init_255 : decode cX6_init 255 = .ok (.bipush 8, 2) := by decide +kernel
theorem dX6_init_257 : decode cX6_init 257 = .ok (.iastore, 1) := by decide +kernel
theorem dX6_init_258 : decode cX6_init 258 = .ok (.aload_n 0, 1) := by decide +kernel
theorem dX6_init_259 : decode cX6_init 259 = .ok (.bipush 50, 2) := by decide +kernel
theorem dX6_init_261 : decode cX6_init 261 = .ok (.putfield 55, 3) := by decide +kernel
theorem dX6_init_264 : decode cX6_init 264 = .ok (.aload_n 0, 1) := by decide +kernel
theorem dX6_init_265 : decode cX6_init 265 = .ok (.invokevirtual 59, 3) := by decide +kernel
theorem dX6_init_268 : decode cX6_init 268 = .ok (.return_, 1) := by decide +kernel
theorem dX6_in_0 : decode cX6_in 0 = .ok (.lload_n 0, 1) := by decide +kernel
theorem dX6_in_1 : decode cX6_in 1 = .ok (.lload_n 2, 1) := by decide +kernel
theorem dX6_in_2 : decode cX6_in 2 = .ok (.lcmp, 1) := by decide +kernel
theorem dX6_in_3 : decode cX6_in 3 = .ok (.ifCond .lt 14, 3) := by decide +kernel
theorem dX6_in_6 : decode cX6_in 6 = .ok (.lload_n 0, 1) := by decide +kernel
theorem dX6_in_7 : decode cX6_in 7 = .ok (.lload 4, 2) := by decide +kernel
theorem dX6_in_9 : decode cX6_in 9 = .ok (.lcmp, 1) := by decide +kernel
theorem dX6_in_10 : decode cX6_in 10 = .ok (.ifCond .gt 7, 3) := by decide +kernel
theorem dX6_in_13 : decode cX6_in 13 = .ok (.iconst 1, 1) := by decide +kernel
theorem dX6_in_14 : decode cX6_in 14 = .ok (.goto 4, 3) := by decide +kernel
theorem dX6_in_17 : decode cX6_in 17 = .ok (.iconst 0, 1) := by decide +kernel
theorem dX6_in_18 : decode cX6_in 18 = .ok (.ireturn, 1) := by decide +kernel
theorem dX6_has_0 : decode cX6_has 0 = .ok (.iload_n 0, 1) := by decide +kernel
theorem dX6_has_1 : decode cX6_has 1 = .ok (.iload_n 1, 1) := by decide +kernel
theorem dX6_has_2 : decode cX6_has 2 = .ok (.ishr, 1) := by decide +kernel
theorem dX6_has_3 : decode cX6_has 3 = .ok (.iconst 1, 1) := by decide +kernel
theorem dX6_has_4 : decode cX6_has 4 = .ok (.iand, 1) := by decide +kernel
theorem dX6_has_5 : decode cX6_has 5 = .ok (.iconst 1, 1) := by decide +kernel
theorem dX6_has_6 : decode cX6_has 6 = .ok (.if_icmp .ne 7, 3) := by decide +kernel
theorem dX6_has_9 : decode cX6_has 9 = .ok (.iconst 1, 1) := by decide +kernel
theorem dX6_has_10 : decode cX6_has 10 = .ok (.goto 4, 3) := by decide +kernel
theorem dX6_has_13 : decode cX6_has 13 = .ok (.iconst 0, 1) := by decide +kernel
theorem dX6_has_14 : decode cX6_has 14 = .ok (.ireturn, 1) := by decide +kernel
theorem dX6_smaller_0 : decode cX6_smaller 0 = .ok (.iload_n 0, 1) := by decide +kernel
theorem dX6_smaller_1 : decode cX6_smaller 1 = .ok (.iload_n 1, 1) := by decide +kernel
theorem dX6_smaller_2 : decode cX6_smaller 2 = .ok (.if_icmp .ge 7, 3) := by decide +kernel
theorem dX6_smaller_5 : decode cX6_smaller 5 = .ok (.iload_n 0, 1) := by decide +kernel
theorem dX6_smaller_6 : decode cX6_smaller 6 = .ok (.goto 4, 3) := by decide +kernel
theorem dX6_smaller_9 : decode cX6_smaller 9 = .ok (.iload_n 1, 1) := by decide +kernel
theorem dX6_smaller_10 : decode cX6_smaller 10 = .ok (.ireturn, 1) := by decide +kernel
theorem dX6_larger_0 : decode cX6_larger 0 = .ok (.iload_n 0, 1) := by decide +kernel
theorem dX6_larger_1 : decode cX6_larger 1 = .ok (.iload_n 1, 1) := by decide +kernel
theorem dX6_larger_2 : decode cX6_larger 2 = .ok (.if_icmp .ge 7, 3) := by decide +kernel
theorem dX6_larger_5 : decode cX6_larger 5 = .ok (.iload_n 1, 1) := by decide +kernel
theorem dX6_larger_6 : decode cX6_larger 6 = .ok (.goto 4, 3) := by decide +kernel
theorem dX6_larger_9 : decode cX6_larger 9 = .ok (.iload_n 0, 1) := by decide +kernel
theorem dX6_larger_10 : decode cX6_larger 10 = .ok (.ireturn, 1) := by decide +kernel
theorem dX6_lives_0 : decode cX6_lives 0 = .ok (.aload_n 0, 1) := by decide +kernel
theorem dX6_lives_1 : decode cX6_lives 1 = .ok (.getfield 16, 3) := by decide +kernel
theorem dX6_lives_4 : decode cX6_lives 4 = .ok (.aload_n 0, 1) := by decide +kernel
theorem dX6_lives_5 : decode cX6_lives 5 = .ok (.getfield 62, 3) := by decide +kernel
theorem dX6_lives_8 : decode cX6_lives 8 = .ok (.iload_n 2, 1) := by decide +kernel
theorem dX6_lives_9 : decode cX6_lives 9 = .ok (.iastore, 1) := by decide +kernel
theorem dX6_lives_10 : decode cX6_lives 10 = .ok (.aload_n 0, 1) := by decide +kernel
theorem dX6_lives_11 : decode cX6_lives 11 = .ok (.getfield 19, 3) := by decide +kernel
theorem dX6_lives_14 : decode cX6_lives 14 = .ok (.aload_n 0, 1) := by decide +kernel
theorem dX6_lives_15 : decode cX6_lives 15 = .ok (.getfield 62, 3) := by decide +kernel
theorem dX6_lives_18 : decode cX6_lives 18 = .ok (.iload_n 3, 1) := by decide +kernel
theorem dX6_lives_19 : decode cX6_lives 19 = .ok (.iastore, 1) := by decide +kernel
theorem dX6_lives_20 : decode cX6_lives 20 = .ok (.aload_n 0, 1) := by decide +kernel
theorem dX6_lives_21 : decode cX6_lives 21 = .ok (.getfield 22, 3) := by decide +kernel
theorem dX6_lives_24 : decode cX6_lives 24 = .ok (.iload_n 1, 1) := by decide +kernel
theorem dX6_lives_25 : decode cX6_lives 25 = .ok (.aload_n 0, 1) := by decide +kernel
theorem dX6_lives_26 : decode cX6_lives 26 = .ok (.getfield 62, 3) := by decide +kernel
theorem dX6_lives_29 : decode cX6_lives 29 = .ok (.iadd, 1) := by decide +kernel
theorem dX6_lives_30 : decode cX6_lives 30 = .ok (.iload 4, 2) := by decide +kernel
theorem dX6_lives_32 : decode cX6_lives 32 = .ok (.iastore, 1) := by decide +kernel
theorem dX6_lives_33 : decode cX6_lives 33 = .ok (.aload_n 0, 1) := by decide +kernel
theorem dX6_lives_34 : decode cX6_lives 34 = .ok (.dup, 1) := by decide +kernel
theorem dX6_lives_35 : decode cX6_lives 35 = .ok (.getfield 62, 3) := by decide +kernel
theorem dX6_lives_38 : decode cX6_lives 38 = .ok (.iconst 1, 1) := by decide +kernel
theorem dX6_lives_39 : decode cX6_lives 39 = .ok (.iadd, 1) := by decide +kernel
theorem dX6_lives_40 : decode cX6_lives 40 = .ok (.putfield 62, 3) := by decide +kernel
theorem dX6_lives_43 : decode cX6_lives 43 = .ok (.return_, 1) := by decide +kernel
theorem dX6_settles_0 : decode cX6_settles 0 = .ok (.aload_n 0, 1) := by decide +kernel
theorem dX6_settles_1 : decode cX6_settles 1 = .ok (.aload_n 0, 1) := by decide +kernel
theorem dX6_settles_2 : decode cX6_settles 2 = .ok (.getfield 62, 3) := by decide +kernel
theorem dX6_settles_5 : decode cX6_settles 5 = .ok (.putfield 65, 3) := by decide +kernel
theorem dX6_settles_8 : decode cX6_settles 8 = .ok (.aload_n 0, 1) := by decide +kernel
theorem dX6_settles_9 : decode cX6_settles 9 = .ok (.aload_n 0, 1) := by decide +kernel
theorem dX6_settles_10 : decode cX6_settles 10 = .ok (.getfield 55, 3) := by decide +kernel
theorem dX6_settles_13 : decode cX6_settles 13 = .ok (.putfield 68, 3) := by decide +kernel
theorem dX6_settles_16 : decode cX6_settles 16 = .ok (.iconst 0, 1) := by decide +kernel
theorem dX6_settles_17 : decode cX6_settles 17 = .ok (.istore_n 1, 1) := by decide +kernel
theorem dX6_settles_18 : decode cX6_settles 18 = .ok (.iload_n 1, 1) := by decide +kernel
theorem dX6_settles_19 : decode cX6_settles 19 = .ok (.bipush 6, 2) := by decide +kernel
theorem dX6_settles_21 : decode cX6_settles 21 = .ok (.if_icmp .ge 33, 3) := by decide +kernel
theorem dX6_settles_24 : decode cX6_settles 24 = .ok (.aload_n 0, 1) := by decide +kernel
theorem dX6_settles_25 : decode cX6_settles 25 = .ok (.getfield 7, 3) := by decide +kernel
theorem dX6_settles_28 : decode cX6_settles 28 = .ok (.iload_n 1, 1) := by decide +kernel
theorem dX6_settles_29 : decode cX6_settles 29 = .ok (.aload_n 0, 1) := by decide +kernel
theorem dX6_settles_30 : decode cX6_settles 30 = .ok (.getfield 16, 3) := by decide +kernel
theorem dX6_settles_33 : decode cX6_settles 33 = .ok (.iload_n 1, 1) := by decide +kernel
theorem dX6_settles_34 : decode cX6_settles 34 = .ok (.iaload, 1) := by decide +kernel
theorem dX6_settles_35 : decode cX6_settles 35 = .ok (.iastore, 1) := by decide +kernel
theorem dX6_settles_36 : decode cX6_settles 36 = .ok (.aload_n 0, 1) := by decide +kernel
theorem dX6_settles_37 : decode cX6_settles 37 = .ok (.getfield 13, 3) := by decide +kernel
theorem dX6_settles_40 : decode cX6_settles 40 = .ok (.iload_n 1, 1) := by decide +kernel
theorem dX6_settles_41 : decode cX6_settles 41 = .ok (.aload_n 0, 1) := by decide +kernel
theorem dX6_settles_42 : decode cX6_settles 42 = .ok (.getfield 19, 3) := by decide +kernel
theorem dX6_settles_45 : decode cX6_settles 45 = .ok (.iload_n 1, 1) := by decide +kernel
theorem dX6_settles_46 : decode cX6_settles 46 = .ok (.iaload, 1) := by decide +kernel
theorem dX6_settles_47 : decode cX6_settles 47 = .ok (.iastore, 1) := by decide +kernel
theorem dX6_settles_48 : decode cX6_settles 48 = .ok (.iinc 1 1, 3) := by decide +kernel
theorem dX6_settles_51 : decode cX6_settles 51 = .ok (.goto (-33), 3) := by decide +kernel
theorem dX6_settles_54 : decode cX6_settles 54 = .ok (.return_, 1) := by decide +kernel
theorem dX6_copies_0 : decode cX6_copies 0 = .ok (.iconst 0, 1) := by decide +kernel
theorem dX6_copies_1 : decode cX6_copies 1 = .ok (.istore_n 3, 1) := by decide +kernel
theorem dX6_copies_2 : decode cX6_copies 2 = .ok (.iload_n 3, 1) := by decide +kernel
theorem dX6_copies_3 : decode cX6_copies 3 = .ok (.bipush 82, 2) := by decide +kernel
theorem dX6_copies_5 : decode cX6_copies 5 = .ok (.if_icmp .ge 25, 3) := by decide +kernel
theorem dX6_copies_8 : decode cX6_copies 8 = .ok (.aload_n 0, 1) := by decide +kernel
theorem dX6_copies_9 : decode cX6_copies 9 = .ok (.getfield 22, 3) := by decide +kernel
theorem dX6_copies_12 : decode cX6_copies 12 = .ok (.iload_n 2, 1) := by decide +kernel
theorem dX6_copies_13 : decode cX6_copies 13 = .ok (.iload_n 3, 1) := by decide +kernel
theorem dX6_copies_14 : decode cX6_copies 14 = .ok (.iadd, 1) := by decide +kernel
theorem dX6_copies_15 : decode cX6_copies 15 = .ok (.aload_n 0, 1) := by decide +kernel
theorem dX6_copies_16 : decode cX6_copies 16 = .ok (.getfield 22, 3) := by decide +kernel
theorem dX6_copies_19 : decode cX6_copies 19 = .ok (.iload_n 1, 1) := by decide +kernel
theorem dX6_copies_20 : decode cX6_copies 20 = .ok (.iload_n 3, 1) := by decide +kernel
theorem dX6_copies_21 : decode cX6_copies 21 = .ok (.iadd, 1) := by decide +kernel
theorem dX6_copies_22 : decode cX6_copies 22 = .ok (.iaload, 1) := by decide +kernel
theorem dX6_copies_23 : decode cX6_copies 23 = .ok (.iastore, 1) := by decide +kernel
theorem dX6_copies_24 : decode cX6_copies 24 = .ok (.iinc 3 1, 3) := by decide +kernel
theorem dX6_copies_27 : decode cX6_copies 27 = .ok (.goto (-25), 3) := by decide +kernel
theorem dX6_copies_30 : decode cX6_copies 30 = .ok (.return_, 1) := by decide +kernel
theorem dX6_isPerson_0 : decode cX6_isPerson 0 = .ok (.iload_n 1, 1) := by decide +kernel
theorem dX6_isPerson_1 : decode cX6_isPerson 1 = .ok (.i2l, 1) := by decide +kernel
theorem dX6_isPerson_2 : decode cX6_isPerson 2 = .ok (.lconst 0, 1) := by decide +kernel
theorem dX6_isPerson_3 : decode cX6_isPerson 3 = .ok (.aload_n 0, 1) := by decide +kernel
theorem dX6_isPerson_4 : decode cX6_isPerson 4 = .ok (.getfield 65, 3) := by decide +kernel
theorem dX6_isPerson_7 : decode cX6_isPerson 7 = .ok (.iconst 1, 1) := by decide +kernel
theorem dX6_isPerson_8 : decode cX6_isPerson 8 = .ok (.isub, 1) := by decide +kernel
theorem dX6_isPerson_9 : decode cX6_isPerson 9 = .ok (.i2l, 1) := by decide +kernel
theorem dX6_isPerson_10 : decode cX6_isPerson 10 = .ok (.invokestatic 71, 3) := by decide +kernel
theorem dX6_isPerson_13 : decode cX6_isPerson 13 = .ok (.ireturn, 1) := by decide +kernel
theorem dX6_areTwo_0 : decode cX6_areTwo 0 = .ok (.aload_n 0, 1) := by decide +kernel
theorem dX6_areTwo_1 : decode cX6_areTwo 1 = .ok (.iload_n 1, 1) := by decide +kernel
theorem dX6_areTwo_2 : decode cX6_areTwo 2 = .ok (.invokevirtual 75, 3) := by decide +kernel
theorem dX6_areTwo_5 : decode cX6_areTwo 5 = .ok (.ifCond .eq 20, 3) := by decide +kernel
theorem dX6_areTwo_8 : decode cX6_areTwo 8 = .ok (.aload_n 0, 1) := by decide +kernel
theorem dX6_areTwo_9 : decode cX6_areTwo 9 = .ok (.iload_n 2, 1) := by decide +kernel
theorem dX6_areTwo_10 : decode cX6_areTwo 10 = .ok (.invokevirtual 75, 3) := by decide +kernel
theorem dX6_areTwo_13 : decode cX6_areTwo 13 = .ok (.ifCond .eq 12, 3) := by decide +kernel
theorem dX6_areTwo_16 : decode cX6_areTwo 16 = .ok (.iload_n 1, 1) := by decide +kernel
theorem dX6_areTwo_17 : decode cX6_areTwo 17 = .ok (.iload_n 2, 1) := by decide +kernel
theorem dX6_areTwo_18 : decode cX6_areTwo 18 = .ok (.if_icmp .eq 7, 3) := by decide +kernel
theorem dX6_areTwo_21 : decode cX6_areTwo 21 = .ok (.iconst 1, 1) := by decide +kernel
theorem dX6_areTwo_22 : decode cX6_areTwo 22 = .ok (.goto 4, 3) := by decide +kernel
theorem dX6_areTwo_25 : decode cX6_areTwo 25 = .ok (.iconst 0, 1) := by decide +kernel
theorem dX6_areTwo_26 : decode cX6_areTwo 26 = .ok (.ireturn, 1) := by decide +kernel
theorem dX6_write_0 : decode cX6_write 0 = .ok (.iload_n 1, 1) := by decide +kernel
theorem dX6_write_1 : decode cX6_write 1 = .ok (.i2l, 1) := by decide +kernel
theorem dX6_write_2 : decode cX6_write 2 = .ok (.ldc2_w 79, 3) := by decide +kernel
theorem dX6_write_5 : decode cX6_write 5 = .ok (.ldc2_w 81, 3) := by decide +kernel
theorem dX6_write_8 : decode cX6_write 8 = .ok (.invokestatic 71, 3) := by decide +kernel
theorem dX6_write_11 : decode cX6_write 11 = .ok (.ifCond .ne 5, 3) := by decide +kernel
theorem dX6_write_14 : decode cX6_write 14 = .ok (.iconst (-1), 1) := by decide +kernel
theorem dX6_write_15 : decode cX6_write 15 = .ok (.ireturn, 1) := by decide +kernel
theorem dX6_write_16 : decode cX6_write 16 = .ok (.aload_n 0, 1) := by decide +kernel
theorem dX6_write_17 : decode cX6_write 17 = .ok (.getfield 83, 3) := by decide +kernel
theorem dX6_write_20 : decode cX6_write 20 = .ok (.sipush 200, 3) := by decide +kernel
theorem dX6_write_23 : decode cX6_write 23 = .ok (.if_icmp .ne 6, 3) := by decide +kernel
theorem dX6_write_26 : decode cX6_write 26 = .ok (.bipush (-3), 2) := by decide +kernel
theorem dX6_write_28 : decode cX6_write 28 = .ok (.ireturn, 1) := by decide +kernel
theorem dX6_write_29 : decode cX6_write 29 = .ok (.aload_n 0, 1) := by decide +kernel
theorem dX6_write_30 : decode cX6_write 30 = .ok (.getfield 25, 3) := by decide +kernel
theorem dX6_write_33 : decode cX6_write 33 = .ok (.aload_n 0, 1) := by decide +kernel
theorem dX6_write_34 : decode cX6_write 34 = .ok (.getfield 83, 3) := by decide +kernel
theorem dX6_write_37 : decode cX6_write 37 = .ok (.iload_n 1, 1) := by decide +kernel
theorem dX6_write_38 : decode cX6_write 38 = .ok (.i2b, 1) := by decide +kernel
theorem dX6_write_39 : decode cX6_write 39 = .ok (.bastore, 1) := by decide +kernel
theorem dX6_write_40 : decode cX6_write 40 = .ok (.aload_n 0, 1) := by decide +kernel
theorem dX6_write_41 : decode cX6_write 41 = .ok (.dup, 1) := by decide +kernel
theorem dX6_write_42 : decode cX6_write 42 = .ok (.getfield 83, 3) := by decide +kernel
theorem dX6_write_45 : decode cX6_write 45 = .ok (.iconst 1, 1) := by decide +kernel
theorem dX6_write_46 : decode cX6_write 46 = .ok (.iadd, 1) := by decide +kernel
theorem dX6_write_47 : decode cX6_write 47 = .ok (.putfield 83, 3) := by decide +kernel
theorem dX6_write_50 : decode cX6_write 50 = .ok (.aload_n 0, 1) := by decide +kernel
theorem dX6_write_51 : decode cX6_write 51 = .ok (.getfield 83, 3) := by decide +kernel
theorem dX6_write_54 : decode cX6_write 54 = .ok (.ireturn, 1) := by decide +kernel
theorem dX6_wipe_0 : decode cX6_wipe 0 = .ok (.aload_n 0, 1) := by decide +kernel
theorem dX6_wipe_1 : decode cX6_wipe 1 = .ok (.getfield 83, 3) := by decide +kernel
theorem dX6_wipe_4 : decode cX6_wipe 4 = .ok (.istore_n 1, 1) := by decide +kernel
theorem dX6_wipe_5 : decode cX6_wipe 5 = .ok (.aload_n 0, 1) := by decide +kernel
theorem dX6_wipe_6 : decode cX6_wipe 6 = .ok (.iconst 0, 1) := by decide +kernel
theorem dX6_wipe_7 : decode cX6_wipe 7 = .ok (.putfield 83, 3) := by decide +kernel
theorem dX6_wipe_10 : decode cX6_wipe 10 = .ok (.iload_n 1, 1) := by decide +kernel
theorem dX6_wipe_11 : decode cX6_wipe 11 = .ok (.ireturn, 1) := by decide +kernel
theorem dX6_next_0 : decode cX6_next 0 = .ok (.aload_n 0, 1) := by decide +kernel
theorem dX6_next_1 : decode cX6_next 1 = .ok (.getfield 86, 3) := by decide +kernel
theorem dX6_next_4 : decode cX6_next 4 = .ok (.aload_n 0, 1) := by decide +kernel
theorem dX6_next_5 : decode cX6_next 5 = .ok (.getfield 83, 3) := by decide +kernel
theorem dX6_next_8 : decode cX6_next 8 = .ok (.if_icmp .ge 15, 3) := by decide +kernel
theorem dX6_next_11 : decode cX6_next 11 = .ok (.aload_n 0, 1) := by decide +kernel
theorem dX6_next_12 : decode cX6_next 12 = .ok (.getfield 25, 3) := by decide +kernel
theorem dX6_next_15 : decode cX6_next 15 = .ok (.aload_n 0, 1) := by decide +kernel
theorem dX6_next_16 : decode cX6_next 16 = .ok (.getfield 86, 3) := by decide +kernel
theorem dX6_next_19 : decode cX6_next 19 = .ok (.baload, 1) := by decide +kernel
theorem dX6_next_20 : decode cX6_next 20 = .ok (.goto 4, 3) := by decide +kernel
theorem dX6_next_23 : decode cX6_next 23 = .ok (.iconst (-1), 1) := by decide +kernel
theorem dX6_next_24 : decode cX6_next 24 = .ok (.ireturn, 1) := by decide +kernel
theorem dX6_number_0 : decode cX6_number 0 = .ok (.iconst 0, 1) := by decide +kernel
theorem dX6_number_1 : decode cX6_number 1 = .ok (.istore_n 3, 1) := by decide +kernel
theorem dX6_number_2 : decode cX6_number 2 = .ok (.iconst 0, 1) := by decide +kernel
theorem dX6_number_3 : decode cX6_number 3 = .ok (.istore 4, 2) := by decide +kernel
theorem dX6_number_5 : decode cX6_number 5 = .ok (.aload_n 0, 1) := by decide +kernel
theorem dX6_number_6 : decode cX6_number 6 = .ok (.invokevirtual 89, 3) := by decide +kernel
theorem dX6_number_9 : decode cX6_number 9 = .ok (.i2l, 1) := by decide +kernel
theorem dX6_number_10 : decode cX6_number 10 = .ok (.ldc2_w 93, 3) := by decide +kernel
theorem dX6_number_13 : decode cX6_number 13 = .ok (.ldc2_w 95, 3) := by decide +kernel
theorem dX6_number_16 : decode cX6_number 16 = .ok (.invokestatic 71, 3) := by decide +kernel
theorem dX6_number_19 : decode cX6_number 19 = .ok (.ifCond .eq 38, 3) := by decide +kernel
theorem dX6_number_22 : decode cX6_number 22 = .ok (.iload 4, 2) := by decide +kernel
theorem dX6_number_24 : decode cX6_number 24 = .ok (.iconst 3, 1) := by decide +kernel
theorem dX6_number_25 : decode cX6_number 25 = .ok (.if_icmp .ge 32, 3) := by decide +kernel
theorem dX6_number_28 : decode cX6_number 28 = .ok (.bipush 10, 2) := by decide +kernel
theorem dX6_number_30 : decode cX6_number 30 = .ok (.iload_n 3, 1) := by decide +kernel
theorem dX6_number_31 : decode cX6_number 31 = .ok (.imul, 1) := by decide +kernel
theorem dX6_number_32 : decode cX6_number 32 = .ok (.aload_n 0, 1) := by decide +kernel
theorem dX6_number_33 : decode cX6_number 33 = .ok (.invokevirtual 89, 3) := by decide +kernel
theorem dX6_number_36 : decode cX6_number 36 = .ok (.iadd, 1) := by decide +kernel
theorem dX6_number_37 : decode cX6_number 37 = .ok (.bipush 48, 2) := by decide +kernel
theorem dX6_number_39 : decode cX6_number 39 = .ok (.isub, 1) := by decide +kernel
theorem dX6_number_40 : decode cX6_number 40 = .ok (.istore_n 3, 1) := by decide +kernel
theorem dX6_number_41 : decode cX6_number 41 = .ok (.iinc 4 1, 3) := by decide +kernel
theorem dX6_number_44 : decode cX6_number 44 = .ok (.aload_n 0, 1) := by decide +kernel
theorem dX6_number_45 : decode cX6_number 45 = .ok (.dup, 1) := by decide +kernel
theorem dX6_number_46 : decode cX6_number 46 = .ok (.getfield 86, 3) := by decide +kernel
theorem dX6_number_49 : decode cX6_number 49 = .ok (.iconst 1, 1) := by decide +kernel
theorem dX6_number_50 : decode cX6_number 50 = .ok (.iadd, 1) := by decide +kernel
theorem dX6_number_51 : decode cX6_number 51 = .ok (.putfield 86, 3) := by decide +kernel
theorem dX6_number_54 : decode cX6_number 54 = .ok (.goto (-49), 3) := by decide +kernel
theorem dX6_number_57 : decode cX6_number 57 = .ok (.aload_n 0, 1) := by decide +kernel
theorem dX6_number_58 : decode cX6_number 58 = .ok (.aload_n 0, 1) := by decide +kernel
theorem dX6_number_59 : decode cX6_number 59 = .ok (.getfield 97, 3) := by decide +kernel
theorem dX6_number_62 : decode cX6_number 62 = .ok (.ifCond .ne 26, 3) := by decide +kernel
theorem dX6_number_65 : decode cX6_number 65 = .ok (.iload 4, 2) := by decide +kernel
theorem dX6_number_67 : decode cX6_number 67 = .ok (.ifCond .eq 21, 3) := by decide +kernel
theorem dX6_number_70 : decode cX6_number 70 = .ok (.iload 4, 2) := by decide +kernel
theorem dX6_number_72 : decode cX6_number 72 = .ok (.iconst 2, 1) := by decide +kernel
theorem dX6_number_73 : decode cX6_number 73 = .ok (.if_icmp .gt 15, 3) := by decide +kernel
theorem dX6_number_76 : decode cX6_number 76 = .ok (.iload_n 3, 1) := by decide +kernel
theorem dX6_number_77 : decode cX6_number 77 = .ok (.i2l, 1) := by decide +kernel
theorem dX6_number_78 : decode cX6_number 78 = .ok (.iload_n 1, 1) := by decide +kernel
theorem dX6_number_79 : decode cX6_number 79 = .ok (.i2l, 1) := by decide +kernel
theorem dX6_number_80 : decode cX6_number 80 = .ok (.iload_n 2, 1) := by decide +kernel
theorem dX6_number_81 : decode cX6_number 81 = .ok (.i2l, 1) := by decide +kernel
theorem dX6_number_82 : decode cX6_number 82 = .ok (.invokestatic 71, 3) := by decide +kernel
theorem dX6_number_85 : decode cX6_number 85 = .ok (.ifCond .ne 7, 3) := by decide +kernel
theorem dX6_number_88 : decode cX6_number 88 = .ok (.iconst 1, 1) := by decide +kernel
theorem dX6_number_89 : decode cX6_number 89 = .ok (.goto 4, 3) := by decide +kernel
theorem dX6_number_92 : decode cX6_number 92 = .ok (.iconst 0, 1) := by decide +kernel
theorem dX6_number_93 : decode cX6_number 93 = .ok (.putfield 97, 3) := by decide +kernel
theorem dX6_number_96 : decode cX6_number 96 = .ok (.aload_n 0, 1) := by decide +kernel
theorem dX6_number_97 : decode cX6_number 97 = .ok (.getfield 97, 3) := by decide +kernel
theorem dX6_number_100 : decode cX6_number 100 = .ok (.ifCond .eq 7, 3) := by decide +kernel
theorem dX6_number_103 : decode cX6_number 103 = .ok (.iconst 0, 1) := by decide +kernel
theorem dX6_number_104 : decode cX6_number 104 = .ok (.goto 4, 3) := by decide +kernel
theorem dX6_number_107 : decode cX6_number 107 = .ok (.iload_n 3, 1) := by decide +kernel
theorem dX6_number_108 : decode cX6_number 108 = .ok (.ireturn, 1) := by decide +kernel
theorem dX6_more_0 : decode cX6_more 0 = .ok (.aload_n 0, 1) := by decide +kernel
theorem dX6_more_1 : decode cX6_more 1 = .ok (.aload_n 0, 1) := by decide +kernel
theorem dX6_more_2 : decode cX6_more 2 = .ok (.getfield 97, 3) := by decide +kernel
theorem dX6_more_5 : decode cX6_more 5 = .ok (.ifCond .ne 12, 3) := by decide +kernel
theorem dX6_more_8 : decode cX6_more 8 = .ok (.aload_n 0, 1) := by decide +kernel
theorem dX6_more_9 : decode cX6_more 9 = .ok (.invokevirtual 89, 3) := by decide +kernel
theorem dX6_more_12 : decode cX6_more 12 = .ok (.bipush 44, 2) := by decide +kernel
theorem dX6_more_14 : decode cX6_more 14 = .ok (.if_icmp .eq 7, 3) := by decide +kernel
theorem dX6_more_17 : decode cX6_more 17 = .ok (.iconst 1, 1) := by decide +kernel
theorem dX6_more_18 : decode cX6_more 18 = .ok (.goto 4, 3) := by decide +kernel
theorem dX6_more_21 : decode cX6_more 21 = .ok (.iconst 0, 1) := by decide +kernel
theorem dX6_more_22 : decode cX6_more 22 = .ok (.putfield 97, 3) := by decide +kernel
theorem dX6_more_25 : decode cX6_more 25 = .ok (.aload_n 0, 1) := by decide +kernel
theorem dX6_more_26 : decode cX6_more 26 = .ok (.dup, 1) := by decide +kernel
theorem dX6_more_27 : decode cX6_more 27 = .ok (.getfield 86, 3) := by decide +kernel
theorem dX6_more_30 : decode cX6_more 30 = .ok (.iconst 1, 1) := by decide +kernel
theorem dX6_more_31 : decode cX6_more 31 = .ok (.iadd, 1) := by decide +kernel
theorem dX6_more_32 : decode cX6_more 32 = .ok (.putfield 86, 3) := by decide +kernel
theorem dX6_more_35 : decode cX6_more 35 = .ok (.aload_n 0, 1) := by decide +kernel
theorem dX6_more_36 : decode cX6_more 36 = .ok (.getfield 97, 3) := by decide +kernel
theorem dX6_more_39 : decode cX6_more 39 = .ok (.ifCond .eq 7, 3) := by decide +kernel
theorem dX6_more_42 : decode cX6_more 42 = .ok (.iconst 0, 1) := by decide +kernel
theorem dX6_more_43 : decode cX6_more 43 = .ok (.goto 9, 3) := by decide +kernel
theorem dX6_more_46 : decode cX6_more 46 = .ok (.aload_n 0, 1) := by decide +kernel
theorem dX6_more_47 : decode cX6_more 47 = .ok (.iload_n 1, 1) := by decide +kernel
theorem dX6_more_48 : decode cX6_more 48 = .ok (.iload_n 2, 1) := by decide +kernel
theorem dX6_more_49 : decode cX6_more 49 = .ok (.invokevirtual 101, 3) := by decide +kernel
theorem dX6_more_52 : decode cX6_more 52 = .ok (.ireturn, 1) := by decide +kernel
theorem dX6_item_0 : decode cX6_item 0 = .ok (.iload_n 1, 1) := by decide +kernel
theorem dX6_item_1 : decode cX6_item 1 = .ok (.bipush 112, 2) := by decide +kernel
theorem dX6_item_3 : decode cX6_item 3 = .ok (.if_icmp .ne 77, 3) := by decide +kernel
theorem dX6_item_6 : decode cX6_item 6 = .ok (.aload_n 0, 1) := by decide +kernel
theorem dX6_item_7 : decode cX6_item 7 = .ok (.aload_n 0, 1) := by decide +kernel
theorem dX6_item_8 : decode cX6_item 8 = .ok (.getfield 62, 3) := by decide +kernel
theorem dX6_item_11 : decode cX6_item 11 = .ok (.bipush 6, 2) := by decide +kernel
theorem dX6_item_13 : decode cX6_item 13 = .ok (.if_icmp .ne 7, 3) := by decide +kernel
theorem dX6_item_16 : decode cX6_item 16 = .ok (.iconst 1, 1) := by decide +kernel
theorem dX6_item_17 : decode cX6_item 17 = .ok (.goto 4, 3) := by decide +kernel
theorem dX6_item_20 : decode cX6_item 20 = .ok (.iconst 0, 1) := by decide +kernel
theorem dX6_item_21 : decode cX6_item 21 = .ok (.putfield 97, 3) := by decide +kernel
theorem dX6_item_24 : decode cX6_item 24 = .ok (.aload_n 0, 1) := by decide +kernel
theorem dX6_item_25 : decode cX6_item 25 = .ok (.getfield 97, 3) := by decide +kernel
theorem dX6_item_28 : decode cX6_item 28 = .ok (.ifCond .eq 7, 3) := by decide +kernel
theorem dX6_item_31 : decode cX6_item 31 = .ok (.iconst 0, 1) := by decide +kernel
theorem dX6_item_32 : decode cX6_item 32 = .ok (.goto 9, 3) := by decide +kernel
theorem dX6_item_35 : decode cX6_item 35 = .ok (.aload_n 0, 1) := by decide +kernel
theorem dX6_item_36 : decode cX6_item 36 = .ok (.iconst 0, 1) := by decide +kernel
theorem dX6_item_37 : decode cX6_item 37 = .ok (.iconst 4, 1) := by decide +kernel
theorem dX6_item_38 : decode cX6_item 38 = .ok (.invokevirtual 101, 3) := by decide +kernel
theorem dX6_item_41 : decode cX6_item 41 = .ok (.istore_n 2, 1) := by decide +kernel
theorem dX6_item_42 : decode cX6_item 42 = .ok (.aload_n 0, 1) := by decide +kernel
theorem dX6_item_43 : decode cX6_item 43 = .ok (.iconst 0, 1) := by decide +kernel
theorem dX6_item_44 : decode cX6_item 44 = .ok (.bipush 99, 2) := by decide +kernel
theorem dX6_item_46 : decode cX6_item 46 = .ok (.invokevirtual 105, 3) := by decide +kernel
theorem dX6_item_49 : decode cX6_item 49 = .ok (.istore_n 3, 1) := by decide +kernel
theorem dX6_item_50 : decode cX6_item 50 = .ok (.aload_n 0, 1) := by decide +kernel
theorem dX6_item_51 : decode cX6_item 51 = .ok (.iconst 0, 1) := by decide +kernel
theorem dX6_item_52 : decode cX6_item 52 = .ok (.bipush 60, 2) := by decide +kernel
theorem dX6_item_54 : decode cX6_item 54 = .ok (.invokevirtual 105, 3) := by decide +kernel
theorem dX6_item_57 : decode cX6_item 57 = .ok (.istore 4, 2) := by decide +kernel
theorem dX6_item_59 : decode cX6_item 59 = .ok (.aload_n 0, 1) := by decide +kernel
theorem dX6_item_60 : decode cX6_item 60 = .ok (.getfield 97, 3) := by decide +kernel
theorem dX6_item_63 : decode cX6_item 63 = .ok (.ifCond .ne 14, 3) := by decide +kernel
theorem dX6_item_66 : decode cX6_item 66 = .ok (.aload_n 0, 1) := by decide +kernel
theorem dX6_item_67 : decode cX6_item 67 = .ok (.sipush 902, 3) := by decide +kernel
theorem dX6_item_70 : decode cX6_item 70 = .ok (.iload_n 2, 1) := by decide +kernel
theorem dX6_item_71 : decode cX6_item 71 = .ok (.iload_n 3, 1) := by decide +kernel
theorem dX6_item_72 : decode cX6_item 72 = .ok (.iload 4, 2) := by decide +kernel
theorem dX6_item_74 : decode cX6_item 74 = .ok (.invokevirtual 51, 3) := by decide +kernel
theorem dX6_item_77 : decode cX6_item 77 = .ok (.goto 159, 3) := by decide +kernel
theorem dX6_item_80 : decode cX6_item 80 = .ok (.iload_n 1, 1) := by decide +kernel
theorem dX6_item_81 : decode cX6_item 81 = .ok (.bipush 116, 2) := by decide +kernel
theorem dX6_item_83 : decode cX6_item 83 = .ok (.if_icmp .eq 9, 3) := by decide +kernel
theorem dX6_item_86 : decode cX6_item 86 = .ok (.iload_n 1, 1) := by decide +kernel
theorem dX6_item_87 : decode cX6_item 87 = .ok (.bipush 111, 2) := by decide +kernel
theorem dX6_item_89 : decode cX6_item 89 = .ok (.if_icmp .ne 122, 3) := by decide +kernel
theorem dX6_item_92 : decode cX6_item 92 = .ok (.aload_n 0, 1) := by decide +kernel
theorem dX6_item_93 : decode cX6_item 93 = .ok (.iconst 0, 1) := by decide +kernel
theorem dX6_item_94 : decode cX6_item 94 = .ok (.aload_n 0, 1) := by decide +kernel
theorem dX6_item_95 : decode cX6_item 95 = .ok (.getfield 62, 3) := by decide +kernel
theorem dX6_item_98 : decode cX6_item 98 = .ok (.iconst 1, 1) := by decide +kernel
theorem dX6_item_99 : decode cX6_item 99 = .ok (.isub, 1) := by decide +kernel
theorem dX6_item_100 : decode cX6_item 100 = .ok (.invokevirtual 101, 3) := by decide +kernel
theorem dX6_item_103 : decode cX6_item 103 = .ok (.istore_n 2, 1) := by decide +kernel
theorem dX6_item_104 : decode cX6_item 104 = .ok (.aload_n 0, 1) := by decide +kernel
theorem dX6_item_105 : decode cX6_item 105 = .ok (.iconst 0, 1) := by decide +kernel
theorem dX6_item_106 : decode cX6_item 106 = .ok (.aload_n 0, 1) := by decide +kernel
theorem dX6_item_107 : decode cX6_item 107 = .ok (.getfield 62, 3) := by decide +kernel
theorem dX6_item_110 : decode cX6_item 110 = .ok (.iconst 1, 1) := by decide +kernel
theorem dX6_item_111 : decode cX6_item 111 = .ok (.isub, 1) := by decide +kernel
theorem dX6_item_112 : decode cX6_item 112 = .ok (.invokevirtual 105, 3) := by decide +kernel
theorem dX6_item_115 : decode cX6_item 115 = .ok (.istore_n 3, 1) := by decide +kernel
theorem dX6_item_116 : decode cX6_item 116 = .ok (.aload_n 0, 1) := by decide +kernel
theorem dX6_item_117 : decode cX6_item 117 = .ok (.iconst 0, 1) := by decide +kernel
theorem dX6_item_118 : decode cX6_item 118 = .ok (.iload_n 1, 1) := by decide +kernel
theorem dX6_item_119 : decode cX6_item 119 = .ok (.bipush 116, 2) := by decide +kernel
theorem dX6_item_121 : decode cX6_item 121 = .ok (.if_icmp .ne 8, 3) := by decide +kernel
theorem dX6_item_124 : decode cX6_item 124 = .ok (.bipush 9, 2) := by decide +kernel
theorem dX6_item_126 : decode cX6_item 126 = .ok (.goto 5, 3) := by decide +kernel
theorem dX6_item_129 : decode cX6_item 129 = .ok (.bipush 60, 2) := by decide +kernel
theorem dX6_item_131 : decode cX6_item 131 = .ok (.invokevirtual 105, 3) := by decide +kernel
theorem dX6_item_134 : decode cX6_item 134 = .ok (.istore 4, 2) := by decide +kernel
theorem dX6_item_136 : decode cX6_item 136 = .ok (.aload_n 0, 1) := by decide +kernel
theorem dX6_item_137 : decode cX6_item 137 = .ok (.aload_n 0, 1) := by decide +kernel
theorem dX6_item_138 : decode cX6_item 138 = .ok (.getfield 97, 3) := by decide +kernel
theorem dX6_item_141 : decode cX6_item 141 = .ok (.ifCond .ne 8, 3) := by decide +kernel
theorem dX6_item_144 : decode cX6_item 144 = .ok (.iload_n 2, 1) := by decide +kernel
theorem dX6_item_145 : decode cX6_item 145 = .ok (.iload_n 3, 1) := by decide +kernel
theorem dX6_item_146 : decode cX6_item 146 = .ok (.if_icmp .ne 7, 3) := by decide +kernel
theorem dX6_item_149 : decode cX6_item 149 = .ok (.iconst 1, 1) := by decide +kernel
theorem dX6_item_150 : decode cX6_item 150 = .ok (.goto 4, 3) := by decide +kernel
theorem dX6_item_153 : decode cX6_item 153 = .ok (.iconst 0, 1) := by decide +kernel
theorem dX6_item_154 : decode cX6_item 154 = .ok (.putfield 97, 3) := by decide +kernel
theorem dX6_item_157 : decode cX6_item 157 = .ok (.aload_n 0, 1) := by decide +kernel
theorem dX6_item_158 : decode cX6_item 158 = .ok (.getfield 97, 3) := by decide +kernel
theorem dX6_item_161 : decode cX6_item 161 = .ok (.ifCond .ne 47, 3) := by decide +kernel
theorem dX6_item_164 : decode cX6_item 164 = .ok (.aload_n 0, 1) := by decide +kernel
theorem dX6_item_165 : decode cX6_item 165 = .ok (.getfield 22, 3) := by decide +kernel
theorem dX6_item_168 : decode cX6_item 168 = .ok (.sipush 902, 3) := by decide +kernel
theorem dX6_item_171 : decode cX6_item 171 = .ok (.iload_n 1, 1) := by decide +kernel
theorem dX6_item_172 : decode cX6_item 172 = .ok (.bipush 116, 2) := by decide +kernel
theorem dX6_item_174 : decode cX6_item 174 = .ok (.if_icmp .ne 8, 3) := by decide +kernel
theorem dX6_item_177 : decode cX6_item 177 = .ok (.bipush 10, 2) := by decide +kernel
theorem dX6_item_179 : decode cX6_item 179 = .ok (.goto 5, 3) := by decide +kernel
theorem dX6_item_182 : decode cX6_item 182 = .ok (.bipush 46, 2) := by decide +kernel
theorem dX6_item_184 : decode cX6_item 184 = .ok (.iadd, 1) := by decide +kernel
theorem dX6_item_185 : decode cX6_item 185 = .ok (.bipush 6, 2) := by decide +kernel
theorem dX6_item_187 : decode cX6_item 187 = .ok (.iload_n 2, 1) := by decide +kernel
theorem dX6_item_188 : decode cX6_item 188 = .ok (.imul, 1) := by decide +kernel
theorem dX6_item_189 : decode cX6_item 189 = .ok (.iadd, 1) := by decide +kernel
theorem dX6_item_190 : decode cX6_item 190 = .ok (.iload_n 3, 1) := by decide +kernel
theorem dX6_item_191 : decode cX6_item 191 = .ok (.iadd, 1) := by decide +kernel
theorem dX6_item_192 : decode cX6_item 192 = .ok (.iload_n 1, 1) := by decide +kernel
theorem dX6_item_193 : decode cX6_item 193 = .ok (.bipush 116, 2) := by decide +kernel
theorem dX6_item_195 : decode cX6_item 195 = .ok (.if_icmp .ne 10, 3) := by decide +kernel
theorem dX6_item_198 : decode cX6_item 198 = .ok (.iload 4, 2) := by decide +kernel
theorem dX6_item_200 : decode cX6_item 200 = .ok (.iconst 4, 1) := by decide +kernel
theorem dX6_item_201 : decode cX6_item 201 = .ok (.isub, 1) := by decide +kernel
theorem dX6_item_202 : decode cX6_item 202 = .ok (.goto 5, 3) := by decide +kernel
theorem dX6_item_205 : decode cX6_item 205 = .ok (.iload 4, 2) := by decide +kernel
theorem dX6_item_207 : decode cX6_item 207 = .ok (.iastore, 1) := by decide +kernel
theorem dX6_item_208 : decode cX6_item 208 = .ok (.goto 28, 3) := by decide +kernel
theorem dX6_item_211 : decode cX6_item 211 = .ok (.iload_n 1, 1) := by decide +kernel
theorem dX6_item_212 : decode cX6_item 212 = .ok (.bipush 103, 2) := by decide +kernel
theorem dX6_item_214 : decode cX6_item 214 = .ok (.if_icmp .ne 17, 3) := by decide +kernel
theorem dX6_item_217 : decode cX6_item 217 = .ok (.aload_n 0, 1) := by decide +kernel
theorem dX6_item_218 : decode cX6_item 218 = .ok (.aload_n 0, 1) := by decide +kernel
theorem dX6_item_219 : decode cX6_item 219 = .ok (.iconst 1, 1) := by decide +kernel
theorem dX6_item_220 : decode cX6_item 220 = .ok (.bipush 99, 2) := by decide +kernel
theorem dX6_item_222 : decode cX6_item 222 = .ok (.invokevirtual 101, 3) := by decide +kernel
theorem dX6_item_225 : decode cX6_item 225 = .ok (.putfield 55, 3) := by decide +kernel
theorem dX6_item_228 : decode cX6_item 228 = .ok (.goto 8, 3) := by decide +kernel
theorem dX6_item_231 : decode cX6_item 231 = .ok (.aload_n 0, 1) := by decide +kernel
theorem dX6_item_232 : decode cX6_item 232 = .ok (.iconst 1, 1) := by decide +kernel
theorem dX6_item_233 : decode cX6_item 233 = .ok (.putfield 97, 3) := by decide +kernel
theorem dX6_item_236 : decode cX6_item 236 = .ok (.return_, 1) := by decide +kernel
theorem dX6_reads_0 : decode cX6_reads 0 = .ok (.aload_n 0, 1) := by decide +kernel
theorem dX6_reads_1 : decode cX6_reads 1 = .ok (.iconst 0, 1) := by decide +kernel
theorem dX6_reads_2 : decode cX6_reads 2 = .ok (.putfield 62, 3) := by decide +kernel
theorem dX6_reads_5 : decode cX6_reads 5 = .ok (.aload_n 0, 1) := by decide +kernel
theorem dX6_reads_6 : decode cX6_reads 6 = .ok (.bipush 50, 2) := by decide +kernel
theorem dX6_reads_8 : decode cX6_reads 8 = .ok (.putfield 55, 3) := by decide +kernel
theorem dX6_reads_11 : decode cX6_reads 11 = .ok (.iconst 0, 1) := by decide +kernel
theorem dX6_reads_12 : decode cX6_reads 12 = .ok (.istore_n 1, 1) := by decide +kernel
theorem dX6_reads_13 : decode cX6_reads 13 = .ok (.iload_n 1, 1) := by decide +kernel
theorem dX6_reads_14 : decode cX6_reads 14 = .ok (.bipush 82, 2) := by decide +kernel
theorem dX6_reads_16 : decode cX6_reads 16 = .ok (.if_icmp .ge 20, 3) := by decide +kernel
theorem dX6_reads_19 : decode cX6_reads 19 = .ok (.aload_n 0, 1) := by decide +kernel
theorem dX6_reads_20 : decode cX6_reads 20 = .ok (.getfield 22, 3) := by decide +kernel
theorem dX6_reads_23 : decode cX6_reads 23 = .ok (.sipush 902, 3) := by decide +kernel
theorem dX6_reads_26 : decode cX6_reads 26 = .ok (.iload_n 1, 1) := by decide +kernel
theorem dX6_reads_27 : decode cX6_reads 27 = .ok (.iadd, 1) := by decide +kernel
theorem dX6_reads_28 : decode cX6_reads 28 = .ok (.iconst 0, 1) := by decide +kernel
theorem dX6_reads_29 : decode cX6_reads 29 = .ok (.iastore, 1) := by decide +kernel
theorem dX6_reads_30 : decode cX6_reads 30 = .ok (.iinc 1 1, 3) := by decide +kernel
theorem dX6_reads_33 : decode cX6_reads 33 = .ok (.goto (-20), 3) := by decide +kernel
theorem dX6_reads_36 : decode cX6_reads 36 = .ok (.aload_n 0, 1) := by decide +kernel
theorem dX6_reads_37 : decode cX6_reads 37 = .ok (.iconst 0, 1) := by decide +kernel
theorem dX6_reads_38 : decode cX6_reads 38 = .ok (.putfield 86, 3) := by decide +kernel
theorem dX6_reads_41 : decode cX6_reads 41 = .ok (.aload_n 0, 1) := by decide +kernel
theorem dX6_reads_42 : decode cX6_reads 42 = .ok (.iconst 0, 1) := by decide +kernel
theorem dX6_reads_43 : decode cX6_reads 43 = .ok (.putfield 97, 3) := by decide +kernel
theorem dX6_reads_46 : decode cX6_reads 46 = .ok (.aload_n 0, 1) := by decide +kernel
theorem dX6_reads_47 : decode cX6_reads 47 = .ok (.getfield 86, 3) := by decide +kernel
theorem dX6_reads_50 : decode cX6_reads 50 = .ok (.aload_n 0, 1) := by decide +kernel
theorem dX6_reads_51 : decode cX6_reads 51 = .ok (.getfield 83, 3) := by decide +kernel
theorem dX6_reads_54 : decode cX6_reads 54 = .ok (.if_icmp .ge 76, 3) := by decide +kernel
theorem dX6_reads_57 : decode cX6_reads 57 = .ok (.aload_n 0, 1) := by decide +kernel
theorem dX6_reads_58 : decode cX6_reads 58 = .ok (.getfield 97, 3) := by decide +kernel
theorem dX6_reads_61 : decode cX6_reads 61 = .ok (.ifCond .ne 69, 3) := by decide +kernel
theorem dX6_reads_64 : decode cX6_reads 64 = .ok (.aload_n 0, 1) := by decide +kernel
theorem dX6_reads_65 : decode cX6_reads 65 = .ok (.aload_n 0, 1) := by decide +kernel
theorem dX6_reads_66 : decode cX6_reads 66 = .ok (.getfield 86, 3) := by decide +kernel
theorem dX6_reads_69 : decode cX6_reads 69 = .ok (.putfield 108, 3) := by decide +kernel
theorem dX6_reads_72 : decode cX6_reads 72 = .ok (.aload_n 0, 1) := by decide +kernel
theorem dX6_reads_73 : decode cX6_reads 73 = .ok (.invokevirtual 89, 3) := by decide +kernel
theorem dX6_reads_76 : decode cX6_reads 76 = .ok (.istore_n 1, 1) := by decide +kernel
theorem dX6_reads_77 : decode cX6_reads 77 = .ok (.aload_n 0, 1) := by decide +kernel
theorem dX6_reads_78 : decode cX6_reads 78 = .ok (.dup, 1) := by decide +kernel
theorem dX6_reads_79 : decode cX6_reads 79 = .ok (.getfield 86, 3) := by decide +kernel
theorem dX6_reads_82 : decode cX6_reads 82 = .ok (.iconst 1, 1) := by decide +kernel
theorem dX6_reads_83 : decode cX6_reads 83 = .ok (.iadd, 1) := by decide +kernel
theorem dX6_reads_84 : decode cX6_reads 84 = .ok (.putfield 86, 3) := by decide +kernel
theorem dX6_reads_87 : decode cX6_reads 87 = .ok (.aload_n 0, 1) := by decide +kernel
theorem dX6_reads_88 : decode cX6_reads 88 = .ok (.iload_n 1, 1) := by decide +kernel
theorem dX6_reads_89 : decode cX6_reads 89 = .ok (.invokevirtual 111, 3) := by decide +kernel
theorem dX6_reads_92 : decode cX6_reads 92 = .ok (.aload_n 0, 1) := by decide +kernel
theorem dX6_reads_93 : decode cX6_reads 93 = .ok (.aload_n 0, 1) := by decide +kernel
theorem dX6_reads_94 : decode cX6_reads 94 = .ok (.getfield 97, 3) := by decide +kernel
theorem dX6_reads_97 : decode cX6_reads 97 = .ok (.ifCond .ne 12, 3) := by decide +kernel
theorem dX6_reads_100 : decode cX6_reads 100 = .ok (.aload_n 0, 1) := by decide +kernel
theorem dX6_reads_101 : decode cX6_reads 101 = .ok (.invokevirtual 89, 3) := by decide +kernel
theorem dX6_reads_104 : decode cX6_reads 104 = .ok (.bipush 59, 2) := by decide +kernel
theorem dX6_reads_106 : decode cX6_reads 106 = .ok (.if_icmp .eq 7, 3) := by decide +kernel
theorem dX6_reads_109 : decode cX6_reads 109 = .ok (.iconst 1, 1) := by decide +kernel
theorem dX6_reads_110 : decode cX6_reads 110 = .ok (.goto 4, 3) := by decide +kernel
theorem dX6_reads_113 : decode cX6_reads 113 = .ok (.iconst 0, 1) := by decide +kernel
theorem dX6_reads_114 : decode cX6_reads 114 = .ok (.putfield 97, 3) := by decide +kernel
theorem dX6_reads_117 : decode cX6_reads 117 = .ok (.aload_n 0, 1) := by decide +kernel
theorem dX6_reads_118 : decode cX6_reads 118 = .ok (.dup, 1) := by decide +kernel
theorem dX6_reads_119 : decode cX6_reads 119 = .ok (.getfield 86, 3) := by decide +kernel
theorem dX6_reads_122 : decode cX6_reads 122 = .ok (.iconst 1, 1) := by decide +kernel
theorem dX6_reads_123 : decode cX6_reads 123 = .ok (.iadd, 1) := by decide +kernel
theorem dX6_reads_124 : decode cX6_reads 124 = .ok (.putfield 86, 3) := by decide +kernel
theorem dX6_reads_127 : decode cX6_reads 127 = .ok (.goto (-81), 3) := by decide +kernel
theorem dX6_reads_130 : decode cX6_reads 130 = .ok (.aload_n 0, 1) := by decide +kernel
end
section
theorem dX6_reads_131 : decode cX6_reads 131 = .ok (.getfield 97, 3) := by decide +kernel
theorem dX6_reads_134 : decode cX6_reads 134 = .ok (.ifCond .ne 7, 3) := by decide +kernel
theorem dX6_reads_137 : decode cX6_reads 137 = .ok (.iconst 1, 1) := by decide +kernel
theorem dX6_reads_138 : decode cX6_reads 138 = .ok (.goto 4, 3) := by decide +kernel
theorem dX6_reads_141 : decode cX6_reads 141 = .ok (.iconst 0, 1) := by decide +kernel
theorem dX6_reads_142 : decode cX6_reads 142 = .ok (.ireturn, 1) := by decide +kernel
theorem dX6_fault_0 : decode cX6_fault 0 = .ok (.aload_n 0, 1) := by decide +kernel
theorem dX6_fault_1 : decode cX6_fault 1 = .ok (.invokevirtual 115, 3) := by decide +kernel
theorem dX6_fault_4 : decode cX6_fault 4 = .ok (.ifCond .eq 8, 3) := by decide +kernel
theorem dX6_fault_7 : decode cX6_fault 7 = .ok (.bipush (-4), 2) := by decide +kernel
theorem dX6_fault_9 : decode cX6_fault 9 = .ok (.goto 7, 3) := by decide +kernel
theorem dX6_fault_12 : decode cX6_fault 12 = .ok (.aload_n 0, 1) := by decide +kernel
theorem dX6_fault_13 : decode cX6_fault 13 = .ok (.getfield 108, 3) := by decide +kernel
theorem dX6_fault_16 : decode cX6_fault 16 = .ok (.ireturn, 1) := by decide +kernel
theorem dX6_lay_0 : decode cX6_lay 0 = .ok (.aload_n 0, 1) := by decide +kernel
theorem dX6_lay_1 : decode cX6_lay 1 = .ok (.invokevirtual 115, 3) := by decide +kernel
theorem dX6_lay_4 : decode cX6_lay 4 = .ok (.ifCond .eq 10, 3) := by decide +kernel
theorem dX6_lay_7 : decode cX6_lay 7 = .ok (.aload_n 0, 1) := by decide +kernel
theorem dX6_lay_8 : decode cX6_lay 8 = .ok (.getfield 62, 3) := by decide +kernel
theorem dX6_lay_11 : decode cX6_lay 11 = .ok (.ifCond .ne 6, 3) := by decide +kernel
theorem dX6_lay_14 : decode cX6_lay 14 = .ok (.bipush (-2), 2) := by decide +kernel
theorem dX6_lay_16 : decode cX6_lay 16 = .ok (.ireturn, 1) := by decide +kernel
theorem dX6_lay_17 : decode cX6_lay 17 = .ok (.aload_n 0, 1) := by decide +kernel
theorem dX6_lay_18 : decode cX6_lay 18 = .ok (.invokevirtual 59, 3) := by decide +kernel
theorem dX6_lay_21 : decode cX6_lay 21 = .ok (.aload_n 0, 1) := by decide +kernel
theorem dX6_lay_22 : decode cX6_lay 22 = .ok (.sipush 902, 3) := by decide +kernel
theorem dX6_lay_25 : decode cX6_lay 25 = .ok (.iconst 0, 1) := by decide +kernel
theorem dX6_lay_26 : decode cX6_lay 26 = .ok (.invokevirtual 119, 3) := by decide +kernel
theorem dX6_lay_29 : decode cX6_lay 29 = .ok (.aload_n 0, 1) := by decide +kernel
theorem dX6_lay_30 : decode cX6_lay 30 = .ok (.iconst 0, 1) := by decide +kernel
theorem dX6_lay_31 : decode cX6_lay 31 = .ok (.putfield 123, 3) := by decide +kernel
theorem dX6_lay_34 : decode cX6_lay 34 = .ok (.aload_n 0, 1) := by decide +kernel
theorem dX6_lay_35 : decode cX6_lay 35 = .ok (.iconst 0, 1) := by decide +kernel
theorem dX6_lay_36 : decode cX6_lay 36 = .ok (.putfield 126, 3) := by decide +kernel
theorem dX6_lay_39 : decode cX6_lay 39 = .ok (.aload_n 0, 1) := by decide +kernel
theorem dX6_lay_40 : decode cX6_lay 40 = .ok (.iconst 0, 1) := by decide +kernel
theorem dX6_lay_41 : decode cX6_lay 41 = .ok (.putfield 129, 3) := by decide +kernel
theorem dX6_lay_44 : decode cX6_lay 44 = .ok (.aload_n 0, 1) := by decide +kernel
theorem dX6_lay_45 : decode cX6_lay 45 = .ok (.getfield 65, 3) := by decide +kernel
theorem dX6_lay_48 : decode cX6_lay 48 = .ok (.ireturn, 1) := by decide +kernel
theorem dX6_isAlive_0 : decode cX6_isAlive 0 = .ok (.aload_n 0, 1) := by decide +kernel
theorem dX6_isAlive_1 : decode cX6_isAlive 1 = .ok (.getfield 22, 3) := by decide +kernel
theorem dX6_isAlive_4 : decode cX6_isAlive 4 = .ok (.iload_n 1, 1) := by decide +kernel
theorem dX6_isAlive_5 : decode cX6_isAlive 5 = .ok (.bipush 6, 2) := by decide +kernel
theorem dX6_isAlive_7 : decode cX6_isAlive 7 = .ok (.iadd, 1) := by decide +kernel
theorem dX6_isAlive_8 : decode cX6_isAlive 8 = .ok (.iaload, 1) := by decide +kernel
theorem dX6_isAlive_9 : decode cX6_isAlive 9 = .ok (.iload_n 2, 1) := by decide +kernel
theorem dX6_isAlive_10 : decode cX6_isAlive 10 = .ok (.invokestatic 132, 3) := by decide +kernel
theorem dX6_isAlive_13 : decode cX6_isAlive 13 = .ok (.ifCond .ne 7, 3) := by decide +kernel
theorem dX6_isAlive_16 : decode cX6_isAlive 16 = .ok (.iconst 1, 1) := by decide +kernel
theorem dX6_isAlive_17 : decode cX6_isAlive 17 = .ok (.goto 4, 3) := by decide +kernel
theorem dX6_isAlive_20 : decode cX6_isAlive 20 = .ok (.iconst 0, 1) := by decide +kernel
theorem dX6_isAlive_21 : decode cX6_isAlive 21 = .ok (.ireturn, 1) := by decide +kernel
theorem dX6_ageOf_0 : decode cX6_ageOf 0 = .ok (.aload_n 0, 1) := by decide +kernel
theorem dX6_ageOf_1 : decode cX6_ageOf 1 = .ok (.getfield 13, 3) := by decide +kernel
theorem dX6_ageOf_4 : decode cX6_ageOf 4 = .ok (.iload_n 2, 1) := by decide +kernel
theorem dX6_ageOf_5 : decode cX6_ageOf 5 = .ok (.iaload, 1) := by decide +kernel
theorem dX6_ageOf_6 : decode cX6_ageOf 6 = .ok (.aload_n 0, 1) := by decide +kernel
theorem dX6_ageOf_7 : decode cX6_ageOf 7 = .ok (.getfield 22, 3) := by decide +kernel
theorem dX6_ageOf_10 : decode cX6_ageOf 10 = .ok (.iload_n 1, 1) := by decide +kernel
theorem dX6_ageOf_11 : decode cX6_ageOf 11 = .ok (.bipush 8, 2) := by decide +kernel
theorem dX6_ageOf_13 : decode cX6_ageOf 13 = .ok (.iadd, 1) := by decide +kernel
theorem dX6_ageOf_14 : decode cX6_ageOf 14 = .ok (.iaload, 1) := by decide +kernel
theorem dX6_ageOf_15 : decode cX6_ageOf 15 = .ok (.bipush 30, 2) := by decide +kernel
theorem dX6_ageOf_17 : decode cX6_ageOf 17 = .ok (.idiv, 1) := by decide +kernel
theorem dX6_ageOf_18 : decode cX6_ageOf 18 = .ok (.iadd, 1) := by decide +kernel
theorem dX6_ageOf_19 : decode cX6_ageOf 19 = .ok (.ireturn, 1) := by decide +kernel
theorem dX6_heir_0 : decode cX6_heir 0 = .ok (.bipush (-4), 2) := by decide +kernel
theorem dX6_heir_2 : decode cX6_heir 2 = .ok (.istore_n 3, 1) := by decide +kernel
theorem dX6_heir_3 : decode cX6_heir 3 = .ok (.iconst 0, 1) := by decide +kernel
theorem dX6_heir_4 : decode cX6_heir 4 = .ok (.istore 4, 2) := by decide +kernel
theorem dX6_heir_6 : decode cX6_heir 6 = .ok (.iload 4, 2) := by decide +kernel
theorem dX6_heir_8 : decode cX6_heir 8 = .ok (.aload_n 0, 1) := by decide +kernel
theorem dX6_heir_9 : decode cX6_heir 9 = .ok (.getfield 65, 3) := by decide +kernel
theorem dX6_heir_12 : decode cX6_heir 12 = .ok (.if_icmp .ge 84, 3) := by decide +kernel
theorem dX6_heir_15 : decode cX6_heir 15 = .ok (.iload 4, 2) := by decide +kernel
theorem dX6_heir_17 : decode cX6_heir 17 = .ok (.iload_n 2, 1) := by decide +kernel
theorem dX6_heir_18 : decode cX6_heir 18 = .ok (.if_icmp .eq 57, 3) := by decide +kernel
theorem dX6_heir_21 : decode cX6_heir 21 = .ok (.aload_n 0, 1) := by decide +kernel
theorem dX6_heir_22 : decode cX6_heir 22 = .ok (.iload_n 1, 1) := by decide +kernel
theorem dX6_heir_23 : decode cX6_heir 23 = .ok (.iload 4, 2) := by decide +kernel
theorem dX6_heir_25 : decode cX6_heir 25 = .ok (.invokevirtual 136, 3) := by decide +kernel
theorem dX6_heir_28 : decode cX6_heir 28 = .ok (.ifCond .eq 47, 3) := by decide +kernel
theorem dX6_heir_31 : decode cX6_heir 31 = .ok (.iload_n 3, 1) := by decide +kernel
theorem dX6_heir_32 : decode cX6_heir 32 = .ok (.ifCond .lt 39, 3) := by decide +kernel
theorem dX6_heir_35 : decode cX6_heir 35 = .ok (.aload_n 0, 1) := by decide +kernel
theorem dX6_heir_36 : decode cX6_heir 36 = .ok (.getfield 22, 3) := by decide +kernel
theorem dX6_heir_39 : decode cX6_heir 39 = .ok (.iload_n 1, 1) := by decide +kernel
theorem dX6_heir_40 : decode cX6_heir 40 = .ok (.bipush 10, 2) := by decide +kernel
theorem dX6_heir_42 : decode cX6_heir 42 = .ok (.iadd, 1) := by decide +kernel
theorem dX6_heir_43 : decode cX6_heir 43 = .ok (.bipush 6, 2) := by decide +kernel
theorem dX6_heir_45 : decode cX6_heir 45 = .ok (.iload_n 2, 1) := by decide +kernel
theorem dX6_heir_46 : decode cX6_heir 46 = .ok (.imul, 1) := by decide +kernel
theorem dX6_heir_47 : decode cX6_heir 47 = .ok (.iadd, 1) := by decide +kernel
theorem dX6_heir_48 : decode cX6_heir 48 = .ok (.iload 4, 2) := by decide +kernel
theorem dX6_heir_50 : decode cX6_heir 50 = .ok (.iadd, 1) := by decide +kernel
theorem dX6_heir_51 : decode cX6_heir 51 = .ok (.iaload, 1) := by decide +kernel
theorem dX6_heir_52 : decode cX6_heir 52 = .ok (.aload_n 0, 1) := by decide +kernel
theorem dX6_heir_53 : decode cX6_heir 53 = .ok (.getfield 22, 3) := by decide +kernel
theorem dX6_heir_56 : decode cX6_heir 56 = .ok (.iload_n 1, 1) := by decide +kernel
theorem dX6_heir_57 : decode cX6_heir 57 = .ok (.bipush 10, 2) := by decide +kernel
theorem dX6_heir_59 : decode cX6_heir 59 = .ok (.iadd, 1) := by decide +kernel
theorem dX6_heir_60 : decode cX6_heir 60 = .ok (.bipush 6, 2) := by decide +kernel
theorem dX6_heir_62 : decode cX6_heir 62 = .ok (.iload_n 2, 1) := by decide +kernel
theorem dX6_heir_63 : decode cX6_heir 63 = .ok (.imul, 1) := by decide +kernel
theorem dX6_heir_64 : decode cX6_heir 64 = .ok (.iadd, 1) := by decide +kernel
theorem dX6_heir_65 : decode cX6_heir 65 = .ok (.iload_n 3, 1) := by decide +kernel
theorem dX6_heir_66 : decode cX6_heir 66 = .ok (.iadd, 1) := by decide +kernel
theorem dX6_heir_67 : decode cX6_heir 67 = .ok (.iaload, 1) := by decide +kernel
theorem dX6_heir_68 : decode cX6_heir 68 = .ok (.if_icmp .le 7, 3) := by decide +kernel
theorem dX6_heir_71 : decode cX6_heir 71 = .ok (.iconst 1, 1) := by decide +kernel
theorem dX6_heir_72 : decode cX6_heir 72 = .ok (.goto 4, 3) := by decide +kernel
theorem dX6_heir_75 : decode cX6_heir 75 = .ok (.iconst 0, 1) := by decide +kernel
theorem dX6_heir_76 : decode cX6_heir 76 = .ok (.istore 5, 2) := by decide +kernel
theorem dX6_heir_78 : decode cX6_heir 78 = .ok (.iload 5, 2) := by decide +kernel
theorem dX6_heir_80 : decode cX6_heir 80 = .ok (.ifCond .eq 8, 3) := by decide +kernel
theorem dX6_heir_83 : decode cX6_heir 83 = .ok (.iload 4, 2) := by decide +kernel
theorem dX6_heir_85 : decode cX6_heir 85 = .ok (.goto 4, 3) := by decide +kernel
theorem dX6_heir_88 : decode cX6_heir 88 = .ok (.iload_n 3, 1) := by decide +kernel
theorem dX6_heir_89 : decode cX6_heir 89 = .ok (.istore_n 3, 1) := by decide +kernel
theorem dX6_heir_90 : decode cX6_heir 90 = .ok (.iinc 4 1, 3) := by decide +kernel
theorem dX6_heir_93 : decode cX6_heir 93 = .ok (.goto (-87), 3) := by decide +kernel
theorem dX6_heir_96 : decode cX6_heir 96 = .ok (.iload_n 3, 1) := by decide +kernel
theorem dX6_heir_97 : decode cX6_heir 97 = .ok (.ireturn, 1) := by decide +kernel
theorem dX6_person_0 : decode cX6_person 0 = .ok (.aload_n 0, 1) := by decide +kernel
theorem dX6_person_1 : decode cX6_person 1 = .ok (.iload_n 1, 1) := by decide +kernel
theorem dX6_person_2 : decode cX6_person 2 = .ok (.invokevirtual 75, 3) := by decide +kernel
theorem dX6_person_5 : decode cX6_person 5 = .ok (.ifCond .eq 15, 3) := by decide +kernel
theorem dX6_person_8 : decode cX6_person 8 = .ok (.iload_n 2, 1) := by decide +kernel
theorem dX6_person_9 : decode cX6_person 9 = .ok (.i2l, 1) := by decide +kernel
theorem dX6_person_10 : decode cX6_person 10 = .ok (.lconst 0, 1) := by decide +kernel
theorem dX6_person_11 : decode cX6_person 11 = .ok (.ldc2_w 139, 3) := by decide +kernel
theorem dX6_person_14 : decode cX6_person 14 = .ok (.invokestatic 71, 3) := by decide +kernel
theorem dX6_person_17 : decode cX6_person 17 = .ok (.ifCond .ne 5, 3) := by decide +kernel
theorem dX6_person_20 : decode cX6_person 20 = .ok (.iconst (-1), 1) := by decide +kernel
theorem dX6_person_21 : decode cX6_person 21 = .ok (.ireturn, 1) := by decide +kernel
theorem dX6_person_22 : decode cX6_person 22 = .ok (.iload_n 2, 1) := by decide +kernel
theorem dX6_person_23 : decode cX6_person 23 = .ok (.ifCond .ne 12, 3) := by decide +kernel
theorem dX6_person_26 : decode cX6_person 26 = .ok (.aload_n 0, 1) := by decide +kernel
theorem dX6_person_27 : decode cX6_person 27 = .ok (.getfield 7, 3) := by decide +kernel
theorem dX6_person_30 : decode cX6_person 30 = .ok (.iload_n 1, 1) := by decide +kernel
theorem dX6_person_31 : decode cX6_person 31 = .ok (.iaload, 1) := by decide +kernel
theorem dX6_person_32 : decode cX6_person 32 = .ok (.goto 89, 3) := by decide +kernel
theorem dX6_person_35 : decode cX6_person 35 = .ok (.iload_n 2, 1) := by decide +kernel
theorem dX6_person_36 : decode cX6_person 36 = .ok (.iconst 1, 1) := by decide +kernel
theorem dX6_person_37 : decode cX6_person 37 = .ok (.if_icmp .ne 12, 3) := by decide +kernel
theorem dX6_person_40 : decode cX6_person 40 = .ok (.aload_n 0, 1) := by decide +kernel
theorem dX6_person_41 : decode cX6_person 41 = .ok (.iconst 0, 1) := by decide +kernel
theorem dX6_person_42 : decode cX6_person 42 = .ok (.iload_n 1, 1) := by decide +kernel
theorem dX6_person_43 : decode cX6_person 43 = .ok (.invokevirtual 141, 3) := by decide +kernel
theorem dX6_person_46 : decode cX6_person 46 = .ok (.goto 75, 3) := by decide +kernel
theorem dX6_person_49 : decode cX6_person 49 = .ok (.iload_n 2, 1) := by decide +kernel
theorem dX6_person_50 : decode cX6_person 50 = .ok (.iconst 2, 1) := by decide +kernel
theorem dX6_person_51 : decode cX6_person 51 = .ok (.if_icmp .ne 12, 3) := by decide +kernel
theorem dX6_person_54 : decode cX6_person 54 = .ok (.aload_n 0, 1) := by decide +kernel
theorem dX6_person_55 : decode cX6_person 55 = .ok (.getfield 22, 3) := by decide +kernel
theorem dX6_person_58 : decode cX6_person 58 = .ok (.iload_n 1, 1) := by decide +kernel
theorem dX6_person_59 : decode cX6_person 59 = .ok (.iaload, 1) := by decide +kernel
theorem dX6_person_60 : decode cX6_person 60 = .ok (.goto 61, 3) := by decide +kernel
theorem dX6_person_63 : decode cX6_person 63 = .ok (.iload_n 2, 1) := by decide +kernel
theorem dX6_person_64 : decode cX6_person 64 = .ok (.iconst 3, 1) := by decide +kernel
theorem dX6_person_65 : decode cX6_person 65 = .ok (.if_icmp .ne 17, 3) := by decide +kernel
theorem dX6_person_68 : decode cX6_person 68 = .ok (.aload_n 0, 1) := by decide +kernel
theorem dX6_person_69 : decode cX6_person 69 = .ok (.getfield 22, 3) := by decide +kernel
theorem dX6_person_72 : decode cX6_person 72 = .ok (.bipush 6, 2) := by decide +kernel
theorem dX6_person_74 : decode cX6_person 74 = .ok (.iaload, 1) := by decide +kernel
theorem dX6_person_75 : decode cX6_person 75 = .ok (.iload_n 1, 1) := by decide +kernel
theorem dX6_person_76 : decode cX6_person 76 = .ok (.ishr, 1) := by decide +kernel
theorem dX6_person_77 : decode cX6_person 77 = .ok (.iconst 1, 1) := by decide +kernel
theorem dX6_person_78 : decode cX6_person 78 = .ok (.iand, 1) := by decide +kernel
theorem dX6_person_79 : decode cX6_person 79 = .ok (.goto 42, 3) := by decide +kernel
theorem dX6_person_82 : decode cX6_person 82 = .ok (.iload_n 2, 1) := by decide +kernel
theorem dX6_person_83 : decode cX6_person 83 = .ok (.iconst 4, 1) := by decide +kernel
theorem dX6_person_84 : decode cX6_person 84 = .ok (.if_icmp .ne 17, 3) := by decide +kernel
theorem dX6_person_87 : decode cX6_person 87 = .ok (.aload_n 0, 1) := by decide +kernel
theorem dX6_person_88 : decode cX6_person 88 = .ok (.getfield 22, 3) := by decide +kernel
theorem dX6_person_91 : decode cX6_person 91 = .ok (.bipush 7, 2) := by decide +kernel
theorem dX6_person_93 : decode cX6_person 93 = .ok (.iaload, 1) := by decide +kernel
theorem dX6_person_94 : decode cX6_person 94 = .ok (.iload_n 1, 1) := by decide +kernel
theorem dX6_person_95 : decode cX6_person 95 = .ok (.ishr, 1) := by decide +kernel
theorem dX6_person_96 : decode cX6_person 96 = .ok (.iconst 1, 1) := by decide +kernel
theorem dX6_person_97 : decode cX6_person 97 = .ok (.iand, 1) := by decide +kernel
theorem dX6_person_98 : decode cX6_person 98 = .ok (.goto 23, 3) := by decide +kernel
theorem dX6_person_101 : decode cX6_person 101 = .ok (.aload_n 0, 1) := by decide +kernel
theorem dX6_person_102 : decode cX6_person 102 = .ok (.iconst 0, 1) := by decide +kernel
theorem dX6_person_103 : decode cX6_person 103 = .ok (.iload_n 1, 1) := by decide +kernel
theorem dX6_person_104 : decode cX6_person 104 = .ok (.invokevirtual 136, 3) := by decide +kernel
theorem dX6_person_107 : decode cX6_person 107 = .ok (.ifCond .eq 12, 3) := by decide +kernel
theorem dX6_person_110 : decode cX6_person 110 = .ok (.aload_n 0, 1) := by decide +kernel
theorem dX6_person_111 : decode cX6_person 111 = .ok (.iconst 0, 1) := by decide +kernel
theorem dX6_person_112 : decode cX6_person 112 = .ok (.iload_n 1, 1) := by decide +kernel
theorem dX6_person_113 : decode cX6_person 113 = .ok (.invokevirtual 144, 3) := by decide +kernel
theorem dX6_person_116 : decode cX6_person 116 = .ok (.goto 5, 3) := by decide +kernel
theorem dX6_person_119 : decode cX6_person 119 = .ok (.bipush (-4), 2) := by decide +kernel
theorem dX6_person_121 : decode cX6_person 121 = .ok (.ireturn, 1) := by decide +kernel
theorem dX6_tie_0 : decode cX6_tie 0 = .ok (.aload_n 0, 1) := by decide +kernel
theorem dX6_tie_1 : decode cX6_tie 1 = .ok (.iload_n 1, 1) := by decide +kernel
theorem dX6_tie_2 : decode cX6_tie 2 = .ok (.iload_n 2, 1) := by decide +kernel
theorem dX6_tie_3 : decode cX6_tie 3 = .ok (.invokevirtual 147, 3) := by decide +kernel
theorem dX6_tie_6 : decode cX6_tie 6 = .ok (.ifCond .eq 22, 3) := by decide +kernel
theorem dX6_tie_9 : decode cX6_tie 9 = .ok (.aload_n 0, 1) := by decide +kernel
theorem dX6_tie_10 : decode cX6_tie 10 = .ok (.getfield 22, 3) := by decide +kernel
theorem dX6_tie_13 : decode cX6_tie 13 = .ok (.bipush 10, 2) := by decide +kernel
theorem dX6_tie_15 : decode cX6_tie 15 = .ok (.bipush 6, 2) := by decide +kernel
theorem dX6_tie_17 : decode cX6_tie 17 = .ok (.iload_n 1, 1) := by decide +kernel
theorem dX6_tie_18 : decode cX6_tie 18 = .ok (.imul, 1) := by decide +kernel
theorem dX6_tie_19 : decode cX6_tie 19 = .ok (.iadd, 1) := by decide +kernel
theorem dX6_tie_20 : decode cX6_tie 20 = .ok (.iload_n 2, 1) := by decide +kernel
theorem dX6_tie_21 : decode cX6_tie 21 = .ok (.iadd, 1) := by decide +kernel
theorem dX6_tie_22 : decode cX6_tie 22 = .ok (.iaload, 1) := by decide +kernel
theorem dX6_tie_23 : decode cX6_tie 23 = .ok (.iconst 4, 1) := by decide +kernel
theorem dX6_tie_24 : decode cX6_tie 24 = .ok (.iadd, 1) := by decide +kernel
theorem dX6_tie_25 : decode cX6_tie 25 = .ok (.goto 4, 3) := by decide +kernel
theorem dX6_tie_28 : decode cX6_tie 28 = .ok (.iconst (-1), 1) := by decide +kernel
theorem dX6_tie_29 : decode cX6_tie 29 = .ok (.ireturn, 1) := by decide +kernel
theorem dX6_owes_0 : decode cX6_owes 0 = .ok (.aload_n 0, 1) := by decide +kernel
theorem dX6_owes_1 : decode cX6_owes 1 = .ok (.iload_n 1, 1) := by decide +kernel
theorem dX6_owes_2 : decode cX6_owes 2 = .ok (.iload_n 2, 1) := by decide +kernel
theorem dX6_owes_3 : decode cX6_owes 3 = .ok (.invokevirtual 147, 3) := by decide +kernel
theorem dX6_owes_6 : decode cX6_owes 6 = .ok (.ifCond .eq 20, 3) := by decide +kernel
theorem dX6_owes_9 : decode cX6_owes 9 = .ok (.aload_n 0, 1) := by decide +kernel
theorem dX6_owes_10 : decode cX6_owes 10 = .ok (.getfield 22, 3) := by decide +kernel
theorem dX6_owes_13 : decode cX6_owes 13 = .ok (.bipush 46, 2) := by decide +kernel
theorem dX6_owes_15 : decode cX6_owes 15 = .ok (.bipush 6, 2) := by decide +kernel
theorem dX6_owes_17 : decode cX6_owes 17 = .ok (.iload_n 1, 1) := by decide +kernel
theorem dX6_owes_18 : decode cX6_owes 18 = .ok (.imul, 1) := by decide +kernel
theorem dX6_owes_19 : decode cX6_owes 19 = .ok (.iadd, 1) := by decide +kernel
theorem dX6_owes_20 : decode cX6_owes 20 = .ok (.iload_n 2, 1) := by decide +kernel
theorem dX6_owes_21 : decode cX6_owes 21 = .ok (.iadd, 1) := by decide +kernel
theorem dX6_owes_22 : decode cX6_owes 22 = .ok (.iaload, 1) := by decide +kernel
theorem dX6_owes_23 : decode cX6_owes 23 = .ok (.goto 4, 3) := by decide +kernel
theorem dX6_owes_26 : decode cX6_owes 26 = .ok (.iconst (-1), 1) := by decide +kernel
theorem dX6_owes_27 : decode cX6_owes 27 = .ok (.ireturn, 1) := by decide +kernel
theorem dX6_likes_0 : decode cX6_likes 0 = .ok (.iload 5, 2) := by decide +kernel
theorem dX6_likes_2 : decode cX6_likes 2 = .ok (.iload 6, 2) := by decide +kernel
theorem dX6_likes_4 : decode cX6_likes 4 = .ok (.iadd, 1) := by decide +kernel
theorem dX6_likes_5 : decode cX6_likes 5 = .ok (.iconst 2, 1) := by decide +kernel
theorem dX6_likes_6 : decode cX6_likes 6 = .ok (.if_icmp .lt 7, 3) := by decide +kernel
theorem dX6_likes_9 : decode cX6_likes 9 = .ok (.iconst 1, 1) := by decide +kernel
theorem dX6_likes_10 : decode cX6_likes 10 = .ok (.goto 4, 3) := by decide +kernel
theorem dX6_likes_13 : decode cX6_likes 13 = .ok (.iconst 0, 1) := by decide +kernel
theorem dX6_likes_14 : decode cX6_likes 14 = .ok (.istore 8, 2) := by decide +kernel
theorem dX6_likes_16 : decode cX6_likes 16 = .ok (.iload 4, 2) := by decide +kernel
theorem dX6_likes_18 : decode cX6_likes 18 = .ok (.iconst 1, 1) := by decide +kernel
theorem dX6_likes_19 : decode cX6_likes 19 = .ok (.if_icmp .ne 25, 3) := by decide +kernel
theorem dX6_likes_22 : decode cX6_likes 22 = .ok (.iload 5, 2) := by decide +kernel
theorem dX6_likes_24 : decode cX6_likes 24 = .ok (.ifCond .lt 12, 3) := by decide +kernel
theorem dX6_likes_27 : decode cX6_likes 27 = .ok (.iload 5, 2) := by decide +kernel
theorem dX6_likes_29 : decode cX6_likes 29 = .ok (.iload 6, 2) := by decide +kernel
theorem dX6_likes_31 : decode cX6_likes 31 = .ok (.iadd, 1) := by decide +kernel
theorem dX6_likes_32 : decode cX6_likes 32 = .ok (.iconst 4, 1) := by decide +kernel
theorem dX6_likes_33 : decode cX6_likes 33 = .ok (.if_icmp .lt 7, 3) := by decide +kernel
theorem dX6_likes_36 : decode cX6_likes 36 = .ok (.iconst 1, 1) := by decide +kernel
theorem dX6_likes_37 : decode cX6_likes 37 = .ok (.goto 106, 3) := by decide +kernel
theorem dX6_likes_40 : decode cX6_likes 40 = .ok (.iconst 0, 1) := by decide +kernel
theorem dX6_likes_41 : decode cX6_likes 41 = .ok (.goto 102, 3) := by decide +kernel
theorem dX6_likes_44 : decode cX6_likes 44 = .ok (.iload 4, 2) := by decide +kernel
theorem dX6_likes_46 : decode cX6_likes 46 = .ok (.iconst 2, 1) := by decide +kernel
theorem dX6_likes_47 : decode cX6_likes 47 = .ok (.if_icmp .ne 21, 3) := by decide +kernel
theorem dX6_likes_50 : decode cX6_likes 50 = .ok (.iload 7, 2) := by decide +kernel
theorem dX6_likes_52 : decode cX6_likes 52 = .ok (.ifCond .gt 8, 3) := by decide +kernel
theorem dX6_likes_55 : decode cX6_likes 55 = .ok (.iload 8, 2) := by decide +kernel
theorem dX6_likes_57 : decode cX6_likes 57 = .ok (.ifCond .eq 7, 3) := by decide +kernel
theorem dX6_likes_60 : decode cX6_likes 60 = .ok (.iconst 1, 1) := by decide +kernel
theorem dX6_likes_61 : decode cX6_likes 61 = .ok (.goto 82, 3) := by decide +kernel
theorem dX6_likes_64 : decode cX6_likes 64 = .ok (.iconst 0, 1) := by decide +kernel
theorem dX6_likes_65 : decode cX6_likes 65 = .ok (.goto 78, 3) := by decide +kernel
theorem dX6_likes_68 : decode cX6_likes 68 = .ok (.iload 4, 2) := by decide +kernel
theorem dX6_likes_70 : decode cX6_likes 70 = .ok (.iconst 3, 1) := by decide +kernel
theorem dX6_likes_71 : decode cX6_likes 71 = .ok (.if_icmp .ne 28, 3) := by decide +kernel
theorem dX6_likes_74 : decode cX6_likes 74 = .ok (.iload 8, 2) := by decide +kernel
theorem dX6_likes_76 : decode cX6_likes 76 = .ok (.ifCond .eq 19, 3) := by decide +kernel
theorem dX6_likes_79 : decode cX6_likes 79 = .ok (.aload_n 0, 1) := by decide +kernel
theorem dX6_likes_80 : decode cX6_likes 80 = .ok (.getfield 22, 3) := by decide +kernel
theorem dX6_likes_83 : decode cX6_likes 83 = .ok (.iload_n 1, 1) := by decide +kernel
theorem dX6_likes_84 : decode cX6_likes 84 = .ok (.bipush 9, 2) := by decide +kernel
theorem dX6_likes_86 : decode cX6_likes 86 = .ok (.iadd, 1) := by decide +kernel
theorem dX6_likes_87 : decode cX6_likes 87 = .ok (.iaload, 1) := by decide +kernel
theorem dX6_likes_88 : decode cX6_likes 88 = .ok (.ifCond .ne 7, 3) := by decide +kernel
theorem dX6_likes_91 : decode cX6_likes 91 = .ok (.iconst 1, 1) := by decide +kernel
theorem dX6_likes_92 : decode cX6_likes 92 = .ok (.goto 51, 3) := by decide +kernel
theorem dX6_likes_95 : decode cX6_likes 95 = .ok (.iconst 0, 1) := by decide +kernel
theorem dX6_likes_96 : decode cX6_likes 96 = .ok (.goto 47, 3) := by decide +kernel
theorem dX6_likes_99 : decode cX6_likes 99 = .ok (.iload 4, 2) := by decide +kernel
theorem dX6_likes_101 : decode cX6_likes 101 = .ok (.iconst 4, 1) := by decide +kernel
theorem dX6_likes_102 : decode cX6_likes 102 = .ok (.if_icmp .ne 39, 3) := by decide +kernel
theorem dX6_likes_105 : decode cX6_likes 105 = .ok (.aload_n 0, 1) := by decide +kernel
theorem dX6_likes_106 : decode cX6_likes 106 = .ok (.getfield 22, 3) := by decide +kernel
theorem dX6_likes_109 : decode cX6_likes 109 = .ok (.iload_n 1, 1) := by decide +kernel
theorem dX6_likes_110 : decode cX6_likes 110 = .ok (.bipush 46, 2) := by decide +kernel
theorem dX6_likes_112 : decode cX6_likes 112 = .ok (.iadd, 1) := by decide +kernel
theorem dX6_likes_113 : decode cX6_likes 113 = .ok (.bipush 6, 2) := by decide +kernel
theorem dX6_likes_115 : decode cX6_likes 115 = .ok (.iload_n 2, 1) := by decide +kernel
theorem dX6_likes_116 : decode cX6_likes 116 = .ok (.imul, 1) := by decide +kernel
theorem dX6_likes_117 : decode cX6_likes 117 = .ok (.iadd, 1) := by decide +kernel
theorem dX6_likes_118 : decode cX6_likes 118 = .ok (.iload_n 3, 1) := by decide +kernel
theorem dX6_likes_119 : decode cX6_likes 119 = .ok (.iadd, 1) := by decide +kernel
theorem dX6_likes_120 : decode cX6_likes 120 = .ok (.iaload, 1) := by decide +kernel
theorem dX6_likes_121 : decode cX6_likes 121 = .ok (.ifCond .ne 16, 3) := by decide +kernel
theorem dX6_likes_124 : decode cX6_likes 124 = .ok (.iload 5, 2) := by decide +kernel
theorem dX6_likes_126 : decode cX6_likes 126 = .ok (.iload 6, 2) := by decide +kernel
theorem dX6_likes_128 : decode cX6_likes 128 = .ok (.iadd, 1) := by decide +kernel
theorem dX6_likes_129 : decode cX6_likes 129 = .ok (.iconst 1, 1) := by decide +kernel
theorem dX6_likes_130 : decode cX6_likes 130 = .ok (.if_icmp .lt 7, 3) := by decide +kernel
theorem dX6_likes_133 : decode cX6_likes 133 = .ok (.iconst 1, 1) := by decide +kernel
theorem dX6_likes_134 : decode cX6_likes 134 = .ok (.goto 9, 3) := by decide +kernel
theorem dX6_likes_137 : decode cX6_likes 137 = .ok (.iconst 0, 1) := by decide +kernel
theorem dX6_likes_138 : decode cX6_likes 138 = .ok (.goto 5, 3) := by decide +kernel
theorem dX6_likes_141 : decode cX6_likes 141 = .ok (.iload 8, 2) := by decide +kernel
theorem dX6_likes_143 : decode cX6_likes 143 = .ok (.ireturn, 1) := by decide +kernel
theorem dX6_comes_0 : decode cX6_comes 0 = .ok (.iload_n 2, 1) := by decide +kernel
theorem dX6_comes_1 : decode cX6_comes 1 = .ok (.iload_n 3, 1) := by decide +kernel
theorem dX6_comes_2 : decode cX6_comes 2 = .ok (.if_icmp .eq 52, 3) := by decide +kernel
theorem dX6_comes_5 : decode cX6_comes 5 = .ok (.aload_n 0, 1) := by decide +kernel
theorem dX6_comes_6 : decode cX6_comes 6 = .ok (.iload_n 1, 1) := by decide +kernel
theorem dX6_comes_7 : decode cX6_comes 7 = .ok (.iload_n 2, 1) := by decide +kernel
theorem dX6_comes_8 : decode cX6_comes 8 = .ok (.invokevirtual 136, 3) := by decide +kernel
theorem dX6_comes_11 : decode cX6_comes 11 = .ok (.ifCond .eq 43, 3) := by decide +kernel
theorem dX6_comes_14 : decode cX6_comes 14 = .ok (.aload_n 0, 1) := by decide +kernel
theorem dX6_comes_15 : decode cX6_comes 15 = .ok (.iload_n 1, 1) := by decide +kernel
theorem dX6_comes_16 : decode cX6_comes 16 = .ok (.iload_n 2, 1) := by decide +kernel
theorem dX6_comes_17 : decode cX6_comes 17 = .ok (.iload_n 3, 1) := by decide +kernel
theorem dX6_comes_18 : decode cX6_comes 18 = .ok (.aload_n 0, 1) := by decide +kernel
theorem dX6_comes_19 : decode cX6_comes 19 = .ok (.getfield 7, 3) := by decide +kernel
theorem dX6_comes_22 : decode cX6_comes 22 = .ok (.iload_n 2, 1) := by decide +kernel
theorem dX6_comes_23 : decode cX6_comes 23 = .ok (.iaload, 1) := by decide +kernel
theorem dX6_comes_24 : decode cX6_comes 24 = .ok (.aload_n 0, 1) := by decide +kernel
theorem dX6_comes_25 : decode cX6_comes 25 = .ok (.getfield 22, 3) := by decide +kernel
theorem dX6_comes_28 : decode cX6_comes 28 = .ok (.iload_n 1, 1) := by decide +kernel
theorem dX6_comes_29 : decode cX6_comes 29 = .ok (.bipush 10, 2) := by decide +kernel
theorem dX6_comes_31 : decode cX6_comes 31 = .ok (.iadd, 1) := by decide +kernel
theorem dX6_comes_32 : decode cX6_comes 32 = .ok (.bipush 6, 2) := by decide +kernel
theorem dX6_comes_34 : decode cX6_comes 34 = .ok (.iload_n 2, 1) := by decide +kernel
theorem dX6_comes_35 : decode cX6_comes 35 = .ok (.imul, 1) := by decide +kernel
theorem dX6_comes_36 : decode cX6_comes 36 = .ok (.iadd, 1) := by decide +kernel
theorem dX6_comes_37 : decode cX6_comes 37 = .ok (.iload_n 3, 1) := by decide +kernel
theorem dX6_comes_38 : decode cX6_comes 38 = .ok (.iadd, 1) := by decide +kernel
theorem dX6_comes_39 : decode cX6_comes 39 = .ok (.iaload, 1) := by decide +kernel
theorem dX6_comes_40 : decode cX6_comes 40 = .ok (.iload 4, 2) := by decide +kernel
theorem dX6_comes_42 : decode cX6_comes 42 = .ok (.iload 5, 2) := by decide +kernel
theorem dX6_comes_44 : decode cX6_comes 44 = .ok (.invokevirtual 150, 3) := by decide +kernel
theorem dX6_comes_47 : decode cX6_comes 47 = .ok (.ifCond .eq 7, 3) := by decide +kernel
theorem dX6_comes_50 : decode cX6_comes 50 = .ok (.iconst 1, 1) := by decide +kernel
theorem dX6_comes_51 : decode cX6_comes 51 = .ok (.goto 4, 3) := by decide +kernel
theorem dX6_comes_54 : decode cX6_comes 54 = .ok (.iconst 0, 1) := by decide +kernel
theorem dX6_comes_55 : decode cX6_comes 55 = .ok (.ireturn, 1) := by decide +kernel
theorem dX6_comers_0 : decode cX6_comers 0 = .ok (.iconst 0, 1) := by decide +kernel
theorem dX6_comers_1 : decode cX6_comers 1 = .ok (.istore 5, 2) := by decide +kernel
theorem dX6_comers_3 : decode cX6_comers 3 = .ok (.iconst 0, 1) := by decide +kernel
theorem dX6_comers_4 : decode cX6_comers 4 = .ok (.istore 6, 2) := by decide +kernel
theorem dX6_comers_6 : decode cX6_comers 6 = .ok (.iload 6, 2) := by decide +kernel
theorem dX6_comers_8 : decode cX6_comers 8 = .ok (.aload_n 0, 1) := by decide +kernel
theorem dX6_comers_9 : decode cX6_comers 9 = .ok (.getfield 65, 3) := by decide +kernel
theorem dX6_comers_12 : decode cX6_comers 12 = .ok (.if_icmp .ge 36, 3) := by decide +kernel
theorem dX6_comers_15 : decode cX6_comers 15 = .ok (.iload 5, 2) := by decide +kernel
theorem dX6_comers_17 : decode cX6_comers 17 = .ok (.aload_n 0, 1) := by decide +kernel
theorem dX6_comers_18 : decode cX6_comers 18 = .ok (.iload_n 1, 1) := by decide +kernel
theorem dX6_comers_19 : decode cX6_comers 19 = .ok (.iload 6, 2) := by decide +kernel
theorem dX6_comers_21 : decode cX6_comers 21 = .ok (.iload_n 2, 1) := by decide +kernel
theorem dX6_comers_22 : decode cX6_comers 22 = .ok (.iload_n 3, 1) := by decide +kernel
theorem dX6_comers_23 : decode cX6_comers 23 = .ok (.iload 4, 2) := by decide +kernel
theorem dX6_comers_25 : decode cX6_comers 25 = .ok (.invokevirtual 154, 3) := by decide +kernel
theorem dX6_comers_28 : decode cX6_comers 28 = .ok (.ifCond .eq 10, 3) := by decide +kernel
theorem dX6_comers_31 : decode cX6_comers 31 = .ok (.iconst 1, 1) := by decide +kernel
theorem dX6_comers_32 : decode cX6_comers 32 = .ok (.iload 6, 2) := by decide +kernel
theorem dX6_comers_34 : decode cX6_comers 34 = .ok (.ishl, 1) := by decide +kernel
theorem dX6_comers_35 : decode cX6_comers 35 = .ok (.goto 4, 3) := by decide +kernel
theorem dX6_comers_38 : decode cX6_comers 38 = .ok (.iconst 0, 1) := by decide +kernel
theorem dX6_comers_39 : decode cX6_comers 39 = .ok (.ior, 1) := by decide +kernel
theorem dX6_comers_40 : decode cX6_comers 40 = .ok (.istore 5, 2) := by decide +kernel
theorem dX6_comers_42 : decode cX6_comers 42 = .ok (.iinc 6 1, 3) := by decide +kernel
theorem dX6_comers_45 : decode cX6_comers 45 = .ok (.goto (-39), 3) := by decide +kernel
theorem dX6_comers_48 : decode cX6_comers 48 = .ok (.iload 5, 2) := by decide +kernel
theorem dX6_comers_50 : decode cX6_comers 50 = .ok (.ireturn, 1) := by decide +kernel
theorem dX6_bits_0 : decode cX6_bits 0 = .ok (.iconst 0, 1) := by decide +kernel
theorem dX6_bits_1 : decode cX6_bits 1 = .ok (.istore_n 1, 1) := by decide +kernel
theorem dX6_bits_2 : decode cX6_bits 2 = .ok (.iconst 0, 1) := by decide +kernel
theorem dX6_bits_3 : decode cX6_bits 3 = .ok (.istore_n 2, 1) := by decide +kernel
theorem dX6_bits_4 : decode cX6_bits 4 = .ok (.iload_n 2, 1) := by decide +kernel
theorem dX6_bits_5 : decode cX6_bits 5 = .ok (.bipush 6, 2) := by decide +kernel
theorem dX6_bits_7 : decode cX6_bits 7 = .ok (.if_icmp .ge 17, 3) := by decide +kernel
theorem dX6_bits_10 : decode cX6_bits 10 = .ok (.iload_n 1, 1) := by decide +kernel
theorem dX6_bits_11 : decode cX6_bits 11 = .ok (.iload_n 0, 1) := by decide +kernel
theorem dX6_bits_12 : decode cX6_bits 12 = .ok (.iload_n 2, 1) := by decide +kernel
theorem dX6_bits_13 : decode cX6_bits 13 = .ok (.ishr, 1) := by decide +kernel
theorem dX6_bits_14 : decode cX6_bits 14 = .ok (.iconst 1, 1) := by decide +kernel
theorem dX6_bits_15 : decode cX6_bits 15 = .ok (.iand, 1) := by decide +kernel
theorem dX6_bits_16 : decode cX6_bits 16 = .ok (.iadd, 1) := by decide +kernel
theorem dX6_bits_17 : decode cX6_bits 17 = .ok (.istore_n 1, 1) := by decide +kernel
theorem dX6_bits_18 : decode cX6_bits 18 = .ok (.iinc 2 1, 3) := by decide +kernel
theorem dX6_bits_21 : decode cX6_bits 21 = .ok (.goto (-17), 3) := by decide +kernel
theorem dX6_bits_24 : decode cX6_bits 24 = .ok (.iload_n 1, 1) := by decide +kernel
theorem dX6_bits_25 : decode cX6_bits 25 = .ok (.ireturn, 1) := by decide +kernel
theorem dX6_known_0 : decode cX6_known 0 = .ok (.aload_n 0, 1) := by decide +kernel
theorem dX6_known_1 : decode cX6_known 1 = .ok (.getfield 123, 3) := by decide +kernel
theorem dX6_known_4 : decode cX6_known 4 = .ok (.bipush 8, 2) := by decide +kernel
theorem dX6_known_6 : decode cX6_known 6 = .ok (.if_icmp .ne 40, 3) := by decide +kernel
theorem dX6_known_9 : decode cX6_known 9 = .ok (.bipush 82, 2) := by decide +kernel
theorem dX6_known_11 : decode cX6_known 11 = .ok (.istore_n 1, 1) := by decide +kernel
theorem dX6_known_12 : decode cX6_known 12 = .ok (.iload_n 1, 1) := by decide +kernel
theorem dX6_known_13 : decode cX6_known 13 = .ok (.sipush 656, 3) := by decide +kernel
theorem dX6_known_16 : decode cX6_known 16 = .ok (.if_icmp .ge 24, 3) := by decide +kernel
theorem dX6_known_19 : decode cX6_known 19 = .ok (.aload_n 0, 1) := by decide +kernel
theorem dX6_known_20 : decode cX6_known 20 = .ok (.getfield 22, 3) := by decide +kernel
theorem dX6_known_23 : decode cX6_known 23 = .ok (.iload_n 1, 1) := by decide +kernel
theorem dX6_known_24 : decode cX6_known 24 = .ok (.aload_n 0, 1) := by decide +kernel
theorem dX6_known_25 : decode cX6_known 25 = .ok (.getfield 22, 3) := by decide +kernel
theorem dX6_known_28 : decode cX6_known 28 = .ok (.iload_n 1, 1) := by decide +kernel
theorem dX6_known_29 : decode cX6_known 29 = .ok (.bipush 82, 2) := by decide +kernel
theorem dX6_known_31 : decode cX6_known 31 = .ok (.iadd, 1) := by decide +kernel
theorem dX6_known_32 : decode cX6_known 32 = .ok (.iaload, 1) := by decide +kernel
theorem dX6_known_33 : decode cX6_known 33 = .ok (.iastore, 1) := by decide +kernel
theorem dX6_known_34 : decode cX6_known 34 = .ok (.iinc 1 1, 3) := by decide +kernel
theorem dX6_known_37 : decode cX6_known 37 = .ok (.goto (-25), 3) := by decide +kernel
theorem dX6_known_40 : decode cX6_known 40 = .ok (.aload_n 0, 1) := by decide +kernel
theorem dX6_known_41 : decode cX6_known 41 = .ok (.bipush 7, 2) := by decide +kernel
theorem dX6_known_43 : decode cX6_known 43 = .ok (.putfield 123, 3) := by decide +kernel
theorem dX6_known_46 : decode cX6_known 46 = .ok (.aload_n 0, 1) := by decide +kernel
theorem dX6_known_47 : decode cX6_known 47 = .ok (.dup, 1) := by decide +kernel
theorem dX6_known_48 : decode cX6_known 48 = .ok (.getfield 123, 3) := by decide +kernel
theorem dX6_known_51 : decode cX6_known 51 = .ok (.iconst 1, 1) := by decide +kernel
theorem dX6_known_52 : decode cX6_known 52 = .ok (.iadd, 1) := by decide +kernel
theorem dX6_known_53 : decode cX6_known 53 = .ok (.putfield 123, 3) := by decide +kernel
theorem dX6_known_56 : decode cX6_known 56 = .ok (.aload_n 0, 1) := by decide +kernel
theorem dX6_known_57 : decode cX6_known 57 = .ok (.iconst 0, 1) := by decide +kernel
theorem dX6_known_58 : decode cX6_known 58 = .ok (.aload_n 0, 1) := by decide +kernel
theorem dX6_known_59 : decode cX6_known 59 = .ok (.getfield 123, 3) := by decide +kernel
theorem dX6_known_62 : decode cX6_known 62 = .ok (.bipush 82, 2) := by decide +kernel
theorem dX6_known_64 : decode cX6_known 64 = .ok (.imul, 1) := by decide +kernel
theorem dX6_known_65 : decode cX6_known 65 = .ok (.invokevirtual 119, 3) := by decide +kernel
theorem dX6_known_68 : decode cX6_known 68 = .ok (.return_, 1) := by decide +kernel
theorem dX6_gets_0 : decode cX6_gets 0 = .ok (.aload_n 0, 1) := by decide +kernel
theorem dX6_gets_1 : decode cX6_gets 1 = .ok (.getfield 22, 3) := by decide +kernel
theorem dX6_gets_4 : decode cX6_gets 4 = .ok (.iload_n 1, 1) := by decide +kernel
theorem dX6_gets_5 : decode cX6_gets 5 = .ok (.iload_n 2, 1) := by decide +kernel
theorem dX6_gets_6 : decode cX6_gets 6 = .ok (.iadd, 1) := by decide +kernel
theorem dX6_gets_7 : decode cX6_gets 7 = .ok (.sipush 999, 3) := by decide +kernel
theorem dX6_gets_10 : decode cX6_gets 10 = .ok (.aload_n 0, 1) := by decide +kernel
theorem dX6_gets_11 : decode cX6_gets 11 = .ok (.getfield 22, 3) := by decide +kernel
theorem dX6_gets_14 : decode cX6_gets 14 = .ok (.iload_n 1, 1) := by decide +kernel
theorem dX6_gets_15 : decode cX6_gets 15 = .ok (.iload_n 2, 1) := by decide +kernel
theorem dX6_gets_16 : decode cX6_gets 16 = .ok (.iadd, 1) := by decide +kernel
theorem dX6_gets_17 : decode cX6_gets 17 = .ok (.iaload, 1) := by decide +kernel
theorem dX6_gets_18 : decode cX6_gets 18 = .ok (.iload_n 3, 1) := by decide +kernel
theorem dX6_gets_19 : decode cX6_gets 19 = .ok (.iadd, 1) := by decide +kernel
theorem dX6_gets_20 : decode cX6_gets 20 = .ok (.invokestatic 158, 3) := by decide +kernel
theorem dX6_gets_23 : decode cX6_gets 23 = .ok (.iastore, 1) := by decide +kernel
theorem dX6_gets_24 : decode cX6_gets 24 = .ok (.return_, 1) := by decide +kernel
theorem dX6_ties_0 : decode cX6_ties 0 = .ok (.aload_n 0, 1) := by decide +kernel
theorem dX6_ties_1 : decode cX6_ties 1 = .ok (.getfield 22, 3) := by decide +kernel
theorem dX6_ties_4 : decode cX6_ties 4 = .ok (.iload_n 1, 1) := by decide +kernel
theorem dX6_ties_5 : decode cX6_ties 5 = .ok (.bipush 10, 2) := by decide +kernel
theorem dX6_ties_7 : decode cX6_ties 7 = .ok (.iadd, 1) := by decide +kernel
theorem dX6_ties_8 : decode cX6_ties 8 = .ok (.bipush 6, 2) := by decide +kernel
theorem dX6_ties_10 : decode cX6_ties 10 = .ok (.iload_n 2, 1) := by decide +kernel
theorem dX6_ties_11 : decode cX6_ties 11 = .ok (.imul, 1) := by decide +kernel
theorem dX6_ties_12 : decode cX6_ties 12 = .ok (.iadd, 1) := by decide +kernel
theorem dX6_ties_13 : decode cX6_ties 13 = .ok (.iload_n 3, 1) := by decide +kernel
theorem dX6_ties_14 : decode cX6_ties 14 = .ok (.iadd, 1) := by decide +kernel
theorem dX6_ties_15 : decode cX6_ties 15 = .ok (.iconst 5, 1) := by decide +kernel
theorem dX6_ties_16 : decode cX6_ties 16 = .ok (.bipush (-4), 2) := by decide +kernel
theorem dX6_ties_18 : decode cX6_ties 18 = .ok (.aload_n 0, 1) := by decide +kernel
theorem dX6_ties_19 : decode cX6_ties 19 = .ok (.getfield 22, 3) := by decide +kernel
theorem dX6_ties_22 : decode cX6_ties 22 = .ok (.iload_n 1, 1) := by decide +kernel
theorem dX6_ties_23 : decode cX6_ties 23 = .ok (.bipush 10, 2) := by decide +kernel
theorem dX6_ties_25 : decode cX6_ties 25 = .ok (.iadd, 1) := by decide +kernel
theorem dX6_ties_26 : decode cX6_ties 26 = .ok (.bipush 6, 2) := by decide +kernel
theorem dX6_ties_28 : decode cX6_ties 28 = .ok (.iload_n 2, 1) := by decide +kernel
theorem dX6_ties_29 : decode cX6_ties 29 = .ok (.imul, 1) := by decide +kernel
theorem dX6_ties_30 : decode cX6_ties 30 = .ok (.iadd, 1) := by decide +kernel
theorem dX6_ties_31 : decode cX6_ties 31 = .ok (.iload_n 3, 1) := by decide +kernel
theorem dX6_ties_32 : decode cX6_ties 32 = .ok (.iadd, 1) := by decide +kernel
theorem dX6_ties_33 : decode cX6_ties 33 = .ok (.iaload, 1) := by decide +kernel
theorem dX6_ties_34 : decode cX6_ties 34 = .ok (.iload 4, 2) := by decide +kernel
theorem dX6_ties_36 : decode cX6_ties 36 = .ok (.iadd, 1) := by decide +kernel
theorem dX6_ties_37 : decode cX6_ties 37 = .ok (.invokestatic 161, 3) := by decide +kernel
theorem dX6_ties_40 : decode cX6_ties 40 = .ok (.invokestatic 158, 3) := by decide +kernel
theorem dX6_ties_43 : decode cX6_ties 43 = .ok (.iastore, 1) := by decide +kernel
theorem dX6_ties_44 : decode cX6_ties 44 = .ok (.return_, 1) := by decide +kernel
theorem dX6_pays_0 : decode cX6_pays 0 = .ok (.iload 4, 2) := by decide +kernel
theorem dX6_pays_2 : decode cX6_pays 2 = .ok (.aload_n 0, 1) := by decide +kernel
theorem dX6_pays_3 : decode cX6_pays 3 = .ok (.getfield 22, 3) := by decide +kernel
theorem dX6_pays_6 : decode cX6_pays 6 = .ok (.iload_n 1, 1) := by decide +kernel
theorem dX6_pays_7 : decode cX6_pays 7 = .ok (.iload_n 2, 1) := by decide +kernel
theorem dX6_pays_8 : decode cX6_pays 8 = .ok (.iadd, 1) := by decide +kernel
theorem dX6_pays_9 : decode cX6_pays 9 = .ok (.iaload, 1) := by decide +kernel
theorem dX6_pays_10 : decode cX6_pays 10 = .ok (.invokestatic 158, 3) := by decide +kernel
theorem dX6_pays_13 : decode cX6_pays 13 = .ok (.istore 5, 2) := by decide +kernel
theorem dX6_pays_15 : decode cX6_pays 15 = .ok (.aload_n 0, 1) := by decide +kernel
theorem dX6_pays_16 : decode cX6_pays 16 = .ok (.getfield 22, 3) := by decide +kernel
theorem dX6_pays_19 : decode cX6_pays 19 = .ok (.iload_n 1, 1) := by decide +kernel
theorem dX6_pays_20 : decode cX6_pays 20 = .ok (.iload_n 2, 1) := by decide +kernel
theorem dX6_pays_21 : decode cX6_pays 21 = .ok (.iadd, 1) := by decide +kernel
theorem dX6_pays_22 : decode cX6_pays 22 = .ok (.dup2, 1) := by decide +kernel
theorem dX6_pays_23 : decode cX6_pays 23 = .ok (.iaload, 1) := by decide +kernel
theorem dX6_pays_24 : decode cX6_pays 24 = .ok (.iload 5, 2) := by decide +kernel
theorem dX6_pays_26 : decode cX6_pays 26 = .ok (.isub, 1) := by decide +kernel
theorem dX6_pays_27 : decode cX6_pays 27 = .ok (.iastore, 1) := by decide +kernel
theorem dX6_pays_28 : decode cX6_pays 28 = .ok (.aload_n 0, 1) := by decide +kernel
theorem dX6_pays_29 : decode cX6_pays 29 = .ok (.getfield 22, 3) := by decide +kernel
theorem dX6_pays_32 : decode cX6_pays 32 = .ok (.iload_n 1, 1) := by decide +kernel
theorem dX6_pays_33 : decode cX6_pays 33 = .ok (.bipush 46, 2) := by decide +kernel
theorem dX6_pays_35 : decode cX6_pays 35 = .ok (.iadd, 1) := by decide +kernel
theorem dX6_pays_36 : decode cX6_pays 36 = .ok (.bipush 6, 2) := by decide +kernel
theorem dX6_pays_38 : decode cX6_pays 38 = .ok (.iload_n 2, 1) := by decide +kernel
theorem dX6_pays_39 : decode cX6_pays 39 = .ok (.imul, 1) := by decide +kernel
theorem dX6_pays_40 : decode cX6_pays 40 = .ok (.iadd, 1) := by decide +kernel
theorem dX6_pays_41 : decode cX6_pays 41 = .ok (.iload_n 3, 1) := by decide +kernel
theorem dX6_pays_42 : decode cX6_pays 42 = .ok (.iadd, 1) := by decide +kernel
theorem dX6_pays_43 : decode cX6_pays 43 = .ok (.dup2, 1) := by decide +kernel
theorem dX6_pays_44 : decode cX6_pays 44 = .ok (.iaload, 1) := by decide +kernel
theorem dX6_pays_45 : decode cX6_pays 45 = .ok (.iload 5, 2) := by decide +kernel
theorem dX6_pays_47 : decode cX6_pays 47 = .ok (.isub, 1) := by decide +kernel
theorem dX6_pays_48 : decode cX6_pays 48 = .ok (.iastore, 1) := by decide +kernel
theorem dX6_pays_49 : decode cX6_pays 49 = .ok (.aload_n 0, 1) := by decide +kernel
theorem dX6_pays_50 : decode cX6_pays 50 = .ok (.iload_n 1, 1) := by decide +kernel
theorem dX6_pays_51 : decode cX6_pays 51 = .ok (.iload_n 3, 1) := by decide +kernel
theorem dX6_pays_52 : decode cX6_pays 52 = .ok (.iload 5, 2) := by decide +kernel
theorem dX6_pays_54 : decode cX6_pays 54 = .ok (.invokevirtual 164, 3) := by decide +kernel
theorem dX6_pays_57 : decode cX6_pays 57 = .ok (.iload 5, 2) := by decide +kernel
theorem dX6_pays_59 : decode cX6_pays 59 = .ok (.ireturn, 1) := by decide +kernel
theorem dX6_changes_0 : decode cX6_changes 0 = .ok (.aload_n 0, 1) := by decide +kernel
theorem dX6_changes_1 : decode cX6_changes 1 = .ok (.iload_n 1, 1) := by decide +kernel
theorem dX6_changes_2 : decode cX6_changes 2 = .ok (.iload_n 2, 1) := by decide +kernel
theorem dX6_changes_3 : decode cX6_changes 3 = .ok (.iload_n 3, 1) := by decide +kernel
theorem dX6_changes_4 : decode cX6_changes 4 = .ok (.iload 4, 2) := by decide +kernel
theorem dX6_changes_6 : decode cX6_changes 6 = .ok (.ifCond .eq 17, 3) := by decide +kernel
theorem dX6_changes_9 : decode cX6_changes 9 = .ok (.aload_n 0, 1) := by decide +kernel
theorem dX6_changes_10 : decode cX6_changes 10 = .ok (.getfield 7, 3) := by decide +kernel
theorem dX6_changes_13 : decode cX6_changes 13 = .ok (.iload_n 3, 1) := by decide +kernel
theorem dX6_changes_14 : decode cX6_changes 14 = .ok (.iaload, 1) := by decide +kernel
theorem dX6_changes_15 : decode cX6_changes 15 = .ok (.iconst 1, 1) := by decide +kernel
theorem dX6_changes_16 : decode cX6_changes 16 = .ok (.if_icmp .eq 7, 3) := by decide +kernel
theorem dX6_changes_19 : decode cX6_changes 19 = .ok (.iconst 1, 1) := by decide +kernel
theorem dX6_changes_20 : decode cX6_changes 20 = .ok (.goto 4, 3) := by decide +kernel
theorem dX6_changes_23 : decode cX6_changes 23 = .ok (.iconst (-1), 1) := by decide +kernel
theorem dX6_changes_24 : decode cX6_changes 24 = .ok (.invokevirtual 168, 3) := by decide +kernel
theorem dX6_changes_27 : decode cX6_changes 27 = .ok (.iload 4, 2) := by decide +kernel
theorem dX6_changes_29 : decode cX6_changes 29 = .ok (.ifCond .eq 29, 3) := by decide +kernel
theorem dX6_changes_32 : decode cX6_changes 32 = .ok (.aload_n 0, 1) := by decide +kernel
theorem dX6_changes_33 : decode cX6_changes 33 = .ok (.iload_n 1, 1) := by decide +kernel
theorem dX6_changes_34 : decode cX6_changes 34 = .ok (.iload_n 3, 1) := by decide +kernel
theorem dX6_changes_35 : decode cX6_changes 35 = .ok (.iload_n 2, 1) := by decide +kernel
theorem dX6_changes_36 : decode cX6_changes 36 = .ok (.aload_n 0, 1) := by decide +kernel
theorem dX6_changes_37 : decode cX6_changes 37 = .ok (.getfield 22, 3) := by decide +kernel
theorem dX6_changes_40 : decode cX6_changes 40 = .ok (.iload_n 1, 1) := by decide +kernel
theorem dX6_changes_41 : decode cX6_changes 41 = .ok (.bipush 46, 2) := by decide +kernel
theorem dX6_changes_43 : decode cX6_changes 43 = .ok (.iadd, 1) := by decide +kernel
theorem dX6_changes_44 : decode cX6_changes 44 = .ok (.bipush 6, 2) := by decide +kernel
theorem dX6_changes_46 : decode cX6_changes 46 = .ok (.iload_n 3, 1) := by decide +kernel
theorem dX6_changes_47 : decode cX6_changes 47 = .ok (.imul, 1) := by decide +kernel
theorem dX6_changes_48 : decode cX6_changes 48 = .ok (.iadd, 1) := by decide +kernel
theorem dX6_changes_49 : decode cX6_changes 49 = .ok (.iload_n 2, 1) := by decide +kernel
theorem dX6_changes_50 : decode cX6_changes 50 = .ok (.iadd, 1) := by decide +kernel
theorem dX6_changes_51 : decode cX6_changes 51 = .ok (.iaload, 1) := by decide +kernel
theorem dX6_changes_52 : decode cX6_changes 52 = .ok (.iconst 2, 1) := by decide +kernel
theorem dX6_changes_53 : decode cX6_changes 53 = .ok (.idiv, 1) := by decide +kernel
theorem dX6_changes_54 : decode cX6_changes 54 = .ok (.invokevirtual 171, 3) := by decide +kernel
theorem dX6_changes_57 : decode cX6_changes 57 = .ok (.pop, 1) := by decide +kernel
theorem dX6_changes_58 : decode cX6_changes 58 = .ok (.return_, 1) := by decide +kernel
theorem dX6_couldHave_0 : decode cX6_couldHave 0 = .ok (.aload_n 0, 1) := by decide +kernel
theorem dX6_couldHave_1 : decode cX6_couldHave 1 = .ok (.iload_n 1, 1) := by decide +kernel
theorem dX6_couldHave_2 : decode cX6_couldHave 2 = .ok (.iload_n 2, 1) := by decide +kernel
theorem dX6_couldHave_3 : decode cX6_couldHave 3 = .ok (.invokevirtual 136, 3) := by decide +kernel
theorem dX6_couldHave_6 : decode cX6_couldHave 6 = .ok (.ifCond .eq 36, 3) := by decide +kernel
theorem dX6_couldHave_9 : decode cX6_couldHave 9 = .ok (.aload_n 0, 1) := by decide +kernel
theorem dX6_couldHave_10 : decode cX6_couldHave 10 = .ok (.iload_n 1, 1) := by decide +kernel
theorem dX6_couldHave_11 : decode cX6_couldHave 11 = .ok (.iload_n 2, 1) := by decide +kernel
theorem dX6_couldHave_12 : decode cX6_couldHave 12 = .ok (.invokevirtual 141, 3) := by decide +kernel
theorem dX6_couldHave_15 : decode cX6_couldHave 15 = .ok (.aload_n 0, 1) := by decide +kernel
theorem dX6_couldHave_16 : decode cX6_couldHave 16 = .ok (.getfield 68, 3) := by decide +kernel
theorem dX6_couldHave_19 : decode cX6_couldHave 19 = .ok (.if_icmp .lt 23, 3) := by decide +kernel
theorem dX6_couldHave_22 : decode cX6_couldHave 22 = .ok (.aload_n 0, 1) := by decide +kernel
theorem dX6_couldHave_23 : decode cX6_couldHave 23 = .ok (.getfield 22, 3) := by decide +kernel
theorem dX6_couldHave_26 : decode cX6_couldHave 26 = .ok (.iload_n 1, 1) := by decide +kernel
theorem dX6_couldHave_27 : decode cX6_couldHave 27 = .ok (.bipush 7, 2) := by decide +kernel
theorem dX6_couldHave_29 : decode cX6_couldHave 29 = .ok (.iadd, 1) := by decide +kernel
theorem dX6_couldHave_30 : decode cX6_couldHave 30 = .ok (.iaload, 1) := by decide +kernel
theorem dX6_couldHave_31 : decode cX6_couldHave 31 = .ok (.iload_n 2, 1) := by decide +kernel
theorem dX6_couldHave_32 : decode cX6_couldHave 32 = .ok (.invokestatic 132, 3) := by decide +kernel
theorem dX6_couldHave_35 : decode cX6_couldHave 35 = .ok (.ifCond .ne 7, 3) := by decide +kernel
theorem dX6_couldHave_38 : decode cX6_couldHave 38 = .ok (.iconst 1, 1) := by decide +kernel
theorem dX6_couldHave_39 : decode cX6_couldHave 39 = .ok (.goto 4, 3) := by decide +kernel
theorem dX6_couldHave_42 : decode cX6_couldHave 42 = .ok (.iconst 0, 1) := by decide +kernel
theorem dX6_couldHave_43 : decode cX6_couldHave 43 = .ok (.ireturn, 1) := by decide +kernel
theorem dX6_canHave_0 : decode cX6_canHave 0 = .ok (.aload_n 0, 1) := by decide +kernel
theorem dX6_canHave_1 : decode cX6_canHave 1 = .ok (.iload_n 1, 1) := by decide +kernel
theorem dX6_canHave_2 : decode cX6_canHave 2 = .ok (.iload_n 2, 1) := by decide +kernel
theorem dX6_canHave_3 : decode cX6_canHave 3 = .ok (.invokevirtual 175, 3) := by decide +kernel
theorem dX6_canHave_6 : decode cX6_canHave 6 = .ok (.ifCond .eq 26, 3) := by decide +kernel
theorem dX6_canHave_9 : decode cX6_canHave 9 = .ok (.aload_n 0, 1) := by decide +kernel
theorem dX6_canHave_10 : decode cX6_canHave 10 = .ok (.getfield 22, 3) := by decide +kernel
theorem dX6_canHave_13 : decode cX6_canHave 13 = .ok (.iload_n 1, 1) := by decide +kernel
theorem dX6_canHave_14 : decode cX6_canHave 14 = .ok (.iload_n 2, 1) := by decide +kernel
theorem dX6_canHave_15 : decode cX6_canHave 15 = .ok (.iadd, 1) := by decide +kernel
theorem dX6_canHave_16 : decode cX6_canHave 16 = .ok (.iaload, 1) := by decide +kernel
theorem dX6_canHave_17 : decode cX6_canHave 17 = .ok (.iconst 2, 1) := by decide +kernel
theorem dX6_canHave_18 : decode cX6_canHave 18 = .ok (.iload_n 3, 1) := by decide +kernel
theorem dX6_canHave_19 : decode cX6_canHave 19 = .ok (.imul, 1) := by decide +kernel
theorem dX6_canHave_20 : decode cX6_canHave 20 = .ok (.iconst 3, 1) := by decide +kernel
theorem dX6_canHave_21 : decode cX6_canHave 21 = .ok (.iload 4, 2) := by decide +kernel
theorem dX6_canHave_23 : decode cX6_canHave 23 = .ok (.imul, 1) := by decide +kernel
theorem dX6_canHave_24 : decode cX6_canHave 24 = .ok (.iadd, 1) := by decide +kernel
theorem dX6_canHave_25 : decode cX6_canHave 25 = .ok (.if_icmp .lt 7, 3) := by decide +kernel
theorem dX6_canHave_28 : decode cX6_canHave 28 = .ok (.iconst 1, 1) := by decide +kernel
theorem dX6_canHave_29 : decode cX6_canHave 29 = .ok (.goto 4, 3) := by decide +kernel
theorem dX6_canHave_32 : decode cX6_canHave 32 = .ok (.iconst 0, 1) := by decide +kernel
theorem dX6_canHave_33 : decode cX6_canHave 33 = .ok (.ireturn, 1) := by decide +kernel
theorem dX6_holds_0 : decode cX6_holds 0 = .ok (.aload_n 0, 1) := by decide +kernel
theorem dX6_holds_1 : decode cX6_holds 1 = .ok (.iload_n 1, 1) := by decide +kernel
theorem dX6_holds_2 : decode cX6_holds 2 = .ok (.iload_n 2, 1) := by decide +kernel
theorem dX6_holds_3 : decode cX6_holds 3 = .ok (.iload_n 3, 1) := by decide +kernel
theorem dX6_holds_4 : decode cX6_holds 4 = .ok (.iload 4, 2) := by decide +kernel
theorem dX6_holds_6 : decode cX6_holds 6 = .ok (.invokevirtual 178, 3) := by decide +kernel
theorem dX6_holds_9 : decode cX6_holds 9 = .ok (.istore 5, 2) := by decide +kernel
theorem dX6_holds_11 : decode cX6_holds 11 = .ok (.aload_n 0, 1) := by decide +kernel
theorem dX6_holds_12 : decode cX6_holds 12 = .ok (.getfield 22, 3) := by decide +kernel
theorem dX6_holds_15 : decode cX6_holds 15 = .ok (.iload_n 1, 1) := by decide +kernel
theorem dX6_holds_16 : decode cX6_holds 16 = .ok (.iload_n 2, 1) := by decide +kernel
theorem dX6_holds_17 : decode cX6_holds 17 = .ok (.iadd, 1) := by decide +kernel
theorem dX6_holds_18 : decode cX6_holds 18 = .ok (.dup2, 1) := by decide +kernel
theorem dX6_holds_19 : decode cX6_holds 19 = .ok (.iaload, 1) := by decide +kernel
theorem dX6_holds_20 : decode cX6_holds 20 = .ok (.iconst 2, 1) := by decide +kernel
theorem dX6_holds_21 : decode cX6_holds 21 = .ok (.iload_n 3, 1) := by decide +kernel
theorem dX6_holds_22 : decode cX6_holds 22 = .ok (.imul, 1) := by decide +kernel
theorem dX6_holds_23 : decode cX6_holds 23 = .ok (.iconst 3, 1) := by decide +kernel
theorem dX6_holds_24 : decode cX6_holds 24 = .ok (.iload 4, 2) := by decide +kernel
theorem dX6_holds_26 : decode cX6_holds 26 = .ok (.imul, 1) := by decide +kernel
theorem dX6_holds_27 : decode cX6_holds 27 = .ok (.iadd, 1) := by decide +kernel
theorem dX6_holds_28 : decode cX6_holds 28 = .ok (.isub, 1) := by decide +kernel
theorem dX6_holds_29 : decode cX6_holds 29 = .ok (.iastore, 1) := by decide +kernel
theorem dX6_holds_30 : decode cX6_holds 30 = .ok (.iconst 0, 1) := by decide +kernel
theorem dX6_holds_31 : decode cX6_holds 31 = .ok (.istore 6, 2) := by decide +kernel
theorem dX6_holds_33 : decode cX6_holds 33 = .ok (.iload 6, 2) := by decide +kernel
theorem dX6_holds_35 : decode cX6_holds 35 = .ok (.aload_n 0, 1) := by decide +kernel
theorem dX6_holds_36 : decode cX6_holds 36 = .ok (.getfield 65, 3) := by decide +kernel
theorem dX6_holds_39 : decode cX6_holds 39 = .ok (.if_icmp .ge 40, 3) := by decide +kernel
theorem dX6_holds_42 : decode cX6_holds 42 = .ok (.iload 6, 2) := by decide +kernel
theorem dX6_holds_44 : decode cX6_holds 44 = .ok (.iload_n 2, 1) := by decide +kernel
theorem dX6_holds_45 : decode cX6_holds 45 = .ok (.if_icmp .eq 28, 3) := by decide +kernel
theorem dX6_holds_48 : decode cX6_holds 48 = .ok (.aload_n 0, 1) := by decide +kernel
theorem dX6_holds_49 : decode cX6_holds 49 = .ok (.iload_n 1, 1) := by decide +kernel
theorem dX6_holds_50 : decode cX6_holds 50 = .ok (.iload 6, 2) := by decide +kernel
theorem dX6_holds_52 : decode cX6_holds 52 = .ok (.invokevirtual 136, 3) := by decide +kernel
theorem dX6_holds_55 : decode cX6_holds 55 = .ok (.ifCond .eq 18, 3) := by decide +kernel
theorem dX6_holds_58 : decode cX6_holds 58 = .ok (.aload_n 0, 1) := by decide +kernel
theorem dX6_holds_59 : decode cX6_holds 59 = .ok (.iload_n 1, 1) := by decide +kernel
theorem dX6_holds_60 : decode cX6_holds 60 = .ok (.iload_n 2, 1) := by decide +kernel
theorem dX6_holds_61 : decode cX6_holds 61 = .ok (.iload 6, 2) := by decide +kernel
theorem dX6_holds_63 : decode cX6_holds 63 = .ok (.iload 5, 2) := by decide +kernel
theorem dX6_holds_65 : decode cX6_holds 65 = .ok (.iload 6, 2) := by decide +kernel
theorem dX6_holds_67 : decode cX6_holds 67 = .ok (.invokestatic 132, 3) := by decide +kernel
theorem dX6_holds_70 : decode cX6_holds 70 = .ok (.invokevirtual 181, 3) := by decide +kernel
theorem dX6_holds_73 : decode cX6_holds 73 = .ok (.iinc 6 1, 3) := by decide +kernel
theorem dX6_holds_76 : decode cX6_holds 76 = .ok (.goto (-43), 3) := by decide +kernel
theorem dX6_holds_79 : decode cX6_holds 79 = .ok (.aload_n 0, 1) := by decide +kernel
theorem dX6_holds_80 : decode cX6_holds 80 = .ok (.getfield 22, 3) := by decide +kernel
theorem dX6_holds_83 : decode cX6_holds 83 = .ok (.iload_n 1, 1) := by decide +kernel
theorem dX6_holds_84 : decode cX6_holds 84 = .ok (.bipush 7, 2) := by decide +kernel
theorem dX6_holds_86 : decode cX6_holds 86 = .ok (.iadd, 1) := by decide +kernel
theorem dX6_holds_87 : decode cX6_holds 87 = .ok (.dup2, 1) := by decide +kernel
theorem dX6_holds_88 : decode cX6_holds 88 = .ok (.iaload, 1) := by decide +kernel
theorem dX6_holds_89 : decode cX6_holds 89 = .ok (.iconst 1, 1) := by decide +kernel
theorem dX6_holds_90 : decode cX6_holds 90 = .ok (.iload_n 2, 1) := by decide +kernel
theorem dX6_holds_91 : decode cX6_holds 91 = .ok (.ishl, 1) := by decide +kernel
theorem dX6_holds_92 : decode cX6_holds 92 = .ok (.ior, 1) := by decide +kernel
theorem dX6_holds_93 : decode cX6_holds 93 = .ok (.iastore, 1) := by decide +kernel
theorem dX6_holds_94 : decode cX6_holds 94 = .ok (.aload_n 0, 1) := by decide +kernel
theorem dX6_holds_95 : decode cX6_holds 95 = .ok (.getfield 22, 3) := by decide +kernel
theorem dX6_holds_98 : decode cX6_holds 98 = .ok (.iload_n 1, 1) := by decide +kernel
theorem dX6_holds_99 : decode cX6_holds 99 = .ok (.bipush 9, 2) := by decide +kernel
theorem dX6_holds_101 : decode cX6_holds 101 = .ok (.iadd, 1) := by decide +kernel
theorem dX6_holds_102 : decode cX6_holds 102 = .ok (.dup2, 1) := by decide +kernel
theorem dX6_holds_103 : decode cX6_holds 103 = .ok (.iaload, 1) := by decide +kernel
theorem dX6_holds_104 : decode cX6_holds 104 = .ok (.iconst 1, 1) := by decide +kernel
theorem dX6_holds_105 : decode cX6_holds 105 = .ok (.iadd, 1) := by decide +kernel
theorem dX6_holds_106 : decode cX6_holds 106 = .ok (.iastore, 1) := by decide +kernel
theorem dX6_holds_107 : decode cX6_holds 107 = .ok (.iload 5, 2) := by decide +kernel
theorem dX6_holds_109 : decode cX6_holds 109 = .ok (.ireturn, 1) := by decide +kernel
theorem dX6_areBells_0 : decode cX6_areBells 0 = .ok (.iload_n 0, 1) := by decide +kernel
theorem dX6_areBells_1 : decode cX6_areBells 1 = .ok (.i2l, 1) := by decide +kernel
theorem dX6_areBells_2 : decode cX6_areBells 2 = .ok (.lconst 0, 1) := by decide +kernel
theorem dX6_areBells_3 : decode cX6_areBells 3 = .ok (.ldc2_w 185, 3) := by decide +kernel
theorem dX6_areBells_6 : decode cX6_areBells 6 = .ok (.invokestatic 71, 3) := by decide +kernel
theorem dX6_areBells_9 : decode cX6_areBells 9 = .ok (.ifCond .eq 19, 3) := by decide +kernel
theorem dX6_areBells_12 : decode cX6_areBells 12 = .ok (.iload_n 1, 1) := by decide +kernel
theorem dX6_areBells_13 : decode cX6_areBells 13 = .ok (.i2l, 1) := by decide +kernel
theorem dX6_areBells_14 : decode cX6_areBells 14 = .ok (.lconst 0, 1) := by decide +kernel
theorem dX6_areBells_15 : decode cX6_areBells 15 = .ok (.ldc2_w 185, 3) := by decide +kernel
theorem dX6_areBells_18 : decode cX6_areBells 18 = .ok (.invokestatic 71, 3) := by decide +kernel
theorem dX6_areBells_21 : decode cX6_areBells 21 = .ok (.ifCond .eq 7, 3) := by decide +kernel
theorem dX6_areBells_24 : decode cX6_areBells 24 = .ok (.iconst 1, 1) := by decide +kernel
theorem dX6_areBells_25 : decode cX6_areBells 25 = .ok (.goto 4, 3) := by decide +kernel
theorem dX6_areBells_28 : decode cX6_areBells 28 = .ok (.iconst 0, 1) := by decide +kernel
theorem dX6_areBells_29 : decode cX6_areBells 29 = .ok (.ireturn, 1) := by decide +kernel
theorem dX6_trial_0 : decode cX6_trial 0 = .ok (.aload_n 0, 1) := by decide +kernel
theorem dX6_trial_1 : decode cX6_trial 1 = .ok (.iload_n 1, 1) := by decide +kernel
theorem dX6_trial_2 : decode cX6_trial 2 = .ok (.invokevirtual 75, 3) := by decide +kernel
theorem dX6_trial_5 : decode cX6_trial 5 = .ok (.ifCond .eq 11, 3) := by decide +kernel
theorem dX6_trial_8 : decode cX6_trial 8 = .ok (.iload_n 2, 1) := by decide +kernel
theorem dX6_trial_9 : decode cX6_trial 9 = .ok (.iload_n 3, 1) := by decide +kernel
theorem dX6_trial_10 : decode cX6_trial 10 = .ok (.invokestatic 187, 3) := by decide +kernel
theorem dX6_trial_13 : decode cX6_trial 13 = .ok (.ifCond .ne 5, 3) := by decide +kernel
theorem dX6_trial_16 : decode cX6_trial 16 = .ok (.iconst (-1), 1) := by decide +kernel
theorem dX6_trial_17 : decode cX6_trial 17 = .ok (.ireturn, 1) := by decide +kernel
theorem dX6_trial_18 : decode cX6_trial 18 = .ok (.aload_n 0, 1) := by decide +kernel
theorem dX6_trial_19 : decode cX6_trial 19 = .ok (.iconst 0, 1) := by decide +kernel
theorem dX6_trial_20 : decode cX6_trial 20 = .ok (.iload_n 1, 1) := by decide +kernel
theorem dX6_trial_21 : decode cX6_trial 21 = .ok (.iload_n 2, 1) := by decide +kernel
theorem dX6_trial_22 : decode cX6_trial 22 = .ok (.iload_n 3, 1) := by decide +kernel
theorem dX6_trial_23 : decode cX6_trial 23 = .ok (.invokevirtual 190, 3) := by decide +kernel
theorem dX6_trial_26 : decode cX6_trial 26 = .ok (.ifCond .ne 6, 3) := by decide +kernel
theorem dX6_trial_29 : decode cX6_trial 29 = .ok (.bipush (-2), 2) := by decide +kernel
theorem dX6_trial_31 : decode cX6_trial 31 = .ok (.ireturn, 1) := by decide +kernel
theorem dX6_trial_32 : decode cX6_trial 32 = .ok (.aload_n 0, 1) := by decide +kernel
theorem dX6_trial_33 : decode cX6_trial 33 = .ok (.invokevirtual 194, 3) := by decide +kernel
theorem dX6_trial_36 : decode cX6_trial 36 = .ok (.aload_n 0, 1) := by decide +kernel
theorem dX6_trial_37 : decode cX6_trial 37 = .ok (.iconst 0, 1) := by decide +kernel
theorem dX6_trial_38 : decode cX6_trial 38 = .ok (.iload_n 1, 1) := by decide +kernel
theorem dX6_trial_39 : decode cX6_trial 39 = .ok (.iload_n 2, 1) := by decide +kernel
theorem dX6_trial_40 : decode cX6_trial 40 = .ok (.iload_n 3, 1) := by decide +kernel
theorem dX6_trial_41 : decode cX6_trial 41 = .ok (.invokevirtual 197, 3) := by decide +kernel
theorem dX6_trial_44 : decode cX6_trial 44 = .ok (.ireturn, 1) := by decide +kernel
theorem dX6_canGive_0 : decode cX6_canGive 0 = .ok (.iload_n 2, 1) := by decide +kernel
theorem dX6_canGive_1 : decode cX6_canGive 1 = .ok (.iload_n 3, 1) := by decide +kernel
theorem dX6_canGive_2 : decode cX6_canGive 2 = .ok (.if_icmp .eq 57, 3) := by decide +kernel
theorem dX6_canGive_5 : decode cX6_canGive 5 = .ok (.aload_n 0, 1) := by decide +kernel
theorem dX6_canGive_6 : decode cX6_canGive 6 = .ok (.iload_n 1, 1) := by decide +kernel
theorem dX6_canGive_7 : decode cX6_canGive 7 = .ok (.iload_n 2, 1) := by decide +kernel
theorem dX6_canGive_8 : decode cX6_canGive 8 = .ok (.invokevirtual 136, 3) := by decide +kernel
theorem dX6_canGive_11 : decode cX6_canGive 11 = .ok (.ifCond .eq 48, 3) := by decide +kernel
theorem dX6_canGive_14 : decode cX6_canGive 14 = .ok (.aload_n 0, 1) := by decide +kernel
theorem dX6_canGive_15 : decode cX6_canGive 15 = .ok (.iload_n 1, 1) := by decide +kernel
theorem dX6_canGive_16 : decode cX6_canGive 16 = .ok (.iload_n 3, 1) := by decide +kernel
theorem dX6_canGive_17 : decode cX6_canGive 17 = .ok (.invokevirtual 136, 3) := by decide +kernel
theorem dX6_canGive_20 : decode cX6_canGive 20 = .ok (.ifCond .eq 39, 3) := by decide +kernel
theorem dX6_canGive_23 : decode cX6_canGive 23 = .ok (.aload_n 0, 1) := by decide +kernel
theorem dX6_canGive_24 : decode cX6_canGive 24 = .ok (.getfield 22, 3) := by decide +kernel
theorem dX6_canGive_27 : decode cX6_canGive 27 = .ok (.iload_n 1, 1) := by decide +kernel
theorem dX6_canGive_28 : decode cX6_canGive 28 = .ok (.iload_n 2, 1) := by decide +kernel
theorem dX6_canGive_29 : decode cX6_canGive 29 = .ok (.iadd, 1) := by decide +kernel
theorem dX6_canGive_30 : decode cX6_canGive 30 = .ok (.iaload, 1) := by decide +kernel
theorem dX6_canGive_31 : decode cX6_canGive 31 = .ok (.iconst 2, 1) := by decide +kernel
theorem dX6_canGive_32 : decode cX6_canGive 32 = .ok (.if_icmp .lt 27, 3) := by decide +kernel
theorem dX6_canGive_35 : decode cX6_canGive 35 = .ok (.aload_n 0, 1) := by decide +kernel
theorem dX6_canGive_36 : decode cX6_canGive 36 = .ok (.getfield 22, 3) := by decide +kernel
theorem dX6_canGive_39 : decode cX6_canGive 39 = .ok (.iload_n 1, 1) := by decide +kernel
theorem dX6_canGive_40 : decode cX6_canGive 40 = .ok (.bipush 10, 2) := by decide +kernel
theorem dX6_canGive_42 : decode cX6_canGive 42 = .ok (.iadd, 1) := by decide +kernel
theorem dX6_canGive_43 : decode cX6_canGive 43 = .ok (.bipush 6, 2) := by decide +kernel
theorem dX6_canGive_45 : decode cX6_canGive 45 = .ok (.iload_n 3, 1) := by decide +kernel
theorem dX6_canGive_46 : decode cX6_canGive 46 = .ok (.imul, 1) := by decide +kernel
theorem dX6_canGive_47 : decode cX6_canGive 47 = .ok (.iadd, 1) := by decide +kernel
theorem dX6_canGive_48 : decode cX6_canGive 48 = .ok (.iload_n 2, 1) := by decide +kernel
theorem dX6_canGive_49 : decode cX6_canGive 49 = .ok (.iadd, 1) := by decide +kernel
theorem dX6_canGive_50 : decode cX6_canGive 50 = .ok (.iaload, 1) := by decide +kernel
theorem dX6_canGive_51 : decode cX6_canGive 51 = .ok (.iconst 5, 1) := by decide +kernel
theorem dX6_canGive_52 : decode cX6_canGive 52 = .ok (.if_icmp .ge 7, 3) := by decide +kernel
theorem dX6_canGive_55 : decode cX6_canGive 55 = .ok (.iconst 1, 1) := by decide +kernel
theorem dX6_canGive_56 : decode cX6_canGive 56 = .ok (.goto 4, 3) := by decide +kernel
theorem dX6_canGive_59 : decode cX6_canGive 59 = .ok (.iconst 0, 1) := by decide +kernel
theorem dX6_canGive_60 : decode cX6_canGive 60 = .ok (.ireturn, 1) := by decide +kernel
theorem dX6_gives_0 : decode cX6_gives 0 = .ok (.aload_n 0, 1) := by decide +kernel
theorem dX6_gives_1 : decode cX6_gives 1 = .ok (.getfield 22, 3) := by decide +kernel
theorem dX6_gives_4 : decode cX6_gives 4 = .ok (.iload_n 1, 1) := by decide +kernel
theorem dX6_gives_5 : decode cX6_gives 5 = .ok (.iload_n 2, 1) := by decide +kernel
theorem dX6_gives_6 : decode cX6_gives 6 = .ok (.iadd, 1) := by decide +kernel
theorem dX6_gives_7 : decode cX6_gives 7 = .ok (.dup2, 1) := by decide +kernel
theorem dX6_gives_8 : decode cX6_gives 8 = .ok (.iaload, 1) := by decide +kernel
theorem dX6_gives_9 : decode cX6_gives 9 = .ok (.iconst 2, 1) := by decide +kernel
theorem dX6_gives_10 : decode cX6_gives 10 = .ok (.isub, 1) := by decide +kernel
theorem dX6_gives_11 : decode cX6_gives 11 = .ok (.iastore, 1) := by decide +kernel
theorem dX6_gives_12 : decode cX6_gives 12 = .ok (.aload_n 0, 1) := by decide +kernel
theorem dX6_gives_13 : decode cX6_gives 13 = .ok (.iload_n 1, 1) := by decide +kernel
theorem dX6_gives_14 : decode cX6_gives 14 = .ok (.iload_n 3, 1) := by decide +kernel
theorem dX6_gives_15 : decode cX6_gives 15 = .ok (.iload_n 2, 1) := by decide +kernel
theorem dX6_gives_16 : decode cX6_gives 16 = .ok (.iconst 1, 1) := by decide +kernel
theorem dX6_gives_17 : decode cX6_gives 17 = .ok (.invokevirtual 168, 3) := by decide +kernel
theorem dX6_gives_20 : decode cX6_gives 20 = .ok (.return_, 1) := by decide +kernel
theorem dX6_gift_0 : decode cX6_gift 0 = .ok (.aload_n 0, 1) := by decide +kernel
theorem dX6_gift_1 : decode cX6_gift 1 = .ok (.iload_n 1, 1) := by decide +kernel
theorem dX6_gift_2 : decode cX6_gift 2 = .ok (.iload_n 2, 1) := by decide +kernel
theorem dX6_gift_3 : decode cX6_gift 3 = .ok (.invokevirtual 147, 3) := by decide +kernel
theorem dX6_gift_6 : decode cX6_gift 6 = .ok (.ifCond .ne 5, 3) := by decide +kernel
theorem dX6_gift_9 : decode cX6_gift 9 = .ok (.iconst (-1), 1) := by decide +kernel
theorem dX6_gift_10 : decode cX6_gift 10 = .ok (.ireturn, 1) := by decide +kernel
theorem dX6_gift_11 : decode cX6_gift 11 = .ok (.aload_n 0, 1) := by decide +kernel
theorem dX6_gift_12 : decode cX6_gift 12 = .ok (.iconst 0, 1) := by decide +kernel
theorem dX6_gift_13 : decode cX6_gift 13 = .ok (.iload_n 1, 1) := by decide +kernel
theorem dX6_gift_14 : decode cX6_gift 14 = .ok (.iload_n 2, 1) := by decide +kernel
theorem dX6_gift_15 : decode cX6_gift 15 = .ok (.invokevirtual 200, 3) := by decide +kernel
theorem dX6_gift_18 : decode cX6_gift 18 = .ok (.ifCond .ne 6, 3) := by decide +kernel
theorem dX6_gift_21 : decode cX6_gift 21 = .ok (.bipush (-2), 2) := by decide +kernel
theorem dX6_gift_23 : decode cX6_gift 23 = .ok (.ireturn, 1) := by decide +kernel
theorem dX6_gift_24 : decode cX6_gift 24 = .ok (.aload_n 0, 1) := by decide +kernel
theorem dX6_gift_25 : decode cX6_gift 25 = .ok (.invokevirtual 194, 3) := by decide +kernel
theorem dX6_gift_28 : decode cX6_gift 28 = .ok (.aload_n 0, 1) := by decide +kernel
theorem dX6_gift_29 : decode cX6_gift 29 = .ok (.iconst 0, 1) := by decide +kernel
theorem dX6_gift_30 : decode cX6_gift 30 = .ok (.iload_n 1, 1) := by decide +kernel
theorem dX6_gift_31 : decode cX6_gift 31 = .ok (.iload_n 2, 1) := by decide +kernel
theorem dX6_gift_32 : decode cX6_gift 32 = .ok (.invokevirtual 204, 3) := by decide +kernel
theorem dX6_gift_35 : decode cX6_gift 35 = .ok (.aload_n 0, 1) := by decide +kernel
theorem dX6_gift_36 : decode cX6_gift 36 = .ok (.getfield 22, 3) := by decide +kernel
theorem dX6_gift_39 : decode cX6_gift 39 = .ok (.bipush 10, 2) := by decide +kernel
theorem dX6_gift_41 : decode cX6_gift 41 = .ok (.bipush 6, 2) := by decide +kernel
theorem dX6_gift_43 : decode cX6_gift 43 = .ok (.iload_n 2, 1) := by decide +kernel
theorem dX6_gift_44 : decode cX6_gift 44 = .ok (.imul, 1) := by decide +kernel
theorem dX6_gift_45 : decode cX6_gift 45 = .ok (.iadd, 1) := by decide +kernel
theorem dX6_gift_46 : decode cX6_gift 46 = .ok (.iload_n 1, 1) := by decide +kernel
theorem dX6_gift_47 : decode cX6_gift 47 = .ok (.iadd, 1) := by decide +kernel
theorem dX6_gift_48 : decode cX6_gift 48 = .ok (.iaload, 1) := by decide +kernel
theorem dX6_gift_49 : decode cX6_gift 49 = .ok (.iconst 4, 1) := by decide +kernel
theorem dX6_gift_50 : decode cX6_gift 50 = .ok (.iadd, 1) := by decide +kernel
theorem dX6_gift_51 : decode cX6_gift 51 = .ok (.ireturn, 1) := by decide +kernel
theorem dX6_pay_0 : decode cX6_pay 0 = .ok (.aload_n 0, 1) := by decide +kernel
theorem dX6_pay_1 : decode cX6_pay 1 = .ok (.iload_n 1, 1) := by decide +kernel
theorem dX6_pay_2 : decode cX6_pay 2 = .ok (.iload_n 2, 1) := by decide +kernel
theorem dX6_pay_3 : decode cX6_pay 3 = .ok (.invokevirtual 147, 3) := by decide +kernel
theorem dX6_pay_6 : decode cX6_pay 6 = .ok (.ifCond .ne 5, 3) := by decide +kernel
theorem dX6_pay_9 : decode cX6_pay 9 = .ok (.iconst (-1), 1) := by decide +kernel
theorem dX6_pay_10 : decode cX6_pay 10 = .ok (.ireturn, 1) := by decide +kernel
theorem dX6_pay_11 : decode cX6_pay 11 = .ok (.aload_n 0, 1) := by decide +kernel
theorem dX6_pay_12 : decode cX6_pay 12 = .ok (.getfield 22, 3) := by decide +kernel
theorem dX6_pay_15 : decode cX6_pay 15 = .ok (.bipush 46, 2) := by decide +kernel
theorem dX6_pay_17 : decode cX6_pay 17 = .ok (.bipush 6, 2) := by decide +kernel
theorem dX6_pay_19 : decode cX6_pay 19 = .ok (.iload_n 1, 1) := by decide +kernel
theorem dX6_pay_20 : decode cX6_pay 20 = .ok (.imul, 1) := by decide +kernel
theorem dX6_pay_21 : decode cX6_pay 21 = .ok (.iadd, 1) := by decide +kernel
theorem dX6_pay_22 : decode cX6_pay 22 = .ok (.iload_n 2, 1) := by decide +kernel
theorem dX6_pay_23 : decode cX6_pay 23 = .ok (.iadd, 1) := by decide +kernel
theorem dX6_pay_24 : decode cX6_pay 24 = .ok (.iaload, 1) := by decide +kernel
theorem dX6_pay_25 : decode cX6_pay 25 = .ok (.ifCond .eq 12, 3) := by decide +kernel
theorem dX6_pay_28 : decode cX6_pay 28 = .ok (.aload_n 0, 1) := by decide +kernel
theorem dX6_pay_29 : decode cX6_pay 29 = .ok (.getfield 22, 3) := by decide +kernel
theorem dX6_pay_32 : decode cX6_pay 32 = .ok (.iload_n 1, 1) := by decide +kernel
theorem dX6_pay_33 : decode cX6_pay 33 = .ok (.iaload, 1) := by decide +kernel
theorem dX6_pay_34 : decode cX6_pay 34 = .ok (.ifCond .ne 6, 3) := by decide +kernel
theorem dX6_pay_37 : decode cX6_pay 37 = .ok (.bipush (-2), 2) := by decide +kernel
theorem dX6_pay_39 : decode cX6_pay 39 = .ok (.ireturn, 1) := by decide +kernel
theorem dX6_pay_40 : decode cX6_pay 40 = .ok (.aload_n 0, 1) := by decide +kernel
theorem dX6_pay_41 : decode cX6_pay 41 = .ok (.invokevirtual 194, 3) := by decide +kernel
theorem dX6_pay_44 : decode cX6_pay 44 = .ok (.aload_n 0, 1) := by decide +kernel
theorem dX6_pay_45 : decode cX6_pay 45 = .ok (.iconst 0, 1) := by decide +kernel
theorem dX6_pay_46 : decode cX6_pay 46 = .ok (.iload_n 1, 1) := by decide +kernel
theorem dX6_pay_47 : decode cX6_pay 47 = .ok (.iload_n 2, 1) := by decide +kernel
theorem dX6_pay_48 : decode cX6_pay 48 = .ok (.aload_n 0, 1) := by decide +kernel
theorem dX6_pay_49 : decode cX6_pay 49 = .ok (.getfield 22, 3) := by decide +kernel
theorem dX6_pay_52 : decode cX6_pay 52 = .ok (.bipush 46, 2) := by decide +kernel
theorem dX6_pay_54 : decode cX6_pay 54 = .ok (.bipush 6, 2) := by decide +kernel
theorem dX6_pay_56 : decode cX6_pay 56 = .ok (.iload_n 1, 1) := by decide +kernel
theorem dX6_pay_57 : decode cX6_pay 57 = .ok (.imul, 1) := by decide +kernel
theorem dX6_pay_58 : decode cX6_pay 58 = .ok (.iadd, 1) := by decide +kernel
theorem dX6_pay_59 : decode cX6_pay 59 = .ok (.iload_n 2, 1) := by decide +kernel
theorem dX6_pay_60 : decode cX6_pay 60 = .ok (.iadd, 1) := by decide +kernel
theorem dX6_pay_61 : decode cX6_pay 61 = .ok (.iaload, 1) := by decide +kernel
theorem dX6_pay_62 : decode cX6_pay 62 = .ok (.invokevirtual 171, 3) := by decide +kernel
theorem dX6_pay_65 : decode cX6_pay 65 = .ok (.ireturn, 1) := by decide +kernel
theorem dX6_die_0 : decode cX6_die 0 = .ok (.aload_n 0, 1) := by decide +kernel
theorem dX6_die_1 : decode cX6_die 1 = .ok (.iload_n 1, 1) := by decide +kernel
theorem dX6_die_2 : decode cX6_die 2 = .ok (.invokevirtual 75, 3) := by decide +kernel
theorem dX6_die_5 : decode cX6_die 5 = .ok (.ifCond .ne 5, 3) := by decide +kernel
theorem dX6_die_8 : decode cX6_die 8 = .ok (.iconst (-1), 1) := by decide +kernel
theorem dX6_die_9 : decode cX6_die 9 = .ok (.ireturn, 1) := by decide +kernel
theorem dX6_die_10 : decode cX6_die 10 = .ok (.aload_n 0, 1) := by decide +kernel
theorem dX6_die_11 : decode cX6_die 11 = .ok (.iconst 0, 1) := by decide +kernel
theorem dX6_die_12 : decode cX6_die 12 = .ok (.iload_n 1, 1) := by decide +kernel
theorem dX6_die_13 : decode cX6_die 13 = .ok (.invokevirtual 136, 3) := by decide +kernel
theorem dX6_die_16 : decode cX6_die 16 = .ok (.ifCond .ne 6, 3) := by decide +kernel
theorem dX6_die_19 : decode cX6_die 19 = .ok (.bipush (-2), 2) := by decide +kernel
theorem dX6_die_21 : decode cX6_die 21 = .ok (.ireturn, 1) := by decide +kernel
theorem dX6_die_22 : decode cX6_die 22 = .ok (.aload_n 0, 1) := by decide +kernel
theorem dX6_die_23 : decode cX6_die 23 = .ok (.invokevirtual 194, 3) := by decide +kernel
theorem dX6_die_26 : decode cX6_die 26 = .ok (.aload_n 0, 1) := by decide +kernel
theorem dX6_die_27 : decode cX6_die 27 = .ok (.iconst 0, 1) := by decide +kernel
theorem dX6_die_28 : decode cX6_die 28 = .ok (.iload_n 1, 1) := by decide +kernel
theorem dX6_die_29 : decode cX6_die 29 = .ok (.invokevirtual 144, 3) := by decide +kernel
theorem dX6_die_32 : decode cX6_die 32 = .ok (.istore_n 2, 1) := by decide +kernel
theorem dX6_die_33 : decode cX6_die 33 = .ok (.aload_n 0, 1) := by decide +kernel
theorem dX6_die_34 : decode cX6_die 34 = .ok (.getfield 22, 3) := by decide +kernel
theorem dX6_die_37 : decode cX6_die 37 = .ok (.bipush 6, 2) := by decide +kernel
theorem dX6_die_39 : decode cX6_die 39 = .ok (.dup2, 1) := by decide +kernel
theorem dX6_die_40 : decode cX6_die 40 = .ok (.iaload, 1) := by decide +kernel
theorem dX6_die_41 : decode cX6_die 41 = .ok (.iconst 1, 1) := by decide +kernel
theorem dX6_die_42 : decode cX6_die 42 = .ok (.iload_n 1, 1) := by decide +kernel
theorem dX6_die_43 : decode cX6_die 43 = .ok (.ishl, 1) := by decide +kernel
theorem dX6_die_44 : decode cX6_die 44 = .ok (.ior, 1) := by decide +kernel
theorem dX6_die_45 : decode cX6_die 45 = .ok (.iastore, 1) := by decide +kernel
theorem dX6_die_46 : decode cX6_die 46 = .ok (.iload_n 2, 1) := by decide +kernel
theorem dX6_die_47 : decode cX6_die 47 = .ok (.ifCond .lt 15, 3) := by decide +kernel
theorem dX6_die_50 : decode cX6_die 50 = .ok (.aload_n 0, 1) := by decide +kernel
theorem dX6_die_51 : decode cX6_die 51 = .ok (.iconst 0, 1) := by decide +kernel
theorem dX6_die_52 : decode cX6_die 52 = .ok (.iload_n 2, 1) := by decide +kernel
theorem dX6_die_53 : decode cX6_die 53 = .ok (.aload_n 0, 1) := by decide +kernel
theorem dX6_die_54 : decode cX6_die 54 = .ok (.getfield 22, 3) := by decide +kernel
theorem dX6_die_57 : decode cX6_die 57 = .ok (.iload_n 1, 1) := by decide +kernel
theorem dX6_die_58 : decode cX6_die 58 = .ok (.iaload, 1) := by decide +kernel
theorem dX6_die_59 : decode cX6_die 59 = .ok (.invokevirtual 164, 3) := by decide +kernel
theorem dX6_die_62 : decode cX6_die 62 = .ok (.aload_n 0, 1) := by decide +kernel
theorem dX6_die_63 : decode cX6_die 63 = .ok (.getfield 22, 3) := by decide +kernel
theorem dX6_die_66 : decode cX6_die 66 = .ok (.iload_n 1, 1) := by decide +kernel
theorem dX6_die_67 : decode cX6_die 67 = .ok (.iconst 0, 1) := by decide +kernel
theorem dX6_die_68 : decode cX6_die 68 = .ok (.iastore, 1) := by decide +kernel
theorem dX6_die_69 : decode cX6_die 69 = .ok (.iconst 0, 1) := by decide +kernel
theorem dX6_die_70 : decode cX6_die 70 = .ok (.istore_n 3, 1) := by decide +kernel
theorem dX6_die_71 : decode cX6_die 71 = .ok (.iload_n 3, 1) := by decide +kernel
theorem dX6_die_72 : decode cX6_die 72 = .ok (.aload_n 0, 1) := by decide +kernel
theorem dX6_die_73 : decode cX6_die 73 = .ok (.getfield 65, 3) := by decide +kernel
theorem dX6_die_76 : decode cX6_die 76 = .ok (.if_icmp .ge 84, 3) := by decide +kernel
theorem dX6_die_79 : decode cX6_die 79 = .ok (.iload_n 2, 1) := by decide +kernel
theorem dX6_die_80 : decode cX6_die 80 = .ok (.ifCond .lt 44, 3) := by decide +kernel
theorem dX6_die_83 : decode cX6_die 83 = .ok (.iload_n 3, 1) := by decide +kernel
theorem dX6_die_84 : decode cX6_die 84 = .ok (.iload_n 2, 1) := by decide +kernel
theorem dX6_die_85 : decode cX6_die 85 = .ok (.if_icmp .eq 39, 3) := by decide +kernel
theorem dX6_die_88 : decode cX6_die 88 = .ok (.iload_n 3, 1) := by decide +kernel
theorem dX6_die_89 : decode cX6_die 89 = .ok (.iload_n 1, 1) := by decide +kernel
theorem dX6_die_90 : decode cX6_die 90 = .ok (.if_icmp .eq 34, 3) := by decide +kernel
theorem dX6_die_93 : decode cX6_die 93 = .ok (.aload_n 0, 1) := by decide +kernel
theorem dX6_die_94 : decode cX6_die 94 = .ok (.getfield 22, 3) := by decide +kernel
theorem dX6_die_97 : decode cX6_die 97 = .ok (.bipush 46, 2) := by decide +kernel
theorem dX6_die_99 : decode cX6_die 99 = .ok (.bipush 6, 2) := by decide +kernel
theorem dX6_die_101 : decode cX6_die 101 = .ok (.iload_n 3, 1) := by decide +kernel
theorem dX6_die_102 : decode cX6_die 102 = .ok (.imul, 1) := by decide +kernel
theorem dX6_die_103 : decode cX6_die 103 = .ok (.iadd, 1) := by decide +kernel
theorem dX6_die_104 : decode cX6_die 104 = .ok (.iload_n 2, 1) := by decide +kernel
theorem dX6_die_105 : decode cX6_die 105 = .ok (.iadd, 1) := by decide +kernel
theorem dX6_die_106 : decode cX6_die 106 = .ok (.dup2, 1) := by decide +kernel
theorem dX6_die_107 : decode cX6_die 107 = .ok (.iaload, 1) := by decide +kernel
theorem dX6_die_108 : decode cX6_die 108 = .ok (.aload_n 0, 1) := by decide +kernel
theorem dX6_die_109 : decode cX6_die 109 = .ok (.getfield 22, 3) := by decide +kernel
theorem dX6_die_112 : decode cX6_die 112 = .ok (.bipush 46, 2) := by decide +kernel
theorem dX6_die_114 : decode cX6_die 114 = .ok (.bipush 6, 2) := by decide +kernel
theorem dX6_die_116 : decode cX6_die 116 = .ok (.iload_n 3, 1) := by decide +kernel
theorem dX6_die_117 : decode cX6_die 117 = .ok (.imul, 1) := by decide +kernel
theorem dX6_die_118 : decode cX6_die 118 = .ok (.iadd, 1) := by decide +kernel
theorem dX6_die_119 : decode cX6_die 119 = .ok (.iload_n 1, 1) := by decide +kernel
theorem dX6_die_120 : decode cX6_die 120 = .ok (.iadd, 1) := by decide +kernel
theorem dX6_die_121 : decode cX6_die 121 = .ok (.iaload, 1) := by decide +kernel
theorem dX6_die_122 : decode cX6_die 122 = .ok (.iadd, 1) := by decide +kernel
theorem dX6_die_123 : decode cX6_die 123 = .ok (.iastore, 1) := by decide +kernel
theorem dX6_die_124 : decode cX6_die 124 = .ok (.aload_n 0, 1) := by decide +kernel
theorem dX6_die_125 : decode cX6_die 125 = .ok (.getfield 22, 3) := by decide +kernel
theorem dX6_die_128 : decode cX6_die 128 = .ok (.bipush 46, 2) := by decide +kernel
theorem dX6_die_130 : decode cX6_die 130 = .ok (.bipush 6, 2) := by decide +kernel
theorem dX6_die_132 : decode cX6_die 132 = .ok (.iload_n 3, 1) := by decide +kernel
theorem dX6_die_133 : decode cX6_die 133 = .ok (.imul, 1) := by decide +kernel
theorem dX6_die_134 : decode cX6_die 134 = .ok (.iadd, 1) := by decide +kernel
theorem dX6_die_135 : decode cX6_die 135 = .ok (.iload_n 1, 1) := by decide +kernel
theorem dX6_die_136 : decode cX6_die 136 = .ok (.iadd, 1) := by decide +kernel
theorem dX6_die_137 : decode cX6_die 137 = .ok (.iconst 0, 1) := by decide +kernel
theorem dX6_die_138 : decode cX6_die 138 = .ok (.iastore, 1) := by decide +kernel
theorem dX6_die_139 : decode cX6_die 139 = .ok (.aload_n 0, 1) := by decide +kernel
theorem dX6_die_140 : decode cX6_die 140 = .ok (.getfield 22, 3) := by decide +kernel
theorem dX6_die_143 : decode cX6_die 143 = .ok (.bipush 46, 2) := by decide +kernel
theorem dX6_die_145 : decode cX6_die 145 = .ok (.bipush 6, 2) := by decide +kernel
theorem dX6_die_147 : decode cX6_die 147 = .ok (.iload_n 1, 1) := by decide +kernel
theorem dX6_die_148 : decode cX6_die 148 = .ok (.imul, 1) := by decide +kernel
theorem dX6_die_149 : decode cX6_die 149 = .ok (.iadd, 1) := by decide +kernel
theorem dX6_die_150 : decode cX6_die 150 = .ok (.iload_n 3, 1) := by decide +kernel
theorem dX6_die_151 : decode cX6_die 151 = .ok (.iadd, 1) := by decide +kernel
theorem dX6_die_152 : decode cX6_die 152 = .ok (.iconst 0, 1) := by decide +kernel
theorem dX6_die_153 : decode cX6_die 153 = .ok (.iastore, 1) := by decide +kernel
theorem dX6_die_154 : decode cX6_die 154 = .ok (.iinc 3 1, 3) := by decide +kernel
theorem dX6_die_157 : decode cX6_die 157 = .ok (.goto (-86), 3) := by decide +kernel
theorem dX6_die_160 : decode cX6_die 160 = .ok (.iload_n 2, 1) := by decide +kernel
theorem dX6_die_161 : decode cX6_die 161 = .ok (.ireturn, 1) := by decide +kernel
theorem dX6_pass_0 : decode cX6_pass 0 = .ok (.iload_n 1, 1) := by decide +kernel
theorem dX6_pass_1 : decode cX6_pass 1 = .ok (.i2l, 1) := by decide +kernel
theorem dX6_pass_2 : decode cX6_pass 2 = .ok (.lconst 1, 1) := by decide +kernel
theorem dX6_pass_3 : decode cX6_pass 3 = .ok (.ldc2_w 207, 3) := by decide +kernel
theorem dX6_pass_6 : decode cX6_pass 6 = .ok (.invokestatic 71, 3) := by decide +kernel
theorem dX6_pass_9 : decode cX6_pass 9 = .ok (.ifCond .ne 5, 3) := by decide +kernel
theorem dX6_pass_12 : decode cX6_pass 12 = .ok (.iconst (-1), 1) := by decide +kernel
theorem dX6_pass_13 : decode cX6_pass 13 = .ok (.ireturn, 1) := by decide +kernel
theorem dX6_pass_14 : decode cX6_pass 14 = .ok (.aload_n 0, 1) := by decide +kernel
theorem dX6_pass_15 : decode cX6_pass 15 = .ok (.invokevirtual 194, 3) := by decide +kernel
theorem dX6_pass_18 : decode cX6_pass 18 = .ok (.aload_n 0, 1) := by decide +kernel
theorem dX6_pass_19 : decode cX6_pass 19 = .ok (.getfield 22, 3) := by decide +kernel
theorem dX6_pass_22 : decode cX6_pass 22 = .ok (.bipush 8, 2) := by decide +kernel
theorem dX6_pass_24 : decode cX6_pass 24 = .ok (.dup2, 1) := by decide +kernel
theorem dX6_pass_25 : decode cX6_pass 25 = .ok (.iaload, 1) := by decide +kernel
theorem dX6_pass_26 : decode cX6_pass 26 = .ok (.iload_n 1, 1) := by decide +kernel
theorem dX6_pass_27 : decode cX6_pass 27 = .ok (.iadd, 1) := by decide +kernel
theorem dX6_pass_28 : decode cX6_pass 28 = .ok (.iastore, 1) := by decide +kernel
theorem dX6_pass_29 : decode cX6_pass 29 = .ok (.aload_n 0, 1) := by decide +kernel
theorem dX6_pass_30 : decode cX6_pass 30 = .ok (.getfield 22, 3) := by decide +kernel
theorem dX6_pass_33 : decode cX6_pass 33 = .ok (.bipush 9, 2) := by decide +kernel
theorem dX6_pass_35 : decode cX6_pass 35 = .ok (.iconst 0, 1) := by decide +kernel
theorem dX6_pass_36 : decode cX6_pass 36 = .ok (.iastore, 1) := by decide +kernel
theorem dX6_pass_37 : decode cX6_pass 37 = .ok (.aload_n 0, 1) := by decide +kernel
theorem dX6_pass_38 : decode cX6_pass 38 = .ok (.getfield 22, 3) := by decide +kernel
theorem dX6_pass_41 : decode cX6_pass 41 = .ok (.bipush 8, 2) := by decide +kernel
theorem dX6_pass_43 : decode cX6_pass 43 = .ok (.iaload, 1) := by decide +kernel
theorem dX6_pass_44 : decode cX6_pass 44 = .ok (.ireturn, 1) := by decide +kernel
theorem dX6_undo_0 : decode cX6_undo 0 = .ok (.aload_n 0, 1) := by decide +kernel
theorem dX6_undo_1 : decode cX6_undo 1 = .ok (.getfield 123, 3) := by decide +kernel
theorem dX6_undo_4 : decode cX6_undo 4 = .ok (.ifCond .ne 6, 3) := by decide +kernel
theorem dX6_undo_7 : decode cX6_undo 7 = .ok (.bipush (-2), 2) := by decide +kernel
theorem dX6_undo_9 : decode cX6_undo 9 = .ok (.ireturn, 1) := by decide +kernel
theorem dX6_undo_10 : decode cX6_undo 10 = .ok (.aload_n 0, 1) := by decide +kernel
theorem dX6_undo_11 : decode cX6_undo 11 = .ok (.aload_n 0, 1) := by decide +kernel
theorem dX6_undo_12 : decode cX6_undo 12 = .ok (.getfield 123, 3) := by decide +kernel
theorem dX6_undo_15 : decode cX6_undo 15 = .ok (.bipush 82, 2) := by decide +kernel
theorem dX6_undo_17 : decode cX6_undo 17 = .ok (.imul, 1) := by decide +kernel
theorem dX6_undo_18 : decode cX6_undo 18 = .ok (.iconst 0, 1) := by decide +kernel
theorem dX6_undo_19 : decode cX6_undo 19 = .ok (.invokevirtual 119, 3) := by decide +kernel
theorem dX6_undo_22 : decode cX6_undo 22 = .ok (.aload_n 0, 1) := by decide +kernel
theorem dX6_undo_23 : decode cX6_undo 23 = .ok (.dup, 1) := by decide +kernel
theorem dX6_undo_24 : decode cX6_undo 24 = .ok (.getfield 123, 3) := by decide +kernel
theorem dX6_undo_27 : decode cX6_undo 27 = .ok (.iconst 1, 1) := by decide +kernel
theorem dX6_undo_28 : decode cX6_undo 28 = .ok (.isub, 1) := by decide +kernel
theorem dX6_undo_29 : decode cX6_undo 29 = .ok (.putfield 123, 3) := by decide +kernel
theorem dX6_undo_32 : decode cX6_undo 32 = .ok (.aload_n 0, 1) := by decide +kernel
theorem dX6_undo_33 : decode cX6_undo 33 = .ok (.getfield 123, 3) := by decide +kernel
theorem dX6_undo_36 : decode cX6_undo 36 = .ok (.ireturn, 1) := by decide +kernel
theorem dX6_come_0 : decode cX6_come 0 = .ok (.aload_n 0, 1) := by decide +kernel
theorem dX6_come_1 : decode cX6_come 1 = .ok (.iload_n 1, 1) := by decide +kernel
theorem dX6_come_2 : decode cX6_come 2 = .ok (.invokevirtual 75, 3) := by decide +kernel
theorem dX6_come_5 : decode cX6_come 5 = .ok (.ifCond .eq 22, 3) := by decide +kernel
theorem dX6_come_8 : decode cX6_come 8 = .ok (.iload_n 2, 1) := by decide +kernel
theorem dX6_come_9 : decode cX6_come 9 = .ok (.iload_n 3, 1) := by decide +kernel
theorem dX6_come_10 : decode cX6_come 10 = .ok (.invokestatic 187, 3) := by decide +kernel
theorem dX6_come_13 : decode cX6_come 13 = .ok (.ifCond .eq 14, 3) := by decide +kernel
theorem dX6_come_16 : decode cX6_come 16 = .ok (.iload 4, 2) := by decide +kernel
theorem dX6_come_18 : decode cX6_come 18 = .ok (.i2l, 1) := by decide +kernel
theorem dX6_come_19 : decode cX6_come 19 = .ok (.lconst 0, 1) := by decide +kernel
theorem dX6_come_20 : decode cX6_come 20 = .ok (.lconst 1, 1) := by decide +kernel
theorem dX6_come_21 : decode cX6_come 21 = .ok (.invokestatic 71, 3) := by decide +kernel
theorem dX6_come_24 : decode cX6_come 24 = .ok (.ifCond .ne 5, 3) := by decide +kernel
theorem dX6_come_27 : decode cX6_come 27 = .ok (.iconst (-1), 1) := by decide +kernel
theorem dX6_come_28 : decode cX6_come 28 = .ok (.ireturn, 1) := by decide +kernel
theorem dX6_come_29 : decode cX6_come 29 = .ok (.aload_n 0, 1) := by decide +kernel
theorem dX6_come_30 : decode cX6_come 30 = .ok (.iconst 0, 1) := by decide +kernel
theorem dX6_come_31 : decode cX6_come 31 = .ok (.iload_n 1, 1) := by decide +kernel
theorem dX6_come_32 : decode cX6_come 32 = .ok (.invokevirtual 136, 3) := by decide +kernel
theorem dX6_come_35 : decode cX6_come 35 = .ok (.ifCond .ne 6, 3) := by decide +kernel
theorem dX6_come_38 : decode cX6_come 38 = .ok (.bipush (-2), 2) := by decide +kernel
theorem dX6_come_40 : decode cX6_come 40 = .ok (.ireturn, 1) := by decide +kernel
theorem dX6_come_41 : decode cX6_come 41 = .ok (.aload_n 0, 1) := by decide +kernel
theorem dX6_come_42 : decode cX6_come 42 = .ok (.iconst 0, 1) := by decide +kernel
theorem dX6_come_43 : decode cX6_come 43 = .ok (.iload_n 1, 1) := by decide +kernel
theorem dX6_come_44 : decode cX6_come 44 = .ok (.iload_n 2, 1) := by decide +kernel
theorem dX6_come_45 : decode cX6_come 45 = .ok (.iload_n 3, 1) := by decide +kernel
theorem dX6_come_46 : decode cX6_come 46 = .ok (.invokevirtual 178, 3) := by decide +kernel
theorem dX6_come_49 : decode cX6_come 49 = .ok (.istore 5, 2) := by decide +kernel
theorem dX6_come_51 : decode cX6_come 51 = .ok (.iload 4, 2) := by decide +kernel
theorem dX6_come_53 : decode cX6_come 53 = .ok (.ifCond .ne 11, 3) := by decide +kernel
theorem dX6_come_56 : decode cX6_come 56 = .ok (.iload 5, 2) := by decide +kernel
theorem dX6_come_58 : decode cX6_come 58 = .ok (.invokestatic 209, 3) := by decide +kernel
theorem dX6_come_61 : decode cX6_come 61 = .ok (.goto 5, 3) := by decide +kernel
theorem dX6_come_64 : decode cX6_come 64 = .ok (.iload 5, 2) := by decide +kernel
theorem dX6_come_66 : decode cX6_come 66 = .ok (.ireturn, 1) := by decide +kernel
theorem dX6_isSet_0 : decode cX6_isSet 0 = .ok (.iload_n 2, 1) := by decide +kernel
theorem dX6_isSet_1 : decode cX6_isSet 1 = .ok (.i2l, 1) := by decide +kernel
theorem dX6_isSet_2 : decode cX6_isSet 2 = .ok (.lconst 1, 1) := by decide +kernel
theorem dX6_isSet_3 : decode cX6_isSet 3 = .ok (.iconst 1, 1) := by decide +kernel
theorem dX6_isSet_4 : decode cX6_isSet 4 = .ok (.aload_n 0, 1) := by decide +kernel
theorem dX6_isSet_5 : decode cX6_isSet 5 = .ok (.getfield 65, 3) := by decide +kernel
theorem dX6_isSet_8 : decode cX6_isSet 8 = .ok (.ishl, 1) := by decide +kernel
theorem dX6_isSet_9 : decode cX6_isSet 9 = .ok (.iconst 1, 1) := by decide +kernel
theorem dX6_isSet_10 : decode cX6_isSet 10 = .ok (.isub, 1) := by decide +kernel
theorem dX6_isSet_11 : decode cX6_isSet 11 = .ok (.i2l, 1) := by decide +kernel
theorem dX6_isSet_12 : decode cX6_isSet 12 = .ok (.invokestatic 71, 3) := by decide +kernel
theorem dX6_isSet_15 : decode cX6_isSet 15 = .ok (.ifCond .eq 15, 3) := by decide +kernel
theorem dX6_isSet_18 : decode cX6_isSet 18 = .ok (.iload_n 2, 1) := by decide +kernel
theorem dX6_isSet_19 : decode cX6_isSet 19 = .ok (.iload_n 1, 1) := by decide +kernel
theorem dX6_isSet_20 : decode cX6_isSet 20 = .ok (.invokestatic 132, 3) := by decide +kernel
theorem dX6_isSet_23 : decode cX6_isSet 23 = .ok (.ifCond .ne 7, 3) := by decide +kernel
theorem dX6_isSet_26 : decode cX6_isSet 26 = .ok (.iconst 1, 1) := by decide +kernel
theorem dX6_isSet_27 : decode cX6_isSet 27 = .ok (.goto 4, 3) := by decide +kernel
theorem dX6_isSet_30 : decode cX6_isSet 30 = .ok (.iconst 0, 1) := by decide +kernel
theorem dX6_isSet_31 : decode cX6_isSet 31 = .ok (.ireturn, 1) := by decide +kernel
theorem dX6_cheapest_0 : decode cX6_cheapest 0 = .ok (.aload_n 0, 1) := by decide +kernel
theorem dX6_cheapest_1 : decode cX6_cheapest 1 = .ok (.iload_n 1, 1) := by decide +kernel
theorem dX6_cheapest_2 : decode cX6_cheapest 2 = .ok (.invokevirtual 75, 3) := by decide +kernel
theorem dX6_cheapest_5 : decode cX6_cheapest 5 = .ok (.ifCond .eq 22, 3) := by decide +kernel
theorem dX6_cheapest_8 : decode cX6_cheapest 8 = .ok (.aload_n 0, 1) := by decide +kernel
theorem dX6_cheapest_9 : decode cX6_cheapest 9 = .ok (.iload_n 1, 1) := by decide +kernel
theorem dX6_cheapest_10 : decode cX6_cheapest 10 = .ok (.iload_n 2, 1) := by decide +kernel
theorem dX6_cheapest_11 : decode cX6_cheapest 11 = .ok (.invokevirtual 213, 3) := by decide +kernel
theorem dX6_cheapest_14 : decode cX6_cheapest 14 = .ok (.ifCond .eq 13, 3) := by decide +kernel
theorem dX6_cheapest_17 : decode cX6_cheapest 17 = .ok (.iload_n 3, 1) := by decide +kernel
theorem dX6_cheapest_18 : decode cX6_cheapest 18 = .ok (.i2l, 1) := by decide +kernel
theorem dX6_cheapest_19 : decode cX6_cheapest 19 = .ok (.lconst 0, 1) := by decide +kernel
theorem dX6_cheapest_20 : decode cX6_cheapest 20 = .ok (.lconst 1, 1) := by decide +kernel
theorem dX6_cheapest_21 : decode cX6_cheapest 21 = .ok (.invokestatic 71, 3) := by decide +kernel
theorem dX6_cheapest_24 : decode cX6_cheapest 24 = .ok (.ifCond .ne 5, 3) := by decide +kernel
theorem dX6_cheapest_27 : decode cX6_cheapest 27 = .ok (.iconst (-1), 1) := by decide +kernel
theorem dX6_cheapest_28 : decode cX6_cheapest 28 = .ok (.ireturn, 1) := by decide +kernel
theorem dX6_cheapest_29 : decode cX6_cheapest 29 = .ok (.aload_n 0, 1) := by decide +kernel
theorem dX6_cheapest_30 : decode cX6_cheapest 30 = .ok (.iconst 0, 1) := by decide +kernel
theorem dX6_cheapest_31 : decode cX6_cheapest 31 = .ok (.iload_n 1, 1) := by decide +kernel
theorem dX6_cheapest_32 : decode cX6_cheapest 32 = .ok (.invokevirtual 136, 3) := by decide +kernel
theorem dX6_cheapest_35 : decode cX6_cheapest 35 = .ok (.ifCond .ne 6, 3) := by decide +kernel
theorem dX6_cheapest_38 : decode cX6_cheapest 38 = .ok (.bipush (-2), 2) := by decide +kernel
theorem dX6_cheapest_40 : decode cX6_cheapest 40 = .ok (.ireturn, 1) := by decide +kernel
theorem dX6_cheapest_41 : decode cX6_cheapest 41 = .ok (.bipush (-4), 2) := by decide +kernel
theorem dX6_cheapest_43 : decode cX6_cheapest 43 = .ok (.istore 4, 2) := by decide +kernel
theorem dX6_cheapest_45 : decode cX6_cheapest 45 = .ok (.sipush 999, 3) := by decide +kernel
theorem dX6_cheapest_48 : decode cX6_cheapest 48 = .ok (.istore 5, 2) := by decide +kernel
theorem dX6_cheapest_50 : decode cX6_cheapest 50 = .ok (.iconst 0, 1) := by decide +kernel
theorem dX6_cheapest_51 : decode cX6_cheapest 51 = .ok (.istore 6, 2) := by decide +kernel
theorem dX6_cheapest_53 : decode cX6_cheapest 53 = .ok (.iload 6, 2) := by decide +kernel
theorem dX6_cheapest_55 : decode cX6_cheapest 55 = .ok (.bipush 16, 2) := by decide +kernel
theorem dX6_cheapest_57 : decode cX6_cheapest 57 = .ok (.if_icmp .ge 100, 3) := by decide +kernel
theorem dX6_cheapest_60 : decode cX6_cheapest 60 = .ok (.iload 6, 2) := by decide +kernel
theorem dX6_cheapest_62 : decode cX6_cheapest 62 = .ok (.iconst 4, 1) := by decide +kernel
theorem dX6_cheapest_63 : decode cX6_cheapest 63 = .ok (.idiv, 1) := by decide +kernel
theorem dX6_cheapest_64 : decode cX6_cheapest 64 = .ok (.istore 7, 2) := by decide +kernel
theorem dX6_cheapest_66 : decode cX6_cheapest 66 = .ok (.iload 6, 2) := by decide +kernel
theorem dX6_cheapest_68 : decode cX6_cheapest 68 = .ok (.iconst 4, 1) := by decide +kernel
theorem dX6_cheapest_69 : decode cX6_cheapest 69 = .ok (.irem, 1) := by decide +kernel
theorem dX6_cheapest_70 : decode cX6_cheapest 70 = .ok (.istore 8, 2) := by decide +kernel
theorem dX6_cheapest_72 : decode cX6_cheapest 72 = .ok (.iload_n 2, 1) := by decide +kernel
theorem dX6_cheapest_73 : decode cX6_cheapest 73 = .ok (.aload_n 0, 1) := by decide +kernel
theorem dX6_cheapest_74 : decode cX6_cheapest 74 = .ok (.iconst 0, 1) := by decide +kernel
theorem dX6_cheapest_75 : decode cX6_cheapest 75 = .ok (.iload_n 1, 1) := by decide +kernel
theorem dX6_cheapest_76 : decode cX6_cheapest 76 = .ok (.iload 7, 2) := by decide +kernel
theorem dX6_cheapest_78 : decode cX6_cheapest 78 = .ok (.iload 8, 2) := by decide +kernel
theorem dX6_cheapest_80 : decode cX6_cheapest 80 = .ok (.invokevirtual 178, 3) := by decide +kernel
theorem dX6_cheapest_83 : decode cX6_cheapest 83 = .ok (.iconst (-1), 1) := by decide +kernel
theorem dX6_cheapest_84 : decode cX6_cheapest 84 = .ok (.ixor, 1) := by decide +kernel
theorem dX6_cheapest_85 : decode cX6_cheapest 85 = .ok (.iand, 1) := by decide +kernel
theorem dX6_cheapest_86 : decode cX6_cheapest 86 = .ok (.ifCond .ne 21, 3) := by decide +kernel
theorem dX6_cheapest_89 : decode cX6_cheapest 89 = .ok (.iconst 2, 1) := by decide +kernel
theorem dX6_cheapest_90 : decode cX6_cheapest 90 = .ok (.iload 7, 2) := by decide +kernel
theorem dX6_cheapest_92 : decode cX6_cheapest 92 = .ok (.imul, 1) := by decide +kernel
theorem dX6_cheapest_93 : decode cX6_cheapest 93 = .ok (.iconst 3, 1) := by decide +kernel
theorem dX6_cheapest_94 : decode cX6_cheapest 94 = .ok (.iload 8, 2) := by decide +kernel
theorem dX6_cheapest_96 : decode cX6_cheapest 96 = .ok (.imul, 1) := by decide +kernel
theorem dX6_cheapest_97 : decode cX6_cheapest 97 = .ok (.iadd, 1) := by decide +kernel
theorem dX6_cheapest_98 : decode cX6_cheapest 98 = .ok (.iload 5, 2) := by decide +kernel
theorem dX6_cheapest_100 : decode cX6_cheapest 100 = .ok (.if_icmp .ge 7, 3) := by decide +kernel
theorem dX6_cheapest_103 : decode cX6_cheapest 103 = .ok (.iconst 1, 1) := by decide +kernel
theorem dX6_cheapest_104 : decode cX6_cheapest 104 = .ok (.goto 4, 3) := by decide +kernel
theorem dX6_cheapest_107 : decode cX6_cheapest 107 = .ok (.iconst 0, 1) := by decide +kernel
theorem dX6_cheapest_108 : decode cX6_cheapest 108 = .ok (.istore 9, 2) := by decide +kernel
theorem dX6_cheapest_110 : decode cX6_cheapest 110 = .ok (.iload 9, 2) := by decide +kernel
theorem dX6_cheapest_112 : decode cX6_cheapest 112 = .ok (.ifCond .eq 14, 3) := by decide +kernel
theorem dX6_cheapest_115 : decode cX6_cheapest 115 = .ok (.bipush 10, 2) := by decide +kernel
theorem dX6_cheapest_117 : decode cX6_cheapest 117 = .ok (.iload 7, 2) := by decide +kernel
theorem dX6_cheapest_119 : decode cX6_cheapest 119 = .ok (.imul, 1) := by decide +kernel
theorem dX6_cheapest_120 : decode cX6_cheapest 120 = .ok (.iload 8, 2) := by decide +kernel
theorem dX6_cheapest_122 : decode cX6_cheapest 122 = .ok (.iadd, 1) := by decide +kernel
theorem dX6_cheapest_123 : decode cX6_cheapest 123 = .ok (.goto 5, 3) := by decide +kernel
theorem dX6_cheapest_126 : decode cX6_cheapest 126 = .ok (.iload 4, 2) := by decide +kernel
theorem dX6_cheapest_128 : decode cX6_cheapest 128 = .ok (.istore 4, 2) := by decide +kernel
theorem dX6_cheapest_130 : decode cX6_cheapest 130 = .ok (.iload 9, 2) := by decide +kernel
theorem dX6_cheapest_132 : decode cX6_cheapest 132 = .ok (.ifCond .eq 15, 3) := by decide +kernel
theorem dX6_cheapest_135 : decode cX6_cheapest 135 = .ok (.iconst 2, 1) := by decide +kernel
theorem dX6_cheapest_136 : decode cX6_cheapest 136 = .ok (.iload 7, 2) := by decide +kernel
theorem dX6_cheapest_138 : decode cX6_cheapest 138 = .ok (.imul, 1) := by decide +kernel
theorem dX6_cheapest_139 : decode cX6_cheapest 139 = .ok (.iconst 3, 1) := by decide +kernel
theorem dX6_cheapest_140 : decode cX6_cheapest 140 = .ok (.iload 8, 2) := by decide +kernel
theorem dX6_cheapest_142 : decode cX6_cheapest 142 = .ok (.imul, 1) := by decide +kernel
theorem dX6_cheapest_143 : decode cX6_cheapest 143 = .ok (.iadd, 1) := by decide +kernel
theorem dX6_cheapest_144 : decode cX6_cheapest 144 = .ok (.goto 5, 3) := by decide +kernel
theorem dX6_cheapest_147 : decode cX6_cheapest 147 = .ok (.iload 5, 2) := by decide +kernel
theorem dX6_cheapest_149 : decode cX6_cheapest 149 = .ok (.istore 5, 2) := by decide +kernel
theorem dX6_cheapest_151 : decode cX6_cheapest 151 = .ok (.iinc 6 1, 3) := by decide +kernel
theorem dX6_cheapest_154 : decode cX6_cheapest 154 = .ok (.goto (-101), 3) := by decide +kernel
theorem dX6_cheapest_157 : decode cX6_cheapest 157 = .ok (.iload 4, 2) := by decide +kernel
theorem dX6_cheapest_159 : decode cX6_cheapest 159 = .ok (.ifCond .lt 8, 3) := by decide +kernel
theorem dX6_cheapest_162 : decode cX6_cheapest 162 = .ok (.iload_n 3, 1) := by decide +kernel
theorem dX6_cheapest_163 : decode cX6_cheapest 163 = .ok (.iconst 1, 1) := by decide +kernel
theorem dX6_cheapest_164 : decode cX6_cheapest 164 = .ok (.if_icmp .ne 8, 3) := by decide +kernel
theorem dX6_cheapest_167 : decode cX6_cheapest 167 = .ok (.iload 4, 2) := by decide +kernel
theorem dX6_cheapest_169 : decode cX6_cheapest 169 = .ok (.goto 5, 3) := by decide +kernel
theorem dX6_cheapest_172 : decode cX6_cheapest 172 = .ok (.iload 5, 2) := by decide +kernel
theorem dX6_cheapest_174 : decode cX6_cheapest 174 = .ok (.ireturn, 1) := by decide +kernel
theorem dX6_gifts_0 : decode cX6_gifts 0 = .ok (.aload_n 0, 1) := by decide +kernel
theorem dX6_gifts_1 : decode cX6_gifts 1 = .ok (.iload_n 1, 1) := by decide +kernel
theorem dX6_gifts_2 : decode cX6_gifts 2 = .ok (.invokevirtual 75, 3) := by decide +kernel
theorem dX6_gifts_5 : decode cX6_gifts 5 = .ok (.ifCond .eq 21, 3) := by decide +kernel
theorem dX6_gifts_8 : decode cX6_gifts 8 = .ok (.aload_n 0, 1) := by decide +kernel
theorem dX6_gifts_9 : decode cX6_gifts 9 = .ok (.iload_n 1, 1) := by decide +kernel
theorem dX6_gifts_10 : decode cX6_gifts 10 = .ok (.iload_n 2, 1) := by decide +kernel
theorem dX6_gifts_11 : decode cX6_gifts 11 = .ok (.invokevirtual 213, 3) := by decide +kernel
theorem dX6_gifts_14 : decode cX6_gifts 14 = .ok (.ifCond .eq 12, 3) := by decide +kernel
theorem dX6_gifts_17 : decode cX6_gifts 17 = .ok (.iload_n 3, 1) := by decide +kernel
theorem dX6_gifts_18 : decode cX6_gifts 18 = .ok (.iload 4, 2) := by decide +kernel
theorem dX6_gifts_20 : decode cX6_gifts 20 = .ok (.invokestatic 187, 3) := by decide +kernel
theorem dX6_gifts_23 : decode cX6_gifts 23 = .ok (.ifCond .ne 5, 3) := by decide +kernel
theorem dX6_gifts_26 : decode cX6_gifts 26 = .ok (.iconst (-1), 1) := by decide +kernel
theorem dX6_gifts_27 : decode cX6_gifts 27 = .ok (.ireturn, 1) := by decide +kernel
theorem dX6_gifts_28 : decode cX6_gifts 28 = .ok (.aload_n 0, 1) := by decide +kernel
theorem dX6_gifts_29 : decode cX6_gifts 29 = .ok (.iconst 0, 1) := by decide +kernel
theorem dX6_gifts_30 : decode cX6_gifts 30 = .ok (.iload_n 1, 1) := by decide +kernel
theorem dX6_gifts_31 : decode cX6_gifts 31 = .ok (.invokevirtual 136, 3) := by decide +kernel
theorem dX6_gifts_34 : decode cX6_gifts 34 = .ok (.ifCond .ne 6, 3) := by decide +kernel
theorem dX6_gifts_37 : decode cX6_gifts 37 = .ok (.bipush (-2), 2) := by decide +kernel
theorem dX6_gifts_39 : decode cX6_gifts 39 = .ok (.ireturn, 1) := by decide +kernel
theorem dX6_gifts_40 : decode cX6_gifts 40 = .ok (.iconst 0, 1) := by decide +kernel
theorem dX6_gifts_41 : decode cX6_gifts 41 = .ok (.istore 5, 2) := by decide +kernel
theorem dX6_gifts_43 : decode cX6_gifts 43 = .ok (.iconst 0, 1) := by decide +kernel
theorem dX6_gifts_44 : decode cX6_gifts 44 = .ok (.istore 6, 2) := by decide +kernel
theorem dX6_gifts_46 : decode cX6_gifts 46 = .ok (.iload 6, 2) := by decide +kernel
theorem dX6_gifts_48 : decode cX6_gifts 48 = .ok (.aload_n 0, 1) := by decide +kernel
theorem dX6_gifts_49 : decode cX6_gifts 49 = .ok (.getfield 65, 3) := by decide +kernel
theorem dX6_gifts_52 : decode cX6_gifts 52 = .ok (.if_icmp .ge 115, 3) := by decide +kernel
theorem dX6_gifts_55 : decode cX6_gifts 55 = .ok (.iload 5, 2) := by decide +kernel
end
section
theorem dX6_gifts_57 : decode cX6_gifts 57 = .ok (.ifCond .lt 110, 3) := by decide +kernel
theorem dX6_gifts_60 : decode cX6_gifts 60 = .ok (.iload_n 2, 1) := by decide +kernel
theorem dX6_gifts_61 : decode cX6_gifts 61 = .ok (.iload 6, 2) := by decide +kernel
theorem dX6_gifts_63 : decode cX6_gifts 63 = .ok (.invokestatic 132, 3) := by decide +kernel
theorem dX6_gifts_66 : decode cX6_gifts 66 = .ok (.ifCond .eq 95, 3) := by decide +kernel
theorem dX6_gifts_69 : decode cX6_gifts 69 = .ok (.aload_n 0, 1) := by decide +kernel
theorem dX6_gifts_70 : decode cX6_gifts 70 = .ok (.getfield 22, 3) := by decide +kernel
theorem dX6_gifts_73 : decode cX6_gifts 73 = .ok (.bipush 10, 2) := by decide +kernel
theorem dX6_gifts_75 : decode cX6_gifts 75 = .ok (.bipush 6, 2) := by decide +kernel
theorem dX6_gifts_77 : decode cX6_gifts 77 = .ok (.iload 6, 2) := by decide +kernel
theorem dX6_gifts_79 : decode cX6_gifts 79 = .ok (.imul, 1) := by decide +kernel
theorem dX6_gifts_80 : decode cX6_gifts 80 = .ok (.iadd, 1) := by decide +kernel
theorem dX6_gifts_81 : decode cX6_gifts 81 = .ok (.iload_n 1, 1) := by decide +kernel
theorem dX6_gifts_82 : decode cX6_gifts 82 = .ok (.iadd, 1) := by decide +kernel
theorem dX6_gifts_83 : decode cX6_gifts 83 = .ok (.iaload, 1) := by decide +kernel
theorem dX6_gifts_84 : decode cX6_gifts 84 = .ok (.istore 7, 2) := by decide +kernel
theorem dX6_gifts_86 : decode cX6_gifts 86 = .ok (.iconst 0, 1) := by decide +kernel
theorem dX6_gifts_87 : decode cX6_gifts 87 = .ok (.istore 8, 2) := by decide +kernel
theorem dX6_gifts_89 : decode cX6_gifts 89 = .ok (.iload 7, 2) := by decide +kernel
theorem dX6_gifts_91 : decode cX6_gifts 91 = .ok (.iload 8, 2) := by decide +kernel
theorem dX6_gifts_93 : decode cX6_gifts 93 = .ok (.iadd, 1) := by decide +kernel
theorem dX6_gifts_94 : decode cX6_gifts 94 = .ok (.iconst 5, 1) := by decide +kernel
theorem dX6_gifts_95 : decode cX6_gifts 95 = .ok (.if_icmp .gt 35, 3) := by decide +kernel
theorem dX6_gifts_98 : decode cX6_gifts 98 = .ok (.aload_n 0, 1) := by decide +kernel
theorem dX6_gifts_99 : decode cX6_gifts 99 = .ok (.iconst 0, 1) := by decide +kernel
theorem dX6_gifts_100 : decode cX6_gifts 100 = .ok (.iload 6, 2) := by decide +kernel
theorem dX6_gifts_102 : decode cX6_gifts 102 = .ok (.iload_n 1, 1) := by decide +kernel
theorem dX6_gifts_103 : decode cX6_gifts 103 = .ok (.aload_n 0, 1) := by decide +kernel
theorem dX6_gifts_104 : decode cX6_gifts 104 = .ok (.getfield 7, 3) := by decide +kernel
theorem dX6_gifts_107 : decode cX6_gifts 107 = .ok (.iload 6, 2) := by decide +kernel
theorem dX6_gifts_109 : decode cX6_gifts 109 = .ok (.iaload, 1) := by decide +kernel
theorem dX6_gifts_110 : decode cX6_gifts 110 = .ok (.iload 7, 2) := by decide +kernel
theorem dX6_gifts_112 : decode cX6_gifts 112 = .ok (.iload 8, 2) := by decide +kernel
theorem dX6_gifts_114 : decode cX6_gifts 114 = .ok (.iadd, 1) := by decide +kernel
theorem dX6_gifts_115 : decode cX6_gifts 115 = .ok (.iload_n 3, 1) := by decide +kernel
theorem dX6_gifts_116 : decode cX6_gifts 116 = .ok (.iload 4, 2) := by decide +kernel
theorem dX6_gifts_118 : decode cX6_gifts 118 = .ok (.invokevirtual 150, 3) := by decide +kernel
theorem dX6_gifts_121 : decode cX6_gifts 121 = .ok (.ifCond .ne 9, 3) := by decide +kernel
theorem dX6_gifts_124 : decode cX6_gifts 124 = .ok (.iinc 8 1, 3) := by decide +kernel
theorem dX6_gifts_127 : decode cX6_gifts 127 = .ok (.goto (-38), 3) := by decide +kernel
theorem dX6_gifts_130 : decode cX6_gifts 130 = .ok (.iload 7, 2) := by decide +kernel
theorem dX6_gifts_132 : decode cX6_gifts 132 = .ok (.iload 8, 2) := by decide +kernel
theorem dX6_gifts_134 : decode cX6_gifts 134 = .ok (.iadd, 1) := by decide +kernel
theorem dX6_gifts_135 : decode cX6_gifts 135 = .ok (.iconst 5, 1) := by decide +kernel
theorem dX6_gifts_136 : decode cX6_gifts 136 = .ok (.if_icmp .gt 13, 3) := by decide +kernel
theorem dX6_gifts_139 : decode cX6_gifts 139 = .ok (.aload_n 0, 1) := by decide +kernel
theorem dX6_gifts_140 : decode cX6_gifts 140 = .ok (.iconst 0, 1) := by decide +kernel
theorem dX6_gifts_141 : decode cX6_gifts 141 = .ok (.iload 6, 2) := by decide +kernel
theorem dX6_gifts_143 : decode cX6_gifts 143 = .ok (.invokevirtual 136, 3) := by decide +kernel
theorem dX6_gifts_146 : decode cX6_gifts 146 = .ok (.ifCond .ne 8, 3) := by decide +kernel
theorem dX6_gifts_149 : decode cX6_gifts 149 = .ok (.bipush (-4), 2) := by decide +kernel
theorem dX6_gifts_151 : decode cX6_gifts 151 = .ok (.goto 8, 3) := by decide +kernel
theorem dX6_gifts_154 : decode cX6_gifts 154 = .ok (.iload 5, 2) := by decide +kernel
theorem dX6_gifts_156 : decode cX6_gifts 156 = .ok (.iload 8, 2) := by decide +kernel
theorem dX6_gifts_158 : decode cX6_gifts 158 = .ok (.iadd, 1) := by decide +kernel
theorem dX6_gifts_159 : decode cX6_gifts 159 = .ok (.istore 5, 2) := by decide +kernel
theorem dX6_gifts_161 : decode cX6_gifts 161 = .ok (.iinc 6 1, 3) := by decide +kernel
theorem dX6_gifts_164 : decode cX6_gifts 164 = .ok (.goto (-118), 3) := by decide +kernel
theorem dX6_gifts_167 : decode cX6_gifts 167 = .ok (.iload 5, 2) := by decide +kernel
theorem dX6_gifts_169 : decode cX6_gifts 169 = .ok (.ireturn, 1) := by decide +kernel
theorem dX6_lists_0 : decode cX6_lists 0 = .ok (.aload_n 0, 1) := by decide +kernel
theorem dX6_lists_1 : decode cX6_lists 1 = .ok (.iconst 0, 1) := by decide +kernel
theorem dX6_lists_2 : decode cX6_lists 2 = .ok (.putfield 216, 3) := by decide +kernel
theorem dX6_lists_5 : decode cX6_lists 5 = .ok (.iconst 0, 1) := by decide +kernel
theorem dX6_lists_6 : decode cX6_lists 6 = .ok (.istore_n 1, 1) := by decide +kernel
theorem dX6_lists_7 : decode cX6_lists 7 = .ok (.iload_n 1, 1) := by decide +kernel
theorem dX6_lists_8 : decode cX6_lists 8 = .ok (.aload_n 0, 1) := by decide +kernel
theorem dX6_lists_9 : decode cX6_lists 9 = .ok (.getfield 65, 3) := by decide +kernel
theorem dX6_lists_12 : decode cX6_lists 12 = .ok (.if_icmp .ge 38, 3) := by decide +kernel
theorem dX6_lists_15 : decode cX6_lists 15 = .ok (.aload_n 0, 1) := by decide +kernel
theorem dX6_lists_16 : decode cX6_lists 16 = .ok (.iconst 0, 1) := by decide +kernel
theorem dX6_lists_17 : decode cX6_lists 17 = .ok (.iload_n 1, 1) := by decide +kernel
theorem dX6_lists_18 : decode cX6_lists 18 = .ok (.invokevirtual 175, 3) := by decide +kernel
theorem dX6_lists_21 : decode cX6_lists 21 = .ok (.ifCond .eq 23, 3) := by decide +kernel
theorem dX6_lists_24 : decode cX6_lists 24 = .ok (.aload_n 0, 1) := by decide +kernel
theorem dX6_lists_25 : decode cX6_lists 25 = .ok (.getfield 45, 3) := by decide +kernel
theorem dX6_lists_28 : decode cX6_lists 28 = .ok (.aload_n 0, 1) := by decide +kernel
theorem dX6_lists_29 : decode cX6_lists 29 = .ok (.getfield 216, 3) := by decide +kernel
theorem dX6_lists_32 : decode cX6_lists 32 = .ok (.iload_n 1, 1) := by decide +kernel
theorem dX6_lists_33 : decode cX6_lists 33 = .ok (.iastore, 1) := by decide +kernel
theorem dX6_lists_34 : decode cX6_lists 34 = .ok (.aload_n 0, 1) := by decide +kernel
theorem dX6_lists_35 : decode cX6_lists 35 = .ok (.dup, 1) := by decide +kernel
theorem dX6_lists_36 : decode cX6_lists 36 = .ok (.getfield 216, 3) := by decide +kernel
theorem dX6_lists_39 : decode cX6_lists 39 = .ok (.iconst 1, 1) := by decide +kernel
theorem dX6_lists_40 : decode cX6_lists 40 = .ok (.iadd, 1) := by decide +kernel
theorem dX6_lists_41 : decode cX6_lists 41 = .ok (.putfield 216, 3) := by decide +kernel
theorem dX6_lists_44 : decode cX6_lists 44 = .ok (.iinc 1 1, 3) := by decide +kernel
theorem dX6_lists_47 : decode cX6_lists 47 = .ok (.goto (-40), 3) := by decide +kernel
theorem dX6_lists_50 : decode cX6_lists 50 = .ok (.return_, 1) := by decide +kernel
theorem dX6_swaps_0 : decode cX6_swaps 0 = .ok (.aload_n 0, 1) := by decide +kernel
theorem dX6_swaps_1 : decode cX6_swaps 1 = .ok (.getfield 45, 3) := by decide +kernel
theorem dX6_swaps_4 : decode cX6_swaps 4 = .ok (.iload_n 1, 1) := by decide +kernel
theorem dX6_swaps_5 : decode cX6_swaps 5 = .ok (.iaload, 1) := by decide +kernel
theorem dX6_swaps_6 : decode cX6_swaps 6 = .ok (.istore_n 3, 1) := by decide +kernel
theorem dX6_swaps_7 : decode cX6_swaps 7 = .ok (.aload_n 0, 1) := by decide +kernel
theorem dX6_swaps_8 : decode cX6_swaps 8 = .ok (.getfield 45, 3) := by decide +kernel
theorem dX6_swaps_11 : decode cX6_swaps 11 = .ok (.iload_n 1, 1) := by decide +kernel
theorem dX6_swaps_12 : decode cX6_swaps 12 = .ok (.aload_n 0, 1) := by decide +kernel
theorem dX6_swaps_13 : decode cX6_swaps 13 = .ok (.getfield 45, 3) := by decide +kernel
theorem dX6_swaps_16 : decode cX6_swaps 16 = .ok (.iload_n 2, 1) := by decide +kernel
theorem dX6_swaps_17 : decode cX6_swaps 17 = .ok (.iaload, 1) := by decide +kernel
theorem dX6_swaps_18 : decode cX6_swaps 18 = .ok (.iastore, 1) := by decide +kernel
theorem dX6_swaps_19 : decode cX6_swaps 19 = .ok (.aload_n 0, 1) := by decide +kernel
theorem dX6_swaps_20 : decode cX6_swaps 20 = .ok (.getfield 45, 3) := by decide +kernel
theorem dX6_swaps_23 : decode cX6_swaps 23 = .ok (.iload_n 2, 1) := by decide +kernel
theorem dX6_swaps_24 : decode cX6_swaps 24 = .ok (.iload_n 3, 1) := by decide +kernel
theorem dX6_swaps_25 : decode cX6_swaps 25 = .ok (.iastore, 1) := by decide +kernel
theorem dX6_swaps_26 : decode cX6_swaps 26 = .ok (.return_, 1) := by decide +kernel
theorem dX6_goesOn_0 : decode cX6_goesOn 0 = .ok (.aload_n 0, 1) := by decide +kernel
theorem dX6_goesOn_1 : decode cX6_goesOn 1 = .ok (.getfield 216, 3) := by decide +kernel
theorem dX6_goesOn_4 : decode cX6_goesOn 4 = .ok (.iconst 2, 1) := by decide +kernel
theorem dX6_goesOn_5 : decode cX6_goesOn 5 = .ok (.isub, 1) := by decide +kernel
theorem dX6_goesOn_6 : decode cX6_goesOn 6 = .ok (.istore_n 1, 1) := by decide +kernel
theorem dX6_goesOn_7 : decode cX6_goesOn 7 = .ok (.iload_n 1, 1) := by decide +kernel
theorem dX6_goesOn_8 : decode cX6_goesOn 8 = .ok (.ifCond .lt 26, 3) := by decide +kernel
theorem dX6_goesOn_11 : decode cX6_goesOn 11 = .ok (.aload_n 0, 1) := by decide +kernel
theorem dX6_goesOn_12 : decode cX6_goesOn 12 = .ok (.getfield 45, 3) := by decide +kernel
theorem dX6_goesOn_15 : decode cX6_goesOn 15 = .ok (.iload_n 1, 1) := by decide +kernel
theorem dX6_goesOn_16 : decode cX6_goesOn 16 = .ok (.iaload, 1) := by decide +kernel
theorem dX6_goesOn_17 : decode cX6_goesOn 17 = .ok (.aload_n 0, 1) := by decide +kernel
theorem dX6_goesOn_18 : decode cX6_goesOn 18 = .ok (.getfield 45, 3) := by decide +kernel
theorem dX6_goesOn_21 : decode cX6_goesOn 21 = .ok (.iload_n 1, 1) := by decide +kernel
theorem dX6_goesOn_22 : decode cX6_goesOn 22 = .ok (.iconst 1, 1) := by decide +kernel
theorem dX6_goesOn_23 : decode cX6_goesOn 23 = .ok (.iadd, 1) := by decide +kernel
theorem dX6_goesOn_24 : decode cX6_goesOn 24 = .ok (.iaload, 1) := by decide +kernel
theorem dX6_goesOn_25 : decode cX6_goesOn 25 = .ok (.if_icmp .le 9, 3) := by decide +kernel
theorem dX6_goesOn_28 : decode cX6_goesOn 28 = .ok (.iinc 1 (-1), 3) := by decide +kernel
theorem dX6_goesOn_31 : decode cX6_goesOn 31 = .ok (.goto (-24), 3) := by decide +kernel
theorem dX6_goesOn_34 : decode cX6_goesOn 34 = .ok (.iload_n 1, 1) := by decide +kernel
theorem dX6_goesOn_35 : decode cX6_goesOn 35 = .ok (.ifCond .ge 5, 3) := by decide +kernel
theorem dX6_goesOn_38 : decode cX6_goesOn 38 = .ok (.iconst 0, 1) := by decide +kernel
theorem dX6_goesOn_39 : decode cX6_goesOn 39 = .ok (.ireturn, 1) := by decide +kernel
theorem dX6_goesOn_40 : decode cX6_goesOn 40 = .ok (.aload_n 0, 1) := by decide +kernel
theorem dX6_goesOn_41 : decode cX6_goesOn 41 = .ok (.getfield 216, 3) := by decide +kernel
theorem dX6_goesOn_44 : decode cX6_goesOn 44 = .ok (.iconst 1, 1) := by decide +kernel
theorem dX6_goesOn_45 : decode cX6_goesOn 45 = .ok (.isub, 1) := by decide +kernel
theorem dX6_goesOn_46 : decode cX6_goesOn 46 = .ok (.istore_n 2, 1) := by decide +kernel
theorem dX6_goesOn_47 : decode cX6_goesOn 47 = .ok (.aload_n 0, 1) := by decide +kernel
theorem dX6_goesOn_48 : decode cX6_goesOn 48 = .ok (.getfield 45, 3) := by decide +kernel
theorem dX6_goesOn_51 : decode cX6_goesOn 51 = .ok (.iload_n 2, 1) := by decide +kernel
theorem dX6_goesOn_52 : decode cX6_goesOn 52 = .ok (.iaload, 1) := by decide +kernel
theorem dX6_goesOn_53 : decode cX6_goesOn 53 = .ok (.aload_n 0, 1) := by decide +kernel
theorem dX6_goesOn_54 : decode cX6_goesOn 54 = .ok (.getfield 45, 3) := by decide +kernel
theorem dX6_goesOn_57 : decode cX6_goesOn 57 = .ok (.iload_n 1, 1) := by decide +kernel
theorem dX6_goesOn_58 : decode cX6_goesOn 58 = .ok (.iaload, 1) := by decide +kernel
theorem dX6_goesOn_59 : decode cX6_goesOn 59 = .ok (.if_icmp .ge 9, 3) := by decide +kernel
theorem dX6_goesOn_62 : decode cX6_goesOn 62 = .ok (.iinc 2 (-1), 3) := by decide +kernel
theorem dX6_goesOn_65 : decode cX6_goesOn 65 = .ok (.goto (-18), 3) := by decide +kernel
theorem dX6_goesOn_68 : decode cX6_goesOn 68 = .ok (.aload_n 0, 1) := by decide +kernel
theorem dX6_goesOn_69 : decode cX6_goesOn 69 = .ok (.iload_n 1, 1) := by decide +kernel
theorem dX6_goesOn_70 : decode cX6_goesOn 70 = .ok (.iload_n 2, 1) := by decide +kernel
theorem dX6_goesOn_71 : decode cX6_goesOn 71 = .ok (.invokevirtual 219, 3) := by decide +kernel
theorem dX6_goesOn_74 : decode cX6_goesOn 74 = .ok (.iload_n 1, 1) := by decide +kernel
theorem dX6_goesOn_75 : decode cX6_goesOn 75 = .ok (.iconst 1, 1) := by decide +kernel
theorem dX6_goesOn_76 : decode cX6_goesOn 76 = .ok (.iadd, 1) := by decide +kernel
theorem dX6_goesOn_77 : decode cX6_goesOn 77 = .ok (.istore_n 3, 1) := by decide +kernel
theorem dX6_goesOn_78 : decode cX6_goesOn 78 = .ok (.aload_n 0, 1) := by decide +kernel
theorem dX6_goesOn_79 : decode cX6_goesOn 79 = .ok (.getfield 216, 3) := by decide +kernel
theorem dX6_goesOn_82 : decode cX6_goesOn 82 = .ok (.iconst 1, 1) := by decide +kernel
theorem dX6_goesOn_83 : decode cX6_goesOn 83 = .ok (.isub, 1) := by decide +kernel
theorem dX6_goesOn_84 : decode cX6_goesOn 84 = .ok (.istore 4, 2) := by decide +kernel
theorem dX6_goesOn_86 : decode cX6_goesOn 86 = .ok (.iload_n 3, 1) := by decide +kernel
theorem dX6_goesOn_87 : decode cX6_goesOn 87 = .ok (.iload 4, 2) := by decide +kernel
theorem dX6_goesOn_89 : decode cX6_goesOn 89 = .ok (.if_icmp .ge 19, 3) := by decide +kernel
theorem dX6_goesOn_92 : decode cX6_goesOn 92 = .ok (.aload_n 0, 1) := by decide +kernel
theorem dX6_goesOn_93 : decode cX6_goesOn 93 = .ok (.iload_n 3, 1) := by decide +kernel
theorem dX6_goesOn_94 : decode cX6_goesOn 94 = .ok (.iload 4, 2) := by decide +kernel
theorem dX6_goesOn_96 : decode cX6_goesOn 96 = .ok (.invokevirtual 219, 3) := by decide +kernel
theorem dX6_goesOn_99 : decode cX6_goesOn 99 = .ok (.iinc 3 1, 3) := by decide +kernel
theorem dX6_goesOn_102 : decode cX6_goesOn 102 = .ok (.iinc 4 (-1), 3) := by decide +kernel
theorem dX6_goesOn_105 : decode cX6_goesOn 105 = .ok (.goto (-19), 3) := by decide +kernel
theorem dX6_goesOn_108 : decode cX6_goesOn 108 = .ok (.iconst 1, 1) := by decide +kernel
theorem dX6_goesOn_109 : decode cX6_goesOn 109 = .ok (.ireturn, 1) := by decide +kernel
theorem dX6_order_0 : decode cX6_order 0 = .ok (.iload_n 1, 1) := by decide +kernel
theorem dX6_order_1 : decode cX6_order 1 = .ok (.iload_n 2, 1) := by decide +kernel
theorem dX6_order_2 : decode cX6_order 2 = .ok (.invokestatic 187, 3) := by decide +kernel
theorem dX6_order_5 : decode cX6_order 5 = .ok (.ifCond .eq 15, 3) := by decide +kernel
theorem dX6_order_8 : decode cX6_order 8 = .ok (.iload_n 3, 1) := by decide +kernel
theorem dX6_order_9 : decode cX6_order 9 = .ok (.i2l, 1) := by decide +kernel
theorem dX6_order_10 : decode cX6_order 10 = .ok (.lconst 0, 1) := by decide +kernel
theorem dX6_order_11 : decode cX6_order 11 = .ok (.ldc2_w 222, 3) := by decide +kernel
theorem dX6_order_14 : decode cX6_order 14 = .ok (.invokestatic 71, 3) := by decide +kernel
theorem dX6_order_17 : decode cX6_order 17 = .ok (.ifCond .ne 5, 3) := by decide +kernel
theorem dX6_order_20 : decode cX6_order 20 = .ok (.iconst (-1), 1) := by decide +kernel
theorem dX6_order_21 : decode cX6_order 21 = .ok (.ireturn, 1) := by decide +kernel
theorem dX6_order_22 : decode cX6_order 22 = .ok (.aload_n 0, 1) := by decide +kernel
theorem dX6_order_23 : decode cX6_order 23 = .ok (.invokevirtual 224, 3) := by decide +kernel
theorem dX6_order_26 : decode cX6_order 26 = .ok (.iconst (-1), 1) := by decide +kernel
theorem dX6_order_27 : decode cX6_order 27 = .ok (.istore 4, 2) := by decide +kernel
theorem dX6_order_29 : decode cX6_order 29 = .ok (.iconst 1, 1) := by decide +kernel
theorem dX6_order_30 : decode cX6_order 30 = .ok (.istore 5, 2) := by decide +kernel
theorem dX6_order_32 : decode cX6_order 32 = .ok (.iload 5, 2) := by decide +kernel
theorem dX6_order_34 : decode cX6_order 34 = .ok (.ifCond .eq 131, 3) := by decide +kernel
theorem dX6_order_37 : decode cX6_order 37 = .ok (.aload_n 0, 1) := by decide +kernel
theorem dX6_order_38 : decode cX6_order 38 = .ok (.iconst 0, 1) := by decide +kernel
theorem dX6_order_39 : decode cX6_order 39 = .ok (.sipush 902, 3) := by decide +kernel
theorem dX6_order_42 : decode cX6_order 42 = .ok (.invokevirtual 119, 3) := by decide +kernel
theorem dX6_order_45 : decode cX6_order 45 = .ok (.iconst 0, 1) := by decide +kernel
theorem dX6_order_46 : decode cX6_order 46 = .ok (.istore 6, 2) := by decide +kernel
theorem dX6_order_48 : decode cX6_order 48 = .ok (.iconst 0, 1) := by decide +kernel
theorem dX6_order_49 : decode cX6_order 49 = .ok (.istore 7, 2) := by decide +kernel
theorem dX6_order_51 : decode cX6_order 51 = .ok (.iload 7, 2) := by decide +kernel
theorem dX6_order_53 : decode cX6_order 53 = .ok (.aload_n 0, 1) := by decide +kernel
theorem dX6_order_54 : decode cX6_order 54 = .ok (.getfield 216, 3) := by decide +kernel
theorem dX6_order_57 : decode cX6_order 57 = .ok (.if_icmp .ge 56, 3) := by decide +kernel
theorem dX6_order_60 : decode cX6_order 60 = .ok (.iload 6, 2) := by decide +kernel
theorem dX6_order_62 : decode cX6_order 62 = .ok (.aload_n 0, 1) := by decide +kernel
theorem dX6_order_63 : decode cX6_order 63 = .ok (.sipush 902, 3) := by decide +kernel
theorem dX6_order_66 : decode cX6_order 66 = .ok (.aload_n 0, 1) := by decide +kernel
theorem dX6_order_67 : decode cX6_order 67 = .ok (.getfield 45, 3) := by decide +kernel
theorem dX6_order_70 : decode cX6_order 70 = .ok (.iload 7, 2) := by decide +kernel
theorem dX6_order_72 : decode cX6_order 72 = .ok (.iaload, 1) := by decide +kernel
theorem dX6_order_73 : decode cX6_order 73 = .ok (.iload_n 1, 1) := by decide +kernel
theorem dX6_order_74 : decode cX6_order 74 = .ok (.iload_n 2, 1) := by decide +kernel
theorem dX6_order_75 : decode cX6_order 75 = .ok (.invokevirtual 190, 3) := by decide +kernel
theorem dX6_order_78 : decode cX6_order 78 = .ok (.ifCond .eq 25, 3) := by decide +kernel
theorem dX6_order_81 : decode cX6_order 81 = .ok (.aload_n 0, 1) := by decide +kernel
theorem dX6_order_82 : decode cX6_order 82 = .ok (.sipush 902, 3) := by decide +kernel
theorem dX6_order_85 : decode cX6_order 85 = .ok (.aload_n 0, 1) := by decide +kernel
theorem dX6_order_86 : decode cX6_order 86 = .ok (.getfield 45, 3) := by decide +kernel
theorem dX6_order_89 : decode cX6_order 89 = .ok (.iload 7, 2) := by decide +kernel
theorem dX6_order_91 : decode cX6_order 91 = .ok (.iaload, 1) := by decide +kernel
theorem dX6_order_92 : decode cX6_order 92 = .ok (.iload_n 1, 1) := by decide +kernel
theorem dX6_order_93 : decode cX6_order 93 = .ok (.iload_n 2, 1) := by decide +kernel
theorem dX6_order_94 : decode cX6_order 94 = .ok (.invokevirtual 197, 3) := by decide +kernel
theorem dX6_order_97 : decode cX6_order 97 = .ok (.invokestatic 209, 3) := by decide +kernel
theorem dX6_order_100 : decode cX6_order 100 = .ok (.goto 4, 3) := by decide +kernel
theorem dX6_order_103 : decode cX6_order 103 = .ok (.iconst 0, 1) := by decide +kernel
theorem dX6_order_104 : decode cX6_order 104 = .ok (.iadd, 1) := by decide +kernel
theorem dX6_order_105 : decode cX6_order 105 = .ok (.istore 6, 2) := by decide +kernel
theorem dX6_order_107 : decode cX6_order 107 = .ok (.iinc 7 1, 3) := by decide +kernel
theorem dX6_order_110 : decode cX6_order 110 = .ok (.goto (-59), 3) := by decide +kernel
theorem dX6_order_113 : decode cX6_order 113 = .ok (.iload 6, 2) := by decide +kernel
theorem dX6_order_115 : decode cX6_order 115 = .ok (.iload 4, 2) := by decide +kernel
theorem dX6_order_117 : decode cX6_order 117 = .ok (.if_icmp .le 39, 3) := by decide +kernel
theorem dX6_order_120 : decode cX6_order 120 = .ok (.iload 6, 2) := by decide +kernel
theorem dX6_order_122 : decode cX6_order 122 = .ok (.istore 4, 2) := by decide +kernel
theorem dX6_order_124 : decode cX6_order 124 = .ok (.iconst 0, 1) := by decide +kernel
theorem dX6_order_125 : decode cX6_order 125 = .ok (.istore 7, 2) := by decide +kernel
theorem dX6_order_127 : decode cX6_order 127 = .ok (.iload 7, 2) := by decide +kernel
theorem dX6_order_129 : decode cX6_order 129 = .ok (.aload_n 0, 1) := by decide +kernel
theorem dX6_order_130 : decode cX6_order 130 = .ok (.getfield 216, 3) := by decide +kernel
theorem dX6_order_133 : decode cX6_order 133 = .ok (.if_icmp .ge 23, 3) := by decide +kernel
theorem dX6_order_136 : decode cX6_order 136 = .ok (.aload_n 0, 1) := by decide +kernel
theorem dX6_order_137 : decode cX6_order 137 = .ok (.getfield 48, 3) := by decide +kernel
theorem dX6_order_140 : decode cX6_order 140 = .ok (.iload 7, 2) := by decide +kernel
theorem dX6_order_142 : decode cX6_order 142 = .ok (.aload_n 0, 1) := by decide +kernel
theorem dX6_order_143 : decode cX6_order 143 = .ok (.getfield 45, 3) := by decide +kernel
theorem dX6_order_146 : decode cX6_order 146 = .ok (.iload 7, 2) := by decide +kernel
theorem dX6_order_148 : decode cX6_order 148 = .ok (.iaload, 1) := by decide +kernel
theorem dX6_order_149 : decode cX6_order 149 = .ok (.iastore, 1) := by decide +kernel
theorem dX6_order_150 : decode cX6_order 150 = .ok (.iinc 7 1, 3) := by decide +kernel
theorem dX6_order_153 : decode cX6_order 153 = .ok (.goto (-26), 3) := by decide +kernel
theorem dX6_order_156 : decode cX6_order 156 = .ok (.aload_n 0, 1) := by decide +kernel
theorem dX6_order_157 : decode cX6_order 157 = .ok (.invokevirtual 227, 3) := by decide +kernel
theorem dX6_order_160 : decode cX6_order 160 = .ok (.istore 5, 2) := by decide +kernel
theorem dX6_order_162 : decode cX6_order 162 = .ok (.goto (-130), 3) := by decide +kernel
theorem dX6_order_165 : decode cX6_order 165 = .ok (.iload_n 3, 1) := by decide +kernel
theorem dX6_order_166 : decode cX6_order 166 = .ok (.ifCond .ne 8, 3) := by decide +kernel
theorem dX6_order_169 : decode cX6_order 169 = .ok (.iload 4, 2) := by decide +kernel
theorem dX6_order_171 : decode cX6_order 171 = .ok (.goto 24, 3) := by decide +kernel
theorem dX6_order_174 : decode cX6_order 174 = .ok (.iload_n 3, 1) := by decide +kernel
theorem dX6_order_175 : decode cX6_order 175 = .ok (.aload_n 0, 1) := by decide +kernel
theorem dX6_order_176 : decode cX6_order 176 = .ok (.getfield 216, 3) := by decide +kernel
theorem dX6_order_179 : decode cX6_order 179 = .ok (.if_icmp .le 8, 3) := by decide +kernel
theorem dX6_order_182 : decode cX6_order 182 = .ok (.bipush (-4), 2) := by decide +kernel
theorem dX6_order_184 : decode cX6_order 184 = .ok (.goto 11, 3) := by decide +kernel
theorem dX6_order_187 : decode cX6_order 187 = .ok (.aload_n 0, 1) := by decide +kernel
theorem dX6_order_188 : decode cX6_order 188 = .ok (.getfield 48, 3) := by decide +kernel
theorem dX6_order_191 : decode cX6_order 191 = .ok (.iload_n 3, 1) := by decide +kernel
theorem dX6_order_192 : decode cX6_order 192 = .ok (.iconst 1, 1) := by decide +kernel
theorem dX6_order_193 : decode cX6_order 193 = .ok (.isub, 1) := by decide +kernel
theorem dX6_order_194 : decode cX6_order 194 = .ok (.iaload, 1) := by decide +kernel
theorem dX6_order_195 : decode cX6_order 195 = .ok (.ireturn, 1) := by decide +kernel
theorem dX6_worth_0 : decode cX6_worth 0 = .ok (.aload_n 0, 1) := by decide +kernel
theorem dX6_worth_1 : decode cX6_worth 1 = .ok (.iconst 0, 1) := by decide +kernel
theorem dX6_worth_2 : decode cX6_worth 2 = .ok (.sipush 902, 3) := by decide +kernel
theorem dX6_worth_5 : decode cX6_worth 5 = .ok (.invokevirtual 119, 3) := by decide +kernel
theorem dX6_worth_8 : decode cX6_worth 8 = .ok (.aload_n 0, 1) := by decide +kernel
theorem dX6_worth_9 : decode cX6_worth 9 = .ok (.sipush 902, 3) := by decide +kernel
theorem dX6_worth_12 : decode cX6_worth 12 = .ok (.iload_n 1, 1) := by decide +kernel
theorem dX6_worth_13 : decode cX6_worth 13 = .ok (.iload_n 2, 1) := by decide +kernel
theorem dX6_worth_14 : decode cX6_worth 14 = .ok (.iload_n 3, 1) := by decide +kernel
theorem dX6_worth_15 : decode cX6_worth 15 = .ok (.iconst 2, 1) := by decide +kernel
theorem dX6_worth_16 : decode cX6_worth 16 = .ok (.irem, 1) := by decide +kernel
theorem dX6_worth_17 : decode cX6_worth 17 = .ok (.iconst 1, 1) := by decide +kernel
theorem dX6_worth_18 : decode cX6_worth 18 = .ok (.if_icmp .ne 7, 3) := by decide +kernel
theorem dX6_worth_21 : decode cX6_worth 21 = .ok (.iconst 1, 1) := by decide +kernel
theorem dX6_worth_22 : decode cX6_worth 22 = .ok (.goto 4, 3) := by decide +kernel
theorem dX6_worth_25 : decode cX6_worth 25 = .ok (.iconst 0, 1) := by decide +kernel
theorem dX6_worth_26 : decode cX6_worth 26 = .ok (.invokevirtual 181, 3) := by decide +kernel
theorem dX6_worth_29 : decode cX6_worth 29 = .ok (.aload_n 0, 1) := by decide +kernel
theorem dX6_worth_30 : decode cX6_worth 30 = .ok (.sipush 902, 3) := by decide +kernel
theorem dX6_worth_33 : decode cX6_worth 33 = .ok (.iload_n 2, 1) := by decide +kernel
theorem dX6_worth_34 : decode cX6_worth 34 = .ok (.iload_n 1, 1) := by decide +kernel
theorem dX6_worth_35 : decode cX6_worth 35 = .ok (.iload_n 3, 1) := by decide +kernel
theorem dX6_worth_36 : decode cX6_worth 36 = .ok (.iconst 2, 1) := by decide +kernel
theorem dX6_worth_37 : decode cX6_worth 37 = .ok (.idiv, 1) := by decide +kernel
theorem dX6_worth_38 : decode cX6_worth 38 = .ok (.iconst 1, 1) := by decide +kernel
theorem dX6_worth_39 : decode cX6_worth 39 = .ok (.if_icmp .ne 7, 3) := by decide +kernel
theorem dX6_worth_42 : decode cX6_worth 42 = .ok (.iconst 1, 1) := by decide +kernel
theorem dX6_worth_43 : decode cX6_worth 43 = .ok (.goto 4, 3) := by decide +kernel
theorem dX6_worth_46 : decode cX6_worth 46 = .ok (.iconst 0, 1) := by decide +kernel
theorem dX6_worth_47 : decode cX6_worth 47 = .ok (.invokevirtual 181, 3) := by decide +kernel
theorem dX6_worth_50 : decode cX6_worth 50 = .ok (.iload 4, 2) := by decide +kernel
theorem dX6_worth_52 : decode cX6_worth 52 = .ok (.ifCond .eq 34, 3) := by decide +kernel
theorem dX6_worth_55 : decode cX6_worth 55 = .ok (.iconst 3, 1) := by decide +kernel
theorem dX6_worth_56 : decode cX6_worth 56 = .ok (.aload_n 0, 1) := by decide +kernel
theorem dX6_worth_57 : decode cX6_worth 57 = .ok (.getfield 22, 3) := by decide +kernel
theorem dX6_worth_60 : decode cX6_worth 60 = .ok (.sipush 912, 3) := by decide +kernel
theorem dX6_worth_63 : decode cX6_worth 63 = .ok (.bipush 6, 2) := by decide +kernel
theorem dX6_worth_65 : decode cX6_worth 65 = .ok (.iload_n 2, 1) := by decide +kernel
theorem dX6_worth_66 : decode cX6_worth 66 = .ok (.imul, 1) := by decide +kernel
theorem dX6_worth_67 : decode cX6_worth 67 = .ok (.iadd, 1) := by decide +kernel
theorem dX6_worth_68 : decode cX6_worth 68 = .ok (.iload_n 1, 1) := by decide +kernel
theorem dX6_worth_69 : decode cX6_worth 69 = .ok (.iadd, 1) := by decide +kernel
theorem dX6_worth_70 : decode cX6_worth 70 = .ok (.iaload, 1) := by decide +kernel
theorem dX6_worth_71 : decode cX6_worth 71 = .ok (.imul, 1) := by decide +kernel
theorem dX6_worth_72 : decode cX6_worth 72 = .ok (.aload_n 0, 1) := by decide +kernel
theorem dX6_worth_73 : decode cX6_worth 73 = .ok (.getfield 22, 3) := by decide +kernel
theorem dX6_worth_76 : decode cX6_worth 76 = .ok (.sipush 902, 3) := by decide +kernel
theorem dX6_worth_79 : decode cX6_worth 79 = .ok (.iload_n 1, 1) := by decide +kernel
theorem dX6_worth_80 : decode cX6_worth 80 = .ok (.iadd, 1) := by decide +kernel
theorem dX6_worth_81 : decode cX6_worth 81 = .ok (.iaload, 1) := by decide +kernel
theorem dX6_worth_82 : decode cX6_worth 82 = .ok (.iadd, 1) := by decide +kernel
theorem dX6_worth_83 : decode cX6_worth 83 = .ok (.goto 31, 3) := by decide +kernel
theorem dX6_worth_86 : decode cX6_worth 86 = .ok (.iconst 3, 1) := by decide +kernel
theorem dX6_worth_87 : decode cX6_worth 87 = .ok (.aload_n 0, 1) := by decide +kernel
theorem dX6_worth_88 : decode cX6_worth 88 = .ok (.getfield 22, 3) := by decide +kernel
theorem dX6_worth_91 : decode cX6_worth 91 = .ok (.sipush 912, 3) := by decide +kernel
theorem dX6_worth_94 : decode cX6_worth 94 = .ok (.bipush 6, 2) := by decide +kernel
theorem dX6_worth_96 : decode cX6_worth 96 = .ok (.iload_n 1, 1) := by decide +kernel
theorem dX6_worth_97 : decode cX6_worth 97 = .ok (.imul, 1) := by decide +kernel
theorem dX6_worth_98 : decode cX6_worth 98 = .ok (.iadd, 1) := by decide +kernel
theorem dX6_worth_99 : decode cX6_worth 99 = .ok (.iload_n 2, 1) := by decide +kernel
theorem dX6_worth_100 : decode cX6_worth 100 = .ok (.iadd, 1) := by decide +kernel
theorem dX6_worth_101 : decode cX6_worth 101 = .ok (.iaload, 1) := by decide +kernel
theorem dX6_worth_102 : decode cX6_worth 102 = .ok (.imul, 1) := by decide +kernel
theorem dX6_worth_103 : decode cX6_worth 103 = .ok (.aload_n 0, 1) := by decide +kernel
theorem dX6_worth_104 : decode cX6_worth 104 = .ok (.getfield 22, 3) := by decide +kernel
theorem dX6_worth_107 : decode cX6_worth 107 = .ok (.sipush 902, 3) := by decide +kernel
theorem dX6_worth_110 : decode cX6_worth 110 = .ok (.iload_n 2, 1) := by decide +kernel
theorem dX6_worth_111 : decode cX6_worth 111 = .ok (.iadd, 1) := by decide +kernel
theorem dX6_worth_112 : decode cX6_worth 112 = .ok (.iaload, 1) := by decide +kernel
theorem dX6_worth_113 : decode cX6_worth 113 = .ok (.iadd, 1) := by decide +kernel
theorem dX6_worth_114 : decode cX6_worth 114 = .ok (.ireturn, 1) := by decide +kernel
theorem dX6_mutual_0 : decode cX6_mutual 0 = .ok (.aload_n 0, 1) := by decide +kernel
theorem dX6_mutual_1 : decode cX6_mutual 1 = .ok (.iload_n 1, 1) := by decide +kernel
theorem dX6_mutual_2 : decode cX6_mutual 2 = .ok (.iload_n 2, 1) := by decide +kernel
theorem dX6_mutual_3 : decode cX6_mutual 3 = .ok (.invokevirtual 147, 3) := by decide +kernel
theorem dX6_mutual_6 : decode cX6_mutual 6 = .ok (.ifCond .eq 13, 3) := by decide +kernel
theorem dX6_mutual_9 : decode cX6_mutual 9 = .ok (.iload_n 3, 1) := by decide +kernel
theorem dX6_mutual_10 : decode cX6_mutual 10 = .ok (.i2l, 1) := by decide +kernel
theorem dX6_mutual_11 : decode cX6_mutual 11 = .ok (.lconst 0, 1) := by decide +kernel
theorem dX6_mutual_12 : decode cX6_mutual 12 = .ok (.lconst 1, 1) := by decide +kernel
theorem dX6_mutual_13 : decode cX6_mutual 13 = .ok (.invokestatic 71, 3) := by decide +kernel
theorem dX6_mutual_16 : decode cX6_mutual 16 = .ok (.ifCond .ne 5, 3) := by decide +kernel
theorem dX6_mutual_19 : decode cX6_mutual 19 = .ok (.iconst (-1), 1) := by decide +kernel
theorem dX6_mutual_20 : decode cX6_mutual 20 = .ok (.ireturn, 1) := by decide +kernel
theorem dX6_mutual_21 : decode cX6_mutual 21 = .ok (.aload_n 0, 1) := by decide +kernel
theorem dX6_mutual_22 : decode cX6_mutual 22 = .ok (.iconst 0, 1) := by decide +kernel
theorem dX6_mutual_23 : decode cX6_mutual 23 = .ok (.iload_n 1, 1) := by decide +kernel
theorem dX6_mutual_24 : decode cX6_mutual 24 = .ok (.invokevirtual 136, 3) := by decide +kernel
theorem dX6_mutual_27 : decode cX6_mutual 27 = .ok (.ifCond .eq 12, 3) := by decide +kernel
theorem dX6_mutual_30 : decode cX6_mutual 30 = .ok (.aload_n 0, 1) := by decide +kernel
theorem dX6_mutual_31 : decode cX6_mutual 31 = .ok (.iconst 0, 1) := by decide +kernel
theorem dX6_mutual_32 : decode cX6_mutual 32 = .ok (.iload_n 2, 1) := by decide +kernel
theorem dX6_mutual_33 : decode cX6_mutual 33 = .ok (.invokevirtual 136, 3) := by decide +kernel
theorem dX6_mutual_36 : decode cX6_mutual 36 = .ok (.ifCond .ne 6, 3) := by decide +kernel
theorem dX6_mutual_39 : decode cX6_mutual 39 = .ok (.bipush (-2), 2) := by decide +kernel
theorem dX6_mutual_41 : decode cX6_mutual 41 = .ok (.ireturn, 1) := by decide +kernel
theorem dX6_mutual_42 : decode cX6_mutual 42 = .ok (.iconst 0, 1) := by decide +kernel
theorem dX6_mutual_43 : decode cX6_mutual 43 = .ok (.istore 4, 2) := by decide +kernel
theorem dX6_mutual_45 : decode cX6_mutual 45 = .ok (.bipush (-4), 2) := by decide +kernel
theorem dX6_mutual_47 : decode cX6_mutual 47 = .ok (.istore 5, 2) := by decide +kernel
theorem dX6_mutual_49 : decode cX6_mutual 49 = .ok (.iconst 0, 1) := by decide +kernel
theorem dX6_mutual_50 : decode cX6_mutual 50 = .ok (.istore 6, 2) := by decide +kernel
theorem dX6_mutual_52 : decode cX6_mutual 52 = .ok (.iload 6, 2) := by decide +kernel
theorem dX6_mutual_54 : decode cX6_mutual 54 = .ok (.iconst 4, 1) := by decide +kernel
theorem dX6_mutual_55 : decode cX6_mutual 55 = .ok (.if_icmp .ge 96, 3) := by decide +kernel
theorem dX6_mutual_58 : decode cX6_mutual 58 = .ok (.aload_n 0, 1) := by decide +kernel
theorem dX6_mutual_59 : decode cX6_mutual 59 = .ok (.iload_n 1, 1) := by decide +kernel
theorem dX6_mutual_60 : decode cX6_mutual 60 = .ok (.iload_n 2, 1) := by decide +kernel
theorem dX6_mutual_61 : decode cX6_mutual 61 = .ok (.iload 6, 2) := by decide +kernel
theorem dX6_mutual_63 : decode cX6_mutual 63 = .ok (.iconst 1, 1) := by decide +kernel
theorem dX6_mutual_64 : decode cX6_mutual 64 = .ok (.invokevirtual 230, 3) := by decide +kernel
theorem dX6_mutual_67 : decode cX6_mutual 67 = .ok (.aload_n 0, 1) := by decide +kernel
theorem dX6_mutual_68 : decode cX6_mutual 68 = .ok (.iload_n 1, 1) := by decide +kernel
theorem dX6_mutual_69 : decode cX6_mutual 69 = .ok (.iload_n 2, 1) := by decide +kernel
theorem dX6_mutual_70 : decode cX6_mutual 70 = .ok (.iload 6, 2) := by decide +kernel
theorem dX6_mutual_72 : decode cX6_mutual 72 = .ok (.iconst 2, 1) := by decide +kernel
theorem dX6_mutual_73 : decode cX6_mutual 73 = .ok (.ixor, 1) := by decide +kernel
theorem dX6_mutual_74 : decode cX6_mutual 74 = .ok (.iconst 1, 1) := by decide +kernel
theorem dX6_mutual_75 : decode cX6_mutual 75 = .ok (.invokevirtual 230, 3) := by decide +kernel
theorem dX6_mutual_78 : decode cX6_mutual 78 = .ok (.if_icmp .lt 30, 3) := by decide +kernel
theorem dX6_mutual_81 : decode cX6_mutual 81 = .ok (.aload_n 0, 1) := by decide +kernel
theorem dX6_mutual_82 : decode cX6_mutual 82 = .ok (.iload_n 1, 1) := by decide +kernel
theorem dX6_mutual_83 : decode cX6_mutual 83 = .ok (.iload_n 2, 1) := by decide +kernel
theorem dX6_mutual_84 : decode cX6_mutual 84 = .ok (.iload 6, 2) := by decide +kernel
theorem dX6_mutual_86 : decode cX6_mutual 86 = .ok (.iconst 0, 1) := by decide +kernel
theorem dX6_mutual_87 : decode cX6_mutual 87 = .ok (.invokevirtual 230, 3) := by decide +kernel
theorem dX6_mutual_90 : decode cX6_mutual 90 = .ok (.aload_n 0, 1) := by decide +kernel
theorem dX6_mutual_91 : decode cX6_mutual 91 = .ok (.iload_n 1, 1) := by decide +kernel
theorem dX6_mutual_92 : decode cX6_mutual 92 = .ok (.iload_n 2, 1) := by decide +kernel
theorem dX6_mutual_93 : decode cX6_mutual 93 = .ok (.iload 6, 2) := by decide +kernel
theorem dX6_mutual_95 : decode cX6_mutual 95 = .ok (.iconst 1, 1) := by decide +kernel
theorem dX6_mutual_96 : decode cX6_mutual 96 = .ok (.ixor, 1) := by decide +kernel
theorem dX6_mutual_97 : decode cX6_mutual 97 = .ok (.iconst 0, 1) := by decide +kernel
theorem dX6_mutual_98 : decode cX6_mutual 98 = .ok (.invokevirtual 230, 3) := by decide +kernel
theorem dX6_mutual_101 : decode cX6_mutual 101 = .ok (.if_icmp .lt 7, 3) := by decide +kernel
theorem dX6_mutual_104 : decode cX6_mutual 104 = .ok (.iconst 1, 1) := by decide +kernel
theorem dX6_mutual_105 : decode cX6_mutual 105 = .ok (.goto 4, 3) := by decide +kernel
theorem dX6_mutual_108 : decode cX6_mutual 108 = .ok (.iconst 0, 1) := by decide +kernel
theorem dX6_mutual_109 : decode cX6_mutual 109 = .ok (.istore 7, 2) := by decide +kernel
theorem dX6_mutual_111 : decode cX6_mutual 111 = .ok (.iload 7, 2) := by decide +kernel
theorem dX6_mutual_113 : decode cX6_mutual 113 = .ok (.ifCond .eq 13, 3) := by decide +kernel
theorem dX6_mutual_116 : decode cX6_mutual 116 = .ok (.iload 4, 2) := by decide +kernel
theorem dX6_mutual_118 : decode cX6_mutual 118 = .ok (.ifCond .ne 8, 3) := by decide +kernel
theorem dX6_mutual_121 : decode cX6_mutual 121 = .ok (.iload 6, 2) := by decide +kernel
theorem dX6_mutual_123 : decode cX6_mutual 123 = .ok (.goto 5, 3) := by decide +kernel
theorem dX6_mutual_126 : decode cX6_mutual 126 = .ok (.iload 5, 2) := by decide +kernel
theorem dX6_mutual_128 : decode cX6_mutual 128 = .ok (.istore 5, 2) := by decide +kernel
theorem dX6_mutual_130 : decode cX6_mutual 130 = .ok (.iload 4, 2) := by decide +kernel
theorem dX6_mutual_132 : decode cX6_mutual 132 = .ok (.iload 7, 2) := by decide +kernel
theorem dX6_mutual_134 : decode cX6_mutual 134 = .ok (.ifCond .eq 7, 3) := by decide +kernel
theorem dX6_mutual_137 : decode cX6_mutual 137 = .ok (.iconst 1, 1) := by decide +kernel
theorem dX6_mutual_138 : decode cX6_mutual 138 = .ok (.goto 4, 3) := by decide +kernel
theorem dX6_mutual_141 : decode cX6_mutual 141 = .ok (.iconst 0, 1) := by decide +kernel
theorem dX6_mutual_142 : decode cX6_mutual 142 = .ok (.iadd, 1) := by decide +kernel
theorem dX6_mutual_143 : decode cX6_mutual 143 = .ok (.istore 4, 2) := by decide +kernel
theorem dX6_mutual_145 : decode cX6_mutual 145 = .ok (.iinc 6 1, 3) := by decide +kernel
theorem dX6_mutual_148 : decode cX6_mutual 148 = .ok (.goto (-96), 3) := by decide +kernel
theorem dX6_mutual_151 : decode cX6_mutual 151 = .ok (.iload_n 3, 1) := by decide +kernel
theorem dX6_mutual_152 : decode cX6_mutual 152 = .ok (.ifCond .ne 8, 3) := by decide +kernel
theorem dX6_mutual_155 : decode cX6_mutual 155 = .ok (.iload 4, 2) := by decide +kernel
theorem dX6_mutual_157 : decode cX6_mutual 157 = .ok (.goto 5, 3) := by decide +kernel
theorem dX6_mutual_160 : decode cX6_mutual 160 = .ok (.iload 5, 2) := by decide +kernel
theorem dX6_mutual_162 : decode cX6_mutual 162 = .ok (.ireturn, 1) := by decide +kernel
theorem dX6_see_0 : decode cX6_see 0 = .ok (.aload_n 0, 1) := by decide +kernel
theorem dX6_see_1 : decode cX6_see 1 = .ok (.iload_n 1, 1) := by decide +kernel
theorem dX6_see_2 : decode cX6_see 2 = .ok (.iload_n 2, 1) := by decide +kernel
theorem dX6_see_3 : decode cX6_see 3 = .ok (.invokevirtual 147, 3) := by decide +kernel
theorem dX6_see_6 : decode cX6_see 6 = .ok (.ifCond .eq 12, 3) := by decide +kernel
theorem dX6_see_9 : decode cX6_see 9 = .ok (.iload_n 3, 1) := by decide +kernel
theorem dX6_see_10 : decode cX6_see 10 = .ok (.iload 4, 2) := by decide +kernel
theorem dX6_see_12 : decode cX6_see 12 = .ok (.invokestatic 187, 3) := by decide +kernel
theorem dX6_see_15 : decode cX6_see 15 = .ok (.ifCond .ne 5, 3) := by decide +kernel
theorem dX6_see_18 : decode cX6_see 18 = .ok (.iconst (-1), 1) := by decide +kernel
theorem dX6_see_19 : decode cX6_see 19 = .ok (.ireturn, 1) := by decide +kernel
theorem dX6_see_20 : decode cX6_see 20 = .ok (.aload_n 0, 1) := by decide +kernel
theorem dX6_see_21 : decode cX6_see 21 = .ok (.getfield 129, 3) := by decide +kernel
theorem dX6_see_24 : decode cX6_see 24 = .ok (.bipush 6, 2) := by decide +kernel
theorem dX6_see_26 : decode cX6_see 26 = .ok (.if_icmp .ne 6, 3) := by decide +kernel
theorem dX6_see_29 : decode cX6_see 29 = .ok (.bipush (-3), 2) := by decide +kernel
theorem dX6_see_31 : decode cX6_see 31 = .ok (.ireturn, 1) := by decide +kernel
theorem dX6_see_32 : decode cX6_see 32 = .ok (.aload_n 0, 1) := by decide +kernel
theorem dX6_see_33 : decode cX6_see 33 = .ok (.getfield 29, 3) := by decide +kernel
theorem dX6_see_36 : decode cX6_see 36 = .ok (.aload_n 0, 1) := by decide +kernel
theorem dX6_see_37 : decode cX6_see 37 = .ok (.getfield 129, 3) := by decide +kernel
theorem dX6_see_40 : decode cX6_see 40 = .ok (.iload_n 1, 1) := by decide +kernel
theorem dX6_see_41 : decode cX6_see 41 = .ok (.iastore, 1) := by decide +kernel
theorem dX6_see_42 : decode cX6_see 42 = .ok (.aload_n 0, 1) := by decide +kernel
theorem dX6_see_43 : decode cX6_see 43 = .ok (.getfield 32, 3) := by decide +kernel
theorem dX6_see_46 : decode cX6_see 46 = .ok (.aload_n 0, 1) := by decide +kernel
theorem dX6_see_47 : decode cX6_see 47 = .ok (.getfield 129, 3) := by decide +kernel
theorem dX6_see_50 : decode cX6_see 50 = .ok (.iload_n 2, 1) := by decide +kernel
theorem dX6_see_51 : decode cX6_see 51 = .ok (.iastore, 1) := by decide +kernel
theorem dX6_see_52 : decode cX6_see 52 = .ok (.aload_n 0, 1) := by decide +kernel
theorem dX6_see_53 : decode cX6_see 53 = .ok (.getfield 35, 3) := by decide +kernel
theorem dX6_see_56 : decode cX6_see 56 = .ok (.aload_n 0, 1) := by decide +kernel
theorem dX6_see_57 : decode cX6_see 57 = .ok (.getfield 129, 3) := by decide +kernel
theorem dX6_see_60 : decode cX6_see 60 = .ok (.iload_n 3, 1) := by decide +kernel
theorem dX6_see_61 : decode cX6_see 61 = .ok (.iastore, 1) := by decide +kernel
theorem dX6_see_62 : decode cX6_see 62 = .ok (.aload_n 0, 1) := by decide +kernel
theorem dX6_see_63 : decode cX6_see 63 = .ok (.getfield 38, 3) := by decide +kernel
theorem dX6_see_66 : decode cX6_see 66 = .ok (.aload_n 0, 1) := by decide +kernel
theorem dX6_see_67 : decode cX6_see 67 = .ok (.getfield 129, 3) := by decide +kernel
theorem dX6_see_70 : decode cX6_see 70 = .ok (.iload 4, 2) := by decide +kernel
theorem dX6_see_72 : decode cX6_see 72 = .ok (.iastore, 1) := by decide +kernel
theorem dX6_see_73 : decode cX6_see 73 = .ok (.aload_n 0, 1) := by decide +kernel
theorem dX6_see_74 : decode cX6_see 74 = .ok (.getfield 41, 3) := by decide +kernel
theorem dX6_see_77 : decode cX6_see 77 = .ok (.aload_n 0, 1) := by decide +kernel
theorem dX6_see_78 : decode cX6_see 78 = .ok (.getfield 129, 3) := by decide +kernel
theorem dX6_see_81 : decode cX6_see 81 = .ok (.iload 5, 2) := by decide +kernel
theorem dX6_see_83 : decode cX6_see 83 = .ok (.bastore, 1) := by decide +kernel
theorem dX6_see_84 : decode cX6_see 84 = .ok (.aload_n 0, 1) := by decide +kernel
theorem dX6_see_85 : decode cX6_see 85 = .ok (.dup, 1) := by decide +kernel
theorem dX6_see_86 : decode cX6_see 86 = .ok (.getfield 129, 3) := by decide +kernel
theorem dX6_see_89 : decode cX6_see 89 = .ok (.iconst 1, 1) := by decide +kernel
theorem dX6_see_90 : decode cX6_see 90 = .ok (.iadd, 1) := by decide +kernel
theorem dX6_see_91 : decode cX6_see 91 = .ok (.putfield 129, 3) := by decide +kernel
theorem dX6_see_94 : decode cX6_see 94 = .ok (.aload_n 0, 1) := by decide +kernel
theorem dX6_see_95 : decode cX6_see 95 = .ok (.getfield 129, 3) := by decide +kernel
theorem dX6_see_98 : decode cX6_see 98 = .ok (.ireturn, 1) := by decide +kernel
theorem dX6_forget_0 : decode cX6_forget 0 = .ok (.aload_n 0, 1) := by decide +kernel
theorem dX6_forget_1 : decode cX6_forget 1 = .ok (.getfield 129, 3) := by decide +kernel
theorem dX6_forget_4 : decode cX6_forget 4 = .ok (.istore_n 1, 1) := by decide +kernel
theorem dX6_forget_5 : decode cX6_forget 5 = .ok (.aload_n 0, 1) := by decide +kernel
theorem dX6_forget_6 : decode cX6_forget 6 = .ok (.iconst 0, 1) := by decide +kernel
theorem dX6_forget_7 : decode cX6_forget 7 = .ok (.putfield 129, 3) := by decide +kernel
theorem dX6_forget_10 : decode cX6_forget 10 = .ok (.iload_n 1, 1) := by decide +kernel
theorem dX6_forget_11 : decode cX6_forget 11 = .ok (.ireturn, 1) := by decide +kernel
theorem dX6_felt_0 : decode cX6_felt 0 = .ok (.aload_n 0, 1) := by decide +kernel
theorem dX6_felt_1 : decode cX6_felt 1 = .ok (.iload_n 1, 1) := by decide +kernel
theorem dX6_felt_2 : decode cX6_felt 2 = .ok (.iload_n 2, 1) := by decide +kernel
theorem dX6_felt_3 : decode cX6_felt 3 = .ok (.invokevirtual 147, 3) := by decide +kernel
theorem dX6_felt_6 : decode cX6_felt 6 = .ok (.ifCond .ne 5, 3) := by decide +kernel
theorem dX6_felt_9 : decode cX6_felt 9 = .ok (.iconst (-1), 1) := by decide +kernel
theorem dX6_felt_10 : decode cX6_felt 10 = .ok (.ireturn, 1) := by decide +kernel
theorem dX6_felt_11 : decode cX6_felt 11 = .ok (.iconst 0, 1) := by decide +kernel
theorem dX6_felt_12 : decode cX6_felt 12 = .ok (.istore_n 3, 1) := by decide +kernel
theorem dX6_felt_13 : decode cX6_felt 13 = .ok (.bipush (-4), 2) := by decide +kernel
theorem dX6_felt_15 : decode cX6_felt 15 = .ok (.istore 4, 2) := by decide +kernel
theorem dX6_felt_17 : decode cX6_felt 17 = .ok (.iload 4, 2) := by decide +kernel
theorem dX6_felt_19 : decode cX6_felt 19 = .ok (.iconst 5, 1) := by decide +kernel
theorem dX6_felt_20 : decode cX6_felt 20 = .ok (.if_icmp .gt 142, 3) := by decide +kernel
theorem dX6_felt_23 : decode cX6_felt 23 = .ok (.iconst 1, 1) := by decide +kernel
theorem dX6_felt_24 : decode cX6_felt 24 = .ok (.istore 5, 2) := by decide +kernel
theorem dX6_felt_26 : decode cX6_felt 26 = .ok (.iconst 0, 1) := by decide +kernel
theorem dX6_felt_27 : decode cX6_felt 27 = .ok (.istore 6, 2) := by decide +kernel
theorem dX6_felt_29 : decode cX6_felt 29 = .ok (.iload 6, 2) := by decide +kernel
theorem dX6_felt_31 : decode cX6_felt 31 = .ok (.aload_n 0, 1) := by decide +kernel
theorem dX6_felt_32 : decode cX6_felt 32 = .ok (.getfield 129, 3) := by decide +kernel
theorem dX6_felt_35 : decode cX6_felt 35 = .ok (.if_icmp .ge 103, 3) := by decide +kernel
theorem dX6_felt_38 : decode cX6_felt 38 = .ok (.aload_n 0, 1) := by decide +kernel
theorem dX6_felt_39 : decode cX6_felt 39 = .ok (.iconst 0, 1) := by decide +kernel
theorem dX6_felt_40 : decode cX6_felt 40 = .ok (.iload_n 1, 1) := by decide +kernel
theorem dX6_felt_41 : decode cX6_felt 41 = .ok (.invokevirtual 136, 3) := by decide +kernel
theorem dX6_felt_44 : decode cX6_felt 44 = .ok (.ifCond .eq 39, 3) := by decide +kernel
theorem dX6_felt_47 : decode cX6_felt 47 = .ok (.aload_n 0, 1) := by decide +kernel
theorem dX6_felt_48 : decode cX6_felt 48 = .ok (.iconst 0, 1) := by decide +kernel
theorem dX6_felt_49 : decode cX6_felt 49 = .ok (.iload_n 1, 1) := by decide +kernel
theorem dX6_felt_50 : decode cX6_felt 50 = .ok (.iload_n 2, 1) := by decide +kernel
theorem dX6_felt_51 : decode cX6_felt 51 = .ok (.aload_n 0, 1) := by decide +kernel
theorem dX6_felt_52 : decode cX6_felt 52 = .ok (.getfield 7, 3) := by decide +kernel
theorem dX6_felt_55 : decode cX6_felt 55 = .ok (.iload_n 1, 1) := by decide +kernel
theorem dX6_felt_56 : decode cX6_felt 56 = .ok (.iaload, 1) := by decide +kernel
theorem dX6_felt_57 : decode cX6_felt 57 = .ok (.iload 4, 2) := by decide +kernel
theorem dX6_felt_59 : decode cX6_felt 59 = .ok (.aload_n 0, 1) := by decide +kernel
theorem dX6_felt_60 : decode cX6_felt 60 = .ok (.getfield 35, 3) := by decide +kernel
theorem dX6_felt_63 : decode cX6_felt 63 = .ok (.iload 6, 2) := by decide +kernel
theorem dX6_felt_65 : decode cX6_felt 65 = .ok (.iaload, 1) := by decide +kernel
theorem dX6_felt_66 : decode cX6_felt 66 = .ok (.aload_n 0, 1) := by decide +kernel
theorem dX6_felt_67 : decode cX6_felt 67 = .ok (.getfield 38, 3) := by decide +kernel
theorem dX6_felt_70 : decode cX6_felt 70 = .ok (.iload 6, 2) := by decide +kernel
theorem dX6_felt_72 : decode cX6_felt 72 = .ok (.iaload, 1) := by decide +kernel
theorem dX6_felt_73 : decode cX6_felt 73 = .ok (.invokevirtual 150, 3) := by decide +kernel
theorem dX6_felt_76 : decode cX6_felt 76 = .ok (.ifCond .eq 7, 3) := by decide +kernel
theorem dX6_felt_79 : decode cX6_felt 79 = .ok (.iconst 1, 1) := by decide +kernel
theorem dX6_felt_80 : decode cX6_felt 80 = .ok (.goto 4, 3) := by decide +kernel
theorem dX6_felt_83 : decode cX6_felt 83 = .ok (.iconst 0, 1) := by decide +kernel
theorem dX6_felt_84 : decode cX6_felt 84 = .ok (.istore 7, 2) := by decide +kernel
theorem dX6_felt_86 : decode cX6_felt 86 = .ok (.iload 5, 2) := by decide +kernel
theorem dX6_felt_88 : decode cX6_felt 88 = .ok (.ifCond .eq 41, 3) := by decide +kernel
theorem dX6_felt_91 : decode cX6_felt 91 = .ok (.aload_n 0, 1) := by decide +kernel
theorem dX6_felt_92 : decode cX6_felt 92 = .ok (.getfield 29, 3) := by decide +kernel
theorem dX6_felt_95 : decode cX6_felt 95 = .ok (.iload 6, 2) := by decide +kernel
theorem dX6_felt_97 : decode cX6_felt 97 = .ok (.iaload, 1) := by decide +kernel
theorem dX6_felt_98 : decode cX6_felt 98 = .ok (.iload_n 1, 1) := by decide +kernel
theorem dX6_felt_99 : decode cX6_felt 99 = .ok (.if_icmp .ne 26, 3) := by decide +kernel
theorem dX6_felt_102 : decode cX6_felt 102 = .ok (.aload_n 0, 1) := by decide +kernel
theorem dX6_felt_103 : decode cX6_felt 103 = .ok (.getfield 32, 3) := by decide +kernel
theorem dX6_felt_106 : decode cX6_felt 106 = .ok (.iload 6, 2) := by decide +kernel
theorem dX6_felt_108 : decode cX6_felt 108 = .ok (.iaload, 1) := by decide +kernel
theorem dX6_felt_109 : decode cX6_felt 109 = .ok (.iload_n 2, 1) := by decide +kernel
theorem dX6_felt_110 : decode cX6_felt 110 = .ok (.if_icmp .ne 15, 3) := by decide +kernel
theorem dX6_felt_113 : decode cX6_felt 113 = .ok (.iload 7, 2) := by decide +kernel
theorem dX6_felt_115 : decode cX6_felt 115 = .ok (.aload_n 0, 1) := by decide +kernel
theorem dX6_felt_116 : decode cX6_felt 116 = .ok (.getfield 41, 3) := by decide +kernel
theorem dX6_felt_119 : decode cX6_felt 119 = .ok (.iload 6, 2) := by decide +kernel
theorem dX6_felt_121 : decode cX6_felt 121 = .ok (.baload, 1) := by decide +kernel
theorem dX6_felt_122 : decode cX6_felt 122 = .ok (.if_icmp .ne 7, 3) := by decide +kernel
theorem dX6_felt_125 : decode cX6_felt 125 = .ok (.iconst 1, 1) := by decide +kernel
theorem dX6_felt_126 : decode cX6_felt 126 = .ok (.goto 4, 3) := by decide +kernel
theorem dX6_felt_129 : decode cX6_felt 129 = .ok (.iconst 0, 1) := by decide +kernel
theorem dX6_felt_130 : decode cX6_felt 130 = .ok (.istore 5, 2) := by decide +kernel
theorem dX6_felt_132 : decode cX6_felt 132 = .ok (.iinc 6 1, 3) := by decide +kernel
theorem dX6_felt_135 : decode cX6_felt 135 = .ok (.goto (-106), 3) := by decide +kernel
theorem dX6_felt_138 : decode cX6_felt 138 = .ok (.iload_n 3, 1) := by decide +kernel
theorem dX6_felt_139 : decode cX6_felt 139 = .ok (.iload 5, 2) := by decide +kernel
theorem dX6_felt_141 : decode cX6_felt 141 = .ok (.ifCond .eq 12, 3) := by decide +kernel
theorem dX6_felt_144 : decode cX6_felt 144 = .ok (.iconst 1, 1) := by decide +kernel
theorem dX6_felt_145 : decode cX6_felt 145 = .ok (.iload 4, 2) := by decide +kernel
theorem dX6_felt_147 : decode cX6_felt 147 = .ok (.iconst 4, 1) := by decide +kernel
theorem dX6_felt_148 : decode cX6_felt 148 = .ok (.iadd, 1) := by decide +kernel
theorem dX6_felt_149 : decode cX6_felt 149 = .ok (.ishl, 1) := by decide +kernel
theorem dX6_felt_150 : decode cX6_felt 150 = .ok (.goto 4, 3) := by decide +kernel
theorem dX6_felt_153 : decode cX6_felt 153 = .ok (.iconst 0, 1) := by decide +kernel
theorem dX6_felt_154 : decode cX6_felt 154 = .ok (.ior, 1) := by decide +kernel
theorem dX6_felt_155 : decode cX6_felt 155 = .ok (.istore_n 3, 1) := by decide +kernel
theorem dX6_felt_156 : decode cX6_felt 156 = .ok (.iinc 4 1, 3) := by decide +kernel
theorem dX6_felt_159 : decode cX6_felt 159 = .ok (.goto (-142), 3) := by decide +kernel
theorem dX6_felt_162 : decode cX6_felt 162 = .ok (.iload_n 3, 1) := by decide +kernel
theorem dX6_felt_163 : decode cX6_felt 163 = .ok (.ireturn, 1) := by decide +kernel
theorem dX6_kinds_0 : decode cX6_kinds 0 = .ok (.aload_n 0, 1) := by decide +kernel
theorem dX6_kinds_1 : decode cX6_kinds 1 = .ok (.iload_n 1, 1) := by decide +kernel
theorem dX6_kinds_2 : decode cX6_kinds 2 = .ok (.invokevirtual 75, 3) := by decide +kernel
theorem dX6_kinds_5 : decode cX6_kinds 5 = .ok (.ifCond .ne 5, 3) := by decide +kernel
theorem dX6_kinds_8 : decode cX6_kinds 8 = .ok (.iconst (-1), 1) := by decide +kernel
theorem dX6_kinds_9 : decode cX6_kinds 9 = .ok (.ireturn, 1) := by decide +kernel
theorem dX6_kinds_10 : decode cX6_kinds 10 = .ok (.iconst 0, 1) := by decide +kernel
theorem dX6_kinds_11 : decode cX6_kinds 11 = .ok (.istore_n 2, 1) := by decide +kernel
theorem dX6_kinds_12 : decode cX6_kinds 12 = .ok (.iconst 0, 1) := by decide +kernel
theorem dX6_kinds_13 : decode cX6_kinds 13 = .ok (.istore_n 3, 1) := by decide +kernel
theorem dX6_kinds_14 : decode cX6_kinds 14 = .ok (.iload_n 3, 1) := by decide +kernel
theorem dX6_kinds_15 : decode cX6_kinds 15 = .ok (.iconst 5, 1) := by decide +kernel
theorem dX6_kinds_16 : decode cX6_kinds 16 = .ok (.if_icmp .ge 147, 3) := by decide +kernel
theorem dX6_kinds_19 : decode cX6_kinds 19 = .ok (.iconst 1, 1) := by decide +kernel
theorem dX6_kinds_20 : decode cX6_kinds 20 = .ok (.istore 4, 2) := by decide +kernel
theorem dX6_kinds_22 : decode cX6_kinds 22 = .ok (.iconst 0, 1) := by decide +kernel
theorem dX6_kinds_23 : decode cX6_kinds 23 = .ok (.istore 5, 2) := by decide +kernel
theorem dX6_kinds_25 : decode cX6_kinds 25 = .ok (.iload 5, 2) := by decide +kernel
theorem dX6_kinds_27 : decode cX6_kinds 27 = .ok (.aload_n 0, 1) := by decide +kernel
theorem dX6_kinds_28 : decode cX6_kinds 28 = .ok (.getfield 129, 3) := by decide +kernel
theorem dX6_kinds_31 : decode cX6_kinds 31 = .ok (.if_icmp .ge 111, 3) := by decide +kernel
theorem dX6_kinds_34 : decode cX6_kinds 34 = .ok (.aload_n 0, 1) := by decide +kernel
theorem dX6_kinds_35 : decode cX6_kinds 35 = .ok (.iconst 0, 1) := by decide +kernel
theorem dX6_kinds_36 : decode cX6_kinds 36 = .ok (.iload_n 1, 1) := by decide +kernel
theorem dX6_kinds_37 : decode cX6_kinds 37 = .ok (.invokevirtual 136, 3) := by decide +kernel
theorem dX6_kinds_40 : decode cX6_kinds 40 = .ok (.ifCond .eq 58, 3) := by decide +kernel
theorem dX6_kinds_43 : decode cX6_kinds 43 = .ok (.aload_n 0, 1) := by decide +kernel
theorem dX6_kinds_44 : decode cX6_kinds 44 = .ok (.iconst 0, 1) := by decide +kernel
theorem dX6_kinds_45 : decode cX6_kinds 45 = .ok (.iload_n 1, 1) := by decide +kernel
theorem dX6_kinds_46 : decode cX6_kinds 46 = .ok (.aload_n 0, 1) := by decide +kernel
theorem dX6_kinds_47 : decode cX6_kinds 47 = .ok (.getfield 32, 3) := by decide +kernel
theorem dX6_kinds_50 : decode cX6_kinds 50 = .ok (.iload 5, 2) := by decide +kernel
theorem dX6_kinds_52 : decode cX6_kinds 52 = .ok (.iaload, 1) := by decide +kernel
theorem dX6_kinds_53 : decode cX6_kinds 53 = .ok (.iload_n 3, 1) := by decide +kernel
theorem dX6_kinds_54 : decode cX6_kinds 54 = .ok (.aload_n 0, 1) := by decide +kernel
theorem dX6_kinds_55 : decode cX6_kinds 55 = .ok (.getfield 22, 3) := by decide +kernel
theorem dX6_kinds_58 : decode cX6_kinds 58 = .ok (.bipush 10, 2) := by decide +kernel
theorem dX6_kinds_60 : decode cX6_kinds 60 = .ok (.bipush 6, 2) := by decide +kernel
theorem dX6_kinds_62 : decode cX6_kinds 62 = .ok (.iload_n 1, 1) := by decide +kernel
theorem dX6_kinds_63 : decode cX6_kinds 63 = .ok (.imul, 1) := by decide +kernel
theorem dX6_kinds_64 : decode cX6_kinds 64 = .ok (.iadd, 1) := by decide +kernel
theorem dX6_kinds_65 : decode cX6_kinds 65 = .ok (.aload_n 0, 1) := by decide +kernel
theorem dX6_kinds_66 : decode cX6_kinds 66 = .ok (.getfield 32, 3) := by decide +kernel
theorem dX6_kinds_69 : decode cX6_kinds 69 = .ok (.iload 5, 2) := by decide +kernel
theorem dX6_kinds_71 : decode cX6_kinds 71 = .ok (.iaload, 1) := by decide +kernel
theorem dX6_kinds_72 : decode cX6_kinds 72 = .ok (.iadd, 1) := by decide +kernel
theorem dX6_kinds_73 : decode cX6_kinds 73 = .ok (.iaload, 1) := by decide +kernel
theorem dX6_kinds_74 : decode cX6_kinds 74 = .ok (.aload_n 0, 1) := by decide +kernel
theorem dX6_kinds_75 : decode cX6_kinds 75 = .ok (.getfield 35, 3) := by decide +kernel
theorem dX6_kinds_78 : decode cX6_kinds 78 = .ok (.iload 5, 2) := by decide +kernel
theorem dX6_kinds_80 : decode cX6_kinds 80 = .ok (.iaload, 1) := by decide +kernel
theorem dX6_kinds_81 : decode cX6_kinds 81 = .ok (.aload_n 0, 1) := by decide +kernel
theorem dX6_kinds_82 : decode cX6_kinds 82 = .ok (.getfield 38, 3) := by decide +kernel
theorem dX6_kinds_85 : decode cX6_kinds 85 = .ok (.iload 5, 2) := by decide +kernel
theorem dX6_kinds_87 : decode cX6_kinds 87 = .ok (.iaload, 1) := by decide +kernel
theorem dX6_kinds_88 : decode cX6_kinds 88 = .ok (.invokevirtual 150, 3) := by decide +kernel
theorem dX6_kinds_91 : decode cX6_kinds 91 = .ok (.ifCond .eq 7, 3) := by decide +kernel
theorem dX6_kinds_94 : decode cX6_kinds 94 = .ok (.iconst 1, 1) := by decide +kernel
theorem dX6_kinds_95 : decode cX6_kinds 95 = .ok (.goto 4, 3) := by decide +kernel
theorem dX6_kinds_98 : decode cX6_kinds 98 = .ok (.iconst 0, 1) := by decide +kernel
theorem dX6_kinds_99 : decode cX6_kinds 99 = .ok (.istore 6, 2) := by decide +kernel
theorem dX6_kinds_101 : decode cX6_kinds 101 = .ok (.iload 4, 2) := by decide +kernel
theorem dX6_kinds_103 : decode cX6_kinds 103 = .ok (.ifCond .eq 30, 3) := by decide +kernel
theorem dX6_kinds_106 : decode cX6_kinds 106 = .ok (.aload_n 0, 1) := by decide +kernel
theorem dX6_kinds_107 : decode cX6_kinds 107 = .ok (.getfield 29, 3) := by decide +kernel
theorem dX6_kinds_110 : decode cX6_kinds 110 = .ok (.iload 5, 2) := by decide +kernel
theorem dX6_kinds_112 : decode cX6_kinds 112 = .ok (.iaload, 1) := by decide +kernel
theorem dX6_kinds_113 : decode cX6_kinds 113 = .ok (.iload_n 1, 1) := by decide +kernel
theorem dX6_kinds_114 : decode cX6_kinds 114 = .ok (.if_icmp .ne 15, 3) := by decide +kernel
theorem dX6_kinds_117 : decode cX6_kinds 117 = .ok (.iload 6, 2) := by decide +kernel
theorem dX6_kinds_119 : decode cX6_kinds 119 = .ok (.aload_n 0, 1) := by decide +kernel
theorem dX6_kinds_120 : decode cX6_kinds 120 = .ok (.getfield 41, 3) := by decide +kernel
theorem dX6_kinds_123 : decode cX6_kinds 123 = .ok (.iload 5, 2) := by decide +kernel
theorem dX6_kinds_125 : decode cX6_kinds 125 = .ok (.baload, 1) := by decide +kernel
theorem dX6_kinds_126 : decode cX6_kinds 126 = .ok (.if_icmp .ne 7, 3) := by decide +kernel
theorem dX6_kinds_129 : decode cX6_kinds 129 = .ok (.iconst 1, 1) := by decide +kernel
theorem dX6_kinds_130 : decode cX6_kinds 130 = .ok (.goto 4, 3) := by decide +kernel
theorem dX6_kinds_133 : decode cX6_kinds 133 = .ok (.iconst 0, 1) := by decide +kernel
theorem dX6_kinds_134 : decode cX6_kinds 134 = .ok (.istore 4, 2) := by decide +kernel
theorem dX6_kinds_136 : decode cX6_kinds 136 = .ok (.iinc 5 1, 3) := by decide +kernel
theorem dX6_kinds_139 : decode cX6_kinds 139 = .ok (.goto (-114), 3) := by decide +kernel
theorem dX6_kinds_142 : decode cX6_kinds 142 = .ok (.iload_n 2, 1) := by decide +kernel
theorem dX6_kinds_143 : decode cX6_kinds 143 = .ok (.iload 4, 2) := by decide +kernel
theorem dX6_kinds_145 : decode cX6_kinds 145 = .ok (.ifCond .eq 9, 3) := by decide +kernel
theorem dX6_kinds_148 : decode cX6_kinds 148 = .ok (.iconst 1, 1) := by decide +kernel
theorem dX6_kinds_149 : decode cX6_kinds 149 = .ok (.iload_n 3, 1) := by decide +kernel
theorem dX6_kinds_150 : decode cX6_kinds 150 = .ok (.ishl, 1) := by decide +kernel
theorem dX6_kinds_151 : decode cX6_kinds 151 = .ok (.goto 4, 3) := by decide +kernel
theorem dX6_kinds_154 : decode cX6_kinds 154 = .ok (.iconst 0, 1) := by decide +kernel
theorem dX6_kinds_155 : decode cX6_kinds 155 = .ok (.ior, 1) := by decide +kernel
theorem dX6_kinds_156 : decode cX6_kinds 156 = .ok (.istore_n 2, 1) := by decide +kernel
theorem dX6_kinds_157 : decode cX6_kinds 157 = .ok (.iinc 3 1, 3) := by decide +kernel
theorem dX6_kinds_160 : decode cX6_kinds 160 = .ok (.goto (-146), 3) := by decide +kernel
theorem dX6_kinds_163 : decode cX6_kinds 163 = .ok (.iload_n 2, 1) := by decide +kernel
theorem dX6_kinds_164 : decode cX6_kinds 164 = .ok (.ireturn, 1) := by decide +kernel
theorem dX6_rain_0 : decode cX6_rain 0 = .ok (.aload_n 0, 1) := by decide +kernel
theorem dX6_rain_1 : decode cX6_rain 1 = .ok (.iload_n 1, 1) := by decide +kernel
theorem dX6_rain_2 : decode cX6_rain 2 = .ok (.invokevirtual 75, 3) := by decide +kernel
theorem dX6_rain_5 : decode cX6_rain 5 = .ok (.ifCond .eq 48, 3) := by decide +kernel
theorem dX6_rain_8 : decode cX6_rain 8 = .ok (.iload_n 2, 1) := by decide +kernel
theorem dX6_rain_9 : decode cX6_rain 9 = .ok (.iload_n 3, 1) := by decide +kernel
theorem dX6_rain_10 : decode cX6_rain 10 = .ok (.invokestatic 187, 3) := by decide +kernel
theorem dX6_rain_13 : decode cX6_rain 13 = .ok (.ifCond .eq 40, 3) := by decide +kernel
theorem dX6_rain_16 : decode cX6_rain 16 = .ok (.iload 4, 2) := by decide +kernel
theorem dX6_rain_18 : decode cX6_rain 18 = .ok (.i2l, 1) := by decide +kernel
theorem dX6_rain_19 : decode cX6_rain 19 = .ok (.lconst 0, 1) := by decide +kernel
theorem dX6_rain_20 : decode cX6_rain 20 = .ok (.ldc2_w 222, 3) := by decide +kernel
theorem dX6_rain_23 : decode cX6_rain 23 = .ok (.invokestatic 71, 3) := by decide +kernel
theorem dX6_rain_26 : decode cX6_rain 26 = .ok (.ifCond .eq 27, 3) := by decide +kernel
theorem dX6_rain_29 : decode cX6_rain 29 = .ok (.iload 5, 2) := by decide +kernel
theorem dX6_rain_31 : decode cX6_rain 31 = .ok (.i2l, 1) := by decide +kernel
theorem dX6_rain_32 : decode cX6_rain 32 = .ok (.lconst 0, 1) := by decide +kernel
theorem dX6_rain_33 : decode cX6_rain 33 = .ok (.ldc2_w 234, 3) := by decide +kernel
theorem dX6_rain_36 : decode cX6_rain 36 = .ok (.invokestatic 71, 3) := by decide +kernel
theorem dX6_rain_39 : decode cX6_rain 39 = .ok (.ifCond .eq 14, 3) := by decide +kernel
theorem dX6_rain_42 : decode cX6_rain 42 = .ok (.iload 6, 2) := by decide +kernel
theorem dX6_rain_44 : decode cX6_rain 44 = .ok (.i2l, 1) := by decide +kernel
theorem dX6_rain_45 : decode cX6_rain 45 = .ok (.lconst 0, 1) := by decide +kernel
theorem dX6_rain_46 : decode cX6_rain 46 = .ok (.lconst 1, 1) := by decide +kernel
theorem dX6_rain_47 : decode cX6_rain 47 = .ok (.invokestatic 71, 3) := by decide +kernel
theorem dX6_rain_50 : decode cX6_rain 50 = .ok (.ifCond .ne 5, 3) := by decide +kernel
theorem dX6_rain_53 : decode cX6_rain 53 = .ok (.iconst (-1), 1) := by decide +kernel
theorem dX6_rain_54 : decode cX6_rain 54 = .ok (.ireturn, 1) := by decide +kernel
theorem dX6_rain_55 : decode cX6_rain 55 = .ok (.aload_n 0, 1) := by decide +kernel
theorem dX6_rain_56 : decode cX6_rain 56 = .ok (.iconst 0, 1) := by decide +kernel
theorem dX6_rain_57 : decode cX6_rain 57 = .ok (.iload_n 1, 1) := by decide +kernel
theorem dX6_rain_58 : decode cX6_rain 58 = .ok (.invokevirtual 136, 3) := by decide +kernel
theorem dX6_rain_61 : decode cX6_rain 61 = .ok (.ifCond .ne 6, 3) := by decide +kernel
theorem dX6_rain_64 : decode cX6_rain 64 = .ok (.bipush (-2), 2) := by decide +kernel
theorem dX6_rain_66 : decode cX6_rain 66 = .ok (.ireturn, 1) := by decide +kernel
theorem dX6_rain_67 : decode cX6_rain 67 = .ok (.aload_n 0, 1) := by decide +kernel
theorem dX6_rain_68 : decode cX6_rain 68 = .ok (.iconst 0, 1) := by decide +kernel
theorem dX6_rain_69 : decode cX6_rain 69 = .ok (.iload_n 1, 1) := by decide +kernel
theorem dX6_rain_70 : decode cX6_rain 70 = .ok (.iload_n 2, 1) := by decide +kernel
theorem dX6_rain_71 : decode cX6_rain 71 = .ok (.iload_n 3, 1) := by decide +kernel
theorem dX6_rain_72 : decode cX6_rain 72 = .ok (.invokevirtual 178, 3) := by decide +kernel
theorem dX6_rain_75 : decode cX6_rain 75 = .ok (.invokestatic 209, 3) := by decide +kernel
theorem dX6_rain_78 : decode cX6_rain 78 = .ok (.istore 7, 2) := by decide +kernel
theorem dX6_rain_80 : decode cX6_rain 80 = .ok (.iconst 0, 1) := by decide +kernel
theorem dX6_rain_81 : decode cX6_rain 81 = .ok (.istore 8, 2) := by decide +kernel
theorem dX6_rain_83 : decode cX6_rain 83 = .ok (.iconst 0, 1) := by decide +kernel
theorem dX6_rain_84 : decode cX6_rain 84 = .ok (.istore 9, 2) := by decide +kernel
theorem dX6_rain_86 : decode cX6_rain 86 = .ok (.iconst 0, 1) := by decide +kernel
theorem dX6_rain_87 : decode cX6_rain 87 = .ok (.istore 10, 2) := by decide +kernel
theorem dX6_rain_89 : decode cX6_rain 89 = .ok (.iload 10, 2) := by decide +kernel
theorem dX6_rain_91 : decode cX6_rain 91 = .ok (.iconst 1, 1) := by decide +kernel
theorem dX6_rain_92 : decode cX6_rain 92 = .ok (.iload 7, 2) := by decide +kernel
theorem dX6_rain_94 : decode cX6_rain 94 = .ok (.ishl, 1) := by decide +kernel
theorem dX6_rain_95 : decode cX6_rain 95 = .ok (.if_icmp .ge 81, 3) := by decide +kernel
theorem dX6_rain_98 : decode cX6_rain 98 = .ok (.iconst 1, 1) := by decide +kernel
theorem dX6_rain_99 : decode cX6_rain 99 = .ok (.istore 11, 2) := by decide +kernel
theorem dX6_rain_101 : decode cX6_rain 101 = .ok (.iconst 0, 1) := by decide +kernel
theorem dX6_rain_102 : decode cX6_rain 102 = .ok (.istore 12, 2) := by decide +kernel
theorem dX6_rain_104 : decode cX6_rain 104 = .ok (.iload 12, 2) := by decide +kernel
theorem dX6_rain_106 : decode cX6_rain 106 = .ok (.iload 7, 2) := by decide +kernel
theorem dX6_rain_108 : decode cX6_rain 108 = .ok (.if_icmp .ge 34, 3) := by decide +kernel
theorem dX6_rain_111 : decode cX6_rain 111 = .ok (.iload 11, 2) := by decide +kernel
theorem dX6_rain_113 : decode cX6_rain 113 = .ok (.iload 10, 2) := by decide +kernel
theorem dX6_rain_115 : decode cX6_rain 115 = .ok (.iload 12, 2) := by decide +kernel
theorem dX6_rain_117 : decode cX6_rain 117 = .ok (.invokestatic 132, 3) := by decide +kernel
theorem dX6_rain_120 : decode cX6_rain 120 = .ok (.ifCond .eq 8, 3) := by decide +kernel
theorem dX6_rain_123 : decode cX6_rain 123 = .ok (.iload 5, 2) := by decide +kernel
theorem dX6_rain_125 : decode cX6_rain 125 = .ok (.goto 8, 3) := by decide +kernel
theorem dX6_rain_128 : decode cX6_rain 128 = .ok (.bipush 10, 2) := by decide +kernel
theorem dX6_rain_130 : decode cX6_rain 130 = .ok (.iload 5, 2) := by decide +kernel
theorem dX6_rain_132 : decode cX6_rain 132 = .ok (.isub, 1) := by decide +kernel
theorem dX6_rain_133 : decode cX6_rain 133 = .ok (.imul, 1) := by decide +kernel
theorem dX6_rain_134 : decode cX6_rain 134 = .ok (.istore 11, 2) := by decide +kernel
theorem dX6_rain_136 : decode cX6_rain 136 = .ok (.iinc 12 1, 3) := by decide +kernel
theorem dX6_rain_139 : decode cX6_rain 139 = .ok (.goto (-35), 3) := by decide +kernel
theorem dX6_rain_142 : decode cX6_rain 142 = .ok (.iload 9, 2) := by decide +kernel
theorem dX6_rain_144 : decode cX6_rain 144 = .ok (.iload 11, 2) := by decide +kernel
theorem dX6_rain_146 : decode cX6_rain 146 = .ok (.iadd, 1) := by decide +kernel
theorem dX6_rain_147 : decode cX6_rain 147 = .ok (.istore 9, 2) := by decide +kernel
theorem dX6_rain_149 : decode cX6_rain 149 = .ok (.iload 8, 2) := by decide +kernel
theorem dX6_rain_151 : decode cX6_rain 151 = .ok (.iload 10, 2) := by decide +kernel
theorem dX6_rain_153 : decode cX6_rain 153 = .ok (.invokestatic 209, 3) := by decide +kernel
theorem dX6_rain_156 : decode cX6_rain 156 = .ok (.iload 4, 2) := by decide +kernel
theorem dX6_rain_158 : decode cX6_rain 158 = .ok (.if_icmp .lt 8, 3) := by decide +kernel
theorem dX6_rain_161 : decode cX6_rain 161 = .ok (.iload 11, 2) := by decide +kernel
theorem dX6_rain_163 : decode cX6_rain 163 = .ok (.goto 4, 3) := by decide +kernel
theorem dX6_rain_166 : decode cX6_rain 166 = .ok (.iconst 0, 1) := by decide +kernel
theorem dX6_rain_167 : decode cX6_rain 167 = .ok (.iadd, 1) := by decide +kernel
theorem dX6_rain_168 : decode cX6_rain 168 = .ok (.istore 8, 2) := by decide +kernel
theorem dX6_rain_170 : decode cX6_rain 170 = .ok (.iinc 10 1, 3) := by decide +kernel
theorem dX6_rain_173 : decode cX6_rain 173 = .ok (.goto (-84), 3) := by decide +kernel
theorem dX6_rain_176 : decode cX6_rain 176 = .ok (.iload 8, 2) := by decide +kernel
theorem dX6_rain_178 : decode cX6_rain 178 = .ok (.istore 10, 2) := by decide +kernel
theorem dX6_rain_180 : decode cX6_rain 180 = .ok (.iload 9, 2) := by decide +kernel
theorem dX6_rain_182 : decode cX6_rain 182 = .ok (.istore 11, 2) := by decide +kernel
theorem dX6_rain_184 : decode cX6_rain 184 = .ok (.iload 11, 2) := by decide +kernel
theorem dX6_rain_186 : decode cX6_rain 186 = .ok (.ifCond .eq 21, 3) := by decide +kernel
theorem dX6_rain_189 : decode cX6_rain 189 = .ok (.iload 10, 2) := by decide +kernel
theorem dX6_rain_191 : decode cX6_rain 191 = .ok (.iload 11, 2) := by decide +kernel
theorem dX6_rain_193 : decode cX6_rain 193 = .ok (.irem, 1) := by decide +kernel
theorem dX6_rain_194 : decode cX6_rain 194 = .ok (.istore 12, 2) := by decide +kernel
theorem dX6_rain_196 : decode cX6_rain 196 = .ok (.iload 11, 2) := by decide +kernel
theorem dX6_rain_198 : decode cX6_rain 198 = .ok (.istore 10, 2) := by decide +kernel
theorem dX6_rain_200 : decode cX6_rain 200 = .ok (.iload 12, 2) := by decide +kernel
theorem dX6_rain_202 : decode cX6_rain 202 = .ok (.istore 11, 2) := by decide +kernel
theorem dX6_rain_204 : decode cX6_rain 204 = .ok (.goto (-20), 3) := by decide +kernel
theorem dX6_rain_207 : decode cX6_rain 207 = .ok (.iload 6, 2) := by decide +kernel
theorem dX6_rain_209 : decode cX6_rain 209 = .ok (.ifCond .ne 11, 3) := by decide +kernel
theorem dX6_rain_212 : decode cX6_rain 212 = .ok (.iload 8, 2) := by decide +kernel
theorem dX6_rain_214 : decode cX6_rain 214 = .ok (.iload 10, 2) := by decide +kernel
theorem dX6_rain_216 : decode cX6_rain 216 = .ok (.idiv, 1) := by decide +kernel
theorem dX6_rain_217 : decode cX6_rain 217 = .ok (.goto 8, 3) := by decide +kernel
theorem dX6_rain_220 : decode cX6_rain 220 = .ok (.iload 9, 2) := by decide +kernel
theorem dX6_rain_222 : decode cX6_rain 222 = .ok (.iload 10, 2) := by decide +kernel
theorem dX6_rain_224 : decode cX6_rain 224 = .ok (.idiv, 1) := by decide +kernel
theorem dX6_rain_225 : decode cX6_rain 225 = .ok (.ireturn, 1) := by decide +kernel
theorem dX6_allCoins_0 : decode cX6_allCoins 0 = .ok (.iconst 0, 1) := by decide +kernel
theorem dX6_allCoins_1 : decode cX6_allCoins 1 = .ok (.istore_n 2, 1) := by decide +kernel
theorem dX6_allCoins_2 : decode cX6_allCoins 2 = .ok (.iconst 0, 1) := by decide +kernel
theorem dX6_allCoins_3 : decode cX6_allCoins 3 = .ok (.istore_n 3, 1) := by decide +kernel
theorem dX6_allCoins_4 : decode cX6_allCoins 4 = .ok (.iload_n 3, 1) := by decide +kernel
theorem dX6_allCoins_5 : decode cX6_allCoins 5 = .ok (.aload_n 0, 1) := by decide +kernel
theorem dX6_allCoins_6 : decode cX6_allCoins 6 = .ok (.getfield 65, 3) := by decide +kernel
theorem dX6_allCoins_9 : decode cX6_allCoins 9 = .ok (.if_icmp .ge 20, 3) := by decide +kernel
theorem dX6_allCoins_12 : decode cX6_allCoins 12 = .ok (.iload_n 2, 1) := by decide +kernel
theorem dX6_allCoins_13 : decode cX6_allCoins 13 = .ok (.aload_n 0, 1) := by decide +kernel
theorem dX6_allCoins_14 : decode cX6_allCoins 14 = .ok (.getfield 22, 3) := by decide +kernel
theorem dX6_allCoins_17 : decode cX6_allCoins 17 = .ok (.iload_n 1, 1) := by decide +kernel
theorem dX6_allCoins_18 : decode cX6_allCoins 18 = .ok (.iload_n 3, 1) := by decide +kernel
theorem dX6_allCoins_19 : decode cX6_allCoins 19 = .ok (.iadd, 1) := by decide +kernel
theorem dX6_allCoins_20 : decode cX6_allCoins 20 = .ok (.iaload, 1) := by decide +kernel
theorem dX6_allCoins_21 : decode cX6_allCoins 21 = .ok (.iadd, 1) := by decide +kernel
theorem dX6_allCoins_22 : decode cX6_allCoins 22 = .ok (.istore_n 2, 1) := by decide +kernel
theorem dX6_allCoins_23 : decode cX6_allCoins 23 = .ok (.iinc 3 1, 3) := by decide +kernel
theorem dX6_allCoins_26 : decode cX6_allCoins 26 = .ok (.goto (-22), 3) := by decide +kernel
theorem dX6_allCoins_29 : decode cX6_allCoins 29 = .ok (.iload_n 2, 1) := by decide +kernel
theorem dX6_allCoins_30 : decode cX6_allCoins 30 = .ok (.ireturn, 1) := by decide +kernel
theorem dX6_year_0 : decode cX6_year 0 = .ok (.iload_n 1, 1) := by decide +kernel
theorem dX6_year_1 : decode cX6_year 1 = .ok (.i2l, 1) := by decide +kernel
theorem dX6_year_2 : decode cX6_year 2 = .ok (.lconst 0, 1) := by decide +kernel
theorem dX6_year_3 : decode cX6_year 3 = .ok (.ldc2_w 236, 3) := by decide +kernel
theorem dX6_year_6 : decode cX6_year 6 = .ok (.invokestatic 71, 3) := by decide +kernel
theorem dX6_year_9 : decode cX6_year 9 = .ok (.ifCond .eq 25, 3) := by decide +kernel
theorem dX6_year_12 : decode cX6_year 12 = .ok (.iload_n 2, 1) := by decide +kernel
theorem dX6_year_13 : decode cX6_year 13 = .ok (.i2l, 1) := by decide +kernel
theorem dX6_year_14 : decode cX6_year 14 = .ok (.lconst 1, 1) := by decide +kernel
theorem dX6_year_15 : decode cX6_year 15 = .ok (.ldc2_w 238, 3) := by decide +kernel
theorem dX6_year_18 : decode cX6_year 18 = .ok (.invokestatic 71, 3) := by decide +kernel
theorem dX6_year_21 : decode cX6_year 21 = .ok (.ifCond .eq 13, 3) := by decide +kernel
theorem dX6_year_24 : decode cX6_year 24 = .ok (.iload_n 3, 1) := by decide +kernel
theorem dX6_year_25 : decode cX6_year 25 = .ok (.i2l, 1) := by decide +kernel
theorem dX6_year_26 : decode cX6_year 26 = .ok (.lconst 0, 1) := by decide +kernel
theorem dX6_year_27 : decode cX6_year 27 = .ok (.lconst 1, 1) := by decide +kernel
theorem dX6_year_28 : decode cX6_year 28 = .ok (.invokestatic 71, 3) := by decide +kernel
theorem dX6_year_31 : decode cX6_year 31 = .ok (.ifCond .ne 5, 3) := by decide +kernel
theorem dX6_year_34 : decode cX6_year 34 = .ok (.iconst (-1), 1) := by decide +kernel
theorem dX6_year_35 : decode cX6_year 35 = .ok (.ireturn, 1) := by decide +kernel
theorem dX6_year_36 : decode cX6_year 36 = .ok (.aload_n 0, 1) := by decide +kernel
theorem dX6_year_37 : decode cX6_year 37 = .ok (.iconst 0, 1) := by decide +kernel
theorem dX6_year_38 : decode cX6_year 38 = .ok (.sipush 902, 3) := by decide +kernel
theorem dX6_year_41 : decode cX6_year 41 = .ok (.invokevirtual 119, 3) := by decide +kernel
theorem dX6_year_44 : decode cX6_year 44 = .ok (.iconst 0, 1) := by decide +kernel
theorem dX6_year_45 : decode cX6_year 45 = .ok (.istore 4, 2) := by decide +kernel
theorem dX6_year_47 : decode cX6_year 47 = .ok (.iconst 0, 1) := by decide +kernel
theorem dX6_year_48 : decode cX6_year 48 = .ok (.istore 5, 2) := by decide +kernel
theorem dX6_year_50 : decode cX6_year 50 = .ok (.iload 5, 2) := by decide +kernel
theorem dX6_year_52 : decode cX6_year 52 = .ok (.iload_n 2, 1) := by decide +kernel
theorem dX6_year_53 : decode cX6_year 53 = .ok (.if_icmp .ge 167, 3) := by decide +kernel
theorem dX6_year_56 : decode cX6_year 56 = .ok (.ldc2_w 240, 3) := by decide +kernel
theorem dX6_year_59 : decode cX6_year 59 = .ok (.iload_n 1, 1) := by decide +kernel
theorem dX6_year_60 : decode cX6_year 60 = .ok (.i2l, 1) := by decide +kernel
theorem dX6_year_61 : decode cX6_year 61 = .ok (.lmul, 1) := by decide +kernel
theorem dX6_year_62 : decode cX6_year 62 = .ok (.ldc2_w 242, 3) := by decide +kernel
theorem dX6_year_65 : decode cX6_year 65 = .ok (.iload 5, 2) := by decide +kernel
theorem dX6_year_67 : decode cX6_year 67 = .ok (.i2l, 1) := by decide +kernel
theorem dX6_year_68 : decode cX6_year 68 = .ok (.lmul, 1) := by decide +kernel
theorem dX6_year_69 : decode cX6_year 69 = .ok (.ladd, 1) := by decide +kernel
theorem dX6_year_70 : decode cX6_year 70 = .ok (.lconst 1, 1) := by decide +kernel
theorem dX6_year_71 : decode cX6_year 71 = .ok (.ladd, 1) := by decide +kernel
theorem dX6_year_72 : decode cX6_year 72 = .ok (.lstore 6, 2) := by decide +kernel
theorem dX6_year_74 : decode cX6_year 74 = .ok (.lload 6, 2) := by decide +kernel
theorem dX6_year_76 : decode cX6_year 76 = .ok (.lload 6, 2) := by decide +kernel
theorem dX6_year_78 : decode cX6_year 78 = .ok (.lmul, 1) := by decide +kernel
theorem dX6_year_79 : decode cX6_year 79 = .ok (.ldc2_w 244, 3) := by decide +kernel
theorem dX6_year_82 : decode cX6_year 82 = .ok (.lrem, 1) := by decide +kernel
theorem dX6_year_83 : decode cX6_year 83 = .ok (.l2i, 1) := by decide +kernel
theorem dX6_year_84 : decode cX6_year 84 = .ok (.istore 8, 2) := by decide +kernel
theorem dX6_year_86 : decode cX6_year 86 = .ok (.iload 8, 2) := by decide +kernel
theorem dX6_year_88 : decode cX6_year 88 = .ok (.aload_n 0, 1) := by decide +kernel
theorem dX6_year_89 : decode cX6_year 89 = .ok (.getfield 65, 3) := by decide +kernel
theorem dX6_year_92 : decode cX6_year 92 = .ok (.irem, 1) := by decide +kernel
theorem dX6_year_93 : decode cX6_year 93 = .ok (.istore 9, 2) := by decide +kernel
theorem dX6_year_95 : decode cX6_year 95 = .ok (.iload 8, 2) := by decide +kernel
theorem dX6_year_97 : decode cX6_year 97 = .ok (.sipush 128, 3) := by decide +kernel
theorem dX6_year_100 : decode cX6_year 100 = .ok (.idiv, 1) := by decide +kernel
theorem dX6_year_101 : decode cX6_year 101 = .ok (.aload_n 0, 1) := by decide +kernel
theorem dX6_year_102 : decode cX6_year 102 = .ok (.getfield 65, 3) := by decide +kernel
theorem dX6_year_105 : decode cX6_year 105 = .ok (.irem, 1) := by decide +kernel
theorem dX6_year_106 : decode cX6_year 106 = .ok (.istore 10, 2) := by decide +kernel
theorem dX6_year_108 : decode cX6_year 108 = .ok (.aload_n 0, 1) := by decide +kernel
theorem dX6_year_109 : decode cX6_year 109 = .ok (.sipush 902, 3) := by decide +kernel
theorem dX6_year_112 : decode cX6_year 112 = .ok (.iload 9, 2) := by decide +kernel
theorem dX6_year_114 : decode cX6_year 114 = .ok (.iload 8, 2) := by decide +kernel
theorem dX6_year_116 : decode cX6_year 116 = .ok (.bipush 8, 2) := by decide +kernel
theorem dX6_year_118 : decode cX6_year 118 = .ok (.idiv, 1) := by decide +kernel
theorem dX6_year_119 : decode cX6_year 119 = .ok (.iconst 4, 1) := by decide +kernel
theorem dX6_year_120 : decode cX6_year 120 = .ok (.irem, 1) := by decide +kernel
theorem dX6_year_121 : decode cX6_year 121 = .ok (.iload 8, 2) := by decide +kernel
theorem dX6_year_123 : decode cX6_year 123 = .ok (.bipush 32, 2) := by decide +kernel
theorem dX6_year_125 : decode cX6_year 125 = .ok (.idiv, 1) := by decide +kernel
theorem dX6_year_126 : decode cX6_year 126 = .ok (.iconst 4, 1) := by decide +kernel
theorem dX6_year_127 : decode cX6_year 127 = .ok (.irem, 1) := by decide +kernel
theorem dX6_year_128 : decode cX6_year 128 = .ok (.invokevirtual 190, 3) := by decide +kernel
theorem dX6_year_131 : decode cX6_year 131 = .ok (.ifCond .eq 37, 3) := by decide +kernel
theorem dX6_year_134 : decode cX6_year 134 = .ok (.iload 4, 2) := by decide +kernel
theorem dX6_year_136 : decode cX6_year 136 = .ok (.aload_n 0, 1) := by decide +kernel
theorem dX6_year_137 : decode cX6_year 137 = .ok (.sipush 902, 3) := by decide +kernel
theorem dX6_year_140 : decode cX6_year 140 = .ok (.iload 9, 2) := by decide +kernel
theorem dX6_year_142 : decode cX6_year 142 = .ok (.iload 8, 2) := by decide +kernel
theorem dX6_year_144 : decode cX6_year 144 = .ok (.bipush 8, 2) := by decide +kernel
theorem dX6_year_146 : decode cX6_year 146 = .ok (.idiv, 1) := by decide +kernel
theorem dX6_year_147 : decode cX6_year 147 = .ok (.iconst 4, 1) := by decide +kernel
theorem dX6_year_148 : decode cX6_year 148 = .ok (.irem, 1) := by decide +kernel
theorem dX6_year_149 : decode cX6_year 149 = .ok (.iload 8, 2) := by decide +kernel
theorem dX6_year_151 : decode cX6_year 151 = .ok (.bipush 32, 2) := by decide +kernel
theorem dX6_year_153 : decode cX6_year 153 = .ok (.idiv, 1) := by decide +kernel
theorem dX6_year_154 : decode cX6_year 154 = .ok (.iconst 4, 1) := by decide +kernel
theorem dX6_year_155 : decode cX6_year 155 = .ok (.irem, 1) := by decide +kernel
theorem dX6_year_156 : decode cX6_year 156 = .ok (.invokevirtual 197, 3) := by decide +kernel
theorem dX6_year_159 : decode cX6_year 159 = .ok (.invokestatic 209, 3) := by decide +kernel
theorem dX6_year_162 : decode cX6_year 162 = .ok (.iadd, 1) := by decide +kernel
theorem dX6_year_163 : decode cX6_year 163 = .ok (.istore 4, 2) := by decide +kernel
theorem dX6_year_165 : decode cX6_year 165 = .ok (.goto 28, 3) := by decide +kernel
theorem dX6_year_168 : decode cX6_year 168 = .ok (.aload_n 0, 1) := by decide +kernel
theorem dX6_year_169 : decode cX6_year 169 = .ok (.sipush 902, 3) := by decide +kernel
theorem dX6_year_172 : decode cX6_year 172 = .ok (.iload 9, 2) := by decide +kernel
theorem dX6_year_174 : decode cX6_year 174 = .ok (.iload 10, 2) := by decide +kernel
theorem dX6_year_176 : decode cX6_year 176 = .ok (.invokevirtual 200, 3) := by decide +kernel
theorem dX6_year_179 : decode cX6_year 179 = .ok (.ifCond .eq 14, 3) := by decide +kernel
theorem dX6_year_182 : decode cX6_year 182 = .ok (.aload_n 0, 1) := by decide +kernel
theorem dX6_year_183 : decode cX6_year 183 = .ok (.sipush 902, 3) := by decide +kernel
theorem dX6_year_186 : decode cX6_year 186 = .ok (.iload 9, 2) := by decide +kernel
theorem dX6_year_188 : decode cX6_year 188 = .ok (.iload 10, 2) := by decide +kernel
theorem dX6_year_190 : decode cX6_year 190 = .ok (.invokevirtual 204, 3) := by decide +kernel
theorem dX6_year_193 : decode cX6_year 193 = .ok (.aload_n 0, 1) := by decide +kernel
theorem dX6_year_194 : decode cX6_year 194 = .ok (.getfield 22, 3) := by decide +kernel
theorem dX6_year_197 : decode cX6_year 197 = .ok (.sipush 910, 3) := by decide +kernel
theorem dX6_year_200 : decode cX6_year 200 = .ok (.dup2, 1) := by decide +kernel
theorem dX6_year_201 : decode cX6_year 201 = .ok (.iaload, 1) := by decide +kernel
theorem dX6_year_202 : decode cX6_year 202 = .ok (.iconst 1, 1) := by decide +kernel
theorem dX6_year_203 : decode cX6_year 203 = .ok (.iadd, 1) := by decide +kernel
theorem dX6_year_204 : decode cX6_year 204 = .ok (.iastore, 1) := by decide +kernel
theorem dX6_year_205 : decode cX6_year 205 = .ok (.aload_n 0, 1) := by decide +kernel
theorem dX6_year_206 : decode cX6_year 206 = .ok (.getfield 22, 3) := by decide +kernel
theorem dX6_year_209 : decode cX6_year 209 = .ok (.sipush 911, 3) := by decide +kernel
theorem dX6_year_212 : decode cX6_year 212 = .ok (.iconst 0, 1) := by decide +kernel
theorem dX6_year_213 : decode cX6_year 213 = .ok (.iastore, 1) := by decide +kernel
theorem dX6_year_214 : decode cX6_year 214 = .ok (.iinc 5 1, 3) := by decide +kernel
theorem dX6_year_217 : decode cX6_year 217 = .ok (.goto (-167), 3) := by decide +kernel
theorem dX6_year_220 : decode cX6_year 220 = .ok (.iload_n 3, 1) := by decide +kernel
theorem dX6_year_221 : decode cX6_year 221 = .ok (.ifCond .ne 8, 3) := by decide +kernel
theorem dX6_year_224 : decode cX6_year 224 = .ok (.iload 4, 2) := by decide +kernel
theorem dX6_year_226 : decode cX6_year 226 = .ok (.goto 10, 3) := by decide +kernel
theorem dX6_year_229 : decode cX6_year 229 = .ok (.aload_n 0, 1) := by decide +kernel
theorem dX6_year_230 : decode cX6_year 230 = .ok (.sipush 902, 3) := by decide +kernel
theorem dX6_year_233 : decode cX6_year 233 = .ok (.invokevirtual 246, 3) := by decide +kernel
theorem dX6_year_236 : decode cX6_year 236 = .ok (.ireturn, 1) := by decide +kernel
theorem dX6_keep_0 : decode cX6_keep 0 = .ok (.aload_n 0, 1) := by decide +kernel
theorem dX6_keep_1 : decode cX6_keep 1 = .ok (.getfield 126, 3) := by decide +kernel
theorem dX6_keep_4 : decode cX6_keep 4 = .ok (.iconst 2, 1) := by decide +kernel
theorem dX6_keep_5 : decode cX6_keep 5 = .ok (.if_icmp .ne 6, 3) := by decide +kernel
theorem dX6_keep_8 : decode cX6_keep 8 = .ok (.bipush (-3), 2) := by decide +kernel
theorem dX6_keep_10 : decode cX6_keep 10 = .ok (.ireturn, 1) := by decide +kernel
theorem dX6_keep_11 : decode cX6_keep 11 = .ok (.aload_n 0, 1) := by decide +kernel
theorem dX6_keep_12 : decode cX6_keep 12 = .ok (.iconst 0, 1) := by decide +kernel
theorem dX6_keep_13 : decode cX6_keep 13 = .ok (.bipush 9, 2) := by decide +kernel
theorem dX6_keep_15 : decode cX6_keep 15 = .ok (.aload_n 0, 1) := by decide +kernel
theorem dX6_keep_16 : decode cX6_keep 16 = .ok (.getfield 126, 3) := by decide +kernel
theorem dX6_keep_19 : decode cX6_keep 19 = .ok (.iadd, 1) := by decide +kernel
theorem dX6_keep_20 : decode cX6_keep 20 = .ok (.bipush 82, 2) := by decide +kernel
theorem dX6_keep_22 : decode cX6_keep 22 = .ok (.imul, 1) := by decide +kernel
theorem dX6_keep_23 : decode cX6_keep 23 = .ok (.invokevirtual 119, 3) := by decide +kernel
theorem dX6_keep_26 : decode cX6_keep 26 = .ok (.aload_n 0, 1) := by decide +kernel
theorem dX6_keep_27 : decode cX6_keep 27 = .ok (.dup, 1) := by decide +kernel
theorem dX6_keep_28 : decode cX6_keep 28 = .ok (.getfield 126, 3) := by decide +kernel
theorem dX6_keep_31 : decode cX6_keep 31 = .ok (.iconst 1, 1) := by decide +kernel
theorem dX6_keep_32 : decode cX6_keep 32 = .ok (.iadd, 1) := by decide +kernel
theorem dX6_keep_33 : decode cX6_keep 33 = .ok (.putfield 126, 3) := by decide +kernel
theorem dX6_keep_36 : decode cX6_keep 36 = .ok (.aload_n 0, 1) := by decide +kernel
theorem dX6_keep_37 : decode cX6_keep 37 = .ok (.getfield 126, 3) := by decide +kernel
theorem dX6_keep_40 : decode cX6_keep 40 = .ok (.ireturn, 1) := by decide +kernel
theorem dX6_back_0 : decode cX6_back 0 = .ok (.aload_n 0, 1) := by decide +kernel
theorem dX6_back_1 : decode cX6_back 1 = .ok (.getfield 126, 3) := by decide +kernel
theorem dX6_back_4 : decode cX6_back 4 = .ok (.ifCond .ne 6, 3) := by decide +kernel
theorem dX6_back_7 : decode cX6_back 7 = .ok (.bipush (-2), 2) := by decide +kernel
theorem dX6_back_9 : decode cX6_back 9 = .ok (.ireturn, 1) := by decide +kernel
theorem dX6_back_10 : decode cX6_back 10 = .ok (.aload_n 0, 1) := by decide +kernel
theorem dX6_back_11 : decode cX6_back 11 = .ok (.dup, 1) := by decide +kernel
theorem dX6_back_12 : decode cX6_back 12 = .ok (.getfield 126, 3) := by decide +kernel
theorem dX6_back_15 : decode cX6_back 15 = .ok (.iconst 1, 1) := by decide +kernel
theorem dX6_back_16 : decode cX6_back 16 = .ok (.isub, 1) := by decide +kernel
theorem dX6_back_17 : decode cX6_back 17 = .ok (.putfield 126, 3) := by decide +kernel
theorem dX6_back_20 : decode cX6_back 20 = .ok (.aload_n 0, 1) := by decide +kernel
theorem dX6_back_21 : decode cX6_back 21 = .ok (.bipush 9, 2) := by decide +kernel
theorem dX6_back_23 : decode cX6_back 23 = .ok (.aload_n 0, 1) := by decide +kernel
theorem dX6_back_24 : decode cX6_back 24 = .ok (.getfield 126, 3) := by decide +kernel
theorem dX6_back_27 : decode cX6_back 27 = .ok (.iadd, 1) := by decide +kernel
theorem dX6_back_28 : decode cX6_back 28 = .ok (.bipush 82, 2) := by decide +kernel
theorem dX6_back_30 : decode cX6_back 30 = .ok (.imul, 1) := by decide +kernel
theorem dX6_back_31 : decode cX6_back 31 = .ok (.iconst 0, 1) := by decide +kernel
theorem dX6_back_32 : decode cX6_back 32 = .ok (.invokevirtual 119, 3) := by decide +kernel
theorem dX6_back_35 : decode cX6_back 35 = .ok (.aload_n 0, 1) := by decide +kernel
theorem dX6_back_36 : decode cX6_back 36 = .ok (.iconst 0, 1) := by decide +kernel
theorem dX6_back_37 : decode cX6_back 37 = .ok (.putfield 123, 3) := by decide +kernel
theorem dX6_back_40 : decode cX6_back 40 = .ok (.aload_n 0, 1) := by decide +kernel
theorem dX6_back_41 : decode cX6_back 41 = .ok (.getfield 126, 3) := by decide +kernel
theorem dX6_back_44 : decode cX6_back 44 = .ok (.ireturn, 1) := by decide +kernel
theorem dX6_allOwed_0 : decode cX6_allOwed 0 = .ok (.iconst 0, 1) := by decide +kernel
theorem dX6_allOwed_1 : decode cX6_allOwed 1 = .ok (.istore_n 1, 1) := by decide +kernel
theorem dX6_allOwed_2 : decode cX6_allOwed 2 = .ok (.iconst 0, 1) := by decide +kernel
theorem dX6_allOwed_3 : decode cX6_allOwed 3 = .ok (.istore_n 2, 1) := by decide +kernel
theorem dX6_allOwed_4 : decode cX6_allOwed 4 = .ok (.iload_n 2, 1) := by decide +kernel
theorem dX6_allOwed_5 : decode cX6_allOwed 5 = .ok (.bipush 36, 2) := by decide +kernel
theorem dX6_allOwed_7 : decode cX6_allOwed 7 = .ok (.if_icmp .ge 21, 3) := by decide +kernel
theorem dX6_allOwed_10 : decode cX6_allOwed 10 = .ok (.iload_n 1, 1) := by decide +kernel
theorem dX6_allOwed_11 : decode cX6_allOwed 11 = .ok (.aload_n 0, 1) := by decide +kernel
theorem dX6_allOwed_12 : decode cX6_allOwed 12 = .ok (.getfield 22, 3) := by decide +kernel
theorem dX6_allOwed_15 : decode cX6_allOwed 15 = .ok (.bipush 46, 2) := by decide +kernel
theorem dX6_allOwed_17 : decode cX6_allOwed 17 = .ok (.iload_n 2, 1) := by decide +kernel
theorem dX6_allOwed_18 : decode cX6_allOwed 18 = .ok (.iadd, 1) := by decide +kernel
theorem dX6_allOwed_19 : decode cX6_allOwed 19 = .ok (.iaload, 1) := by decide +kernel
theorem dX6_allOwed_20 : decode cX6_allOwed 20 = .ok (.iadd, 1) := by decide +kernel
theorem dX6_allOwed_21 : decode cX6_allOwed 21 = .ok (.istore_n 1, 1) := by decide +kernel
theorem dX6_allOwed_22 : decode cX6_allOwed 22 = .ok (.iinc 2 1, 3) := by decide +kernel
theorem dX6_allOwed_25 : decode cX6_allOwed 25 = .ok (.goto (-21), 3) := by decide +kernel
theorem dX6_allOwed_28 : decode cX6_allOwed 28 = .ok (.iload_n 1, 1) := by decide +kernel
theorem dX6_allOwed_29 : decode cX6_allOwed 29 = .ok (.ireturn, 1) := by decide +kernel
theorem dX6_count_0 : decode cX6_count 0 = .ok (.iload_n 1, 1) := by decide +kernel
theorem dX6_count_1 : decode cX6_count 1 = .ok (.ifCond .ne 10, 3) := by decide +kernel
theorem dX6_count_4 : decode cX6_count 4 = .ok (.aload_n 0, 1) := by decide +kernel
theorem dX6_count_5 : decode cX6_count 5 = .ok (.getfield 65, 3) := by decide +kernel
theorem dX6_count_8 : decode cX6_count 8 = .ok (.goto 153, 3) := by decide +kernel
theorem dX6_count_11 : decode cX6_count 11 = .ok (.iload_n 1, 1) := by decide +kernel
theorem dX6_count_12 : decode cX6_count 12 = .ok (.iconst 1, 1) := by decide +kernel
theorem dX6_count_13 : decode cX6_count 13 = .ok (.if_icmp .ne 21, 3) := by decide +kernel
theorem dX6_count_16 : decode cX6_count 16 = .ok (.aload_n 0, 1) := by decide +kernel
theorem dX6_count_17 : decode cX6_count 17 = .ok (.getfield 65, 3) := by decide +kernel
theorem dX6_count_20 : decode cX6_count 20 = .ok (.aload_n 0, 1) := by decide +kernel
theorem dX6_count_21 : decode cX6_count 21 = .ok (.getfield 22, 3) := by decide +kernel
theorem dX6_count_24 : decode cX6_count 24 = .ok (.bipush 6, 2) := by decide +kernel
theorem dX6_count_26 : decode cX6_count 26 = .ok (.iaload, 1) := by decide +kernel
theorem dX6_count_27 : decode cX6_count 27 = .ok (.invokestatic 209, 3) := by decide +kernel
theorem dX6_count_30 : decode cX6_count 30 = .ok (.isub, 1) := by decide +kernel
theorem dX6_count_31 : decode cX6_count 31 = .ok (.goto 130, 3) := by decide +kernel
theorem dX6_count_34 : decode cX6_count 34 = .ok (.iload_n 1, 1) := by decide +kernel
theorem dX6_count_35 : decode cX6_count 35 = .ok (.iconst 2, 1) := by decide +kernel
theorem dX6_count_36 : decode cX6_count 36 = .ok (.if_icmp .ne 16, 3) := by decide +kernel
theorem dX6_count_39 : decode cX6_count 39 = .ok (.aload_n 0, 1) := by decide +kernel
theorem dX6_count_40 : decode cX6_count 40 = .ok (.getfield 22, 3) := by decide +kernel
theorem dX6_count_43 : decode cX6_count 43 = .ok (.bipush 7, 2) := by decide +kernel
theorem dX6_count_45 : decode cX6_count 45 = .ok (.iaload, 1) := by decide +kernel
theorem dX6_count_46 : decode cX6_count 46 = .ok (.invokestatic 209, 3) := by decide +kernel
theorem dX6_count_49 : decode cX6_count 49 = .ok (.goto 112, 3) := by decide +kernel
theorem dX6_count_52 : decode cX6_count 52 = .ok (.iload_n 1, 1) := by decide +kernel
theorem dX6_count_53 : decode cX6_count 53 = .ok (.iconst 3, 1) := by decide +kernel
theorem dX6_count_54 : decode cX6_count 54 = .ok (.if_icmp .ne 13, 3) := by decide +kernel
theorem dX6_count_57 : decode cX6_count 57 = .ok (.aload_n 0, 1) := by decide +kernel
theorem dX6_count_58 : decode cX6_count 58 = .ok (.getfield 22, 3) := by decide +kernel
theorem dX6_count_61 : decode cX6_count 61 = .ok (.bipush 8, 2) := by decide +kernel
theorem dX6_count_63 : decode cX6_count 63 = .ok (.iaload, 1) := by decide +kernel
theorem dX6_count_64 : decode cX6_count 64 = .ok (.goto 97, 3) := by decide +kernel
theorem dX6_count_67 : decode cX6_count 67 = .ok (.iload_n 1, 1) := by decide +kernel
theorem dX6_count_68 : decode cX6_count 68 = .ok (.iconst 4, 1) := by decide +kernel
theorem dX6_count_69 : decode cX6_count 69 = .ok (.if_icmp .ne 13, 3) := by decide +kernel
theorem dX6_count_72 : decode cX6_count 72 = .ok (.aload_n 0, 1) := by decide +kernel
theorem dX6_count_73 : decode cX6_count 73 = .ok (.getfield 22, 3) := by decide +kernel
theorem dX6_count_76 : decode cX6_count 76 = .ok (.bipush 9, 2) := by decide +kernel
theorem dX6_count_78 : decode cX6_count 78 = .ok (.iaload, 1) := by decide +kernel
theorem dX6_count_79 : decode cX6_count 79 = .ok (.goto 82, 3) := by decide +kernel
theorem dX6_count_82 : decode cX6_count 82 = .ok (.iload_n 1, 1) := by decide +kernel
theorem dX6_count_83 : decode cX6_count 83 = .ok (.iconst 5, 1) := by decide +kernel
theorem dX6_count_84 : decode cX6_count 84 = .ok (.if_icmp .ne 11, 3) := by decide +kernel
theorem dX6_count_87 : decode cX6_count 87 = .ok (.aload_n 0, 1) := by decide +kernel
theorem dX6_count_88 : decode cX6_count 88 = .ok (.iconst 0, 1) := by decide +kernel
theorem dX6_count_89 : decode cX6_count 89 = .ok (.invokevirtual 246, 3) := by decide +kernel
theorem dX6_count_92 : decode cX6_count 92 = .ok (.goto 69, 3) := by decide +kernel
theorem dX6_count_95 : decode cX6_count 95 = .ok (.iload_n 1, 1) := by decide +kernel
theorem dX6_count_96 : decode cX6_count 96 = .ok (.bipush 6, 2) := by decide +kernel
theorem dX6_count_98 : decode cX6_count 98 = .ok (.if_icmp .ne 10, 3) := by decide +kernel
theorem dX6_count_101 : decode cX6_count 101 = .ok (.aload_n 0, 1) := by decide +kernel
theorem dX6_count_102 : decode cX6_count 102 = .ok (.invokevirtual 249, 3) := by decide +kernel
theorem dX6_count_105 : decode cX6_count 105 = .ok (.goto 56, 3) := by decide +kernel
theorem dX6_count_108 : decode cX6_count 108 = .ok (.iload_n 1, 1) := by decide +kernel
theorem dX6_count_109 : decode cX6_count 109 = .ok (.bipush 7, 2) := by decide +kernel
theorem dX6_count_111 : decode cX6_count 111 = .ok (.if_icmp .ne 10, 3) := by decide +kernel
theorem dX6_count_114 : decode cX6_count 114 = .ok (.aload_n 0, 1) := by decide +kernel
theorem dX6_count_115 : decode cX6_count 115 = .ok (.getfield 129, 3) := by decide +kernel
theorem dX6_count_118 : decode cX6_count 118 = .ok (.goto 43, 3) := by decide +kernel
theorem dX6_count_121 : decode cX6_count 121 = .ok (.iload_n 1, 1) := by decide +kernel
theorem dX6_count_122 : decode cX6_count 122 = .ok (.bipush 8, 2) := by decide +kernel
theorem dX6_count_124 : decode cX6_count 124 = .ok (.if_icmp .ne 10, 3) := by decide +kernel
theorem dX6_count_127 : decode cX6_count 127 = .ok (.aload_n 0, 1) := by decide +kernel
theorem dX6_count_128 : decode cX6_count 128 = .ok (.getfield 123, 3) := by decide +kernel
theorem dX6_count_131 : decode cX6_count 131 = .ok (.goto 30, 3) := by decide +kernel
theorem dX6_count_134 : decode cX6_count 134 = .ok (.iload_n 1, 1) := by decide +kernel
theorem dX6_count_135 : decode cX6_count 135 = .ok (.bipush 9, 2) := by decide +kernel
theorem dX6_count_137 : decode cX6_count 137 = .ok (.if_icmp .ne 10, 3) := by decide +kernel
theorem dX6_count_140 : decode cX6_count 140 = .ok (.aload_n 0, 1) := by decide +kernel
theorem dX6_count_141 : decode cX6_count 141 = .ok (.getfield 126, 3) := by decide +kernel
theorem dX6_count_144 : decode cX6_count 144 = .ok (.goto 17, 3) := by decide +kernel
theorem dX6_count_147 : decode cX6_count 147 = .ok (.iload_n 1, 1) := by decide +kernel
theorem dX6_count_148 : decode cX6_count 148 = .ok (.bipush 10, 2) := by decide +kernel
theorem dX6_count_150 : decode cX6_count 150 = .ok (.if_icmp .ne 10, 3) := by decide +kernel
theorem dX6_count_153 : decode cX6_count 153 = .ok (.aload_n 0, 1) := by decide +kernel
theorem dX6_count_154 : decode cX6_count 154 = .ok (.getfield 83, 3) := by decide +kernel
theorem dX6_count_157 : decode cX6_count 157 = .ok (.goto 4, 3) := by decide +kernel
theorem dX6_count_160 : decode cX6_count 160 = .ok (.iconst (-1), 1) := by decide +kernel
theorem dX6_count_161 : decode cX6_count 161 = .ok (.ireturn, 1) := by decide +kernel
theorem dJ6_bitCount_0f7a4_0 : decode cJ6_bitCount_0f7a4 0 = .ok (.iload_n 0, 1) := by decide +kernel
theorem dJ6_bitCount_0f7a4_1 : decode cJ6_bitCount_0f7a4 1 = .ok (.iload_n 0, 1) := by decide +kernel
theorem dJ6_bitCount_0f7a4_2 : decode cJ6_bitCount_0f7a4 2 = .ok (.iconst 1, 1) := by decide +kernel
theorem dJ6_bitCount_0f7a4_3 : decode cJ6_bitCount_0f7a4 3 = .ok (.iushr, 1) := by decide +kernel
theorem dJ6_bitCount_0f7a4_4 : decode cJ6_bitCount_0f7a4 4 = .ok (.ldc_w 265, 3) := by decide +kernel
theorem dJ6_bitCount_0f7a4_7 : decode cJ6_bitCount_0f7a4 7 = .ok (.iand, 1) := by decide +kernel
theorem dJ6_bitCount_0f7a4_8 : decode cJ6_bitCount_0f7a4 8 = .ok (.isub, 1) := by decide +kernel
theorem dJ6_bitCount_0f7a4_9 : decode cJ6_bitCount_0f7a4 9 = .ok (.istore_n 0, 1) := by decide +kernel
theorem dJ6_bitCount_0f7a4_10 : decode cJ6_bitCount_0f7a4 10 = .ok (.iload_n 0, 1) := by decide +kernel
theorem dJ6_bitCount_0f7a4_11 : decode cJ6_bitCount_0f7a4 11 = .ok (.ldc_w 266, 3) := by decide +kernel
theorem dJ6_bitCount_0f7a4_14 : decode cJ6_bitCount_0f7a4 14 = .ok (.iand, 1) := by decide +kernel
theorem dJ6_bitCount_0f7a4_15 : decode cJ6_bitCount_0f7a4 15 = .ok (.iload_n 0, 1) := by decide +kernel
theorem dJ6_bitCount_0f7a4_16 : decode cJ6_bitCount_0f7a4 16 = .ok (.iconst 2, 1) := by decide +kernel
theorem dJ6_bitCount_0f7a4_17 : decode cJ6_bitCount_0f7a4 17 = .ok (.iushr, 1) := by decide +kernel
theorem dJ6_bitCount_0f7a4_18 : decode cJ6_bitCount_0f7a4 18 = .ok (.ldc_w 266, 3) := by decide +kernel
theorem dJ6_bitCount_0f7a4_21 : decode cJ6_bitCount_0f7a4 21 = .ok (.iand, 1) := by decide +kernel
theorem dJ6_bitCount_0f7a4_22 : decode cJ6_bitCount_0f7a4 22 = .ok (.iadd, 1) := by decide +kernel
theorem dJ6_bitCount_0f7a4_23 : decode cJ6_bitCount_0f7a4 23 = .ok (.istore_n 0, 1) := by decide +kernel
theorem dJ6_bitCount_0f7a4_24 : decode cJ6_bitCount_0f7a4 24 = .ok (.iload_n 0, 1) := by decide +kernel
theorem dJ6_bitCount_0f7a4_25 : decode cJ6_bitCount_0f7a4 25 = .ok (.iload_n 0, 1) := by decide +kernel
theorem dJ6_bitCount_0f7a4_26 : decode cJ6_bitCount_0f7a4 26 = .ok (.iconst 4, 1) := by decide +kernel
theorem dJ6_bitCount_0f7a4_27 : decode cJ6_bitCount_0f7a4 27 = .ok (.iushr, 1) := by decide +kernel
theorem dJ6_bitCount_0f7a4_28 : decode cJ6_bitCount_0f7a4 28 = .ok (.iadd, 1) := by decide +kernel
theorem dJ6_bitCount_0f7a4_29 : decode cJ6_bitCount_0f7a4 29 = .ok (.ldc_w 267, 3) := by decide +kernel
theorem dJ6_bitCount_0f7a4_32 : decode cJ6_bitCount_0f7a4 32 = .ok (.iand, 1) := by decide +kernel
theorem dJ6_bitCount_0f7a4_33 : decode cJ6_bitCount_0f7a4 33 = .ok (.istore_n 0, 1) := by decide +kernel
theorem dJ6_bitCount_0f7a4_34 : decode cJ6_bitCount_0f7a4 34 = .ok (.iload_n 0, 1) := by decide +kernel
theorem dJ6_bitCount_0f7a4_35 : decode cJ6_bitCount_0f7a4 35 = .ok (.iload_n 0, 1) := by decide +kernel
theorem dJ6_bitCount_0f7a4_36 : decode cJ6_bitCount_0f7a4 36 = .ok (.bipush 8, 2) := by decide +kernel
theorem dJ6_bitCount_0f7a4_38 : decode cJ6_bitCount_0f7a4 38 = .ok (.iushr, 1) := by decide +kernel
theorem dJ6_bitCount_0f7a4_39 : decode cJ6_bitCount_0f7a4 39 = .ok (.iadd, 1) := by decide +kernel
theorem dJ6_bitCount_0f7a4_40 : decode cJ6_bitCount_0f7a4 40 = .ok (.istore_n 0, 1) := by decide +kernel
theorem dJ6_bitCount_0f7a4_41 : decode cJ6_bitCount_0f7a4 41 = .ok (.iload_n 0, 1) := by decide +kernel
theorem dJ6_bitCount_0f7a4_42 : decode cJ6_bitCount_0f7a4 42 = .ok (.iload_n 0, 1) := by decide +kernel
theorem dJ6_bitCount_0f7a4_43 : decode cJ6_bitCount_0f7a4 43 = .ok (.bipush 16, 2) := by decide +kernel
theorem dJ6_bitCount_0f7a4_45 : decode cJ6_bitCount_0f7a4 45 = .ok (.iushr, 1) := by decide +kernel
theorem dJ6_bitCount_0f7a4_46 : decode cJ6_bitCount_0f7a4 46 = .ok (.iadd, 1) := by decide +kernel
theorem dJ6_bitCount_0f7a4_47 : decode cJ6_bitCount_0f7a4 47 = .ok (.istore_n 0, 1) := by decide +kernel
theorem dJ6_bitCount_0f7a4_48 : decode cJ6_bitCount_0f7a4 48 = .ok (.iload_n 0, 1) := by decide +kernel
theorem dJ6_bitCount_0f7a4_49 : decode cJ6_bitCount_0f7a4 49 = .ok (.bipush 63, 2) := by decide +kernel
theorem dJ6_bitCount_0f7a4_51 : decode cJ6_bitCount_0f7a4 51 = .ok (.iand, 1) := by decide +kernel
theorem dJ6_bitCount_0f7a4_52 : decode cJ6_bitCount_0f7a4 52 = .ok (.ireturn, 1) := by decide +kernel
theorem dJ9_max_7cf53_0 : decode cJ9_max_7cf53 0 = .ok (.iload_n 0, 1) := by decide +kernel
theorem dJ9_max_7cf53_1 : decode cJ9_max_7cf53 1 = .ok (.iload_n 1, 1) := by decide +kernel
theorem dJ9_max_7cf53_2 : decode cJ9_max_7cf53 2 = .ok (.if_icmp .lt 7, 3) := by decide +kernel
theorem dJ9_max_7cf53_5 : decode cJ9_max_7cf53 5 = .ok (.iload_n 0, 1) := by decide +kernel
theorem dJ9_max_7cf53_6 : decode cJ9_max_7cf53 6 = .ok (.goto 4, 3) := by decide +kernel
theorem dJ9_max_7cf53_9 : decode cJ9_max_7cf53 9 = .ok (.iload_n 1, 1) := by decide +kernel
theorem dJ9_max_7cf53_10 : decode cJ9_max_7cf53 10 = .ok (.ireturn, 1) := by decide +kernel
theorem dJ9_min_7cf53_0 : decode cJ9_min_7cf53 0 = .ok (.iload_n 0, 1) := by decide +kernel
theorem dJ9_min_7cf53_1 : decode cJ9_min_7cf53 1 = .ok (.iload_n 1, 1) := by decide +kernel
theorem dJ9_min_7cf53_2 : decode cJ9_min_7cf53 2 = .ok (.if_icmp .gt 7, 3) := by decide +kernel
theorem dJ9_min_7cf53_5 : decode cJ9_min_7cf53 5 = .ok (.iload_n 0, 1) := by decide +kernel
theorem dJ9_min_7cf53_6 : decode cJ9_min_7cf53 6 = .ok (.goto 4, 3) := by decide +kernel
theorem dJ9_min_7cf53_9 : decode cJ9_min_7cf53 9 = .ok (.iload_n 1, 1) := by decide +kernel
theorem dJ9_min_7cf53_10 : decode cJ9_min_7cf53 10 = .ok (.ireturn, 1) := by decide +kernel
theorem dJ0_length_8abf5_0 : decode cJ0_length_8abf5 0 = .ok (.aload_n 0, 1) := by decide +kernel
theorem dJ0_length_8abf5_1 : decode cJ0_length_8abf5 1 = .ok (.getfield 9, 3) := by decide +kernel
theorem dJ0_length_8abf5_4 : decode cJ0_length_8abf5 4 = .ok (.arraylength, 1) := by decide +kernel
theorem dJ0_length_8abf5_5 : decode cJ0_length_8abf5 5 = .ok (.aload_n 0, 1) := by decide +kernel
theorem dJ0_length_8abf5_6 : decode cJ0_length_8abf5 6 = .ok (.invokevirtual 335, 3) := by decide +kernel
theorem dJ0_length_8abf5_9 : decode cJ0_length_8abf5 9 = .ok (.ishr, 1) := by decide +kernel
theorem dJ0_length_8abf5_10 : decode cJ0_length_8abf5 10 = .ok (.ireturn, 1) := by decide +kernel
theorem dJ0_charAt_5068e_0 : decode cJ0_charAt_5068e 0 = .ok (.aload_n 0, 1) := by decide +kernel
theorem dJ0_charAt_5068e_1 : decode cJ0_charAt_5068e 1 = .ok (.invokevirtual 492, 3) := by decide +kernel
theorem dJ0_charAt_5068e_4 : decode cJ0_charAt_5068e 4 = .ok (.ifCond .eq 12, 3) := by decide +kernel
theorem dJ0_charAt_5068e_7 : decode cJ0_charAt_5068e 7 = .ok (.aload_n 0, 1) := by decide +kernel
theorem dJ0_charAt_5068e_8 : decode cJ0_charAt_5068e 8 = .ok (.getfield 9, 3) := by decide +kernel
theorem dJ0_charAt_5068e_11 : decode cJ0_charAt_5068e 11 = .ok (.iload_n 1, 1) := by decide +kernel
theorem dJ0_charAt_5068e_12 : decode cJ0_charAt_5068e 12 = .ok (.invokestatic 495, 3) := by decide +kernel
theorem dJ0_charAt_5068e_15 : decode cJ0_charAt_5068e 15 = .ok (.ireturn, 1) := by decide +kernel
theorem dJ0_charAt_5068e_16 : decode cJ0_charAt_5068e 16 = .ok (.aload_n 0, 1) := by decide +kernel
theorem dJ0_charAt_5068e_17 : decode cJ0_charAt_5068e 17 = .ok (.getfield 9, 3) := by decide +kernel
theorem dJ0_charAt_5068e_20 : decode cJ0_charAt_5068e 20 = .ok (.iload_n 1, 1) := by decide +kernel
theorem dJ0_charAt_5068e_21 : decode cJ0_charAt_5068e 21 = .ok (.invokestatic 498, 3) := by decide +kernel
theorem dJ0_charAt_5068e_24 : decode cJ0_charAt_5068e 24 = .ok (.ireturn, 1) := by decide +kernel
theorem dJ0_coder_7d493_0 : decode cJ0_coder_7d493 0 = .ok (.getstatic 38, 3) := by decide +kernel
theorem dJ0_coder_7d493_3 : decode cJ0_coder_7d493 3 = .ok (.ifCond .eq 10, 3) := by decide +kernel
theorem dJ0_coder_7d493_6 : decode cJ0_coder_7d493 6 = .ok (.aload_n 0, 1) := by decide +kernel
theorem dJ0_coder_7d493_7 : decode cJ0_coder_7d493 7 = .ok (.getfield 15, 3) := by decide +kernel
theorem dJ0_coder_7d493_10 : decode cJ0_coder_7d493 10 = .ok (.goto 4, 3) := by decide +kernel
theorem dJ0_coder_7d493_13 : decode cJ0_coder_7d493 13 = .ok (.iconst 1, 1) := by decide +kernel
theorem dJ0_coder_7d493_14 : decode cJ0_coder_7d493 14 = .ok (.ireturn, 1) := by decide +kernel
theorem dJ0_isLatin1_aae02_0 : decode cJ0_isLatin1_aae02 0 = .ok (.getstatic 38, 3) := by decide +kernel
theorem dJ0_isLatin1_aae02_3 : decode cJ0_isLatin1_aae02 3 = .ok (.ifCond .eq 14, 3) := by decide +kernel
theorem dJ0_isLatin1_aae02_6 : decode cJ0_isLatin1_aae02 6 = .ok (.aload_n 0, 1) := by decide +kernel
theorem dJ0_isLatin1_aae02_7 : decode cJ0_isLatin1_aae02 7 = .ok (.getfield 15, 3) := by decide +kernel
theorem dJ0_isLatin1_aae02_10 : decode cJ0_isLatin1_aae02 10 = .ok (.ifCond .ne 7, 3) := by decide +kernel
theorem dJ0_isLatin1_aae02_13 : decode cJ0_isLatin1_aae02 13 = .ok (.iconst 1, 1) := by decide +kernel
theorem dJ0_isLatin1_aae02_14 : decode cJ0_isLatin1_aae02 14 = .ok (.goto 4, 3) := by decide +kernel
theorem dJ0_isLatin1_aae02_17 : decode cJ0_isLatin1_aae02 17 = .ok (.iconst 0, 1) := by decide +kernel
theorem dJ0_isLatin1_aae02_18 : decode cJ0_isLatin1_aae02 18 = .ok (.ireturn, 1) := by decide +kernel
theorem dJ0_checkIndex_df160_0 : decode cJ0_checkIndex_df160 0 = .ok (.iload_n 0, 1) := by decide +kernel
end
section
theorem dJ0_checkIndex_df160_1 : decode cJ0_checkIndex_df160 1 = .ok (.iload_n 1, 1) := by decide +kernel
theorem dJ0_checkIndex_df160_2 : decode cJ0_checkIndex_df160 2 = .ok (.getstatic 1053, 3) := by decide +kernel
theorem dJ0_checkIndex_df160_5 : decode cJ0_checkIndex_df160 5 = .ok (.invokestatic 1059, 3) := by decide +kernel
theorem dJ0_checkIndex_df160_8 : decode cJ0_checkIndex_df160 8 = .ok (.pop, 1) := by decide +kernel
theorem dJ0_checkIndex_df160_9 : decode cJ0_checkIndex_df160 9 = .ok (.return_, 1) := by decide +kernel
theorem dJ1_charAt_3b067_0 : decode cJ1_charAt_3b067 0 = .ok (.iload_n 1, 1) := by decide +kernel
theorem dJ1_charAt_3b067_1 : decode cJ1_charAt_3b067 1 = .ok (.aload_n 0, 1) := by decide +kernel
theorem dJ1_charAt_3b067_2 : decode cJ1_charAt_3b067 2 = .ok (.arraylength, 1) := by decide +kernel
theorem dJ1_charAt_3b067_3 : decode cJ1_charAt_3b067 3 = .ok (.invokestatic 9, 3) := by decide +kernel
theorem dJ1_charAt_3b067_6 : decode cJ1_charAt_3b067 6 = .ok (.aload_n 0, 1) := by decide +kernel
theorem dJ1_charAt_3b067_7 : decode cJ1_charAt_3b067 7 = .ok (.iload_n 1, 1) := by decide +kernel
theorem dJ1_charAt_3b067_8 : decode cJ1_charAt_3b067 8 = .ok (.baload, 1) := by decide +kernel
theorem dJ1_charAt_3b067_9 : decode cJ1_charAt_3b067 9 = .ok (.sipush 255, 3) := by decide +kernel
theorem dJ1_charAt_3b067_12 : decode cJ1_charAt_3b067 12 = .ok (.iand, 1) := by decide +kernel
theorem dJ1_charAt_3b067_13 : decode cJ1_charAt_3b067 13 = .ok (.i2c, 1) := by decide +kernel
theorem dJ1_charAt_3b067_14 : decode cJ1_charAt_3b067 14 = .ok (.ireturn, 1) := by decide +kernel
theorem dJ2_getChar_3b067_0 : decode cJ2_getChar_3b067 0 = .ok (.getstatic 44, 3) := by decide +kernel
theorem dJ2_getChar_3b067_3 : decode cJ2_getChar_3b067 3 = .ok (.ifCond .ne 25, 3) := by decide +kernel
theorem dJ2_getChar_3b067_6 : decode cJ2_getChar_3b067 6 = .ok (.iload_n 1, 1) := by decide +kernel
theorem dJ2_getChar_3b067_7 : decode cJ2_getChar_3b067 7 = .ok (.ifCond .lt 11, 3) := by decide +kernel
theorem dJ2_getChar_3b067_10 : decode cJ2_getChar_3b067 10 = .ok (.iload_n 1, 1) := by decide +kernel
theorem dJ2_getChar_3b067_11 : decode cJ2_getChar_3b067 11 = .ok (.aload_n 0, 1) := by decide +kernel
theorem dJ2_getChar_3b067_12 : decode cJ2_getChar_3b067 12 = .ok (.invokestatic 48, 3) := by decide +kernel
theorem dJ2_getChar_3b067_15 : decode cJ2_getChar_3b067 15 = .ok (.if_icmp .lt 13, 3) := by decide +kernel
theorem dJ2_getChar_3b067_18 : decode cJ2_getChar_3b067 18 = .ok (.new 52, 3) := by decide +kernel
theorem dJ2_getChar_3b067_21 : decode cJ2_getChar_3b067 21 = .ok (.dup, 1) := by decide +kernel
theorem dJ2_getChar_3b067_22 : decode cJ2_getChar_3b067 22 = .ok (.ldc 54, 2) := by decide +kernel
theorem dJ2_getChar_3b067_24 : decode cJ2_getChar_3b067 24 = .ok (.invokespecial 56, 3) := by decide +kernel
theorem dJ2_getChar_3b067_27 : decode cJ2_getChar_3b067 27 = .ok (.athrow, 1) := by decide +kernel
theorem dJ2_getChar_3b067_28 : decode cJ2_getChar_3b067 28 = .ok (.iload_n 1, 1) := by decide +kernel
theorem dJ2_getChar_3b067_29 : decode cJ2_getChar_3b067 29 = .ok (.iconst 1, 1) := by decide +kernel
theorem dJ2_getChar_3b067_30 : decode cJ2_getChar_3b067 30 = .ok (.ishl, 1) := by decide +kernel
theorem dJ2_getChar_3b067_31 : decode cJ2_getChar_3b067 31 = .ok (.istore_n 1, 1) := by decide +kernel
theorem dJ2_getChar_3b067_32 : decode cJ2_getChar_3b067 32 = .ok (.aload_n 0, 1) := by decide +kernel
theorem dJ2_getChar_3b067_33 : decode cJ2_getChar_3b067 33 = .ok (.iload_n 1, 1) := by decide +kernel
theorem dJ2_getChar_3b067_34 : decode cJ2_getChar_3b067 34 = .ok (.iinc 1 1, 3) := by decide +kernel
theorem dJ2_getChar_3b067_37 : decode cJ2_getChar_3b067 37 = .ok (.baload, 1) := by decide +kernel
theorem dJ2_getChar_3b067_38 : decode cJ2_getChar_3b067 38 = .ok (.sipush 255, 3) := by decide +kernel
theorem dJ2_getChar_3b067_41 : decode cJ2_getChar_3b067 41 = .ok (.iand, 1) := by decide +kernel
theorem dJ2_getChar_3b067_42 : decode cJ2_getChar_3b067 42 = .ok (.getstatic 59, 3) := by decide +kernel
theorem dJ2_getChar_3b067_45 : decode cJ2_getChar_3b067 45 = .ok (.ishl, 1) := by decide +kernel
theorem dJ2_getChar_3b067_46 : decode cJ2_getChar_3b067 46 = .ok (.aload_n 0, 1) := by decide +kernel
theorem dJ2_getChar_3b067_47 : decode cJ2_getChar_3b067 47 = .ok (.iload_n 1, 1) := by decide +kernel
theorem dJ2_getChar_3b067_48 : decode cJ2_getChar_3b067 48 = .ok (.baload, 1) := by decide +kernel
theorem dJ2_getChar_3b067_49 : decode cJ2_getChar_3b067 49 = .ok (.sipush 255, 3) := by decide +kernel
theorem dJ2_getChar_3b067_52 : decode cJ2_getChar_3b067 52 = .ok (.iand, 1) := by decide +kernel
theorem dJ2_getChar_3b067_53 : decode cJ2_getChar_3b067 53 = .ok (.getstatic 63, 3) := by decide +kernel
theorem dJ2_getChar_3b067_56 : decode cJ2_getChar_3b067 56 = .ok (.ishl, 1) := by decide +kernel
theorem dJ2_getChar_3b067_57 : decode cJ2_getChar_3b067 57 = .ok (.ior, 1) := by decide +kernel
theorem dJ2_getChar_3b067_58 : decode cJ2_getChar_3b067 58 = .ok (.i2c, 1) := by decide +kernel
theorem dJ2_getChar_3b067_59 : decode cJ2_getChar_3b067 59 = .ok (.ireturn, 1) := by decide +kernel
theorem dJ2_length_9d52b_0 : decode cJ2_length_9d52b 0 = .ok (.aload_n 0, 1) := by decide +kernel
theorem dJ2_length_9d52b_1 : decode cJ2_length_9d52b 1 = .ok (.arraylength, 1) := by decide +kernel
theorem dJ2_length_9d52b_2 : decode cJ2_length_9d52b 2 = .ok (.iconst 1, 1) := by decide +kernel
theorem dJ2_length_9d52b_3 : decode cJ2_length_9d52b 3 = .ok (.ishr, 1) := by decide +kernel
theorem dJ2_length_9d52b_4 : decode cJ2_length_9d52b 4 = .ok (.ireturn, 1) := by decide +kernel
theorem dJ2_charAt_3b067_0 : decode cJ2_charAt_3b067 0 = .ok (.iload_n 1, 1) := by decide +kernel
theorem dJ2_charAt_3b067_1 : decode cJ2_charAt_3b067 1 = .ok (.aload_n 0, 1) := by decide +kernel
theorem dJ2_charAt_3b067_2 : decode cJ2_charAt_3b067 2 = .ok (.invokestatic 67, 3) := by decide +kernel
theorem dJ2_charAt_3b067_5 : decode cJ2_charAt_3b067 5 = .ok (.aload_n 0, 1) := by decide +kernel
theorem dJ2_charAt_3b067_6 : decode cJ2_charAt_3b067 6 = .ok (.iload_n 1, 1) := by decide +kernel
theorem dJ2_charAt_3b067_7 : decode cJ2_charAt_3b067 7 = .ok (.invokestatic 71, 3) := by decide +kernel
theorem dJ2_charAt_3b067_10 : decode cJ2_charAt_3b067 10 = .ok (.ireturn, 1) := by decide +kernel
theorem dJ2_checkIndex_2214a_0 : decode cJ2_checkIndex_2214a 0 = .ok (.iload_n 0, 1) := by decide +kernel
theorem dJ2_checkIndex_2214a_1 : decode cJ2_checkIndex_2214a 1 = .ok (.aload_n 1, 1) := by decide +kernel
theorem dJ2_checkIndex_2214a_2 : decode cJ2_checkIndex_2214a 2 = .ok (.invokestatic 48, 3) := by decide +kernel
theorem dJ2_checkIndex_2214a_5 : decode cJ2_checkIndex_2214a 5 = .ok (.invokestatic 414, 3) := by decide +kernel
theorem dJ2_checkIndex_2214a_8 : decode cJ2_checkIndex_2214a 8 = .ok (.return_, 1) := by decide +kernel
theorem dJ3_checkIndex_8e157_0 : decode cJ3_checkIndex_8e157 0 = .ok (.iload_n 0, 1) := by decide +kernel
theorem dJ3_checkIndex_8e157_1 : decode cJ3_checkIndex_8e157 1 = .ok (.ifCond .lt 8, 3) := by decide +kernel
theorem dJ3_checkIndex_8e157_4 : decode cJ3_checkIndex_8e157 4 = .ok (.iload_n 0, 1) := by decide +kernel
theorem dJ3_checkIndex_8e157_5 : decode cJ3_checkIndex_8e157 5 = .ok (.iload_n 1, 1) := by decide +kernel
theorem dJ3_checkIndex_8e157_6 : decode cJ3_checkIndex_8e157 6 = .ok (.if_icmp .lt 10, 3) := by decide +kernel
theorem dJ3_checkIndex_8e157_9 : decode cJ3_checkIndex_8e157 9 = .ok (.aload_n 2, 1) := by decide +kernel
theorem dJ3_checkIndex_8e157_10 : decode cJ3_checkIndex_8e157 10 = .ok (.iload_n 0, 1) := by decide +kernel
theorem dJ3_checkIndex_8e157_11 : decode cJ3_checkIndex_8e157 11 = .ok (.iload_n 1, 1) := by decide +kernel
theorem dJ3_checkIndex_8e157_12 : decode cJ3_checkIndex_8e157 12 = .ok (.invokestatic 95, 3) := by decide +kernel
theorem dJ3_checkIndex_8e157_15 : decode cJ3_checkIndex_8e157 15 = .ok (.athrow, 1) := by decide +kernel
theorem dJ3_checkIndex_8e157_16 : decode cJ3_checkIndex_8e157 16 = .ok (.iload_n 0, 1) := by decide +kernel
theorem dJ3_checkIndex_8e157_17 : decode cJ3_checkIndex_8e157 17 = .ok (.ireturn, 1) := by decide +kernel
theorem dL_law_0 : decode code 0 = .ok (.new 7, 3) := by decide +kernel
theorem dL_law_3 : decode code 3 = .ok (.dup, 1) := by decide +kernel
theorem dL_law_4 : decode code 4 = .ok (.invokespecial 9, 3) := by decide +kernel
theorem dL_law_7 : decode code 7 = .ok (.astore_n 1, 1) := by decide +kernel
theorem dL_law_8 : decode code 8 = .ok (.new 10, 3) := by decide +kernel
theorem dL_law_11 : decode code 11 = .ok (.dup, 1) := by decide +kernel
theorem dL_law_12 : decode code 12 = .ok (.invokespecial 12, 3) := by decide +kernel
theorem dL_law_15 : decode code 15 = .ok (.astore_n 2, 1) := by decide +kernel
theorem dL_law_16 : decode code 16 = .ok (.iconst 0, 1) := by decide +kernel
theorem dL_law_17 : decode code 17 = .ok (.istore_n 3, 1) := by decide +kernel
theorem dL_law_18 : decode code 18 = .ok (.iload_n 3, 1) := by decide +kernel
theorem dL_law_19 : decode code 19 = .ok (.aload_n 0, 1) := by decide +kernel
theorem dL_law_20 : decode code 20 = .ok (.arraylength, 1) := by decide +kernel
theorem dL_law_21 : decode code 21 = .ok (.bipush 7, 2) := by decide +kernel
theorem dL_law_23 : decode code 23 = .ok (.isub, 1) := by decide +kernel
theorem dL_law_24 : decode code 24 = .ok (.if_icmp .gt 1017, 3) := by decide +kernel
theorem dL_law_27 : decode code 27 = .ok (.aload_n 0, 1) := by decide +kernel
theorem dL_law_28 : decode code 28 = .ok (.iload_n 3, 1) := by decide +kernel
theorem dL_law_29 : decode code 29 = .ok (.iaload, 1) := by decide +kernel
theorem dL_law_30 : decode code 30 = .ok (.bipush 31, 2) := by decide +kernel
theorem dL_law_32 : decode code 32 = .ok (.iand, 1) := by decide +kernel
theorem dL_law_33 : decode code 33 = .ok (.tableswitch 1002 0 26 #[123, 146, 159, 172, 185, 218, 251, 284, 327, 360, 393, 416, 439, 452, 505, 548, 601, 644, 687, 766, 779, 812, 835, 910, 953, 966, 979], 123) := by decide +kernel
theorem dL_law_156 : decode code 156 = .ok (.aload_n 1, 1) := by decide +kernel
theorem dL_law_157 : decode code 157 = .ok (.aload_n 0, 1) := by decide +kernel
theorem dL_law_158 : decode code 158 = .ok (.iload_n 3, 1) := by decide +kernel
theorem dL_law_159 : decode code 159 = .ok (.iconst 1, 1) := by decide +kernel
theorem dL_law_160 : decode code 160 = .ok (.iadd, 1) := by decide +kernel
theorem dL_law_161 : decode code 161 = .ok (.iaload, 1) := by decide +kernel
theorem dL_law_162 : decode code 162 = .ok (.invokevirtual 13, 3) := by decide +kernel
theorem dL_law_165 : decode code 165 = .ok (.aload_n 2, 1) := by decide +kernel
theorem dL_law_166 : decode code 166 = .ok (.aload_n 0, 1) := by decide +kernel
theorem dL_law_167 : decode code 167 = .ok (.iload_n 3, 1) := by decide +kernel
theorem dL_law_168 : decode code 168 = .ok (.iconst 1, 1) := by decide +kernel
theorem dL_law_169 : decode code 169 = .ok (.iadd, 1) := by decide +kernel
theorem dL_law_170 : decode code 170 = .ok (.iaload, 1) := by decide +kernel
theorem dL_law_171 : decode code 171 = .ok (.invokevirtual 17, 3) := by decide +kernel
theorem dL_law_174 : decode code 174 = .ok (.if_icmp .eq 861, 3) := by decide +kernel
theorem dL_law_177 : decode code 177 = .ok (.iconst 0, 1) := by decide +kernel
theorem dL_law_178 : decode code 178 = .ok (.ireturn, 1) := by decide +kernel
theorem dL_law_179 : decode code 179 = .ok (.aload_n 1, 1) := by decide +kernel
theorem dL_law_180 : decode code 180 = .ok (.invokevirtual 18, 3) := by decide +kernel
theorem dL_law_183 : decode code 183 = .ok (.aload_n 2, 1) := by decide +kernel
theorem dL_law_184 : decode code 184 = .ok (.invokevirtual 22, 3) := by decide +kernel
theorem dL_law_187 : decode code 187 = .ok (.if_icmp .eq 848, 3) := by decide +kernel
theorem dL_law_190 : decode code 190 = .ok (.iconst 0, 1) := by decide +kernel
theorem dL_law_191 : decode code 191 = .ok (.ireturn, 1) := by decide +kernel
theorem dL_law_192 : decode code 192 = .ok (.aload_n 1, 1) := by decide +kernel
theorem dL_law_193 : decode code 193 = .ok (.invokevirtual 23, 3) := by decide +kernel
theorem dL_law_196 : decode code 196 = .ok (.aload_n 2, 1) := by decide +kernel
theorem dL_law_197 : decode code 197 = .ok (.invokevirtual 26, 3) := by decide +kernel
theorem dL_law_200 : decode code 200 = .ok (.if_icmp .eq 835, 3) := by decide +kernel
theorem dL_law_203 : decode code 203 = .ok (.iconst 0, 1) := by decide +kernel
theorem dL_law_204 : decode code 204 = .ok (.ireturn, 1) := by decide +kernel
theorem dL_law_205 : decode code 205 = .ok (.aload_n 1, 1) := by decide +kernel
theorem dL_law_206 : decode code 206 = .ok (.invokevirtual 27, 3) := by decide +kernel
theorem dL_law_209 : decode code 209 = .ok (.aload_n 2, 1) := by decide +kernel
theorem dL_law_210 : decode code 210 = .ok (.invokevirtual 30, 3) := by decide +kernel
theorem dL_law_213 : decode code 213 = .ok (.if_icmp .eq 822, 3) := by decide +kernel
theorem dL_law_216 : decode code 216 = .ok (.iconst 0, 1) := by decide +kernel
theorem dL_law_217 : decode code 217 = .ok (.ireturn, 1) := by decide +kernel
theorem dL_law_218 : decode code 218 = .ok (.aload_n 1, 1) := by decide +kernel
theorem dL_law_219 : decode code 219 = .ok (.aload_n 0, 1) := by decide +kernel
theorem dL_law_220 : decode code 220 = .ok (.iload_n 3, 1) := by decide +kernel
theorem dL_law_221 : decode code 221 = .ok (.iconst 1, 1) := by decide +kernel
theorem dL_law_222 : decode code 222 = .ok (.iadd, 1) := by decide +kernel
theorem dL_law_223 : decode code 223 = .ok (.iaload, 1) := by decide +kernel
theorem dL_law_224 : decode code 224 = .ok (.aload_n 0, 1) := by decide +kernel
theorem dL_law_225 : decode code 225 = .ok (.iload_n 3, 1) := by decide +kernel
theorem dL_law_226 : decode code 226 = .ok (.iconst 2, 1) := by decide +kernel
theorem dL_law_227 : decode code 227 = .ok (.iadd, 1) := by decide +kernel
theorem dL_law_228 : decode code 228 = .ok (.iaload, 1) := by decide +kernel
theorem dL_law_229 : decode code 229 = .ok (.invokevirtual 31, 3) := by decide +kernel
theorem dL_law_232 : decode code 232 = .ok (.aload_n 2, 1) := by decide +kernel
theorem dL_law_233 : decode code 233 = .ok (.aload_n 0, 1) := by decide +kernel
theorem dL_law_234 : decode code 234 = .ok (.iload_n 3, 1) := by decide +kernel
theorem dL_law_235 : decode code 235 = .ok (.iconst 1, 1) := by decide +kernel
theorem dL_law_236 : decode code 236 = .ok (.iadd, 1) := by decide +kernel
theorem dL_law_237 : decode code 237 = .ok (.iaload, 1) := by decide +kernel
theorem dL_law_238 : decode code 238 = .ok (.aload_n 0, 1) := by decide +kernel
theorem dL_law_239 : decode code 239 = .ok (.iload_n 3, 1) := by decide +kernel
theorem dL_law_240 : decode code 240 = .ok (.iconst 2, 1) := by decide +kernel
theorem dL_law_241 : decode code 241 = .ok (.iadd, 1) := by decide +kernel
theorem dL_law_242 : decode code 242 = .ok (.iaload, 1) := by decide +kernel
theorem dL_law_243 : decode code 243 = .ok (.invokevirtual 35, 3) := by decide +kernel
theorem dL_law_246 : decode code 246 = .ok (.if_icmp .eq 789, 3) := by decide +kernel
theorem dL_law_249 : decode code 249 = .ok (.iconst 0, 1) := by decide +kernel
theorem dL_law_250 : decode code 250 = .ok (.ireturn, 1) := by decide +kernel
theorem dL_law_251 : decode code 251 = .ok (.aload_n 1, 1) := by decide +kernel
theorem dL_law_252 : decode code 252 = .ok (.aload_n 0, 1) := by decide +kernel
theorem dL_law_253 : decode code 253 = .ok (.iload_n 3, 1) := by decide +kernel
theorem dL_law_254 : decode code 254 = .ok (.iconst 1, 1) := by decide +kernel
theorem dL_law_255 : decode code 255 = .ok (.iadd, 1) := by decide +kernel
theorem dL_law_256 : decode code 256 = .ok (.iaload, 1) := by decide +kernel
theorem dL_law_257 : decode code 257 = .ok (.aload_n 0, 1) := by decide +kernel
theorem dL_law_258 : decode code 258 = .ok (.iload_n 3, 1) := by decide +kernel
theorem dL_law_259 : decode code 259 = .ok (.iconst 2, 1) := by decide +kernel
theorem dL_law_260 : decode code 260 = .ok (.iadd, 1) := by decide +kernel
theorem dL_law_261 : decode code 261 = .ok (.iaload, 1) := by decide +kernel
theorem dL_law_262 : decode code 262 = .ok (.invokevirtual 36, 3) := by decide +kernel
theorem dL_law_265 : decode code 265 = .ok (.aload_n 2, 1) := by decide +kernel
theorem dL_law_266 : decode code 266 = .ok (.aload_n 0, 1) := by decide +kernel
theorem dL_law_267 : decode code 267 = .ok (.iload_n 3, 1) := by decide +kernel
theorem dL_law_268 : decode code 268 = .ok (.iconst 1, 1) := by decide +kernel
theorem dL_law_269 : decode code 269 = .ok (.iadd, 1) := by decide +kernel
theorem dL_law_270 : decode code 270 = .ok (.iaload, 1) := by decide +kernel
theorem dL_law_271 : decode code 271 = .ok (.aload_n 0, 1) := by decide +kernel
theorem dL_law_272 : decode code 272 = .ok (.iload_n 3, 1) := by decide +kernel
theorem dL_law_273 : decode code 273 = .ok (.iconst 2, 1) := by decide +kernel
theorem dL_law_274 : decode code 274 = .ok (.iadd, 1) := by decide +kernel
theorem dL_law_275 : decode code 275 = .ok (.iaload, 1) := by decide +kernel
theorem dL_law_276 : decode code 276 = .ok (.invokevirtual 39, 3) := by decide +kernel
theorem dL_law_279 : decode code 279 = .ok (.if_icmp .eq 756, 3) := by decide +kernel
theorem dL_law_282 : decode code 282 = .ok (.iconst 0, 1) := by decide +kernel
theorem dL_law_283 : decode code 283 = .ok (.ireturn, 1) := by decide +kernel
theorem dL_law_284 : decode code 284 = .ok (.aload_n 1, 1) := by decide +kernel
theorem dL_law_285 : decode code 285 = .ok (.aload_n 0, 1) := by decide +kernel
theorem dL_law_286 : decode code 286 = .ok (.iload_n 3, 1) := by decide +kernel
theorem dL_law_287 : decode code 287 = .ok (.iconst 1, 1) := by decide +kernel
theorem dL_law_288 : decode code 288 = .ok (.iadd, 1) := by decide +kernel
theorem dL_law_289 : decode code 289 = .ok (.iaload, 1) := by decide +kernel
theorem dL_law_290 : decode code 290 = .ok (.aload_n 0, 1) := by decide +kernel
theorem dL_law_291 : decode code 291 = .ok (.iload_n 3, 1) := by decide +kernel
theorem dL_law_292 : decode code 292 = .ok (.iconst 2, 1) := by decide +kernel
theorem dL_law_293 : decode code 293 = .ok (.iadd, 1) := by decide +kernel
theorem dL_law_294 : decode code 294 = .ok (.iaload, 1) := by decide +kernel
theorem dL_law_295 : decode code 295 = .ok (.invokevirtual 40, 3) := by decide +kernel
theorem dL_law_298 : decode code 298 = .ok (.aload_n 2, 1) := by decide +kernel
theorem dL_law_299 : decode code 299 = .ok (.aload_n 0, 1) := by decide +kernel
theorem dL_law_300 : decode code 300 = .ok (.iload_n 3, 1) := by decide +kernel
theorem dL_law_301 : decode code 301 = .ok (.iconst 1, 1) := by decide +kernel
theorem dL_law_302 : decode code 302 = .ok (.iadd, 1) := by decide +kernel
theorem dL_law_303 : decode code 303 = .ok (.iaload, 1) := by decide +kernel
theorem dL_law_304 : decode code 304 = .ok (.aload_n 0, 1) := by decide +kernel
theorem dL_law_305 : decode code 305 = .ok (.iload_n 3, 1) := by decide +kernel
theorem dL_law_306 : decode code 306 = .ok (.iconst 2, 1) := by decide +kernel
theorem dL_law_307 : decode code 307 = .ok (.iadd, 1) := by decide +kernel
theorem dL_law_308 : decode code 308 = .ok (.iaload, 1) := by decide +kernel
theorem dL_law_309 : decode code 309 = .ok (.invokevirtual 43, 3) := by decide +kernel
theorem dL_law_312 : decode code 312 = .ok (.if_icmp .eq 723, 3) := by decide +kernel
theorem dL_law_315 : decode code 315 = .ok (.iconst 0, 1) := by decide +kernel
theorem dL_law_316 : decode code 316 = .ok (.ireturn, 1) := by decide +kernel
theorem dL_law_317 : decode code 317 = .ok (.aload_n 1, 1) := by decide +kernel
theorem dL_law_318 : decode code 318 = .ok (.aload_n 0, 1) := by decide +kernel
theorem dL_law_319 : decode code 319 = .ok (.iload_n 3, 1) := by decide +kernel
theorem dL_law_320 : decode code 320 = .ok (.iconst 1, 1) := by decide +kernel
theorem dL_law_321 : decode code 321 = .ok (.iadd, 1) := by decide +kernel
theorem dL_law_322 : decode code 322 = .ok (.iaload, 1) := by decide +kernel
theorem dL_law_323 : decode code 323 = .ok (.aload_n 0, 1) := by decide +kernel
theorem dL_law_324 : decode code 324 = .ok (.iload_n 3, 1) := by decide +kernel
theorem dL_law_325 : decode code 325 = .ok (.iconst 2, 1) := by decide +kernel
theorem dL_law_326 : decode code 326 = .ok (.iadd, 1) := by decide +kernel
theorem dL_law_327 : decode code 327 = .ok (.iaload, 1) := by decide +kernel
theorem dL_law_328 : decode code 328 = .ok (.aload_n 0, 1) := by decide +kernel
theorem dL_law_329 : decode code 329 = .ok (.iload_n 3, 1) := by decide +kernel
theorem dL_law_330 : decode code 330 = .ok (.iconst 3, 1) := by decide +kernel
theorem dL_law_331 : decode code 331 = .ok (.iadd, 1) := by decide +kernel
theorem dL_law_332 : decode code 332 = .ok (.iaload, 1) := by decide +kernel
theorem dL_law_333 : decode code 333 = .ok (.invokevirtual 44, 3) := by decide +kernel
theorem dL_law_336 : decode code 336 = .ok (.aload_n 2, 1) := by decide +kernel
theorem dL_law_337 : decode code 337 = .ok (.aload_n 0, 1) := by decide +kernel
theorem dL_law_338 : decode code 338 = .ok (.iload_n 3, 1) := by decide +kernel
theorem dL_law_339 : decode code 339 = .ok (.iconst 1, 1) := by decide +kernel
theorem dL_law_340 : decode code 340 = .ok (.iadd, 1) := by decide +kernel
theorem dL_law_341 : decode code 341 = .ok (.iaload, 1) := by decide +kernel
theorem dL_law_342 : decode code 342 = .ok (.aload_n 0, 1) := by decide +kernel
theorem dL_law_343 : decode code 343 = .ok (.iload_n 3, 1) := by decide +kernel
theorem dL_law_344 : decode code 344 = .ok (.iconst 2, 1) := by decide +kernel
theorem dL_law_345 : decode code 345 = .ok (.iadd, 1) := by decide +kernel
theorem dL_law_346 : decode code 346 = .ok (.iaload, 1) := by decide +kernel
theorem dL_law_347 : decode code 347 = .ok (.aload_n 0, 1) := by decide +kernel
theorem dL_law_348 : decode code 348 = .ok (.iload_n 3, 1) := by decide +kernel
theorem dL_law_349 : decode code 349 = .ok (.iconst 3, 1) := by decide +kernel
theorem dL_law_350 : decode code 350 = .ok (.iadd, 1) := by decide +kernel
theorem dL_law_351 : decode code 351 = .ok (.iaload, 1) := by decide +kernel
theorem dL_law_352 : decode code 352 = .ok (.invokevirtual 48, 3) := by decide +kernel
theorem dL_law_355 : decode code 355 = .ok (.if_icmp .eq 680, 3) := by decide +kernel
theorem dL_law_358 : decode code 358 = .ok (.iconst 0, 1) := by decide +kernel
theorem dL_law_359 : decode code 359 = .ok (.ireturn, 1) := by decide +kernel
theorem dL_law_360 : decode code 360 = .ok (.aload_n 1, 1) := by decide +kernel
theorem dL_law_361 : decode code 361 = .ok (.aload_n 0, 1) := by decide +kernel
theorem dL_law_362 : decode code 362 = .ok (.iload_n 3, 1) := by decide +kernel
theorem dL_law_363 : decode code 363 = .ok (.iconst 1, 1) := by decide +kernel
theorem dL_law_364 : decode code 364 = .ok (.iadd, 1) := by decide +kernel
theorem dL_law_365 : decode code 365 = .ok (.iaload, 1) := by decide +kernel
theorem dL_law_366 : decode code 366 = .ok (.aload_n 0, 1) := by decide +kernel
theorem dL_law_367 : decode code 367 = .ok (.iload_n 3, 1) := by decide +kernel
theorem dL_law_368 : decode code 368 = .ok (.iconst 2, 1) := by decide +kernel
theorem dL_law_369 : decode code 369 = .ok (.iadd, 1) := by decide +kernel
theorem dL_law_370 : decode code 370 = .ok (.iaload, 1) := by decide +kernel
theorem dL_law_371 : decode code 371 = .ok (.invokevirtual 49, 3) := by decide +kernel
theorem dL_law_374 : decode code 374 = .ok (.aload_n 2, 1) := by decide +kernel
theorem dL_law_375 : decode code 375 = .ok (.aload_n 0, 1) := by decide +kernel
theorem dL_law_376 : decode code 376 = .ok (.iload_n 3, 1) := by decide +kernel
theorem dL_law_377 : decode code 377 = .ok (.iconst 1, 1) := by decide +kernel
theorem dL_law_378 : decode code 378 = .ok (.iadd, 1) := by decide +kernel
theorem dL_law_379 : decode code 379 = .ok (.iaload, 1) := by decide +kernel
theorem dL_law_380 : decode code 380 = .ok (.aload_n 0, 1) := by decide +kernel
theorem dL_law_381 : decode code 381 = .ok (.iload_n 3, 1) := by decide +kernel
theorem dL_law_382 : decode code 382 = .ok (.iconst 2, 1) := by decide +kernel
theorem dL_law_383 : decode code 383 = .ok (.iadd, 1) := by decide +kernel
theorem dL_law_384 : decode code 384 = .ok (.iaload, 1) := by decide +kernel
theorem dL_law_385 : decode code 385 = .ok (.invokevirtual 52, 3) := by decide +kernel
theorem dL_law_388 : decode code 388 = .ok (.if_icmp .eq 647, 3) := by decide +kernel
theorem dL_law_391 : decode code 391 = .ok (.iconst 0, 1) := by decide +kernel
theorem dL_law_392 : decode code 392 = .ok (.ireturn, 1) := by decide +kernel
theorem dL_law_393 : decode code 393 = .ok (.aload_n 1, 1) := by decide +kernel
theorem dL_law_394 : decode code 394 = .ok (.aload_n 0, 1) := by decide +kernel
theorem dL_law_395 : decode code 395 = .ok (.iload_n 3, 1) := by decide +kernel
theorem dL_law_396 : decode code 396 = .ok (.iconst 1, 1) := by decide +kernel
theorem dL_law_397 : decode code 397 = .ok (.iadd, 1) := by decide +kernel
theorem dL_law_398 : decode code 398 = .ok (.iaload, 1) := by decide +kernel
theorem dL_law_399 : decode code 399 = .ok (.aload_n 0, 1) := by decide +kernel
theorem dL_law_400 : decode code 400 = .ok (.iload_n 3, 1) := by decide +kernel
theorem dL_law_401 : decode code 401 = .ok (.iconst 2, 1) := by decide +kernel
theorem dL_law_402 : decode code 402 = .ok (.iadd, 1) := by decide +kernel
theorem dL_law_403 : decode code 403 = .ok (.iaload, 1) := by decide +kernel
theorem dL_law_404 : decode code 404 = .ok (.invokevirtual 53, 3) := by decide +kernel
theorem dL_law_407 : decode code 407 = .ok (.aload_n 2, 1) := by decide +kernel
theorem dL_law_408 : decode code 408 = .ok (.aload_n 0, 1) := by decide +kernel
theorem dL_law_409 : decode code 409 = .ok (.iload_n 3, 1) := by decide +kernel
theorem dL_law_410 : decode code 410 = .ok (.iconst 1, 1) := by decide +kernel
theorem dL_law_411 : decode code 411 = .ok (.iadd, 1) := by decide +kernel
theorem dL_law_412 : decode code 412 = .ok (.iaload, 1) := by decide +kernel
theorem dL_law_413 : decode code 413 = .ok (.aload_n 0, 1) := by decide +kernel
theorem dL_law_414 : decode code 414 = .ok (.iload_n 3, 1) := by decide +kernel
theorem dL_law_415 : decode code 415 = .ok (.iconst 2, 1) := by decide +kernel
theorem dL_law_416 : decode code 416 = .ok (.iadd, 1) := by decide +kernel
theorem dL_law_417 : decode code 417 = .ok (.iaload, 1) := by decide +kernel
theorem dL_law_418 : decode code 418 = .ok (.invokevirtual 56, 3) := by decide +kernel
theorem dL_law_421 : decode code 421 = .ok (.if_icmp .eq 614, 3) := by decide +kernel
theorem dL_law_424 : decode code 424 = .ok (.iconst 0, 1) := by decide +kernel
theorem dL_law_425 : decode code 425 = .ok (.ireturn, 1) := by decide +kernel
theorem dL_law_426 : decode code 426 = .ok (.aload_n 1, 1) := by decide +kernel
theorem dL_law_427 : decode code 427 = .ok (.aload_n 0, 1) := by decide +kernel
theorem dL_law_428 : decode code 428 = .ok (.iload_n 3, 1) := by decide +kernel
theorem dL_law_429 : decode code 429 = .ok (.iconst 1, 1) := by decide +kernel
theorem dL_law_430 : decode code 430 = .ok (.iadd, 1) := by decide +kernel
theorem dL_law_431 : decode code 431 = .ok (.iaload, 1) := by decide +kernel
theorem dL_law_432 : decode code 432 = .ok (.invokevirtual 57, 3) := by decide +kernel
theorem dL_law_435 : decode code 435 = .ok (.aload_n 2, 1) := by decide +kernel
theorem dL_law_436 : decode code 436 = .ok (.aload_n 0, 1) := by decide +kernel
theorem dL_law_437 : decode code 437 = .ok (.iload_n 3, 1) := by decide +kernel
theorem dL_law_438 : decode code 438 = .ok (.iconst 1, 1) := by decide +kernel
theorem dL_law_439 : decode code 439 = .ok (.iadd, 1) := by decide +kernel
theorem dL_law_440 : decode code 440 = .ok (.iaload, 1) := by decide +kernel
theorem dL_law_441 : decode code 441 = .ok (.invokevirtual 60, 3) := by decide +kernel
theorem dL_law_444 : decode code 444 = .ok (.if_icmp .eq 591, 3) := by decide +kernel
theorem dL_law_447 : decode code 447 = .ok (.iconst 0, 1) := by decide +kernel
theorem dL_law_448 : decode code 448 = .ok (.ireturn, 1) := by decide +kernel
theorem dL_law_449 : decode code 449 = .ok (.aload_n 1, 1) := by decide +kernel
theorem dL_law_450 : decode code 450 = .ok (.aload_n 0, 1) := by decide +kernel
theorem dL_law_451 : decode code 451 = .ok (.iload_n 3, 1) := by decide +kernel
theorem dL_law_452 : decode code 452 = .ok (.iconst 1, 1) := by decide +kernel
theorem dL_law_453 : decode code 453 = .ok (.iadd, 1) := by decide +kernel
theorem dL_law_454 : decode code 454 = .ok (.iaload, 1) := by decide +kernel
theorem dL_law_455 : decode code 455 = .ok (.invokevirtual 61, 3) := by decide +kernel
theorem dL_law_458 : decode code 458 = .ok (.aload_n 2, 1) := by decide +kernel
theorem dL_law_459 : decode code 459 = .ok (.aload_n 0, 1) := by decide +kernel
theorem dL_law_460 : decode code 460 = .ok (.iload_n 3, 1) := by decide +kernel
theorem dL_law_461 : decode code 461 = .ok (.iconst 1, 1) := by decide +kernel
theorem dL_law_462 : decode code 462 = .ok (.iadd, 1) := by decide +kernel
theorem dL_law_463 : decode code 463 = .ok (.iaload, 1) := by decide +kernel
theorem dL_law_464 : decode code 464 = .ok (.invokevirtual 64, 3) := by decide +kernel
theorem dL_law_467 : decode code 467 = .ok (.if_icmp .eq 568, 3) := by decide +kernel
theorem dL_law_470 : decode code 470 = .ok (.iconst 0, 1) := by decide +kernel
theorem dL_law_471 : decode code 471 = .ok (.ireturn, 1) := by decide +kernel
theorem dL_law_472 : decode code 472 = .ok (.aload_n 1, 1) := by decide +kernel
theorem dL_law_473 : decode code 473 = .ok (.invokevirtual 65, 3) := by decide +kernel
theorem dL_law_476 : decode code 476 = .ok (.aload_n 2, 1) := by decide +kernel
theorem dL_law_477 : decode code 477 = .ok (.invokevirtual 68, 3) := by decide +kernel
theorem dL_law_480 : decode code 480 = .ok (.if_icmp .eq 555, 3) := by decide +kernel
theorem dL_law_483 : decode code 483 = .ok (.iconst 0, 1) := by decide +kernel
theorem dL_law_484 : decode code 484 = .ok (.ireturn, 1) := by decide +kernel
theorem dL_law_485 : decode code 485 = .ok (.aload_n 1, 1) := by decide +kernel
theorem dL_law_486 : decode code 486 = .ok (.aload_n 0, 1) := by decide +kernel
theorem dL_law_487 : decode code 487 = .ok (.iload_n 3, 1) := by decide +kernel
theorem dL_law_488 : decode code 488 = .ok (.iconst 1, 1) := by decide +kernel
theorem dL_law_489 : decode code 489 = .ok (.iadd, 1) := by decide +kernel
theorem dL_law_490 : decode code 490 = .ok (.iaload, 1) := by decide +kernel
theorem dL_law_491 : decode code 491 = .ok (.aload_n 0, 1) := by decide +kernel
theorem dL_law_492 : decode code 492 = .ok (.iload_n 3, 1) := by decide +kernel
theorem dL_law_493 : decode code 493 = .ok (.iconst 2, 1) := by decide +kernel
theorem dL_law_494 : decode code 494 = .ok (.iadd, 1) := by decide +kernel
theorem dL_law_495 : decode code 495 = .ok (.iaload, 1) := by decide +kernel
theorem dL_law_496 : decode code 496 = .ok (.aload_n 0, 1) := by decide +kernel
theorem dL_law_497 : decode code 497 = .ok (.iload_n 3, 1) := by decide +kernel
theorem dL_law_498 : decode code 498 = .ok (.iconst 3, 1) := by decide +kernel
theorem dL_law_499 : decode code 499 = .ok (.iadd, 1) := by decide +kernel
theorem dL_law_500 : decode code 500 = .ok (.iaload, 1) := by decide +kernel
theorem dL_law_501 : decode code 501 = .ok (.aload_n 0, 1) := by decide +kernel
theorem dL_law_502 : decode code 502 = .ok (.iload_n 3, 1) := by decide +kernel
theorem dL_law_503 : decode code 503 = .ok (.iconst 4, 1) := by decide +kernel
theorem dL_law_504 : decode code 504 = .ok (.iadd, 1) := by decide +kernel
theorem dL_law_505 : decode code 505 = .ok (.iaload, 1) := by decide +kernel
theorem dL_law_506 : decode code 506 = .ok (.invokevirtual 69, 3) := by decide +kernel
theorem dL_law_509 : decode code 509 = .ok (.aload_n 2, 1) := by decide +kernel
theorem dL_law_510 : decode code 510 = .ok (.aload_n 0, 1) := by decide +kernel
theorem dL_law_511 : decode code 511 = .ok (.iload_n 3, 1) := by decide +kernel
theorem dL_law_512 : decode code 512 = .ok (.iconst 1, 1) := by decide +kernel
theorem dL_law_513 : decode code 513 = .ok (.iadd, 1) := by decide +kernel
theorem dL_law_514 : decode code 514 = .ok (.iaload, 1) := by decide +kernel
theorem dL_law_515 : decode code 515 = .ok (.aload_n 0, 1) := by decide +kernel
theorem dL_law_516 : decode code 516 = .ok (.iload_n 3, 1) := by decide +kernel
theorem dL_law_517 : decode code 517 = .ok (.iconst 2, 1) := by decide +kernel
theorem dL_law_518 : decode code 518 = .ok (.iadd, 1) := by decide +kernel
theorem dL_law_519 : decode code 519 = .ok (.iaload, 1) := by decide +kernel
theorem dL_law_520 : decode code 520 = .ok (.aload_n 0, 1) := by decide +kernel
theorem dL_law_521 : decode code 521 = .ok (.iload_n 3, 1) := by decide +kernel
theorem dL_law_522 : decode code 522 = .ok (.iconst 3, 1) := by decide +kernel
theorem dL_law_523 : decode code 523 = .ok (.iadd, 1) := by decide +kernel
theorem dL_law_524 : decode code 524 = .ok (.iaload, 1) := by decide +kernel
theorem dL_law_525 : decode code 525 = .ok (.aload_n 0, 1) := by decide +kernel
theorem dL_law_526 : decode code 526 = .ok (.iload_n 3, 1) := by decide +kernel
theorem dL_law_527 : decode code 527 = .ok (.iconst 4, 1) := by decide +kernel
theorem dL_law_528 : decode code 528 = .ok (.iadd, 1) := by decide +kernel
theorem dL_law_529 : decode code 529 = .ok (.iaload, 1) := by decide +kernel
theorem dL_law_530 : decode code 530 = .ok (.invokevirtual 73, 3) := by decide +kernel
theorem dL_law_533 : decode code 533 = .ok (.if_icmp .eq 502, 3) := by decide +kernel
theorem dL_law_536 : decode code 536 = .ok (.iconst 0, 1) := by decide +kernel
theorem dL_law_537 : decode code 537 = .ok (.ireturn, 1) := by decide +kernel
theorem dL_law_538 : decode code 538 = .ok (.aload_n 1, 1) := by decide +kernel
theorem dL_law_539 : decode code 539 = .ok (.aload_n 0, 1) := by decide +kernel
theorem dL_law_540 : decode code 540 = .ok (.iload_n 3, 1) := by decide +kernel
theorem dL_law_541 : decode code 541 = .ok (.iconst 1, 1) := by decide +kernel
theorem dL_law_542 : decode code 542 = .ok (.iadd, 1) := by decide +kernel
theorem dL_law_543 : decode code 543 = .ok (.iaload, 1) := by decide +kernel
theorem dL_law_544 : decode code 544 = .ok (.aload_n 0, 1) := by decide +kernel
theorem dL_law_545 : decode code 545 = .ok (.iload_n 3, 1) := by decide +kernel
theorem dL_law_546 : decode code 546 = .ok (.iconst 2, 1) := by decide +kernel
theorem dL_law_547 : decode code 547 = .ok (.iadd, 1) := by decide +kernel
theorem dL_law_548 : decode code 548 = .ok (.iaload, 1) := by decide +kernel
theorem dL_law_549 : decode code 549 = .ok (.aload_n 0, 1) := by decide +kernel
theorem dL_law_550 : decode code 550 = .ok (.iload_n 3, 1) := by decide +kernel
theorem dL_law_551 : decode code 551 = .ok (.iconst 3, 1) := by decide +kernel
theorem dL_law_552 : decode code 552 = .ok (.iadd, 1) := by decide +kernel
theorem dL_law_553 : decode code 553 = .ok (.iaload, 1) := by decide +kernel
theorem dL_law_554 : decode code 554 = .ok (.invokevirtual 74, 3) := by decide +kernel
theorem dL_law_557 : decode code 557 = .ok (.aload_n 2, 1) := by decide +kernel
theorem dL_law_558 : decode code 558 = .ok (.aload_n 0, 1) := by decide +kernel
theorem dL_law_559 : decode code 559 = .ok (.iload_n 3, 1) := by decide +kernel
theorem dL_law_560 : decode code 560 = .ok (.iconst 1, 1) := by decide +kernel
theorem dL_law_561 : decode code 561 = .ok (.iadd, 1) := by decide +kernel
theorem dL_law_562 : decode code 562 = .ok (.iaload, 1) := by decide +kernel
theorem dL_law_563 : decode code 563 = .ok (.aload_n 0, 1) := by decide +kernel
theorem dL_law_564 : decode code 564 = .ok (.iload_n 3, 1) := by decide +kernel
theorem dL_law_565 : decode code 565 = .ok (.iconst 2, 1) := by decide +kernel
theorem dL_law_566 : decode code 566 = .ok (.iadd, 1) := by decide +kernel
theorem dL_law_567 : decode code 567 = .ok (.iaload, 1) := by decide +kernel
theorem dL_law_568 : decode code 568 = .ok (.aload_n 0, 1) := by decide +kernel
theorem dL_law_569 : decode code 569 = .ok (.iload_n 3, 1) := by decide +kernel
theorem dL_law_570 : decode code 570 = .ok (.iconst 3, 1) := by decide +kernel
theorem dL_law_571 : decode code 571 = .ok (.iadd, 1) := by decide +kernel
theorem dL_law_572 : decode code 572 = .ok (.iaload, 1) := by decide +kernel
theorem dL_law_573 : decode code 573 = .ok (.invokevirtual 77, 3) := by decide +kernel
theorem dL_law_576 : decode code 576 = .ok (.if_icmp .eq 459, 3) := by decide +kernel
theorem dL_law_579 : decode code 579 = .ok (.iconst 0, 1) := by decide +kernel
theorem dL_law_580 : decode code 580 = .ok (.ireturn, 1) := by decide +kernel
theorem dL_law_581 : decode code 581 = .ok (.aload_n 1, 1) := by decide +kernel
theorem dL_law_582 : decode code 582 = .ok (.aload_n 0, 1) := by decide +kernel
theorem dL_law_583 : decode code 583 = .ok (.iload_n 3, 1) := by decide +kernel
theorem dL_law_584 : decode code 584 = .ok (.iconst 1, 1) := by decide +kernel
theorem dL_law_585 : decode code 585 = .ok (.iadd, 1) := by decide +kernel
theorem dL_law_586 : decode code 586 = .ok (.iaload, 1) := by decide +kernel
theorem dL_law_587 : decode code 587 = .ok (.aload_n 0, 1) := by decide +kernel
theorem dL_law_588 : decode code 588 = .ok (.iload_n 3, 1) := by decide +kernel
theorem dL_law_589 : decode code 589 = .ok (.iconst 2, 1) := by decide +kernel
theorem dL_law_590 : decode code 590 = .ok (.iadd, 1) := by decide +kernel
theorem dL_law_591 : decode code 591 = .ok (.iaload, 1) := by decide +kernel
theorem dL_law_592 : decode code 592 = .ok (.aload_n 0, 1) := by decide +kernel
theorem dL_law_593 : decode code 593 = .ok (.iload_n 3, 1) := by decide +kernel
theorem dL_law_594 : decode code 594 = .ok (.iconst 3, 1) := by decide +kernel
theorem dL_law_595 : decode code 595 = .ok (.iadd, 1) := by decide +kernel
theorem dL_law_596 : decode code 596 = .ok (.iaload, 1) := by decide +kernel
theorem dL_law_597 : decode code 597 = .ok (.aload_n 0, 1) := by decide +kernel
theorem dL_law_598 : decode code 598 = .ok (.iload_n 3, 1) := by decide +kernel
theorem dL_law_599 : decode code 599 = .ok (.iconst 4, 1) := by decide +kernel
theorem dL_law_600 : decode code 600 = .ok (.iadd, 1) := by decide +kernel
theorem dL_law_601 : decode code 601 = .ok (.iaload, 1) := by decide +kernel
theorem dL_law_602 : decode code 602 = .ok (.invokevirtual 78, 3) := by decide +kernel
theorem dL_law_605 : decode code 605 = .ok (.aload_n 2, 1) := by decide +kernel
theorem dL_law_606 : decode code 606 = .ok (.aload_n 0, 1) := by decide +kernel
theorem dL_law_607 : decode code 607 = .ok (.iload_n 3, 1) := by decide +kernel
theorem dL_law_608 : decode code 608 = .ok (.iconst 1, 1) := by decide +kernel
theorem dL_law_609 : decode code 609 = .ok (.iadd, 1) := by decide +kernel
theorem dL_law_610 : decode code 610 = .ok (.iaload, 1) := by decide +kernel
theorem dL_law_611 : decode code 611 = .ok (.aload_n 0, 1) := by decide +kernel
theorem dL_law_612 : decode code 612 = .ok (.iload_n 3, 1) := by decide +kernel
theorem dL_law_613 : decode code 613 = .ok (.iconst 2, 1) := by decide +kernel
theorem dL_law_614 : decode code 614 = .ok (.iadd, 1) := by decide +kernel
theorem dL_law_615 : decode code 615 = .ok (.iaload, 1) := by decide +kernel
theorem dL_law_616 : decode code 616 = .ok (.aload_n 0, 1) := by decide +kernel
theorem dL_law_617 : decode code 617 = .ok (.iload_n 3, 1) := by decide +kernel
theorem dL_law_618 : decode code 618 = .ok (.iconst 3, 1) := by decide +kernel
theorem dL_law_619 : decode code 619 = .ok (.iadd, 1) := by decide +kernel
theorem dL_law_620 : decode code 620 = .ok (.iaload, 1) := by decide +kernel
theorem dL_law_621 : decode code 621 = .ok (.aload_n 0, 1) := by decide +kernel
theorem dL_law_622 : decode code 622 = .ok (.iload_n 3, 1) := by decide +kernel
theorem dL_law_623 : decode code 623 = .ok (.iconst 4, 1) := by decide +kernel
theorem dL_law_624 : decode code 624 = .ok (.iadd, 1) := by decide +kernel
theorem dL_law_625 : decode code 625 = .ok (.iaload, 1) := by decide +kernel
theorem dL_law_626 : decode code 626 = .ok (.invokevirtual 81, 3) := by decide +kernel
theorem dL_law_629 : decode code 629 = .ok (.if_icmp .eq 406, 3) := by decide +kernel
theorem dL_law_632 : decode code 632 = .ok (.iconst 0, 1) := by decide +kernel
theorem dL_law_633 : decode code 633 = .ok (.ireturn, 1) := by decide +kernel
theorem dL_law_634 : decode code 634 = .ok (.aload_n 1, 1) := by decide +kernel
theorem dL_law_635 : decode code 635 = .ok (.aload_n 0, 1) := by decide +kernel
theorem dL_law_636 : decode code 636 = .ok (.iload_n 3, 1) := by decide +kernel
theorem dL_law_637 : decode code 637 = .ok (.iconst 1, 1) := by decide +kernel
theorem dL_law_638 : decode code 638 = .ok (.iadd, 1) := by decide +kernel
theorem dL_law_639 : decode code 639 = .ok (.iaload, 1) := by decide +kernel
theorem dL_law_640 : decode code 640 = .ok (.aload_n 0, 1) := by decide +kernel
theorem dL_law_641 : decode code 641 = .ok (.iload_n 3, 1) := by decide +kernel
theorem dL_law_642 : decode code 642 = .ok (.iconst 2, 1) := by decide +kernel
theorem dL_law_643 : decode code 643 = .ok (.iadd, 1) := by decide +kernel
theorem dL_law_644 : decode code 644 = .ok (.iaload, 1) := by decide +kernel
theorem dL_law_645 : decode code 645 = .ok (.aload_n 0, 1) := by decide +kernel
theorem dL_law_646 : decode code 646 = .ok (.iload_n 3, 1) := by decide +kernel
theorem dL_law_647 : decode code 647 = .ok (.iconst 3, 1) := by decide +kernel
theorem dL_law_648 : decode code 648 = .ok (.iadd, 1) := by decide +kernel
theorem dL_law_649 : decode code 649 = .ok (.iaload, 1) := by decide +kernel
theorem dL_law_650 : decode code 650 = .ok (.invokevirtual 82, 3) := by decide +kernel
theorem dL_law_653 : decode code 653 = .ok (.aload_n 2, 1) := by decide +kernel
theorem dL_law_654 : decode code 654 = .ok (.aload_n 0, 1) := by decide +kernel
theorem dL_law_655 : decode code 655 = .ok (.iload_n 3, 1) := by decide +kernel
theorem dL_law_656 : decode code 656 = .ok (.iconst 1, 1) := by decide +kernel
theorem dL_law_657 : decode code 657 = .ok (.iadd, 1) := by decide +kernel
theorem dL_law_658 : decode code 658 = .ok (.iaload, 1) := by decide +kernel
theorem dL_law_659 : decode code 659 = .ok (.aload_n 0, 1) := by decide +kernel
theorem dL_law_660 : decode code 660 = .ok (.iload_n 3, 1) := by decide +kernel
theorem dL_law_661 : decode code 661 = .ok (.iconst 2, 1) := by decide +kernel
theorem dL_law_662 : decode code 662 = .ok (.iadd, 1) := by decide +kernel
theorem dL_law_663 : decode code 663 = .ok (.iaload, 1) := by decide +kernel
theorem dL_law_664 : decode code 664 = .ok (.aload_n 0, 1) := by decide +kernel
theorem dL_law_665 : decode code 665 = .ok (.iload_n 3, 1) := by decide +kernel
theorem dL_law_666 : decode code 666 = .ok (.iconst 3, 1) := by decide +kernel
theorem dL_law_667 : decode code 667 = .ok (.iadd, 1) := by decide +kernel
theorem dL_law_668 : decode code 668 = .ok (.iaload, 1) := by decide +kernel
theorem dL_law_669 : decode code 669 = .ok (.invokevirtual 85, 3) := by decide +kernel
theorem dL_law_672 : decode code 672 = .ok (.if_icmp .eq 363, 3) := by decide +kernel
theorem dL_law_675 : decode code 675 = .ok (.iconst 0, 1) := by decide +kernel
theorem dL_law_676 : decode code 676 = .ok (.ireturn, 1) := by decide +kernel
theorem dL_law_677 : decode code 677 = .ok (.aload_n 1, 1) := by decide +kernel
theorem dL_law_678 : decode code 678 = .ok (.aload_n 0, 1) := by decide +kernel
theorem dL_law_679 : decode code 679 = .ok (.iload_n 3, 1) := by decide +kernel
theorem dL_law_680 : decode code 680 = .ok (.iconst 1, 1) := by decide +kernel
theorem dL_law_681 : decode code 681 = .ok (.iadd, 1) := by decide +kernel
theorem dL_law_682 : decode code 682 = .ok (.iaload, 1) := by decide +kernel
theorem dL_law_683 : decode code 683 = .ok (.aload_n 0, 1) := by decide +kernel
theorem dL_law_684 : decode code 684 = .ok (.iload_n 3, 1) := by decide +kernel
theorem dL_law_685 : decode code 685 = .ok (.iconst 2, 1) := by decide +kernel
theorem dL_law_686 : decode code 686 = .ok (.iadd, 1) := by decide +kernel
theorem dL_law_687 : decode code 687 = .ok (.iaload, 1) := by decide +kernel
theorem dL_law_688 : decode code 688 = .ok (.aload_n 0, 1) := by decide +kernel
theorem dL_law_689 : decode code 689 = .ok (.iload_n 3, 1) := by decide +kernel
theorem dL_law_690 : decode code 690 = .ok (.iconst 3, 1) := by decide +kernel
theorem dL_law_691 : decode code 691 = .ok (.iadd, 1) := by decide +kernel
theorem dL_law_692 : decode code 692 = .ok (.iaload, 1) := by decide +kernel
theorem dL_law_693 : decode code 693 = .ok (.invokevirtual 86, 3) := by decide +kernel
theorem dL_law_696 : decode code 696 = .ok (.aload_n 2, 1) := by decide +kernel
theorem dL_law_697 : decode code 697 = .ok (.aload_n 0, 1) := by decide +kernel
theorem dL_law_698 : decode code 698 = .ok (.iload_n 3, 1) := by decide +kernel
theorem dL_law_699 : decode code 699 = .ok (.iconst 1, 1) := by decide +kernel
theorem dL_law_700 : decode code 700 = .ok (.iadd, 1) := by decide +kernel
theorem dL_law_701 : decode code 701 = .ok (.iaload, 1) := by decide +kernel
theorem dL_law_702 : decode code 702 = .ok (.aload_n 0, 1) := by decide +kernel
theorem dL_law_703 : decode code 703 = .ok (.iload_n 3, 1) := by decide +kernel
theorem dL_law_704 : decode code 704 = .ok (.iconst 2, 1) := by decide +kernel
theorem dL_law_705 : decode code 705 = .ok (.iadd, 1) := by decide +kernel
theorem dL_law_706 : decode code 706 = .ok (.iaload, 1) := by decide +kernel
theorem dL_law_707 : decode code 707 = .ok (.aload_n 0, 1) := by decide +kernel
theorem dL_law_708 : decode code 708 = .ok (.iload_n 3, 1) := by decide +kernel
theorem dL_law_709 : decode code 709 = .ok (.iconst 3, 1) := by decide +kernel
theorem dL_law_710 : decode code 710 = .ok (.iadd, 1) := by decide +kernel
theorem dL_law_711 : decode code 711 = .ok (.iaload, 1) := by decide +kernel
theorem dL_law_712 : decode code 712 = .ok (.invokevirtual 89, 3) := by decide +kernel
theorem dL_law_715 : decode code 715 = .ok (.if_icmp .eq 320, 3) := by decide +kernel
theorem dL_law_718 : decode code 718 = .ok (.iconst 0, 1) := by decide +kernel
theorem dL_law_719 : decode code 719 = .ok (.ireturn, 1) := by decide +kernel
theorem dL_law_720 : decode code 720 = .ok (.aload_n 1, 1) := by decide +kernel
theorem dL_law_721 : decode code 721 = .ok (.aload_n 0, 1) := by decide +kernel
theorem dL_law_722 : decode code 722 = .ok (.iload_n 3, 1) := by decide +kernel
theorem dL_law_723 : decode code 723 = .ok (.iconst 1, 1) := by decide +kernel
theorem dL_law_724 : decode code 724 = .ok (.iadd, 1) := by decide +kernel
theorem dL_law_725 : decode code 725 = .ok (.iaload, 1) := by decide +kernel
theorem dL_law_726 : decode code 726 = .ok (.aload_n 0, 1) := by decide +kernel
theorem dL_law_727 : decode code 727 = .ok (.iload_n 3, 1) := by decide +kernel
theorem dL_law_728 : decode code 728 = .ok (.iconst 2, 1) := by decide +kernel
theorem dL_law_729 : decode code 729 = .ok (.iadd, 1) := by decide +kernel
theorem dL_law_730 : decode code 730 = .ok (.iaload, 1) := by decide +kernel
theorem dL_law_731 : decode code 731 = .ok (.aload_n 0, 1) := by decide +kernel
theorem dL_law_732 : decode code 732 = .ok (.iload_n 3, 1) := by decide +kernel
theorem dL_law_733 : decode code 733 = .ok (.iconst 3, 1) := by decide +kernel
theorem dL_law_734 : decode code 734 = .ok (.iadd, 1) := by decide +kernel
theorem dL_law_735 : decode code 735 = .ok (.iaload, 1) := by decide +kernel
theorem dL_law_736 : decode code 736 = .ok (.aload_n 0, 1) := by decide +kernel
theorem dL_law_737 : decode code 737 = .ok (.iload_n 3, 1) := by decide +kernel
theorem dL_law_738 : decode code 738 = .ok (.iconst 4, 1) := by decide +kernel
theorem dL_law_739 : decode code 739 = .ok (.iadd, 1) := by decide +kernel
theorem dL_law_740 : decode code 740 = .ok (.iaload, 1) := by decide +kernel
theorem dL_law_741 : decode code 741 = .ok (.aload_n 0, 1) := by decide +kernel
theorem dL_law_742 : decode code 742 = .ok (.iload_n 3, 1) := by decide +kernel
theorem dL_law_743 : decode code 743 = .ok (.iconst 5, 1) := by decide +kernel
theorem dL_law_744 : decode code 744 = .ok (.iadd, 1) := by decide +kernel
theorem dL_law_745 : decode code 745 = .ok (.iaload, 1) := by decide +kernel
theorem dL_law_746 : decode code 746 = .ok (.ifCond .eq 7, 3) := by decide +kernel
theorem dL_law_749 : decode code 749 = .ok (.iconst 1, 1) := by decide +kernel
theorem dL_law_750 : decode code 750 = .ok (.goto 4, 3) := by decide +kernel
theorem dL_law_753 : decode code 753 = .ok (.iconst 0, 1) := by decide +kernel
theorem dL_law_754 : decode code 754 = .ok (.invokevirtual 90, 3) := by decide +kernel
theorem dL_law_757 : decode code 757 = .ok (.aload_n 2, 1) := by decide +kernel
theorem dL_law_758 : decode code 758 = .ok (.aload_n 0, 1) := by decide +kernel
theorem dL_law_759 : decode code 759 = .ok (.iload_n 3, 1) := by decide +kernel
theorem dL_law_760 : decode code 760 = .ok (.iconst 1, 1) := by decide +kernel
theorem dL_law_761 : decode code 761 = .ok (.iadd, 1) := by decide +kernel
theorem dL_law_762 : decode code 762 = .ok (.iaload, 1) := by decide +kernel
theorem dL_law_763 : decode code 763 = .ok (.aload_n 0, 1) := by decide +kernel
theorem dL_law_764 : decode code 764 = .ok (.iload_n 3, 1) := by decide +kernel
theorem dL_law_765 : decode code 765 = .ok (.iconst 2, 1) := by decide +kernel
theorem dL_law_766 : decode code 766 = .ok (.iadd, 1) := by decide +kernel
theorem dL_law_767 : decode code 767 = .ok (.iaload, 1) := by decide +kernel
theorem dL_law_768 : decode code 768 = .ok (.aload_n 0, 1) := by decide +kernel
theorem dL_law_769 : decode code 769 = .ok (.iload_n 3, 1) := by decide +kernel
theorem dL_law_770 : decode code 770 = .ok (.iconst 3, 1) := by decide +kernel
theorem dL_law_771 : decode code 771 = .ok (.iadd, 1) := by decide +kernel
theorem dL_law_772 : decode code 772 = .ok (.iaload, 1) := by decide +kernel
theorem dL_law_773 : decode code 773 = .ok (.aload_n 0, 1) := by decide +kernel
theorem dL_law_774 : decode code 774 = .ok (.iload_n 3, 1) := by decide +kernel
theorem dL_law_775 : decode code 775 = .ok (.iconst 4, 1) := by decide +kernel
theorem dL_law_776 : decode code 776 = .ok (.iadd, 1) := by decide +kernel
theorem dL_law_777 : decode code 777 = .ok (.iaload, 1) := by decide +kernel
theorem dL_law_778 : decode code 778 = .ok (.aload_n 0, 1) := by decide +kernel
theorem dL_law_779 : decode code 779 = .ok (.iload_n 3, 1) := by decide +kernel
theorem dL_law_780 : decode code 780 = .ok (.iconst 5, 1) := by decide +kernel
theorem dL_law_781 : decode code 781 = .ok (.iadd, 1) := by decide +kernel
theorem dL_law_782 : decode code 782 = .ok (.iaload, 1) := by decide +kernel
theorem dL_law_783 : decode code 783 = .ok (.ifCond .eq 7, 3) := by decide +kernel
theorem dL_law_786 : decode code 786 = .ok (.iconst 1, 1) := by decide +kernel
theorem dL_law_787 : decode code 787 = .ok (.goto 4, 3) := by decide +kernel
theorem dL_law_790 : decode code 790 = .ok (.iconst 0, 1) := by decide +kernel
theorem dL_law_791 : decode code 791 = .ok (.invokevirtual 94, 3) := by decide +kernel
theorem dL_law_794 : decode code 794 = .ok (.if_icmp .eq 241, 3) := by decide +kernel
theorem dL_law_797 : decode code 797 = .ok (.iconst 0, 1) := by decide +kernel
theorem dL_law_798 : decode code 798 = .ok (.ireturn, 1) := by decide +kernel
theorem dL_law_799 : decode code 799 = .ok (.aload_n 1, 1) := by decide +kernel
theorem dL_law_800 : decode code 800 = .ok (.invokevirtual 95, 3) := by decide +kernel
theorem dL_law_803 : decode code 803 = .ok (.aload_n 2, 1) := by decide +kernel
theorem dL_law_804 : decode code 804 = .ok (.invokevirtual 98, 3) := by decide +kernel
theorem dL_law_807 : decode code 807 = .ok (.if_icmp .eq 228, 3) := by decide +kernel
theorem dL_law_810 : decode code 810 = .ok (.iconst 0, 1) := by decide +kernel
theorem dL_law_811 : decode code 811 = .ok (.ireturn, 1) := by decide +kernel
theorem dL_law_812 : decode code 812 = .ok (.aload_n 1, 1) := by decide +kernel
theorem dL_law_813 : decode code 813 = .ok (.aload_n 0, 1) := by decide +kernel
theorem dL_law_814 : decode code 814 = .ok (.iload_n 3, 1) := by decide +kernel
theorem dL_law_815 : decode code 815 = .ok (.iconst 1, 1) := by decide +kernel
theorem dL_law_816 : decode code 816 = .ok (.iadd, 1) := by decide +kernel
theorem dL_law_817 : decode code 817 = .ok (.iaload, 1) := by decide +kernel
theorem dL_law_818 : decode code 818 = .ok (.aload_n 0, 1) := by decide +kernel
theorem dL_law_819 : decode code 819 = .ok (.iload_n 3, 1) := by decide +kernel
theorem dL_law_820 : decode code 820 = .ok (.iconst 2, 1) := by decide +kernel
theorem dL_law_821 : decode code 821 = .ok (.iadd, 1) := by decide +kernel
theorem dL_law_822 : decode code 822 = .ok (.iaload, 1) := by decide +kernel
theorem dL_law_823 : decode code 823 = .ok (.invokevirtual 99, 3) := by decide +kernel
theorem dL_law_826 : decode code 826 = .ok (.aload_n 2, 1) := by decide +kernel
theorem dL_law_827 : decode code 827 = .ok (.aload_n 0, 1) := by decide +kernel
theorem dL_law_828 : decode code 828 = .ok (.iload_n 3, 1) := by decide +kernel
theorem dL_law_829 : decode code 829 = .ok (.iconst 1, 1) := by decide +kernel
theorem dL_law_830 : decode code 830 = .ok (.iadd, 1) := by decide +kernel
theorem dL_law_831 : decode code 831 = .ok (.iaload, 1) := by decide +kernel
theorem dL_law_832 : decode code 832 = .ok (.aload_n 0, 1) := by decide +kernel
theorem dL_law_833 : decode code 833 = .ok (.iload_n 3, 1) := by decide +kernel
theorem dL_law_834 : decode code 834 = .ok (.iconst 2, 1) := by decide +kernel
theorem dL_law_835 : decode code 835 = .ok (.iadd, 1) := by decide +kernel
theorem dL_law_836 : decode code 836 = .ok (.iaload, 1) := by decide +kernel
theorem dL_law_837 : decode code 837 = .ok (.invokevirtual 102, 3) := by decide +kernel
theorem dL_law_840 : decode code 840 = .ok (.if_icmp .eq 195, 3) := by decide +kernel
theorem dL_law_843 : decode code 843 = .ok (.iconst 0, 1) := by decide +kernel
theorem dL_law_844 : decode code 844 = .ok (.ireturn, 1) := by decide +kernel
theorem dL_law_845 : decode code 845 = .ok (.aload_n 1, 1) := by decide +kernel
theorem dL_law_846 : decode code 846 = .ok (.aload_n 0, 1) := by decide +kernel
theorem dL_law_847 : decode code 847 = .ok (.iload_n 3, 1) := by decide +kernel
theorem dL_law_848 : decode code 848 = .ok (.iconst 1, 1) := by decide +kernel
theorem dL_law_849 : decode code 849 = .ok (.iadd, 1) := by decide +kernel
theorem dL_law_850 : decode code 850 = .ok (.iaload, 1) := by decide +kernel
theorem dL_law_851 : decode code 851 = .ok (.invokevirtual 103, 3) := by decide +kernel
theorem dL_law_854 : decode code 854 = .ok (.aload_n 2, 1) := by decide +kernel
theorem dL_law_855 : decode code 855 = .ok (.aload_n 0, 1) := by decide +kernel
theorem dL_law_856 : decode code 856 = .ok (.iload_n 3, 1) := by decide +kernel
theorem dL_law_857 : decode code 857 = .ok (.iconst 1, 1) := by decide +kernel
theorem dL_law_858 : decode code 858 = .ok (.iadd, 1) := by decide +kernel
theorem dL_law_859 : decode code 859 = .ok (.iaload, 1) := by decide +kernel
theorem dL_law_860 : decode code 860 = .ok (.invokevirtual 106, 3) := by decide +kernel
theorem dL_law_863 : decode code 863 = .ok (.if_icmp .eq 172, 3) := by decide +kernel
theorem dL_law_866 : decode code 866 = .ok (.iconst 0, 1) := by decide +kernel
theorem dL_law_867 : decode code 867 = .ok (.ireturn, 1) := by decide +kernel
theorem dL_law_868 : decode code 868 = .ok (.aload_n 1, 1) := by decide +kernel
theorem dL_law_869 : decode code 869 = .ok (.aload_n 0, 1) := by decide +kernel
theorem dL_law_870 : decode code 870 = .ok (.iload_n 3, 1) := by decide +kernel
theorem dL_law_871 : decode code 871 = .ok (.iconst 1, 1) := by decide +kernel
theorem dL_law_872 : decode code 872 = .ok (.iadd, 1) := by decide +kernel
theorem dL_law_873 : decode code 873 = .ok (.iaload, 1) := by decide +kernel
theorem dL_law_874 : decode code 874 = .ok (.aload_n 0, 1) := by decide +kernel
theorem dL_law_875 : decode code 875 = .ok (.iload_n 3, 1) := by decide +kernel
theorem dL_law_876 : decode code 876 = .ok (.iconst 2, 1) := by decide +kernel
theorem dL_law_877 : decode code 877 = .ok (.iadd, 1) := by decide +kernel
theorem dL_law_878 : decode code 878 = .ok (.iaload, 1) := by decide +kernel
theorem dL_law_879 : decode code 879 = .ok (.aload_n 0, 1) := by decide +kernel
theorem dL_law_880 : decode code 880 = .ok (.iload_n 3, 1) := by decide +kernel
theorem dL_law_881 : decode code 881 = .ok (.iconst 3, 1) := by decide +kernel
theorem dL_law_882 : decode code 882 = .ok (.iadd, 1) := by decide +kernel
theorem dL_law_883 : decode code 883 = .ok (.iaload, 1) := by decide +kernel
theorem dL_law_884 : decode code 884 = .ok (.aload_n 0, 1) := by decide +kernel
theorem dL_law_885 : decode code 885 = .ok (.iload_n 3, 1) := by decide +kernel
theorem dL_law_886 : decode code 886 = .ok (.iconst 4, 1) := by decide +kernel
theorem dL_law_887 : decode code 887 = .ok (.iadd, 1) := by decide +kernel
theorem dL_law_888 : decode code 888 = .ok (.iaload, 1) := by decide +kernel
theorem dL_law_889 : decode code 889 = .ok (.aload_n 0, 1) := by decide +kernel
theorem dL_law_890 : decode code 890 = .ok (.iload_n 3, 1) := by decide +kernel
theorem dL_law_891 : decode code 891 = .ok (.iconst 5, 1) := by decide +kernel
theorem dL_law_892 : decode code 892 = .ok (.iadd, 1) := by decide +kernel
theorem dL_law_893 : decode code 893 = .ok (.iaload, 1) := by decide +kernel
theorem dL_law_894 : decode code 894 = .ok (.aload_n 0, 1) := by decide +kernel
theorem dL_law_895 : decode code 895 = .ok (.iload_n 3, 1) := by decide +kernel
theorem dL_law_896 : decode code 896 = .ok (.bipush 6, 2) := by decide +kernel
theorem dL_law_898 : decode code 898 = .ok (.iadd, 1) := by decide +kernel
theorem dL_law_899 : decode code 899 = .ok (.iaload, 1) := by decide +kernel
theorem dL_law_900 : decode code 900 = .ok (.invokevirtual 107, 3) := by decide +kernel
theorem dL_law_903 : decode code 903 = .ok (.aload_n 2, 1) := by decide +kernel
theorem dL_law_904 : decode code 904 = .ok (.aload_n 0, 1) := by decide +kernel
theorem dL_law_905 : decode code 905 = .ok (.iload_n 3, 1) := by decide +kernel
theorem dL_law_906 : decode code 906 = .ok (.iconst 1, 1) := by decide +kernel
theorem dL_law_907 : decode code 907 = .ok (.iadd, 1) := by decide +kernel
theorem dL_law_908 : decode code 908 = .ok (.iaload, 1) := by decide +kernel
theorem dL_law_909 : decode code 909 = .ok (.aload_n 0, 1) := by decide +kernel
theorem dL_law_910 : decode code 910 = .ok (.iload_n 3, 1) := by decide +kernel
theorem dL_law_911 : decode code 911 = .ok (.iconst 2, 1) := by decide +kernel
theorem dL_law_912 : decode code 912 = .ok (.iadd, 1) := by decide +kernel
theorem dL_law_913 : decode code 913 = .ok (.iaload, 1) := by decide +kernel
theorem dL_law_914 : decode code 914 = .ok (.aload_n 0, 1) := by decide +kernel
theorem dL_law_915 : decode code 915 = .ok (.iload_n 3, 1) := by decide +kernel
theorem dL_law_916 : decode code 916 = .ok (.iconst 3, 1) := by decide +kernel
theorem dL_law_917 : decode code 917 = .ok (.iadd, 1) := by decide +kernel
theorem dL_law_918 : decode code 918 = .ok (.iaload, 1) := by decide +kernel
theorem dL_law_919 : decode code 919 = .ok (.aload_n 0, 1) := by decide +kernel
theorem dL_law_920 : decode code 920 = .ok (.iload_n 3, 1) := by decide +kernel
theorem dL_law_921 : decode code 921 = .ok (.iconst 4, 1) := by decide +kernel
theorem dL_law_922 : decode code 922 = .ok (.iadd, 1) := by decide +kernel
theorem dL_law_923 : decode code 923 = .ok (.iaload, 1) := by decide +kernel
theorem dL_law_924 : decode code 924 = .ok (.aload_n 0, 1) := by decide +kernel
theorem dL_law_925 : decode code 925 = .ok (.iload_n 3, 1) := by decide +kernel
theorem dL_law_926 : decode code 926 = .ok (.iconst 5, 1) := by decide +kernel
theorem dL_law_927 : decode code 927 = .ok (.iadd, 1) := by decide +kernel
theorem dL_law_928 : decode code 928 = .ok (.iaload, 1) := by decide +kernel
theorem dL_law_929 : decode code 929 = .ok (.aload_n 0, 1) := by decide +kernel
theorem dL_law_930 : decode code 930 = .ok (.iload_n 3, 1) := by decide +kernel
theorem dL_law_931 : decode code 931 = .ok (.bipush 6, 2) := by decide +kernel
theorem dL_law_933 : decode code 933 = .ok (.iadd, 1) := by decide +kernel
theorem dL_law_934 : decode code 934 = .ok (.iaload, 1) := by decide +kernel
theorem dL_law_935 : decode code 935 = .ok (.invokevirtual 111, 3) := by decide +kernel
theorem dL_law_938 : decode code 938 = .ok (.if_icmp .eq 97, 3) := by decide +kernel
theorem dL_law_941 : decode code 941 = .ok (.iconst 0, 1) := by decide +kernel
theorem dL_law_942 : decode code 942 = .ok (.ireturn, 1) := by decide +kernel
theorem dL_law_943 : decode code 943 = .ok (.aload_n 1, 1) := by decide +kernel
theorem dL_law_944 : decode code 944 = .ok (.aload_n 0, 1) := by decide +kernel
theorem dL_law_945 : decode code 945 = .ok (.iload_n 3, 1) := by decide +kernel
theorem dL_law_946 : decode code 946 = .ok (.iconst 1, 1) := by decide +kernel
theorem dL_law_947 : decode code 947 = .ok (.iadd, 1) := by decide +kernel
theorem dL_law_948 : decode code 948 = .ok (.iaload, 1) := by decide +kernel
theorem dL_law_949 : decode code 949 = .ok (.aload_n 0, 1) := by decide +kernel
theorem dL_law_950 : decode code 950 = .ok (.iload_n 3, 1) := by decide +kernel
theorem dL_law_951 : decode code 951 = .ok (.iconst 2, 1) := by decide +kernel
theorem dL_law_952 : decode code 952 = .ok (.iadd, 1) := by decide +kernel
theorem dL_law_953 : decode code 953 = .ok (.iaload, 1) := by decide +kernel
theorem dL_law_954 : decode code 954 = .ok (.aload_n 0, 1) := by decide +kernel
theorem dL_law_955 : decode code 955 = .ok (.iload_n 3, 1) := by decide +kernel
theorem dL_law_956 : decode code 956 = .ok (.iconst 3, 1) := by decide +kernel
theorem dL_law_957 : decode code 957 = .ok (.iadd, 1) := by decide +kernel
theorem dL_law_958 : decode code 958 = .ok (.iaload, 1) := by decide +kernel
theorem dL_law_959 : decode code 959 = .ok (.invokevirtual 112, 3) := by decide +kernel
theorem dL_law_962 : decode code 962 = .ok (.aload_n 2, 1) := by decide +kernel
theorem dL_law_963 : decode code 963 = .ok (.aload_n 0, 1) := by decide +kernel
theorem dL_law_964 : decode code 964 = .ok (.iload_n 3, 1) := by decide +kernel
theorem dL_law_965 : decode code 965 = .ok (.iconst 1, 1) := by decide +kernel
theorem dL_law_966 : decode code 966 = .ok (.iadd, 1) := by decide +kernel
theorem dL_law_967 : decode code 967 = .ok (.iaload, 1) := by decide +kernel
theorem dL_law_968 : decode code 968 = .ok (.aload_n 0, 1) := by decide +kernel
theorem dL_law_969 : decode code 969 = .ok (.iload_n 3, 1) := by decide +kernel
theorem dL_law_970 : decode code 970 = .ok (.iconst 2, 1) := by decide +kernel
theorem dL_law_971 : decode code 971 = .ok (.iadd, 1) := by decide +kernel
theorem dL_law_972 : decode code 972 = .ok (.iaload, 1) := by decide +kernel
theorem dL_law_973 : decode code 973 = .ok (.aload_n 0, 1) := by decide +kernel
theorem dL_law_974 : decode code 974 = .ok (.iload_n 3, 1) := by decide +kernel
theorem dL_law_975 : decode code 975 = .ok (.iconst 3, 1) := by decide +kernel
theorem dL_law_976 : decode code 976 = .ok (.iadd, 1) := by decide +kernel
theorem dL_law_977 : decode code 977 = .ok (.iaload, 1) := by decide +kernel
theorem dL_law_978 : decode code 978 = .ok (.invokevirtual 115, 3) := by decide +kernel
theorem dL_law_981 : decode code 981 = .ok (.if_icmp .eq 54, 3) := by decide +kernel
theorem dL_law_984 : decode code 984 = .ok (.iconst 0, 1) := by decide +kernel
theorem dL_law_985 : decode code 985 = .ok (.ireturn, 1) := by decide +kernel
theorem dL_law_986 : decode code 986 = .ok (.aload_n 1, 1) := by decide +kernel
theorem dL_law_987 : decode code 987 = .ok (.invokevirtual 116, 3) := by decide +kernel
theorem dL_law_990 : decode code 990 = .ok (.aload_n 2, 1) := by decide +kernel
theorem dL_law_991 : decode code 991 = .ok (.invokevirtual 119, 3) := by decide +kernel
theorem dL_law_994 : decode code 994 = .ok (.if_icmp .eq 41, 3) := by decide +kernel
theorem dL_law_997 : decode code 997 = .ok (.iconst 0, 1) := by decide +kernel
theorem dL_law_998 : decode code 998 = .ok (.ireturn, 1) := by decide +kernel
theorem dL_law_999 : decode code 999 = .ok (.aload_n 1, 1) := by decide +kernel
theorem dL_law_1000 : decode code 1000 = .ok (.invokevirtual 120, 3) := by decide +kernel
theorem dL_law_1003 : decode code 1003 = .ok (.aload_n 2, 1) := by decide +kernel
theorem dL_law_1004 : decode code 1004 = .ok (.invokevirtual 123, 3) := by decide +kernel
theorem dL_law_1007 : decode code 1007 = .ok (.if_icmp .eq 28, 3) := by decide +kernel
theorem dL_law_1010 : decode code 1010 = .ok (.iconst 0, 1) := by decide +kernel
theorem dL_law_1011 : decode code 1011 = .ok (.ireturn, 1) := by decide +kernel
theorem dL_law_1012 : decode code 1012 = .ok (.aload_n 1, 1) := by decide +kernel
theorem dL_law_1013 : decode code 1013 = .ok (.aload_n 0, 1) := by decide +kernel
theorem dL_law_1014 : decode code 1014 = .ok (.iload_n 3, 1) := by decide +kernel
theorem dL_law_1015 : decode code 1015 = .ok (.iconst 1, 1) := by decide +kernel
theorem dL_law_1016 : decode code 1016 = .ok (.iadd, 1) := by decide +kernel
theorem dL_law_1017 : decode code 1017 = .ok (.iaload, 1) := by decide +kernel
theorem dL_law_1018 : decode code 1018 = .ok (.invokevirtual 124, 3) := by decide +kernel
theorem dL_law_1021 : decode code 1021 = .ok (.aload_n 2, 1) := by decide +kernel
theorem dL_law_1022 : decode code 1022 = .ok (.aload_n 0, 1) := by decide +kernel
theorem dL_law_1023 : decode code 1023 = .ok (.iload_n 3, 1) := by decide +kernel
theorem dL_law_1024 : decode code 1024 = .ok (.iconst 1, 1) := by decide +kernel
theorem dL_law_1025 : decode code 1025 = .ok (.iadd, 1) := by decide +kernel
theorem dL_law_1026 : decode code 1026 = .ok (.iaload, 1) := by decide +kernel
theorem dL_law_1027 : decode code 1027 = .ok (.invokevirtual 127, 3) := by decide +kernel
theorem dL_law_1030 : decode code 1030 = .ok (.if_icmp .eq 5, 3) := by decide +kernel
theorem dL_law_1033 : decode code 1033 = .ok (.iconst 0, 1) := by decide +kernel
theorem dL_law_1034 : decode code 1034 = .ok (.ireturn, 1) := by decide +kernel
theorem dL_law_1035 : decode code 1035 = .ok (.iinc 3 7, 3) := by decide +kernel
theorem dL_law_1038 : decode code 1038 = .ok (.goto (-1020), 3) := by decide +kernel
theorem dL_law_1041 : decode code 1041 = .ok (.iconst 1, 1) := by decide +kernel
theorem dL_law_1042 : decode code 1042 = .ok (.ireturn, 1) := by decide +kernel
end
section
/-! A judgement over lists alone: the frame's place, its locals, its stack, the world's cells; heap, locations and slots are bound away. -/
abbrev kw_G : Type := va_G × (Nat → ClassId)
def kw_ty (g : kw_G) : List (ClassId × FieldType) := [(g.2 0, .int), (g.2 1, .char), (g.2 2, .byte), (g.2 3, .boolean), (g.2 4, .object RX4)]
def kw_nest : List Cond := [.methodLinkNest RX5 9 yX3_init RX5, .methodLinkNest RX5 18 yX4_init RX5, .methodLinkNest RX1 28 yX4_init RX5, .methodLinkNest RX5 40 yX2_init RX5, .methodLinkNest RX0 40 yX4_init RX5, .methodLinkNest RX4 68 yX5_contains RX5, .methodLinkNest RX4 94 yX5_costOf RX5, .methodLinkNest RX4 52 yX5_areAlike RX5, .methodLinkNest RX5 200 yX0_tryAll RX5, .methodLinkNest RX0 66 yX5_contains RX5]
def kw_nestM (w : Cond) : Prop := ∃ a i y h, w = .methodLinkNest a i y h
theorem kw_nest_ok : ∀ w ∈ kw_nest, kw_nestM w := by
  intro w hw
  simp only [kw_nest, List.mem_cons, List.not_mem_nil, or_false] at hw
  rcases hw with rfl | rfl | rfl | rfl | rfl | rfl | rfl | rfl | rfl | rfl <;> exact ⟨_, _, _, _, rfl⟩
def kw_E (g : kw_G) (U : State) : Prop := va_K g.1 vwCl (kw_ty g) U ∧ (∀ w ∈ kw_nest, va_Nw w U) ∧ va_AO RX4 U
theorem kw_E.warm {g : kw_G} {s U : State} (hW : s.WarmedH U.vm) (h : kw_E g s) : kw_E g U := by
  refine ⟨va_K.moved hW.alike h.1, fun w hw => ?_, va_AO.moved hW.alike h.2.2⟩
  obtain ⟨a, i, y, t, rfl⟩ := kw_nest_ok w hw
  exact va_Nw.warmM hW (h.2.1 _ hw)
theorem kw_E.calling {g : kw_G} {U : State} {gf : JFrame} {mk : MethodId} {a : Array Value} (h : kw_E g U) : kw_E g (U.calling gf mk a) := by
  refine ⟨va_K.moved (u := U) (U := U.calling gf mk a) (Vm.Alike.refl U.vm) h.1, fun w hw => ?_, va_AO.moved (u := U) (U := U.calling gf mk a) (Vm.Alike.refl U.vm) h.2.2⟩
  obtain ⟨a, i, y, t, rfl⟩ := kw_nest_ok w hw
  exact va_Nw.same rfl (u := U) (U := U.calling gf mk _) rfl (h.2.1 _ hw)
/-- what stays the same in a method's body -/
abbrev kw_X : Type := Program × Launch × Env × Room × State × MethodId × Array Value × List Frame × Method × Code × kw_G × (Nat → Prop) × Heap × Nat × (State → Prop)
def kW (x : kw_X) (n k : Nat) (pc : Nat) (lv : List (Nat × Value)) (st : List Value) (ws : va_W) : Prop := match x with
  | (p, l, e, R, s, m, args, below, meth, c, g, A, H0, nL, Q) => ∀ (H : Heap) (locs : List Loc) (ls : Array Slot), va_P g.1 vwCl ws H → va_D A ws → va_S A H0 H locs → lv_has ls nL lv → W p l e R s m args below meth c H locs n k Q (F0 m pc ls st)
def kX (l : Launch) (g : kw_G) (own : String) (cc : ByteArray) (nL : Nat) (R : Room) (x : kw_X) : Prop := match x with
  | (p, l', _, R', s, m, args, _, meth, c, g', A, H0, nL', _) => l' = l ∧ R' = R ∧ g' = g ∧ nL' = nL ∧ p.tables.exec = Jvm.exec ∧ c.code = cc ∧ c.maxLocals = nL ∧ s.vm.findClass own = some m.cls ∧ (∀ w ∈ kw_T, w.before args s = true) ∧ kw_E g s ∧ (∀ q, H0.size ≤ q → A q) ∧ meth.locks = false
/-- the ends: an int (boolean, char ..), nothing -/
def kZi (ty : FieldType) (P : Int32 → va_W → Prop) (mc ms : Nat) (x : kw_X) : Prop := match x with
  | (_, _, _, _, s, _, args, below, meth, _, g, A, H0, _, Q) => meth.sig.returnType = some ty ∧ H0 = s.heap ∧ Q = MQ below (va_Qi (S := va_W) P (fun w t => va_P g.1 vwCl w t.heap ∧ va_D A w) A) args s mc ms A
def kZv (P : va_W → Prop) (mc ms : Nat) (x : kw_X) : Prop := match x with
  | (_, _, _, _, s, _, args, below, meth, _, g, A, H0, _, Q) => meth.sig.returnType = none ∧ H0 = s.heap ∧ Q = MQ below (va_Qv (S := va_W) P (fun w t => va_P g.1 vwCl w t.heap ∧ va_D A w) A) args s mc ms A
/-- a method's contract: its arguments, the world that it is given, what holds of the answer and of the world behind it -/
def kPre (g : kw_G) (av : List Value) (ws : va_W) (sz : Nat) : Array Value → State → Prop := va_Pc av (fun U => U.heap.size = sz ∧ va_P g.1 vwCl ws U.heap ∧ kw_E g U ∧ va_D (fun _ => True) ws)
def kMi (l : Launch) (g : kw_G) (y : MethodName) (cc : ByteArray) (nL : Nat) (ty : FieldType) (R : Room) (mc ms : Nat) (av : List Value) (ws : va_W) (P : Int32 → va_W → Prop) : Prop :=
  ∀ sz, Met l y (.code y cc nL (some ty) :: kw_T) R (kPre g av ws sz) (va_Qi (S := va_W) P (fun w t => va_P g.1 vwCl w t.heap ∧ va_D (va_A ws sz) w) (va_A ws sz)) mc ms (va_A ws sz)
def kMv (l : Launch) (g : kw_G) (y : MethodName) (cc : ByteArray) (nL : Nat) (R : Room) (mc ms : Nat) (av : List Value) (ws : va_W) (P : va_W → Prop) : Prop :=
  ∀ sz, Met l y (.code y cc nL none :: kw_T) R (kPre g av ws sz) (va_Qv (S := va_W) P (fun w t => va_P g.1 vwCl w t.heap ∧ va_D (va_A ws sz) w) (va_A ws sz)) mc ms (va_A ws sz)
theorem kPre_blind (g : kw_G) (av : List Value) (ws : va_W) (sz : Nat) : FrameBlind (kPre g av ws sz) := by
  intro a U gf mk h
  obtain ⟨rfl, h1, h2, h3, h4⟩ := h
  exact ⟨rfl, h1, h2, h3.calling, h4⟩
theorem kMi_of {l : Launch} {g : kw_G} {y : MethodName} {cc : ByteArray} {nL : Nat} {ty : FieldType} {R : Room} {mc ms : Nat} {av : List Value} {ws : va_W} {P : Int32 → va_W → Prop}
    (hy : plainFor y = true) (hlen : (lg_sl av).length ≤ nL) (body : ∀ x, kX l g y.cls cc nL R x → kZi ty P mc ms x → kW x 0 0 0 (lv_args 0 av) [] ws) : kMi l g y cc nL ty R mc ms av ws P := by
  intro sz
  refine va_MetF (cc := cc) (maxL := nL) (ret := some ty) hy rfl ?_
  intro p e s m args below meth c s₁ B hml hv
  obtain ⟨rfl, hsz, hP, hE, hD0⟩ := hv
  have hts := atoms_spec (ws := .code y cc nL (some ty) :: kw_T) B.pre
  have hown : s.vm.findClass y.cls = some m.cls := findClass_of_methodNamed B.named
  subst hsz
  have hD := hD0.self (sz := s.heap.size)
  have hl := lv_entry av (n := nL) hlen
  have key := body (p, l, e, (headSpec (.code y cc nL (some ty) :: kw_T) R).room, s, m, av.toArray, below, meth, c, g, va_A ws s.heap.size, s.heap, nL, _)
    ⟨rfl, rfl, rfl, rfl, B.exec, B.bytes, hml, hown, fun w hw => hts w (List.mem_cons_of_mem _ hw), hE, fun q h => Or.inr h, B.notSynchronized⟩ ⟨B.returns, rfl, rfl⟩
  rw [lg_entry_eq]
  exact key s.heap [] _ hP hD va_S.rf hl
theorem kMv_of {l : Launch} {g : kw_G} {y : MethodName} {cc : ByteArray} {nL : Nat} {R : Room} {mc ms : Nat} {av : List Value} {ws : va_W} {P : va_W → Prop}
    (hy : plainFor y = true) (hlen : (lg_sl av).length ≤ nL) (body : ∀ x, kX l g y.cls cc nL R x → kZv P mc ms x → kW x 0 0 0 (lv_args 0 av) [] ws) : kMv l g y cc nL R mc ms av ws P := by
  intro sz
  refine va_MetF (cc := cc) (maxL := nL) (ret := none) hy rfl ?_
  intro p e s m args below meth c s₁ B hml hv
  obtain ⟨rfl, hsz, hP, hE, hD0⟩ := hv
  have hts := atoms_spec (ws := .code y cc nL none :: kw_T) B.pre
  have hown : s.vm.findClass y.cls = some m.cls := findClass_of_methodNamed B.named
  subst hsz
  have hD := hD0.self (sz := s.heap.size)
  have hl := lv_entry av (n := nL) hlen
  have key := body (p, l, e, (headSpec (.code y cc nL none :: kw_T) R).room, s, m, av.toArray, below, meth, c, g, va_A ws s.heap.size, s.heap, nL, _)
    ⟨rfl, rfl, rfl, rfl, B.exec, B.bytes, hml, hown, fun w hw => hts w (List.mem_cons_of_mem _ hw), hE, fun q h => Or.inr h, B.notSynchronized⟩ ⟨B.returns, rfl, rfl⟩
  rw [lg_entry_eq]
  exact key s.heap [] _ hP hD va_S.rf hl
/-- names in kMi_of: the constructor's name is at hand -/
def kInit (x : kw_X) : Prop := match x with
  | (_, _, _, _, _, _, _, _, meth, _) => meth.name = "<init>"
theorem kMv_ofI {l : Launch} {g : kw_G} {y : MethodName} {cc : ByteArray} {nL : Nat} {R : Room} {mc ms : Nat} {av : List Value} {ws : va_W} {P : va_W → Prop}
    (hy : plainFor y = true) (hn : y.name = "<init>") (hlen : (lg_sl av).length ≤ nL) (body : ∀ x, kX l g y.cls cc nL R x → kZv P mc ms x → kInit x → kW x 0 0 0 (lv_args 0 av) [] ws) : kMv l g y cc nL R mc ms av ws P := by
  intro sz
  refine va_MetF (cc := cc) (maxL := nL) (ret := none) hy rfl ?_
  intro p e s m args below meth c s₁ B hml hv
  obtain ⟨rfl, hsz, hP, hE, hD0⟩ := hv
  have hts := atoms_spec (ws := .code y cc nL none :: kw_T) B.pre
  have hown : s.vm.findClass y.cls = some m.cls := findClass_of_methodNamed B.named
  have hin : meth.name = "<init>" := ((name_of_methodNamed B.named B.method).1).trans hn
  subst hsz
  have hD := hD0.self (sz := s.heap.size)
  have hl := lv_entry av (n := nL) hlen
  have key := body (p, l, e, (headSpec (.code y cc nL none :: kw_T) R).room, s, m, av.toArray, below, meth, c, g, va_A ws s.heap.size, s.heap, nL, _)
    ⟨rfl, rfl, rfl, rfl, B.exec, B.bytes, hml, hown, fun w hw => hts w (List.mem_cons_of_mem _ hw), hE, fun q h => Or.inr h, B.notSynchronized⟩ ⟨B.returns, rfl, rfl⟩ hin
  rw [lg_entry_eq]
  exact key s.heap [] _ hP hD va_S.rf hl
section KB
variable {x : kw_X} {l : Launch} {g : kw_G} {own : String} {cc : ByteArray} {nL : Nat} {R : Room} {n k pc : Nat} {lv lv' : List (Nat × Value)} {st : List Value} {ws ws' : va_W}
theorem kb_iadd (X : kX l g own cc nL R x) {a b : Int32} (d : decode cc pc = .ok (.iadd, 1)) (K : kW x n k (pc + 1) lv (.int (a + b) :: st) ws) : kW x n k pc lv (.int b :: .int a :: st) ws := by
  obtain ⟨p, l', e, R', s, m, args, below, meth, c, g', A, H0, nL', Q⟩ := x
  obtain ⟨rfl, rfl, rfl, rfl, hx, hb, hml, ho, hts, hE, hA, hk⟩ := X
  exact fun H locs ls hP hD hS hl => lv_iadd hx hb d (K H locs ls hP hD hS hl)
theorem kb_isub (X : kX l g own cc nL R x) {a b : Int32} (d : decode cc pc = .ok (.isub, 1)) (K : kW x n k (pc + 1) lv (.int (a - b) :: st) ws) : kW x n k pc lv (.int b :: .int a :: st) ws := by
  obtain ⟨p, l', e, R', s, m, args, below, meth, c, g', A, H0, nL', Q⟩ := x
  obtain ⟨rfl, rfl, rfl, rfl, hx, hb, hml, ho, hts, hE, hA, hk⟩ := X
  exact fun H locs ls hP hD hS hl => lv_isub hx hb d (K H locs ls hP hD hS hl)
theorem kb_imul (X : kX l g own cc nL R x) {a b : Int32} (d : decode cc pc = .ok (.imul, 1)) (K : kW x n k (pc + 1) lv (.int (a * b) :: st) ws) : kW x n k pc lv (.int b :: .int a :: st) ws := by
  obtain ⟨p, l', e, R', s, m, args, below, meth, c, g', A, H0, nL', Q⟩ := x
  obtain ⟨rfl, rfl, rfl, rfl, hx, hb, hml, ho, hts, hE, hA, hk⟩ := X
  exact fun H locs ls hP hD hS hl => lv_imul hx hb d (K H locs ls hP hD hS hl)
theorem kb_iand (X : kX l g own cc nL R x) {a b : Int32} (d : decode cc pc = .ok (.iand, 1)) (K : kW x n k (pc + 1) lv (.int (a &&& b) :: st) ws) : kW x n k pc lv (.int b :: .int a :: st) ws := by
  obtain ⟨p, l', e, R', s, m, args, below, meth, c, g', A, H0, nL', Q⟩ := x
  obtain ⟨rfl, rfl, rfl, rfl, hx, hb, hml, ho, hts, hE, hA, hk⟩ := X
  exact fun H locs ls hP hD hS hl => lv_iand hx hb d (K H locs ls hP hD hS hl)
theorem kb_ior (X : kX l g own cc nL R x) {a b : Int32} (d : decode cc pc = .ok (.ior, 1)) (K : kW x n k (pc + 1) lv (.int (a ||| b) :: st) ws) : kW x n k pc lv (.int b :: .int a :: st) ws := by
  obtain ⟨p, l', e, R', s, m, args, below, meth, c, g', A, H0, nL', Q⟩ := x
  obtain ⟨rfl, rfl, rfl, rfl, hx, hb, hml, ho, hts, hE, hA, hk⟩ := X
  exact fun H locs ls hP hD hS hl => lv_ior hx hb d (K H locs ls hP hD hS hl)
theorem kb_ixor (X : kX l g own cc nL R x) {a b : Int32} (d : decode cc pc = .ok (.ixor, 1)) (K : kW x n k (pc + 1) lv (.int (a ^^^ b) :: st) ws) : kW x n k pc lv (.int b :: .int a :: st) ws := by
  obtain ⟨p, l', e, R', s, m, args, below, meth, c, g', A, H0, nL', Q⟩ := x
  obtain ⟨rfl, rfl, rfl, rfl, hx, hb, hml, ho, hts, hE, hA, hk⟩ := X
  exact fun H locs ls hP hD hS hl => lv_ixor hx hb d (K H locs ls hP hD hS hl)
theorem kb_ishl (X : kX l g own cc nL R x) {a b : Int32} (d : decode cc pc = .ok (.ishl, 1)) (K : kW x n k (pc + 1) lv (.int (a <<< (b &&& 31)) :: st) ws) : kW x n k pc lv (.int b :: .int a :: st) ws := by
  obtain ⟨p, l', e, R', s, m, args, below, meth, c, g', A, H0, nL', Q⟩ := x
  obtain ⟨rfl, rfl, rfl, rfl, hx, hb, hml, ho, hts, hE, hA, hk⟩ := X
  exact fun H locs ls hP hD hS hl => lv_ishl hx hb d (K H locs ls hP hD hS hl)
theorem kb_ishr (X : kX l g own cc nL R x) {a b : Int32} (d : decode cc pc = .ok (.ishr, 1)) (K : kW x n k (pc + 1) lv (.int (a >>> (b &&& 31)) :: st) ws) : kW x n k pc lv (.int b :: .int a :: st) ws := by
  obtain ⟨p, l', e, R', s, m, args, below, meth, c, g', A, H0, nL', Q⟩ := x
  obtain ⟨rfl, rfl, rfl, rfl, hx, hb, hml, ho, hts, hE, hA, hk⟩ := X
  exact fun H locs ls hP hD hS hl => lv_ishr hx hb d (K H locs ls hP hD hS hl)
theorem kb_idiv (X : kX l g own cc nL R x) {a b : Int32} (d : decode cc pc = .ok (.idiv, 1)) (hne : ¬ b = 0) (K : kW x n k (pc + 1) lv (.int (a / b) :: st) ws) : kW x n k pc lv (.int b :: .int a :: st) ws := by
  obtain ⟨p, l', e, R', s, m, args, below, meth, c, g', A, H0, nL', Q⟩ := x
  obtain ⟨rfl, rfl, rfl, rfl, hx, hb, hml, ho, hts, hE, hA, hk⟩ := X
  exact fun H locs ls hP hD hS hl => lv_idiv hx hb d hne (K H locs ls hP hD hS hl)
theorem kb_irem (X : kX l g own cc nL R x) {a b : Int32} (d : decode cc pc = .ok (.irem, 1)) (hne : ¬ b = 0) (K : kW x n k (pc + 1) lv (.int (a - a / b * b) :: st) ws) : kW x n k pc lv (.int b :: .int a :: st) ws := by
  obtain ⟨p, l', e, R', s, m, args, below, meth, c, g', A, H0, nL', Q⟩ := x
  obtain ⟨rfl, rfl, rfl, rfl, hx, hb, hml, ho, hts, hE, hA, hk⟩ := X
  exact fun H locs ls hP hD hS hl => lv_irem hx hb d hne (K H locs ls hP hD hS hl)
theorem kb_ladd (X : kX l g own cc nL R x) {a b : Int64} (d : decode cc pc = .ok (.ladd, 1)) (K : kW x n k (pc + 1) lv (.long (a + b) :: st) ws) : kW x n k pc lv (.long b :: .long a :: st) ws := by
  obtain ⟨p, l', e, R', s, m, args, below, meth, c, g', A, H0, nL', Q⟩ := x
  obtain ⟨rfl, rfl, rfl, rfl, hx, hb, hml, ho, hts, hE, hA, hk⟩ := X
  exact fun H locs ls hP hD hS hl => lv_ladd hx hb d (K H locs ls hP hD hS hl)
theorem kb_lmul (X : kX l g own cc nL R x) {a b : Int64} (d : decode cc pc = .ok (.lmul, 1)) (K : kW x n k (pc + 1) lv (.long (a * b) :: st) ws) : kW x n k pc lv (.long b :: .long a :: st) ws := by
  obtain ⟨p, l', e, R', s, m, args, below, meth, c, g', A, H0, nL', Q⟩ := x
  obtain ⟨rfl, rfl, rfl, rfl, hx, hb, hml, ho, hts, hE, hA, hk⟩ := X
  exact fun H locs ls hP hD hS hl => lv_lmul hx hb d (K H locs ls hP hD hS hl)
theorem kb_lrem (X : kX l g own cc nL R x) {a b : Int64} (d : decode cc pc = .ok (.lrem, 1)) (hne : ¬ b = 0) (K : kW x n k (pc + 1) lv (.long (a - a / b * b) :: st) ws) : kW x n k pc lv (.long b :: .long a :: st) ws := by
  obtain ⟨p, l', e, R', s, m, args, below, meth, c, g', A, H0, nL', Q⟩ := x
  obtain ⟨rfl, rfl, rfl, rfl, hx, hb, hml, ho, hts, hE, hA, hk⟩ := X
  exact fun H locs ls hP hD hS hl => lv_lrem hx hb d hne (K H locs ls hP hD hS hl)
theorem kb_lcmp (X : kX l g own cc nL R x) {a b : Int64} (d : decode cc pc = .ok (.lcmp, 1)) (K : kW x n k (pc + 1) lv (.int (lg_cmp a b) :: st) ws) : kW x n k pc lv (.long b :: .long a :: st) ws := by
  obtain ⟨p, l', e, R', s, m, args, below, meth, c, g', A, H0, nL', Q⟩ := x
  obtain ⟨rfl, rfl, rfl, rfl, hx, hb, hml, ho, hts, hE, hA, hk⟩ := X
  exact fun H locs ls hP hD hS hl => W.lcmp hx hb d (K H locs ls hP hD hS hl)
theorem kb_iushr (X : kX l g own cc nL R x) {a b v : Int32} (d : decode cc pc = .ok (.iushr, 1)) (hv : (a.toUInt32 >>> (b.toUInt32 &&& Int32.toUInt32 31)).toInt32 = v) (K : kW x n k (pc + 1) lv (.int v :: st) ws) : kW x n k pc lv (.int b :: .int a :: st) ws := by
  obtain ⟨p, l', e, R', s, m, args, below, meth, c, g', A, H0, nL', Q⟩ := x
  obtain ⟨rfl, rfl, rfl, rfl, hx, hb, hml, ho, hts, hE, hA, hk⟩ := X
  exact fun H locs ls hP hD hS hl => lv_iushr hx hb d hv (K H locs ls hP hD hS hl)
theorem kb_i2l (X : kX l g own cc nL R x) {a : Int32} {v : Int64} (d : decode cc pc = .ok (.i2l, 1)) (hv : a.toInt64 = v) (K : kW x n k (pc + 1) lv (.long v :: st) ws) : kW x n k pc lv (.int a :: st) ws := by
  obtain ⟨p, l', e, R', s, m, args, below, meth, c, g', A, H0, nL', Q⟩ := x
  obtain ⟨rfl, rfl, rfl, rfl, hx, hb, hml, ho, hts, hE, hA, hk⟩ := X
  exact fun H locs ls hP hD hS hl => lv_i2l hx hb d hv (K H locs ls hP hD hS hl)
theorem kb_l2i (X : kX l g own cc nL R x) {a : Int64} {v : Int32} (d : decode cc pc = .ok (.l2i, 1)) (hv : a.toInt32 = v) (K : kW x n k (pc + 1) lv (.int v :: st) ws) : kW x n k pc lv (.long a :: st) ws := by
  obtain ⟨p, l', e, R', s, m, args, below, meth, c, g', A, H0, nL', Q⟩ := x
  obtain ⟨rfl, rfl, rfl, rfl, hx, hb, hml, ho, hts, hE, hA, hk⟩ := X
  exact fun H locs ls hP hD hS hl => lv_l2i hx hb d hv (K H locs ls hP hD hS hl)
theorem kb_i2b (X : kX l g own cc nL R x) {a v : Int32} (d : decode cc pc = .ok (.i2b, 1)) (hv : a.toInt8.toInt32 = v) (K : kW x n k (pc + 1) lv (.int v :: st) ws) : kW x n k pc lv (.int a :: st) ws := by
  obtain ⟨p, l', e, R', s, m, args, below, meth, c, g', A, H0, nL', Q⟩ := x
  obtain ⟨rfl, rfl, rfl, rfl, hx, hb, hml, ho, hts, hE, hA, hk⟩ := X
  exact fun H locs ls hP hD hS hl => lv_i2b hx hb d hv (K H locs ls hP hD hS hl)
theorem kb_i2c (X : kX l g own cc nL R x) {a v : Int32} (d : decode cc pc = .ok (.i2c, 1)) (hv : (a.toUInt32 % 65536).toInt32 = v) (K : kW x n k (pc + 1) lv (.int v :: st) ws) : kW x n k pc lv (.int a :: st) ws := by
  obtain ⟨p, l', e, R', s, m, args, below, meth, c, g', A, H0, nL', Q⟩ := x
  obtain ⟨rfl, rfl, rfl, rfl, hx, hb, hml, ho, hts, hE, hA, hk⟩ := X
  exact fun H locs ls hP hD hS hl => lv_i2c hx hb d hv (K H locs ls hP hD hS hl)
theorem kb_dup (X : kX l g own cc nL R x) {a : Value} (d : decode cc pc = .ok (.dup, 1)) (ha : a.category = 1) (K : kW x n k (pc + 1) lv (a :: a :: st) ws) : kW x n k pc lv (a :: st) ws := by
  obtain ⟨p, l', e, R', s, m, args, below, meth, c, g', A, H0, nL', Q⟩ := x
  obtain ⟨rfl, rfl, rfl, rfl, hx, hb, hml, ho, hts, hE, hA, hk⟩ := X
  exact fun H locs ls hP hD hS hl => lv_dup hx hb d ha (K H locs ls hP hD hS hl)
theorem kb_pop (X : kX l g own cc nL R x) {a : Value} (d : decode cc pc = .ok (.pop, 1)) (ha : a.category = 1) (K : kW x n k (pc + 1) lv st ws) : kW x n k pc lv (a :: st) ws := by
  obtain ⟨p, l', e, R', s, m, args, below, meth, c, g', A, H0, nL', Q⟩ := x
  obtain ⟨rfl, rfl, rfl, rfl, hx, hb, hml, ho, hts, hE, hA, hk⟩ := X
  exact fun H locs ls hP hD hS hl => lv_pop hx hb d ha (K H locs ls hP hD hS hl)
theorem kb_dup2 (X : kX l g own cc nL R x) {a b : Value} (d : decode cc pc = .ok (.dup2, 1)) (ha : a.category = 1) (hb' : b.category = 1) (K : kW x n k (pc + 1) lv (a :: b :: a :: b :: st) ws) : kW x n k pc lv (a :: b :: st) ws := by
  obtain ⟨p, l', e, R', s, m, args, below, meth, c, g', A, H0, nL', Q⟩ := x
  obtain ⟨rfl, rfl, rfl, rfl, hx, hb, hml, ho, hts, hE, hA, hk⟩ := X
  exact fun H locs ls hP hD hS hl => lv_dup2_11 hx hb d ha hb' (K H locs ls hP hD hS hl)
theorem kb_iconst (X : kX l g own cc nL R x) {z : Int} {v : Int32} (d : decode cc pc = .ok (.iconst z, 1)) (hv : Int32.ofInt z = v) (K : kW x n k (pc + 1) lv (.int v :: st) ws) : kW x n k pc lv st ws := by
  obtain ⟨p, l', e, R', s, m, args, below, meth, c, g', A, H0, nL', Q⟩ := x
  obtain ⟨rfl, rfl, rfl, rfl, hx, hb, hml, ho, hts, hE, hA, hk⟩ := X
  exact fun H locs ls hP hD hS hl => lv_iconst hx hb d hv (K H locs ls hP hD hS hl)
theorem kb_bipush (X : kX l g own cc nL R x) {z : Int} {v : Int32} (d : decode cc pc = .ok (.bipush z, 2)) (hv : (Int8.ofInt z).toInt32 = v) (K : kW x n k (pc + 2) lv (.int v :: st) ws) : kW x n k pc lv st ws := by
  obtain ⟨p, l', e, R', s, m, args, below, meth, c, g', A, H0, nL', Q⟩ := x
  obtain ⟨rfl, rfl, rfl, rfl, hx, hb, hml, ho, hts, hE, hA, hk⟩ := X
  exact fun H locs ls hP hD hS hl => lv_bipush hx hb d hv (K H locs ls hP hD hS hl)
theorem kb_sipush (X : kX l g own cc nL R x) {z : Int} {v : Int32} (d : decode cc pc = .ok (.sipush z, 3)) (hv : (Int16.ofInt z).toInt32 = v) (K : kW x n k (pc + 3) lv (.int v :: st) ws) : kW x n k pc lv st ws := by
  obtain ⟨p, l', e, R', s, m, args, below, meth, c, g', A, H0, nL', Q⟩ := x
  obtain ⟨rfl, rfl, rfl, rfl, hx, hb, hml, ho, hts, hE, hA, hk⟩ := X
  exact fun H locs ls hP hD hS hl => lv_sipush hx hb d hv (K H locs ls hP hD hS hl)
theorem kb_lconst (X : kX l g own cc nL R x) {z : Fin 2} {v : Int64} (d : decode cc pc = .ok (.lconst z, 1)) (hv : Int64.ofNat (z : Nat) = v) (K : kW x n k (pc + 1) lv (.long v :: st) ws) : kW x n k pc lv st ws := by
  obtain ⟨p, l', e, R', s, m, args, below, meth, c, g', A, H0, nL', Q⟩ := x
  obtain ⟨rfl, rfl, rfl, rfl, hx, hb, hml, ho, hts, hE, hA, hk⟩ := X
  exact fun H locs ls hP hD hS hl => lv_lconst hx hb d hv (K H locs ls hP hD hS hl)
theorem kb_iload_n (X : kX l g own cc nL R x) {j : Fin 4} {i : Nat} {v : Int32} (q : Nat) (d : decode cc pc = .ok (.iload_n j, 1)) (hi : (j : Nat) = i) (hq : lv[q]? = some (i, .int v)) (K : kW x n k (pc + 1) lv (.int v :: st) ws) : kW x n k pc lv st ws := by
  obtain ⟨p, l', e, R', s, m, args, below, meth, c, g', A, H0, nL', Q⟩ := x
  obtain ⟨rfl, rfl, rfl, rfl, hx, hb, hml, ho, hts, hE, hA, hk⟩ := X
  exact fun H locs ls hP hD hS hl => lv_iload_n hx hb d hi (lv_at hl q hq) (K H locs ls hP hD hS hl)
theorem kb_iload (X : kX l g own cc nL R x) {i : Nat} {v : Int32} (q : Nat) (d : decode cc pc = .ok (.iload i, 2)) (hq : lv[q]? = some (i, .int v)) (K : kW x n k (pc + 2) lv (.int v :: st) ws) : kW x n k pc lv st ws := by
  obtain ⟨p, l', e, R', s, m, args, below, meth, c, g', A, H0, nL', Q⟩ := x
  obtain ⟨rfl, rfl, rfl, rfl, hx, hb, hml, ho, hts, hE, hA, hk⟩ := X
  exact fun H locs ls hP hD hS hl => lv_iload hx hb d (lv_at hl q hq) (K H locs ls hP hD hS hl)
theorem kb_istore_n (X : kX l g own cc nL R x) {j : Fin 4} {i : Nat} {v : Int32} (ps : List Nat) (d : decode cc pc = .ok (.istore_n j, 1)) (hi : (j : Nat) = i) (hn : i < nL) (hp : lv_pick ((i, Value.int v) :: lv.filter (fun q => !(q.1 == i) && !(q.1 + 1 == i && q.2.category == 2))) ps = lv') (K : kW x n k (pc + 1) lv' st ws) : kW x n k pc lv (.int v :: st) ws := by
  obtain ⟨p, l', e, R', s, m, args, below, meth, c, g', A, H0, nL', Q⟩ := x
  obtain ⟨rfl, rfl, rfl, rfl, hx, hb, hml, ho, hts, hE, hA, hk⟩ := X
  exact fun H locs ls hP hD hS hl => lv_istore_n hx hb d hi hl hn rfl (fun ls' hl' => K H locs ls' hP hD hS (lv_sub hl' ps hp))
theorem kb_istore (X : kX l g own cc nL R x) {i : Nat} {v : Int32} (ps : List Nat) (d : decode cc pc = .ok (.istore i, 2)) (hn : i < nL) (hp : lv_pick ((i, Value.int v) :: lv.filter (fun q => !(q.1 == i) && !(q.1 + 1 == i && q.2.category == 2))) ps = lv') (K : kW x n k (pc + 2) lv' st ws) : kW x n k pc lv (.int v :: st) ws := by
  obtain ⟨p, l', e, R', s, m, args, below, meth, c, g', A, H0, nL', Q⟩ := x
  obtain ⟨rfl, rfl, rfl, rfl, hx, hb, hml, ho, hts, hE, hA, hk⟩ := X
  exact fun H locs ls hP hD hS hl => lv_istore hx hb d hl hn rfl (fun ls' hl' => K H locs ls' hP hD hS (lv_sub hl' ps hp))
theorem kb_aload_n (X : kX l g own cc nL R x) {j : Fin 4} {i : Nat} {v : Nat} (q : Nat) (d : decode cc pc = .ok (.aload_n j, 1)) (hi : (j : Nat) = i) (hq : lv[q]? = some (i, .ref v)) (K : kW x n k (pc + 1) lv (.ref v :: st) ws) : kW x n k pc lv st ws := by
  obtain ⟨p, l', e, R', s, m, args, below, meth, c, g', A, H0, nL', Q⟩ := x
  obtain ⟨rfl, rfl, rfl, rfl, hx, hb, hml, ho, hts, hE, hA, hk⟩ := X
  exact fun H locs ls hP hD hS hl => lv_aload_n hx hb d hi (lv_at hl q hq) (K H locs ls hP hD hS hl)
theorem kb_aload (X : kX l g own cc nL R x) {i : Nat} {v : Nat} (q : Nat) (d : decode cc pc = .ok (.aload i, 2)) (hq : lv[q]? = some (i, .ref v)) (K : kW x n k (pc + 2) lv (.ref v :: st) ws) : kW x n k pc lv st ws := by
  obtain ⟨p, l', e, R', s, m, args, below, meth, c, g', A, H0, nL', Q⟩ := x
  obtain ⟨rfl, rfl, rfl, rfl, hx, hb, hml, ho, hts, hE, hA, hk⟩ := X
  exact fun H locs ls hP hD hS hl => lv_aload hx hb d (lv_at hl q hq) (K H locs ls hP hD hS hl)
theorem kb_astore_n (X : kX l g own cc nL R x) {j : Fin 4} {i : Nat} {v : Nat} (ps : List Nat) (d : decode cc pc = .ok (.astore_n j, 1)) (hi : (j : Nat) = i) (hn : i < nL) (hp : lv_pick ((i, Value.ref v) :: lv.filter (fun q => !(q.1 == i) && !(q.1 + 1 == i && q.2.category == 2))) ps = lv') (K : kW x n k (pc + 1) lv' st ws) : kW x n k pc lv (.ref v :: st) ws := by
  obtain ⟨p, l', e, R', s, m, args, below, meth, c, g', A, H0, nL', Q⟩ := x
  obtain ⟨rfl, rfl, rfl, rfl, hx, hb, hml, ho, hts, hE, hA, hk⟩ := X
  exact fun H locs ls hP hD hS hl => lv_astore_n hx hb d hi hl hn rfl (fun ls' hl' => K H locs ls' hP hD hS (lv_sub hl' ps hp))
theorem kb_astore (X : kX l g own cc nL R x) {i : Nat} {v : Nat} (ps : List Nat) (d : decode cc pc = .ok (.astore i, 2)) (hn : i < nL) (hp : lv_pick ((i, Value.ref v) :: lv.filter (fun q => !(q.1 == i) && !(q.1 + 1 == i && q.2.category == 2))) ps = lv') (K : kW x n k (pc + 2) lv' st ws) : kW x n k pc lv (.ref v :: st) ws := by
  obtain ⟨p, l', e, R', s, m, args, below, meth, c, g', A, H0, nL', Q⟩ := x
  obtain ⟨rfl, rfl, rfl, rfl, hx, hb, hml, ho, hts, hE, hA, hk⟩ := X
  exact fun H locs ls hP hD hS hl => lv_astore hx hb d hl hn rfl (fun ls' hl' => K H locs ls' hP hD hS (lv_sub hl' ps hp))
theorem kb_lload_n (X : kX l g own cc nL R x) {j : Fin 4} {i : Nat} {v : Int64} (q : Nat) (d : decode cc pc = .ok (.lload_n j, 1)) (hi : (j : Nat) = i) (hq : lv[q]? = some (i, .long v)) (K : kW x n k (pc + 1) lv (.long v :: st) ws) : kW x n k pc lv st ws := by
  obtain ⟨p, l', e, R', s, m, args, below, meth, c, g', A, H0, nL', Q⟩ := x
  obtain ⟨rfl, rfl, rfl, rfl, hx, hb, hml, ho, hts, hE, hA, hk⟩ := X
  exact fun H locs ls hP hD hS hl => lv_lload_n hx hb d hi (lv_at hl q hq) (K H locs ls hP hD hS hl)
theorem kb_lload (X : kX l g own cc nL R x) {i : Nat} {v : Int64} (q : Nat) (d : decode cc pc = .ok (.lload i, 2)) (hq : lv[q]? = some (i, .long v)) (K : kW x n k (pc + 2) lv (.long v :: st) ws) : kW x n k pc lv st ws := by
  obtain ⟨p, l', e, R', s, m, args, below, meth, c, g', A, H0, nL', Q⟩ := x
  obtain ⟨rfl, rfl, rfl, rfl, hx, hb, hml, ho, hts, hE, hA, hk⟩ := X
  exact fun H locs ls hP hD hS hl => lv_lload hx hb d (lv_at hl q hq) (K H locs ls hP hD hS hl)
theorem kb_lstore_n (X : kX l g own cc nL R x) {j : Fin 4} {i : Nat} {v : Int64} (ps : List Nat) (d : decode cc pc = .ok (.lstore_n j, 1)) (hi : (j : Nat) = i) (hn : i + 1 < nL) (hp : lv_pick ((i, Value.long v) :: lv.filter (fun q => !(q.1 == i) && (!(q.1 == i + 1) && !(q.1 + 1 == i && q.2.category == 2)))) ps = lv') (K : kW x n k (pc + 1) lv' st ws) : kW x n k pc lv (.long v :: st) ws := by
  obtain ⟨p, l', e, R', s, m, args, below, meth, c, g', A, H0, nL', Q⟩ := x
  obtain ⟨rfl, rfl, rfl, rfl, hx, hb, hml, ho, hts, hE, hA, hk⟩ := X
  exact fun H locs ls hP hD hS hl => lv_lstore_n hx hb d hi hl hn rfl (fun ls' hl' => K H locs ls' hP hD hS (lv_sub hl' ps hp))
theorem kb_lstore (X : kX l g own cc nL R x) {i : Nat} {v : Int64} (ps : List Nat) (d : decode cc pc = .ok (.lstore i, 2)) (hn : i + 1 < nL) (hp : lv_pick ((i, Value.long v) :: lv.filter (fun q => !(q.1 == i) && (!(q.1 == i + 1) && !(q.1 + 1 == i && q.2.category == 2)))) ps = lv') (K : kW x n k (pc + 2) lv' st ws) : kW x n k pc lv (.long v :: st) ws := by
  obtain ⟨p, l', e, R', s, m, args, below, meth, c, g', A, H0, nL', Q⟩ := x
  obtain ⟨rfl, rfl, rfl, rfl, hx, hb, hml, ho, hts, hE, hA, hk⟩ := X
  exact fun H locs ls hP hD hS hl => lv_lstore hx hb d hl hn rfl (fun ls' hl' => K H locs ls' hP hD hS (lv_sub hl' ps hp))
theorem kb_iinc (X : kX l g own cc nL R x) {i : Nat} {z : Int} {v v' : Int32} (q : Nat) (ps : List Nat) (d : decode cc pc = .ok (.iinc i z, 3)) (hq : lv[q]? = some (i, .int v)) (hv : v + Int32.ofInt z = v') (hn : i < nL) (hp : lv_pick ((i, Value.int v') :: lv.filter (fun q => !(q.1 == i) && !(q.1 + 1 == i && q.2.category == 2))) ps = lv') (K : kW x n k (pc + 3) lv' st ws) : kW x n k pc lv st ws := by
  obtain ⟨p, l', e, R', s, m, args, below, meth, c, g', A, H0, nL', Q⟩ := x
  obtain ⟨rfl, rfl, rfl, rfl, hx, hb, hml, ho, hts, hE, hA, hk⟩ := X
  exact fun H locs ls hP hD hS hl => lv_iinc hx hb d hl hq hv hn rfl (fun ls' hl' => K H locs ls' hP hD hS (lv_sub hl' ps hp))
theorem kb_goto (X : kX l g own cc nL R x)  {z : Int} {tgt : Nat} (d : decode cc pc = .ok (.goto z, 3)) (ht : (pc : Int) + z = (tgt : Int)) (K : kW x n k tgt lv st ws) : kW x n k pc lv st ws := by
  obtain ⟨p, l', e, R', s, m, args, below, meth, c, g', A, H0, nL', Q⟩ := x
  obtain ⟨rfl, rfl, rfl, rfl, hx, hb, hml, ho, hts, hE, hA, hk⟩ := X
  exact fun H locs ls hP hD hS hl => lv_goto hx hb d ht (K H locs ls hP hD hS hl)
theorem kb_icmp_eq (X : kX l g own cc nL R x) {a b : Int32} {z : Int} {tgt : Nat} (d : decode cc pc = .ok (.if_icmp .eq z, 3)) (ht : (pc : Int) + z = (tgt : Int)) (kt : a = b → kW x n k tgt lv st ws) (kf : ¬ a = b → kW x n k (pc + 3) lv st ws) : kW x n k pc lv (.int b :: .int a :: st) ws := by
  obtain ⟨p, l', e, R', s, m, args, below, meth, c, g', A, H0, nL', Q⟩ := x
  obtain ⟨rfl, rfl, rfl, rfl, hx, hb, hml, ho, hts, hE, hA, hk⟩ := X
  exact fun H locs ls hP hD hS hl => lv_icmp_eq hx hb d ht (fun q => kt q H locs ls hP hD hS hl) (fun q => kf q H locs ls hP hD hS hl)
theorem kb_if_eq (X : kX l g own cc nL R x) {a : Int32} {z : Int} {tgt : Nat} (d : decode cc pc = .ok (.ifCond .eq z, 3)) (ht : (pc : Int) + z = (tgt : Int)) (kt : a = 0 → kW x n k tgt lv st ws) (kf : ¬ a = 0 → kW x n k (pc + 3) lv st ws) : kW x n k pc lv (.int a :: st) ws := by
  obtain ⟨p, l', e, R', s, m, args, below, meth, c, g', A, H0, nL', Q⟩ := x
  obtain ⟨rfl, rfl, rfl, rfl, hx, hb, hml, ho, hts, hE, hA, hk⟩ := X
  exact fun H locs ls hP hD hS hl => lv_if_eq hx hb d ht (fun q => kt q H locs ls hP hD hS hl) (fun q => kf q H locs ls hP hD hS hl)
theorem kn_icmp_eq (X : kX l g own cc nL R x) {a b : Nat} {z : Int} {tgt : Nat} (ha : a < 2147483648) (hb' : b < 2147483648) (d : decode cc pc = .ok (.if_icmp .eq z, 3)) (ht : (pc : Int) + z = (tgt : Int)) (kt : a = b → kW x n k tgt lv st ws) (kf : ¬ a = b → kW x n k (pc + 3) lv st ws) : kW x n k pc lv (.int (nI b) :: .int (nI a) :: st) ws := kb_icmp_eq X d ht (fun q => kt ((nI_eq ha hb').mp q)) (fun q => kf (fun z => q ((nI_eq ha hb').mpr z)))
theorem kb_icmp_ne (X : kX l g own cc nL R x) {a b : Int32} {z : Int} {tgt : Nat} (d : decode cc pc = .ok (.if_icmp .ne z, 3)) (ht : (pc : Int) + z = (tgt : Int)) (kt : ¬ a = b → kW x n k tgt lv st ws) (kf : a = b → kW x n k (pc + 3) lv st ws) : kW x n k pc lv (.int b :: .int a :: st) ws := by
  obtain ⟨p, l', e, R', s, m, args, below, meth, c, g', A, H0, nL', Q⟩ := x
  obtain ⟨rfl, rfl, rfl, rfl, hx, hb, hml, ho, hts, hE, hA, hk⟩ := X
  exact fun H locs ls hP hD hS hl => lv_icmp_ne hx hb d ht (fun q => kt q H locs ls hP hD hS hl) (fun q => kf q H locs ls hP hD hS hl)
theorem kb_if_ne (X : kX l g own cc nL R x) {a : Int32} {z : Int} {tgt : Nat} (d : decode cc pc = .ok (.ifCond .ne z, 3)) (ht : (pc : Int) + z = (tgt : Int)) (kt : ¬ a = 0 → kW x n k tgt lv st ws) (kf : a = 0 → kW x n k (pc + 3) lv st ws) : kW x n k pc lv (.int a :: st) ws := by
  obtain ⟨p, l', e, R', s, m, args, below, meth, c, g', A, H0, nL', Q⟩ := x
  obtain ⟨rfl, rfl, rfl, rfl, hx, hb, hml, ho, hts, hE, hA, hk⟩ := X
  exact fun H locs ls hP hD hS hl => lv_if_ne hx hb d ht (fun q => kt q H locs ls hP hD hS hl) (fun q => kf q H locs ls hP hD hS hl)
theorem kn_icmp_ne (X : kX l g own cc nL R x) {a b : Nat} {z : Int} {tgt : Nat} (ha : a < 2147483648) (hb' : b < 2147483648) (d : decode cc pc = .ok (.if_icmp .ne z, 3)) (ht : (pc : Int) + z = (tgt : Int)) (kt : ¬ a = b → kW x n k tgt lv st ws) (kf : a = b → kW x n k (pc + 3) lv st ws) : kW x n k pc lv (.int (nI b) :: .int (nI a) :: st) ws := kb_icmp_ne X d ht (fun q => kt (fun z => q ((nI_eq ha hb').mpr z))) (fun q => kf ((nI_eq ha hb').mp q))
theorem kb_icmp_lt (X : kX l g own cc nL R x) {a b : Int32} {z : Int} {tgt : Nat} (d : decode cc pc = .ok (.if_icmp .lt z, 3)) (ht : (pc : Int) + z = (tgt : Int)) (kt : a < b → kW x n k tgt lv st ws) (kf : ¬ a < b → kW x n k (pc + 3) lv st ws) : kW x n k pc lv (.int b :: .int a :: st) ws := by
  obtain ⟨p, l', e, R', s, m, args, below, meth, c, g', A, H0, nL', Q⟩ := x
  obtain ⟨rfl, rfl, rfl, rfl, hx, hb, hml, ho, hts, hE, hA, hk⟩ := X
  exact fun H locs ls hP hD hS hl => lv_icmp_lt hx hb d ht (fun q => kt q H locs ls hP hD hS hl) (fun q => kf q H locs ls hP hD hS hl)
theorem kb_if_lt (X : kX l g own cc nL R x) {a : Int32} {z : Int} {tgt : Nat} (d : decode cc pc = .ok (.ifCond .lt z, 3)) (ht : (pc : Int) + z = (tgt : Int)) (kt : a < 0 → kW x n k tgt lv st ws) (kf : ¬ a < 0 → kW x n k (pc + 3) lv st ws) : kW x n k pc lv (.int a :: st) ws := by
  obtain ⟨p, l', e, R', s, m, args, below, meth, c, g', A, H0, nL', Q⟩ := x
  obtain ⟨rfl, rfl, rfl, rfl, hx, hb, hml, ho, hts, hE, hA, hk⟩ := X
  exact fun H locs ls hP hD hS hl => lv_if_lt hx hb d ht (fun q => kt q H locs ls hP hD hS hl) (fun q => kf q H locs ls hP hD hS hl)
theorem kn_icmp_lt (X : kX l g own cc nL R x) {a b : Nat} {z : Int} {tgt : Nat} (ha : a < 2147483648) (hb' : b < 2147483648) (d : decode cc pc = .ok (.if_icmp .lt z, 3)) (ht : (pc : Int) + z = (tgt : Int)) (kt : a < b → kW x n k tgt lv st ws) (kf : b ≤ a → kW x n k (pc + 3) lv st ws) : kW x n k pc lv (.int (nI b) :: .int (nI a) :: st) ws := kb_icmp_lt X d ht (fun q => kt ((nI_ltI ha hb').mp q)) (fun q => kf (Nat.not_lt.mp (fun z => q ((nI_ltI ha hb').mpr z))))
theorem kb_icmp_ge (X : kX l g own cc nL R x) {a b : Int32} {z : Int} {tgt : Nat} (d : decode cc pc = .ok (.if_icmp .ge z, 3)) (ht : (pc : Int) + z = (tgt : Int)) (kt : b ≤ a → kW x n k tgt lv st ws) (kf : ¬ b ≤ a → kW x n k (pc + 3) lv st ws) : kW x n k pc lv (.int b :: .int a :: st) ws := by
  obtain ⟨p, l', e, R', s, m, args, below, meth, c, g', A, H0, nL', Q⟩ := x
  obtain ⟨rfl, rfl, rfl, rfl, hx, hb, hml, ho, hts, hE, hA, hk⟩ := X
  exact fun H locs ls hP hD hS hl => lv_icmp_ge hx hb d ht (fun q => kt q H locs ls hP hD hS hl) (fun q => kf q H locs ls hP hD hS hl)
theorem kb_if_ge (X : kX l g own cc nL R x) {a : Int32} {z : Int} {tgt : Nat} (d : decode cc pc = .ok (.ifCond .ge z, 3)) (ht : (pc : Int) + z = (tgt : Int)) (kt : 0 ≤ a → kW x n k tgt lv st ws) (kf : ¬ 0 ≤ a → kW x n k (pc + 3) lv st ws) : kW x n k pc lv (.int a :: st) ws := by
  obtain ⟨p, l', e, R', s, m, args, below, meth, c, g', A, H0, nL', Q⟩ := x
  obtain ⟨rfl, rfl, rfl, rfl, hx, hb, hml, ho, hts, hE, hA, hk⟩ := X
  exact fun H locs ls hP hD hS hl => lv_if_ge hx hb d ht (fun q => kt q H locs ls hP hD hS hl) (fun q => kf q H locs ls hP hD hS hl)
theorem kn_icmp_ge (X : kX l g own cc nL R x) {a b : Nat} {z : Int} {tgt : Nat} (ha : a < 2147483648) (hb' : b < 2147483648) (d : decode cc pc = .ok (.if_icmp .ge z, 3)) (ht : (pc : Int) + z = (tgt : Int)) (kt : b ≤ a → kW x n k tgt lv st ws) (kf : a < b → kW x n k (pc + 3) lv st ws) : kW x n k pc lv (.int (nI b) :: .int (nI a) :: st) ws := kb_icmp_ge X d ht (fun q => kt ((nI_leI hb' ha).mp q)) (fun q => kf (Nat.not_le.mp (fun z => q ((nI_leI hb' ha).mpr z))))
theorem kb_icmp_gt (X : kX l g own cc nL R x) {a b : Int32} {z : Int} {tgt : Nat} (d : decode cc pc = .ok (.if_icmp .gt z, 3)) (ht : (pc : Int) + z = (tgt : Int)) (kt : b < a → kW x n k tgt lv st ws) (kf : ¬ b < a → kW x n k (pc + 3) lv st ws) : kW x n k pc lv (.int b :: .int a :: st) ws := by
  obtain ⟨p, l', e, R', s, m, args, below, meth, c, g', A, H0, nL', Q⟩ := x
  obtain ⟨rfl, rfl, rfl, rfl, hx, hb, hml, ho, hts, hE, hA, hk⟩ := X
  exact fun H locs ls hP hD hS hl => lv_icmp_gt hx hb d ht (fun q => kt q H locs ls hP hD hS hl) (fun q => kf q H locs ls hP hD hS hl)
theorem kb_if_gt (X : kX l g own cc nL R x) {a : Int32} {z : Int} {tgt : Nat} (d : decode cc pc = .ok (.ifCond .gt z, 3)) (ht : (pc : Int) + z = (tgt : Int)) (kt : 0 < a → kW x n k tgt lv st ws) (kf : ¬ 0 < a → kW x n k (pc + 3) lv st ws) : kW x n k pc lv (.int a :: st) ws := by
  obtain ⟨p, l', e, R', s, m, args, below, meth, c, g', A, H0, nL', Q⟩ := x
  obtain ⟨rfl, rfl, rfl, rfl, hx, hb, hml, ho, hts, hE, hA, hk⟩ := X
  exact fun H locs ls hP hD hS hl => lv_if_gt hx hb d ht (fun q => kt q H locs ls hP hD hS hl) (fun q => kf q H locs ls hP hD hS hl)
theorem kn_icmp_gt (X : kX l g own cc nL R x) {a b : Nat} {z : Int} {tgt : Nat} (ha : a < 2147483648) (hb' : b < 2147483648) (d : decode cc pc = .ok (.if_icmp .gt z, 3)) (ht : (pc : Int) + z = (tgt : Int)) (kt : b < a → kW x n k tgt lv st ws) (kf : a ≤ b → kW x n k (pc + 3) lv st ws) : kW x n k pc lv (.int (nI b) :: .int (nI a) :: st) ws := kb_icmp_gt X d ht (fun q => kt ((nI_ltI hb' ha).mp q)) (fun q => kf (Nat.not_lt.mp (fun z => q ((nI_ltI hb' ha).mpr z))))
theorem kb_icmp_le (X : kX l g own cc nL R x) {a b : Int32} {z : Int} {tgt : Nat} (d : decode cc pc = .ok (.if_icmp .le z, 3)) (ht : (pc : Int) + z = (tgt : Int)) (kt : a ≤ b → kW x n k tgt lv st ws) (kf : ¬ a ≤ b → kW x n k (pc + 3) lv st ws) : kW x n k pc lv (.int b :: .int a :: st) ws := by
  obtain ⟨p, l', e, R', s, m, args, below, meth, c, g', A, H0, nL', Q⟩ := x
  obtain ⟨rfl, rfl, rfl, rfl, hx, hb, hml, ho, hts, hE, hA, hk⟩ := X
  exact fun H locs ls hP hD hS hl => lv_icmp_le hx hb d ht (fun q => kt q H locs ls hP hD hS hl) (fun q => kf q H locs ls hP hD hS hl)
theorem kb_if_le (X : kX l g own cc nL R x) {a : Int32} {z : Int} {tgt : Nat} (d : decode cc pc = .ok (.ifCond .le z, 3)) (ht : (pc : Int) + z = (tgt : Int)) (kt : a ≤ 0 → kW x n k tgt lv st ws) (kf : ¬ a ≤ 0 → kW x n k (pc + 3) lv st ws) : kW x n k pc lv (.int a :: st) ws := by
  obtain ⟨p, l', e, R', s, m, args, below, meth, c, g', A, H0, nL', Q⟩ := x
  obtain ⟨rfl, rfl, rfl, rfl, hx, hb, hml, ho, hts, hE, hA, hk⟩ := X
  exact fun H locs ls hP hD hS hl => lv_if_le hx hb d ht (fun q => kt q H locs ls hP hD hS hl) (fun q => kf q H locs ls hP hD hS hl)
theorem kn_icmp_le (X : kX l g own cc nL R x) {a b : Nat} {z : Int} {tgt : Nat} (ha : a < 2147483648) (hb' : b < 2147483648) (d : decode cc pc = .ok (.if_icmp .le z, 3)) (ht : (pc : Int) + z = (tgt : Int)) (kt : a ≤ b → kW x n k tgt lv st ws) (kf : b < a → kW x n k (pc + 3) lv st ws) : kW x n k pc lv (.int (nI b) :: .int (nI a) :: st) ws := kb_icmp_le X d ht (fun q => kt ((nI_leI ha hb').mp q)) (fun q => kf (Nat.not_le.mp (fun z => q ((nI_leI ha hb').mpr z))))
def zI (b : Bool) : Int32 := if b then 1 else 0
theorem zI_eq {b : Bool} : zI b = 0 ↔ b = false := by cases b <;> decide
theorem zI_t : zI true = 1 := rfl
theorem zI_f : zI false = 0 := rfl
theorem zI_p {c : Prop} [Decidable c] (h : c) : zI (decide c) = 1 := by rw [decide_eq_true h]; rfl
theorem zI_n {c : Prop} [Decidable c] (h : ¬ c) : zI (decide c) = 0 := by rw [decide_eq_false h]; rfl
theorem zI_nar (b : Bool) : narrow .boolean (.int (zI b)) = .int (zI b) := by cases b <;> rfl
theorem zI_vp (b : Bool) : vp_nar .boolean (zI b) = zI b := by cases b <;> rfl
theorem zI_fit (b : Bool) : fits .boolean (.int (zI b)) = true := by cases b <;> rfl
theorem kz_if_eq (X : kX l g own cc nL R x) {b : Bool} {z : Int} {tgt : Nat} (d : decode cc pc = .ok (.ifCond .eq z, 3)) (ht : (pc : Int) + z = (tgt : Int)) (kt : b = false → kW x n k tgt lv st ws) (kf : b = true → kW x n k (pc + 3) lv st ws) : kW x n k pc lv (.int (zI b) :: st) ws := kb_if_eq X d ht (fun q => kt (zI_eq.mp q)) (fun q => kf (by cases b <;> first | rfl | exact absurd rfl q))
theorem kz_if_ne (X : kX l g own cc nL R x) {b : Bool} {z : Int} {tgt : Nat} (d : decode cc pc = .ok (.ifCond .ne z, 3)) (ht : (pc : Int) + z = (tgt : Int)) (kt : b = true → kW x n k tgt lv st ws) (kf : b = false → kW x n k (pc + 3) lv st ws) : kW x n k pc lv (.int (zI b) :: st) ws := kb_if_ne X d ht (fun q => kt (by cases b <;> first | rfl | exact absurd rfl q)) (fun q => kf (zI_eq.mp q))
theorem kz_icmp_ne1 (X : kX l g own cc nL R x) {b : Bool} {z : Int} {tgt : Nat} (d : decode cc pc = .ok (.if_icmp .ne z, 3)) (ht : (pc : Int) + z = (tgt : Int)) (kt : b = false → kW x n k tgt lv st ws) (kf : b = true → kW x n k (pc + 3) lv st ws) : kW x n k pc lv (.int 1 :: .int (zI b) :: st) ws := kb_icmp_ne X d ht (fun q => kt (by cases b <;> first | rfl | exact absurd rfl q)) (fun q => kf (by cases b <;> first | rfl | exact absurd q (by decide)))
theorem kz_icmp_eq1 (X : kX l g own cc nL R x) {b : Bool} {z : Int} {tgt : Nat} (d : decode cc pc = .ok (.if_icmp .eq z, 3)) (ht : (pc : Int) + z = (tgt : Int)) (kt : b = true → kW x n k tgt lv st ws) (kf : b = false → kW x n k (pc + 3) lv st ws) : kW x n k pc lv (.int 1 :: .int (zI b) :: st) ws := kb_icmp_eq X d ht (fun q => kt (by cases b <;> first | rfl | exact absurd q (by decide))) (fun q => kf (by cases b <;> first | rfl | exact absurd rfl q))
theorem kn_iadd (X : kX l g own cc nL R x) (a b : Nat) (d : decode cc pc = .ok (.iadd, 1)) (K : kW x n k (pc + 1) lv (.int (nI (a + b)) :: st) ws) : kW x n k pc lv (.int (nI b) :: .int (nI a) :: st) ws := kb_iadd X d (by rw [nI_add]; exact K)
theorem kn_imul (X : kX l g own cc nL R x) (a b : Nat) (d : decode cc pc = .ok (.imul, 1)) (K : kW x n k (pc + 1) lv (.int (nI (a * b)) :: st) ws) : kW x n k pc lv (.int (nI b) :: .int (nI a) :: st) ws := kb_imul X d (by rw [pk_mul]; exact K)
theorem kn_isub (X : kX l g own cc nL R x) (a b : Nat) (h : b ≤ a) (d : decode cc pc = .ok (.isub, 1)) (K : kW x n k (pc + 1) lv (.int (nI (a - b)) :: st) ws) : kW x n k pc lv (.int (nI b) :: .int (nI a) :: st) ws := kb_isub X d (by rw [pk_sub h]; exact K)
theorem kn_idiv (X : kX l g own cc nL R x) (a b : Nat) (h0 : 0 < b) (ha : a < 2147483648) (hb' : b < 2147483648) (d : decode cc pc = .ok (.idiv, 1)) (K : kW x n k (pc + 1) lv (.int (nI (a / b)) :: st) ws) : kW x n k pc lv (.int (nI b) :: .int (nI a) :: st) ws := kb_idiv X d (nI_ne0 h0 hb') (by rw [pk_div ha h0 hb']; exact K)
theorem kn_irem (X : kX l g own cc nL R x) (a b : Nat) (h0 : 0 < b) (ha : a < 2147483648) (hb' : b < 2147483648) (d : decode cc pc = .ok (.irem, 1)) (K : kW x n k (pc + 1) lv (.int (nI (a % b)) :: st) ws) : kW x n k pc lv (.int (nI b) :: .int (nI a) :: st) ws := kb_irem X d (nI_ne0 h0 hb') (by rw [pk_rem ha h0 hb']; exact K)
theorem kw_top {a b : Value} (h : a = b) (K : kW x n k pc lv (b :: st) ws) : kW x n k pc lv (a :: st) ws := by rw [h]; exact K
theorem kw_top2 {a b z : Value} (h : a = b) (K : kW x n k pc lv (z :: b :: st) ws) : kW x n k pc lv (z :: a :: st) ws := by rw [h]; exact K
theorem kw_ws (h : ws = ws') (K : kW x n k pc lv st ws') : kW x n k pc lv st ws := by rw [h]; exact K
theorem kw_lv (h : lv = lv') (K : kW x n k pc lv' st ws) : kW x n k pc lv st ws := by rw [h]; exact K
theorem kw_to {st' : List Value} (K : kW x n k pc lv' st' ws') (h1 : lv = lv') (h2 : st = st') (h3 : ws = ws') : kW x n k pc lv st ws := by rw [h1, h2, h3]; exact K
theorem kw_lvs (ps : List Nat) (hp : lv_pick lv ps = lv') (K : kW x n k pc lv' st ws) : kW x n k pc lv st ws := by
  obtain ⟨p, l', e, R', s, m, args, below, meth, c, g', A, H0, nL', Q⟩ := x
  exact fun H locs ls hP hD hS hl => K H locs ls hP hD hS (lv_sub hl ps hp)
theorem kw_wide {n' k' : Nat} (h1 : n ≤ n') (h2 : k ≤ k') (K : kW x n' k' pc lv st ws) : kW x n k pc lv st ws := by
  obtain ⟨p, l', e, R', s, m, args, below, meth, c, g', A, H0, nL', Q⟩ := x
  exact fun H locs ls hP hD hS hl => W.widen h1 h2 (K H locs ls hP hD hS hl)
theorem kw_P {D : va_G} {cl : List vw_C} {H : Heap} (h : ws.Perm ws') (hP : va_P D cl ws H) : va_P D cl ws' H := by
  intro i q hq
  obtain ⟨j, hj⟩ := List.getElem?_of_mem (h.mem_iff.mpr (List.mem_of_getElem? hq))
  exact hP j q hj
theorem kw_nd {A : Nat → Prop} : va_D A ws ↔ (ws.map (·.1)).Pairwise (· ≠ ·) ∧ ∀ q ∈ ws, A q.1 := by
  constructor
  · intro h
    refine ⟨?_, fun q hq => ?_⟩
    · rw [List.pairwise_iff_getElem]
      intro i j hi hj hij he
      simp only [List.length_map] at hi hj
      simp only [List.getElem_map] at he
      have := h.1 i j ws[i] ws[j] (List.getElem?_eq_getElem hi) (List.getElem?_eq_getElem hj) he
      omega
    · obtain ⟨i, hi⟩ := List.getElem?_of_mem hq
      exact h.2 i q hi
  · intro h
    refine ⟨fun i j p q hp hq he => ?_, fun i q hq => h.2 q (List.mem_of_getElem? hq)⟩
    obtain ⟨hi, hpe⟩ := List.getElem?_eq_some_iff.mp hp
    obtain ⟨hj, hqe⟩ := List.getElem?_eq_some_iff.mp hq
    have hw := List.pairwise_iff_getElem.mp h.1
    rcases Nat.lt_trichotomy i j with c | c | c
    · have := hw i j (by simpa using hi) (by simpa using hj) c
      simp only [List.getElem_map, hpe, hqe] at this
      exact absurd he this
    · exact c
    · have := hw j i (by simpa using hj) (by simpa using hi) c
      simp only [List.getElem_map, hpe, hqe] at this
      exact absurd he.symm this
theorem kw_D {A : Nat → Prop} (h : ws.Perm ws') (hD : va_D A ws) : va_D A ws' := by
  rw [kw_nd] at hD ⊢
  exact ⟨((h.map (·.1)).pairwise_iff (fun q => Ne.symm q)).mp hD.1, fun q hq => hD.2 q (h.mem_iff.mpr hq)⟩
theorem kw_perm (h : ws.Perm ws') (K : kW x n k pc lv st ws') : kW x n k pc lv st ws := by
  obtain ⟨p, l', e, R', s, m, args, below, meth, c, g', A, H0, nL', Q⟩ := x
  exact fun H locs ls hP hD hS hl => K H locs ls (kw_P h hP) (kw_D h hD) hS hl
/-- a block of a world ahead of the others -/
theorem kw_pk (L : List va_W) (i : Nat) (h : i < L.length) : L.flatten.Perm (L[i] ++ (L.eraseIdx i).flatten) := by
  induction L generalizing i with
  | nil => simp at h
  | cons a L ih =>
    cases i with
    | zero => exact List.Perm.refl _
    | succ i =>
      have h' : i < L.length := by simpa using h
      simp only [List.flatten_cons, List.getElem_cons_succ, List.eraseIdx_cons_succ]
      refine (List.Perm.append_left a (ih i h')).trans ?_
      rw [← List.append_assoc, ← List.append_assoc]
      exact List.Perm.append_right _ List.perm_append_comm
theorem kw_pk2 (L : List va_W) (i j : Nat) (h : i < L.length) (h' : j < (L.eraseIdx i).length) : L.flatten.Perm ((L[i] ++ (L.eraseIdx i)[j]) ++ ((L.eraseIdx i).eraseIdx j).flatten) := by
  refine (kw_pk L i h).trans ?_
  rw [List.append_assoc]
  exact List.Perm.append_left _ (kw_pk _ j h')
theorem kw_pall (w : va_W) : w.Perm (w ++ []) := by rw [List.append_nil]
theorem kb_get (X : kX l g own cc nL R x) {C : String} {T : u_T} {N ci ix : Nat} {a : Nat} {fs : List Value} {v : Value} (hin : ∀ w ∈ u_ws C T N, w ∈ kw_T) (hc : vwCl[ci]? = some (C, T, N)) (q j : Nat) (he : ws[q]? = some (a, .inr (ci, fs))) (hj : j < N) (hl' : Cond.fieldLink own ix C (T j).2.1 (T j).2.2.1 ∈ kw_T) (hC : (T j).1 = C) (hv : fs[j]? = some v) (d : decode cc pc = .ok (.getfield ix, 3)) (K : kW x n k (pc + 3) lv (v :: st) ws) : kW x n k pc lv (.ref a :: st) ws := by
  obtain ⟨p, l', e, R', s, m, args, below, meth, c, g', A, H0, nL', Q⟩ := x
  obtain ⟨rfl, rfl, rfl, rfl, hx, hb, hml, ho, hts, hE, hA, hk⟩ := X
  exact fun H locs ls hP hD hS hl => va_get hx hb hts hin ho hE.1 hP q he hc j hj (hts _ hl') (fun y hy => by rw [hC] at hy; exact hy) hv d (K H locs ls hP hD hS hl)
theorem kb_put (X : kX l g own cc nL R x) {C : String} {T : u_T} {N ci ix : Nat} {a : Nat} {fs : List Value} {v : Value} {ty : FieldType} (hin : ∀ w ∈ u_ws C T N, w ∈ kw_T) (ty0 : Nat → FieldType) (hty : ∀ k, k < N → parseFieldDescriptor (T k).2.2.1 = some (ty0 k)) (hnm : ∀ a, a < N → ∀ b, b < N → a ≠ b → (T a).2.1 ≠ (T b).2.1) (hc : vwCl[ci]? = some (C, T, N)) (q j : Nat) (he : ws[q]? = some (a, .inr (ci, fs))) (hj : j < N) (hl' : Cond.fieldLink own ix C (T j).2.1 (T j).2.2.1 ∈ kw_T) (hC : (T j).1 = C) (hfin : (T j).2.2.2 = false) (hd : parseFieldDescriptor (T j).2.2.1 = some ty) (hn : narrow ty v = v) (hf : fits ty v = true) (hlen : j < fs.length) (d : decode cc pc = .ok (.putfield ix, 3)) (hw : ws.set q (a, .inr (ci, fs.set j v)) = ws') (K : kW x n k (pc + 3) lv st ws') : kW x n k pc lv (v :: .ref a :: st) ws := by
  obtain ⟨p, l', e, R', s, m, args, below, meth, c, g', A, H0, nL', Q⟩ := x
  obtain ⟨rfl, rfl, rfl, rfl, hx, hb, hml, ho, hts, hE, hA, hk⟩ := X
  subst hw
  exact fun H locs ls hP hD hS hl => va_put hx hb hts hin ty0 hty hnm ho hE.1 hP hD hS q he hc j hj (hts _ hl') (fun y hy => by rw [hC] at hy; exact hy) hfin hd hn hf hlen d (fun H1 locs1 hP1 hD1 hS1 => K H1 locs1 ls hP1 hD1 hS1 hl)
theorem kb_putF (X : kX l g own cc nL R x) (hI : kInit x) {C : String} {T : u_T} {N ci ix : Nat} {a : Nat} {fs : List Value} {v : Value} {ty : FieldType} (hin : ∀ w ∈ u_ws C T N, w ∈ kw_T) (ty0 : Nat → FieldType) (hty : ∀ k, k < N → parseFieldDescriptor (T k).2.2.1 = some (ty0 k)) (hnm : ∀ a, a < N → ∀ b, b < N → a ≠ b → (T a).2.1 ≠ (T b).2.1) (hc : vwCl[ci]? = some (C, T, N)) (q j : Nat) (he : ws[q]? = some (a, .inr (ci, fs))) (hj : j < N) (hl' : Cond.fieldLink own ix C (T j).2.1 (T j).2.2.1 ∈ kw_T) (hC : (T j).1 = C) (hfin : (T j).2.2.2 = true) (hown : (T j).1 = own) (hd : parseFieldDescriptor (T j).2.2.1 = some ty) (hn : narrow ty v = v) (hf : fits ty v = true) (hlen : j < fs.length) (d : decode cc pc = .ok (.putfield ix, 3)) (hw : ws.set q (a, .inr (ci, fs.set j v)) = ws') (K : kW x n k (pc + 3) lv st ws') : kW x n k pc lv (v :: .ref a :: st) ws := by
  obtain ⟨p, l', e, R', s, m, args, below, meth, c, g', A, H0, nL', Q⟩ := x
  obtain ⟨rfl, rfl, rfl, rfl, hx, hb, hml, ho, hts, hE, hA, hk⟩ := X
  subst hw
  exact fun H locs ls hP hD hS hl => va_putF hx hb hts hin ty0 hty hnm ho hE.1 hP hD hS q he hc j hj (hts _ hl') (fun y hy => by rw [hC] at hy; exact hy) hfin hI hown hd hn hf hlen d (fun H1 locs1 hP1 hD1 hS1 => K H1 locs1 ls hP1 hD1 hS1 hl)
theorem kw_ix {i N : Nat} (h : i < N) (hN : N < 2147483648) : vp_in (nI i) N := vp_in_nI h hN
theorem kw_cl {i N : Nat} (h : i < N) (hN : N < 2147483648) : (nI i).toNatClampNeg = i := nI_clamp (Nat.lt_trans h hN)
theorem kb_iald (X : kX l g own cc nL R x) {a N i : Nat} {f : Nat → Int32} (q : Nat) (ha : ws[q]? = some (a, .inl (g.2 0, N, .inl f))) (hi : i < N) (hN : N < 2147483648) (d : decode cc pc = .ok (.iaload, 1)) (K : kW x n k (pc + 1) lv (.int (f i) :: st) ws) : kW x n k pc lv (.int (nI i) :: .ref a :: st) ws := by
  obtain ⟨p, l', e, R', s, m, args, below, meth, c, g', A, H0, nL', Q⟩ := x
  obtain ⟨rfl, rfl, rfl, rfl, hx, hb, hml, ho, hts, hE, hA, hk⟩ := X
  exact fun H locs ls hP hD hS hl => va_iald hx hb hE.1 hP q 0 ha rfl (kw_ix hi hN) d (by rw [kw_cl hi hN]; exact K H locs ls hP hD hS hl)
theorem kb_iast (X : kX l g own cc nL R x) {a N i : Nat} {f : Nat → Int32} {v : Int32} (q : Nat) (ha : ws[q]? = some (a, .inl (g.2 0, N, .inl f))) (hi : i < N) (hN : N < 2147483648) (d : decode cc pc = .ok (.iastore, 1)) (hw : ws.set q (a, .inl (g.2 0, N, .inl (upd f i (v)))) = ws') (K : kW x n k (pc + 1) lv st ws') : kW x n k pc lv (.int v :: .int (nI i) :: .ref a :: st) ws := by
  obtain ⟨p, l', e, R', s, m, args, below, meth, c, g', A, H0, nL', Q⟩ := x
  obtain ⟨rfl, rfl, rfl, rfl, hx, hb, hml, ho, hts, hE, hA, hk⟩ := X
  subst hw
  refine fun H locs ls hP hD hS hl => va_iast hx hb hE.1 hP hD hS q 0 ha rfl (kw_ix hi hN) d (fun H1 locs1 hP1 hD1 hS1 => ?_)
  rw [kw_cl hi hN] at hP1 hD1
  exact K H1 locs1 ls hP1 hD1 hS1 hl
theorem kb_cald (X : kX l g own cc nL R x) {a N i : Nat} {f : Nat → Int32} (q : Nat) (ha : ws[q]? = some (a, .inl (g.2 1, N, .inl f))) (hi : i < N) (hN : N < 2147483648) (d : decode cc pc = .ok (.caload, 1)) (K : kW x n k (pc + 1) lv (.int (f i) :: st) ws) : kW x n k pc lv (.int (nI i) :: .ref a :: st) ws := by
  obtain ⟨p, l', e, R', s, m, args, below, meth, c, g', A, H0, nL', Q⟩ := x
  obtain ⟨rfl, rfl, rfl, rfl, hx, hb, hml, ho, hts, hE, hA, hk⟩ := X
  exact fun H locs ls hP hD hS hl => va_cald hx hb hE.1 hP q 1 ha rfl (kw_ix hi hN) d (by rw [kw_cl hi hN]; exact K H locs ls hP hD hS hl)
theorem kb_cast (X : kX l g own cc nL R x) {a N i : Nat} {f : Nat → Int32} {v : Int32} (q : Nat) (ha : ws[q]? = some (a, .inl (g.2 1, N, .inl f))) (hi : i < N) (hN : N < 2147483648) (d : decode cc pc = .ok (.castore, 1)) (hw : ws.set q (a, .inl (g.2 1, N, .inl (upd f i (vp_nar .char v)))) = ws') (K : kW x n k (pc + 1) lv st ws') : kW x n k pc lv (.int v :: .int (nI i) :: .ref a :: st) ws := by
  obtain ⟨p, l', e, R', s, m, args, below, meth, c, g', A, H0, nL', Q⟩ := x
  obtain ⟨rfl, rfl, rfl, rfl, hx, hb, hml, ho, hts, hE, hA, hk⟩ := X
  subst hw
  refine fun H locs ls hP hD hS hl => va_cast hx hb hE.1 hP hD hS q 1 ha rfl (kw_ix hi hN) d (fun H1 locs1 hP1 hD1 hS1 => ?_)
  rw [kw_cl hi hN] at hP1 hD1
  exact K H1 locs1 ls hP1 hD1 hS1 hl
theorem kb_bald (X : kX l g own cc nL R x) {a N i : Nat} {f : Nat → Int32} (q : Nat) (ha : ws[q]? = some (a, .inl (g.2 2, N, .inl f))) (hi : i < N) (hN : N < 2147483648) (d : decode cc pc = .ok (.baload, 1)) (K : kW x n k (pc + 1) lv (.int (f i) :: st) ws) : kW x n k pc lv (.int (nI i) :: .ref a :: st) ws := by
  obtain ⟨p, l', e, R', s, m, args, below, meth, c, g', A, H0, nL', Q⟩ := x
  obtain ⟨rfl, rfl, rfl, rfl, hx, hb, hml, ho, hts, hE, hA, hk⟩ := X
  exact fun H locs ls hP hD hS hl => va_bald hx hb hE.1 hP q 2 ha rfl (kw_ix hi hN) d (by rw [kw_cl hi hN]; exact K H locs ls hP hD hS hl)
theorem kb_bast (X : kX l g own cc nL R x) {a N i : Nat} {f : Nat → Int32} {v : Int32} (q : Nat) (ha : ws[q]? = some (a, .inl (g.2 2, N, .inl f))) (hi : i < N) (hN : N < 2147483648) (d : decode cc pc = .ok (.bastore, 1)) (hw : ws.set q (a, .inl (g.2 2, N, .inl (upd f i (vp_nar .byte v)))) = ws') (K : kW x n k (pc + 1) lv st ws') : kW x n k pc lv (.int v :: .int (nI i) :: .ref a :: st) ws := by
  obtain ⟨p, l', e, R', s, m, args, below, meth, c, g', A, H0, nL', Q⟩ := x
  obtain ⟨rfl, rfl, rfl, rfl, hx, hb, hml, ho, hts, hE, hA, hk⟩ := X
  subst hw
  refine fun H locs ls hP hD hS hl => va_bast hx hb hE.1 hP hD hS q 2 ha rfl (kw_ix hi hN) d (fun H1 locs1 hP1 hD1 hS1 => ?_)
  rw [kw_cl hi hN] at hP1 hD1
  exact K H1 locs1 ls hP1 hD1 hS1 hl
theorem kb_zald (X : kX l g own cc nL R x) {a N i : Nat} {f : Nat → Int32} (q : Nat) (ha : ws[q]? = some (a, .inl (g.2 3, N, .inl f))) (hi : i < N) (hN : N < 2147483648) (d : decode cc pc = .ok (.baload, 1)) (K : kW x n k (pc + 1) lv (.int (f i) :: st) ws) : kW x n k pc lv (.int (nI i) :: .ref a :: st) ws := by
  obtain ⟨p, l', e, R', s, m, args, below, meth, c, g', A, H0, nL', Q⟩ := x
  obtain ⟨rfl, rfl, rfl, rfl, hx, hb, hml, ho, hts, hE, hA, hk⟩ := X
  exact fun H locs ls hP hD hS hl => va_zald hx hb hE.1 hP q 3 ha rfl (kw_ix hi hN) d (by rw [kw_cl hi hN]; exact K H locs ls hP hD hS hl)
theorem kb_zast (X : kX l g own cc nL R x) {a N i : Nat} {f : Nat → Int32} {v : Int32} (q : Nat) (ha : ws[q]? = some (a, .inl (g.2 3, N, .inl f))) (hi : i < N) (hN : N < 2147483648) (d : decode cc pc = .ok (.bastore, 1)) (hw : ws.set q (a, .inl (g.2 3, N, .inl (upd f i (vp_nar .boolean v)))) = ws') (K : kW x n k (pc + 1) lv st ws') : kW x n k pc lv (.int v :: .int (nI i) :: .ref a :: st) ws := by
  obtain ⟨p, l', e, R', s, m, args, below, meth, c, g', A, H0, nL', Q⟩ := x
  obtain ⟨rfl, rfl, rfl, rfl, hx, hb, hml, ho, hts, hE, hA, hk⟩ := X
  subst hw
  refine fun H locs ls hP hD hS hl => va_zast hx hb hE.1 hP hD hS q 3 ha rfl (kw_ix hi hN) d (fun H1 locs1 hP1 hD1 hS1 => ?_)
  rw [kw_cl hi hN] at hP1 hD1
  exact K H1 locs1 ls hP1 hD1 hS1 hl
theorem kb_qald (X : kX l g own cc nL R x) {a N i : Nat} {f : Nat → Option Nat} {b : Nat} (q : Nat) (ha : ws[q]? = some (a, .inl (g.2 4, N, .inr (.inr (.inr (.inr f)))))) (hi : i < N) (hN : N < 2147483648) (hf : f i = some b) (d : decode cc pc = .ok (.aaload, 1)) (K : kW x n k (pc + 1) lv (.ref b :: st) ws) : kW x n k pc lv (.int (nI i) :: .ref a :: st) ws := by
  obtain ⟨p, l', e, R', s, m, args, below, meth, c, g', A, H0, nL', Q⟩ := x
  obtain ⟨rfl, rfl, rfl, rfl, hx, hb, hml, ho, hts, hE, hA, hk⟩ := X
  exact fun H locs ls hP hD hS hl => va_aldq hx hb hE.1 hP q 4 ha rfl (kw_ix hi hN) d (by rw [kw_cl hi hN, hf]; exact K H locs ls hP hD hS hl)
theorem kb_qast (X : kX l g own cc nL R x) {a N i v ci : Nat} {vs : List Value} {f : Nat → Option Nat} (q qv : Nat) (ha : ws[q]? = some (a, .inl (g.2 4, N, .inr (.inr (.inr (.inr f)))))) (hv : ws[qv]? = some (v, .inr (4, vs))) (hi : i < N) (hN : N < 2147483648) (d : decode cc pc = .ok (.aastore, 1)) (hw : ws.set q (a, .inl (g.2 4, N, .inr (.inr (.inr (.inr (va_up f i (some v))))))) = ws') (K : kW x n k (pc + 1) lv st ws') : kW x n k pc lv (.ref v :: .int (nI i) :: .ref a :: st) ws := by
  obtain ⟨p, l', e, R', s, m, args, below, meth, c, g', A, H0, nL', Q⟩ := x
  obtain ⟨rfl, rfl, rfl, rfl, hx, hb, hml, ho, hts, hE, hA, hk⟩ := X
  subst hw
  refine fun H locs ls hP hD hS hl => va_astq (r := (RX4, TX4, 11)) hx hb hE.1 hP hD hS q 4 qv 4 ha rfl hv rfl (kw_ix hi hN) d (fun H1 locs1 hP1 hD1 hS1 => ?_)
  rw [kw_cl hi hN] at hP1 hD1
  exact K H1 locs1 ls hP1 hD1 hS1 hl
theorem kb_alen (X : kX l g own cc nL R x) {a : Nat} {ar : vp_A} {cA : ClassId} {ty : FieldType} {v : Int32} (q t : Nat) (ha : ws[q]? = some (a, .inl (cA, ar))) (ht : (kw_ty g)[t]? = some (cA, ty)) (hv : Int32.ofNat ar.1 = v) (d : decode cc pc = .ok (.arraylength, 1)) (K : kW x n k (pc + 1) lv (.int v :: st) ws) : kW x n k pc lv (.ref a :: st) ws := by
  obtain ⟨p, l', e, R', s, m, args, below, meth, c, g', A, H0, nL', Q⟩ := x
  obtain ⟨rfl, rfl, rfl, rfl, hx, hb, hml, ho, hts, hE, hA, hk⟩ := X
  exact fun H locs ls hP hD hS hl => va_alen hx hb hE.1 hP q t ha ht hv d (K H locs ls hP hD hS hl)
theorem kb_ldc2 (X : kX l g own cc nL R x) {ix : Nat} {v : Int64} (hc : Cond.constantLong own ix v ∈ kw_T) (d : decode cc pc = .ok (.ldc2_w ix, 3)) (K : kW x n k (pc + 3) lv (.long v :: st) ws) : kW x n k pc lv st ws := by
  obtain ⟨p, l', e, R', s, m, args, below, meth, c, g', A, H0, nL', Q⟩ := x
  obtain ⟨rfl, rfl, rfl, rfl, hx, hb, hml, ho, hts, hE, hA, hk⟩ := X
  exact fun H locs ls hP hD hS hl => lv_ldc2 hx hb ho (hts _ hc) d (K H locs ls hP hD hS hl)
theorem kb_ldcw (X : kX l g own cc nL R x) {ix : Nat} {v : Int32} (hc : Cond.constant own ix v ∈ kw_T) (d : decode cc pc = .ok (.ldc_w ix, 3)) (K : kW x n k (pc + 3) lv (.int v :: st) ws) : kW x n k pc lv st ws := by
  obtain ⟨p, l', e, R', s, m, args, below, meth, c, g', A, H0, nL', Q⟩ := x
  obtain ⟨rfl, rfl, rfl, rfl, hx, hb, hml, ho, hts, hE, hA, hk⟩ := X
  exact fun H locs ls hP hD hS hl => lv_ldcw hx hb ho (hts _ hc) d (K H locs ls hP hD hS hl)
theorem kb_acpy (X : kX l g own cc nL R x) {ix : Nat} {a b N0 N1 s0 d0 m0 : Nat} {f h : Nat → Int32} (q0 q1 : Nat) (h0 : ws[q0]? = some (a, .inl (g.2 0, N0, .inl f))) (h1 : ws[q1]? = some (b, .inl (g.2 0, N1, .inl h))) (hl' : Cond.methodLink own ix arraycopyName ∈ kw_T) (hs : s0 + m0 ≤ N0) (hd : d0 + m0 ≤ N1) (hN0 : N0 < 2147483648) (hN1 : N1 < 2147483648) (hini : Cond.initialized "java/lang/System" ∈ kw_T) (hfr : 1 ≤ R.frames) (hlo : (st.map fun v => v.category).sum + (nativeFrameWords "java/lang/System" "arraycopy" 5 + 11) ≤ R.locals) (d : decode cc pc = .ok (.invokestatic ix, 3)) (hw : ws.set q1 (b, .inl (g.2 0, N1, .inl (va_cpy f h s0 d0 m0))) = ws') (K : kW x n k (pc + 3) lv st ws') : kW x n k pc lv (.int (nI m0) :: .int (nI d0) :: .ref b :: .int (nI s0) :: .ref a :: st) ws := by
  obtain ⟨p, l', e, R', s, m, args, below, meth, c, g', A, H0, nL', Q⟩ := x
  obtain ⟨rfl, rfl, rfl, rfl, hx, hb, hml, ho, hts, hE, hA, hk⟩ := X
  subst hw
  have e0 : (nI s0).toNatClampNeg = s0 := nI_clamp (by omega)
  have e1 : (nI d0).toNatClampNeg = d0 := nI_clamp (by omega)
  have e2 : (nI m0).toNatClampNeg = m0 := nI_clamp (by omega)
  refine fun H locs ls hP hD hS hl => va_copyi hx hb (hml.trans hl.1.symm) ho (hts _ hl') (hts _ mn_acp) (hts _ ms_acp) (hts _ hini) hE.1 hP hD hS q0 q1 0 0 h0 h1 rfl rfl rfl (nI_pos (by omega)) (nI_pos (by omega)) (nI_pos (by omega)) (by rw [e0, e2]; exact hs) (by rw [e1, e2]; exact hd) (fun _ _ => rfl) hfr hlo d (fun H1 locs1 hP1 hD1 hS1 => ?_)
  rw [e0, e1, e2] at hP1 hD1
  exact K H1 locs1 ls hP1 hD1 hS1 hl
theorem ke_i (X : kX l g own cc nL R x) {v : Int32} {P : Int32 → va_W → Prop} (Z : kZi .int P n k x) (d : decode cc pc = .ok (.ireturn, 1)) (h : P v ws) : kW x n k pc lv [.int v] ws := by
  obtain ⟨p, l', e, R', s, m, args, below, meth, c, g', A, H0, nL', Q⟩ := x
  obtain ⟨rfl, rfl, rfl, rfl, hx, hb, hml, ho, hts, hE, hA, hk⟩ := X
  obtain ⟨hr, rfl, rfl⟩ := Z
  exact fun H locs ls hP hD hS hl => W.iret hx hb hr (fun t ht hW => ⟨⟨v, ws, rfl, h, by rw [ht]; exact hP, hD⟩, hS.F ht⟩) hS.2.2 d hk
theorem ke_z (X : kX l g own cc nL R x) {v : Int32} {ty : FieldType} {P : Int32 → va_W → Prop} (Z : kZi ty P n k x) (hn : narrow ty (.int v) = .int v) (d : decode cc pc = .ok (.ireturn, 1)) (h : P v ws) : kW x n k pc lv [.int v] ws := by
  obtain ⟨p, l', e, R', s, m, args, below, meth, c, g', A, H0, nL', Q⟩ := x
  obtain ⟨rfl, rfl, rfl, rfl, hx, hb, hml, ho, hts, hE, hA, hk⟩ := X
  obtain ⟨hr, rfl, rfl⟩ := Z
  exact fun H locs ls hP hD hS hl => W.zret hx hb hr hn (fun t ht hW => ⟨⟨v, ws, rfl, h, by rw [ht]; exact hP, hD⟩, hS.F ht⟩) hS.2.2 d hk
theorem ke_v (X : kX l g own cc nL R x) {P : va_W → Prop} (Z : kZv P n k x) (d : decode cc pc = .ok (.return_, 1)) (h : P ws) : kW x n k pc lv [] ws := by
  obtain ⟨p, l', e, R', s, m, args, below, meth, c, g', A, H0, nL', Q⟩ := x
  obtain ⟨rfl, rfl, rfl, rfl, hx, hb, hml, ho, hts, hE, hA, hk⟩ := X
  obtain ⟨hr, rfl, rfl⟩ := Z
  exact fun H locs ls hP hD hS hl => W.vret hx hb hr (fun t ht hW => ⟨⟨ws, rfl, h, by rw [ht]; exact hP, hD⟩, hS.F ht⟩) hS.2.2 d hk
end KB
/-- behind a call: the callee's world beside the rest -/
theorem kc_free {A : Nat → Prop} {D : va_G} {cl : List vw_C} {H0 H : Heap} {locs : List Loc} {wc wr : va_W} (hD : va_D A (wc ++ wr)) (hS : va_S A H0 H locs) (hA : ∀ q, H0.size ≤ q → A q) : ∀ q, va_A wc H.size q → A q := by
  intro q h
  rcases h with ⟨k, e, h⟩ | h
  · exact hD.2 k (q, e) (by rw [List.getElem?_append_left (List.getElem?_eq_some_iff.mp h).1]; exact h)
  · exact hA q (Nat.le_trans hS.1 h)
theorem kc_join {A : Nat → Prop} {D : va_G} {cl : List vw_C} {H H1 : Heap} {wc wr w : va_W} (hP : va_P D cl (wc ++ wr) H) (hD : va_D A (wc ++ wr)) (hF : ∀ q, va_A wc H.size q → A q) (hk : ∀ q : Nat, q < H.size → ¬ va_A wc H.size q → H1[q]? = H[q]?) (hP1 : va_P D cl w H1) (hD1 : va_D (va_A wc H.size) w) : va_P D cl (w ++ wr) H1 ∧ va_D A (w ++ wr) := by
  have hr : ∀ (k : Nat) (q : Nat × va_E), wr[k]? = some q → (wc ++ wr)[wc.length + k]? = some q := fun k q hq => by
    rw [List.getElem?_append_right (Nat.le_add_right _ _), Nat.add_sub_cancel_left]; exact hq
  have apart : ∀ (k : Nat) (q : Nat × va_E), wr[k]? = some q → q.1 < H.size ∧ ¬ va_A wc H.size q.1 := by
    intro k q hq
    have hl := (hP _ q (hr k q hq)).lt
    refine ⟨hl, fun h => ?_⟩
    rcases h with ⟨k2, e, h⟩ | h
    · have hk2 := (List.getElem?_eq_some_iff.mp h).1
      have hij := hD.1 (wc.length + k) k2 q (q.1, e) (hr k q hq) (by rw [List.getElem?_append_left hk2]; exact h) rfl
      omega
    · omega
  refine ⟨va_P.app hP1 (fun k q hq => ?_), va_D.app (hD1.weaken (fun k q _ h => hF q.1 h)) ⟨fun i j p q hp hq he => ?_, fun k q hq => hD.2 _ q (hr k q hq)⟩ (fun i j p q hp hq he => ?_)⟩
  · obtain ⟨g1, g2⟩ := apart k q hq
    exact (hP _ q (hr k q hq)).kept (hk q.1 g1 g2)
  · have := hD.1 _ _ p q (hr i p hp) (hr j q hq) he
    omega
  · exact (apart j q hq).2 (by rw [← he]; exact hD1.2 i p hp)
section KC
variable {y : MethodName} {cc' : ByteArray} {nL' ix ar mc ms na : Nat} {R' : Room} {As rest : List Value} {b : Nat} {wc wr : va_W} {ty : FieldType} {fs : List Value} {ci : Nat} {rC : vw_C} {x : kw_X} {l : Launch} {g : kw_G} {own : String} {cc : ByteArray} {nL : Nat} {R : Room} {n k pc : Nat} {lv lv' : List (Nat × Value)} {st : List Value} {ws ws' : va_W}
theorem kc_P {D : va_G} {cl : List vw_C} {H : Heap} (h : va_P D cl (wc ++ wr) H) : va_P D cl wc H := fun k q hq => h k q (by rw [List.getElem?_append_left (List.getElem?_eq_some_iff.mp hq).1]; exact hq)
theorem kc_D {A : Nat → Prop} (h : va_D A (wc ++ wr)) : va_D A wc := ⟨fun i j p q hp hq he => h.1 i j p q (by rw [List.getElem?_append_left (List.getElem?_eq_some_iff.mp hp).1]; exact hp) (by rw [List.getElem?_append_left (List.getElem?_eq_some_iff.mp hq).1]; exact hq) he, fun k q hq => h.2 k q (by rw [List.getElem?_append_left (List.getElem?_eq_some_iff.mp hq).1]; exact hq)⟩
theorem kc_T {y : MethodName} {cc' : ByteArray} {nL' : Nat} {rt : Option FieldType} (hc : Cond.code y cc' nL' rt ∈ kw_T) : GoodIn kw_T (.code y cc' nL' rt :: kw_T) := fun w hw => by
  rcases List.mem_cons.mp hw with rfl | h
  · exact kw_T_good _ hc
  · exact kw_T_good _ h
theorem kc_app {own' : String} {L : List Cond} (h : ∀ w ∈ L, w ∈ kw_T) {ws : List Cond} (hg : GoodIn kw_T ws) : GoodIn kw_T (L ++ ws) := fun w hw => (List.mem_append.mp hw).elim (fun q => kw_T_good _ (h w q)) (hg w)
theorem kc_Vi (X : kX l g own cc nL R x) {P : Int32 → va_W → Prop} (hM : kMi l g y cc' nL' ty R' mc ms (.ref b :: As) wc P) (d : decode cc pc = .ok (.invokevirtual ix, 3)) (hst : st = As.reverse ++ .ref b :: rest) (hw : ws.Perm (wc ++ wr)) (hcode : Cond.code y cc' nL' (some ty) ∈ kw_T) (hlink : Cond.methodLink own ix y ∈ kw_T) (hin : Cond.instanceMethod y ∈ kw_T) (hsel : Cond.selects y.cls y y ∈ kw_T) (hini : Cond.initialized y.cls ∈ kw_T) (q : Nat) (hq : wc[q]? = some (b, .inr (ci, fs))) (hci : vwCl[ci]? = some rC) (hrC : rC.1 = y.cls) (hd : y.cls ≠ "java/lang/invoke/MethodHandle" ∧ y.cls ≠ "java/lang/invoke/VarHandle" ∧ (parseMethodDescriptor y.desc).map (fun d => d.parameters.length) = some na) (hna : As.length = na) (hR : R'.frames + 1 ≤ R.frames ∧ 8 + (nL' + 11) + R'.locals ≤ R.locals) (hc' : R'.cells = mc ∧ R'.slots = ms) (hcs : n + mc ≤ R.cells ∧ k + ms ≤ R.slots) (hrest : (rest.map fun v => v.category).sum ≤ 8) (K : ∀ r w, P r w → kW x (n + mc) (k + ms) (pc + 3) lv (.int r :: rest) (w ++ wr)) : kW x n k pc lv st ws := by
  obtain ⟨p, l', e, R', s, m, args, below, meth, c, g', A, H0, nL', Q⟩ := x
  obtain ⟨rfl, rfl, rfl, rfl, hx, hb, hml, ho, hts, hE, hA, hk⟩ := X
  subst hst
  refine fun H locs ls hP hD hS hl => ?_
  have hP := kw_P hw hP
  have hD := kw_D hw hD
  have hF := kc_free (D := g'.1) (cl := vwCl) hD hS hA
  refine va_calli (va_runV (C := y.cls) (As := As) (rest := rest) (cells := n) (slots := k) ⟨hx, hb, hml, ho, hts⟩ (hM H.size) (cwV na hts (kc_app (own' := own) (by intro w hw; simp only [List.mem_cons, List.not_mem_nil, or_false] at hw; rcases hw with rfl | rfl | rfl | rfl <;> assumption) (kc_T hcode)) rfl hc'.1 hc'.2 ⟨rfl, hd⟩ hR) ⟨kPre_blind g' (.ref b :: As) wc H.size, by obtain ⟨cell, h1, h2, h3⟩ := va_recv hE.1 (kc_P hP) hci hq; exact ⟨cell, h1, h2, by rw [← hrC]; exact h3⟩, fun U hU hW => ⟨rfl, by rw [hU], by rw [hU]; exact kc_P hP, hE.warm hW, (kc_D hD).weaken (fun _ _ _ _ => trivial)⟩⟩ rfl hna hl.1 rfl (lv_room hrest) d hcs) hS (fun q _ h => hF q h) hF ?_
  intro r w t H1 locs1 ht hvm hp hB hz hkk hS1
  obtain ⟨hP1, hD1⟩ := hB
  rw [ht] at hP1
  obtain ⟨hP2, hD2⟩ := kc_join hP hD hF hkk hP1 hD1
  exact K r w hp H1 locs1 ls hP2 hD2 hS1 hl
theorem kc_Vv (X : kX l g own cc nL R x) {P : va_W → Prop} (hM : kMv l g y cc' nL' R' mc ms (.ref b :: As) wc P) (d : decode cc pc = .ok (.invokevirtual ix, 3)) (hst : st = As.reverse ++ .ref b :: rest) (hw : ws.Perm (wc ++ wr)) (hcode : Cond.code y cc' nL' none ∈ kw_T) (hlink : Cond.methodLink own ix y ∈ kw_T) (hin : Cond.instanceMethod y ∈ kw_T) (hsel : Cond.selects y.cls y y ∈ kw_T) (hini : Cond.initialized y.cls ∈ kw_T) (q : Nat) (hq : wc[q]? = some (b, .inr (ci, fs))) (hci : vwCl[ci]? = some rC) (hrC : rC.1 = y.cls) (hd : y.cls ≠ "java/lang/invoke/MethodHandle" ∧ y.cls ≠ "java/lang/invoke/VarHandle" ∧ (parseMethodDescriptor y.desc).map (fun d => d.parameters.length) = some na) (hna : As.length = na) (hR : R'.frames + 1 ≤ R.frames ∧ 8 + (nL' + 11) + R'.locals ≤ R.locals) (hc' : R'.cells = mc ∧ R'.slots = ms) (hcs : n + mc ≤ R.cells ∧ k + ms ≤ R.slots) (hrest : (rest.map fun v => v.category).sum ≤ 8) (K : ∀ w, P w → kW x (n + mc) (k + ms) (pc + 3) lv rest (w ++ wr)) : kW x n k pc lv st ws := by
  obtain ⟨p, l', e, R', s, m, args, below, meth, c, g', A, H0, nL', Q⟩ := x
  obtain ⟨rfl, rfl, rfl, rfl, hx, hb, hml, ho, hts, hE, hA, hk⟩ := X
  subst hst
  refine fun H locs ls hP hD hS hl => ?_
  have hP := kw_P hw hP
  have hD := kw_D hw hD
  have hF := kc_free (D := g'.1) (cl := vwCl) hD hS hA
  refine va_callv (va_runV (C := y.cls) (As := As) (rest := rest) (cells := n) (slots := k) ⟨hx, hb, hml, ho, hts⟩ (hM H.size) (cwV na hts (kc_app (own' := own) (by intro w hw; simp only [List.mem_cons, List.not_mem_nil, or_false] at hw; rcases hw with rfl | rfl | rfl | rfl <;> assumption) (kc_T hcode)) rfl hc'.1 hc'.2 ⟨rfl, hd⟩ hR) ⟨kPre_blind g' (.ref b :: As) wc H.size, by obtain ⟨cell, h1, h2, h3⟩ := va_recv hE.1 (kc_P hP) hci hq; exact ⟨cell, h1, h2, by rw [← hrC]; exact h3⟩, fun U hU hW => ⟨rfl, by rw [hU], by rw [hU]; exact kc_P hP, hE.warm hW, (kc_D hD).weaken (fun _ _ _ _ => trivial)⟩⟩ rfl hna hl.1 rfl (lv_room hrest) d hcs) hS (fun q _ h => hF q h) hF ?_
  intro w t H1 locs1 ht hvm hp hB hz hkk hS1
  obtain ⟨hP1, hD1⟩ := hB
  rw [ht] at hP1
  obtain ⟨hP2, hD2⟩ := kc_join hP hD hF hkk hP1 hD1
  exact K w hp H1 locs1 ls hP2 hD2 hS1 hl
theorem kc_Si (X : kX l g own cc nL R x) {P : Int32 → va_W → Prop} (hM : kMi l g y cc' nL' ty R' mc ms As wc P) (d : decode cc pc = .ok (.invokestatic ix, 3)) (hst : st = As.reverse ++ rest) (hw : ws.Perm (wc ++ wr)) (hcode : Cond.code y cc' nL' (some ty) ∈ kw_T) (hlink : Cond.methodLink own ix y ∈ kw_T) (hin : Cond.static y ∈ kw_T) (hini : Cond.initialized y.cls ∈ kw_T) (hd : y.cls ≠ "java/lang/invoke/MethodHandle" ∧ y.cls ≠ "java/lang/invoke/VarHandle" ∧ (parseMethodDescriptor y.desc).map (fun d => d.parameters.length) = some na) (hna : As.length = na) (hR : R'.frames + 1 ≤ R.frames ∧ 8 + (nL' + 11) + R'.locals ≤ R.locals) (hc' : R'.cells = mc ∧ R'.slots = ms) (hcs : n + mc ≤ R.cells ∧ k + ms ≤ R.slots) (hrest : (rest.map fun v => v.category).sum ≤ 8) (K : ∀ r w, P r w → kW x (n + mc) (k + ms) (pc + 3) lv (.int r :: rest) (w ++ wr)) : kW x n k pc lv st ws := by
  obtain ⟨p, l', e, R', s, m, args, below, meth, c, g', A, H0, nL', Q⟩ := x
  obtain ⟨rfl, rfl, rfl, rfl, hx, hb, hml, ho, hts, hE, hA, hk⟩ := X
  subst hst
  refine fun H locs ls hP hD hS hl => ?_
  have hP := kw_P hw hP
  have hD := kw_D hw hD
  have hF := kc_free (D := g'.1) (cl := vwCl) hD hS hA
  refine va_calli (va_runS (As := As) (rest := rest) (cells := n) (slots := k) ⟨hx, hb, hml, ho, hts⟩ (hM H.size) (va_cwS na hts (kc_app (own' := own) (by intro w hw; simp only [List.mem_cons, List.not_mem_nil, or_false] at hw; rcases hw with rfl | rfl | rfl <;> assumption) (kc_T hcode)) rfl hc'.1 hc'.2 hd hR) ⟨kPre_blind g' As wc H.size, fun U hU hW => ⟨rfl, by rw [hU], by rw [hU]; exact kc_P hP, hE.warm hW, (kc_D hD).weaken (fun _ _ _ _ => trivial)⟩⟩ rfl hna hl.1 rfl (lv_room hrest) d hcs) hS (fun q _ h => hF q h) hF ?_
  intro r w t H1 locs1 ht hvm hp hB hz hkk hS1
  obtain ⟨hP1, hD1⟩ := hB
  rw [ht] at hP1
  obtain ⟨hP2, hD2⟩ := kc_join hP hD hF hkk hP1 hD1
  exact K r w hp H1 locs1 ls hP2 hD2 hS1 hl
theorem kc_Sv (X : kX l g own cc nL R x) {P : va_W → Prop} (hM : kMv l g y cc' nL' R' mc ms As wc P) (d : decode cc pc = .ok (.invokestatic ix, 3)) (hst : st = As.reverse ++ rest) (hw : ws.Perm (wc ++ wr)) (hcode : Cond.code y cc' nL' none ∈ kw_T) (hlink : Cond.methodLink own ix y ∈ kw_T) (hin : Cond.static y ∈ kw_T) (hini : Cond.initialized y.cls ∈ kw_T) (hd : y.cls ≠ "java/lang/invoke/MethodHandle" ∧ y.cls ≠ "java/lang/invoke/VarHandle" ∧ (parseMethodDescriptor y.desc).map (fun d => d.parameters.length) = some na) (hna : As.length = na) (hR : R'.frames + 1 ≤ R.frames ∧ 8 + (nL' + 11) + R'.locals ≤ R.locals) (hc' : R'.cells = mc ∧ R'.slots = ms) (hcs : n + mc ≤ R.cells ∧ k + ms ≤ R.slots) (hrest : (rest.map fun v => v.category).sum ≤ 8) (K : ∀ w, P w → kW x (n + mc) (k + ms) (pc + 3) lv rest (w ++ wr)) : kW x n k pc lv st ws := by
  obtain ⟨p, l', e, R', s, m, args, below, meth, c, g', A, H0, nL', Q⟩ := x
  obtain ⟨rfl, rfl, rfl, rfl, hx, hb, hml, ho, hts, hE, hA, hk⟩ := X
  subst hst
  refine fun H locs ls hP hD hS hl => ?_
  have hP := kw_P hw hP
  have hD := kw_D hw hD
  have hF := kc_free (D := g'.1) (cl := vwCl) hD hS hA
  refine va_callv (va_runS (As := As) (rest := rest) (cells := n) (slots := k) ⟨hx, hb, hml, ho, hts⟩ (hM H.size) (va_cwS na hts (kc_app (own' := own) (by intro w hw; simp only [List.mem_cons, List.not_mem_nil, or_false] at hw; rcases hw with rfl | rfl | rfl <;> assumption) (kc_T hcode)) rfl hc'.1 hc'.2 hd hR) ⟨kPre_blind g' As wc H.size, fun U hU hW => ⟨rfl, by rw [hU], by rw [hU]; exact kc_P hP, hE.warm hW, (kc_D hD).weaken (fun _ _ _ _ => trivial)⟩⟩ rfl hna hl.1 rfl (lv_room hrest) d hcs) hS (fun q _ h => hF q h) hF ?_
  intro w t H1 locs1 ht hvm hp hB hz hkk hS1
  obtain ⟨hP1, hD1⟩ := hB
  rw [ht] at hP1
  obtain ⟨hP2, hD2⟩ := kc_join hP hD hF hkk hP1 hD1
  exact K w hp H1 locs1 ls hP2 hD2 hS1 hl
theorem kc_SNi (X : kX l g own cc nL R x) {P : Int32 → va_W → Prop} (hM : kMi l g y cc' nL' ty R' mc ms As wc P) (d : decode cc pc = .ok (.invokestatic ix, 3)) (hst : st = As.reverse ++ rest) (hw : ws.Perm (wc ++ wr)) (hcode : Cond.code y cc' nL' (some ty) ∈ kw_T) (hlink : Cond.methodLinkNest own ix y RX5 ∈ kw_nest) (hin : Cond.static y ∈ kw_T) (hini : Cond.initialized y.cls ∈ kw_T) (hd : y.cls ≠ "java/lang/invoke/MethodHandle" ∧ y.cls ≠ "java/lang/invoke/VarHandle" ∧ (parseMethodDescriptor y.desc).map (fun d => d.parameters.length) = some na) (hna : As.length = na) (hR : R'.frames + 1 ≤ R.frames ∧ 8 + (nL' + 11) + R'.locals ≤ R.locals) (hc' : R'.cells = mc ∧ R'.slots = ms) (hcs : n + mc ≤ R.cells ∧ k + ms ≤ R.slots) (hrest : (rest.map fun v => v.category).sum ≤ 8) (K : ∀ r w, P r w → kW x (n + mc) (k + ms) (pc + 3) lv (.int r :: rest) (w ++ wr)) : kW x n k pc lv st ws := by
  obtain ⟨p, l', e, R', s, m, args, below, meth, c, g', A, H0, nL', Q⟩ := x
  obtain ⟨rfl, rfl, rfl, rfl, hx, hb, hml, ho, hts, hE, hA, hk⟩ := X
  subst hst
  refine fun H locs ls hP hD hS hl => ?_
  have hP := kw_P hw hP
  have hD := kw_D hw hD
  have hF := kc_free (D := g'.1) (cl := vwCl) hD hS hA
  refine va_calli (va_runSN (As := As) (rest := rest) (cells := n) (slots := k) ⟨hx, hb, hml, ho, hts⟩ (hM H.size) (⟨va_cnB (host := RX5) na hts (kc_T hcode) rfl hc'.1 hc'.2 (hE.2.1 _ hlink) (hts _ hini) hd hR, hts _ hin, trivial⟩) ⟨kPre_blind g' As wc H.size, fun U hU hW => ⟨rfl, by rw [hU], by rw [hU]; exact kc_P hP, hE.warm hW, (kc_D hD).weaken (fun _ _ _ _ => trivial)⟩⟩ rfl hna hl.1 rfl (lv_room hrest) d hcs) hS (fun q _ h => hF q h) hF ?_
  intro r w t H1 locs1 ht hvm hp hB hz hkk hS1
  obtain ⟨hP1, hD1⟩ := hB
  rw [ht] at hP1
  obtain ⟨hP2, hD2⟩ := kc_join hP hD hF hkk hP1 hD1
  exact K r w hp H1 locs1 ls hP2 hD2 hS1 hl
theorem kc_SNv (X : kX l g own cc nL R x) {P : va_W → Prop} (hM : kMv l g y cc' nL' R' mc ms As wc P) (d : decode cc pc = .ok (.invokestatic ix, 3)) (hst : st = As.reverse ++ rest) (hw : ws.Perm (wc ++ wr)) (hcode : Cond.code y cc' nL' none ∈ kw_T) (hlink : Cond.methodLinkNest own ix y RX5 ∈ kw_nest) (hin : Cond.static y ∈ kw_T) (hini : Cond.initialized y.cls ∈ kw_T) (hd : y.cls ≠ "java/lang/invoke/MethodHandle" ∧ y.cls ≠ "java/lang/invoke/VarHandle" ∧ (parseMethodDescriptor y.desc).map (fun d => d.parameters.length) = some na) (hna : As.length = na) (hR : R'.frames + 1 ≤ R.frames ∧ 8 + (nL' + 11) + R'.locals ≤ R.locals) (hc' : R'.cells = mc ∧ R'.slots = ms) (hcs : n + mc ≤ R.cells ∧ k + ms ≤ R.slots) (hrest : (rest.map fun v => v.category).sum ≤ 8) (K : ∀ w, P w → kW x (n + mc) (k + ms) (pc + 3) lv rest (w ++ wr)) : kW x n k pc lv st ws := by
  obtain ⟨p, l', e, R', s, m, args, below, meth, c, g', A, H0, nL', Q⟩ := x
  obtain ⟨rfl, rfl, rfl, rfl, hx, hb, hml, ho, hts, hE, hA, hk⟩ := X
  subst hst
  refine fun H locs ls hP hD hS hl => ?_
  have hP := kw_P hw hP
  have hD := kw_D hw hD
  have hF := kc_free (D := g'.1) (cl := vwCl) hD hS hA
  refine va_callv (va_runSN (As := As) (rest := rest) (cells := n) (slots := k) ⟨hx, hb, hml, ho, hts⟩ (hM H.size) (⟨va_cnB (host := RX5) na hts (kc_T hcode) rfl hc'.1 hc'.2 (hE.2.1 _ hlink) (hts _ hini) hd hR, hts _ hin, trivial⟩) ⟨kPre_blind g' As wc H.size, fun U hU hW => ⟨rfl, by rw [hU], by rw [hU]; exact kc_P hP, hE.warm hW, (kc_D hD).weaken (fun _ _ _ _ => trivial)⟩⟩ rfl hna hl.1 rfl (lv_room hrest) d hcs) hS (fun q _ h => hF q h) hF ?_
  intro w t H1 locs1 ht hvm hp hB hz hkk hS1
  obtain ⟨hP1, hD1⟩ := hB
  rw [ht] at hP1
  obtain ⟨hP2, hD2⟩ := kc_join hP hD hF hkk hP1 hD1
  exact K w hp H1 locs1 ls hP2 hD2 hS1 hl
theorem kc_Iv (X : kX l g own cc nL R x) {P : va_W → Prop} (hM : kMv l g y cc' nL' R' mc ms (.ref b :: As) wc P) (d : decode cc pc = .ok (.invokespecial ix, 3)) (hst : st = As.reverse ++ .ref b :: rest) (hw : ws.Perm (wc ++ wr)) (hcode : Cond.code y cc' nL' none ∈ kw_T) (hlink : Cond.methodLink own ix y ∈ kw_T) (hin : Cond.instanceMethod y ∈ kw_T) (hini : Cond.initialized y.cls ∈ kw_T) (hnm : y.name = "<init>") (hd : y.cls ≠ "java/lang/invoke/MethodHandle" ∧ y.cls ≠ "java/lang/invoke/VarHandle" ∧ (parseMethodDescriptor y.desc).map (fun d => d.parameters.length) = some na) (hna : As.length = na) (hR : R'.frames + 1 ≤ R.frames ∧ 8 + (nL' + 11) + R'.locals ≤ R.locals) (hc' : R'.cells = mc ∧ R'.slots = ms) (hcs : n + mc ≤ R.cells ∧ k + ms ≤ R.slots) (hrest : (rest.map fun v => v.category).sum ≤ 8) (K : ∀ w, P w → kW x (n + mc) (k + ms) (pc + 3) lv rest (w ++ wr)) : kW x n k pc lv st ws := by
  obtain ⟨p, l', e, R', s, m, args, below, meth, c, g', A, H0, nL', Q⟩ := x
  obtain ⟨rfl, rfl, rfl, rfl, hx, hb, hml, ho, hts, hE, hA, hk⟩ := X
  subst hst
  refine fun H locs ls hP hD hS hl => ?_
  have hP := kw_P hw hP
  have hD := kw_D hw hD
  have hF := kc_free (D := g'.1) (cl := vwCl) hD hS hA
  refine va_callv (va_runI (As := As) (rest := rest) (cells := n) (slots := k) ⟨hx, hb, hml, ho, hts⟩ (hM H.size) (cwI na hts (kc_T hcode) rfl hc'.1 hc'.2 (hts _ hini) (hts _ hlink) (hts _ hin) hnm hd hR) ⟨kPre_blind g' (.ref b :: As) wc H.size, fun U hU hW => ⟨rfl, by rw [hU], by rw [hU]; exact kc_P hP, hE.warm hW, (kc_D hD).weaken (fun _ _ _ _ => trivial)⟩⟩ rfl hna hl.1 rfl (lv_room hrest) d hcs) hS (fun q _ h => hF q h) hF ?_
  intro w t H1 locs1 ht hvm hp hB hz hkk hS1
  obtain ⟨hP1, hD1⟩ := hB
  rw [ht] at hP1
  obtain ⟨hP2, hD2⟩ := kc_join hP hD hF hkk hP1 hD1
  exact K w hp H1 locs1 ls hP2 hD2 hS1 hl
theorem kc_INv (X : kX l g own cc nL R x) {P : va_W → Prop} (hM : kMv l g y cc' nL' R' mc ms (.ref b :: As) wc P) (d : decode cc pc = .ok (.invokespecial ix, 3)) (hst : st = As.reverse ++ .ref b :: rest) (hw : ws.Perm (wc ++ wr)) (hcode : Cond.code y cc' nL' none ∈ kw_T) (hlink : Cond.methodLinkNest own ix y RX5 ∈ kw_nest) (hin : Cond.instanceMethod y ∈ kw_T) (hini : Cond.initialized y.cls ∈ kw_T) (hnm : y.name = "<init>") (hd : y.cls ≠ "java/lang/invoke/MethodHandle" ∧ y.cls ≠ "java/lang/invoke/VarHandle" ∧ (parseMethodDescriptor y.desc).map (fun d => d.parameters.length) = some na) (hna : As.length = na) (hR : R'.frames + 1 ≤ R.frames ∧ 8 + (nL' + 11) + R'.locals ≤ R.locals) (hc' : R'.cells = mc ∧ R'.slots = ms) (hcs : n + mc ≤ R.cells ∧ k + ms ≤ R.slots) (hrest : (rest.map fun v => v.category).sum ≤ 8) (K : ∀ w, P w → kW x (n + mc) (k + ms) (pc + 3) lv rest (w ++ wr)) : kW x n k pc lv st ws := by
  obtain ⟨p, l', e, R', s, m, args, below, meth, c, g', A, H0, nL', Q⟩ := x
  obtain ⟨rfl, rfl, rfl, rfl, hx, hb, hml, ho, hts, hE, hA, hk⟩ := X
  subst hst
  refine fun H locs ls hP hD hS hl => ?_
  have hP := kw_P hw hP
  have hD := kw_D hw hD
  have hF := kc_free (D := g'.1) (cl := vwCl) hD hS hA
  refine va_callv (va_runIN (As := As) (rest := rest) (cells := n) (slots := k) ⟨hx, hb, hml, ho, hts⟩ (hM H.size) (⟨va_cnB (host := RX5) na hts (kc_T hcode) rfl hc'.1 hc'.2 (hE.2.1 _ hlink) (hts _ hini) hd hR, hnm, hts _ hin⟩) ⟨kPre_blind g' (.ref b :: As) wc H.size, fun U hU hW => ⟨rfl, by rw [hU], by rw [hU]; exact kc_P hP, hE.warm hW, (kc_D hD).weaken (fun _ _ _ _ => trivial)⟩⟩ rfl hna hl.1 rfl (lv_room hrest) d hcs) hS (fun q _ h => hF q h) hF ?_
  intro w t H1 locs1 ht hvm hp hB hz hkk hS1
  obtain ⟨hP1, hD1⟩ := hB
  rw [ht] at hP1
  obtain ⟨hP2, hD2⟩ := kc_join hP hD hF hkk hP1 hD1
  exact K w hp H1 locs1 ls hP2 hD2 hS1 hl
end KC
end
section
/-! The village as numbers: kinds, ages told, coins, ties, debts; persons, trial age, dead, had, days, trials of the day. -/
def kw_rm (k c s : Nat) : Room := { frames := k, cells := c, slots := s, locals := 40 * k }
abbrev VS : Type := (Nat → Int32) × (Nat → Int32) × (Nat → Int32) × (Nat → Int32) × (Nat → Int32) × Nat × Int32 × Nat × Nat × Int32 × Int32
def vK (v : VS) : Nat → Int32 := v.1
def vA (v : VS) : Nat → Int32 := v.2.1
def vC (v : VS) : Nat → Int32 := v.2.2.1
def vT (v : VS) : Nat → Int32 := v.2.2.2.1
def vD (v : VS) : Nat → Int32 := v.2.2.2.2.1
def vN (v : VS) : Nat := v.2.2.2.2.2.1
def vG (v : VS) : Int32 := v.2.2.2.2.2.2.1
def vX (v : VS) : Nat := v.2.2.2.2.2.2.2.1
def vH (v : VS) : Nat := v.2.2.2.2.2.2.2.2.1
def vY (v : VS) : Int32 := v.2.2.2.2.2.2.2.2.2.1
def vZ (v : VS) : Int32 := v.2.2.2.2.2.2.2.2.2.2
def sK (v : VS) (f : Nat → Int32) : VS := (f, v.2)
def sA (v : VS) (f : Nat → Int32) : VS := (v.1, f, v.2.2)
def sC (v : VS) (f : Nat → Int32) : VS := (v.1, v.2.1, f, v.2.2.2)
def sT (v : VS) (f : Nat → Int32) : VS := (v.1, v.2.1, v.2.2.1, f, v.2.2.2.2)
def sD (v : VS) (f : Nat → Int32) : VS := (v.1, v.2.1, v.2.2.1, v.2.2.2.1, f, v.2.2.2.2.2)
def sN (v : VS) (k : Nat) : VS := (v.1, v.2.1, v.2.2.1, v.2.2.2.1, v.2.2.2.2.1, k, v.2.2.2.2.2.2)
def sG (v : VS) (k : Int32) : VS := (v.1, v.2.1, v.2.2.1, v.2.2.2.1, v.2.2.2.2.1, v.2.2.2.2.2.1, k, v.2.2.2.2.2.2.2)
def sX (v : VS) (k : Nat) : VS := (v.1, v.2.1, v.2.2.1, v.2.2.2.1, v.2.2.2.2.1, v.2.2.2.2.2.1, v.2.2.2.2.2.2.1, k, v.2.2.2.2.2.2.2.2)
def sH (v : VS) (k : Nat) : VS := (v.1, v.2.1, v.2.2.1, v.2.2.2.1, v.2.2.2.2.1, v.2.2.2.2.2.1, v.2.2.2.2.2.2.1, v.2.2.2.2.2.2.2.1, k, v.2.2.2.2.2.2.2.2.2)
def sY (v : VS) (k : Int32) : VS := (v.1, v.2.1, v.2.2.1, v.2.2.2.1, v.2.2.2.2.1, v.2.2.2.2.2.1, v.2.2.2.2.2.2.1, v.2.2.2.2.2.2.2.1, v.2.2.2.2.2.2.2.2.1, k, v.2.2.2.2.2.2.2.2.2.2)
def sZ (v : VS) (k : Int32) : VS := (v.1, v.2.1, v.2.2.1, v.2.2.2.1, v.2.2.2.2.1, v.2.2.2.2.2.1, v.2.2.2.2.2.2.1, v.2.2.2.2.2.2.2.1, v.2.2.2.2.2.2.2.2.1, v.2.2.2.2.2.2.2.2.2.1, k)
/-- a village's six cells -/
def wV (g : kw_G) (a : Nat → Nat) (v : VS) : va_W :=
  [(a 0, .inr (4, [.ref (a 1), .ref (a 2), .ref (a 3), .ref (a 4), .ref (a 5), .int (nI (vN v)), .int (vG v), .int (nI (vX v)), .int (nI (vH v)), .int (vY v), .int (vZ v)])),
   (a 1, .inl (g.2 0, 6, .inl (vK v))), (a 2, .inl (g.2 0, 6, .inl (vA v))), (a 3, .inl (g.2 0, 6, .inl (vC v))), (a 4, .inl (g.2 0, 36, .inl (vT v))), (a 5, .inl (g.2 0, 36, .inl (vD v)))]
/-- what always holds of a village -/
def VI (v : VS) : Prop := vN v ≤ 6 ∧ vX v < 64 ∧ vH v < 64
def TI (v : VS) : Prop := ∀ k, k < 36 → ∃ t, t ≤ 9 ∧ vT v k = nI t - 4
/-! numbers -/
def mx (a b : Int32) : Int32 := if a < b then b else a
def mn (a b : Int32) : Int32 := if b < a then b else a
/-- a number that is told: 0 to n - 1 -/
def pin (p : Int32) (n : Nat) : Bool := !decide (p < 0) && !decide (nI n ≤ p)
def two (i j : Int32) (n : Nat) : Bool := pin i n && (pin j n && !decide (i = j))
def inr (v lo hi : Int32) : Bool := !decide (v < lo) && !decide (hi < v)
def fare (b c : Int32) : Bool := inr b 0 3 && inr c 0 3
/-! telling -/
def tpOk (v : VS) (k m : Nat) : Bool := decide (vN v < 6) && (decide (k ≤ 4) && decide (m ≤ 60))
def tpV (v : VS) (k a m : Nat) : VS := sN (sC (sA (sK v (upd (vK v) (vN v) (nI k))) (upd (vA v) (vN v) (nI a))) (upd (vC v) (vN v) (nI m))) (vN v + 1)
def ttOk (v : VS) (i j t : Nat) : Bool := two (nI i) (nI j) (vN v) && decide (t ≤ 9)
def ttV (v : VS) (i j t : Nat) : VS := sT v (upd (vT v) (i * 6 + j) (nI t - 4))
def tdOk (v : VS) (i j t : Nat) : Bool := two (nI i) (nI j) (vN v) && decide (t ≤ 60)
def tdV (v : VS) (i j t : Nat) : VS := sD v (upd (vD v) (i * 6 + j) (nI t))
/-! the rules -/
def wLives (v : VS) (i : Nat) : Bool := !(vX v).testBit i
def wCome (v : VS) (i : Nat) (kind tie : Int32) (p : Nat) (b c : Int32) : Bool :=
  wLives v i && (if kind = 1 then decide (tie < 0) || !decide (tie + b < 4) else if kind = 2 then decide (0 < c) || !decide (tie + b < 2) else if kind = 3 then decide (vZ v = 0) && !decide (tie + b < 2) else if kind = 4 then decide (vD v (i * 6 + p) = 0) && !decide (tie + b < 1) else !decide (tie + b < 2))
def wCm (v : VS) (i p : Nat) (b c : Int32) : Bool := !decide (i = p) && wCome v i (vK v i) (vT v (i * 6 + p)) p b c
def wGs (v : VS) (p : Nat) (b c : Int32) : Nat → Nat
  | 0 => 0
  | i + 1 => wGs v p b c i + (if wCm v i p b c then 2 ^ i else 0)
def wGuests (v : VS) (p : Nat) (b c : Int32) : Nat := wGs v p b c (vN v)
def wAge (v : VS) (p : Nat) : Int32 := vA v p + vY v / 30
def wDue (v : VS) (p : Nat) : Bool := wLives v p && (!(vH v).testBit p && !decide (wAge v p < vG v))
def wCost (b c : Int32) : Int32 := 2 * b + 3 * c
def wCan (v : VS) (p : Nat) (b c : Int32) : Bool := wDue v p && !decide (vC v p < wCost b c)
def wTie (v : VS) (i j : Nat) (d : Int32) : VS := sT v (upd (vT v) (i * 6 + j) (mx (-4) (mn 5 (vT v (i * 6 + j) + d))))
def wRecv (v : VS) (p : Nat) (s : Int32) : VS := sC v (upd (vC v) p (mn 999 (vC v p + s)))
def wPaid (v : VS) (i : Nat) (s : Int32) : Int32 := mn s (vC v i)
def wPay0 (v : VS) (i j : Nat) (q : Int32) : VS := sD (sC v (upd (vC v) i (vC v i - q))) (upd (vD v) (i * 6 + j) (vD v (i * 6 + j) - q))
def wPay (v : VS) (i j : Nat) (s : Int32) : VS := wRecv (wPay0 v i j (wPaid v i s)) j (wPaid v i s)
def wMeet (v : VS) (p i : Nat) (came : Bool) : VS :=
  if came then wPay (wTie v p i (if vK v i = 1 then -1 else 1)) i p (vD v (i * 6 + p) / 2) else wTie v p i (-1)
def wMeets (v : VS) (p G : Nat) : Nat → VS
  | 0 => v
  | i + 1 => if !decide (i = p) && wLives (wMeets v p G i) i then wMeet (wMeets v p G i) p i (G.testBit i) else wMeets v p G i
def wHold (v : VS) (p : Nat) (b c : Int32) : VS :=
  (fun m => sZ (sH m (vH m ||| 2 ^ p)) (vZ m + 1)) (wMeets (sC v (upd (vC v) p (vC v p - wCost b c))) p (wGuests v p b c) (vN v))
def wCanGive (v : VS) (i j : Nat) : Bool := wLives v i && (wLives v j && (!decide (vC v i < 2) && !decide (5 ≤ vT v (j * 6 + i))))
def wGive (v : VS) (i j : Nat) : VS := wTie (sC v (upd (vC v) i (vC v i - 2))) j i 1
def wHr (v : VS) (p : Nat) : Nat → Int32 × Int32
  | 0 => (-5, -4)
  | i + 1 => if !decide (i = p) && (wLives v i && !decide (vT v (p * 6 + i) ≤ (wHr v p i).1)) then (vT v (p * 6 + i), nI i) else wHr v p i
def wHeir (v : VS) (p : Nat) : Int32 := (wHr v p (vN v)).2
def wBq (v : VS) (p h : Nat) : Nat → VS
  | 0 => v
  | i + 1 => if i = h then wBq v p h i else sD (wBq v p h i) (upd (vD (wBq v p h i)) (i * 6 + h) (vD (wBq v p h i) (i * 6 + h) + vD (wBq v p h i) (i * 6 + p)))
def wBequeath (v : VS) (p h : Nat) : VS := wBq (wRecv v h (vC v p)) p h (vN v)
def wClr (v : VS) (p : Nat) : Nat → VS
  | 0 => v
  | i + 1 => sD (wClr v p i) (upd (upd (vD (wClr v p i)) (i * 6 + p) 0) (p * 6 + i) 0)
def wBury0 (v : VS) (p : Nat) : VS := wClr (sC (sX v (vX v ||| 2 ^ p)) (upd (vC v) p 0)) p (vN v)
def wBury (v : VS) (p : Nat) : VS := if 0 ≤ wHeir v p then wBury0 (wBequeath v p (wHeir v p).toNatClampNeg) p else wBury0 v p
def wDays (v : VS) (k : Int32) : VS := sZ (sY v (vY v + k)) 0
def wSum (f : Nat → Int32) : Nat → Int32
  | 0 => 0
  | i + 1 => wSum f i + f i
/-- bits of a set below 64 -/
def wBits (s : Nat) : Nat := s % 2 + s / 2 % 2 + s / 4 % 2 + s / 8 % 2 + s / 16 % 2 + s / 32 % 2
def wDayP (v : VS) (d : Nat) : VS := if wCan v (d % vN v) (nI (d / 8 % 4)) (nI (d / 32 % 4)) then wHold v (d % vN v) (nI (d / 8 % 4)) (nI (d / 32 % 4)) else if !decide (d % vN v = d / 128 % vN v) && wCanGive v (d % vN v) (d / 128 % vN v) then wGive v (d % vN v) (d / 128 % vN v) else v
def wDay (v : VS) (d : Nat) : VS := wDays (wDayP v d) 1
def wDayC (v : VS) (d : Nat) : Nat := if wCan v (d % vN v) (nI (d / 8 % 4)) (nI (d / 32 % 4)) then wBits (wGuests v (d % vN v) (nI (d / 8 % 4)) (nI (d / 32 % 4))) else 0
def wGain (v : VS) (p o : Nat) : Int32 := 3 * vT v (o * 6 + p) + vC v p
def wGf (v : VS) (i p : Nat) (b c : Int32) (t : Nat) : Nat → Nat → Int32
  | 0, _ => -4
  | f + 1, k => if wCome v i (vK v i) (nI (t + k) - 4) p b c then nI k else wGf v i p b c t f (k + 1)
section KT
variable {x : kw_X} {l : Launch} {g : kw_G} {own : String} {cc : ByteArray} {nL : Nat} {R : Room} {n k pc : Nat} {lv : List (Nat × Value)} {st : List Value} {ws : va_W}
theorem kb_tabIn (X : kX l g own cc nL R x) {dflt lo hi : Int} {offs : Array Int} {len : Nat} {a : Int32} {off : Int} {tgt : Nat} (j : Nat) (d : decode cc pc = .ok (.tableswitch dflt lo hi offs, len)) (h : a.toInt = lo + j) (hh : lo + j ≤ hi) (ho : offs[j]? = some off) (ht : (pc : Int) + off = (tgt : Int)) (K : kW x n k tgt lv st ws) : kW x n k pc lv (.int a :: st) ws := by
  obtain ⟨p, l', e, R', s, m, args, below, meth, c, g', A, H0, nL', Q⟩ := x
  obtain ⟨rfl, rfl, rfl, rfl, hx, hb, hml, ho', hts, hE, hA, hk⟩ := X
  exact fun H locs ls hP hD hS hl => lv_tableIn hx hb d (by omega) (by omega) (by rw [show (a.toInt - lo).toNat = j by omega]; exact ho) ht (K H locs ls hP hD hS hl)
theorem kb_tabOut (X : kX l g own cc nL R x) {dflt lo hi : Int} {offs : Array Int} {len : Nat} {a : Int32} {tgt : Nat} (d : decode cc pc = .ok (.tableswitch dflt lo hi offs, len)) (h : a.toInt < lo ∨ hi < a.toInt) (ht : (pc : Int) + dflt = (tgt : Int)) (K : kW x n k tgt lv st ws) : kW x n k pc lv (.int a :: st) ws := by
  obtain ⟨p, l', e, R', s, m, args, below, meth, c, g', A, H0, nL', Q⟩ := x
  obtain ⟨rfl, rfl, rfl, rfl, hx, hb, hml, ho', hts, hE, hA, hk⟩ := X
  exact fun H locs ls hP hD hS hl => lv_tableOut hx hb d h ht (K H locs ls hP hD hS hl)
theorem kb_look (X : kX l g own cc nL R x) {dflt : Int} {ps : Array (Int × Int)} {len : Nat} {a : Int32} {off : Int} {tgt : Nat} (d : decode cc pc = .ok (.lookupswitch dflt ps, len)) (hp : (ps.toList.zip (ps.toList.drop 1)).all (fun (a, next) => a.1 < next.1) = true) (h : Op.lookupswitch.offset ps.toList dflt a.toInt = off) (ht : (pc : Int) + off = (tgt : Int)) (K : kW x n k tgt lv st ws) : kW x n k pc lv (.int a :: st) ws := by
  obtain ⟨p, l', e, R', s, m, args, below, meth, c, g', A, H0, nL', Q⟩ := x
  obtain ⟨rfl, rfl, rfl, rfl, hx, hb, hml, ho', hts, hE, hA, hk⟩ := X
  exact fun H locs ls hP hD hS hl => lv_lookup hx hb d hp h ht (K H locs ls hP hD hS hl)
end KT
theorem pin_t {p : Int32} {m : Nat} (hm : m < 2147483648) (h : pin p m = true) : ∃ j, j < m ∧ p = nI j := by
  simp only [pin, Bool.and_eq_true, Bool.not_eq_true', decide_eq_false_iff_not] at h
  obtain ⟨j, hj, rfl⟩ := nI_of h.1
  exact ⟨j, Nat.not_le.mp (fun q => h.2 (nI_le q hj)), rfl⟩
theorem pin_nI {j m : Nat} (hj : j < 2147483648) (hm : m < 2147483648) : pin (nI j) m = decide (j < m) := by
  by_cases h : j < m
  · have h1 : ¬ nI m ≤ nI j := nI_ge h hm
    have h2 : ¬ nI j < 0 := nI_pos hj
    simp [pin, h, h1, h2]
  · have h1 : nI m ≤ nI j := nI_le (Nat.not_lt.mp h) hj
    simp [pin, h, h1]
theorem two_nI {i j m : Nat} (hi : i < 2147483648) (hj : j < 2147483648) (hm : m < 2147483648) : two (nI i) (nI j) m = (decide (i < m) && (decide (j < m) && !decide (i = j))) := by
  rw [two, pin_nI hi hm, pin_nI hj hm]
  by_cases h : i = j
  · simp [h]
  · have := mt (nI_eq hi hj).mp h
    simp [h, this]
theorem two_t {i j : Nat} {m : Nat} (hi : i < 2147483648) (hj : j < 2147483648) (hm : m < 2147483648) (h : two (nI i) (nI j) m = true) : i < m ∧ j < m ∧ i ≠ j := by
  rw [two_nI hi hj hm] at h
  simpa using h
theorem tb_shr (s p : Nat) (hs : s < 2147483648) (hp : p < 31) : (nI s >>> (nI p &&& 31)) &&& 1 = zI (s.testBit p) := by
  have h1 : nI p &&& 31 = nI p := by
    have := pk_andN (n := p) (by omega) (m := 31) 5 rfl
    rw [this, Nat.mod_eq_of_lt (by omega)]
  rw [h1, pk_shrN hs (nI p) p (by
    have : ∀ q, q < 31 → ((nI q).toBitVec.smod 32).toNat = q := by decide +kernel
    exact this p hp)]
  rw [pk_andN (n := s / 2 ^ p) (by have := Nat.div_le_self s (2 ^ p); omega) (m := 1) 1 rfl]
  rw [Nat.testBit_eq_decide_div_mod_eq]
  have h2 : s / 2 ^ p % 2 < 2 := Nat.mod_lt _ (by decide)
  by_cases h : s / 2 ^ p % 2 = 1
  · rw [show s / 2 ^ p % 2 ^ 1 = 1 from h]; rfl
  · rw [show s / 2 ^ p % 2 ^ 1 = 0 by omega]; rfl
theorem bit_in : ∀ i, i < 31 → (1 : Int32) <<< (nI i &&& 31) = nI (2 ^ i) := by decide +kernel
theorem or_nI (a b : Nat) : nI a ||| nI b = nI (a ||| b) := by
  apply Int32.toBitVec_inj.mp
  simp [nI, BitVec.ofNat_or]
end
section
set_option maxHeartbeats 4000000 in
set_option maxRecDepth 100000 in
theorem ct_X5_contains (l : Launch) (g : kw_G) (s p : Nat) (hs : s < 64) (hp : p < 31) : kMi l g yX5_contains cX5_contains 2 .boolean (kw_rm 1 0 0) 0 0 [.int (nI (s)), .int (nI (p))] ([]) (fun r w => r = zI (s.testBit p) ∧ w = []) := by
  refine kMi_of (by decide +kernel) (Nat.le_of_ble_eq_true rfl) (fun x (X : kX l g RX5 cX5_contains 2 (kw_rm 1 0 0) x) (Z : kZi .boolean _ 0 0 x) => ?_)
  show kW x 0 0 0 [(0, .int (nI (s))), (1, .int (nI (p)))] [] []
  refine kb_iload_n X 0 dX5_contains_0 rfl rfl ?_
  refine kb_iload_n X 1 dX5_contains_1 rfl rfl ?_
  refine kb_ishr X dX5_contains_2 ?_
  refine kb_iconst (v := (1 : Int32)) X dX5_contains_3 (by decide) ?_
  refine kb_iand X dX5_contains_4 ?_
  refine kw_top (b := .int (zI (s.testBit p))) (by rw [tb_shr s p (by omega) hp]) ?_
  refine kb_iconst (v := (1 : Int32)) X dX5_contains_5 (by decide) ?_
  refine kz_icmp_ne1 (b := s.testBit p) (tgt := 13) X dX5_contains_6 (by decide) (fun c1_ => ?_) (fun c1_ => ?_)
  · skip
    refine kb_iconst (v := (0 : Int32)) X dX5_contains_13 (by decide) ?_
    refine ke_z X Z rfl dX5_contains_14 ?_
    exact ⟨(by first | rfl | (simp [zI, c1_]; done) | (simp_all [zI, c1_]; done)), (by first | rfl | (simp [zI, c1_]; done) | (simp_all [zI, c1_]; done))⟩
  · skip
    refine kb_iconst (v := (1 : Int32)) X dX5_contains_9 (by decide) ?_
    refine kb_goto (tgt := 14) X dX5_contains_10 (by decide) ?_
    refine ke_z X Z rfl dX5_contains_14 ?_
    exact ⟨(by first | rfl | (simp [zI, c1_]; done) | (simp_all [zI, c1_]; done)), (by first | rfl | (simp [zI, c1_]; done) | (simp_all [zI, c1_]; done))⟩

set_option maxHeartbeats 4000000 in
set_option maxRecDepth 100000 in
theorem ct_X5_costOf (l : Launch) (g : kw_G) (b c : Int32) : kMi l g yX5_costOf cX5_costOf 2 .int (kw_rm 1 0 0) 0 0 [.int (b), .int (c)] ([]) (fun r w => r = wCost b c ∧ w = []) := by
  refine kMi_of (by decide +kernel) (Nat.le_of_ble_eq_true rfl) (fun x (X : kX l g RX5 cX5_costOf 2 (kw_rm 1 0 0) x) (Z : kZi .int _ 0 0 x) => ?_)
  show kW x 0 0 0 [(0, .int (b)), (1, .int (c))] [] []
  refine kb_iconst (v := (2 : Int32)) X dX5_costOf_0 (by decide) ?_
  refine kb_iload_n X 0 dX5_costOf_1 rfl rfl ?_
  refine kb_imul X dX5_costOf_2 ?_
  refine kb_iconst (v := (3 : Int32)) X dX5_costOf_3 (by decide) ?_
  refine kb_iload_n X 1 dX5_costOf_4 rfl rfl ?_
  refine kb_imul X dX5_costOf_5 ?_
  refine kb_iadd X dX5_costOf_6 ?_
  refine ke_i X Z dX5_costOf_7 ?_
  exact ⟨(by first | rfl | (simp [zI, ]; done) | (simp_all [zI, ]; done)), (by first | rfl | (simp [zI, ]; done) | (simp_all [zI, ]; done))⟩

set_option maxHeartbeats 4000000 in
set_option maxRecDepth 100000 in
theorem ct_J9_max_7cf53 (l : Launch) (g : kw_G) (p q : Int32) : kMi l g yJ9_max_7cf53 cJ9_max_7cf53 2 .int (kw_rm 1 0 0) 0 0 [.int (p), .int (q)] ([]) (fun r w => r = mx p q ∧ w = []) := by
  refine kMi_of (by decide +kernel) (Nat.le_of_ble_eq_true rfl) (fun x (X : kX l g RJ9 cJ9_max_7cf53 2 (kw_rm 1 0 0) x) (Z : kZi .int _ 0 0 x) => ?_)
  show kW x 0 0 0 [(0, .int (p)), (1, .int (q))] [] []
  refine kb_iload_n X 0 dJ9_max_7cf53_0 rfl rfl ?_
  refine kb_iload_n X 1 dJ9_max_7cf53_1 rfl rfl ?_
  refine kb_icmp_lt (tgt := 9) X dJ9_max_7cf53_2 (by decide) (fun c1_ => ?_) (fun c1_ => ?_)
  · skip
    refine kb_iload_n X 1 dJ9_max_7cf53_9 rfl rfl ?_
    refine ke_i X Z dJ9_max_7cf53_10 ?_
    exact ⟨(by first | rfl | (simp [zI, mx, c1_]; done) | (simp_all [zI, mx, c1_]; done)), (by first | rfl | (simp [zI, mx, c1_]; done) | (simp_all [zI, mx, c1_]; done))⟩
  · skip
    refine kb_iload_n X 0 dJ9_max_7cf53_5 rfl rfl ?_
    refine kb_goto (tgt := 10) X dJ9_max_7cf53_6 (by decide) ?_
    refine ke_i X Z dJ9_max_7cf53_10 ?_
    exact ⟨(by first | rfl | (simp [zI, mx, c1_]; done) | (simp_all [zI, mx, c1_]; done)), (by first | rfl | (simp [zI, mx, c1_]; done) | (simp_all [zI, mx, c1_]; done))⟩

set_option maxHeartbeats 4000000 in
set_option maxRecDepth 100000 in
theorem ct_J9_min_7cf53 (l : Launch) (g : kw_G) (p q : Int32) : kMi l g yJ9_min_7cf53 cJ9_min_7cf53 2 .int (kw_rm 1 0 0) 0 0 [.int (p), .int (q)] ([]) (fun r w => r = mn p q ∧ w = []) := by
  refine kMi_of (by decide +kernel) (Nat.le_of_ble_eq_true rfl) (fun x (X : kX l g RJ9 cJ9_min_7cf53 2 (kw_rm 1 0 0) x) (Z : kZi .int _ 0 0 x) => ?_)
  show kW x 0 0 0 [(0, .int (p)), (1, .int (q))] [] []
  refine kb_iload_n X 0 dJ9_min_7cf53_0 rfl rfl ?_
  refine kb_iload_n X 1 dJ9_min_7cf53_1 rfl rfl ?_
  refine kb_icmp_gt (tgt := 9) X dJ9_min_7cf53_2 (by decide) (fun c1_ => ?_) (fun c1_ => ?_)
  · skip
    refine kb_iload_n X 1 dJ9_min_7cf53_9 rfl rfl ?_
    refine ke_i X Z dJ9_min_7cf53_10 ?_
    exact ⟨(by first | rfl | (simp [zI, mn, c1_]; done) | (simp_all [zI, mn, c1_]; done)), (by first | rfl | (simp [zI, mn, c1_]; done) | (simp_all [zI, mn, c1_]; done))⟩
  · skip
    refine kb_iload_n X 0 dJ9_min_7cf53_5 rfl rfl ?_
    refine kb_goto (tgt := 10) X dJ9_min_7cf53_6 (by decide) ?_
    refine ke_i X Z dJ9_min_7cf53_10 ?_
    exact ⟨(by first | rfl | (simp [zI, mn, c1_]; done) | (simp_all [zI, mn, c1_]; done)), (by first | rfl | (simp [zI, mn, c1_]; done) | (simp_all [zI, mn, c1_]; done))⟩

set_option maxHeartbeats 4000000 in
set_option maxRecDepth 100000 in
theorem ct_X4_has (l : Launch) (g : kw_G) (a : Nat → Nat) (v : VS) (p : Int32) : kMi l g yX4_has cX4_has 2 .boolean (kw_rm 1 0 0) 0 0 [.ref (a 0), .int (p)] (wV g a v) (fun r w => r = zI (pin p (vN v)) ∧ w = wV g a v) := by
  refine kMi_of (by decide +kernel) (Nat.le_of_ble_eq_true rfl) (fun x (X : kX l g RX4 cX4_has 2 (kw_rm 1 0 0) x) (Z : kZi .boolean _ 0 0 x) => ?_)
  show kW x 0 0 0 [(0, .ref (a 0)), (1, .int (p))] [] (wV g a v)
  refine kb_iload_n X 1 dX4_has_0 rfl rfl ?_
  refine kb_if_lt (tgt := 16) X dX4_has_1 (by decide) (fun c1_ => ?_) (fun c1_ => ?_)
  · skip
    refine kb_iconst (v := (0 : Int32)) X dX4_has_16 (by decide) ?_
    refine ke_z X Z rfl dX4_has_17 ?_
    exact ⟨(by first | rfl | (simp [zI, pin, c1_]; done) | (simp_all [zI, pin, c1_]; done)), (by first | rfl | (simp [zI, pin, c1_]; done) | (simp_all [zI, pin, c1_]; done))⟩
  · skip
    refine kb_iload_n X 1 dX4_has_4 rfl rfl ?_
    refine kb_aload_n X 0 dX4_has_5 rfl rfl ?_
    refine kb_get (C := RX4) (T := TX4) (N := 11) (ci := 4) X kw_iX4 rfl 0 5 rfl (by decide) kf_X4_27 rfl rfl dX4_has_6 ?_
    refine kb_icmp_ge (tgt := 16) X dX4_has_9 (by decide) (fun c2_ => ?_) (fun c2_ => ?_)
    · skip
      refine kb_iconst (v := (0 : Int32)) X dX4_has_16 (by decide) ?_
      refine ke_z X Z rfl dX4_has_17 ?_
      exact ⟨(by first | rfl | (simp [zI, pin, c1_, c2_]; done) | (simp_all [zI, pin, c1_, c2_]; done)), (by first | rfl | (simp [zI, pin, c1_, c2_]; done) | (simp_all [zI, pin, c1_, c2_]; done))⟩
    · skip
      refine kb_iconst (v := (1 : Int32)) X dX4_has_12 (by decide) ?_
      refine kb_goto (tgt := 17) X dX4_has_13 (by decide) ?_
      refine ke_z X Z rfl dX4_has_17 ?_
      exact ⟨(by first | rfl | (simp [zI, pin, c1_, c2_]; done) | (simp_all [zI, pin, c1_, c2_]; done)), (by first | rfl | (simp [zI, pin, c1_, c2_]; done) | (simp_all [zI, pin, c1_, c2_]; done))⟩

set_option maxHeartbeats 4000000 in
set_option maxRecDepth 100000 in
theorem ct_X4_hasTwo (l : Launch) (g : kw_G) (a : Nat → Nat) (v : VS) (p q : Int32) : kMi l g yX4_hasTwo cX4_hasTwo 3 .boolean (kw_rm 2 0 0) 0 0 [.ref (a 0), .int (p), .int (q)] (wV g a v) (fun r w => r = zI (two p q (vN v)) ∧ w = wV g a v) := by
  refine kMi_of (by decide +kernel) (Nat.le_of_ble_eq_true rfl) (fun x (X : kX l g RX4 cX4_hasTwo 3 (kw_rm 2 0 0) x) (Z : kZi .boolean _ 0 0 x) => ?_)
  show kW x 0 0 0 [(0, .ref (a 0)), (1, .int (p)), (2, .int (q))] [] (wV g a v)
  refine kb_aload_n X 0 dX4_hasTwo_0 rfl rfl ?_
  refine kb_iload_n X 1 dX4_hasTwo_1 rfl rfl ?_
  refine kc_Vi X (As := [.int (p)]) (rest := []) (wr := []) (ct_X4_has l g a v p ) dX4_hasTwo_2 rfl (kw_pall _) mc_X4_has kl_X4_64 mi_X4_has mv_X4_has kn_X4 0 rfl rfl rfl (na := 1) (by decide +kernel) rfl ⟨Nat.le_of_ble_eq_true rfl, Nat.le_of_ble_eq_true rfl⟩ ⟨rfl, rfl⟩ ⟨Nat.le_of_ble_eq_true rfl, Nat.le_of_ble_eq_true rfl⟩ (Nat.le_of_ble_eq_true rfl) (fun r_ w_ hp_ => ?_)
  obtain ⟨rfl, rfl⟩ := hp_
  refine kw_ws (List.append_nil _) ?_
  refine kz_if_eq (b := pin p (vN v)) (tgt := 25) X dX4_hasTwo_5 (by decide) (fun c1_ => ?_) (fun c1_ => ?_)
  · skip
    refine kb_iconst (v := (0 : Int32)) X dX4_hasTwo_25 (by decide) ?_
    refine ke_z X Z rfl dX4_hasTwo_26 ?_
    exact ⟨(by first | rfl | (simp [zI, two, c1_]; done) | (simp_all [zI, two, c1_]; done)), (by first | rfl | (simp [zI, two, c1_]; done) | (simp_all [zI, two, c1_]; done))⟩
  · skip
    refine kb_aload_n X 0 dX4_hasTwo_8 rfl rfl ?_
    refine kb_iload_n X 2 dX4_hasTwo_9 rfl rfl ?_
    refine kc_Vi X (As := [.int (q)]) (rest := []) (wr := []) (ct_X4_has l g a v q ) dX4_hasTwo_10 rfl (kw_pall _) mc_X4_has kl_X4_64 mi_X4_has mv_X4_has kn_X4 0 rfl rfl rfl (na := 1) (by decide +kernel) rfl ⟨Nat.le_of_ble_eq_true rfl, Nat.le_of_ble_eq_true rfl⟩ ⟨rfl, rfl⟩ ⟨Nat.le_of_ble_eq_true rfl, Nat.le_of_ble_eq_true rfl⟩ (Nat.le_of_ble_eq_true rfl) (fun r_ w_ hp_ => ?_)
    obtain ⟨rfl, rfl⟩ := hp_
    refine kw_ws (List.append_nil _) ?_
    refine kz_if_eq (b := pin q (vN v)) (tgt := 25) X dX4_hasTwo_13 (by decide) (fun c2_ => ?_) (fun c2_ => ?_)
    · skip
      refine kb_iconst (v := (0 : Int32)) X dX4_hasTwo_25 (by decide) ?_
      refine ke_z X Z rfl dX4_hasTwo_26 ?_
      exact ⟨(by first | rfl | (simp [zI, two, c1_, c2_]; done) | (simp_all [zI, two, c1_, c2_]; done)), (by first | rfl | (simp [zI, two, c1_, c2_]; done) | (simp_all [zI, two, c1_, c2_]; done))⟩
    · skip
      refine kb_iload_n X 1 dX4_hasTwo_16 rfl rfl ?_
      refine kb_iload_n X 2 dX4_hasTwo_17 rfl rfl ?_
      refine kb_icmp_eq (tgt := 25) X dX4_hasTwo_18 (by decide) (fun c3_ => ?_) (fun c3_ => ?_)
      · skip
        refine kb_iconst (v := (0 : Int32)) X dX4_hasTwo_25 (by decide) ?_
        refine ke_z X Z rfl dX4_hasTwo_26 ?_
        exact ⟨(by first | rfl | (simp [zI, two, c1_, c2_, c3_]; done) | (simp_all [zI, two, c1_, c2_, c3_]; done)), (by first | rfl | (simp [zI, two, c1_, c2_, c3_]; done) | (simp_all [zI, two, c1_, c2_, c3_]; done))⟩
      · skip
        refine kb_iconst (v := (1 : Int32)) X dX4_hasTwo_21 (by decide) ?_
        refine kb_goto (tgt := 26) X dX4_hasTwo_22 (by decide) ?_
        refine ke_z X Z rfl dX4_hasTwo_26 ?_
        exact ⟨(by first | rfl | (simp [zI, two, c1_, c2_, c3_]; done) | (simp_all [zI, two, c1_, c2_, c3_]; done)), (by first | rfl | (simp [zI, two, c1_, c2_, c3_]; done) | (simp_all [zI, two, c1_, c2_, c3_]; done))⟩

set_option maxHeartbeats 4000000 in
set_option maxRecDepth 100000 in
theorem ct_X4_cell (l : Launch) (g : kw_G) (a : Nat → Nat) (v : VS) (p q : Nat) : kMi l g yX4_cell cX4_cell 3 .int (kw_rm 1 0 0) 0 0 [.ref (a 0), .int (nI (p)), .int (nI (q))] (wV g a v) (fun r w => r = nI (p * 6 + q) ∧ w = wV g a v) := by
  refine kMi_of (by decide +kernel) (Nat.le_of_ble_eq_true rfl) (fun x (X : kX l g RX4 cX4_cell 3 (kw_rm 1 0 0) x) (Z : kZi .int _ 0 0 x) => ?_)
  show kW x 0 0 0 [(0, .ref (a 0)), (1, .int (nI (p))), (2, .int (nI (q)))] [] (wV g a v)
  refine kb_iload_n X 1 dX4_cell_0 rfl rfl ?_
  refine kb_bipush (v := (6 : Int32)) X dX4_cell_1 (by decide) ?_
  refine kn_imul X p 6 dX4_cell_3 ?_
  refine kb_iload_n X 2 dX4_cell_4 rfl rfl ?_
  refine kn_iadd X (p * 6) q dX4_cell_5 ?_
  refine ke_i X Z dX4_cell_6 ?_
  exact ⟨(by first | rfl | (simp [zI, ]; done) | (simp_all [zI, ]; done)), (by first | rfl | (simp [zI, ]; done) | (simp_all [zI, ]; done))⟩

set_option maxHeartbeats 4000000 in
set_option maxRecDepth 100000 in
theorem ct_X4_tieOf (l : Launch) (g : kw_G) (a : Nat → Nat) (v : VS) (p q : Nat) (hp : p < 6) (hq : q < 6) : kMi l g yX4_tieOf cX4_tieOf 3 .int (kw_rm 2 0 0) 0 0 [.ref (a 0), .int (nI (p)), .int (nI (q))] (wV g a v) (fun r w => r = vT v (p * 6 + q) ∧ w = wV g a v) := by
  refine kMi_of (by decide +kernel) (Nat.le_of_ble_eq_true rfl) (fun x (X : kX l g RX4 cX4_tieOf 3 (kw_rm 2 0 0) x) (Z : kZi .int _ 0 0 x) => ?_)
  show kW x 0 0 0 [(0, .ref (a 0)), (1, .int (nI (p))), (2, .int (nI (q)))] [] (wV g a v)
  refine kb_aload_n X 0 dX4_tieOf_0 rfl rfl ?_
  refine kb_get (C := RX4) (T := TX4) (N := 11) (ci := 4) X kw_iX4 rfl 0 3 rfl (by decide) kf_X4_21 rfl rfl dX4_tieOf_1 ?_
  refine kb_aload_n X 0 dX4_tieOf_4 rfl rfl ?_
  refine kb_iload_n X 1 dX4_tieOf_5 rfl rfl ?_
  refine kb_iload_n X 2 dX4_tieOf_6 rfl rfl ?_
  refine kc_Vi X (As := [.int (nI (p)), .int (nI (q))]) (rest := [.ref (a 4)]) (wr := []) (ct_X4_cell l g a v p q ) dX4_tieOf_7 rfl (kw_pall _) mc_X4_cell kl_X4_60 mi_X4_cell mv_X4_cell kn_X4 0 rfl rfl rfl (na := 2) (by decide +kernel) rfl ⟨Nat.le_of_ble_eq_true rfl, Nat.le_of_ble_eq_true rfl⟩ ⟨rfl, rfl⟩ ⟨Nat.le_of_ble_eq_true rfl, Nat.le_of_ble_eq_true rfl⟩ (Nat.le_of_ble_eq_true rfl) (fun r_ w_ hp_ => ?_)
  obtain ⟨rfl, rfl⟩ := hp_
  refine kw_ws (List.append_nil _) ?_
  refine kb_iald (i := p * 6 + q) X 4 rfl (by omega) (by decide) dX4_tieOf_10 ?_
  refine ke_i X Z dX4_tieOf_11 ?_
  exact ⟨(by first | rfl | (simp [zI, ]; done) | (simp_all [zI, ]; done)), (by first | rfl | (simp [zI, ]; done) | (simp_all [zI, ]; done))⟩

set_option maxHeartbeats 4000000 in
set_option maxRecDepth 100000 in
theorem ct_X4_debtOf (l : Launch) (g : kw_G) (a : Nat → Nat) (v : VS) (p q : Nat) (hp : p < 6) (hq : q < 6) : kMi l g yX4_debtOf cX4_debtOf 3 .int (kw_rm 2 0 0) 0 0 [.ref (a 0), .int (nI (p)), .int (nI (q))] (wV g a v) (fun r w => r = vD v (p * 6 + q) ∧ w = wV g a v) := by
  refine kMi_of (by decide +kernel) (Nat.le_of_ble_eq_true rfl) (fun x (X : kX l g RX4 cX4_debtOf 3 (kw_rm 2 0 0) x) (Z : kZi .int _ 0 0 x) => ?_)
  show kW x 0 0 0 [(0, .ref (a 0)), (1, .int (nI (p))), (2, .int (nI (q)))] [] (wV g a v)
  refine kb_aload_n X 0 dX4_debtOf_0 rfl rfl ?_
  refine kb_get (C := RX4) (T := TX4) (N := 11) (ci := 4) X kw_iX4 rfl 0 4 rfl (by decide) kf_X4_24 rfl rfl dX4_debtOf_1 ?_
  refine kb_aload_n X 0 dX4_debtOf_4 rfl rfl ?_
  refine kb_iload_n X 1 dX4_debtOf_5 rfl rfl ?_
  refine kb_iload_n X 2 dX4_debtOf_6 rfl rfl ?_
  refine kc_Vi X (As := [.int (nI (p)), .int (nI (q))]) (rest := [.ref (a 5)]) (wr := []) (ct_X4_cell l g a v p q ) dX4_debtOf_7 rfl (kw_pall _) mc_X4_cell kl_X4_60 mi_X4_cell mv_X4_cell kn_X4 0 rfl rfl rfl (na := 2) (by decide +kernel) rfl ⟨Nat.le_of_ble_eq_true rfl, Nat.le_of_ble_eq_true rfl⟩ ⟨rfl, rfl⟩ ⟨Nat.le_of_ble_eq_true rfl, Nat.le_of_ble_eq_true rfl⟩ (Nat.le_of_ble_eq_true rfl) (fun r_ w_ hp_ => ?_)
  obtain ⟨rfl, rfl⟩ := hp_
  refine kw_ws (List.append_nil _) ?_
  refine kb_iald (i := p * 6 + q) X 5 rfl (by omega) (by decide) dX4_debtOf_10 ?_
  refine ke_i X Z dX4_debtOf_11 ?_
  exact ⟨(by first | rfl | (simp [zI, ]; done) | (simp_all [zI, ]; done)), (by first | rfl | (simp [zI, ]; done) | (simp_all [zI, ]; done))⟩

set_option maxHeartbeats 4000000 in
set_option maxRecDepth 100000 in
theorem ct_X4_lives (l : Launch) (g : kw_G) (a : Nat → Nat) (v : VS) (hv : VI v) (p : Nat) (hp : p < 6) : kMi l g yX4_lives cX4_lives 2 .boolean (kw_rm 2 0 0) 0 0 [.ref (a 0), .int (nI (p))] (wV g a v) (fun r w => r = zI (wLives v p) ∧ w = wV g a v) := by
  refine kMi_of (by decide +kernel) (Nat.le_of_ble_eq_true rfl) (fun x (X : kX l g RX4 cX4_lives 2 (kw_rm 2 0 0) x) (Z : kZi .boolean _ 0 0 x) => ?_)
  show kW x 0 0 0 [(0, .ref (a 0)), (1, .int (nI (p)))] [] (wV g a v)
  refine kb_aload_n X 0 dX4_lives_0 rfl rfl ?_
  refine kb_get (C := RX4) (T := TX4) (N := 11) (ci := 4) X kw_iX4 rfl 0 7 rfl (by decide) kf_X4_34 rfl rfl dX4_lives_1 ?_
  refine kb_iload_n X 1 dX4_lives_4 rfl rfl ?_
  refine kc_SNi X (As := [.int (nI (vX v)), .int (nI (p))]) (rest := []) (wr := (wV g a v)) (ct_X5_contains l g (vX v) p hv.2.1 (by omega)) dX4_lives_5 rfl (List.Perm.refl _) mc_X5_contains (by simp [kw_nest]) ms_X5_contains kn_X5 (na := 2) (by decide +kernel) rfl ⟨Nat.le_of_ble_eq_true rfl, Nat.le_of_ble_eq_true rfl⟩ ⟨rfl, rfl⟩ ⟨Nat.le_of_ble_eq_true rfl, Nat.le_of_ble_eq_true rfl⟩ (Nat.le_of_ble_eq_true rfl) (fun r_ w_ hp_ => ?_)
  obtain ⟨rfl, rfl⟩ := hp_
  refine kz_if_ne (b := Nat.testBit (vX v) p) (tgt := 15) X dX4_lives_8 (by decide) (fun c1_ => ?_) (fun c1_ => ?_)
  · skip
    refine kb_iconst (v := (0 : Int32)) X dX4_lives_15 (by decide) ?_
    refine ke_z X Z rfl dX4_lives_16 ?_
    exact ⟨(by first | rfl | (simp [zI, wLives, c1_]; done) | (simp_all [zI, wLives, c1_]; done)), (by first | rfl | (simp [zI, wLives, c1_]; done) | (simp_all [zI, wLives, c1_]; done))⟩
  · skip
    refine kb_iconst (v := (1 : Int32)) X dX4_lives_11 (by decide) ?_
    refine kb_goto (tgt := 16) X dX4_lives_12 (by decide) ?_
    refine ke_z X Z rfl dX4_lives_16 ?_
    exact ⟨(by first | rfl | (simp [zI, wLives, c1_]; done) | (simp_all [zI, wLives, c1_]; done)), (by first | rfl | (simp [zI, wLives, c1_]; done) | (simp_all [zI, wLives, c1_]; done))⟩

set_option maxHeartbeats 4000000 in
set_option maxRecDepth 100000 in
theorem ct_X4_hadTrial (l : Launch) (g : kw_G) (a : Nat → Nat) (v : VS) (hv : VI v) (p : Nat) (hp : p < 6) : kMi l g yX4_hadTrial cX4_hadTrial 2 .boolean (kw_rm 2 0 0) 0 0 [.ref (a 0), .int (nI (p))] (wV g a v) (fun r w => r = zI ((vH v).testBit p) ∧ w = wV g a v) := by
  refine kMi_of (by decide +kernel) (Nat.le_of_ble_eq_true rfl) (fun x (X : kX l g RX4 cX4_hadTrial 2 (kw_rm 2 0 0) x) (Z : kZi .boolean _ 0 0 x) => ?_)
  show kW x 0 0 0 [(0, .ref (a 0)), (1, .int (nI (p)))] [] (wV g a v)
  refine kb_aload_n X 0 dX4_hadTrial_0 rfl rfl ?_
  refine kb_get (C := RX4) (T := TX4) (N := 11) (ci := 4) X kw_iX4 rfl 0 8 rfl (by decide) kf_X4_37 rfl rfl dX4_hadTrial_1 ?_
  refine kb_iload_n X 1 dX4_hadTrial_4 rfl rfl ?_
  refine kc_SNi X (As := [.int (nI (vH v)), .int (nI (p))]) (rest := []) (wr := (wV g a v)) (ct_X5_contains l g (vH v) p hv.2.2 (by omega)) dX4_hadTrial_5 rfl (List.Perm.refl _) mc_X5_contains (by simp [kw_nest]) ms_X5_contains kn_X5 (na := 2) (by decide +kernel) rfl ⟨Nat.le_of_ble_eq_true rfl, Nat.le_of_ble_eq_true rfl⟩ ⟨rfl, rfl⟩ ⟨Nat.le_of_ble_eq_true rfl, Nat.le_of_ble_eq_true rfl⟩ (Nat.le_of_ble_eq_true rfl) (fun r_ w_ hp_ => ?_)
  obtain ⟨rfl, rfl⟩ := hp_
  refine ke_z X Z (zI_nar _) dX4_hadTrial_8 ?_
  exact ⟨(by first | rfl | (simp [zI, ]; done) | (simp_all [zI, ]; done)), (by first | rfl | (simp [zI, ]; done) | (simp_all [zI, ]; done))⟩

set_option maxHeartbeats 4000000 in
set_option maxRecDepth 100000 in
theorem ct_X4_ageOf (l : Launch) (g : kw_G) (a : Nat → Nat) (v : VS) (p : Nat) (hp : p < 6) : kMi l g yX4_ageOf cX4_ageOf 2 .int (kw_rm 1 0 0) 0 0 [.ref (a 0), .int (nI (p))] (wV g a v) (fun r w => r = wAge v p ∧ w = wV g a v) := by
  refine kMi_of (by decide +kernel) (Nat.le_of_ble_eq_true rfl) (fun x (X : kX l g RX4 cX4_ageOf 2 (kw_rm 1 0 0) x) (Z : kZi .int _ 0 0 x) => ?_)
  show kW x 0 0 0 [(0, .ref (a 0)), (1, .int (nI (p)))] [] (wV g a v)
  refine kb_aload_n X 0 dX4_ageOf_0 rfl rfl ?_
  refine kb_get (C := RX4) (T := TX4) (N := 11) (ci := 4) X kw_iX4 rfl 0 1 rfl (by decide) kf_X4_15 rfl rfl dX4_ageOf_1 ?_
  refine kb_iload_n X 1 dX4_ageOf_4 rfl rfl ?_
  refine kb_iald (i := p) X 2 rfl (by omega) (by decide) dX4_ageOf_5 ?_
  refine kb_aload_n X 0 dX4_ageOf_6 rfl rfl ?_
  refine kb_get (C := RX4) (T := TX4) (N := 11) (ci := 4) X kw_iX4 rfl 0 9 rfl (by decide) kf_X4_40 rfl rfl dX4_ageOf_7 ?_
  refine kb_bipush (v := (30 : Int32)) X dX4_ageOf_10 (by decide) ?_
  refine kb_idiv X dX4_ageOf_12 (by decide) ?_
  refine kb_iadd X dX4_ageOf_13 ?_
  refine ke_i X Z dX4_ageOf_14 ?_
  exact ⟨(by first | rfl | (simp [zI, ]; done) | (simp_all [zI, ]; done)), (by first | rfl | (simp [zI, ]; done) | (simp_all [zI, ]; done))⟩

set_option maxHeartbeats 4000000 in
set_option maxRecDepth 100000 in
theorem ct_X4_tellPerson (l : Launch) (g : kw_G) (a : Nat → Nat) (v : VS) (p q m : Nat) (hp : p < 100) (hq : q < 100) (hm : m < 100) (hv : vN v ≤ 6) : kMi l g yX4_tellPerson cX4_tellPerson 4 .boolean (kw_rm 1 0 0) 0 0 [.ref (a 0), .int (nI (p)), .int (nI (q)), .int (nI (m))] (wV g a v) (fun r w => r = zI (tpOk v p m) ∧ w = wV g a (if tpOk v p m = true then tpV v p q m else v)) := by
  refine kMi_of (by decide +kernel) (Nat.le_of_ble_eq_true rfl) (fun x (X : kX l g RX4 cX4_tellPerson 4 (kw_rm 1 0 0) x) (Z : kZi .boolean _ 0 0 x) => ?_)
  show kW x 0 0 0 [(0, .ref (a 0)), (1, .int (nI (p))), (2, .int (nI (q))), (3, .int (nI (m)))] [] (wV g a v)
  refine kb_aload_n X 0 dX4_tellPerson_0 rfl rfl ?_
  refine kb_get (C := RX4) (T := TX4) (N := 11) (ci := 4) X kw_iX4 rfl 0 5 rfl (by decide) kf_X4_27 rfl rfl dX4_tellPerson_1 ?_
  refine kb_bipush (v := (6 : Int32)) X dX4_tellPerson_4 (by decide) ?_
  refine kn_icmp_ge (a := vN v) (b := 6) (tgt := 20) X (by omega) (by omega) dX4_tellPerson_6 (by decide) (fun c1_ => ?_) (fun c1_ => ?_)
  · skip
    refine kb_iconst (v := (0 : Int32)) X dX4_tellPerson_20 (by decide) ?_
    refine ke_z X Z rfl dX4_tellPerson_21 ?_
    exact ⟨by simp [tpOk, zI, c1_] <;> omega, by rw [if_neg (by simp [tpOk] <;> omega)] <;> rfl⟩
  · skip
    refine kb_iload_n X 1 dX4_tellPerson_9 rfl rfl ?_
    refine kb_iconst (v := (4 : Int32)) X dX4_tellPerson_10 (by decide) ?_
    refine kn_icmp_gt (a := p) (b := 4) (tgt := 20) X (by omega) (by omega) dX4_tellPerson_11 (by decide) (fun c2_ => ?_) (fun c2_ => ?_)
    · skip
      refine kb_iconst (v := (0 : Int32)) X dX4_tellPerson_20 (by decide) ?_
      refine ke_z X Z rfl dX4_tellPerson_21 ?_
      exact ⟨by simp [tpOk, zI, c1_, c2_] <;> omega, by rw [if_neg (by simp [tpOk] <;> omega)] <;> rfl⟩
    · skip
      refine kb_iload_n X 3 dX4_tellPerson_14 rfl rfl ?_
      refine kb_bipush (v := (60 : Int32)) X dX4_tellPerson_15 (by decide) ?_
      refine kn_icmp_le (a := m) (b := 60) (tgt := 22) X (by omega) (by omega) dX4_tellPerson_17 (by decide) (fun c3_ => ?_) (fun c3_ => ?_)
      · skip
        refine kb_aload_n X 0 dX4_tellPerson_22 rfl rfl ?_
        refine kb_get (C := RX4) (T := TX4) (N := 11) (ci := 4) X kw_iX4 rfl 0 0 rfl (by decide) kf_X4_9 rfl rfl dX4_tellPerson_23 ?_
        refine kb_aload_n X 0 dX4_tellPerson_26 rfl rfl ?_
        refine kb_get (C := RX4) (T := TX4) (N := 11) (ci := 4) X kw_iX4 rfl 0 5 rfl (by decide) kf_X4_27 rfl rfl dX4_tellPerson_27 ?_
        refine kb_iload_n X 1 dX4_tellPerson_30 rfl rfl ?_
        refine kb_iast (i := vN v) X 1 rfl (by omega) (by decide) dX4_tellPerson_31 (ws' := wV g a (sK v (upd (vK v) (vN v) (nI (p))))) rfl ?_
        refine kb_aload_n X 0 dX4_tellPerson_32 rfl rfl ?_
        refine kb_get (C := RX4) (T := TX4) (N := 11) (ci := 4) X kw_iX4 rfl 0 1 rfl (by decide) kf_X4_15 rfl rfl dX4_tellPerson_33 ?_
        refine kb_aload_n X 0 dX4_tellPerson_36 rfl rfl ?_
        refine kb_get (C := RX4) (T := TX4) (N := 11) (ci := 4) X kw_iX4 rfl 0 5 rfl (by decide) kf_X4_27 rfl rfl dX4_tellPerson_37 ?_
        refine kb_iload_n X 2 dX4_tellPerson_40 rfl rfl ?_
        refine kb_iast (i := vN v) X 2 rfl (by omega) (by decide) dX4_tellPerson_41 (ws' := wV g a (sA (sK v (upd (vK v) (vN v) (nI (p)))) (upd (vA v) (vN v) (nI (q))))) rfl ?_
        refine kb_aload_n X 0 dX4_tellPerson_42 rfl rfl ?_
        refine kb_get (C := RX4) (T := TX4) (N := 11) (ci := 4) X kw_iX4 rfl 0 2 rfl (by decide) kf_X4_18 rfl rfl dX4_tellPerson_43 ?_
        refine kb_aload_n X 0 dX4_tellPerson_46 rfl rfl ?_
        refine kb_get (C := RX4) (T := TX4) (N := 11) (ci := 4) X kw_iX4 rfl 0 5 rfl (by decide) kf_X4_27 rfl rfl dX4_tellPerson_47 ?_
        refine kb_iload_n X 3 dX4_tellPerson_50 rfl rfl ?_
        refine kb_iast (i := vN v) X 3 rfl (by omega) (by decide) dX4_tellPerson_51 (ws' := wV g a (sC (sA (sK v (upd (vK v) (vN v) (nI (p)))) (upd (vA v) (vN v) (nI (q)))) (upd (vC v) (vN v) (nI (m))))) rfl ?_
        refine kb_aload_n X 0 dX4_tellPerson_52 rfl rfl ?_
        refine kb_dup X dX4_tellPerson_53 rfl ?_
        refine kb_get (C := RX4) (T := TX4) (N := 11) (ci := 4) X kw_iX4 rfl 0 5 rfl (by decide) kf_X4_27 rfl rfl dX4_tellPerson_54 ?_
        refine kb_iconst (v := (1 : Int32)) X dX4_tellPerson_57 (by decide) ?_
        refine kn_iadd X (vN v) 1 dX4_tellPerson_58 ?_
        refine kb_put X (C := RX4) (T := TX4) (N := 11) (ci := 4) (ty := .int) kw_iX4 tyX4 tyX4_ok nmX4 rfl 0 5 rfl (by decide) kf_X4_27 rfl rfl (by decide +kernel) rfl rfl (Nat.le_of_ble_eq_true rfl) dX4_tellPerson_59 (ws' := wV g a (sN (sC (sA (sK v (upd (vK v) (vN v) (nI (p)))) (upd (vA v) (vN v) (nI (q)))) (upd (vC v) (vN v) (nI (m)))) ((vN v) + 1))) rfl ?_
        refine kb_iconst (v := (1 : Int32)) X dX4_tellPerson_62 (by decide) ?_
        refine ke_z X Z rfl dX4_tellPerson_63 ?_
        exact ⟨by simp [tpOk, zI, c1_, c2_, c3_] <;> omega, by rw [if_pos (by simp [tpOk] <;> omega)] <;> rfl⟩
      · skip
        refine kb_iconst (v := (0 : Int32)) X dX4_tellPerson_20 (by decide) ?_
        refine ke_z X Z rfl dX4_tellPerson_21 ?_
        exact ⟨by simp [tpOk, zI, c1_, c2_, c3_] <;> omega, by rw [if_neg (by simp [tpOk] <;> omega)] <;> rfl⟩

set_option maxHeartbeats 4000000 in
set_option maxRecDepth 100000 in
theorem ct_X4_tellTie (l : Launch) (g : kw_G) (a : Nat → Nat) (v : VS) (p q m : Nat) (hp : p < 100) (hq : q < 100) (hm : m < 100) (hv : vN v ≤ 6) : kMi l g yX4_tellTie cX4_tellTie 4 .boolean (kw_rm 3 0 0) 0 0 [.ref (a 0), .int (nI (p)), .int (nI (q)), .int (nI (m))] (wV g a v) (fun r w => r = zI (ttOk v p q m) ∧ w = wV g a (if ttOk v p q m = true then ttV v p q m else v)) := by
  refine kMi_of (by decide +kernel) (Nat.le_of_ble_eq_true rfl) (fun x (X : kX l g RX4 cX4_tellTie 4 (kw_rm 3 0 0) x) (Z : kZi .boolean _ 0 0 x) => ?_)
  show kW x 0 0 0 [(0, .ref (a 0)), (1, .int (nI (p))), (2, .int (nI (q))), (3, .int (nI (m)))] [] (wV g a v)
  refine kb_aload_n X 0 dX4_tellTie_0 rfl rfl ?_
  refine kb_iload_n X 1 dX4_tellTie_1 rfl rfl ?_
  refine kb_iload_n X 2 dX4_tellTie_2 rfl rfl ?_
  refine kc_Vi X (As := [.int (nI (p)), .int (nI (q))]) (rest := []) (wr := []) (ct_X4_hasTwo l g a v (nI (p)) (nI (q)) ) dX4_tellTie_3 rfl (kw_pall _) mc_X4_hasTwo kl_X4_56 mi_X4_hasTwo mv_X4_hasTwo kn_X4 0 rfl rfl rfl (na := 2) (by decide +kernel) rfl ⟨Nat.le_of_ble_eq_true rfl, Nat.le_of_ble_eq_true rfl⟩ ⟨rfl, rfl⟩ ⟨Nat.le_of_ble_eq_true rfl, Nat.le_of_ble_eq_true rfl⟩ (Nat.le_of_ble_eq_true rfl) (fun r_ w_ hp_ => ?_)
  obtain ⟨rfl, rfl⟩ := hp_
  refine kw_ws (List.append_nil _) ?_
  refine kz_if_eq (b := two (nI (p)) (nI (q)) (vN v)) (tgt := 15) X dX4_tellTie_6 (by decide) (fun c1_ => ?_) (fun c1_ => ?_)
  · skip
    refine kb_iconst (v := (0 : Int32)) X dX4_tellTie_15 (by decide) ?_
    refine ke_z X Z rfl dX4_tellTie_16 ?_
    exact ⟨by simp [ttOk, zI, c1_] <;> omega, by rw [if_neg (by simp [ttOk, c1_] <;> omega)] <;> rfl⟩
  · skip
    obtain ⟨h1, h2, h3⟩ := two_t (by omega) (by omega) (by omega) c1_
    refine kb_iload_n X 3 dX4_tellTie_9 rfl rfl ?_
    refine kb_bipush (v := (9 : Int32)) X dX4_tellTie_10 (by decide) ?_
    refine kn_icmp_le (a := m) (b := 9) (tgt := 17) X (by omega) (by omega) dX4_tellTie_12 (by decide) (fun c2_ => ?_) (fun c2_ => ?_)
    · skip
      refine kb_aload_n X 0 dX4_tellTie_17 rfl rfl ?_
      refine kb_get (C := RX4) (T := TX4) (N := 11) (ci := 4) X kw_iX4 rfl 0 3 rfl (by decide) kf_X4_21 rfl rfl dX4_tellTie_18 ?_
      refine kb_aload_n X 0 dX4_tellTie_21 rfl rfl ?_
      refine kb_iload_n X 1 dX4_tellTie_22 rfl rfl ?_
      refine kb_iload_n X 2 dX4_tellTie_23 rfl rfl ?_
      refine kc_Vi X (As := [.int (nI (p)), .int (nI (q))]) (rest := [.ref (a 4)]) (wr := []) (ct_X4_cell l g a v p q ) dX4_tellTie_24 rfl (kw_pall _) mc_X4_cell kl_X4_60 mi_X4_cell mv_X4_cell kn_X4 0 rfl rfl rfl (na := 2) (by decide +kernel) rfl ⟨Nat.le_of_ble_eq_true rfl, Nat.le_of_ble_eq_true rfl⟩ ⟨rfl, rfl⟩ ⟨Nat.le_of_ble_eq_true rfl, Nat.le_of_ble_eq_true rfl⟩ (Nat.le_of_ble_eq_true rfl) (fun r_ w_ hp_ => ?_)
      obtain ⟨rfl, rfl⟩ := hp_
      refine kw_ws (List.append_nil _) ?_
      refine kb_iload_n X 3 dX4_tellTie_27 rfl rfl ?_
      refine kb_iconst (v := (4 : Int32)) X dX4_tellTie_28 (by decide) ?_
      refine kb_isub X dX4_tellTie_29 ?_
      refine kb_iast (i := p * 6 + q) X 4 rfl (by omega) (by decide) dX4_tellTie_30 (ws' := wV g a (sT v (upd (vT v) (p * 6 + q) ((nI (m)) - (4 : Int32))))) rfl ?_
      refine kb_iconst (v := (1 : Int32)) X dX4_tellTie_31 (by decide) ?_
      refine ke_z X Z rfl dX4_tellTie_32 ?_
      exact ⟨by simp [ttOk, zI, c1_, c2_] <;> omega, by rw [if_pos (by simp [ttOk, c1_, c2_] <;> omega)] <;> rfl⟩
    · skip
      refine kb_iconst (v := (0 : Int32)) X dX4_tellTie_15 (by decide) ?_
      refine ke_z X Z rfl dX4_tellTie_16 ?_
      exact ⟨by simp [ttOk, zI, c1_, c2_] <;> omega, by rw [if_neg (by simp [ttOk, c1_, c2_] <;> omega)] <;> rfl⟩

set_option maxHeartbeats 4000000 in
set_option maxRecDepth 100000 in
theorem ct_X4_tellDebt (l : Launch) (g : kw_G) (a : Nat → Nat) (v : VS) (p q m : Nat) (hp : p < 100) (hq : q < 100) (hm : m < 100) (hv : vN v ≤ 6) : kMi l g yX4_tellDebt cX4_tellDebt 4 .boolean (kw_rm 3 0 0) 0 0 [.ref (a 0), .int (nI (p)), .int (nI (q)), .int (nI (m))] (wV g a v) (fun r w => r = zI (tdOk v p q m) ∧ w = wV g a (if tdOk v p q m = true then tdV v p q m else v)) := by
  refine kMi_of (by decide +kernel) (Nat.le_of_ble_eq_true rfl) (fun x (X : kX l g RX4 cX4_tellDebt 4 (kw_rm 3 0 0) x) (Z : kZi .boolean _ 0 0 x) => ?_)
  show kW x 0 0 0 [(0, .ref (a 0)), (1, .int (nI (p))), (2, .int (nI (q))), (3, .int (nI (m)))] [] (wV g a v)
  refine kb_aload_n X 0 dX4_tellDebt_0 rfl rfl ?_
  refine kb_iload_n X 1 dX4_tellDebt_1 rfl rfl ?_
  refine kb_iload_n X 2 dX4_tellDebt_2 rfl rfl ?_
  refine kc_Vi X (As := [.int (nI (p)), .int (nI (q))]) (rest := []) (wr := []) (ct_X4_hasTwo l g a v (nI (p)) (nI (q)) ) dX4_tellDebt_3 rfl (kw_pall _) mc_X4_hasTwo kl_X4_56 mi_X4_hasTwo mv_X4_hasTwo kn_X4 0 rfl rfl rfl (na := 2) (by decide +kernel) rfl ⟨Nat.le_of_ble_eq_true rfl, Nat.le_of_ble_eq_true rfl⟩ ⟨rfl, rfl⟩ ⟨Nat.le_of_ble_eq_true rfl, Nat.le_of_ble_eq_true rfl⟩ (Nat.le_of_ble_eq_true rfl) (fun r_ w_ hp_ => ?_)
  obtain ⟨rfl, rfl⟩ := hp_
  refine kw_ws (List.append_nil _) ?_
  refine kz_if_eq (b := two (nI (p)) (nI (q)) (vN v)) (tgt := 15) X dX4_tellDebt_6 (by decide) (fun c1_ => ?_) (fun c1_ => ?_)
  · skip
    refine kb_iconst (v := (0 : Int32)) X dX4_tellDebt_15 (by decide) ?_
    refine ke_z X Z rfl dX4_tellDebt_16 ?_
    exact ⟨by simp [tdOk, zI, c1_] <;> omega, by rw [if_neg (by simp [tdOk, c1_] <;> omega)] <;> rfl⟩
  · skip
    obtain ⟨h1, h2, h3⟩ := two_t (by omega) (by omega) (by omega) c1_
    refine kb_iload_n X 3 dX4_tellDebt_9 rfl rfl ?_
    refine kb_bipush (v := (60 : Int32)) X dX4_tellDebt_10 (by decide) ?_
    refine kn_icmp_le (a := m) (b := 60) (tgt := 17) X (by omega) (by omega) dX4_tellDebt_12 (by decide) (fun c2_ => ?_) (fun c2_ => ?_)
    · skip
      refine kb_aload_n X 0 dX4_tellDebt_17 rfl rfl ?_
      refine kb_get (C := RX4) (T := TX4) (N := 11) (ci := 4) X kw_iX4 rfl 0 4 rfl (by decide) kf_X4_24 rfl rfl dX4_tellDebt_18 ?_
      refine kb_aload_n X 0 dX4_tellDebt_21 rfl rfl ?_
      refine kb_iload_n X 1 dX4_tellDebt_22 rfl rfl ?_
      refine kb_iload_n X 2 dX4_tellDebt_23 rfl rfl ?_
      refine kc_Vi X (As := [.int (nI (p)), .int (nI (q))]) (rest := [.ref (a 5)]) (wr := []) (ct_X4_cell l g a v p q ) dX4_tellDebt_24 rfl (kw_pall _) mc_X4_cell kl_X4_60 mi_X4_cell mv_X4_cell kn_X4 0 rfl rfl rfl (na := 2) (by decide +kernel) rfl ⟨Nat.le_of_ble_eq_true rfl, Nat.le_of_ble_eq_true rfl⟩ ⟨rfl, rfl⟩ ⟨Nat.le_of_ble_eq_true rfl, Nat.le_of_ble_eq_true rfl⟩ (Nat.le_of_ble_eq_true rfl) (fun r_ w_ hp_ => ?_)
      obtain ⟨rfl, rfl⟩ := hp_
      refine kw_ws (List.append_nil _) ?_
      refine kb_iload_n X 3 dX4_tellDebt_27 rfl rfl ?_
      refine kb_iast (i := p * 6 + q) X 5 rfl (by omega) (by decide) dX4_tellDebt_28 (ws' := wV g a (sD v (upd (vD v) (p * 6 + q) (nI (m))))) rfl ?_
      refine kb_iconst (v := (1 : Int32)) X dX4_tellDebt_29 (by decide) ?_
      refine ke_z X Z rfl dX4_tellDebt_30 ?_
      exact ⟨by simp [tdOk, zI, c1_, c2_] <;> omega, by rw [if_pos (by simp [tdOk, c1_, c2_] <;> omega)] <;> rfl⟩
    · skip
      refine kb_iconst (v := (0 : Int32)) X dX4_tellDebt_15 (by decide) ?_
      refine ke_z X Z rfl dX4_tellDebt_16 ?_
      exact ⟨by simp [tdOk, zI, c1_, c2_] <;> omega, by rw [if_neg (by simp [tdOk, c1_, c2_] <;> omega)] <;> rfl⟩

set_option maxHeartbeats 4000000 in
set_option maxRecDepth 100000 in
theorem ct_X4_tellTrialAge (l : Launch) (g : kw_G) (a : Nat → Nat) (v : VS) (p : Nat) (hp : p < 100) : kMi l g yX4_tellTrialAge cX4_tellTrialAge 2 .boolean (kw_rm 1 0 0) 0 0 [.ref (a 0), .int (nI (p))] (wV g a v) (fun r w => r = zI (decide (1 ≤ p)) ∧ w = wV g a (if 1 ≤ p then sG v (nI p) else v)) := by
  refine kMi_of (by decide +kernel) (Nat.le_of_ble_eq_true rfl) (fun x (X : kX l g RX4 cX4_tellTrialAge 2 (kw_rm 1 0 0) x) (Z : kZi .boolean _ 0 0 x) => ?_)
  show kW x 0 0 0 [(0, .ref (a 0)), (1, .int (nI (p)))] [] (wV g a v)
  refine kb_iload_n X 1 dX4_tellTrialAge_0 rfl rfl ?_
  refine kb_iconst (v := (1 : Int32)) X dX4_tellTrialAge_1 (by decide) ?_
  refine kn_icmp_ge (a := p) (b := 1) (tgt := 7) X (by omega) (by omega) dX4_tellTrialAge_2 (by decide) (fun c1_ => ?_) (fun c1_ => ?_)
  · skip
    refine kb_aload_n X 0 dX4_tellTrialAge_7 rfl rfl ?_
    refine kb_iload_n X 1 dX4_tellTrialAge_8 rfl rfl ?_
    refine kb_put X (C := RX4) (T := TX4) (N := 11) (ci := 4) (ty := .int) kw_iX4 tyX4 tyX4_ok nmX4 rfl 0 6 rfl (by decide) kf_X4_31 rfl rfl (by decide +kernel) rfl rfl (Nat.le_of_ble_eq_true rfl) dX4_tellTrialAge_9 (ws' := wV g a (sG v (nI (p)))) rfl ?_
    refine kb_iconst (v := (1 : Int32)) X dX4_tellTrialAge_12 (by decide) ?_
    refine ke_z X Z rfl dX4_tellTrialAge_13 ?_
    exact ⟨by simp [zI, c1_] <;> omega, by rw [if_pos (by omega)] <;> rfl⟩
  · skip
    refine kb_iconst (v := (0 : Int32)) X dX4_tellTrialAge_5 (by decide) ?_
    refine ke_z X Z rfl dX4_tellTrialAge_6 ?_
    exact ⟨by simp [zI, c1_] <;> omega, by rw [if_neg (by omega)] <;> rfl⟩
end
section
/-! the village's numbers -/
theorem gs_or {G i : Nat} (h : G < 2 ^ i) (hi : i < 31) : nI G ||| ((1 : Int32) <<< (nI i &&& 31)) = nI (G + 2 ^ i) := by
  rw [bit_in i hi, or_nI]
  congr 1
  have := Nat.two_pow_add_eq_or_of_lt h 1
  rw [Nat.mul_one] at this
  rw [Nat.or_comm, ← this, Nat.add_comm]
theorem wGs_lt (v : VS) (p : Nat) (b c : Int32) : ∀ i, wGs v p b c i < 2 ^ i
  | 0 => Nat.one_pos
  | i + 1 => by
    have h := wGs_lt v p b c i
    rw [wGs, Nat.pow_succ]
    split <;> omega
def wKeep (v w : VS) : Prop := vK w = vK v ∧ vA w = vA v ∧ vN w = vN v ∧ vG w = vG v ∧ vX w = vX v ∧ vH w = vH v ∧ vY w = vY v ∧ vZ w = vZ v
theorem wKeep_meet (v : VS) (p i : Nat) (cm : Bool) : wKeep v (wMeet v p i cm) := by cases cm <;> exact ⟨rfl, rfl, rfl, rfl, rfl, rfl, rfl, rfl⟩
theorem wKeep.trans {u v w : VS} (h : wKeep u v) (k : wKeep v w) : wKeep u w := ⟨k.1.trans h.1, k.2.1.trans h.2.1, k.2.2.1.trans h.2.2.1, k.2.2.2.1.trans h.2.2.2.1, k.2.2.2.2.1.trans h.2.2.2.2.1, k.2.2.2.2.2.1.trans h.2.2.2.2.2.1, k.2.2.2.2.2.2.1.trans h.2.2.2.2.2.2.1, k.2.2.2.2.2.2.2.trans h.2.2.2.2.2.2.2⟩
theorem wKeep_meets (v : VS) (p G : Nat) : ∀ i, wKeep v (wMeets v p G i)
  | 0 => ⟨rfl, rfl, rfl, rfl, rfl, rfl, rfl, rfl⟩
  | i + 1 => by
    rw [wMeets]
    split
    · exact (wKeep_meets v p G i).trans (wKeep_meet _ _ _ _)
    · exact wKeep_meets v p G i
theorem wKeep.VI {v w : VS} (h : wKeep v w) (hv : VI v) : VI w := ⟨by rw [h.2.2.1]; exact hv.1, by rw [h.2.2.2.2.1]; exact hv.2.1, by rw [h.2.2.2.2.2.1]; exact hv.2.2⟩
theorem gk_gt : ∀ k, k ≤ 10 → (5 < nI k - 4 ↔ 9 < k) := by decide +kernel
theorem gk_inc : ∀ k, k ≤ 10 → nI k - 4 + 1 = nI (k + 1) - 4 := by decide +kernel
theorem gk_sub0 : ∀ t, t < 10 → ∀ u, u < 11 → (nI (t + u) - 4) - (nI t - 4) = nI u := by decide +kernel
theorem gk_sub (t u : Nat) (h : t < 10) (h2 : u < 11) : (nI (t + u) - 4) - (nI t - 4) = nI u := gk_sub0 t h u h2
end
section
set_option maxHeartbeats 4000000 in
set_option maxRecDepth 100000 in
theorem ct_X4_coinsOfAll (l : Launch) (g : kw_G) (a : Nat → Nat) (v : VS) (hv : VI v) : kMi l g yX4_coinsOfAll cX4_coinsOfAll 3 .int (kw_rm 1 0 0) 0 0 [.ref (a 0)] (wV g a v) (fun r w => r = wSum (vC v) (vN v) ∧ w = wV g a v) := by
  refine kMi_of (by decide +kernel) (Nat.le_of_ble_eq_true rfl) (fun x (X : kX l g RX4 cX4_coinsOfAll 3 (kw_rm 1 0 0) x) (Z : kZi .int _ 0 0 x) => ?_)
  show kW x 0 0 0 [(0, .ref (a 0))] [] (wV g a v)
  have h6 := hv.1
  refine kb_iconst (v := (0 : Int32)) X dX4_coinsOfAll_0 (by decide) ?_
  refine kb_istore_n X [1, 0] dX4_coinsOfAll_1 rfl (by decide) (lv' := [(0, .ref (a 0)), (1, .int 0)]) rfl ?_
  refine kb_iconst (v := (0 : Int32)) X dX4_coinsOfAll_2 (by decide) ?_
  refine kb_istore_n X [1, 2, 0] dX4_coinsOfAll_3 rfl (by decide) (lv' := [(0, .ref (a 0)), (1, .int 0), (2, .int 0)]) rfl ?_
  have L4 : ∀ (K_ i : Nat), i + K_ = vN v → kW x 0 0 4 [(0, .ref (a 0)), (1, .int (wSum (vC v) i)), (2, .int (nI (i)))] [] (wV g a v) := by
    intro K_
    induction K_ with
    | zero =>
      intro i hi
      refine kb_iload_n X 2 dX4_coinsOfAll_4 rfl rfl ?_
      refine kb_aload_n X 0 dX4_coinsOfAll_5 rfl rfl ?_
      refine kb_get (C := RX4) (T := TX4) (N := 11) (ci := 4) X kw_iX4 rfl 0 5 rfl (by decide) kf_X4_27 rfl rfl dX4_coinsOfAll_6 ?_
      refine kn_icmp_ge (a := i) (b := vN v) (tgt := 27) X (by omega) (by omega) dX4_coinsOfAll_9 (by decide) (fun c1_ => ?_) (fun c1_ => ?_)
      · skip
        refine kb_iload_n X 1 dX4_coinsOfAll_27 rfl rfl ?_
        refine ke_i X Z dX4_coinsOfAll_28 ?_
        exact ⟨by rw [show i = vN v by omega], rfl⟩
      · skip
        omega
    | succ K_ ih =>
      intro i hi
      refine kb_iload_n X 2 dX4_coinsOfAll_4 rfl rfl ?_
      refine kb_aload_n X 0 dX4_coinsOfAll_5 rfl rfl ?_
      refine kb_get (C := RX4) (T := TX4) (N := 11) (ci := 4) X kw_iX4 rfl 0 5 rfl (by decide) kf_X4_27 rfl rfl dX4_coinsOfAll_6 ?_
      refine kn_icmp_ge (a := i) (b := vN v) (tgt := 27) X (by omega) (by omega) dX4_coinsOfAll_9 (by decide) (fun c2_ => ?_) (fun c2_ => ?_)
      · skip
        omega
      · skip
        refine kb_iload_n X 1 dX4_coinsOfAll_12 rfl rfl ?_
        refine kb_aload_n X 0 dX4_coinsOfAll_13 rfl rfl ?_
        refine kb_get (C := RX4) (T := TX4) (N := 11) (ci := 4) X kw_iX4 rfl 0 2 rfl (by decide) kf_X4_18 rfl rfl dX4_coinsOfAll_14 ?_
        refine kb_iload_n X 2 dX4_coinsOfAll_17 rfl rfl ?_
        refine kb_iald (i := i) X 3 rfl (by omega) (by decide) dX4_coinsOfAll_18 ?_
        refine kb_iadd X dX4_coinsOfAll_19 ?_
        refine kb_istore_n X [1, 0, 2] dX4_coinsOfAll_20 rfl (by decide) (lv' := [(0, .ref (a 0)), (1, .int ((wSum (vC v) i) + (vC v i))), (2, .int (nI (i)))]) rfl ?_
        refine kb_iinc X 2 [1, 2, 0] (v' := nI (i + 1)) dX4_coinsOfAll_21 rfl (nI_add _ _) (by decide) (lv' := [(0, .ref (a 0)), (1, .int ((wSum (vC v) i) + (vC v i))), (2, .int (nI (i + 1)))]) rfl ?_
        refine kb_goto (tgt := 4) X dX4_coinsOfAll_24 (by decide) ?_
        exact kw_to (ih (i + 1) (by omega)) rfl rfl rfl
  exact kw_to (L4 (vN v) 0 (by omega)) rfl rfl rfl

set_option maxHeartbeats 4000000 in
set_option maxRecDepth 100000 in
theorem ct_X4_debtsOfAll (l : Launch) (g : kw_G) (a : Nat → Nat) (v : VS) : kMi l g yX4_debtsOfAll cX4_debtsOfAll 3 .int (kw_rm 1 0 0) 0 0 [.ref (a 0)] (wV g a v) (fun r w => r = wSum (vD v) 36 ∧ w = wV g a v) := by
  refine kMi_of (by decide +kernel) (Nat.le_of_ble_eq_true rfl) (fun x (X : kX l g RX4 cX4_debtsOfAll 3 (kw_rm 1 0 0) x) (Z : kZi .int _ 0 0 x) => ?_)
  show kW x 0 0 0 [(0, .ref (a 0))] [] (wV g a v)
  refine kb_iconst (v := (0 : Int32)) X dX4_debtsOfAll_0 (by decide) ?_
  refine kb_istore_n X [1, 0] dX4_debtsOfAll_1 rfl (by decide) (lv' := [(0, .ref (a 0)), (1, .int 0)]) rfl ?_
  refine kb_iconst (v := (0 : Int32)) X dX4_debtsOfAll_2 (by decide) ?_
  refine kb_istore_n X [1, 2, 0] dX4_debtsOfAll_3 rfl (by decide) (lv' := [(0, .ref (a 0)), (1, .int 0), (2, .int 0)]) rfl ?_
  have L4 : ∀ (K_ i : Nat), i + K_ = 36 → kW x 0 0 4 [(0, .ref (a 0)), (1, .int (wSum (vD v) i)), (2, .int (nI (i)))] [] (wV g a v) := by
    intro K_
    induction K_ with
    | zero =>
      intro i hi
      refine kb_iload_n X 2 dX4_debtsOfAll_4 rfl rfl ?_
      refine kb_bipush (v := (36 : Int32)) X dX4_debtsOfAll_5 (by decide) ?_
      refine kn_icmp_ge (a := i) (b := 36) (tgt := 25) X (by omega) (by omega) dX4_debtsOfAll_7 (by decide) (fun c1_ => ?_) (fun c1_ => ?_)
      · skip
        refine kb_iload_n X 1 dX4_debtsOfAll_25 rfl rfl ?_
        refine ke_i X Z dX4_debtsOfAll_26 ?_
        exact ⟨by rw [show i = 36 by omega], rfl⟩
      · skip
        omega
    | succ K_ ih =>
      intro i hi
      refine kb_iload_n X 2 dX4_debtsOfAll_4 rfl rfl ?_
      refine kb_bipush (v := (36 : Int32)) X dX4_debtsOfAll_5 (by decide) ?_
      refine kn_icmp_ge (a := i) (b := 36) (tgt := 25) X (by omega) (by omega) dX4_debtsOfAll_7 (by decide) (fun c2_ => ?_) (fun c2_ => ?_)
      · skip
        omega
      · skip
        refine kb_iload_n X 1 dX4_debtsOfAll_10 rfl rfl ?_
        refine kb_aload_n X 0 dX4_debtsOfAll_11 rfl rfl ?_
        refine kb_get (C := RX4) (T := TX4) (N := 11) (ci := 4) X kw_iX4 rfl 0 4 rfl (by decide) kf_X4_24 rfl rfl dX4_debtsOfAll_12 ?_
        refine kb_iload_n X 2 dX4_debtsOfAll_15 rfl rfl ?_
        refine kb_iald (i := i) X 5 rfl (by omega) (by decide) dX4_debtsOfAll_16 ?_
        refine kb_iadd X dX4_debtsOfAll_17 ?_
        refine kb_istore_n X [1, 0, 2] dX4_debtsOfAll_18 rfl (by decide) (lv' := [(0, .ref (a 0)), (1, .int ((wSum (vD v) i) + (vD v i))), (2, .int (nI (i)))]) rfl ?_
        refine kb_iinc X 2 [1, 2, 0] (v' := nI (i + 1)) dX4_debtsOfAll_19 rfl (nI_add _ _) (by decide) (lv' := [(0, .ref (a 0)), (1, .int ((wSum (vD v) i) + (vD v i))), (2, .int (nI (i + 1)))]) rfl ?_
        refine kb_goto (tgt := 4) X dX4_debtsOfAll_22 (by decide) ?_
        exact kw_to (ih (i + 1) (by omega)) rfl rfl rfl
  exact kw_to (L4 (36) 0 (by omega)) rfl rfl rfl

set_option maxHeartbeats 4000000 in
set_option maxRecDepth 100000 in
theorem ct_X4_wouldCome (l : Launch) (g : kw_G) (a : Nat → Nat) (v : VS) (hv : VI v) (p : Nat) (kd tie : Int32) (q : Nat) (b c : Int32) (hp : p < 6) (hq : q < 6) : kMi l g yX4_wouldCome cX4_wouldCome 8 .boolean (kw_rm 3 0 0) 0 0 [.ref (a 0), .int (nI (p)), .int (kd), .int (tie), .int (nI (q)), .int (b), .int (c)] (wV g a v) (fun r w => r = zI (wCome v p kd tie q b c) ∧ w = wV g a v) := by
  refine kMi_of (by decide +kernel) (Nat.le_of_ble_eq_true rfl) (fun x (X : kX l g RX4 cX4_wouldCome 8 (kw_rm 3 0 0) x) (Z : kZi .boolean _ 0 0 x) => ?_)
  show kW x 0 0 0 [(0, .ref (a 0)), (1, .int (nI (p))), (2, .int (kd)), (3, .int (tie)), (4, .int (nI (q))), (5, .int (b)), (6, .int (c))] [] (wV g a v)
  refine kb_aload_n X 0 dX4_wouldCome_0 rfl rfl ?_
  refine kb_iload_n X 1 dX4_wouldCome_1 rfl rfl ?_
  refine kc_Vi X (As := [.int (nI (p))]) (rest := []) (wr := []) (ct_X4_lives l g a v hv p (by omega)) dX4_wouldCome_2 rfl (kw_pall _) mc_X4_lives kl_X4_71 mi_X4_lives mv_X4_lives kn_X4 0 rfl rfl rfl (na := 1) (by decide +kernel) rfl ⟨Nat.le_of_ble_eq_true rfl, Nat.le_of_ble_eq_true rfl⟩ ⟨rfl, rfl⟩ ⟨Nat.le_of_ble_eq_true rfl, Nat.le_of_ble_eq_true rfl⟩ (Nat.le_of_ble_eq_true rfl) (fun r_ w_ hp_ => ?_)
  obtain ⟨rfl, rfl⟩ := hp_
  refine kw_ws (List.append_nil _) ?_
  refine kz_if_ne (b := wLives v p) (tgt := 10) X dX4_wouldCome_5 (by decide) (fun c1_ => ?_) (fun c1_ => ?_)
  · skip
    refine kb_iload_n X 3 dX4_wouldCome_10 rfl rfl ?_
    refine kb_iload X 5 dX4_wouldCome_11 rfl ?_
    refine kb_iadd X dX4_wouldCome_13 ?_
    refine kb_istore X [1, 2, 3, 4, 5, 6, 7, 0] dX4_wouldCome_14 (by decide) (lv' := [(0, .ref (a 0)), (1, .int (nI (p))), (2, .int (kd)), (3, .int (tie)), (4, .int (nI (q))), (5, .int (b)), (6, .int (c)), (7, .int (tie + b))]) rfl ?_
    refine kb_iload_n X 2 dX4_wouldCome_16 rfl rfl ?_
    by_cases c2_ : kd = (1 : Int32)
    · refine kb_tabIn (tgt := 48) X 0 dX4_wouldCome_17 (by rw [c2_]; rfl) (by decide) rfl (by decide) ?_
      refine kb_iload_n X 3 dX4_wouldCome_48 rfl rfl ?_
      refine kb_if_lt (tgt := 58) X dX4_wouldCome_49 (by decide) (fun c3_ => ?_) (fun c3_ => ?_)
      · skip
        refine kb_iconst (v := (1 : Int32)) X dX4_wouldCome_58 (by decide) ?_
        refine kb_goto (tgt := 63) X dX4_wouldCome_59 (by decide) ?_
        refine ke_z X Z rfl dX4_wouldCome_63 ?_
        exact ⟨(by first | rfl | (simp [zI, wCome, c1_, c2_, c3_]; done) | (simp_all [zI, wCome, c1_, c2_, c3_]; done)), (by first | rfl | (simp [zI, wCome, c1_, c2_, c3_]; done) | (simp_all [zI, wCome, c1_, c2_, c3_]; done))⟩
      · skip
        refine kb_iload X 7 dX4_wouldCome_52 rfl ?_
        refine kb_iconst (v := (4 : Int32)) X dX4_wouldCome_54 (by decide) ?_
        refine kb_icmp_lt (tgt := 62) X dX4_wouldCome_55 (by decide) (fun c4_ => ?_) (fun c4_ => ?_)
        · skip
          refine kb_iconst (v := (0 : Int32)) X dX4_wouldCome_62 (by decide) ?_
          refine ke_z X Z rfl dX4_wouldCome_63 ?_
          exact ⟨(by first | rfl | (simp [zI, wCome, c1_, c2_, c3_, c4_]; done) | (simp_all [zI, wCome, c1_, c2_, c3_, c4_]; done)), (by first | rfl | (simp [zI, wCome, c1_, c2_, c3_, c4_]; done) | (simp_all [zI, wCome, c1_, c2_, c3_, c4_]; done))⟩
        · skip
          refine kb_iconst (v := (1 : Int32)) X dX4_wouldCome_58 (by decide) ?_
          refine kb_goto (tgt := 63) X dX4_wouldCome_59 (by decide) ?_
          refine ke_z X Z rfl dX4_wouldCome_63 ?_
          exact ⟨(by first | rfl | (simp [zI, wCome, c1_, c2_, c3_, c4_]; done) | (simp_all [zI, wCome, c1_, c2_, c3_, c4_]; done)), (by first | rfl | (simp [zI, wCome, c1_, c2_, c3_, c4_]; done) | (simp_all [zI, wCome, c1_, c2_, c3_, c4_]; done))⟩
    · skip
      by_cases c5_ : kd = (2 : Int32)
      · refine kb_tabIn (tgt := 64) X 1 dX4_wouldCome_17 (by rw [c5_]; rfl) (by decide) rfl (by decide) ?_
        refine kb_iload X 6 dX4_wouldCome_64 rfl ?_
        refine kb_if_gt (tgt := 75) X dX4_wouldCome_66 (by decide) (fun c6_ => ?_) (fun c6_ => ?_)
        · skip
          refine kb_iconst (v := (1 : Int32)) X dX4_wouldCome_75 (by decide) ?_
          refine kb_goto (tgt := 80) X dX4_wouldCome_76 (by decide) ?_
          refine ke_z X Z rfl dX4_wouldCome_80 ?_
          exact ⟨(by first | rfl | (simp [zI, wCome, c1_, c2_, c5_, c6_]; done) | (simp_all [zI, wCome, c1_, c2_, c5_, c6_]; done)), (by first | rfl | (simp [zI, wCome, c1_, c2_, c5_, c6_]; done) | (simp_all [zI, wCome, c1_, c2_, c5_, c6_]; done))⟩
        · skip
          refine kb_iload X 7 dX4_wouldCome_69 rfl ?_
          refine kb_iconst (v := (2 : Int32)) X dX4_wouldCome_71 (by decide) ?_
          refine kb_icmp_lt (tgt := 79) X dX4_wouldCome_72 (by decide) (fun c7_ => ?_) (fun c7_ => ?_)
          · skip
            refine kb_iconst (v := (0 : Int32)) X dX4_wouldCome_79 (by decide) ?_
            refine ke_z X Z rfl dX4_wouldCome_80 ?_
            exact ⟨(by first | rfl | (simp [zI, wCome, c1_, c2_, c5_, c6_, c7_]; done) | (simp_all [zI, wCome, c1_, c2_, c5_, c6_, c7_]; done)), (by first | rfl | (simp [zI, wCome, c1_, c2_, c5_, c6_, c7_]; done) | (simp_all [zI, wCome, c1_, c2_, c5_, c6_, c7_]; done))⟩
          · skip
            refine kb_iconst (v := (1 : Int32)) X dX4_wouldCome_75 (by decide) ?_
            refine kb_goto (tgt := 80) X dX4_wouldCome_76 (by decide) ?_
            refine ke_z X Z rfl dX4_wouldCome_80 ?_
            exact ⟨(by first | rfl | (simp [zI, wCome, c1_, c2_, c5_, c6_, c7_]; done) | (simp_all [zI, wCome, c1_, c2_, c5_, c6_, c7_]; done)), (by first | rfl | (simp [zI, wCome, c1_, c2_, c5_, c6_, c7_]; done) | (simp_all [zI, wCome, c1_, c2_, c5_, c6_, c7_]; done))⟩
      · skip
        by_cases c8_ : kd = (3 : Int32)
        · refine kb_tabIn (tgt := 81) X 2 dX4_wouldCome_17 (by rw [c8_]; rfl) (by decide) rfl (by decide) ?_
          refine kb_aload_n X 0 dX4_wouldCome_81 rfl rfl ?_
          refine kb_get (C := RX4) (T := TX4) (N := 11) (ci := 4) X kw_iX4 rfl 0 10 rfl (by decide) kf_X4_43 rfl rfl dX4_wouldCome_82 ?_
          refine kb_if_ne (tgt := 98) X dX4_wouldCome_85 (by decide) (fun c9_ => ?_) (fun c9_ => ?_)
          · skip
            refine kb_iconst (v := (0 : Int32)) X dX4_wouldCome_98 (by decide) ?_
            refine ke_z X Z rfl dX4_wouldCome_99 ?_
            exact ⟨(by first | rfl | (simp [zI, wCome, c1_, c2_, c5_, c8_, c9_]; done) | (simp_all [zI, wCome, c1_, c2_, c5_, c8_, c9_]; done)), (by first | rfl | (simp [zI, wCome, c1_, c2_, c5_, c8_, c9_]; done) | (simp_all [zI, wCome, c1_, c2_, c5_, c8_, c9_]; done))⟩
          · skip
            refine kb_iload X 7 dX4_wouldCome_88 rfl ?_
            refine kb_iconst (v := (2 : Int32)) X dX4_wouldCome_90 (by decide) ?_
            refine kb_icmp_lt (tgt := 98) X dX4_wouldCome_91 (by decide) (fun c10_ => ?_) (fun c10_ => ?_)
            · skip
              refine kb_iconst (v := (0 : Int32)) X dX4_wouldCome_98 (by decide) ?_
              refine ke_z X Z rfl dX4_wouldCome_99 ?_
              exact ⟨(by first | rfl | (simp [zI, wCome, c1_, c2_, c5_, c8_, c9_, c10_]; done) | (simp_all [zI, wCome, c1_, c2_, c5_, c8_, c9_, c10_]; done)), (by first | rfl | (simp [zI, wCome, c1_, c2_, c5_, c8_, c9_, c10_]; done) | (simp_all [zI, wCome, c1_, c2_, c5_, c8_, c9_, c10_]; done))⟩
            · skip
              refine kb_iconst (v := (1 : Int32)) X dX4_wouldCome_94 (by decide) ?_
              refine kb_goto (tgt := 99) X dX4_wouldCome_95 (by decide) ?_
              refine ke_z X Z rfl dX4_wouldCome_99 ?_
              exact ⟨(by first | rfl | (simp [zI, wCome, c1_, c2_, c5_, c8_, c9_, c10_]; done) | (simp_all [zI, wCome, c1_, c2_, c5_, c8_, c9_, c10_]; done)), (by first | rfl | (simp [zI, wCome, c1_, c2_, c5_, c8_, c9_, c10_]; done) | (simp_all [zI, wCome, c1_, c2_, c5_, c8_, c9_, c10_]; done))⟩
        · skip
          by_cases c11_ : kd = (4 : Int32)
          · refine kb_tabIn (tgt := 100) X 3 dX4_wouldCome_17 (by rw [c11_]; rfl) (by decide) rfl (by decide) ?_
            refine kb_aload_n X 0 dX4_wouldCome_100 rfl rfl ?_
            refine kb_iload_n X 1 dX4_wouldCome_101 rfl rfl ?_
            refine kb_iload X 4 dX4_wouldCome_102 rfl ?_
            refine kc_Vi X (As := [.int (nI (p)), .int (nI (q))]) (rest := []) (wr := []) (ct_X4_debtOf l g a v p q (by omega) (by omega)) dX4_wouldCome_104 rfl (kw_pall _) mc_X4_debtOf kl_X4_74 mi_X4_debtOf mv_X4_debtOf kn_X4 0 rfl rfl rfl (na := 2) (by decide +kernel) rfl ⟨Nat.le_of_ble_eq_true rfl, Nat.le_of_ble_eq_true rfl⟩ ⟨rfl, rfl⟩ ⟨Nat.le_of_ble_eq_true rfl, Nat.le_of_ble_eq_true rfl⟩ (Nat.le_of_ble_eq_true rfl) (fun r_ w_ hp_ => ?_)
            obtain ⟨rfl, rfl⟩ := hp_
            refine kw_ws (List.append_nil _) ?_
            refine kb_if_ne (tgt := 120) X dX4_wouldCome_107 (by decide) (fun c12_ => ?_) (fun c12_ => ?_)
            · skip
              refine kb_iconst (v := (0 : Int32)) X dX4_wouldCome_120 (by decide) ?_
              refine ke_z X Z rfl dX4_wouldCome_121 ?_
              exact ⟨(by first | rfl | (simp [zI, wCome, c1_, c2_, c5_, c8_, c11_, c12_]; done) | (simp_all [zI, wCome, c1_, c2_, c5_, c8_, c11_, c12_]; done)), (by first | rfl | (simp [zI, wCome, c1_, c2_, c5_, c8_, c11_, c12_]; done) | (simp_all [zI, wCome, c1_, c2_, c5_, c8_, c11_, c12_]; done))⟩
            · skip
              refine kb_iload X 7 dX4_wouldCome_110 rfl ?_
              refine kb_iconst (v := (1 : Int32)) X dX4_wouldCome_112 (by decide) ?_
              refine kb_icmp_lt (tgt := 120) X dX4_wouldCome_113 (by decide) (fun c13_ => ?_) (fun c13_ => ?_)
              · skip
                refine kb_iconst (v := (0 : Int32)) X dX4_wouldCome_120 (by decide) ?_
                refine ke_z X Z rfl dX4_wouldCome_121 ?_
                exact ⟨(by first | rfl | (simp [zI, wCome, c1_, c2_, c5_, c8_, c11_, c12_, c13_]; done) | (simp_all [zI, wCome, c1_, c2_, c5_, c8_, c11_, c12_, c13_]; done)), (by first | rfl | (simp [zI, wCome, c1_, c2_, c5_, c8_, c11_, c12_, c13_]; done) | (simp_all [zI, wCome, c1_, c2_, c5_, c8_, c11_, c12_, c13_]; done))⟩
              · skip
                refine kb_iconst (v := (1 : Int32)) X dX4_wouldCome_116 (by decide) ?_
                refine kb_goto (tgt := 121) X dX4_wouldCome_117 (by decide) ?_
                refine ke_z X Z rfl dX4_wouldCome_121 ?_
                exact ⟨(by first | rfl | (simp [zI, wCome, c1_, c2_, c5_, c8_, c11_, c12_, c13_]; done) | (simp_all [zI, wCome, c1_, c2_, c5_, c8_, c11_, c12_, c13_]; done)), (by first | rfl | (simp [zI, wCome, c1_, c2_, c5_, c8_, c11_, c12_, c13_]; done) | (simp_all [zI, wCome, c1_, c2_, c5_, c8_, c11_, c12_, c13_]; done))⟩
          · skip
            have tc2_ := lv_neT (a := 1) c2_ rfl
            have tc5_ := lv_neT (a := 2) c5_ rfl
            have tc8_ := lv_neT (a := 3) c8_ rfl
            have tc11_ := lv_neT (a := 4) c11_ rfl
            refine kb_tabOut (tgt := 122) X dX4_wouldCome_17 (by omega) (by decide) ?_
            refine kb_iload X 7 dX4_wouldCome_122 rfl ?_
            refine kb_iconst (v := (2 : Int32)) X dX4_wouldCome_124 (by decide) ?_
            refine kb_icmp_lt (tgt := 132) X dX4_wouldCome_125 (by decide) (fun c14_ => ?_) (fun c14_ => ?_)
            · skip
              refine kb_iconst (v := (0 : Int32)) X dX4_wouldCome_132 (by decide) ?_
              refine ke_z X Z rfl dX4_wouldCome_133 ?_
              exact ⟨(by first | rfl | (simp [zI, wCome, c1_, c2_, c5_, c8_, c11_, c14_]; done) | (simp_all [zI, wCome, c1_, c2_, c5_, c8_, c11_, c14_]; done)), (by first | rfl | (simp [zI, wCome, c1_, c2_, c5_, c8_, c11_, c14_]; done) | (simp_all [zI, wCome, c1_, c2_, c5_, c8_, c11_, c14_]; done))⟩
            · skip
              refine kb_iconst (v := (1 : Int32)) X dX4_wouldCome_128 (by decide) ?_
              refine kb_goto (tgt := 133) X dX4_wouldCome_129 (by decide) ?_
              refine ke_z X Z rfl dX4_wouldCome_133 ?_
              exact ⟨(by first | rfl | (simp [zI, wCome, c1_, c2_, c5_, c8_, c11_, c14_]; done) | (simp_all [zI, wCome, c1_, c2_, c5_, c8_, c11_, c14_]; done)), (by first | rfl | (simp [zI, wCome, c1_, c2_, c5_, c8_, c11_, c14_]; done) | (simp_all [zI, wCome, c1_, c2_, c5_, c8_, c11_, c14_]; done))⟩
  · skip
    refine kb_iconst (v := (0 : Int32)) X dX4_wouldCome_8 (by decide) ?_
    refine ke_z X Z rfl dX4_wouldCome_9 ?_
    exact ⟨(by first | rfl | (simp [zI, wCome, c1_]; done) | (simp_all [zI, wCome, c1_]; done)), (by first | rfl | (simp [zI, wCome, c1_]; done) | (simp_all [zI, wCome, c1_]; done))⟩

set_option maxHeartbeats 4000000 in
set_option maxRecDepth 100000 in
theorem ct_X4_guestsOf (l : Launch) (g : kw_G) (a : Nat → Nat) (v : VS) (hv : VI v) (p : Nat) (b c : Int32) (hp : p < 6) : kMi l g yX4_guestsOf cX4_guestsOf 6 .int (kw_rm 4 0 0) 0 0 [.ref (a 0), .int (nI (p)), .int (b), .int (c)] (wV g a v) (fun r w => r = nI (wGuests v p b c) ∧ w = wV g a v) := by
  refine kMi_of (by decide +kernel) (Nat.le_of_ble_eq_true rfl) (fun x (X : kX l g RX4 cX4_guestsOf 6 (kw_rm 4 0 0) x) (Z : kZi .int _ 0 0 x) => ?_)
  show kW x 0 0 0 [(0, .ref (a 0)), (1, .int (nI (p))), (2, .int (b)), (3, .int (c))] [] (wV g a v)
  have h6 := hv.1
  refine kb_iconst (v := (0 : Int32)) X dX4_guestsOf_0 (by decide) ?_
  refine kb_istore X [1, 2, 3, 4, 0] dX4_guestsOf_1 (by decide) (lv' := [(0, .ref (a 0)), (1, .int (nI (p))), (2, .int (b)), (3, .int (c)), (4, .int 0)]) rfl ?_
  refine kb_iconst (v := (0 : Int32)) X dX4_guestsOf_3 (by decide) ?_
  refine kb_istore X [1, 2, 3, 4, 5, 0] dX4_guestsOf_4 (by decide) (lv' := [(0, .ref (a 0)), (1, .int (nI (p))), (2, .int (b)), (3, .int (c)), (4, .int 0), (5, .int 0)]) rfl ?_
  have L6 : ∀ (K_ i : Nat), i + K_ = vN v → kW x 0 0 6 [(0, .ref (a 0)), (1, .int (nI (p))), (2, .int (b)), (3, .int (c)), (4, .int (nI (wGs v p b c i))), (5, .int (nI (i)))] [] (wV g a v) := by
    intro K_
    induction K_ with
    | zero =>
      intro i hi
      refine kb_iload X 5 dX4_guestsOf_6 rfl ?_
      refine kb_aload_n X 0 dX4_guestsOf_8 rfl rfl ?_
      refine kb_get (C := RX4) (T := TX4) (N := 11) (ci := 4) X kw_iX4 rfl 0 5 rfl (by decide) kf_X4_27 rfl rfl dX4_guestsOf_9 ?_
      refine kn_icmp_ge (a := i) (b := vN v) (tgt := 62) X (by omega) (by omega) dX4_guestsOf_12 (by decide) (fun c1_ => ?_) (fun c1_ => ?_)
      · skip
        refine kb_iload X 4 dX4_guestsOf_62 rfl ?_
        refine ke_i X Z dX4_guestsOf_64 ?_
        exact ⟨by rw [wGuests, show i = vN v by omega], rfl⟩
      · skip
        omega
    | succ K_ ih =>
      intro i hi
      refine kb_iload X 5 dX4_guestsOf_6 rfl ?_
      refine kb_aload_n X 0 dX4_guestsOf_8 rfl rfl ?_
      refine kb_get (C := RX4) (T := TX4) (N := 11) (ci := 4) X kw_iX4 rfl 0 5 rfl (by decide) kf_X4_27 rfl rfl dX4_guestsOf_9 ?_
      refine kn_icmp_ge (a := i) (b := vN v) (tgt := 62) X (by omega) (by omega) dX4_guestsOf_12 (by decide) (fun c2_ => ?_) (fun c2_ => ?_)
      · skip
        omega
      · skip
        refine kb_iload X 5 dX4_guestsOf_15 rfl ?_
        refine kb_iload_n X 1 dX4_guestsOf_17 rfl rfl ?_
        refine kn_icmp_eq (a := i) (b := p) (tgt := 56) X (by omega) (by omega) dX4_guestsOf_18 (by decide) (fun c3_ => ?_) (fun c3_ => ?_)
        · skip
          refine kb_iinc X 5 [1, 2, 3, 4, 5, 0] (v' := nI (i + 1)) dX4_guestsOf_56 rfl (nI_add _ _) (by decide) (lv' := [(0, .ref (a 0)), (1, .int (nI (p))), (2, .int (b)), (3, .int (c)), (4, .int (nI (wGs v p b c i))), (5, .int (nI (i + 1)))]) rfl ?_
          refine kb_goto (tgt := 6) X dX4_guestsOf_59 (by decide) ?_
          exact kw_to (ih (i + 1) (by omega)) (by simp [wGs, wCm, c2_, c3_]) rfl rfl
        · skip
          refine kb_aload_n X 0 dX4_guestsOf_21 rfl rfl ?_
          refine kb_iload X 5 dX4_guestsOf_22 rfl ?_
          refine kb_aload_n X 0 dX4_guestsOf_24 rfl rfl ?_
          refine kb_get (C := RX4) (T := TX4) (N := 11) (ci := 4) X kw_iX4 rfl 0 0 rfl (by decide) kf_X4_9 rfl rfl dX4_guestsOf_25 ?_
          refine kb_iload X 5 dX4_guestsOf_28 rfl ?_
          refine kb_iald (i := i) X 1 rfl (by omega) (by decide) dX4_guestsOf_30 ?_
          refine kb_aload_n X 0 dX4_guestsOf_31 rfl rfl ?_
          refine kb_iload X 5 dX4_guestsOf_32 rfl ?_
          refine kb_iload_n X 1 dX4_guestsOf_34 rfl rfl ?_
          refine kc_Vi X (As := [.int (nI (i)), .int (nI (p))]) (rest := [.int (vK v i), .int (nI (i)), .ref (a 0)]) (wr := []) (ct_X4_tieOf l g a v i p (by omega) (by omega)) dX4_guestsOf_35 rfl (kw_pall _) mc_X4_tieOf kl_X4_77 mi_X4_tieOf mv_X4_tieOf kn_X4 0 rfl rfl rfl (na := 2) (by decide +kernel) rfl ⟨Nat.le_of_ble_eq_true rfl, Nat.le_of_ble_eq_true rfl⟩ ⟨rfl, rfl⟩ ⟨Nat.le_of_ble_eq_true rfl, Nat.le_of_ble_eq_true rfl⟩ (Nat.le_of_ble_eq_true rfl) (fun r_ w_ hp_ => ?_)
          obtain ⟨rfl, rfl⟩ := hp_
          refine kw_ws (List.append_nil _) ?_
          refine kb_iload_n X 1 dX4_guestsOf_38 rfl rfl ?_
          refine kb_iload_n X 2 dX4_guestsOf_39 rfl rfl ?_
          refine kb_iload_n X 3 dX4_guestsOf_40 rfl rfl ?_
          refine kc_Vi X (As := [.int (nI (i)), .int (vK v i), .int (vT v (i * 6 + p)), .int (nI (p)), .int (b), .int (c)]) (rest := []) (wr := []) (ct_X4_wouldCome l g a v hv i (vK v i) (vT v (i * 6 + p)) p b c (by omega) (by omega)) dX4_guestsOf_41 rfl (kw_pall _) mc_X4_wouldCome kl_X4_80 mi_X4_wouldCome mv_X4_wouldCome kn_X4 0 rfl rfl rfl (na := 6) (by decide +kernel) rfl ⟨Nat.le_of_ble_eq_true rfl, Nat.le_of_ble_eq_true rfl⟩ ⟨rfl, rfl⟩ ⟨Nat.le_of_ble_eq_true rfl, Nat.le_of_ble_eq_true rfl⟩ (Nat.le_of_ble_eq_true rfl) (fun r_ w_ hp_ => ?_)
          obtain ⟨rfl, rfl⟩ := hp_
          refine kw_ws (List.append_nil _) ?_
          refine kz_if_eq (b := wCome v i (vK v i) (vT v (i * 6 + p)) p b c) (tgt := 56) X dX4_guestsOf_44 (by decide) (fun c4_ => ?_) (fun c4_ => ?_)
          · skip
            refine kb_iinc X 5 [1, 2, 3, 4, 5, 0] (v' := nI (i + 1)) dX4_guestsOf_56 rfl (nI_add _ _) (by decide) (lv' := [(0, .ref (a 0)), (1, .int (nI (p))), (2, .int (b)), (3, .int (c)), (4, .int (nI (wGs v p b c i))), (5, .int (nI (i + 1)))]) rfl ?_
            refine kb_goto (tgt := 6) X dX4_guestsOf_59 (by decide) ?_
            exact kw_to (ih (i + 1) (by omega)) (by simp [wGs, wCm, c2_, c3_, c4_]) rfl rfl
          · skip
            refine kb_iload X 4 dX4_guestsOf_47 rfl ?_
            refine kb_iconst (v := (1 : Int32)) X dX4_guestsOf_49 (by decide) ?_
            refine kb_iload X 5 dX4_guestsOf_50 rfl ?_
            refine kb_ishl X dX4_guestsOf_52 ?_
            refine kb_ior X dX4_guestsOf_53 ?_
            refine kw_top (b := .int (nI (wGs v p b c i + 2 ^ i))) (by rw [gs_or (wGs_lt v p b c i) (by omega)]) ?_
            refine kb_istore X [1, 2, 3, 4, 0, 5] dX4_guestsOf_54 (by decide) (lv' := [(0, .ref (a 0)), (1, .int (nI (p))), (2, .int (b)), (3, .int (c)), (4, .int (nI (wGs v p b c i + 2 ^ i))), (5, .int (nI (i)))]) rfl ?_
            refine kb_iinc X 5 [1, 2, 3, 4, 5, 0] (v' := nI (i + 1)) dX4_guestsOf_56 rfl (nI_add _ _) (by decide) (lv' := [(0, .ref (a 0)), (1, .int (nI (p))), (2, .int (b)), (3, .int (c)), (4, .int (nI (wGs v p b c i + 2 ^ i))), (5, .int (nI (i + 1)))]) rfl ?_
            refine kb_goto (tgt := 6) X dX4_guestsOf_59 (by decide) ?_
            exact kw_to (ih (i + 1) (by omega)) (by simp [wGs, wCm, c2_, c3_, c4_]) rfl rfl
  exact kw_to (L6 (vN v) 0 (by omega)) rfl rfl rfl

set_option maxHeartbeats 4000000 in
set_option maxRecDepth 100000 in
theorem ct_X4_giftsUntilComing (l : Launch) (g : kw_G) (a : Nat → Nat) (v : VS) (hv : VI v) (p q : Nat) (b c : Int32) (hp : p < 6) (hq : q < 6) (t : Nat) (ht : t ≤ 9) (e : vT v (p * 6 + q) = nI t - 4) : kMi l g yX4_giftsUntilComing cX4_giftsUntilComing 7 .int (kw_rm 4 0 0) 0 0 [.ref (a 0), .int (nI (p)), .int (nI (q)), .int (b), .int (c)] (wV g a v) (fun r w => r = wGf v p q b c t (10 - t) 0 ∧ w = wV g a v) := by
  refine kMi_of (by decide +kernel) (Nat.le_of_ble_eq_true rfl) (fun x (X : kX l g RX4 cX4_giftsUntilComing 7 (kw_rm 4 0 0) x) (Z : kZi .int _ 0 0 x) => ?_)
  show kW x 0 0 0 [(0, .ref (a 0)), (1, .int (nI (p))), (2, .int (nI (q))), (3, .int (b)), (4, .int (c))] [] (wV g a v)
  refine kb_aload_n X 0 dX4_giftsUntilComing_0 rfl rfl ?_
  refine kb_iload_n X 1 dX4_giftsUntilComing_1 rfl rfl ?_
  refine kb_iload_n X 2 dX4_giftsUntilComing_2 rfl rfl ?_
  refine kc_Vi X (As := [.int (nI (p)), .int (nI (q))]) (rest := []) (wr := []) (ct_X4_tieOf l g a v p q (by omega) (by omega)) dX4_giftsUntilComing_3 rfl (kw_pall _) mc_X4_tieOf kl_X4_77 mi_X4_tieOf mv_X4_tieOf kn_X4 0 rfl rfl rfl (na := 2) (by decide +kernel) rfl ⟨Nat.le_of_ble_eq_true rfl, Nat.le_of_ble_eq_true rfl⟩ ⟨rfl, rfl⟩ ⟨Nat.le_of_ble_eq_true rfl, Nat.le_of_ble_eq_true rfl⟩ (Nat.le_of_ble_eq_true rfl) (fun r_ w_ hp_ => ?_)
  obtain ⟨rfl, rfl⟩ := hp_
  refine kw_ws (List.append_nil _) ?_
  refine kw_top (b := .int (nI t - 4)) (by rw [e]) ?_
  refine kb_istore X [1, 2, 3, 4, 5, 0] dX4_giftsUntilComing_6 (by decide) (lv' := [(0, .ref (a 0)), (1, .int (nI (p))), (2, .int (nI (q))), (3, .int (b)), (4, .int (c)), (5, .int (nI t - 4))]) rfl ?_
  refine kb_iload X 5 dX4_giftsUntilComing_8 rfl ?_
  refine kb_istore X [1, 2, 3, 4, 5, 6, 0] dX4_giftsUntilComing_10 (by decide) (lv' := [(0, .ref (a 0)), (1, .int (nI (p))), (2, .int (nI (q))), (3, .int (b)), (4, .int (c)), (5, .int (nI t - 4)), (6, .int (nI t - 4))]) rfl ?_
  have L12 : ∀ (K_ u : Nat), t + u + K_ = 10 ∧ wGf v p q b c t (10 - t) 0 = wGf v p q b c t K_ u → kW x 0 0 12 [(0, .ref (a 0)), (1, .int (nI (p))), (2, .int (nI (q))), (3, .int (b)), (4, .int (c)), (5, .int (nI t - 4)), (6, .int (nI (t + u) - 4))] [] (wV g a v) := by
    intro K_
    induction K_ with
    | zero =>
      intro u hu
      obtain ⟨hu1, hu2⟩ := id hu
      refine kb_iload X 6 dX4_giftsUntilComing_12 rfl ?_
      refine kb_iconst (v := (5 : Int32)) X dX4_giftsUntilComing_14 (by decide) ?_
      refine kb_icmp_gt (tgt := 50) X dX4_giftsUntilComing_15 (by decide) (fun c1_ => ?_) (fun c1_ => ?_)
      · skip
        have d_ := (gk_gt (t + u) (by omega)).mp c1_
        refine kb_bipush (v := (-4 : Int32)) X dX4_giftsUntilComing_50 (by decide) ?_
        refine ke_i X Z dX4_giftsUntilComing_52 ?_
        exact ⟨by rw [hu2]; rfl, rfl⟩
      · skip
        have d_ := mt (gk_gt (t + u) (by omega)).mpr c1_
        omega
    | succ K_ ih =>
      intro u hu
      obtain ⟨hu1, hu2⟩ := id hu
      refine kb_iload X 6 dX4_giftsUntilComing_12 rfl ?_
      refine kb_iconst (v := (5 : Int32)) X dX4_giftsUntilComing_14 (by decide) ?_
      refine kb_icmp_gt (tgt := 50) X dX4_giftsUntilComing_15 (by decide) (fun c2_ => ?_) (fun c2_ => ?_)
      · skip
        have d_ := (gk_gt (t + u) (by omega)).mp c2_
        omega
      · skip
        have d_ := mt (gk_gt (t + u) (by omega)).mpr c2_
        refine kb_aload_n X 0 dX4_giftsUntilComing_18 rfl rfl ?_
        refine kb_iload_n X 1 dX4_giftsUntilComing_19 rfl rfl ?_
        refine kb_aload_n X 0 dX4_giftsUntilComing_20 rfl rfl ?_
        refine kb_get (C := RX4) (T := TX4) (N := 11) (ci := 4) X kw_iX4 rfl 0 0 rfl (by decide) kf_X4_9 rfl rfl dX4_giftsUntilComing_21 ?_
        refine kb_iload_n X 1 dX4_giftsUntilComing_24 rfl rfl ?_
        refine kb_iald (i := p) X 1 rfl (by omega) (by decide) dX4_giftsUntilComing_25 ?_
        refine kb_iload X 6 dX4_giftsUntilComing_26 rfl ?_
        refine kb_iload_n X 2 dX4_giftsUntilComing_28 rfl rfl ?_
        refine kb_iload_n X 3 dX4_giftsUntilComing_29 rfl rfl ?_
        refine kb_iload X 4 dX4_giftsUntilComing_30 rfl ?_
        refine kc_Vi X (As := [.int (nI (p)), .int (vK v p), .int (nI (t + u) - 4), .int (nI (q)), .int (b), .int (c)]) (rest := []) (wr := []) (ct_X4_wouldCome l g a v hv p (vK v p) (nI (t + u) - 4) q b c (by omega) (by omega)) dX4_giftsUntilComing_32 rfl (kw_pall _) mc_X4_wouldCome kl_X4_80 mi_X4_wouldCome mv_X4_wouldCome kn_X4 0 rfl rfl rfl (na := 6) (by decide +kernel) rfl ⟨Nat.le_of_ble_eq_true rfl, Nat.le_of_ble_eq_true rfl⟩ ⟨rfl, rfl⟩ ⟨Nat.le_of_ble_eq_true rfl, Nat.le_of_ble_eq_true rfl⟩ (Nat.le_of_ble_eq_true rfl) (fun r_ w_ hp_ => ?_)
        obtain ⟨rfl, rfl⟩ := hp_
        refine kw_ws (List.append_nil _) ?_
        refine kz_if_eq (b := wCome v p (vK v p) (nI (t + u) - 4) q b c) (tgt := 44) X dX4_giftsUntilComing_35 (by decide) (fun c3_ => ?_) (fun c3_ => ?_)
        · skip
          refine kb_iinc X 6 [1, 2, 3, 4, 5, 6, 0] (v' := (nI (t + u) - 4) + (1 : Int32)) dX4_giftsUntilComing_44 rfl rfl (by decide) (lv' := [(0, .ref (a 0)), (1, .int (nI (p))), (2, .int (nI (q))), (3, .int (b)), (4, .int (c)), (5, .int (nI t - 4)), (6, .int ((nI (t + u) - 4) + (1 : Int32)))]) rfl ?_
          refine kw_lv (lv' := [(0, .ref (a 0)), (1, .int (nI (p))), (2, .int (nI (q))), (3, .int (b)), (4, .int (c)), (5, .int (nI t - 4)), (6, .int (nI (t + (u + 1)) - 4))]) (by rw [gk_inc (t + u) (by omega), Nat.add_assoc]) ?_
          refine kb_goto (tgt := 12) X dX4_giftsUntilComing_47 (by decide) ?_
          exact kw_to (ih (u + 1) ⟨by omega, by rw [hu2, wGf, if_neg (by simp [c2_, c3_])]⟩) rfl rfl rfl
        · skip
          refine kb_iload X 6 dX4_giftsUntilComing_38 rfl ?_
          refine kb_iload X 5 dX4_giftsUntilComing_40 rfl ?_
          refine kb_isub X dX4_giftsUntilComing_42 ?_
          refine ke_i X Z dX4_giftsUntilComing_43 ?_
          exact ⟨by rw [hu2, wGf, if_pos (by simp [c2_, c3_]), gk_sub t u (by omega) (by omega)], rfl⟩
  exact kw_to (L12 (10 - t) 0 ⟨by omega, rfl⟩) rfl rfl rfl

set_option maxHeartbeats 4000000 in
set_option maxRecDepth 100000 in
theorem ct_X4_isDueForTrial (l : Launch) (g : kw_G) (a : Nat → Nat) (v : VS) (hv : VI v) (p : Nat) (hp : p < 6) : kMi l g yX4_isDueForTrial cX4_isDueForTrial 2 .boolean (kw_rm 3 0 0) 0 0 [.ref (a 0), .int (nI (p))] (wV g a v) (fun r w => r = zI (wDue v p) ∧ w = wV g a v) := by
  refine kMi_of (by decide +kernel) (Nat.le_of_ble_eq_true rfl) (fun x (X : kX l g RX4 cX4_isDueForTrial 2 (kw_rm 3 0 0) x) (Z : kZi .boolean _ 0 0 x) => ?_)
  show kW x 0 0 0 [(0, .ref (a 0)), (1, .int (nI (p)))] [] (wV g a v)
  refine kb_aload_n X 0 dX4_isDueForTrial_0 rfl rfl ?_
  refine kb_iload_n X 1 dX4_isDueForTrial_1 rfl rfl ?_
  refine kc_Vi X (As := [.int (nI (p))]) (rest := []) (wr := []) (ct_X4_lives l g a v hv p (by omega)) dX4_isDueForTrial_2 rfl (kw_pall _) mc_X4_lives kl_X4_71 mi_X4_lives mv_X4_lives kn_X4 0 rfl rfl rfl (na := 1) (by decide +kernel) rfl ⟨Nat.le_of_ble_eq_true rfl, Nat.le_of_ble_eq_true rfl⟩ ⟨rfl, rfl⟩ ⟨Nat.le_of_ble_eq_true rfl, Nat.le_of_ble_eq_true rfl⟩ (Nat.le_of_ble_eq_true rfl) (fun r_ w_ hp_ => ?_)
  obtain ⟨rfl, rfl⟩ := hp_
  refine kw_ws (List.append_nil _) ?_
  refine kz_if_eq (b := wLives v p) (tgt := 32) X dX4_isDueForTrial_5 (by decide) (fun c1_ => ?_) (fun c1_ => ?_)
  · skip
    refine kb_iconst (v := (0 : Int32)) X dX4_isDueForTrial_32 (by decide) ?_
    refine ke_z X Z rfl dX4_isDueForTrial_33 ?_
    exact ⟨(by first | rfl | (simp [zI, wDue, c1_]; done) | (simp_all [zI, wDue, c1_]; done)), (by first | rfl | (simp [zI, wDue, c1_]; done) | (simp_all [zI, wDue, c1_]; done))⟩
  · skip
    refine kb_aload_n X 0 dX4_isDueForTrial_8 rfl rfl ?_
    refine kb_iload_n X 1 dX4_isDueForTrial_9 rfl rfl ?_
    refine kc_Vi X (As := [.int (nI (p))]) (rest := []) (wr := []) (ct_X4_hadTrial l g a v hv p (by omega)) dX4_isDueForTrial_10 rfl (kw_pall _) mc_X4_hadTrial kl_X4_84 mi_X4_hadTrial mv_X4_hadTrial kn_X4 0 rfl rfl rfl (na := 1) (by decide +kernel) rfl ⟨Nat.le_of_ble_eq_true rfl, Nat.le_of_ble_eq_true rfl⟩ ⟨rfl, rfl⟩ ⟨Nat.le_of_ble_eq_true rfl, Nat.le_of_ble_eq_true rfl⟩ (Nat.le_of_ble_eq_true rfl) (fun r_ w_ hp_ => ?_)
    obtain ⟨rfl, rfl⟩ := hp_
    refine kw_ws (List.append_nil _) ?_
    refine kz_if_ne (b := Nat.testBit (vH v) p) (tgt := 32) X dX4_isDueForTrial_13 (by decide) (fun c2_ => ?_) (fun c2_ => ?_)
    · skip
      refine kb_iconst (v := (0 : Int32)) X dX4_isDueForTrial_32 (by decide) ?_
      refine ke_z X Z rfl dX4_isDueForTrial_33 ?_
      exact ⟨(by first | rfl | (simp [zI, wDue, c1_, c2_]; done) | (simp_all [zI, wDue, c1_, c2_]; done)), (by first | rfl | (simp [zI, wDue, c1_, c2_]; done) | (simp_all [zI, wDue, c1_, c2_]; done))⟩
    · skip
      refine kb_aload_n X 0 dX4_isDueForTrial_16 rfl rfl ?_
      refine kb_iload_n X 1 dX4_isDueForTrial_17 rfl rfl ?_
      refine kc_Vi X (As := [.int (nI (p))]) (rest := []) (wr := []) (ct_X4_ageOf l g a v p (by omega)) dX4_isDueForTrial_18 rfl (kw_pall _) mc_X4_ageOf kl_X4_87 mi_X4_ageOf mv_X4_ageOf kn_X4 0 rfl rfl rfl (na := 1) (by decide +kernel) rfl ⟨Nat.le_of_ble_eq_true rfl, Nat.le_of_ble_eq_true rfl⟩ ⟨rfl, rfl⟩ ⟨Nat.le_of_ble_eq_true rfl, Nat.le_of_ble_eq_true rfl⟩ (Nat.le_of_ble_eq_true rfl) (fun r_ w_ hp_ => ?_)
      obtain ⟨rfl, rfl⟩ := hp_
      refine kw_ws (List.append_nil _) ?_
      refine kb_aload_n X 0 dX4_isDueForTrial_21 rfl rfl ?_
      refine kb_get (C := RX4) (T := TX4) (N := 11) (ci := 4) X kw_iX4 rfl 0 6 rfl (by decide) kf_X4_31 rfl rfl dX4_isDueForTrial_22 ?_
      refine kb_icmp_lt (tgt := 32) X dX4_isDueForTrial_25 (by decide) (fun c3_ => ?_) (fun c3_ => ?_)
      · skip
        refine kb_iconst (v := (0 : Int32)) X dX4_isDueForTrial_32 (by decide) ?_
        refine ke_z X Z rfl dX4_isDueForTrial_33 ?_
        exact ⟨(by first | rfl | (simp [zI, wDue, c1_, c2_, c3_]; done) | (simp_all [zI, wDue, c1_, c2_, c3_]; done)), (by first | rfl | (simp [zI, wDue, c1_, c2_, c3_]; done) | (simp_all [zI, wDue, c1_, c2_, c3_]; done))⟩
      · skip
        refine kb_iconst (v := (1 : Int32)) X dX4_isDueForTrial_28 (by decide) ?_
        refine kb_goto (tgt := 33) X dX4_isDueForTrial_29 (by decide) ?_
        refine ke_z X Z rfl dX4_isDueForTrial_33 ?_
        exact ⟨(by first | rfl | (simp [zI, wDue, c1_, c2_, c3_]; done) | (simp_all [zI, wDue, c1_, c2_, c3_]; done)), (by first | rfl | (simp [zI, wDue, c1_, c2_, c3_]; done) | (simp_all [zI, wDue, c1_, c2_, c3_]; done))⟩

set_option maxHeartbeats 4000000 in
set_option maxRecDepth 100000 in
theorem ct_X4_canHoldTrial (l : Launch) (g : kw_G) (a : Nat → Nat) (v : VS) (hv : VI v) (p : Nat) (b c : Int32) (hp : p < 6) : kMi l g yX4_canHoldTrial cX4_canHoldTrial 4 .boolean (kw_rm 4 0 0) 0 0 [.ref (a 0), .int (nI (p)), .int (b), .int (c)] (wV g a v) (fun r w => r = zI (wCan v p b c) ∧ w = wV g a v) := by
  refine kMi_of (by decide +kernel) (Nat.le_of_ble_eq_true rfl) (fun x (X : kX l g RX4 cX4_canHoldTrial 4 (kw_rm 4 0 0) x) (Z : kZi .boolean _ 0 0 x) => ?_)
  show kW x 0 0 0 [(0, .ref (a 0)), (1, .int (nI (p))), (2, .int (b)), (3, .int (c))] [] (wV g a v)
  refine kb_aload_n X 0 dX4_canHoldTrial_0 rfl rfl ?_
  refine kb_iload_n X 1 dX4_canHoldTrial_1 rfl rfl ?_
  refine kc_Vi X (As := [.int (nI (p))]) (rest := []) (wr := []) (ct_X4_isDueForTrial l g a v hv p (by omega)) dX4_canHoldTrial_2 rfl (kw_pall _) mc_X4_isDueForTrial kl_X4_91 mi_X4_isDueForTrial mv_X4_isDueForTrial kn_X4 0 rfl rfl rfl (na := 1) (by decide +kernel) rfl ⟨Nat.le_of_ble_eq_true rfl, Nat.le_of_ble_eq_true rfl⟩ ⟨rfl, rfl⟩ ⟨Nat.le_of_ble_eq_true rfl, Nat.le_of_ble_eq_true rfl⟩ (Nat.le_of_ble_eq_true rfl) (fun r_ w_ hp_ => ?_)
  obtain ⟨rfl, rfl⟩ := hp_
  refine kw_ws (List.append_nil _) ?_
  refine kz_if_eq (b := wDue v p) (tgt := 26) X dX4_canHoldTrial_5 (by decide) (fun c1_ => ?_) (fun c1_ => ?_)
  · skip
    refine kb_iconst (v := (0 : Int32)) X dX4_canHoldTrial_26 (by decide) ?_
    refine ke_z X Z rfl dX4_canHoldTrial_27 ?_
    exact ⟨(by first | rfl | (simp [zI, wCan, c1_]; done) | (simp_all [zI, wCan, c1_]; done)), (by first | rfl | (simp [zI, wCan, c1_]; done) | (simp_all [zI, wCan, c1_]; done))⟩
  · skip
    refine kb_aload_n X 0 dX4_canHoldTrial_8 rfl rfl ?_
    refine kb_get (C := RX4) (T := TX4) (N := 11) (ci := 4) X kw_iX4 rfl 0 2 rfl (by decide) kf_X4_18 rfl rfl dX4_canHoldTrial_9 ?_
    refine kb_iload_n X 1 dX4_canHoldTrial_12 rfl rfl ?_
    refine kb_iald (i := p) X 3 rfl (by omega) (by decide) dX4_canHoldTrial_13 ?_
    refine kb_iload_n X 2 dX4_canHoldTrial_14 rfl rfl ?_
    refine kb_iload_n X 3 dX4_canHoldTrial_15 rfl rfl ?_
    refine kc_SNi X (As := [.int (b), .int (c)]) (rest := [.int (vC v p)]) (wr := (wV g a v)) (ct_X5_costOf l g b c ) dX4_canHoldTrial_16 rfl (List.Perm.refl _) mc_X5_costOf (by simp [kw_nest]) ms_X5_costOf kn_X5 (na := 2) (by decide +kernel) rfl ⟨Nat.le_of_ble_eq_true rfl, Nat.le_of_ble_eq_true rfl⟩ ⟨rfl, rfl⟩ ⟨Nat.le_of_ble_eq_true rfl, Nat.le_of_ble_eq_true rfl⟩ (Nat.le_of_ble_eq_true rfl) (fun r_ w_ hp_ => ?_)
    obtain ⟨rfl, rfl⟩ := hp_
    refine kb_icmp_lt (tgt := 26) X dX4_canHoldTrial_19 (by decide) (fun c2_ => ?_) (fun c2_ => ?_)
    · skip
      refine kb_iconst (v := (0 : Int32)) X dX4_canHoldTrial_26 (by decide) ?_
      refine ke_z X Z rfl dX4_canHoldTrial_27 ?_
      exact ⟨(by first | rfl | (simp [zI, wCan, c1_, c2_]; done) | (simp_all [zI, wCan, c1_, c2_]; done)), (by first | rfl | (simp [zI, wCan, c1_, c2_]; done) | (simp_all [zI, wCan, c1_, c2_]; done))⟩
    · skip
      refine kb_iconst (v := (1 : Int32)) X dX4_canHoldTrial_22 (by decide) ?_
      refine kb_goto (tgt := 27) X dX4_canHoldTrial_23 (by decide) ?_
      refine ke_z X Z rfl dX4_canHoldTrial_27 ?_
      exact ⟨(by first | rfl | (simp [zI, wCan, c1_, c2_]; done) | (simp_all [zI, wCan, c1_, c2_]; done)), (by first | rfl | (simp [zI, wCan, c1_, c2_]; done) | (simp_all [zI, wCan, c1_, c2_]; done))⟩

set_option maxHeartbeats 4000000 in
set_option maxRecDepth 100000 in
theorem ct_X4_changeTie (l : Launch) (g : kw_G) (a : Nat → Nat) (v : VS) (p q : Nat) (d : Int32) (hp : p < 6) (hq : q < 6) : kMv l g yX4_changeTie cX4_changeTie 5 (kw_rm 3 0 0) 0 0 [.ref (a 0), .int (nI (p)), .int (nI (q)), .int (d)] (wV g a v) (fun w => w = wV g a (wTie v p q d)) := by
  refine kMv_of (by decide +kernel) (Nat.le_of_ble_eq_true rfl) (fun x (X : kX l g RX4 cX4_changeTie 5 (kw_rm 3 0 0) x) (Z : kZv _ 0 0 x) => ?_)
  show kW x 0 0 0 [(0, .ref (a 0)), (1, .int (nI (p))), (2, .int (nI (q))), (3, .int (d))] [] (wV g a v)
  refine kb_aload_n X 0 dX4_changeTie_0 rfl rfl ?_
  refine kb_iload_n X 1 dX4_changeTie_1 rfl rfl ?_
  refine kb_iload_n X 2 dX4_changeTie_2 rfl rfl ?_
  refine kc_Vi X (As := [.int (nI (p)), .int (nI (q))]) (rest := []) (wr := []) (ct_X4_tieOf l g a v p q (by omega) (by omega)) dX4_changeTie_3 rfl (kw_pall _) mc_X4_tieOf kl_X4_77 mi_X4_tieOf mv_X4_tieOf kn_X4 0 rfl rfl rfl (na := 2) (by decide +kernel) rfl ⟨Nat.le_of_ble_eq_true rfl, Nat.le_of_ble_eq_true rfl⟩ ⟨rfl, rfl⟩ ⟨Nat.le_of_ble_eq_true rfl, Nat.le_of_ble_eq_true rfl⟩ (Nat.le_of_ble_eq_true rfl) (fun r_ w_ hp_ => ?_)
  obtain ⟨rfl, rfl⟩ := hp_
  refine kw_ws (List.append_nil _) ?_
  refine kb_iload_n X 3 dX4_changeTie_6 rfl rfl ?_
  refine kb_iadd X dX4_changeTie_7 ?_
  refine kb_istore X [1, 2, 3, 4, 0] dX4_changeTie_8 (by decide) (lv' := [(0, .ref (a 0)), (1, .int (nI (p))), (2, .int (nI (q))), (3, .int (d)), (4, .int ((vT v (p * 6 + q)) + d))]) rfl ?_
  refine kb_aload_n X 0 dX4_changeTie_10 rfl rfl ?_
  refine kb_get (C := RX4) (T := TX4) (N := 11) (ci := 4) X kw_iX4 rfl 0 3 rfl (by decide) kf_X4_21 rfl rfl dX4_changeTie_11 ?_
  refine kb_aload_n X 0 dX4_changeTie_14 rfl rfl ?_
  refine kb_iload_n X 1 dX4_changeTie_15 rfl rfl ?_
  refine kb_iload_n X 2 dX4_changeTie_16 rfl rfl ?_
  refine kc_Vi X (As := [.int (nI (p)), .int (nI (q))]) (rest := [.ref (a 4)]) (wr := []) (ct_X4_cell l g a v p q ) dX4_changeTie_17 rfl (kw_pall _) mc_X4_cell kl_X4_60 mi_X4_cell mv_X4_cell kn_X4 0 rfl rfl rfl (na := 2) (by decide +kernel) rfl ⟨Nat.le_of_ble_eq_true rfl, Nat.le_of_ble_eq_true rfl⟩ ⟨rfl, rfl⟩ ⟨Nat.le_of_ble_eq_true rfl, Nat.le_of_ble_eq_true rfl⟩ (Nat.le_of_ble_eq_true rfl) (fun r_ w_ hp_ => ?_)
  obtain ⟨rfl, rfl⟩ := hp_
  refine kw_ws (List.append_nil _) ?_
  refine kb_bipush (v := (-4 : Int32)) X dX4_changeTie_20 (by decide) ?_
  refine kb_iconst (v := (5 : Int32)) X dX4_changeTie_22 (by decide) ?_
  refine kb_iload X 4 dX4_changeTie_23 rfl ?_
  refine kc_Si X (As := [.int 5, .int ((vT v (p * 6 + q)) + d)]) (rest := [.int (-4), .int (nI (p * 6 + q)), .ref (a 4)]) (wr := (wV g a v)) (ct_J9_min_7cf53 l g (5 : Int32) ((vT v (p * 6 + q)) + d) ) dX4_changeTie_25 rfl (List.Perm.refl _) mc_J9_min_7cf53 kl_X4_112 ms_J9_min_7cf53 kn_J9 (na := 2) (by decide +kernel) rfl ⟨Nat.le_of_ble_eq_true rfl, Nat.le_of_ble_eq_true rfl⟩ ⟨rfl, rfl⟩ ⟨Nat.le_of_ble_eq_true rfl, Nat.le_of_ble_eq_true rfl⟩ (Nat.le_of_ble_eq_true rfl) (fun r_ w_ hp_ => ?_)
  obtain ⟨rfl, rfl⟩ := hp_
  refine kc_Si X (As := [.int (-4), .int (mn (5 : Int32) ((vT v (p * 6 + q)) + d))]) (rest := [.int (nI (p * 6 + q)), .ref (a 4)]) (wr := (wV g a v)) (ct_J9_max_7cf53 l g (-4 : Int32) (mn (5 : Int32) ((vT v (p * 6 + q)) + d)) ) dX4_changeTie_28 rfl (List.Perm.refl _) mc_J9_max_7cf53 kl_X4_117 ms_J9_max_7cf53 kn_J9 (na := 2) (by decide +kernel) rfl ⟨Nat.le_of_ble_eq_true rfl, Nat.le_of_ble_eq_true rfl⟩ ⟨rfl, rfl⟩ ⟨Nat.le_of_ble_eq_true rfl, Nat.le_of_ble_eq_true rfl⟩ (Nat.le_of_ble_eq_true rfl) (fun r_ w_ hp_ => ?_)
  obtain ⟨rfl, rfl⟩ := hp_
  refine kb_iast (i := p * 6 + q) X 4 rfl (by omega) (by decide) dX4_changeTie_31 (ws' := wV g a (sT v (upd (vT v) (p * 6 + q) (mx (-4 : Int32) (mn (5 : Int32) ((vT v (p * 6 + q)) + d)))))) rfl ?_
  refine ke_v X Z dX4_changeTie_32 ?_
  exact (by first | rfl | (simp [zI, ]; done) | (simp_all [zI, ]; done))

set_option maxHeartbeats 4000000 in
set_option maxRecDepth 100000 in
theorem ct_X4_receive (l : Launch) (g : kw_G) (a : Nat → Nat) (v : VS) (p : Nat) (d : Int32) (hp : p < 6) : kMv l g yX4_receive cX4_receive 3 (kw_rm 2 0 0) 0 0 [.ref (a 0), .int (nI (p)), .int (d)] (wV g a v) (fun w => w = wV g a (wRecv v p d)) := by
  refine kMv_of (by decide +kernel) (Nat.le_of_ble_eq_true rfl) (fun x (X : kX l g RX4 cX4_receive 3 (kw_rm 2 0 0) x) (Z : kZv _ 0 0 x) => ?_)
  show kW x 0 0 0 [(0, .ref (a 0)), (1, .int (nI (p))), (2, .int (d))] [] (wV g a v)
  refine kb_aload_n X 0 dX4_receive_0 rfl rfl ?_
  refine kb_get (C := RX4) (T := TX4) (N := 11) (ci := 4) X kw_iX4 rfl 0 2 rfl (by decide) kf_X4_18 rfl rfl dX4_receive_1 ?_
  refine kb_iload_n X 1 dX4_receive_4 rfl rfl ?_
  refine kb_sipush (v := (999 : Int32)) X dX4_receive_5 (by decide) ?_
  refine kb_aload_n X 0 dX4_receive_8 rfl rfl ?_
  refine kb_get (C := RX4) (T := TX4) (N := 11) (ci := 4) X kw_iX4 rfl 0 2 rfl (by decide) kf_X4_18 rfl rfl dX4_receive_9 ?_
  refine kb_iload_n X 1 dX4_receive_12 rfl rfl ?_
  refine kb_iald (i := p) X 3 rfl (by omega) (by decide) dX4_receive_13 ?_
  refine kb_iload_n X 2 dX4_receive_14 rfl rfl ?_
  refine kb_iadd X dX4_receive_15 ?_
  refine kc_Si X (As := [.int 999, .int ((vC v p) + d)]) (rest := [.int (nI (p)), .ref (a 3)]) (wr := (wV g a v)) (ct_J9_min_7cf53 l g (999 : Int32) ((vC v p) + d) ) dX4_receive_16 rfl (List.Perm.refl _) mc_J9_min_7cf53 kl_X4_112 ms_J9_min_7cf53 kn_J9 (na := 2) (by decide +kernel) rfl ⟨Nat.le_of_ble_eq_true rfl, Nat.le_of_ble_eq_true rfl⟩ ⟨rfl, rfl⟩ ⟨Nat.le_of_ble_eq_true rfl, Nat.le_of_ble_eq_true rfl⟩ (Nat.le_of_ble_eq_true rfl) (fun r_ w_ hp_ => ?_)
  obtain ⟨rfl, rfl⟩ := hp_
  refine kb_iast (i := p) X 3 rfl (by omega) (by decide) dX4_receive_19 (ws' := wV g a (sC v (upd (vC v) p (mn (999 : Int32) ((vC v p) + d))))) rfl ?_
  refine ke_v X Z dX4_receive_20 ?_
  exact (by first | rfl | (simp [zI, ]; done) | (simp_all [zI, ]; done))

set_option maxHeartbeats 4000000 in
set_option maxRecDepth 100000 in
theorem ct_X4_payOff (l : Launch) (g : kw_G) (a : Nat → Nat) (v : VS) (p q : Nat) (d : Int32) (hp : p < 6) (hq : q < 6) : kMi l g yX4_payOff cX4_payOff 5 .int (kw_rm 3 0 0) 0 0 [.ref (a 0), .int (nI (p)), .int (nI (q)), .int (d)] (wV g a v) (fun r w => r = wPaid v p d ∧ w = wV g a (wPay v p q d)) := by
  refine kMi_of (by decide +kernel) (Nat.le_of_ble_eq_true rfl) (fun x (X : kX l g RX4 cX4_payOff 5 (kw_rm 3 0 0) x) (Z : kZi .int _ 0 0 x) => ?_)
  show kW x 0 0 0 [(0, .ref (a 0)), (1, .int (nI (p))), (2, .int (nI (q))), (3, .int (d))] [] (wV g a v)
  refine kb_iload_n X 3 dX4_payOff_0 rfl rfl ?_
  refine kb_aload_n X 0 dX4_payOff_1 rfl rfl ?_
  refine kb_get (C := RX4) (T := TX4) (N := 11) (ci := 4) X kw_iX4 rfl 0 2 rfl (by decide) kf_X4_18 rfl rfl dX4_payOff_2 ?_
  refine kb_iload_n X 1 dX4_payOff_5 rfl rfl ?_
  refine kb_iald (i := p) X 3 rfl (by omega) (by decide) dX4_payOff_6 ?_
  refine kc_Si X (As := [.int (d), .int (vC v p)]) (rest := []) (wr := (wV g a v)) (ct_J9_min_7cf53 l g d (vC v p) ) dX4_payOff_7 rfl (List.Perm.refl _) mc_J9_min_7cf53 kl_X4_112 ms_J9_min_7cf53 kn_J9 (na := 2) (by decide +kernel) rfl ⟨Nat.le_of_ble_eq_true rfl, Nat.le_of_ble_eq_true rfl⟩ ⟨rfl, rfl⟩ ⟨Nat.le_of_ble_eq_true rfl, Nat.le_of_ble_eq_true rfl⟩ (Nat.le_of_ble_eq_true rfl) (fun r_ w_ hp_ => ?_)
  obtain ⟨rfl, rfl⟩ := hp_
  refine kb_istore X [1, 2, 3, 4, 0] dX4_payOff_10 (by decide) (lv' := [(0, .ref (a 0)), (1, .int (nI (p))), (2, .int (nI (q))), (3, .int (d)), (4, .int (mn d (vC v p)))]) rfl ?_
  refine kb_aload_n X 0 dX4_payOff_12 rfl rfl ?_
  refine kb_get (C := RX4) (T := TX4) (N := 11) (ci := 4) X kw_iX4 rfl 0 2 rfl (by decide) kf_X4_18 rfl rfl dX4_payOff_13 ?_
  refine kb_iload_n X 1 dX4_payOff_16 rfl rfl ?_
  refine kb_dup2 X dX4_payOff_17 rfl rfl ?_
  refine kb_iald (i := p) X 3 rfl (by omega) (by decide) dX4_payOff_18 ?_
  refine kb_iload X 4 dX4_payOff_19 rfl ?_
  refine kb_isub X dX4_payOff_21 ?_
  refine kb_iast (i := p) X 3 rfl (by omega) (by decide) dX4_payOff_22 (ws' := wV g a (sC v (upd (vC v) p ((vC v p) - (mn d (vC v p)))))) rfl ?_
  refine kb_aload_n X 0 dX4_payOff_23 rfl rfl ?_
  refine kb_get (C := RX4) (T := TX4) (N := 11) (ci := 4) X kw_iX4 rfl 0 4 rfl (by decide) kf_X4_24 rfl rfl dX4_payOff_24 ?_
  refine kb_aload_n X 0 dX4_payOff_27 rfl rfl ?_
  refine kb_iload_n X 1 dX4_payOff_28 rfl rfl ?_
  refine kb_iload_n X 2 dX4_payOff_29 rfl rfl ?_
  refine kc_Vi X (As := [.int (nI (p)), .int (nI (q))]) (rest := [.ref (a 5)]) (wr := []) (ct_X4_cell l g a (sC v (upd (vC v) p ((vC v p) - (mn d (vC v p))))) p q ) dX4_payOff_30 rfl (kw_pall _) mc_X4_cell kl_X4_60 mi_X4_cell mv_X4_cell kn_X4 0 rfl rfl rfl (na := 2) (by decide +kernel) rfl ⟨Nat.le_of_ble_eq_true rfl, Nat.le_of_ble_eq_true rfl⟩ ⟨rfl, rfl⟩ ⟨Nat.le_of_ble_eq_true rfl, Nat.le_of_ble_eq_true rfl⟩ (Nat.le_of_ble_eq_true rfl) (fun r_ w_ hp_ => ?_)
  obtain ⟨rfl, rfl⟩ := hp_
  refine kw_ws (List.append_nil _) ?_
  refine kb_dup2 X dX4_payOff_33 rfl rfl ?_
  refine kb_iald (i := p * 6 + q) X 5 rfl (by omega) (by decide) dX4_payOff_34 ?_
  refine kb_iload X 4 dX4_payOff_35 rfl ?_
  refine kb_isub X dX4_payOff_37 ?_
  refine kb_iast (i := p * 6 + q) X 5 rfl (by omega) (by decide) dX4_payOff_38 (ws' := wV g a (sD (sC v (upd (vC v) p ((vC v p) - (mn d (vC v p))))) (upd (vD v) (p * 6 + q) ((vD v (p * 6 + q)) - (mn d (vC v p)))))) rfl ?_
  refine kb_aload_n X 0 dX4_payOff_39 rfl rfl ?_
  refine kb_iload_n X 2 dX4_payOff_40 rfl rfl ?_
  refine kb_iload X 4 dX4_payOff_41 rfl ?_
  refine kc_Vv X (As := [.int (nI (q)), .int (mn d (vC v p))]) (rest := []) (wr := []) (ct_X4_receive l g a (sD (sC v (upd (vC v) p ((vC v p) - (mn d (vC v p))))) (upd (vD v) (p * 6 + q) ((vD v (p * 6 + q)) - (mn d (vC v p))))) q (mn d (vC v p)) (by omega)) dX4_payOff_43 rfl (kw_pall _) mc_X4_receive kl_X4_120 mi_X4_receive mv_X4_receive kn_X4 0 rfl rfl rfl (na := 2) (by decide +kernel) rfl ⟨Nat.le_of_ble_eq_true rfl, Nat.le_of_ble_eq_true rfl⟩ ⟨rfl, rfl⟩ ⟨Nat.le_of_ble_eq_true rfl, Nat.le_of_ble_eq_true rfl⟩ (Nat.le_of_ble_eq_true rfl) (fun w_ hp_ => ?_)
  obtain rfl := hp_
  refine kw_ws (List.append_nil _) ?_
  refine kb_iload X 4 dX4_payOff_46 rfl ?_
  refine ke_i X Z dX4_payOff_48 ?_
  exact ⟨(by first | rfl | (simp [zI, ]; done) | (simp_all [zI, ]; done)), (by first | rfl | (simp [zI, ]; done) | (simp_all [zI, ]; done))⟩

set_option maxHeartbeats 4000000 in
set_option maxRecDepth 100000 in
theorem ct_X4_meet (l : Launch) (g : kw_G) (a : Nat → Nat) (v : VS) (p q : Nat) (cm : Bool) (hp : p < 6) (hq : q < 6) : kMv l g yX4_meet cX4_meet 5 (kw_rm 4 0 0) 0 0 [.ref (a 0), .int (nI (p)), .int (nI (q)), .int (zI (cm))] (wV g a v) (fun w => w = wV g a (wMeet v p q cm)) := by
  refine kMv_of (by decide +kernel) (Nat.le_of_ble_eq_true rfl) (fun x (X : kX l g RX4 cX4_meet 5 (kw_rm 4 0 0) x) (Z : kZv _ 0 0 x) => ?_)
  show kW x 0 0 0 [(0, .ref (a 0)), (1, .int (nI (p))), (2, .int (nI (q))), (3, .int (zI (cm)))] [] (wV g a v)
  refine kb_iload_n X 3 dX4_meet_0 rfl rfl ?_
  refine kz_if_eq (b := cm) (tgt := 18) X dX4_meet_1 (by decide) (fun c1_ => ?_) (fun c1_ => ?_)
  · skip
    refine kb_iconst (v := (0 : Int32)) X dX4_meet_18 (by decide) ?_
    refine kb_istore X [1, 2, 3, 4, 0] dX4_meet_19 (by decide) (lv' := [(0, .ref (a 0)), (1, .int (nI (p))), (2, .int (nI (q))), (3, .int (zI (cm))), (4, .int 0)]) rfl ?_
    refine kb_aload_n X 0 dX4_meet_21 rfl rfl ?_
    refine kb_iload_n X 1 dX4_meet_22 rfl rfl ?_
    refine kb_iload_n X 2 dX4_meet_23 rfl rfl ?_
    refine kb_iload X 4 dX4_meet_24 rfl ?_
    refine kb_if_eq (tgt := 33) X dX4_meet_26 (by decide) (fun _ => ?_) (fun q_ => absurd q_ (by decide))
    refine kb_iconst (v := (-1 : Int32)) X dX4_meet_33 (by decide) ?_
    refine kc_Vv X (As := [.int (nI (p)), .int (nI (q)), .int (-1)]) (rest := []) (wr := []) (ct_X4_changeTie l g a v p q (-1 : Int32) (by omega) (by omega)) dX4_meet_34 rfl (kw_pall _) mc_X4_changeTie kl_X4_105 mi_X4_changeTie mv_X4_changeTie kn_X4 0 rfl rfl rfl (na := 3) (by decide +kernel) rfl ⟨Nat.le_of_ble_eq_true rfl, Nat.le_of_ble_eq_true rfl⟩ ⟨rfl, rfl⟩ ⟨Nat.le_of_ble_eq_true rfl, Nat.le_of_ble_eq_true rfl⟩ (Nat.le_of_ble_eq_true rfl) (fun w_ hp_ => ?_)
    obtain rfl := hp_
    refine kw_ws (List.append_nil _) ?_
    refine kb_iload_n X 3 dX4_meet_37 rfl rfl ?_
    refine kz_if_eq (b := cm) (tgt := 56) X dX4_meet_38 (by decide) (fun c3_ => ?_) (fun c3_ => ?_)
    · skip
      refine ke_v X Z dX4_meet_56 ?_
      exact (by first | rfl | (simp [zI, wMeet, c1_, c3_]; done) | (simp_all [zI, wMeet, c1_, c3_]; done))
    · skip
      refine kb_aload_n X 0 dX4_meet_41 rfl rfl ?_
      refine kb_iload_n X 2 dX4_meet_42 rfl rfl ?_
      refine kb_iload_n X 1 dX4_meet_43 rfl rfl ?_
      refine kb_aload_n X 0 dX4_meet_44 rfl rfl ?_
      refine kb_iload_n X 2 dX4_meet_45 rfl rfl ?_
      refine kb_iload_n X 1 dX4_meet_46 rfl rfl ?_
      refine kc_Vi X (As := [.int (nI (q)), .int (nI (p))]) (rest := [.int (nI (p)), .int (nI (q)), .ref (a 0)]) (wr := []) (ct_X4_debtOf l g a (wTie v p q (-1 : Int32)) q p (by omega) (by omega)) dX4_meet_47 rfl (kw_pall _) mc_X4_debtOf kl_X4_74 mi_X4_debtOf mv_X4_debtOf kn_X4 0 rfl rfl rfl (na := 2) (by decide +kernel) rfl ⟨Nat.le_of_ble_eq_true rfl, Nat.le_of_ble_eq_true rfl⟩ ⟨rfl, rfl⟩ ⟨Nat.le_of_ble_eq_true rfl, Nat.le_of_ble_eq_true rfl⟩ (Nat.le_of_ble_eq_true rfl) (fun r_ w_ hp_ => ?_)
      obtain ⟨rfl, rfl⟩ := hp_
      refine kw_ws (List.append_nil _) ?_
      refine kb_iconst (v := (2 : Int32)) X dX4_meet_50 (by decide) ?_
      refine kb_idiv X dX4_meet_51 (by decide) ?_
      refine kc_Vi X (As := [.int (nI (q)), .int (nI (p)), .int ((vD v (q * 6 + p)) / (2 : Int32))]) (rest := []) (wr := []) (ct_X4_payOff l g a (wTie v p q (-1 : Int32)) q p ((vD v (q * 6 + p)) / (2 : Int32)) (by omega) (by omega)) dX4_meet_52 rfl (kw_pall _) mc_X4_payOff kl_X4_109 mi_X4_payOff mv_X4_payOff kn_X4 0 rfl rfl rfl (na := 3) (by decide +kernel) rfl ⟨Nat.le_of_ble_eq_true rfl, Nat.le_of_ble_eq_true rfl⟩ ⟨rfl, rfl⟩ ⟨Nat.le_of_ble_eq_true rfl, Nat.le_of_ble_eq_true rfl⟩ (Nat.le_of_ble_eq_true rfl) (fun r_ w_ hp_ => ?_)
      obtain ⟨rfl, rfl⟩ := hp_
      refine kw_ws (List.append_nil _) ?_
      refine kb_pop X dX4_meet_55 rfl ?_
      refine ke_v X Z dX4_meet_56 ?_
      exact (by first | rfl | (simp [zI, wMeet, c1_, c3_]; done) | (simp_all [zI, wMeet, c1_, c3_]; done))
  · skip
    refine kb_aload_n X 0 dX4_meet_4 rfl rfl ?_
    refine kb_get (C := RX4) (T := TX4) (N := 11) (ci := 4) X kw_iX4 rfl 0 0 rfl (by decide) kf_X4_9 rfl rfl dX4_meet_5 ?_
    refine kb_iload_n X 2 dX4_meet_8 rfl rfl ?_
    refine kb_iald (i := q) X 1 rfl (by omega) (by decide) dX4_meet_9 ?_
    refine kb_iconst (v := (1 : Int32)) X dX4_meet_10 (by decide) ?_
    refine kb_icmp_eq (tgt := 18) X dX4_meet_11 (by decide) (fun c4_ => ?_) (fun c4_ => ?_)
    · skip
      refine kb_iconst (v := (0 : Int32)) X dX4_meet_18 (by decide) ?_
      refine kb_istore X [1, 2, 3, 4, 0] dX4_meet_19 (by decide) (lv' := [(0, .ref (a 0)), (1, .int (nI (p))), (2, .int (nI (q))), (3, .int (zI (cm))), (4, .int 0)]) rfl ?_
      refine kb_aload_n X 0 dX4_meet_21 rfl rfl ?_
      refine kb_iload_n X 1 dX4_meet_22 rfl rfl ?_
      refine kb_iload_n X 2 dX4_meet_23 rfl rfl ?_
      refine kb_iload X 4 dX4_meet_24 rfl ?_
      refine kb_if_eq (tgt := 33) X dX4_meet_26 (by decide) (fun _ => ?_) (fun q_ => absurd q_ (by decide))
      refine kb_iconst (v := (-1 : Int32)) X dX4_meet_33 (by decide) ?_
      refine kc_Vv X (As := [.int (nI (p)), .int (nI (q)), .int (-1)]) (rest := []) (wr := []) (ct_X4_changeTie l g a v p q (-1 : Int32) (by omega) (by omega)) dX4_meet_34 rfl (kw_pall _) mc_X4_changeTie kl_X4_105 mi_X4_changeTie mv_X4_changeTie kn_X4 0 rfl rfl rfl (na := 3) (by decide +kernel) rfl ⟨Nat.le_of_ble_eq_true rfl, Nat.le_of_ble_eq_true rfl⟩ ⟨rfl, rfl⟩ ⟨Nat.le_of_ble_eq_true rfl, Nat.le_of_ble_eq_true rfl⟩ (Nat.le_of_ble_eq_true rfl) (fun w_ hp_ => ?_)
      obtain rfl := hp_
      refine kw_ws (List.append_nil _) ?_
      refine kb_iload_n X 3 dX4_meet_37 rfl rfl ?_
      refine kz_if_eq (b := cm) (tgt := 56) X dX4_meet_38 (by decide) (fun c6_ => ?_) (fun c6_ => ?_)
      · skip
        refine ke_v X Z dX4_meet_56 ?_
        exact (by first | rfl | (simp [zI, wMeet, c1_, c4_, c6_]; done) | (simp_all [zI, wMeet, c1_, c4_, c6_]; done))
      · skip
        refine kb_aload_n X 0 dX4_meet_41 rfl rfl ?_
        refine kb_iload_n X 2 dX4_meet_42 rfl rfl ?_
        refine kb_iload_n X 1 dX4_meet_43 rfl rfl ?_
        refine kb_aload_n X 0 dX4_meet_44 rfl rfl ?_
        refine kb_iload_n X 2 dX4_meet_45 rfl rfl ?_
        refine kb_iload_n X 1 dX4_meet_46 rfl rfl ?_
        refine kc_Vi X (As := [.int (nI (q)), .int (nI (p))]) (rest := [.int (nI (p)), .int (nI (q)), .ref (a 0)]) (wr := []) (ct_X4_debtOf l g a (wTie v p q (-1 : Int32)) q p (by omega) (by omega)) dX4_meet_47 rfl (kw_pall _) mc_X4_debtOf kl_X4_74 mi_X4_debtOf mv_X4_debtOf kn_X4 0 rfl rfl rfl (na := 2) (by decide +kernel) rfl ⟨Nat.le_of_ble_eq_true rfl, Nat.le_of_ble_eq_true rfl⟩ ⟨rfl, rfl⟩ ⟨Nat.le_of_ble_eq_true rfl, Nat.le_of_ble_eq_true rfl⟩ (Nat.le_of_ble_eq_true rfl) (fun r_ w_ hp_ => ?_)
        obtain ⟨rfl, rfl⟩ := hp_
        refine kw_ws (List.append_nil _) ?_
        refine kb_iconst (v := (2 : Int32)) X dX4_meet_50 (by decide) ?_
        refine kb_idiv X dX4_meet_51 (by decide) ?_
        refine kc_Vi X (As := [.int (nI (q)), .int (nI (p)), .int ((vD v (q * 6 + p)) / (2 : Int32))]) (rest := []) (wr := []) (ct_X4_payOff l g a (wTie v p q (-1 : Int32)) q p ((vD v (q * 6 + p)) / (2 : Int32)) (by omega) (by omega)) dX4_meet_52 rfl (kw_pall _) mc_X4_payOff kl_X4_109 mi_X4_payOff mv_X4_payOff kn_X4 0 rfl rfl rfl (na := 3) (by decide +kernel) rfl ⟨Nat.le_of_ble_eq_true rfl, Nat.le_of_ble_eq_true rfl⟩ ⟨rfl, rfl⟩ ⟨Nat.le_of_ble_eq_true rfl, Nat.le_of_ble_eq_true rfl⟩ (Nat.le_of_ble_eq_true rfl) (fun r_ w_ hp_ => ?_)
        obtain ⟨rfl, rfl⟩ := hp_
        refine kw_ws (List.append_nil _) ?_
        refine kb_pop X dX4_meet_55 rfl ?_
        refine ke_v X Z dX4_meet_56 ?_
        exact (by first | rfl | (simp [zI, wMeet, c1_, c4_, c6_]; done) | (simp_all [zI, wMeet, c1_, c4_, c6_]; done))
    · skip
      refine kb_iconst (v := (1 : Int32)) X dX4_meet_14 (by decide) ?_
      refine kb_goto (tgt := 19) X dX4_meet_15 (by decide) ?_
      refine kb_istore X [1, 2, 3, 4, 0] dX4_meet_19 (by decide) (lv' := [(0, .ref (a 0)), (1, .int (nI (p))), (2, .int (nI (q))), (3, .int (zI (cm))), (4, .int 1)]) rfl ?_
      refine kb_aload_n X 0 dX4_meet_21 rfl rfl ?_
      refine kb_iload_n X 1 dX4_meet_22 rfl rfl ?_
      refine kb_iload_n X 2 dX4_meet_23 rfl rfl ?_
      refine kb_iload X 4 dX4_meet_24 rfl ?_
      refine kb_if_eq (tgt := 33) X dX4_meet_26 (by decide) (fun q_ => absurd q_ (by decide)) (fun _ => ?_)
      refine kb_iconst (v := (1 : Int32)) X dX4_meet_29 (by decide) ?_
      refine kb_goto (tgt := 34) X dX4_meet_30 (by decide) ?_
      refine kc_Vv X (As := [.int (nI (p)), .int (nI (q)), .int 1]) (rest := []) (wr := []) (ct_X4_changeTie l g a v p q (1 : Int32) (by omega) (by omega)) dX4_meet_34 rfl (kw_pall _) mc_X4_changeTie kl_X4_105 mi_X4_changeTie mv_X4_changeTie kn_X4 0 rfl rfl rfl (na := 3) (by decide +kernel) rfl ⟨Nat.le_of_ble_eq_true rfl, Nat.le_of_ble_eq_true rfl⟩ ⟨rfl, rfl⟩ ⟨Nat.le_of_ble_eq_true rfl, Nat.le_of_ble_eq_true rfl⟩ (Nat.le_of_ble_eq_true rfl) (fun w_ hp_ => ?_)
      obtain rfl := hp_
      refine kw_ws (List.append_nil _) ?_
      refine kb_iload_n X 3 dX4_meet_37 rfl rfl ?_
      refine kz_if_eq (b := cm) (tgt := 56) X dX4_meet_38 (by decide) (fun c8_ => ?_) (fun c8_ => ?_)
      · skip
        refine ke_v X Z dX4_meet_56 ?_
        exact (by first | rfl | (simp [zI, wMeet, c1_, c4_, c8_]; done) | (simp_all [zI, wMeet, c1_, c4_, c8_]; done))
      · skip
        refine kb_aload_n X 0 dX4_meet_41 rfl rfl ?_
        refine kb_iload_n X 2 dX4_meet_42 rfl rfl ?_
        refine kb_iload_n X 1 dX4_meet_43 rfl rfl ?_
        refine kb_aload_n X 0 dX4_meet_44 rfl rfl ?_
        refine kb_iload_n X 2 dX4_meet_45 rfl rfl ?_
        refine kb_iload_n X 1 dX4_meet_46 rfl rfl ?_
        refine kc_Vi X (As := [.int (nI (q)), .int (nI (p))]) (rest := [.int (nI (p)), .int (nI (q)), .ref (a 0)]) (wr := []) (ct_X4_debtOf l g a (wTie v p q (1 : Int32)) q p (by omega) (by omega)) dX4_meet_47 rfl (kw_pall _) mc_X4_debtOf kl_X4_74 mi_X4_debtOf mv_X4_debtOf kn_X4 0 rfl rfl rfl (na := 2) (by decide +kernel) rfl ⟨Nat.le_of_ble_eq_true rfl, Nat.le_of_ble_eq_true rfl⟩ ⟨rfl, rfl⟩ ⟨Nat.le_of_ble_eq_true rfl, Nat.le_of_ble_eq_true rfl⟩ (Nat.le_of_ble_eq_true rfl) (fun r_ w_ hp_ => ?_)
        obtain ⟨rfl, rfl⟩ := hp_
        refine kw_ws (List.append_nil _) ?_
        refine kb_iconst (v := (2 : Int32)) X dX4_meet_50 (by decide) ?_
        refine kb_idiv X dX4_meet_51 (by decide) ?_
        refine kc_Vi X (As := [.int (nI (q)), .int (nI (p)), .int ((vD v (q * 6 + p)) / (2 : Int32))]) (rest := []) (wr := []) (ct_X4_payOff l g a (wTie v p q (1 : Int32)) q p ((vD v (q * 6 + p)) / (2 : Int32)) (by omega) (by omega)) dX4_meet_52 rfl (kw_pall _) mc_X4_payOff kl_X4_109 mi_X4_payOff mv_X4_payOff kn_X4 0 rfl rfl rfl (na := 3) (by decide +kernel) rfl ⟨Nat.le_of_ble_eq_true rfl, Nat.le_of_ble_eq_true rfl⟩ ⟨rfl, rfl⟩ ⟨Nat.le_of_ble_eq_true rfl, Nat.le_of_ble_eq_true rfl⟩ (Nat.le_of_ble_eq_true rfl) (fun r_ w_ hp_ => ?_)
        obtain ⟨rfl, rfl⟩ := hp_
        refine kw_ws (List.append_nil _) ?_
        refine kb_pop X dX4_meet_55 rfl ?_
        refine ke_v X Z dX4_meet_56 ?_
        exact (by first | rfl | (simp [zI, wMeet, c1_, c4_, c8_]; done) | (simp_all [zI, wMeet, c1_, c4_, c8_]; done))

set_option maxHeartbeats 4000000 in
set_option maxRecDepth 100000 in
theorem ct_X4_canGive (l : Launch) (g : kw_G) (a : Nat → Nat) (v : VS) (hv : VI v) (p q : Nat) (hp : p < 6) (hq : q < 6) : kMi l g yX4_canGive cX4_canGive 3 .boolean (kw_rm 3 0 0) 0 0 [.ref (a 0), .int (nI (p)), .int (nI (q))] (wV g a v) (fun r w => r = zI (wCanGive v p q) ∧ w = wV g a v) := by
  refine kMi_of (by decide +kernel) (Nat.le_of_ble_eq_true rfl) (fun x (X : kX l g RX4 cX4_canGive 3 (kw_rm 3 0 0) x) (Z : kZi .boolean _ 0 0 x) => ?_)
  show kW x 0 0 0 [(0, .ref (a 0)), (1, .int (nI (p))), (2, .int (nI (q)))] [] (wV g a v)
  refine kb_aload_n X 0 dX4_canGive_0 rfl rfl ?_
  refine kb_iload_n X 1 dX4_canGive_1 rfl rfl ?_
  refine kc_Vi X (As := [.int (nI (p))]) (rest := []) (wr := []) (ct_X4_lives l g a v hv p (by omega)) dX4_canGive_2 rfl (kw_pall _) mc_X4_lives kl_X4_71 mi_X4_lives mv_X4_lives kn_X4 0 rfl rfl rfl (na := 1) (by decide +kernel) rfl ⟨Nat.le_of_ble_eq_true rfl, Nat.le_of_ble_eq_true rfl⟩ ⟨rfl, rfl⟩ ⟨Nat.le_of_ble_eq_true rfl, Nat.le_of_ble_eq_true rfl⟩ (Nat.le_of_ble_eq_true rfl) (fun r_ w_ hp_ => ?_)
  obtain ⟨rfl, rfl⟩ := hp_
  refine kw_ws (List.append_nil _) ?_
  refine kz_if_eq (b := wLives v p) (tgt := 40) X dX4_canGive_5 (by decide) (fun c1_ => ?_) (fun c1_ => ?_)
  · skip
    refine kb_iconst (v := (0 : Int32)) X dX4_canGive_40 (by decide) ?_
    refine ke_z X Z rfl dX4_canGive_41 ?_
    exact ⟨(by first | rfl | (simp [zI, wCanGive, c1_]; done) | (simp_all [zI, wCanGive, c1_]; done)), (by first | rfl | (simp [zI, wCanGive, c1_]; done) | (simp_all [zI, wCanGive, c1_]; done))⟩
  · skip
    refine kb_aload_n X 0 dX4_canGive_8 rfl rfl ?_
    refine kb_iload_n X 2 dX4_canGive_9 rfl rfl ?_
    refine kc_Vi X (As := [.int (nI (q))]) (rest := []) (wr := []) (ct_X4_lives l g a v hv q (by omega)) dX4_canGive_10 rfl (kw_pall _) mc_X4_lives kl_X4_71 mi_X4_lives mv_X4_lives kn_X4 0 rfl rfl rfl (na := 1) (by decide +kernel) rfl ⟨Nat.le_of_ble_eq_true rfl, Nat.le_of_ble_eq_true rfl⟩ ⟨rfl, rfl⟩ ⟨Nat.le_of_ble_eq_true rfl, Nat.le_of_ble_eq_true rfl⟩ (Nat.le_of_ble_eq_true rfl) (fun r_ w_ hp_ => ?_)
    obtain ⟨rfl, rfl⟩ := hp_
    refine kw_ws (List.append_nil _) ?_
    refine kz_if_eq (b := wLives v q) (tgt := 40) X dX4_canGive_13 (by decide) (fun c2_ => ?_) (fun c2_ => ?_)
    · skip
      refine kb_iconst (v := (0 : Int32)) X dX4_canGive_40 (by decide) ?_
      refine ke_z X Z rfl dX4_canGive_41 ?_
      exact ⟨(by first | rfl | (simp [zI, wCanGive, c1_, c2_]; done) | (simp_all [zI, wCanGive, c1_, c2_]; done)), (by first | rfl | (simp [zI, wCanGive, c1_, c2_]; done) | (simp_all [zI, wCanGive, c1_, c2_]; done))⟩
    · skip
      refine kb_aload_n X 0 dX4_canGive_16 rfl rfl ?_
      refine kb_get (C := RX4) (T := TX4) (N := 11) (ci := 4) X kw_iX4 rfl 0 2 rfl (by decide) kf_X4_18 rfl rfl dX4_canGive_17 ?_
      refine kb_iload_n X 1 dX4_canGive_20 rfl rfl ?_
      refine kb_iald (i := p) X 3 rfl (by omega) (by decide) dX4_canGive_21 ?_
      refine kb_iconst (v := (2 : Int32)) X dX4_canGive_22 (by decide) ?_
      refine kb_icmp_lt (tgt := 40) X dX4_canGive_23 (by decide) (fun c3_ => ?_) (fun c3_ => ?_)
      · skip
        refine kb_iconst (v := (0 : Int32)) X dX4_canGive_40 (by decide) ?_
        refine ke_z X Z rfl dX4_canGive_41 ?_
        exact ⟨(by first | rfl | (simp [zI, wCanGive, c1_, c2_, c3_]; done) | (simp_all [zI, wCanGive, c1_, c2_, c3_]; done)), (by first | rfl | (simp [zI, wCanGive, c1_, c2_, c3_]; done) | (simp_all [zI, wCanGive, c1_, c2_, c3_]; done))⟩
      · skip
        refine kb_aload_n X 0 dX4_canGive_26 rfl rfl ?_
        refine kb_iload_n X 2 dX4_canGive_27 rfl rfl ?_
        refine kb_iload_n X 1 dX4_canGive_28 rfl rfl ?_
        refine kc_Vi X (As := [.int (nI (q)), .int (nI (p))]) (rest := []) (wr := []) (ct_X4_tieOf l g a v q p (by omega) (by omega)) dX4_canGive_29 rfl (kw_pall _) mc_X4_tieOf kl_X4_77 mi_X4_tieOf mv_X4_tieOf kn_X4 0 rfl rfl rfl (na := 2) (by decide +kernel) rfl ⟨Nat.le_of_ble_eq_true rfl, Nat.le_of_ble_eq_true rfl⟩ ⟨rfl, rfl⟩ ⟨Nat.le_of_ble_eq_true rfl, Nat.le_of_ble_eq_true rfl⟩ (Nat.le_of_ble_eq_true rfl) (fun r_ w_ hp_ => ?_)
        obtain ⟨rfl, rfl⟩ := hp_
        refine kw_ws (List.append_nil _) ?_
        refine kb_iconst (v := (5 : Int32)) X dX4_canGive_32 (by decide) ?_
        refine kb_icmp_ge (tgt := 40) X dX4_canGive_33 (by decide) (fun c4_ => ?_) (fun c4_ => ?_)
        · skip
          refine kb_iconst (v := (0 : Int32)) X dX4_canGive_40 (by decide) ?_
          refine ke_z X Z rfl dX4_canGive_41 ?_
          exact ⟨(by first | rfl | (simp [zI, wCanGive, c1_, c2_, c3_, c4_]; done) | (simp_all [zI, wCanGive, c1_, c2_, c3_, c4_]; done)), (by first | rfl | (simp [zI, wCanGive, c1_, c2_, c3_, c4_]; done) | (simp_all [zI, wCanGive, c1_, c2_, c3_, c4_]; done))⟩
        · skip
          refine kb_iconst (v := (1 : Int32)) X dX4_canGive_36 (by decide) ?_
          refine kb_goto (tgt := 41) X dX4_canGive_37 (by decide) ?_
          refine ke_z X Z rfl dX4_canGive_41 ?_
          exact ⟨(by first | rfl | (simp [zI, wCanGive, c1_, c2_, c3_, c4_]; done) | (simp_all [zI, wCanGive, c1_, c2_, c3_, c4_]; done)), (by first | rfl | (simp [zI, wCanGive, c1_, c2_, c3_, c4_]; done) | (simp_all [zI, wCanGive, c1_, c2_, c3_, c4_]; done))⟩

set_option maxHeartbeats 4000000 in
set_option maxRecDepth 100000 in
theorem ct_X4_give (l : Launch) (g : kw_G) (a : Nat → Nat) (v : VS) (p q : Nat) (hp : p < 6) (hq : q < 6) : kMv l g yX4_give cX4_give 3 (kw_rm 4 0 0) 0 0 [.ref (a 0), .int (nI (p)), .int (nI (q))] (wV g a v) (fun w => w = wV g a (wGive v p q)) := by
  refine kMv_of (by decide +kernel) (Nat.le_of_ble_eq_true rfl) (fun x (X : kX l g RX4 cX4_give 3 (kw_rm 4 0 0) x) (Z : kZv _ 0 0 x) => ?_)
  show kW x 0 0 0 [(0, .ref (a 0)), (1, .int (nI (p))), (2, .int (nI (q)))] [] (wV g a v)
  refine kb_aload_n X 0 dX4_give_0 rfl rfl ?_
  refine kb_get (C := RX4) (T := TX4) (N := 11) (ci := 4) X kw_iX4 rfl 0 2 rfl (by decide) kf_X4_18 rfl rfl dX4_give_1 ?_
  refine kb_iload_n X 1 dX4_give_4 rfl rfl ?_
  refine kb_dup2 X dX4_give_5 rfl rfl ?_
  refine kb_iald (i := p) X 3 rfl (by omega) (by decide) dX4_give_6 ?_
  refine kb_iconst (v := (2 : Int32)) X dX4_give_7 (by decide) ?_
  refine kb_isub X dX4_give_8 ?_
  refine kb_iast (i := p) X 3 rfl (by omega) (by decide) dX4_give_9 (ws' := wV g a (sC v (upd (vC v) p ((vC v p) - (2 : Int32))))) rfl ?_
  refine kb_aload_n X 0 dX4_give_10 rfl rfl ?_
  refine kb_iload_n X 2 dX4_give_11 rfl rfl ?_
  refine kb_iload_n X 1 dX4_give_12 rfl rfl ?_
  refine kb_iconst (v := (1 : Int32)) X dX4_give_13 (by decide) ?_
  refine kc_Vv X (As := [.int (nI (q)), .int (nI (p)), .int 1]) (rest := []) (wr := []) (ct_X4_changeTie l g a (sC v (upd (vC v) p ((vC v p) - (2 : Int32)))) q p (1 : Int32) (by omega) (by omega)) dX4_give_14 rfl (kw_pall _) mc_X4_changeTie kl_X4_105 mi_X4_changeTie mv_X4_changeTie kn_X4 0 rfl rfl rfl (na := 3) (by decide +kernel) rfl ⟨Nat.le_of_ble_eq_true rfl, Nat.le_of_ble_eq_true rfl⟩ ⟨rfl, rfl⟩ ⟨Nat.le_of_ble_eq_true rfl, Nat.le_of_ble_eq_true rfl⟩ (Nat.le_of_ble_eq_true rfl) (fun w_ hp_ => ?_)
  obtain rfl := hp_
  refine kw_ws (List.append_nil _) ?_
  refine ke_v X Z dX4_give_17 ?_
  exact (by first | rfl | (simp [zI, ]; done) | (simp_all [zI, ]; done))

set_option maxHeartbeats 4000000 in
set_option maxRecDepth 100000 in
theorem ct_X4_letDaysGoBy (l : Launch) (g : kw_G) (a : Nat → Nat) (v : VS) (d : Int32) : kMv l g yX4_letDaysGoBy cX4_letDaysGoBy 2 (kw_rm 1 0 0) 0 0 [.ref (a 0), .int (d)] (wV g a v) (fun w => w = wV g a (wDays v d)) := by
  refine kMv_of (by decide +kernel) (Nat.le_of_ble_eq_true rfl) (fun x (X : kX l g RX4 cX4_letDaysGoBy 2 (kw_rm 1 0 0) x) (Z : kZv _ 0 0 x) => ?_)
  show kW x 0 0 0 [(0, .ref (a 0)), (1, .int (d))] [] (wV g a v)
  refine kb_aload_n X 0 dX4_letDaysGoBy_0 rfl rfl ?_
  refine kb_dup X dX4_letDaysGoBy_1 rfl ?_
  refine kb_get (C := RX4) (T := TX4) (N := 11) (ci := 4) X kw_iX4 rfl 0 9 rfl (by decide) kf_X4_40 rfl rfl dX4_letDaysGoBy_2 ?_
  refine kb_iload_n X 1 dX4_letDaysGoBy_5 rfl rfl ?_
  refine kb_iadd X dX4_letDaysGoBy_6 ?_
  refine kb_put X (C := RX4) (T := TX4) (N := 11) (ci := 4) (ty := .int) kw_iX4 tyX4 tyX4_ok nmX4 rfl 0 9 rfl (by decide) kf_X4_40 rfl rfl (by decide +kernel) rfl rfl (Nat.le_of_ble_eq_true rfl) dX4_letDaysGoBy_7 (ws' := wV g a (sY v ((vY v) + d))) rfl ?_
  refine kb_aload_n X 0 dX4_letDaysGoBy_10 rfl rfl ?_
  refine kb_iconst (v := (0 : Int32)) X dX4_letDaysGoBy_11 (by decide) ?_
  refine kb_put X (C := RX4) (T := TX4) (N := 11) (ci := 4) (ty := .int) kw_iX4 tyX4 tyX4_ok nmX4 rfl 0 10 rfl (by decide) kf_X4_43 rfl rfl (by decide +kernel) rfl rfl (Nat.le_of_ble_eq_true rfl) dX4_letDaysGoBy_12 (ws' := wV g a (sZ (sY v ((vY v) + d)) (0 : Int32))) rfl ?_
  refine ke_v X Z dX4_letDaysGoBy_15 ?_
  exact (by first | rfl | (simp [zI, ]; done) | (simp_all [zI, ]; done))

set_option maxHeartbeats 4000000 in
set_option maxRecDepth 100000 in
theorem ct_X4_gainOf (l : Launch) (g : kw_G) (a : Nat → Nat) (v : VS) (p q : Nat) (hp : p < 6) (hq : q < 6) : kMi l g yX4_gainOf cX4_gainOf 3 .int (kw_rm 3 0 0) 0 0 [.ref (a 0), .int (nI (p)), .int (nI (q))] (wV g a v) (fun r w => r = wGain v p q ∧ w = wV g a v) := by
  refine kMi_of (by decide +kernel) (Nat.le_of_ble_eq_true rfl) (fun x (X : kX l g RX4 cX4_gainOf 3 (kw_rm 3 0 0) x) (Z : kZi .int _ 0 0 x) => ?_)
  show kW x 0 0 0 [(0, .ref (a 0)), (1, .int (nI (p))), (2, .int (nI (q)))] [] (wV g a v)
  refine kb_iconst (v := (3 : Int32)) X dX4_gainOf_0 (by decide) ?_
  refine kb_aload_n X 0 dX4_gainOf_1 rfl rfl ?_
  refine kb_iload_n X 2 dX4_gainOf_2 rfl rfl ?_
  refine kb_iload_n X 1 dX4_gainOf_3 rfl rfl ?_
  refine kc_Vi X (As := [.int (nI (q)), .int (nI (p))]) (rest := [.int 3]) (wr := []) (ct_X4_tieOf l g a v q p (by omega) (by omega)) dX4_gainOf_4 rfl (kw_pall _) mc_X4_tieOf kl_X4_77 mi_X4_tieOf mv_X4_tieOf kn_X4 0 rfl rfl rfl (na := 2) (by decide +kernel) rfl ⟨Nat.le_of_ble_eq_true rfl, Nat.le_of_ble_eq_true rfl⟩ ⟨rfl, rfl⟩ ⟨Nat.le_of_ble_eq_true rfl, Nat.le_of_ble_eq_true rfl⟩ (Nat.le_of_ble_eq_true rfl) (fun r_ w_ hp_ => ?_)
  obtain ⟨rfl, rfl⟩ := hp_
  refine kw_ws (List.append_nil _) ?_
  refine kb_imul X dX4_gainOf_7 ?_
  refine kb_aload_n X 0 dX4_gainOf_8 rfl rfl ?_
  refine kb_get (C := RX4) (T := TX4) (N := 11) (ci := 4) X kw_iX4 rfl 0 2 rfl (by decide) kf_X4_18 rfl rfl dX4_gainOf_9 ?_
  refine kb_iload_n X 1 dX4_gainOf_12 rfl rfl ?_
  refine kb_iald (i := p) X 3 rfl (by omega) (by decide) dX4_gainOf_13 ?_
  refine kb_iadd X dX4_gainOf_14 ?_
  refine ke_i X Z dX4_gainOf_15 ?_
  exact ⟨(by first | rfl | (simp [zI, ]; done) | (simp_all [zI, ]; done)), (by first | rfl | (simp [zI, ]; done) | (simp_all [zI, ]; done))⟩

set_option maxHeartbeats 4000000 in
set_option maxRecDepth 100000 in
theorem ct_X4_heirOf (l : Launch) (g : kw_G) (a : Nat → Nat) (v : VS) (hv : VI v) (p : Nat) (hp : p < 6) : kMi l g yX4_heirOf cX4_heirOf 5 .int (kw_rm 3 0 0) 0 0 [.ref (a 0), .int (nI (p))] (wV g a v) (fun r w => r = wHeir v p ∧ w = wV g a v) := by
  refine kMi_of (by decide +kernel) (Nat.le_of_ble_eq_true rfl) (fun x (X : kX l g RX4 cX4_heirOf 5 (kw_rm 3 0 0) x) (Z : kZi .int _ 0 0 x) => ?_)
  show kW x 0 0 0 [(0, .ref (a 0)), (1, .int (nI (p)))] [] (wV g a v)
  have h6 := hv.1
  refine kb_bipush (v := (-4 : Int32)) X dX4_heirOf_0 (by decide) ?_
  refine kb_istore_n X [1, 2, 0] dX4_heirOf_2 rfl (by decide) (lv' := [(0, .ref (a 0)), (1, .int (nI (p))), (2, .int (-4))]) rfl ?_
  refine kb_bipush (v := (-5 : Int32)) X dX4_heirOf_3 (by decide) ?_
  refine kb_istore_n X [1, 2, 3, 0] dX4_heirOf_5 rfl (by decide) (lv' := [(0, .ref (a 0)), (1, .int (nI (p))), (2, .int (-4)), (3, .int (-5))]) rfl ?_
  refine kb_iconst (v := (0 : Int32)) X dX4_heirOf_6 (by decide) ?_
  refine kb_istore X [1, 2, 3, 4, 0] dX4_heirOf_7 (by decide) (lv' := [(0, .ref (a 0)), (1, .int (nI (p))), (2, .int (-4)), (3, .int (-5)), (4, .int 0)]) rfl ?_
  have L9 : ∀ (K_ i : Nat), i + K_ = vN v → kW x 0 0 9 [(0, .ref (a 0)), (1, .int (nI (p))), (2, .int ((wHr v p i).2)), (3, .int ((wHr v p i).1)), (4, .int (nI (i)))] [] (wV g a v) := by
    intro K_
    induction K_ with
    | zero =>
      intro i hi
      refine kb_iload X 4 dX4_heirOf_9 rfl ?_
      refine kb_aload_n X 0 dX4_heirOf_11 rfl rfl ?_
      refine kb_get (C := RX4) (T := TX4) (N := 11) (ci := 4) X kw_iX4 rfl 0 5 rfl (by decide) kf_X4_27 rfl rfl dX4_heirOf_12 ?_
      refine kn_icmp_ge (a := i) (b := vN v) (tgt := 61) X (by omega) (by omega) dX4_heirOf_15 (by decide) (fun c1_ => ?_) (fun c1_ => ?_)
      · skip
        refine kb_iload_n X 2 dX4_heirOf_61 rfl rfl ?_
        refine ke_i X Z dX4_heirOf_62 ?_
        exact ⟨by rw [wHeir, show i = vN v by omega], rfl⟩
      · skip
        omega
    | succ K_ ih =>
      intro i hi
      refine kb_iload X 4 dX4_heirOf_9 rfl ?_
      refine kb_aload_n X 0 dX4_heirOf_11 rfl rfl ?_
      refine kb_get (C := RX4) (T := TX4) (N := 11) (ci := 4) X kw_iX4 rfl 0 5 rfl (by decide) kf_X4_27 rfl rfl dX4_heirOf_12 ?_
      refine kn_icmp_ge (a := i) (b := vN v) (tgt := 61) X (by omega) (by omega) dX4_heirOf_15 (by decide) (fun c2_ => ?_) (fun c2_ => ?_)
      · skip
        omega
      · skip
        refine kb_iload X 4 dX4_heirOf_18 rfl ?_
        refine kb_iload_n X 1 dX4_heirOf_20 rfl rfl ?_
        refine kn_icmp_eq (a := i) (b := p) (tgt := 55) X (by omega) (by omega) dX4_heirOf_21 (by decide) (fun c3_ => ?_) (fun c3_ => ?_)
        · skip
          refine kb_iinc X 4 [1, 2, 3, 4, 0] (v' := nI (i + 1)) dX4_heirOf_55 rfl (nI_add _ _) (by decide) (lv' := [(0, .ref (a 0)), (1, .int (nI (p))), (2, .int ((wHr v p i).2)), (3, .int ((wHr v p i).1)), (4, .int (nI (i + 1)))]) rfl ?_
          refine kb_goto (tgt := 9) X dX4_heirOf_58 (by decide) ?_
          exact kw_to (ih (i + 1) (by omega)) (by simp [wHr, c2_, c3_]) rfl rfl
        · skip
          refine kb_aload_n X 0 dX4_heirOf_24 rfl rfl ?_
          refine kb_iload X 4 dX4_heirOf_25 rfl ?_
          refine kc_Vi X (As := [.int (nI (i))]) (rest := []) (wr := []) (ct_X4_lives l g a v hv i (by omega)) dX4_heirOf_27 rfl (kw_pall _) mc_X4_lives kl_X4_71 mi_X4_lives mv_X4_lives kn_X4 0 rfl rfl rfl (na := 1) (by decide +kernel) rfl ⟨Nat.le_of_ble_eq_true rfl, Nat.le_of_ble_eq_true rfl⟩ ⟨rfl, rfl⟩ ⟨Nat.le_of_ble_eq_true rfl, Nat.le_of_ble_eq_true rfl⟩ (Nat.le_of_ble_eq_true rfl) (fun r_ w_ hp_ => ?_)
          obtain ⟨rfl, rfl⟩ := hp_
          refine kw_ws (List.append_nil _) ?_
          refine kz_if_eq (b := wLives v i) (tgt := 55) X dX4_heirOf_30 (by decide) (fun c4_ => ?_) (fun c4_ => ?_)
          · skip
            refine kb_iinc X 4 [1, 2, 3, 4, 0] (v' := nI (i + 1)) dX4_heirOf_55 rfl (nI_add _ _) (by decide) (lv' := [(0, .ref (a 0)), (1, .int (nI (p))), (2, .int ((wHr v p i).2)), (3, .int ((wHr v p i).1)), (4, .int (nI (i + 1)))]) rfl ?_
            refine kb_goto (tgt := 9) X dX4_heirOf_58 (by decide) ?_
            exact kw_to (ih (i + 1) (by omega)) (by simp [wHr, c2_, c3_, c4_]) rfl rfl
          · skip
            refine kb_aload_n X 0 dX4_heirOf_33 rfl rfl ?_
            refine kb_iload_n X 1 dX4_heirOf_34 rfl rfl ?_
            refine kb_iload X 4 dX4_heirOf_35 rfl ?_
            refine kc_Vi X (As := [.int (nI (p)), .int (nI (i))]) (rest := []) (wr := []) (ct_X4_tieOf l g a v p i (by omega) (by omega)) dX4_heirOf_37 rfl (kw_pall _) mc_X4_tieOf kl_X4_77 mi_X4_tieOf mv_X4_tieOf kn_X4 0 rfl rfl rfl (na := 2) (by decide +kernel) rfl ⟨Nat.le_of_ble_eq_true rfl, Nat.le_of_ble_eq_true rfl⟩ ⟨rfl, rfl⟩ ⟨Nat.le_of_ble_eq_true rfl, Nat.le_of_ble_eq_true rfl⟩ (Nat.le_of_ble_eq_true rfl) (fun r_ w_ hp_ => ?_)
            obtain ⟨rfl, rfl⟩ := hp_
            refine kw_ws (List.append_nil _) ?_
            refine kb_iload_n X 3 dX4_heirOf_40 rfl rfl ?_
            refine kb_icmp_le (tgt := 55) X dX4_heirOf_41 (by decide) (fun c5_ => ?_) (fun c5_ => ?_)
            · skip
              refine kb_iinc X 4 [1, 2, 3, 4, 0] (v' := nI (i + 1)) dX4_heirOf_55 rfl (nI_add _ _) (by decide) (lv' := [(0, .ref (a 0)), (1, .int (nI (p))), (2, .int ((wHr v p i).2)), (3, .int ((wHr v p i).1)), (4, .int (nI (i + 1)))]) rfl ?_
              refine kb_goto (tgt := 9) X dX4_heirOf_58 (by decide) ?_
              exact kw_to (ih (i + 1) (by omega)) (by simp [wHr, c2_, c3_, c4_, c5_]) rfl rfl
            · skip
              refine kb_aload_n X 0 dX4_heirOf_44 rfl rfl ?_
              refine kb_iload_n X 1 dX4_heirOf_45 rfl rfl ?_
              refine kb_iload X 4 dX4_heirOf_46 rfl ?_
              refine kc_Vi X (As := [.int (nI (p)), .int (nI (i))]) (rest := []) (wr := []) (ct_X4_tieOf l g a v p i (by omega) (by omega)) dX4_heirOf_48 rfl (kw_pall _) mc_X4_tieOf kl_X4_77 mi_X4_tieOf mv_X4_tieOf kn_X4 0 rfl rfl rfl (na := 2) (by decide +kernel) rfl ⟨Nat.le_of_ble_eq_true rfl, Nat.le_of_ble_eq_true rfl⟩ ⟨rfl, rfl⟩ ⟨Nat.le_of_ble_eq_true rfl, Nat.le_of_ble_eq_true rfl⟩ (Nat.le_of_ble_eq_true rfl) (fun r_ w_ hp_ => ?_)
              obtain ⟨rfl, rfl⟩ := hp_
              refine kw_ws (List.append_nil _) ?_
              refine kb_istore_n X [1, 2, 3, 0, 4] dX4_heirOf_51 rfl (by decide) (lv' := [(0, .ref (a 0)), (1, .int (nI (p))), (2, .int ((wHr v p i).2)), (3, .int (vT v (p * 6 + i))), (4, .int (nI (i)))]) rfl ?_
              refine kb_iload X 4 dX4_heirOf_52 rfl ?_
              refine kb_istore_n X [1, 2, 0, 3, 4] dX4_heirOf_54 rfl (by decide) (lv' := [(0, .ref (a 0)), (1, .int (nI (p))), (2, .int (nI (i))), (3, .int (vT v (p * 6 + i))), (4, .int (nI (i)))]) rfl ?_
              refine kb_iinc X 4 [1, 2, 3, 4, 0] (v' := nI (i + 1)) dX4_heirOf_55 rfl (nI_add _ _) (by decide) (lv' := [(0, .ref (a 0)), (1, .int (nI (p))), (2, .int (nI (i))), (3, .int (vT v (p * 6 + i))), (4, .int (nI (i + 1)))]) rfl ?_
              refine kb_goto (tgt := 9) X dX4_heirOf_58 (by decide) ?_
              exact kw_to (ih (i + 1) (by omega)) (by simp [wHr, c2_, c3_, c4_, c5_]) rfl rfl
  exact kw_to (L9 (vN v) 0 (by omega)) rfl rfl rfl
end
